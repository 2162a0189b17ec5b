theorem dX0_init_0 : decode cX0_init 0 = .ok (.aload_n 0, 1) := by decide +kernel
theorem dX0_init_1 : decode cX0_init 1 = .ok (.invokespecial 3, 3) := by decide +kernel
theorem dX0_init_4 : decode cX0_init 4 = .ok (.aload_n 0, 1) := by decide +kernel
theorem dX0_init_5 : decode cX0_init 5 = .ok (.iconst 4, 1) := by decide +kernel
theorem dX0_init_6 : decode cX0_init 6 = .ok (.anewarray 9, 3) := by decide +kernel
theorem dX0_init_9 : decode cX0_init 9 = .ok (.putfield 11, 3) := by decide +kernel
theorem dX0_init_12 : decode cX0_init 12 = .ok (.iconst 0, 1) := by decide +kernel
theorem dX0_init_13 : decode cX0_init 13 = .ok (.istore_n 1, 1) := by decide +kernel
theorem dX0_init_14 : decode cX0_init 14 = .ok (.iload_n 1, 1) := by decide +kernel
theorem dX0_init_15 : decode cX0_init 15 = .ok (.iconst 4, 1) := by decide +kernel
theorem dX0_init_16 : decode cX0_init 16 = .ok (.if_icmp .ge 22, 3) := by decide +kernel
theorem dX0_init_19 : decode cX0_init 19 = .ok (.aload_n 0, 1) := by decide +kernel
theorem dX0_init_20 : decode cX0_init 20 = .ok (.getfield 11, 3) := by decide +kernel
theorem dX0_init_23 : decode cX0_init 23 = .ok (.iload_n 1, 1) := by decide +kernel
theorem dX0_init_24 : decode cX0_init 24 = .ok (.new 9, 3) := by decide +kernel
theorem dX0_init_27 : decode cX0_init 27 = .ok (.dup, 1) := by decide +kernel
theorem dX0_init_28 : decode cX0_init 28 = .ok (.invokespecial 17, 3) := by decide +kernel
theorem dX0_init_31 : decode cX0_init 31 = .ok (.aastore, 1) := by decide +kernel
theorem dX0_init_32 : decode cX0_init 32 = .ok (.iinc 1 1, 3) := by decide +kernel
theorem dX0_init_35 : decode cX0_init 35 = .ok (.goto (-21), 3) := by decide +kernel
theorem dX0_init_38 : decode cX0_init 38 = .ok (.return_, 1) := by decide +kernel
theorem dX0_keep_0 : decode cX0_keep 0 = .ok (.aload_n 0, 1) := by decide +kernel
theorem dX0_keep_1 : decode cX0_keep 1 = .ok (.aload_n 0, 1) := by decide +kernel
theorem dX0_keep_2 : decode cX0_keep 2 = .ok (.getfield 18, 3) := by decide +kernel
theorem dX0_keep_5 : decode cX0_keep 5 = .ok (.iconst 0, 1) := by decide +kernel
theorem dX0_keep_6 : decode cX0_keep 6 = .ok (.iconst 2, 1) := by decide +kernel
theorem dX0_keep_7 : decode cX0_keep 7 = .ok (.invokestatic 22, 3) := by decide +kernel
theorem dX0_keep_10 : decode cX0_keep 10 = .ok (.ifCond .eq 12, 3) := by decide +kernel
theorem dX0_keep_13 : decode cX0_keep 13 = .ok (.aload_n 0, 1) := by decide +kernel
theorem dX0_keep_14 : decode cX0_keep 14 = .ok (.getfield 18, 3) := by decide +kernel
theorem dX0_keep_17 : decode cX0_keep 17 = .ok (.iconst 1, 1) := by decide +kernel
theorem dX0_keep_18 : decode cX0_keep 18 = .ok (.iadd, 1) := by decide +kernel
theorem dX0_keep_19 : decode cX0_keep 19 = .ok (.goto 4, 3) := by decide +kernel
theorem dX0_keep_22 : decode cX0_keep 22 = .ok (.iconst 0, 1) := by decide +kernel
theorem dX0_keep_23 : decode cX0_keep 23 = .ok (.putfield 18, 3) := by decide +kernel
theorem dX0_keep_26 : decode cX0_keep 26 = .ok (.aload_n 0, 1) := by decide +kernel
theorem dX0_keep_27 : decode cX0_keep 27 = .ok (.getfield 11, 3) := by decide +kernel
theorem dX0_keep_30 : decode cX0_keep 30 = .ok (.aload_n 0, 1) := by decide +kernel
theorem dX0_keep_31 : decode cX0_keep 31 = .ok (.getfield 18, 3) := by decide +kernel
theorem dX0_keep_34 : decode cX0_keep 34 = .ok (.aaload, 1) := by decide +kernel
theorem dX0_keep_35 : decode cX0_keep 35 = .ok (.aload_n 1, 1) := by decide +kernel
theorem dX0_keep_36 : decode cX0_keep 36 = .ok (.invokevirtual 26, 3) := by decide +kernel
theorem dX0_keep_39 : decode cX0_keep 39 = .ok (.aload_n 0, 1) := by decide +kernel
theorem dX0_keep_40 : decode cX0_keep 40 = .ok (.aload_n 0, 1) := by decide +kernel
theorem dX0_keep_41 : decode cX0_keep 41 = .ok (.getfield 30, 3) := by decide +kernel
theorem dX0_keep_44 : decode cX0_keep 44 = .ok (.iconst 1, 1) := by decide +kernel
theorem dX0_keep_45 : decode cX0_keep 45 = .ok (.iadd, 1) := by decide +kernel
theorem dX0_keep_46 : decode cX0_keep 46 = .ok (.iconst 4, 1) := by decide +kernel
theorem dX0_keep_47 : decode cX0_keep 47 = .ok (.invokestatic 33, 3) := by decide +kernel
theorem dX0_keep_50 : decode cX0_keep 50 = .ok (.putfield 30, 3) := by decide +kernel
theorem dX0_keep_53 : decode cX0_keep 53 = .ok (.return_, 1) := by decide +kernel
theorem dX1_init_0 : decode cX1_init 0 = .ok (.aload_n 0, 1) := by decide +kernel
theorem dX1_init_1 : decode cX1_init 1 = .ok (.invokespecial 3, 3) := by decide +kernel
theorem dX1_init_4 : decode cX1_init 4 = .ok (.return_, 1) := by decide +kernel
theorem dX1_copyFrom_0 : decode cX1_copyFrom 0 = .ok (.aload_n 0, 1) := by decide +kernel
theorem dX1_copyFrom_1 : decode cX1_copyFrom 1 = .ok (.aload_n 1, 1) := by decide +kernel
theorem dX1_copyFrom_2 : decode cX1_copyFrom 2 = .ok (.getfield 9, 3) := by decide +kernel
theorem dX1_copyFrom_5 : decode cX1_copyFrom 5 = .ok (.putfield 9, 3) := by decide +kernel
theorem dX1_copyFrom_8 : decode cX1_copyFrom 8 = .ok (.aload_n 0, 1) := by decide +kernel
theorem dX1_copyFrom_9 : decode cX1_copyFrom 9 = .ok (.aload_n 1, 1) := by decide +kernel
theorem dX1_copyFrom_10 : decode cX1_copyFrom 10 = .ok (.getfield 15, 3) := by decide +kernel
theorem dX1_copyFrom_13 : decode cX1_copyFrom 13 = .ok (.putfield 15, 3) := by decide +kernel
theorem dX1_copyFrom_16 : decode cX1_copyFrom 16 = .ok (.aload_n 0, 1) := by decide +kernel
theorem dX1_copyFrom_17 : decode cX1_copyFrom 17 = .ok (.aload_n 1, 1) := by decide +kernel
theorem dX1_copyFrom_18 : decode cX1_copyFrom 18 = .ok (.getfield 18, 3) := by decide +kernel
theorem dX1_copyFrom_21 : decode cX1_copyFrom 21 = .ok (.putfield 18, 3) := by decide +kernel
theorem dX1_copyFrom_24 : decode cX1_copyFrom 24 = .ok (.aload_n 0, 1) := by decide +kernel
theorem dX1_copyFrom_25 : decode cX1_copyFrom 25 = .ok (.aload_n 1, 1) := by decide +kernel
theorem dX1_copyFrom_26 : decode cX1_copyFrom 26 = .ok (.getfield 21, 3) := by decide +kernel
theorem dX1_copyFrom_29 : decode cX1_copyFrom 29 = .ok (.putfield 21, 3) := by decide +kernel
theorem dX1_copyFrom_32 : decode cX1_copyFrom 32 = .ok (.aload_n 0, 1) := by decide +kernel
theorem dX1_copyFrom_33 : decode cX1_copyFrom 33 = .ok (.aload_n 1, 1) := by decide +kernel
theorem dX1_copyFrom_34 : decode cX1_copyFrom 34 = .ok (.getfield 24, 3) := by decide +kernel
theorem dX1_copyFrom_37 : decode cX1_copyFrom 37 = .ok (.putfield 24, 3) := by decide +kernel
theorem dX1_copyFrom_40 : decode cX1_copyFrom 40 = .ok (.aload_n 0, 1) := by decide +kernel
theorem dX1_copyFrom_41 : decode cX1_copyFrom 41 = .ok (.aload_n 1, 1) := by decide +kernel
theorem dX1_copyFrom_42 : decode cX1_copyFrom 42 = .ok (.getfield 27, 3) := by decide +kernel
theorem dX1_copyFrom_45 : decode cX1_copyFrom 45 = .ok (.putfield 27, 3) := by decide +kernel
theorem dX1_copyFrom_48 : decode cX1_copyFrom 48 = .ok (.return_, 1) := by decide +kernel
theorem dX1_lay_0 : decode cX1_lay 0 = .ok (.aload_n 0, 1) := by decide +kernel
theorem dX1_lay_1 : decode cX1_lay 1 = .ok (.iload_n 1, 1) := by decide +kernel
theorem dX1_lay_2 : decode cX1_lay 2 = .ok (.putfield 9, 3) := by decide +kernel
theorem dX1_lay_5 : decode cX1_lay 5 = .ok (.aload_n 0, 1) := by decide +kernel
theorem dX1_lay_6 : decode cX1_lay 6 = .ok (.iload_n 2, 1) := by decide +kernel
theorem dX1_lay_7 : decode cX1_lay 7 = .ok (.putfield 15, 3) := by decide +kernel
theorem dX1_lay_10 : decode cX1_lay 10 = .ok (.aload_n 0, 1) := by decide +kernel
theorem dX1_lay_11 : decode cX1_lay 11 = .ok (.iload_n 3, 1) := by decide +kernel
theorem dX1_lay_12 : decode cX1_lay 12 = .ok (.putfield 18, 3) := by decide +kernel
theorem dX1_lay_15 : decode cX1_lay 15 = .ok (.aload_n 0, 1) := by decide +kernel
theorem dX1_lay_16 : decode cX1_lay 16 = .ok (.iload 4, 2) := by decide +kernel
theorem dX1_lay_18 : decode cX1_lay 18 = .ok (.putfield 21, 3) := by decide +kernel
theorem dX1_lay_21 : decode cX1_lay 21 = .ok (.aload_n 0, 1) := by decide +kernel
theorem dX1_lay_22 : decode cX1_lay 22 = .ok (.iload 5, 2) := by decide +kernel
theorem dX1_lay_24 : decode cX1_lay 24 = .ok (.putfield 24, 3) := by decide +kernel
theorem dX1_lay_27 : decode cX1_lay 27 = .ok (.aload_n 0, 1) := by decide +kernel
theorem dX1_lay_28 : decode cX1_lay 28 = .ok (.iload 6, 2) := by decide +kernel
theorem dX1_lay_30 : decode cX1_lay 30 = .ok (.putfield 27, 3) := by decide +kernel
theorem dX1_lay_33 : decode cX1_lay 33 = .ok (.return_, 1) := by decide +kernel
theorem dX1_judge_0 : decode cX1_judge 0 = .ok (.aload_n 1, 1) := by decide +kernel
theorem dX1_judge_1 : decode cX1_judge 1 = .ok (.ifnull 7, 3) := by decide +kernel
theorem dX1_judge_4 : decode cX1_judge 4 = .ok (.aload_n 2, 1) := by decide +kernel
theorem dX1_judge_5 : decode cX1_judge 5 = .ok (.ifnonnull 4, 3) := by decide +kernel
theorem dX1_judge_8 : decode cX1_judge 8 = .ok (.return_, 1) := by decide +kernel
theorem dX1_judge_9 : decode cX1_judge 9 = .ok (.aload_n 0, 1) := by decide +kernel
theorem dX1_judge_10 : decode cX1_judge 10 = .ok (.aload_n 1, 1) := by decide +kernel
theorem dX1_judge_11 : decode cX1_judge 11 = .ok (.getfield 30, 3) := by decide +kernel
theorem dX1_judge_14 : decode cX1_judge 14 = .ok (.putfield 35, 3) := by decide +kernel
theorem dX1_judge_17 : decode cX1_judge 17 = .ok (.aload_n 0, 1) := by decide +kernel
theorem dX1_judge_18 : decode cX1_judge 18 = .ok (.aload_n 1, 1) := by decide +kernel
theorem dX1_judge_19 : decode cX1_judge 19 = .ok (.getfield 36, 3) := by decide +kernel
theorem dX1_judge_22 : decode cX1_judge 22 = .ok (.putfield 39, 3) := by decide +kernel
theorem dX1_judge_25 : decode cX1_judge 25 = .ok (.aload_n 0, 1) := by decide +kernel
theorem dX1_judge_26 : decode cX1_judge 26 = .ok (.aload_n 1, 1) := by decide +kernel
theorem dX1_judge_27 : decode cX1_judge 27 = .ok (.getfield 40, 3) := by decide +kernel
theorem dX1_judge_30 : decode cX1_judge 30 = .ok (.ifCond .eq 10, 3) := by decide +kernel
theorem dX1_judge_33 : decode cX1_judge 33 = .ok (.aload_n 1, 1) := by decide +kernel
theorem dX1_judge_34 : decode cX1_judge 34 = .ok (.getfield 40, 3) := by decide +kernel
theorem dX1_judge_37 : decode cX1_judge 37 = .ok (.goto 7, 3) := by decide +kernel
theorem dX1_judge_40 : decode cX1_judge 40 = .ok (.aload_n 2, 1) := by decide +kernel
theorem dX1_judge_41 : decode cX1_judge 41 = .ok (.getfield 40, 3) := by decide +kernel
theorem dX1_judge_44 : decode cX1_judge 44 = .ok (.putfield 43, 3) := by decide +kernel
theorem dX1_judge_47 : decode cX1_judge 47 = .ok (.aload_n 0, 1) := by decide +kernel
theorem dX1_judge_48 : decode cX1_judge 48 = .ok (.aload_n 0, 1) := by decide +kernel
theorem dX1_judge_49 : decode cX1_judge 49 = .ok (.getfield 43, 3) := by decide +kernel
theorem dX1_judge_52 : decode cX1_judge 52 = .ok (.ifCond .eq 7, 3) := by decide +kernel
theorem dX1_judge_55 : decode cX1_judge 55 = .ok (.iconst 3, 1) := by decide +kernel
theorem dX1_judge_56 : decode cX1_judge 56 = .ok (.goto 21, 3) := by decide +kernel
theorem dX1_judge_59 : decode cX1_judge 59 = .ok (.aload_n 0, 1) := by decide +kernel
theorem dX1_judge_60 : decode cX1_judge 60 = .ok (.getfield 24, 3) := by decide +kernel
theorem dX1_judge_63 : decode cX1_judge 63 = .ok (.iconst 3, 1) := by decide +kernel
theorem dX1_judge_64 : decode cX1_judge 64 = .ok (.aload_n 0, 1) := by decide +kernel
theorem dX1_judge_65 : decode cX1_judge 65 = .ok (.getfield 21, 3) := by decide +kernel
theorem dX1_judge_68 : decode cX1_judge 68 = .ok (.imul, 1) := by decide +kernel
theorem dX1_judge_69 : decode cX1_judge 69 = .ok (.if_icmp .le 7, 3) := by decide +kernel
theorem dX1_judge_72 : decode cX1_judge 72 = .ok (.iconst 4, 1) := by decide +kernel
theorem dX1_judge_73 : decode cX1_judge 73 = .ok (.goto 4, 3) := by decide +kernel
theorem dX1_judge_76 : decode cX1_judge 76 = .ok (.iconst 0, 1) := by decide +kernel
theorem dX1_judge_77 : decode cX1_judge 77 = .ok (.putfield 46, 3) := by decide +kernel
theorem dX1_judge_80 : decode cX1_judge 80 = .ok (.aload_n 0, 1) := by decide +kernel
theorem dX1_judge_81 : decode cX1_judge 81 = .ok (.aload_n 0, 1) := by decide +kernel
theorem dX1_judge_82 : decode cX1_judge 82 = .ok (.getfield 43, 3) := by decide +kernel
theorem dX1_judge_85 : decode cX1_judge 85 = .ok (.ifCond .eq 7, 3) := by decide +kernel
theorem dX1_judge_88 : decode cX1_judge 88 = .ok (.iconst 0, 1) := by decide +kernel
theorem dX1_judge_89 : decode cX1_judge 89 = .ok (.goto 25, 3) := by decide +kernel
theorem dX1_judge_92 : decode cX1_judge 92 = .ok (.aload_n 2, 1) := by decide +kernel
theorem dX1_judge_93 : decode cX1_judge 93 = .ok (.getfield 47, 3) := by decide +kernel
theorem dX1_judge_96 : decode cX1_judge 96 = .ok (.aload_n 1, 1) := by decide +kernel
theorem dX1_judge_97 : decode cX1_judge 97 = .ok (.getfield 47, 3) := by decide +kernel
theorem dX1_judge_100 : decode cX1_judge 100 = .ok (.isub, 1) := by decide +kernel
theorem dX1_judge_101 : decode cX1_judge 101 = .ok (.i2l, 1) := by decide +kernel
theorem dX1_judge_102 : decode cX1_judge 102 = .ok (.ldc2_w 50, 3) := by decide +kernel
theorem dX1_judge_105 : decode cX1_judge 105 = .ok (.lmul, 1) := by decide +kernel
theorem dX1_judge_106 : decode cX1_judge 106 = .ok (.aload_n 0, 1) := by decide +kernel
theorem dX1_judge_107 : decode cX1_judge 107 = .ok (.getfield 21, 3) := by decide +kernel
theorem dX1_judge_110 : decode cX1_judge 110 = .ok (.i2l, 1) := by decide +kernel
theorem dX1_judge_111 : decode cX1_judge 111 = .ok (.invokestatic 52, 3) := by decide +kernel
theorem dX1_judge_114 : decode cX1_judge 114 = .ok (.putfield 58, 3) := by decide +kernel
theorem dX1_judge_117 : decode cX1_judge 117 = .ok (.aload_n 0, 1) := by decide +kernel
theorem dX1_judge_118 : decode cX1_judge 118 = .ok (.aload_n 0, 1) := by decide +kernel
theorem dX1_judge_119 : decode cX1_judge 119 = .ok (.getfield 46, 3) := by decide +kernel
theorem dX1_judge_122 : decode cX1_judge 122 = .ok (.ifCond .eq 8, 3) := by decide +kernel
theorem dX1_judge_125 : decode cX1_judge 125 = .ok (.ldc 61, 2) := by decide +kernel
theorem dX1_judge_127 : decode cX1_judge 127 = .ok (.goto 11, 3) := by decide +kernel
theorem dX1_judge_130 : decode cX1_judge 130 = .ok (.aload_n 0, 1) := by decide +kernel
theorem dX1_judge_131 : decode cX1_judge 131 = .ok (.aload_n 0, 1) := by decide +kernel
theorem dX1_judge_132 : decode cX1_judge 132 = .ok (.getfield 27, 3) := by decide +kernel
theorem dX1_judge_135 : decode cX1_judge 135 = .ok (.invokevirtual 62, 3) := by decide +kernel
theorem dX1_judge_138 : decode cX1_judge 138 = .ok (.putfield 66, 3) := by decide +kernel
theorem dX1_judge_141 : decode cX1_judge 141 = .ok (.return_, 1) := by decide +kernel
theorem dX1_startWith_0 : decode cX1_startWith 0 = .ok (.aload_n 0, 1) := by decide +kernel
theorem dX1_startWith_1 : decode cX1_startWith 1 = .ok (.getfield 18, 3) := by decide +kernel
theorem dX1_startWith_4 : decode cX1_startWith 4 = .ok (.iload_n 1, 1) := by decide +kernel
theorem dX1_startWith_5 : decode cX1_startWith 5 = .ok (.aload_n 0, 1) := by decide +kernel
theorem dX1_startWith_6 : decode cX1_startWith 6 = .ok (.getfield 24, 3) := by decide +kernel
theorem dX1_startWith_9 : decode cX1_startWith 9 = .ok (.imul, 1) := by decide +kernel
theorem dX1_startWith_10 : decode cX1_startWith 10 = .ok (.i2l, 1) := by decide +kernel
theorem dX1_startWith_11 : decode cX1_startWith 11 = .ok (.aload_n 0, 1) := by decide +kernel
theorem dX1_startWith_12 : decode cX1_startWith 12 = .ok (.getfield 21, 3) := by decide +kernel
theorem dX1_startWith_15 : decode cX1_startWith 15 = .ok (.i2l, 1) := by decide +kernel
theorem dX1_startWith_16 : decode cX1_startWith 16 = .ok (.invokestatic 52, 3) := by decide +kernel
theorem dX1_startWith_19 : decode cX1_startWith 19 = .ok (.iadd, 1) := by decide +kernel
theorem dX1_startWith_20 : decode cX1_startWith 20 = .ok (.aload_n 0, 1) := by decide +kernel
theorem dX1_startWith_21 : decode cX1_startWith 21 = .ok (.getfield 58, 3) := by decide +kernel
theorem dX1_startWith_24 : decode cX1_startWith 24 = .ok (.iadd, 1) := by decide +kernel
theorem dX1_startWith_25 : decode cX1_startWith 25 = .ok (.invokestatic 69, 3) := by decide +kernel
theorem dX1_startWith_28 : decode cX1_startWith 28 = .ok (.ireturn, 1) := by decide +kernel
theorem dX1_number_0 : decode cX1_number 0 = .ok (.iload_n 1, 1) := by decide +kernel
theorem dX1_number_1 : decode cX1_number 1 = .ok (.tableswitch 78 0 6 #[43, 48, 53, 58, 63, 68, 73], 43) := by decide +kernel
theorem dX1_number_44 : decode cX1_number 44 = .ok (.aload_n 0, 1) := by decide +kernel
theorem dX1_number_45 : decode cX1_number 45 = .ok (.getfield 9, 3) := by decide +kernel
theorem dX1_number_48 : decode cX1_number 48 = .ok (.ireturn, 1) := by decide +kernel
theorem dX1_number_49 : decode cX1_number 49 = .ok (.aload_n 0, 1) := by decide +kernel
theorem dX1_number_50 : decode cX1_number 50 = .ok (.getfield 15, 3) := by decide +kernel
theorem dX1_number_53 : decode cX1_number 53 = .ok (.ireturn, 1) := by decide +kernel
theorem dX1_number_54 : decode cX1_number 54 = .ok (.aload_n 0, 1) := by decide +kernel
theorem dX1_number_55 : decode cX1_number 55 = .ok (.getfield 18, 3) := by decide +kernel
theorem dX1_number_58 : decode cX1_number 58 = .ok (.ireturn, 1) := by decide +kernel
theorem dX1_number_59 : decode cX1_number 59 = .ok (.aload_n 0, 1) := by decide +kernel
theorem dX1_number_60 : decode cX1_number 60 = .ok (.getfield 21, 3) := by decide +kernel
theorem dX1_number_63 : decode cX1_number 63 = .ok (.ireturn, 1) := by decide +kernel
theorem dX1_number_64 : decode cX1_number 64 = .ok (.aload_n 0, 1) := by decide +kernel
theorem dX1_number_65 : decode cX1_number 65 = .ok (.getfield 24, 3) := by decide +kernel
theorem dX1_number_68 : decode cX1_number 68 = .ok (.ireturn, 1) := by decide +kernel
theorem dX1_number_69 : decode cX1_number 69 = .ok (.aload_n 0, 1) := by decide +kernel
theorem dX1_number_70 : decode cX1_number 70 = .ok (.getfield 27, 3) := by decide +kernel
theorem dX1_number_73 : decode cX1_number 73 = .ok (.ireturn, 1) := by decide +kernel
theorem dX1_number_74 : decode cX1_number 74 = .ok (.aload_n 0, 1) := by decide +kernel
theorem dX1_number_75 : decode cX1_number 75 = .ok (.getfield 46, 3) := by decide +kernel
theorem dX1_number_78 : decode cX1_number 78 = .ok (.ireturn, 1) := by decide +kernel
theorem dX1_number_79 : decode cX1_number 79 = .ok (.aload_n 0, 1) := by decide +kernel
theorem dX1_number_80 : decode cX1_number 80 = .ok (.getfield 66, 3) := by decide +kernel
theorem dX1_number_83 : decode cX1_number 83 = .ok (.ireturn, 1) := by decide +kernel
theorem dX2_init_0 : decode cX2_init 0 = .ok (.aload_n 0, 1) := by decide +kernel
theorem dX2_init_1 : decode cX2_init 1 = .ok (.invokespecial 3, 3) := by decide +kernel
theorem dX2_init_4 : decode cX2_init 4 = .ok (.aload_n 0, 1) := by decide +kernel
theorem dX2_init_5 : decode cX2_init 5 = .ok (.iconst 3, 1) := by decide +kernel
theorem dX2_init_6 : decode cX2_init 6 = .ok (.newarray .int, 2) := by decide +kernel
theorem dX2_init_8 : decode cX2_init 8 = .ok (.dup, 1) := by decide +kernel
theorem dX2_init_9 : decode cX2_init 9 = .ok (.iconst 0, 1) := by decide +kernel
theorem dX2_init_10 : decode cX2_init 10 = .ok (.bipush 20, 2) := by decide +kernel
theorem dX2_init_12 : decode cX2_init 12 = .ok (.iastore, 1) := by decide +kernel
theorem dX2_init_13 : decode cX2_init 13 = .ok (.dup, 1) := by decide +kernel
theorem dX2_init_14 : decode cX2_init 14 = .ok (.iconst 1, 1) := by decide +kernel
theorem dX2_init_15 : decode cX2_init 15 = .ok (.bipush 30, 2) := by decide +kernel
theorem dX2_init_17 : decode cX2_init 17 = .ok (.iastore, 1) := by decide +kernel
theorem dX2_init_18 : decode cX2_init 18 = .ok (.dup, 1) := by decide +kernel
theorem dX2_init_19 : decode cX2_init 19 = .ok (.iconst 2, 1) := by decide +kernel
theorem dX2_init_20 : decode cX2_init 20 = .ok (.sipush 500, 3) := by decide +kernel
theorem dX2_init_23 : decode cX2_init 23 = .ok (.iastore, 1) := by decide +kernel
theorem dX2_init_24 : decode cX2_init 24 = .ok (.putfield 9, 3) := by decide +kernel
theorem dX2_init_27 : decode cX2_init 27 = .ok (.aload_n 0, 1) := by decide +kernel
theorem dX2_init_28 : decode cX2_init 28 = .ok (.bipush 6, 2) := by decide +kernel
theorem dX2_init_30 : decode cX2_init 30 = .ok (.anewarray 15, 3) := by decide +kernel
theorem dX2_init_33 : decode cX2_init 33 = .ok (.putfield 17, 3) := by decide +kernel
theorem dX2_init_36 : decode cX2_init 36 = .ok (.aload_n 0, 1) := by decide +kernel
theorem dX2_init_37 : decode cX2_init 37 = .ok (.iconst 4, 1) := by decide +kernel
theorem dX2_init_38 : decode cX2_init 38 = .ok (.anewarray 21, 3) := by decide +kernel
theorem dX2_init_41 : decode cX2_init 41 = .ok (.putfield 23, 3) := by decide +kernel
theorem dX2_init_44 : decode cX2_init 44 = .ok (.aload_n 0, 1) := by decide +kernel
theorem dX2_init_45 : decode cX2_init 45 = .ok (.iconst 4, 1) := by decide +kernel
theorem dX2_init_46 : decode cX2_init 46 = .ok (.anewarray 27, 3) := by decide +kernel
theorem dX2_init_49 : decode cX2_init 49 = .ok (.putfield 29, 3) := by decide +kernel
theorem dX2_init_52 : decode cX2_init 52 = .ok (.iconst 0, 1) := by decide +kernel
theorem dX2_init_53 : decode cX2_init 53 = .ok (.istore_n 1, 1) := by decide +kernel
theorem dX2_init_54 : decode cX2_init 54 = .ok (.iload_n 1, 1) := by decide +kernel
theorem dX2_init_55 : decode cX2_init 55 = .ok (.bipush 6, 2) := by decide +kernel
theorem dX2_init_57 : decode cX2_init 57 = .ok (.if_icmp .ge 22, 3) := by decide +kernel
theorem dX2_init_60 : decode cX2_init 60 = .ok (.aload_n 0, 1) := by decide +kernel
theorem dX2_init_61 : decode cX2_init 61 = .ok (.getfield 17, 3) := by decide +kernel
theorem dX2_init_64 : decode cX2_init 64 = .ok (.iload_n 1, 1) := by decide +kernel
theorem dX2_init_65 : decode cX2_init 65 = .ok (.new 15, 3) := by decide +kernel
theorem dX2_init_68 : decode cX2_init 68 = .ok (.dup, 1) := by decide +kernel
theorem dX2_init_69 : decode cX2_init 69 = .ok (.invokespecial 33, 3) := by decide +kernel
theorem dX2_init_72 : decode cX2_init 72 = .ok (.aastore, 1) := by decide +kernel
theorem dX2_init_73 : decode cX2_init 73 = .ok (.iinc 1 1, 3) := by decide +kernel
theorem dX2_init_76 : decode cX2_init 76 = .ok (.goto (-22), 3) := by decide +kernel
theorem dX2_init_79 : decode cX2_init 79 = .ok (.iconst 0, 1) := by decide +kernel
theorem dX2_init_80 : decode cX2_init 80 = .ok (.istore_n 1, 1) := by decide +kernel
theorem dX2_init_81 : decode cX2_init 81 = .ok (.iload_n 1, 1) := by decide +kernel
theorem dX2_init_82 : decode cX2_init 82 = .ok (.iconst 4, 1) := by decide +kernel
theorem dX2_init_83 : decode cX2_init 83 = .ok (.if_icmp .ge 22, 3) := by decide +kernel
theorem dX2_init_86 : decode cX2_init 86 = .ok (.aload_n 0, 1) := by decide +kernel
theorem dX2_init_87 : decode cX2_init 87 = .ok (.getfield 23, 3) := by decide +kernel
theorem dX2_init_90 : decode cX2_init 90 = .ok (.iload_n 1, 1) := by decide +kernel
theorem dX2_init_91 : decode cX2_init 91 = .ok (.new 21, 3) := by decide +kernel
theorem dX2_init_94 : decode cX2_init 94 = .ok (.dup, 1) := by decide +kernel
theorem dX2_init_95 : decode cX2_init 95 = .ok (.invokespecial 34, 3) := by decide +kernel
theorem dX2_init_98 : decode cX2_init 98 = .ok (.aastore, 1) := by decide +kernel
theorem dX2_init_99 : decode cX2_init 99 = .ok (.iinc 1 1, 3) := by decide +kernel
theorem dX2_init_102 : decode cX2_init 102 = .ok (.goto (-21), 3) := by decide +kernel
theorem dX2_init_105 : decode cX2_init 105 = .ok (.iconst 0, 1) := by decide +kernel
theorem dX2_init_106 : decode cX2_init 106 = .ok (.istore_n 1, 1) := by decide +kernel
theorem dX2_init_107 : decode cX2_init 107 = .ok (.iload_n 1, 1) := by decide +kernel
theorem dX2_init_108 : decode cX2_init 108 = .ok (.iconst 4, 1) := by decide +kernel
theorem dX2_init_109 : decode cX2_init 109 = .ok (.if_icmp .ge 22, 3) := by decide +kernel
theorem dX2_init_112 : decode cX2_init 112 = .ok (.aload_n 0, 1) := by decide +kernel
theorem dX2_init_113 : decode cX2_init 113 = .ok (.getfield 29, 3) := by decide +kernel
theorem dX2_init_116 : decode cX2_init 116 = .ok (.iload_n 1, 1) := by decide +kernel
theorem dX2_init_117 : decode cX2_init 117 = .ok (.new 27, 3) := by decide +kernel
theorem dX2_init_120 : decode cX2_init 120 = .ok (.dup, 1) := by decide +kernel
theorem dX2_init_121 : decode cX2_init 121 = .ok (.invokespecial 35, 3) := by decide +kernel
theorem dX2_init_124 : decode cX2_init 124 = .ok (.aastore, 1) := by decide +kernel
theorem dX2_init_125 : decode cX2_init 125 = .ok (.iinc 1 1, 3) := by decide +kernel
theorem dX2_init_128 : decode cX2_init 128 = .ok (.goto (-21), 3) := by decide +kernel
theorem dX2_init_131 : decode cX2_init 131 = .ok (.return_, 1) := by decide +kernel
theorem dX2_copyFrom_0 : decode cX2_copyFrom 0 = .ok (.aload_n 1, 1) := by decide +kernel
theorem dX2_copyFrom_1 : decode cX2_copyFrom 1 = .ok (.getfield 9, 3) := by decide +kernel
theorem dX2_copyFrom_4 : decode cX2_copyFrom 4 = .ok (.iconst 0, 1) := by decide +kernel
theorem dX2_copyFrom_5 : decode cX2_copyFrom 5 = .ok (.aload_n 0, 1) := by decide +kernel
theorem dX2_copyFrom_6 : decode cX2_copyFrom 6 = .ok (.getfield 9, 3) := by decide +kernel
theorem dX2_copyFrom_9 : decode cX2_copyFrom 9 = .ok (.iconst 0, 1) := by decide +kernel
theorem dX2_copyFrom_10 : decode cX2_copyFrom 10 = .ok (.iconst 3, 1) := by decide +kernel
theorem dX2_copyFrom_11 : decode cX2_copyFrom 11 = .ok (.invokestatic 36, 3) := by decide +kernel
theorem dX2_copyFrom_14 : decode cX2_copyFrom 14 = .ok (.aload_n 0, 1) := by decide +kernel
theorem dX2_copyFrom_15 : decode cX2_copyFrom 15 = .ok (.aload_n 1, 1) := by decide +kernel
theorem dX2_copyFrom_16 : decode cX2_copyFrom 16 = .ok (.getfield 42, 3) := by decide +kernel
theorem dX2_copyFrom_19 : decode cX2_copyFrom 19 = .ok (.putfield 42, 3) := by decide +kernel
theorem dX2_copyFrom_22 : decode cX2_copyFrom 22 = .ok (.aload_n 0, 1) := by decide +kernel
theorem dX2_copyFrom_23 : decode cX2_copyFrom 23 = .ok (.aload_n 1, 1) := by decide +kernel
theorem dX2_copyFrom_24 : decode cX2_copyFrom 24 = .ok (.getfield 46, 3) := by decide +kernel
theorem dX2_copyFrom_27 : decode cX2_copyFrom 27 = .ok (.putfield 46, 3) := by decide +kernel
theorem dX2_copyFrom_30 : decode cX2_copyFrom 30 = .ok (.aload_n 0, 1) := by decide +kernel
theorem dX2_copyFrom_31 : decode cX2_copyFrom 31 = .ok (.aload_n 1, 1) := by decide +kernel
theorem dX2_copyFrom_32 : decode cX2_copyFrom 32 = .ok (.getfield 49, 3) := by decide +kernel
theorem dX2_copyFrom_35 : decode cX2_copyFrom 35 = .ok (.putfield 49, 3) := by decide +kernel
theorem dX2_copyFrom_38 : decode cX2_copyFrom 38 = .ok (.iconst 0, 1) := by decide +kernel
theorem dX2_copyFrom_39 : decode cX2_copyFrom 39 = .ok (.istore_n 2, 1) := by decide +kernel
theorem dX2_copyFrom_40 : decode cX2_copyFrom 40 = .ok (.iload_n 2, 1) := by decide +kernel
theorem dX2_copyFrom_41 : decode cX2_copyFrom 41 = .ok (.bipush 6, 2) := by decide +kernel
theorem dX2_copyFrom_43 : decode cX2_copyFrom 43 = .ok (.if_icmp .ge 24, 3) := by decide +kernel
theorem dX2_copyFrom_46 : decode cX2_copyFrom 46 = .ok (.aload_n 0, 1) := by decide +kernel
theorem dX2_copyFrom_47 : decode cX2_copyFrom 47 = .ok (.getfield 17, 3) := by decide +kernel
theorem dX2_copyFrom_50 : decode cX2_copyFrom 50 = .ok (.iload_n 2, 1) := by decide +kernel
theorem dX2_copyFrom_51 : decode cX2_copyFrom 51 = .ok (.aaload, 1) := by decide +kernel
theorem dX2_copyFrom_52 : decode cX2_copyFrom 52 = .ok (.aload_n 1, 1) := by decide +kernel
theorem dX2_copyFrom_53 : decode cX2_copyFrom 53 = .ok (.getfield 17, 3) := by decide +kernel
theorem dX2_copyFrom_56 : decode cX2_copyFrom 56 = .ok (.iload_n 2, 1) := by decide +kernel
theorem dX2_copyFrom_57 : decode cX2_copyFrom 57 = .ok (.aaload, 1) := by decide +kernel
theorem dX2_copyFrom_58 : decode cX2_copyFrom 58 = .ok (.invokevirtual 52, 3) := by decide +kernel
theorem dX2_copyFrom_61 : decode cX2_copyFrom 61 = .ok (.iinc 2 1, 3) := by decide +kernel
theorem dX2_copyFrom_64 : decode cX2_copyFrom 64 = .ok (.goto (-24), 3) := by decide +kernel
theorem dX2_copyFrom_67 : decode cX2_copyFrom 67 = .ok (.iconst 0, 1) := by decide +kernel
theorem dX2_copyFrom_68 : decode cX2_copyFrom 68 = .ok (.istore_n 2, 1) := by decide +kernel
theorem dX2_copyFrom_69 : decode cX2_copyFrom 69 = .ok (.iload_n 2, 1) := by decide +kernel
theorem dX2_copyFrom_70 : decode cX2_copyFrom 70 = .ok (.iconst 4, 1) := by decide +kernel
theorem dX2_copyFrom_71 : decode cX2_copyFrom 71 = .ok (.if_icmp .ge 24, 3) := by decide +kernel
theorem dX2_copyFrom_74 : decode cX2_copyFrom 74 = .ok (.aload_n 0, 1) := by decide +kernel
theorem dX2_copyFrom_75 : decode cX2_copyFrom 75 = .ok (.getfield 23, 3) := by decide +kernel
theorem dX2_copyFrom_78 : decode cX2_copyFrom 78 = .ok (.iload_n 2, 1) := by decide +kernel
theorem dX2_copyFrom_79 : decode cX2_copyFrom 79 = .ok (.aaload, 1) := by decide +kernel
theorem dX2_copyFrom_80 : decode cX2_copyFrom 80 = .ok (.aload_n 1, 1) := by decide +kernel
theorem dX2_copyFrom_81 : decode cX2_copyFrom 81 = .ok (.getfield 23, 3) := by decide +kernel
theorem dX2_copyFrom_84 : decode cX2_copyFrom 84 = .ok (.iload_n 2, 1) := by decide +kernel
theorem dX2_copyFrom_85 : decode cX2_copyFrom 85 = .ok (.aaload, 1) := by decide +kernel
theorem dX2_copyFrom_86 : decode cX2_copyFrom 86 = .ok (.invokevirtual 56, 3) := by decide +kernel
theorem dX2_copyFrom_89 : decode cX2_copyFrom 89 = .ok (.iinc 2 1, 3) := by decide +kernel
theorem dX2_copyFrom_92 : decode cX2_copyFrom 92 = .ok (.goto (-23), 3) := by decide +kernel
theorem dX2_copyFrom_95 : decode cX2_copyFrom 95 = .ok (.iconst 0, 1) := by decide +kernel
theorem dX2_copyFrom_96 : decode cX2_copyFrom 96 = .ok (.istore_n 2, 1) := by decide +kernel
theorem dX2_copyFrom_97 : decode cX2_copyFrom 97 = .ok (.iload_n 2, 1) := by decide +kernel
theorem dX2_copyFrom_98 : decode cX2_copyFrom 98 = .ok (.iconst 4, 1) := by decide +kernel
theorem dX2_copyFrom_99 : decode cX2_copyFrom 99 = .ok (.if_icmp .ge 24, 3) := by decide +kernel
theorem dX2_copyFrom_102 : decode cX2_copyFrom 102 = .ok (.aload_n 0, 1) := by decide +kernel
theorem dX2_copyFrom_103 : decode cX2_copyFrom 103 = .ok (.getfield 29, 3) := by decide +kernel
theorem dX2_copyFrom_106 : decode cX2_copyFrom 106 = .ok (.iload_n 2, 1) := by decide +kernel
theorem dX2_copyFrom_107 : decode cX2_copyFrom 107 = .ok (.aaload, 1) := by decide +kernel
theorem dX2_copyFrom_108 : decode cX2_copyFrom 108 = .ok (.aload_n 1, 1) := by decide +kernel
theorem dX2_copyFrom_109 : decode cX2_copyFrom 109 = .ok (.getfield 29, 3) := by decide +kernel
theorem dX2_copyFrom_112 : decode cX2_copyFrom 112 = .ok (.iload_n 2, 1) := by decide +kernel
theorem dX2_copyFrom_113 : decode cX2_copyFrom 113 = .ok (.aaload, 1) := by decide +kernel
theorem dX2_copyFrom_114 : decode cX2_copyFrom 114 = .ok (.invokevirtual 59, 3) := by decide +kernel
theorem dX2_copyFrom_117 : decode cX2_copyFrom 117 = .ok (.iinc 2 1, 3) := by decide +kernel
theorem dX2_copyFrom_120 : decode cX2_copyFrom 120 = .ok (.goto (-23), 3) := by decide +kernel
theorem dX2_copyFrom_123 : decode cX2_copyFrom 123 = .ok (.return_, 1) := by decide +kernel
theorem dX2_judge_0 : decode cX2_judge 0 = .ok (.iconst 0, 1) := by decide +kernel
theorem dX2_judge_1 : decode cX2_judge 1 = .ok (.istore_n 1, 1) := by decide +kernel
theorem dX2_judge_2 : decode cX2_judge 2 = .ok (.iload_n 1, 1) := by decide +kernel
theorem dX2_judge_3 : decode cX2_judge 3 = .ok (.aload_n 0, 1) := by decide +kernel
theorem dX2_judge_4 : decode cX2_judge 4 = .ok (.getfield 42, 3) := by decide +kernel
theorem dX2_judge_7 : decode cX2_judge 7 = .ok (.if_icmp .ge 30, 3) := by decide +kernel
theorem dX2_judge_10 : decode cX2_judge 10 = .ok (.iload_n 1, 1) := by decide +kernel
theorem dX2_judge_11 : decode cX2_judge 11 = .ok (.bipush 6, 2) := by decide +kernel
theorem dX2_judge_13 : decode cX2_judge 13 = .ok (.if_icmp .ge 24, 3) := by decide +kernel
theorem dX2_judge_16 : decode cX2_judge 16 = .ok (.aload_n 0, 1) := by decide +kernel
theorem dX2_judge_17 : decode cX2_judge 17 = .ok (.getfield 17, 3) := by decide +kernel
theorem dX2_judge_20 : decode cX2_judge 20 = .ok (.iload_n 1, 1) := by decide +kernel
theorem dX2_judge_21 : decode cX2_judge 21 = .ok (.aaload, 1) := by decide +kernel
theorem dX2_judge_22 : decode cX2_judge 22 = .ok (.aload_n 0, 1) := by decide +kernel
theorem dX2_judge_23 : decode cX2_judge 23 = .ok (.getfield 9, 3) := by decide +kernel
theorem dX2_judge_26 : decode cX2_judge 26 = .ok (.iconst 0, 1) := by decide +kernel
theorem dX2_judge_27 : decode cX2_judge 27 = .ok (.iaload, 1) := by decide +kernel
theorem dX2_judge_28 : decode cX2_judge 28 = .ok (.invokevirtual 62, 3) := by decide +kernel
theorem dX2_judge_31 : decode cX2_judge 31 = .ok (.iinc 1 1, 3) := by decide +kernel
theorem dX2_judge_34 : decode cX2_judge 34 = .ok (.goto (-32), 3) := by decide +kernel
theorem dX2_judge_37 : decode cX2_judge 37 = .ok (.iconst 0, 1) := by decide +kernel
theorem dX2_judge_38 : decode cX2_judge 38 = .ok (.istore_n 1, 1) := by decide +kernel
theorem dX2_judge_39 : decode cX2_judge 39 = .ok (.iload_n 1, 1) := by decide +kernel
theorem dX2_judge_40 : decode cX2_judge 40 = .ok (.aload_n 0, 1) := by decide +kernel
theorem dX2_judge_41 : decode cX2_judge 41 = .ok (.getfield 46, 3) := by decide +kernel
theorem dX2_judge_44 : decode cX2_judge 44 = .ok (.if_icmp .ge 49, 3) := by decide +kernel
theorem dX2_judge_47 : decode cX2_judge 47 = .ok (.iload_n 1, 1) := by decide +kernel
theorem dX2_judge_48 : decode cX2_judge 48 = .ok (.iconst 4, 1) := by decide +kernel
theorem dX2_judge_49 : decode cX2_judge 49 = .ok (.if_icmp .ge 44, 3) := by decide +kernel
theorem dX2_judge_52 : decode cX2_judge 52 = .ok (.aload_n 0, 1) := by decide +kernel
theorem dX2_judge_53 : decode cX2_judge 53 = .ok (.getfield 23, 3) := by decide +kernel
theorem dX2_judge_56 : decode cX2_judge 56 = .ok (.iload_n 1, 1) := by decide +kernel
theorem dX2_judge_57 : decode cX2_judge 57 = .ok (.aaload, 1) := by decide +kernel
theorem dX2_judge_58 : decode cX2_judge 58 = .ok (.aload_n 0, 1) := by decide +kernel
theorem dX2_judge_59 : decode cX2_judge 59 = .ok (.aload_n 0, 1) := by decide +kernel
theorem dX2_judge_60 : decode cX2_judge 60 = .ok (.getfield 23, 3) := by decide +kernel
theorem dX2_judge_63 : decode cX2_judge 63 = .ok (.iload_n 1, 1) := by decide +kernel
theorem dX2_judge_64 : decode cX2_judge 64 = .ok (.aaload, 1) := by decide +kernel
theorem dX2_judge_65 : decode cX2_judge 65 = .ok (.getfield 66, 3) := by decide +kernel
theorem dX2_judge_68 : decode cX2_judge 68 = .ok (.invokevirtual 69, 3) := by decide +kernel
theorem dX2_judge_71 : decode cX2_judge 71 = .ok (.aload_n 0, 1) := by decide +kernel
theorem dX2_judge_72 : decode cX2_judge 72 = .ok (.aload_n 0, 1) := by decide +kernel
theorem dX2_judge_73 : decode cX2_judge 73 = .ok (.getfield 23, 3) := by decide +kernel
theorem dX2_judge_76 : decode cX2_judge 76 = .ok (.iload_n 1, 1) := by decide +kernel
theorem dX2_judge_77 : decode cX2_judge 77 = .ok (.aaload, 1) := by decide +kernel
theorem dX2_judge_78 : decode cX2_judge 78 = .ok (.getfield 73, 3) := by decide +kernel
theorem dX2_judge_81 : decode cX2_judge 81 = .ok (.invokevirtual 69, 3) := by decide +kernel
theorem dX2_judge_84 : decode cX2_judge 84 = .ok (.invokevirtual 76, 3) := by decide +kernel
theorem dX2_judge_87 : decode cX2_judge 87 = .ok (.iinc 1 1, 3) := by decide +kernel
theorem dX2_judge_90 : decode cX2_judge 90 = .ok (.goto (-51), 3) := by decide +kernel
theorem dX2_judge_93 : decode cX2_judge 93 = .ok (.iconst 0, 1) := by decide +kernel
theorem dX2_judge_94 : decode cX2_judge 94 = .ok (.istore_n 1, 1) := by decide +kernel
theorem dX2_judge_95 : decode cX2_judge 95 = .ok (.iload_n 1, 1) := by decide +kernel
theorem dX2_judge_96 : decode cX2_judge 96 = .ok (.aload_n 0, 1) := by decide +kernel
theorem dX2_judge_97 : decode cX2_judge 97 = .ok (.getfield 49, 3) := by decide +kernel
theorem dX2_judge_100 : decode cX2_judge 100 = .ok (.if_icmp .ge 59, 3) := by decide +kernel
theorem dX2_judge_103 : decode cX2_judge 103 = .ok (.iload_n 1, 1) := by decide +kernel
theorem dX2_judge_104 : decode cX2_judge 104 = .ok (.iconst 4, 1) := by decide +kernel
theorem dX2_judge_105 : decode cX2_judge 105 = .ok (.if_icmp .ge 54, 3) := by decide +kernel
theorem dX2_judge_108 : decode cX2_judge 108 = .ok (.aload_n 0, 1) := by decide +kernel
theorem dX2_judge_109 : decode cX2_judge 109 = .ok (.aload_n 0, 1) := by decide +kernel
theorem dX2_judge_110 : decode cX2_judge 110 = .ok (.getfield 29, 3) := by decide +kernel
theorem dX2_judge_113 : decode cX2_judge 113 = .ok (.iload_n 1, 1) := by decide +kernel
theorem dX2_judge_114 : decode cX2_judge 114 = .ok (.aaload, 1) := by decide +kernel
theorem dX2_judge_115 : decode cX2_judge 115 = .ok (.getfield 79, 3) := by decide +kernel
theorem dX2_judge_118 : decode cX2_judge 118 = .ok (.invokevirtual 82, 3) := by decide +kernel
theorem dX2_judge_121 : decode cX2_judge 121 = .ok (.astore_n 2, 1) := by decide +kernel
theorem dX2_judge_122 : decode cX2_judge 122 = .ok (.aload_n 0, 1) := by decide +kernel
theorem dX2_judge_123 : decode cX2_judge 123 = .ok (.aload_n 0, 1) := by decide +kernel
theorem dX2_judge_124 : decode cX2_judge 124 = .ok (.getfield 29, 3) := by decide +kernel
theorem dX2_judge_127 : decode cX2_judge 127 = .ok (.iload_n 1, 1) := by decide +kernel
theorem dX2_judge_128 : decode cX2_judge 128 = .ok (.aaload, 1) := by decide +kernel
theorem dX2_judge_129 : decode cX2_judge 129 = .ok (.getfield 86, 3) := by decide +kernel
theorem dX2_judge_132 : decode cX2_judge 132 = .ok (.invokevirtual 82, 3) := by decide +kernel
theorem dX2_judge_135 : decode cX2_judge 135 = .ok (.astore_n 3, 1) := by decide +kernel
theorem dX2_judge_136 : decode cX2_judge 136 = .ok (.aload_n 0, 1) := by decide +kernel
theorem dX2_judge_137 : decode cX2_judge 137 = .ok (.getfield 29, 3) := by decide +kernel
theorem dX2_judge_140 : decode cX2_judge 140 = .ok (.iload_n 1, 1) := by decide +kernel
theorem dX2_judge_141 : decode cX2_judge 141 = .ok (.aaload, 1) := by decide +kernel
theorem dX2_judge_142 : decode cX2_judge 142 = .ok (.aload_n 2, 1) := by decide +kernel
theorem dX2_judge_143 : decode cX2_judge 143 = .ok (.aload_n 3, 1) := by decide +kernel
theorem dX2_judge_144 : decode cX2_judge 144 = .ok (.aload_n 0, 1) := by decide +kernel
theorem dX2_judge_145 : decode cX2_judge 145 = .ok (.getfield 9, 3) := by decide +kernel
theorem dX2_judge_148 : decode cX2_judge 148 = .ok (.iconst 1, 1) := by decide +kernel
theorem dX2_judge_149 : decode cX2_judge 149 = .ok (.iaload, 1) := by decide +kernel
theorem dX2_judge_150 : decode cX2_judge 150 = .ok (.invokevirtual 89, 3) := by decide +kernel
theorem dX2_judge_153 : decode cX2_judge 153 = .ok (.iinc 1 1, 3) := by decide +kernel
theorem dX2_judge_156 : decode cX2_judge 156 = .ok (.goto (-61), 3) := by decide +kernel
theorem dX2_judge_159 : decode cX2_judge 159 = .ok (.return_, 1) := by decide +kernel
theorem dX2_takesSetting_0 : decode cX2_takesSetting 0 = .ok (.iload_n 1, 1) := by decide +kernel
theorem dX2_takesSetting_1 : decode cX2_takesSetting 1 = .ok (.iconst 0, 1) := by decide +kernel
theorem dX2_takesSetting_2 : decode cX2_takesSetting 2 = .ok (.iconst 2, 1) := by decide +kernel
theorem dX2_takesSetting_3 : decode cX2_takesSetting 3 = .ok (.invokestatic 92, 3) := by decide +kernel
theorem dX2_takesSetting_6 : decode cX2_takesSetting 6 = .ok (.ifCond .eq 24, 3) := by decide +kernel
theorem dX2_takesSetting_9 : decode cX2_takesSetting 9 = .ok (.iload_n 2, 1) := by decide +kernel
theorem dX2_takesSetting_10 : decode cX2_takesSetting 10 = .ok (.getstatic 96, 3) := by decide +kernel
theorem dX2_takesSetting_13 : decode cX2_takesSetting 13 = .ok (.iload_n 1, 1) := by decide +kernel
theorem dX2_takesSetting_14 : decode cX2_takesSetting 14 = .ok (.iaload, 1) := by decide +kernel
theorem dX2_takesSetting_15 : decode cX2_takesSetting 15 = .ok (.getstatic 99, 3) := by decide +kernel
theorem dX2_takesSetting_18 : decode cX2_takesSetting 18 = .ok (.iload_n 1, 1) := by decide +kernel
theorem dX2_takesSetting_19 : decode cX2_takesSetting 19 = .ok (.iaload, 1) := by decide +kernel
theorem dX2_takesSetting_20 : decode cX2_takesSetting 20 = .ok (.invokestatic 92, 3) := by decide +kernel
theorem dX2_takesSetting_23 : decode cX2_takesSetting 23 = .ok (.ifCond .eq 7, 3) := by decide +kernel
theorem dX2_takesSetting_26 : decode cX2_takesSetting 26 = .ok (.iconst 1, 1) := by decide +kernel
theorem dX2_takesSetting_27 : decode cX2_takesSetting 27 = .ok (.goto 4, 3) := by decide +kernel
theorem dX2_takesSetting_30 : decode cX2_takesSetting 30 = .ok (.iconst 0, 1) := by decide +kernel
theorem dX2_takesSetting_31 : decode cX2_takesSetting 31 = .ok (.ireturn, 1) := by decide +kernel
theorem dX2_changeSetting_0 : decode cX2_changeSetting 0 = .ok (.iload_n 1, 1) := by decide +kernel
theorem dX2_changeSetting_1 : decode cX2_changeSetting 1 = .ok (.iconst 0, 1) := by decide +kernel
theorem dX2_changeSetting_2 : decode cX2_changeSetting 2 = .ok (.iconst 2, 1) := by decide +kernel
theorem dX2_changeSetting_3 : decode cX2_changeSetting 3 = .ok (.invokestatic 92, 3) := by decide +kernel
theorem dX2_changeSetting_6 : decode cX2_changeSetting 6 = .ok (.ifCond .ne 6, 3) := by decide +kernel
theorem dX2_changeSetting_9 : decode cX2_changeSetting 9 = .ok (.ldc 102, 2) := by decide +kernel
theorem dX2_changeSetting_11 : decode cX2_changeSetting 11 = .ok (.ireturn, 1) := by decide +kernel
theorem dX2_changeSetting_12 : decode cX2_changeSetting 12 = .ok (.aload_n 0, 1) := by decide +kernel
theorem dX2_changeSetting_13 : decode cX2_changeSetting 13 = .ok (.getfield 9, 3) := by decide +kernel
theorem dX2_changeSetting_16 : decode cX2_changeSetting 16 = .ok (.iload_n 1, 1) := by decide +kernel
theorem dX2_changeSetting_17 : decode cX2_changeSetting 17 = .ok (.iaload, 1) := by decide +kernel
theorem dX2_changeSetting_18 : decode cX2_changeSetting 18 = .ok (.istore_n 3, 1) := by decide +kernel
theorem dX2_changeSetting_19 : decode cX2_changeSetting 19 = .ok (.aload_n 0, 1) := by decide +kernel
theorem dX2_changeSetting_20 : decode cX2_changeSetting 20 = .ok (.getfield 9, 3) := by decide +kernel
theorem dX2_changeSetting_23 : decode cX2_changeSetting 23 = .ok (.iload_n 1, 1) := by decide +kernel
theorem dX2_changeSetting_24 : decode cX2_changeSetting 24 = .ok (.iload_n 2, 1) := by decide +kernel
theorem dX2_changeSetting_25 : decode cX2_changeSetting 25 = .ok (.iastore, 1) := by decide +kernel
theorem dX2_changeSetting_26 : decode cX2_changeSetting 26 = .ok (.iload_n 3, 1) := by decide +kernel
theorem dX2_changeSetting_27 : decode cX2_changeSetting 27 = .ok (.ireturn, 1) := by decide +kernel
theorem dX2_number_0 : decode cX2_number 0 = .ok (.iload_n 1, 1) := by decide +kernel
theorem dX2_number_1 : decode cX2_number 1 = .ok (.tableswitch 60 3 7 #[35, 40, 45, 50, 55], 35) := by decide +kernel
theorem dX2_number_36 : decode cX2_number 36 = .ok (.aload_n 0, 1) := by decide +kernel
theorem dX2_number_37 : decode cX2_number 37 = .ok (.getfield 42, 3) := by decide +kernel
theorem dX2_number_40 : decode cX2_number 40 = .ok (.ireturn, 1) := by decide +kernel
theorem dX2_number_41 : decode cX2_number 41 = .ok (.aload_n 0, 1) := by decide +kernel
theorem dX2_number_42 : decode cX2_number 42 = .ok (.getfield 46, 3) := by decide +kernel
theorem dX2_number_45 : decode cX2_number 45 = .ok (.ireturn, 1) := by decide +kernel
theorem dX2_number_46 : decode cX2_number 46 = .ok (.aload_n 0, 1) := by decide +kernel
theorem dX2_number_47 : decode cX2_number 47 = .ok (.getfield 49, 3) := by decide +kernel
theorem dX2_number_50 : decode cX2_number 50 = .ok (.ireturn, 1) := by decide +kernel
theorem dX2_number_51 : decode cX2_number 51 = .ok (.aload_n 0, 1) := by decide +kernel
theorem dX2_number_52 : decode cX2_number 52 = .ok (.invokevirtual 103, 3) := by decide +kernel
theorem dX2_number_55 : decode cX2_number 55 = .ok (.ireturn, 1) := by decide +kernel
theorem dX2_number_56 : decode cX2_number 56 = .ok (.aload_n 0, 1) := by decide +kernel
theorem dX2_number_57 : decode cX2_number 57 = .ok (.invokevirtual 107, 3) := by decide +kernel
theorem dX2_number_60 : decode cX2_number 60 = .ok (.ireturn, 1) := by decide +kernel
theorem dX2_number_61 : decode cX2_number 61 = .ok (.iload_n 1, 1) := by decide +kernel
theorem dX2_number_62 : decode cX2_number 62 = .ok (.iconst 0, 1) := by decide +kernel
theorem dX2_number_63 : decode cX2_number 63 = .ok (.iconst 2, 1) := by decide +kernel
theorem dX2_number_64 : decode cX2_number 64 = .ok (.invokestatic 92, 3) := by decide +kernel
theorem dX2_number_67 : decode cX2_number 67 = .ok (.ifCond .eq 12, 3) := by decide +kernel
theorem dX2_number_70 : decode cX2_number 70 = .ok (.aload_n 0, 1) := by decide +kernel
theorem dX2_number_71 : decode cX2_number 71 = .ok (.getfield 9, 3) := by decide +kernel
theorem dX2_number_74 : decode cX2_number 74 = .ok (.iload_n 1, 1) := by decide +kernel
theorem dX2_number_75 : decode cX2_number 75 = .ok (.iaload, 1) := by decide +kernel
theorem dX2_number_76 : decode cX2_number 76 = .ok (.goto 5, 3) := by decide +kernel
theorem dX2_number_79 : decode cX2_number 79 = .ok (.ldc 102, 2) := by decide +kernel
theorem dX2_number_81 : decode cX2_number 81 = .ok (.ireturn, 1) := by decide +kernel
theorem dX2_legsOfAll_0 : decode cX2_legsOfAll 0 = .ok (.iconst 0, 1) := by decide +kernel
theorem dX2_legsOfAll_1 : decode cX2_legsOfAll 1 = .ok (.istore_n 1, 1) := by decide +kernel
theorem dX2_legsOfAll_2 : decode cX2_legsOfAll 2 = .ok (.iconst 0, 1) := by decide +kernel
theorem dX2_legsOfAll_3 : decode cX2_legsOfAll 3 = .ok (.istore_n 2, 1) := by decide +kernel
theorem dX2_legsOfAll_4 : decode cX2_legsOfAll 4 = .ok (.iload_n 2, 1) := by decide +kernel
theorem dX2_legsOfAll_5 : decode cX2_legsOfAll 5 = .ok (.aload_n 0, 1) := by decide +kernel
theorem dX2_legsOfAll_6 : decode cX2_legsOfAll 6 = .ok (.getfield 49, 3) := by decide +kernel
theorem dX2_legsOfAll_9 : decode cX2_legsOfAll 9 = .ok (.if_icmp .ge 26, 3) := by decide +kernel
theorem dX2_legsOfAll_12 : decode cX2_legsOfAll 12 = .ok (.iload_n 2, 1) := by decide +kernel
theorem dX2_legsOfAll_13 : decode cX2_legsOfAll 13 = .ok (.iconst 4, 1) := by decide +kernel
theorem dX2_legsOfAll_14 : decode cX2_legsOfAll 14 = .ok (.if_icmp .ge 21, 3) := by decide +kernel
theorem dX2_legsOfAll_17 : decode cX2_legsOfAll 17 = .ok (.iload_n 1, 1) := by decide +kernel
theorem dX2_legsOfAll_18 : decode cX2_legsOfAll 18 = .ok (.aload_n 0, 1) := by decide +kernel
theorem dX2_legsOfAll_19 : decode cX2_legsOfAll 19 = .ok (.getfield 29, 3) := by decide +kernel
theorem dX2_legsOfAll_22 : decode cX2_legsOfAll 22 = .ok (.iload_n 2, 1) := by decide +kernel
theorem dX2_legsOfAll_23 : decode cX2_legsOfAll 23 = .ok (.aaload, 1) := by decide +kernel
theorem dX2_legsOfAll_24 : decode cX2_legsOfAll 24 = .ok (.getfield 110, 3) := by decide +kernel
theorem dX2_legsOfAll_27 : decode cX2_legsOfAll 27 = .ok (.iadd, 1) := by decide +kernel
theorem dX2_legsOfAll_28 : decode cX2_legsOfAll 28 = .ok (.istore_n 1, 1) := by decide +kernel
theorem dX2_legsOfAll_29 : decode cX2_legsOfAll 29 = .ok (.iinc 2 1, 3) := by decide +kernel
theorem dX2_legsOfAll_32 : decode cX2_legsOfAll 32 = .ok (.goto (-28), 3) := by decide +kernel
theorem dX2_legsOfAll_35 : decode cX2_legsOfAll 35 = .ok (.iload_n 1, 1) := by decide +kernel
theorem dX2_legsOfAll_36 : decode cX2_legsOfAll 36 = .ok (.ireturn, 1) := by decide +kernel
theorem dX2_turnsOfAll_0 : decode cX2_turnsOfAll 0 = .ok (.iconst 0, 1) := by decide +kernel
theorem dX2_turnsOfAll_1 : decode cX2_turnsOfAll 1 = .ok (.istore_n 1, 1) := by decide +kernel
theorem dX2_turnsOfAll_2 : decode cX2_turnsOfAll 2 = .ok (.iconst 0, 1) := by decide +kernel
theorem dX2_turnsOfAll_3 : decode cX2_turnsOfAll 3 = .ok (.istore_n 2, 1) := by decide +kernel
theorem dX2_turnsOfAll_4 : decode cX2_turnsOfAll 4 = .ok (.iload_n 2, 1) := by decide +kernel
theorem dX2_turnsOfAll_5 : decode cX2_turnsOfAll 5 = .ok (.aload_n 0, 1) := by decide +kernel
theorem dX2_turnsOfAll_6 : decode cX2_turnsOfAll 6 = .ok (.getfield 42, 3) := by decide +kernel
theorem dX2_turnsOfAll_9 : decode cX2_turnsOfAll 9 = .ok (.if_icmp .ge 27, 3) := by decide +kernel
theorem dX2_turnsOfAll_12 : decode cX2_turnsOfAll 12 = .ok (.iload_n 2, 1) := by decide +kernel
theorem dX2_turnsOfAll_13 : decode cX2_turnsOfAll 13 = .ok (.bipush 6, 2) := by decide +kernel
theorem dX2_turnsOfAll_15 : decode cX2_turnsOfAll 15 = .ok (.if_icmp .ge 21, 3) := by decide +kernel
theorem dX2_turnsOfAll_18 : decode cX2_turnsOfAll 18 = .ok (.iload_n 1, 1) := by decide +kernel
theorem dX2_turnsOfAll_19 : decode cX2_turnsOfAll 19 = .ok (.aload_n 0, 1) := by decide +kernel
theorem dX2_turnsOfAll_20 : decode cX2_turnsOfAll 20 = .ok (.getfield 17, 3) := by decide +kernel
theorem dX2_turnsOfAll_23 : decode cX2_turnsOfAll 23 = .ok (.iload_n 2, 1) := by decide +kernel
theorem dX2_turnsOfAll_24 : decode cX2_turnsOfAll 24 = .ok (.aaload, 1) := by decide +kernel
theorem dX2_turnsOfAll_25 : decode cX2_turnsOfAll 25 = .ok (.getfield 113, 3) := by decide +kernel
theorem dX2_turnsOfAll_28 : decode cX2_turnsOfAll 28 = .ok (.iadd, 1) := by decide +kernel
theorem dX2_turnsOfAll_29 : decode cX2_turnsOfAll 29 = .ok (.istore_n 1, 1) := by decide +kernel
theorem dX2_turnsOfAll_30 : decode cX2_turnsOfAll 30 = .ok (.iinc 2 1, 3) := by decide +kernel
theorem dX2_turnsOfAll_33 : decode cX2_turnsOfAll 33 = .ok (.goto (-29), 3) := by decide +kernel
theorem dX2_turnsOfAll_36 : decode cX2_turnsOfAll 36 = .ok (.iload_n 1, 1) := by decide +kernel
theorem dX2_turnsOfAll_37 : decode cX2_turnsOfAll 37 = .ok (.ireturn, 1) := by decide +kernel
theorem dX2_wireAt_0 : decode cX2_wireAt 0 = .ok (.iload_n 1, 1) := by decide +kernel
theorem dX2_wireAt_1 : decode cX2_wireAt 1 = .ok (.iconst 0, 1) := by decide +kernel
theorem dX2_wireAt_2 : decode cX2_wireAt 2 = .ok (.aload_n 0, 1) := by decide +kernel
theorem dX2_wireAt_3 : decode cX2_wireAt 3 = .ok (.getfield 42, 3) := by decide +kernel
theorem dX2_wireAt_6 : decode cX2_wireAt 6 = .ok (.iconst 1, 1) := by decide +kernel
theorem dX2_wireAt_7 : decode cX2_wireAt 7 = .ok (.isub, 1) := by decide +kernel
theorem dX2_wireAt_8 : decode cX2_wireAt 8 = .ok (.invokestatic 92, 3) := by decide +kernel
theorem dX2_wireAt_11 : decode cX2_wireAt 11 = .ok (.ifCond .eq 18, 3) := by decide +kernel
theorem dX2_wireAt_14 : decode cX2_wireAt 14 = .ok (.iload_n 1, 1) := by decide +kernel
theorem dX2_wireAt_15 : decode cX2_wireAt 15 = .ok (.bipush 6, 2) := by decide +kernel
theorem dX2_wireAt_17 : decode cX2_wireAt 17 = .ok (.if_icmp .ge 12, 3) := by decide +kernel
theorem dX2_wireAt_20 : decode cX2_wireAt 20 = .ok (.aload_n 0, 1) := by decide +kernel
theorem dX2_wireAt_21 : decode cX2_wireAt 21 = .ok (.getfield 17, 3) := by decide +kernel
theorem dX2_wireAt_24 : decode cX2_wireAt 24 = .ok (.iload_n 1, 1) := by decide +kernel
theorem dX2_wireAt_25 : decode cX2_wireAt 25 = .ok (.aaload, 1) := by decide +kernel
theorem dX2_wireAt_26 : decode cX2_wireAt 26 = .ok (.goto 4, 3) := by decide +kernel
theorem dX2_wireAt_29 : decode cX2_wireAt 29 = .ok (.aconst_null, 1) := by decide +kernel
theorem dX2_wireAt_30 : decode cX2_wireAt 30 = .ok (.areturn, 1) := by decide +kernel
theorem dX2_joinAt_0 : decode cX2_joinAt 0 = .ok (.iload_n 1, 1) := by decide +kernel
theorem dX2_joinAt_1 : decode cX2_joinAt 1 = .ok (.iconst 0, 1) := by decide +kernel
theorem dX2_joinAt_2 : decode cX2_joinAt 2 = .ok (.aload_n 0, 1) := by decide +kernel
theorem dX2_joinAt_3 : decode cX2_joinAt 3 = .ok (.getfield 46, 3) := by decide +kernel
theorem dX2_joinAt_6 : decode cX2_joinAt 6 = .ok (.iconst 1, 1) := by decide +kernel
theorem dX2_joinAt_7 : decode cX2_joinAt 7 = .ok (.isub, 1) := by decide +kernel
theorem dX2_joinAt_8 : decode cX2_joinAt 8 = .ok (.invokestatic 92, 3) := by decide +kernel
theorem dX2_joinAt_11 : decode cX2_joinAt 11 = .ok (.ifCond .eq 17, 3) := by decide +kernel
theorem dX2_joinAt_14 : decode cX2_joinAt 14 = .ok (.iload_n 1, 1) := by decide +kernel
theorem dX2_joinAt_15 : decode cX2_joinAt 15 = .ok (.iconst 4, 1) := by decide +kernel
theorem dX2_joinAt_16 : decode cX2_joinAt 16 = .ok (.if_icmp .ge 12, 3) := by decide +kernel
theorem dX2_joinAt_19 : decode cX2_joinAt 19 = .ok (.aload_n 0, 1) := by decide +kernel
theorem dX2_joinAt_20 : decode cX2_joinAt 20 = .ok (.getfield 23, 3) := by decide +kernel
theorem dX2_joinAt_23 : decode cX2_joinAt 23 = .ok (.iload_n 1, 1) := by decide +kernel
theorem dX2_joinAt_24 : decode cX2_joinAt 24 = .ok (.aaload, 1) := by decide +kernel
theorem dX2_joinAt_25 : decode cX2_joinAt 25 = .ok (.goto 4, 3) := by decide +kernel
theorem dX2_joinAt_28 : decode cX2_joinAt 28 = .ok (.aconst_null, 1) := by decide +kernel
theorem dX2_joinAt_29 : decode cX2_joinAt 29 = .ok (.areturn, 1) := by decide +kernel
theorem dX2_traverseAt_0 : decode cX2_traverseAt 0 = .ok (.iload_n 1, 1) := by decide +kernel
theorem dX2_traverseAt_1 : decode cX2_traverseAt 1 = .ok (.iconst 0, 1) := by decide +kernel
theorem dX2_traverseAt_2 : decode cX2_traverseAt 2 = .ok (.aload_n 0, 1) := by decide +kernel
theorem dX2_traverseAt_3 : decode cX2_traverseAt 3 = .ok (.getfield 49, 3) := by decide +kernel
theorem dX2_traverseAt_6 : decode cX2_traverseAt 6 = .ok (.iconst 1, 1) := by decide +kernel
theorem dX2_traverseAt_7 : decode cX2_traverseAt 7 = .ok (.isub, 1) := by decide +kernel
theorem dX2_traverseAt_8 : decode cX2_traverseAt 8 = .ok (.invokestatic 92, 3) := by decide +kernel
theorem dX2_traverseAt_11 : decode cX2_traverseAt 11 = .ok (.ifCond .eq 17, 3) := by decide +kernel
theorem dX2_traverseAt_14 : decode cX2_traverseAt 14 = .ok (.iload_n 1, 1) := by decide +kernel
theorem dX2_traverseAt_15 : decode cX2_traverseAt 15 = .ok (.iconst 4, 1) := by decide +kernel
theorem dX2_traverseAt_16 : decode cX2_traverseAt 16 = .ok (.if_icmp .ge 12, 3) := by decide +kernel
theorem dX2_traverseAt_19 : decode cX2_traverseAt 19 = .ok (.aload_n 0, 1) := by decide +kernel
theorem dX2_traverseAt_20 : decode cX2_traverseAt 20 = .ok (.getfield 29, 3) := by decide +kernel
theorem dX2_traverseAt_23 : decode cX2_traverseAt 23 = .ok (.iload_n 1, 1) := by decide +kernel
theorem dX2_traverseAt_24 : decode cX2_traverseAt 24 = .ok (.aaload, 1) := by decide +kernel
theorem dX2_traverseAt_25 : decode cX2_traverseAt 25 = .ok (.goto 4, 3) := by decide +kernel
theorem dX2_traverseAt_28 : decode cX2_traverseAt 28 = .ok (.aconst_null, 1) := by decide +kernel
theorem dX2_traverseAt_29 : decode cX2_traverseAt 29 = .ok (.areturn, 1) := by decide +kernel
theorem dX2_addWire_0 : decode cX2_addWire 0 = .ok (.aload_n 0, 1) := by decide +kernel
theorem dX2_addWire_1 : decode cX2_addWire 1 = .ok (.getfield 42, 3) := by decide +kernel
theorem dX2_addWire_4 : decode cX2_addWire 4 = .ok (.iconst 0, 1) := by decide +kernel
theorem dX2_addWire_5 : decode cX2_addWire 5 = .ok (.iconst 5, 1) := by decide +kernel
theorem dX2_addWire_6 : decode cX2_addWire 6 = .ok (.invokestatic 92, 3) := by decide +kernel
theorem dX2_addWire_9 : decode cX2_addWire 9 = .ok (.ifCond .ne 6, 3) := by decide +kernel
theorem dX2_addWire_12 : decode cX2_addWire 12 = .ok (.ldc 102, 2) := by decide +kernel
theorem dX2_addWire_14 : decode cX2_addWire 14 = .ok (.ireturn, 1) := by decide +kernel
theorem dX2_addWire_15 : decode cX2_addWire 15 = .ok (.aload_n 0, 1) := by decide +kernel
theorem dX2_addWire_16 : decode cX2_addWire 16 = .ok (.getfield 17, 3) := by decide +kernel
theorem dX2_addWire_19 : decode cX2_addWire 19 = .ok (.aload_n 0, 1) := by decide +kernel
theorem dX2_addWire_20 : decode cX2_addWire 20 = .ok (.getfield 42, 3) := by decide +kernel
theorem dX2_addWire_23 : decode cX2_addWire 23 = .ok (.aaload, 1) := by decide +kernel
theorem dX2_addWire_24 : decode cX2_addWire 24 = .ok (.iload_n 1, 1) := by decide +kernel
theorem dX2_addWire_25 : decode cX2_addWire 25 = .ok (.iload_n 2, 1) := by decide +kernel
theorem dX2_addWire_26 : decode cX2_addWire 26 = .ok (.invokevirtual 116, 3) := by decide +kernel
theorem dX2_addWire_29 : decode cX2_addWire 29 = .ok (.aload_n 0, 1) := by decide +kernel
theorem dX2_addWire_30 : decode cX2_addWire 30 = .ok (.dup, 1) := by decide +kernel
theorem dX2_addWire_31 : decode cX2_addWire 31 = .ok (.getfield 42, 3) := by decide +kernel
theorem dX2_addWire_34 : decode cX2_addWire 34 = .ok (.iconst 1, 1) := by decide +kernel
theorem dX2_addWire_35 : decode cX2_addWire 35 = .ok (.iadd, 1) := by decide +kernel
theorem dX2_addWire_36 : decode cX2_addWire 36 = .ok (.putfield 42, 3) := by decide +kernel
theorem dX2_addWire_39 : decode cX2_addWire 39 = .ok (.aload_n 0, 1) := by decide +kernel
theorem dX2_addWire_40 : decode cX2_addWire 40 = .ok (.getfield 42, 3) := by decide +kernel
theorem dX2_addWire_43 : decode cX2_addWire 43 = .ok (.iconst 1, 1) := by decide +kernel
theorem dX2_addWire_44 : decode cX2_addWire 44 = .ok (.isub, 1) := by decide +kernel
theorem dX2_addWire_45 : decode cX2_addWire 45 = .ok (.ireturn, 1) := by decide +kernel
theorem dX2_addJoin_0 : decode cX2_addJoin 0 = .ok (.aload_n 0, 1) := by decide +kernel
theorem dX2_addJoin_1 : decode cX2_addJoin 1 = .ok (.getfield 46, 3) := by decide +kernel
theorem dX2_addJoin_4 : decode cX2_addJoin 4 = .ok (.iconst 0, 1) := by decide +kernel
theorem dX2_addJoin_5 : decode cX2_addJoin 5 = .ok (.iconst 3, 1) := by decide +kernel
theorem dX2_addJoin_6 : decode cX2_addJoin 6 = .ok (.invokestatic 92, 3) := by decide +kernel
theorem dX2_addJoin_9 : decode cX2_addJoin 9 = .ok (.ifCond .ne 6, 3) := by decide +kernel
theorem dX2_addJoin_12 : decode cX2_addJoin 12 = .ok (.ldc 102, 2) := by decide +kernel
theorem dX2_addJoin_14 : decode cX2_addJoin 14 = .ok (.ireturn, 1) := by decide +kernel
theorem dX2_addJoin_15 : decode cX2_addJoin 15 = .ok (.aload_n 0, 1) := by decide +kernel
theorem dX2_addJoin_16 : decode cX2_addJoin 16 = .ok (.getfield 23, 3) := by decide +kernel
theorem dX2_addJoin_19 : decode cX2_addJoin 19 = .ok (.aload_n 0, 1) := by decide +kernel
theorem dX2_addJoin_20 : decode cX2_addJoin 20 = .ok (.getfield 46, 3) := by decide +kernel
theorem dX2_addJoin_23 : decode cX2_addJoin 23 = .ok (.aaload, 1) := by decide +kernel
theorem dX2_addJoin_24 : decode cX2_addJoin 24 = .ok (.iload_n 1, 1) := by decide +kernel
theorem dX2_addJoin_25 : decode cX2_addJoin 25 = .ok (.iload_n 2, 1) := by decide +kernel
theorem dX2_addJoin_26 : decode cX2_addJoin 26 = .ok (.iload_n 3, 1) := by decide +kernel
theorem dX2_addJoin_27 : decode cX2_addJoin 27 = .ok (.iload 4, 2) := by decide +kernel
theorem dX2_addJoin_29 : decode cX2_addJoin 29 = .ok (.iload 5, 2) := by decide +kernel
theorem dX2_addJoin_31 : decode cX2_addJoin 31 = .ok (.iload 6, 2) := by decide +kernel
theorem dX2_addJoin_33 : decode cX2_addJoin 33 = .ok (.invokevirtual 120, 3) := by decide +kernel
theorem dX2_addJoin_36 : decode cX2_addJoin 36 = .ok (.aload_n 0, 1) := by decide +kernel
theorem dX2_addJoin_37 : decode cX2_addJoin 37 = .ok (.dup, 1) := by decide +kernel
theorem dX2_addJoin_38 : decode cX2_addJoin 38 = .ok (.getfield 46, 3) := by decide +kernel
theorem dX2_addJoin_41 : decode cX2_addJoin 41 = .ok (.iconst 1, 1) := by decide +kernel
theorem dX2_addJoin_42 : decode cX2_addJoin 42 = .ok (.iadd, 1) := by decide +kernel
theorem dX2_addJoin_43 : decode cX2_addJoin 43 = .ok (.putfield 46, 3) := by decide +kernel
theorem dX2_addJoin_46 : decode cX2_addJoin 46 = .ok (.aload_n 0, 1) := by decide +kernel
theorem dX2_addJoin_47 : decode cX2_addJoin 47 = .ok (.getfield 46, 3) := by decide +kernel
theorem dX2_addJoin_50 : decode cX2_addJoin 50 = .ok (.iconst 1, 1) := by decide +kernel
theorem dX2_addJoin_51 : decode cX2_addJoin 51 = .ok (.isub, 1) := by decide +kernel
theorem dX2_addJoin_52 : decode cX2_addJoin 52 = .ok (.ireturn, 1) := by decide +kernel
theorem dX2_addTraverse_0 : decode cX2_addTraverse 0 = .ok (.aload_n 0, 1) := by decide +kernel
theorem dX2_addTraverse_1 : decode cX2_addTraverse 1 = .ok (.getfield 49, 3) := by decide +kernel
theorem dX2_addTraverse_4 : decode cX2_addTraverse 4 = .ok (.iconst 0, 1) := by decide +kernel
theorem dX2_addTraverse_5 : decode cX2_addTraverse 5 = .ok (.iconst 3, 1) := by decide +kernel
theorem dX2_addTraverse_6 : decode cX2_addTraverse 6 = .ok (.invokestatic 92, 3) := by decide +kernel
theorem dX2_addTraverse_9 : decode cX2_addTraverse 9 = .ok (.ifCond .ne 6, 3) := by decide +kernel
theorem dX2_addTraverse_12 : decode cX2_addTraverse 12 = .ok (.ldc 102, 2) := by decide +kernel
theorem dX2_addTraverse_14 : decode cX2_addTraverse 14 = .ok (.ireturn, 1) := by decide +kernel
theorem dX2_addTraverse_15 : decode cX2_addTraverse 15 = .ok (.aload_n 0, 1) := by decide +kernel
theorem dX2_addTraverse_16 : decode cX2_addTraverse 16 = .ok (.getfield 29, 3) := by decide +kernel
theorem dX2_addTraverse_19 : decode cX2_addTraverse 19 = .ok (.aload_n 0, 1) := by decide +kernel
theorem dX2_addTraverse_20 : decode cX2_addTraverse 20 = .ok (.getfield 49, 3) := by decide +kernel
theorem dX2_addTraverse_23 : decode cX2_addTraverse 23 = .ok (.aaload, 1) := by decide +kernel
theorem dX2_addTraverse_24 : decode cX2_addTraverse 24 = .ok (.iload_n 1, 1) := by decide +kernel
theorem dX2_addTraverse_25 : decode cX2_addTraverse 25 = .ok (.invokevirtual 124, 3) := by decide +kernel
theorem dX2_addTraverse_28 : decode cX2_addTraverse 28 = .ok (.aload_n 0, 1) := by decide +kernel
theorem dX2_addTraverse_29 : decode cX2_addTraverse 29 = .ok (.dup, 1) := by decide +kernel
theorem dX2_addTraverse_30 : decode cX2_addTraverse 30 = .ok (.getfield 49, 3) := by decide +kernel
theorem dX2_addTraverse_33 : decode cX2_addTraverse 33 = .ok (.iconst 1, 1) := by decide +kernel
theorem dX2_addTraverse_34 : decode cX2_addTraverse 34 = .ok (.iadd, 1) := by decide +kernel
theorem dX2_addTraverse_35 : decode cX2_addTraverse 35 = .ok (.putfield 49, 3) := by decide +kernel
theorem dX2_addTraverse_38 : decode cX2_addTraverse 38 = .ok (.aload_n 0, 1) := by decide +kernel
theorem dX2_addTraverse_39 : decode cX2_addTraverse 39 = .ok (.getfield 49, 3) := by decide +kernel
theorem dX2_addTraverse_42 : decode cX2_addTraverse 42 = .ok (.iconst 1, 1) := by decide +kernel
theorem dX2_addTraverse_43 : decode cX2_addTraverse 43 = .ok (.isub, 1) := by decide +kernel
theorem dX2_addTraverse_44 : decode cX2_addTraverse 44 = .ok (.ireturn, 1) := by decide +kernel
theorem dX2_troubleOf_0 : decode cX2_troubleOf 0 = .ok (.iload_n 2, 1) := by decide +kernel
theorem dX2_troubleOf_1 : decode cX2_troubleOf 1 = .ok (.ifCond .ne 20, 3) := by decide +kernel
theorem dX2_troubleOf_4 : decode cX2_troubleOf 4 = .ok (.aload_n 1, 1) := by decide +kernel
theorem dX2_troubleOf_5 : decode cX2_troubleOf 5 = .ok (.getfield 127, 3) := by decide +kernel
theorem dX2_troubleOf_8 : decode cX2_troubleOf 8 = .ok (.ifCond .ne 8, 3) := by decide +kernel
theorem dX2_troubleOf_11 : decode cX2_troubleOf 11 = .ok (.ldc 102, 2) := by decide +kernel
theorem dX2_troubleOf_13 : decode cX2_troubleOf 13 = .ok (.goto 7, 3) := by decide +kernel
theorem dX2_troubleOf_16 : decode cX2_troubleOf 16 = .ok (.aload_n 1, 1) := by decide +kernel
theorem dX2_troubleOf_17 : decode cX2_troubleOf 17 = .ok (.getfield 127, 3) := by decide +kernel
theorem dX2_troubleOf_20 : decode cX2_troubleOf 20 = .ok (.ireturn, 1) := by decide +kernel
theorem dX2_troubleOf_21 : decode cX2_troubleOf 21 = .ok (.aconst_null, 1) := by decide +kernel
theorem dX2_troubleOf_22 : decode cX2_troubleOf 22 = .ok (.astore_n 3, 1) := by decide +kernel
theorem dX2_troubleOf_23 : decode cX2_troubleOf 23 = .ok (.aload_n 1, 1) := by decide +kernel
theorem dX2_troubleOf_24 : decode cX2_troubleOf 24 = .ok (.getfield 127, 3) := by decide +kernel
theorem dX2_troubleOf_27 : decode cX2_troubleOf 27 = .ok (.bipush 6, 2) := by decide +kernel
theorem dX2_troubleOf_29 : decode cX2_troubleOf 29 = .ok (.if_icmp .ne 15, 3) := by decide +kernel
theorem dX2_troubleOf_32 : decode cX2_troubleOf 32 = .ok (.aload_n 0, 1) := by decide +kernel
theorem dX2_troubleOf_33 : decode cX2_troubleOf 33 = .ok (.aload_n 1, 1) := by decide +kernel
theorem dX2_troubleOf_34 : decode cX2_troubleOf 34 = .ok (.getfield 79, 3) := by decide +kernel
theorem dX2_troubleOf_37 : decode cX2_troubleOf 37 = .ok (.invokevirtual 82, 3) := by decide +kernel
theorem dX2_troubleOf_40 : decode cX2_troubleOf 40 = .ok (.astore_n 3, 1) := by decide +kernel
theorem dX2_troubleOf_41 : decode cX2_troubleOf 41 = .ok (.goto 21, 3) := by decide +kernel
theorem dX2_troubleOf_44 : decode cX2_troubleOf 44 = .ok (.aload_n 1, 1) := by decide +kernel
theorem dX2_troubleOf_45 : decode cX2_troubleOf 45 = .ok (.getfield 127, 3) := by decide +kernel
theorem dX2_troubleOf_48 : decode cX2_troubleOf 48 = .ok (.bipush 7, 2) := by decide +kernel
theorem dX2_troubleOf_50 : decode cX2_troubleOf 50 = .ok (.if_icmp .ne 12, 3) := by decide +kernel
theorem dX2_troubleOf_53 : decode cX2_troubleOf 53 = .ok (.aload_n 0, 1) := by decide +kernel
theorem dX2_troubleOf_54 : decode cX2_troubleOf 54 = .ok (.aload_n 1, 1) := by decide +kernel
theorem dX2_troubleOf_55 : decode cX2_troubleOf 55 = .ok (.getfield 86, 3) := by decide +kernel
theorem dX2_troubleOf_58 : decode cX2_troubleOf 58 = .ok (.invokevirtual 82, 3) := by decide +kernel
theorem dX2_troubleOf_61 : decode cX2_troubleOf 61 = .ok (.astore_n 3, 1) := by decide +kernel
theorem dX2_troubleOf_62 : decode cX2_troubleOf 62 = .ok (.aload_n 3, 1) := by decide +kernel
theorem dX2_troubleOf_63 : decode cX2_troubleOf 63 = .ok (.ifnonnull 6, 3) := by decide +kernel
theorem dX2_troubleOf_66 : decode cX2_troubleOf 66 = .ok (.ldc 102, 2) := by decide +kernel
theorem dX2_troubleOf_68 : decode cX2_troubleOf 68 = .ok (.ireturn, 1) := by decide +kernel
theorem dX2_troubleOf_69 : decode cX2_troubleOf 69 = .ok (.iload_n 2, 1) := by decide +kernel
theorem dX2_troubleOf_70 : decode cX2_troubleOf 70 = .ok (.iconst 1, 1) := by decide +kernel
theorem dX2_troubleOf_71 : decode cX2_troubleOf 71 = .ok (.if_icmp .ne 8, 3) := by decide +kernel
theorem dX2_troubleOf_74 : decode cX2_troubleOf 74 = .ok (.aload_n 3, 1) := by decide +kernel
theorem dX2_troubleOf_75 : decode cX2_troubleOf 75 = .ok (.getfield 130, 3) := by decide +kernel
theorem dX2_troubleOf_78 : decode cX2_troubleOf 78 = .ok (.ireturn, 1) := by decide +kernel
theorem dX2_troubleOf_79 : decode cX2_troubleOf 79 = .ok (.iload_n 2, 1) := by decide +kernel
theorem dX2_troubleOf_80 : decode cX2_troubleOf 80 = .ok (.iconst 2, 1) := by decide +kernel
theorem dX2_troubleOf_81 : decode cX2_troubleOf 81 = .ok (.if_icmp .ne 17, 3) := by decide +kernel
theorem dX2_troubleOf_84 : decode cX2_troubleOf 84 = .ok (.aload_n 3, 1) := by decide +kernel
theorem dX2_troubleOf_85 : decode cX2_troubleOf 85 = .ok (.getfield 131, 3) := by decide +kernel
theorem dX2_troubleOf_88 : decode cX2_troubleOf 88 = .ok (.ifCond .eq 10, 3) := by decide +kernel
theorem dX2_troubleOf_91 : decode cX2_troubleOf 91 = .ok (.aload_n 3, 1) := by decide +kernel
theorem dX2_troubleOf_92 : decode cX2_troubleOf 92 = .ok (.getfield 131, 3) := by decide +kernel
theorem dX2_troubleOf_95 : decode cX2_troubleOf 95 = .ok (.goto 5, 3) := by decide +kernel
theorem dX2_troubleOf_98 : decode cX2_troubleOf 98 = .ok (.ldc 102, 2) := by decide +kernel
theorem dX2_troubleOf_100 : decode cX2_troubleOf 100 = .ok (.ireturn, 1) := by decide +kernel
theorem dX3_norm_0 : decode cX3_norm 0 = .ok (.iload_n 0, 1) := by decide +kernel
theorem dX3_norm_1 : decode cX3_norm 1 = .ok (.ldc 9, 2) := by decide +kernel
theorem dX3_norm_3 : decode cX3_norm 3 = .ok (.irem, 1) := by decide +kernel
theorem dX3_norm_4 : decode cX3_norm 4 = .ok (.istore_n 1, 1) := by decide +kernel
theorem dX3_norm_5 : decode cX3_norm 5 = .ok (.iload_n 1, 1) := by decide +kernel
theorem dX3_norm_6 : decode cX3_norm 6 = .ok (.ifCond .ge 10, 3) := by decide +kernel
theorem dX3_norm_9 : decode cX3_norm 9 = .ok (.iload_n 1, 1) := by decide +kernel
theorem dX3_norm_10 : decode cX3_norm 10 = .ok (.ldc 9, 2) := by decide +kernel
theorem dX3_norm_12 : decode cX3_norm 12 = .ok (.iadd, 1) := by decide +kernel
theorem dX3_norm_13 : decode cX3_norm 13 = .ok (.goto 4, 3) := by decide +kernel
theorem dX3_norm_16 : decode cX3_norm 16 = .ok (.iload_n 1, 1) := by decide +kernel
theorem dX3_norm_17 : decode cX3_norm 17 = .ok (.ireturn, 1) := by decide +kernel
theorem dX3_centre_0 : decode cX3_centre 0 = .ok (.iload_n 0, 1) := by decide +kernel
theorem dX3_centre_1 : decode cX3_centre 1 = .ok (.ldc 10, 2) := by decide +kernel
theorem dX3_centre_3 : decode cX3_centre 3 = .ok (.iadd, 1) := by decide +kernel
theorem dX3_centre_4 : decode cX3_centre 4 = .ok (.invokestatic 11, 3) := by decide +kernel
theorem dX3_centre_7 : decode cX3_centre 7 = .ok (.ldc 10, 2) := by decide +kernel
theorem dX3_centre_9 : decode cX3_centre 9 = .ok (.isub, 1) := by decide +kernel
theorem dX3_centre_10 : decode cX3_centre 10 = .ok (.ireturn, 1) := by decide +kernel
theorem dX3_sineOf_0 : decode cX3_sineOf 0 = .ok (.iload_n 0, 1) := by decide +kernel
theorem dX3_sineOf_1 : decode cX3_sineOf 1 = .ok (.invokestatic 11, 3) := by decide +kernel
theorem dX3_sineOf_4 : decode cX3_sineOf 4 = .ok (.istore_n 1, 1) := by decide +kernel
theorem dX3_sineOf_5 : decode cX3_sineOf 5 = .ok (.iload_n 1, 1) := by decide +kernel
theorem dX3_sineOf_6 : decode cX3_sineOf 6 = .ok (.ldc 10, 2) := by decide +kernel
theorem dX3_sineOf_8 : decode cX3_sineOf 8 = .ok (.if_icmp .ge 8, 3) := by decide +kernel
theorem dX3_sineOf_11 : decode cX3_sineOf 11 = .ok (.iload_n 1, 1) := by decide +kernel
theorem dX3_sineOf_12 : decode cX3_sineOf 12 = .ok (.i2l, 1) := by decide +kernel
theorem dX3_sineOf_13 : decode cX3_sineOf 13 = .ok (.goto 8, 3) := by decide +kernel
theorem dX3_sineOf_16 : decode cX3_sineOf 16 = .ok (.iload_n 1, 1) := by decide +kernel
theorem dX3_sineOf_17 : decode cX3_sineOf 17 = .ok (.ldc 10, 2) := by decide +kernel
theorem dX3_sineOf_19 : decode cX3_sineOf 19 = .ok (.isub, 1) := by decide +kernel
theorem dX3_sineOf_20 : decode cX3_sineOf 20 = .ok (.i2l, 1) := by decide +kernel
theorem dX3_sineOf_21 : decode cX3_sineOf 21 = .ok (.lstore_n 2, 1) := by decide +kernel
theorem dX3_sineOf_22 : decode cX3_sineOf 22 = .ok (.lload_n 2, 1) := by decide +kernel
theorem dX3_sineOf_23 : decode cX3_sineOf 23 = .ok (.ldc2_w 17, 3) := by decide +kernel
theorem dX3_sineOf_26 : decode cX3_sineOf 26 = .ok (.lload_n 2, 1) := by decide +kernel
theorem dX3_sineOf_27 : decode cX3_sineOf 27 = .ok (.lsub, 1) := by decide +kernel
theorem dX3_sineOf_28 : decode cX3_sineOf 28 = .ok (.lmul, 1) := by decide +kernel
theorem dX3_sineOf_29 : decode cX3_sineOf 29 = .ok (.lstore 4, 2) := by decide +kernel
theorem dX3_sineOf_31 : decode cX3_sineOf 31 = .ok (.ldc2_w 19, 3) := by decide +kernel
theorem dX3_sineOf_34 : decode cX3_sineOf 34 = .ok (.lload 4, 2) := by decide +kernel
theorem dX3_sineOf_36 : decode cX3_sineOf 36 = .ok (.lmul, 1) := by decide +kernel
theorem dX3_sineOf_37 : decode cX3_sineOf 37 = .ok (.ldc2_w 21, 3) := by decide +kernel
theorem dX3_sineOf_40 : decode cX3_sineOf 40 = .ok (.lload 4, 2) := by decide +kernel
theorem dX3_sineOf_42 : decode cX3_sineOf 42 = .ok (.lsub, 1) := by decide +kernel
theorem dX3_sineOf_43 : decode cX3_sineOf 43 = .ok (.invokestatic 23, 3) := by decide +kernel
theorem dX3_sineOf_46 : decode cX3_sineOf 46 = .ok (.istore 6, 2) := by decide +kernel
theorem dX3_sineOf_48 : decode cX3_sineOf 48 = .ok (.iload_n 1, 1) := by decide +kernel
theorem dX3_sineOf_49 : decode cX3_sineOf 49 = .ok (.ldc 10, 2) := by decide +kernel
theorem dX3_sineOf_51 : decode cX3_sineOf 51 = .ok (.if_icmp .ge 8, 3) := by decide +kernel
theorem dX3_sineOf_54 : decode cX3_sineOf 54 = .ok (.iload 6, 2) := by decide +kernel
theorem dX3_sineOf_56 : decode cX3_sineOf 56 = .ok (.goto 6, 3) := by decide +kernel
theorem dX3_sineOf_59 : decode cX3_sineOf 59 = .ok (.iload 6, 2) := by decide +kernel
theorem dX3_sineOf_61 : decode cX3_sineOf 61 = .ok (.ineg, 1) := by decide +kernel
theorem dX3_sineOf_62 : decode cX3_sineOf 62 = .ok (.ireturn, 1) := by decide +kernel
theorem dX3_quotient_0 : decode cX3_quotient 0 = .ok (.lload_n 2, 1) := by decide +kernel
theorem dX3_quotient_1 : decode cX3_quotient 1 = .ok (.lconst 0, 1) := by decide +kernel
theorem dX3_quotient_2 : decode cX3_quotient 2 = .ok (.lcmp, 1) := by decide +kernel
theorem dX3_quotient_3 : decode cX3_quotient 3 = .ok (.ifCond .ne 7, 3) := by decide +kernel
theorem dX3_quotient_6 : decode cX3_quotient 6 = .ok (.iconst 0, 1) := by decide +kernel
theorem dX3_quotient_7 : decode cX3_quotient 7 = .ok (.goto 7, 3) := by decide +kernel
theorem dX3_quotient_10 : decode cX3_quotient 10 = .ok (.lload_n 0, 1) := by decide +kernel
theorem dX3_quotient_11 : decode cX3_quotient 11 = .ok (.lload_n 2, 1) := by decide +kernel
theorem dX3_quotient_12 : decode cX3_quotient 12 = .ok (.ldiv, 1) := by decide +kernel
theorem dX3_quotient_13 : decode cX3_quotient 13 = .ok (.l2i, 1) := by decide +kernel
theorem dX3_quotient_14 : decode cX3_quotient 14 = .ok (.ireturn, 1) := by decide +kernel
theorem dX3_lengthOf_0 : decode cX3_lengthOf 0 = .ok (.lload_n 0, 1) := by decide +kernel
theorem dX3_lengthOf_1 : decode cX3_lengthOf 1 = .ok (.lload_n 2, 1) := by decide +kernel
theorem dX3_lengthOf_2 : decode cX3_lengthOf 2 = .ok (.invokestatic 27, 3) := by decide +kernel
theorem dX3_lengthOf_5 : decode cX3_lengthOf 5 = .ok (.invokestatic 31, 3) := by decide +kernel
theorem dX3_lengthOf_8 : decode cX3_lengthOf 8 = .ok (.ireturn, 1) := by decide +kernel
theorem dX3_squareOf_0 : decode cX3_squareOf 0 = .ok (.lload_n 0, 1) := by decide +kernel
theorem dX3_squareOf_1 : decode cX3_squareOf 1 = .ok (.lload_n 0, 1) := by decide +kernel
theorem dX3_squareOf_2 : decode cX3_squareOf 2 = .ok (.lmul, 1) := by decide +kernel
theorem dX3_squareOf_3 : decode cX3_squareOf 3 = .ok (.lload_n 2, 1) := by decide +kernel
theorem dX3_squareOf_4 : decode cX3_squareOf 4 = .ok (.lload_n 2, 1) := by decide +kernel
theorem dX3_squareOf_5 : decode cX3_squareOf 5 = .ok (.lmul, 1) := by decide +kernel
theorem dX3_squareOf_6 : decode cX3_squareOf 6 = .ok (.ladd, 1) := by decide +kernel
theorem dX3_squareOf_7 : decode cX3_squareOf 7 = .ok (.lreturn, 1) := by decide +kernel
theorem dX3_rootOf_0 : decode cX3_rootOf 0 = .ok (.lconst 0, 1) := by decide +kernel
theorem dX3_rootOf_1 : decode cX3_rootOf 1 = .ok (.lstore_n 2, 1) := by decide +kernel
theorem dX3_rootOf_2 : decode cX3_rootOf 2 = .ok (.bipush 30, 2) := by decide +kernel
theorem dX3_rootOf_4 : decode cX3_rootOf 4 = .ok (.istore 4, 2) := by decide +kernel
theorem dX3_rootOf_6 : decode cX3_rootOf 6 = .ok (.iload 4, 2) := by decide +kernel
theorem dX3_rootOf_8 : decode cX3_rootOf 8 = .ok (.ifCond .lt 30, 3) := by decide +kernel
theorem dX3_rootOf_11 : decode cX3_rootOf 11 = .ok (.lload_n 2, 1) := by decide +kernel
theorem dX3_rootOf_12 : decode cX3_rootOf 12 = .ok (.lconst 1, 1) := by decide +kernel
theorem dX3_rootOf_13 : decode cX3_rootOf 13 = .ok (.iload 4, 2) := by decide +kernel
theorem dX3_rootOf_15 : decode cX3_rootOf 15 = .ok (.lshl, 1) := by decide +kernel
theorem dX3_rootOf_16 : decode cX3_rootOf 16 = .ok (.ladd, 1) := by decide +kernel
theorem dX3_rootOf_17 : decode cX3_rootOf 17 = .ok (.lstore 5, 2) := by decide +kernel
theorem dX3_rootOf_19 : decode cX3_rootOf 19 = .ok (.lload 5, 2) := by decide +kernel
theorem dX3_rootOf_21 : decode cX3_rootOf 21 = .ok (.lload 5, 2) := by decide +kernel
theorem dX3_rootOf_23 : decode cX3_rootOf 23 = .ok (.lmul, 1) := by decide +kernel
theorem dX3_rootOf_24 : decode cX3_rootOf 24 = .ok (.lload_n 0, 1) := by decide +kernel
theorem dX3_rootOf_25 : decode cX3_rootOf 25 = .ok (.lcmp, 1) := by decide +kernel
theorem dX3_rootOf_26 : decode cX3_rootOf 26 = .ok (.ifCond .gt 6, 3) := by decide +kernel
theorem dX3_rootOf_29 : decode cX3_rootOf 29 = .ok (.lload 5, 2) := by decide +kernel
theorem dX3_rootOf_31 : decode cX3_rootOf 31 = .ok (.lstore_n 2, 1) := by decide +kernel
theorem dX3_rootOf_32 : decode cX3_rootOf 32 = .ok (.iinc 4 (-1), 3) := by decide +kernel
theorem dX3_rootOf_35 : decode cX3_rootOf 35 = .ok (.goto (-29), 3) := by decide +kernel
theorem dX3_rootOf_38 : decode cX3_rootOf 38 = .ok (.lload_n 2, 1) := by decide +kernel
theorem dX3_rootOf_39 : decode cX3_rootOf 39 = .ok (.l2i, 1) := by decide +kernel
theorem dX3_rootOf_40 : decode cX3_rootOf 40 = .ok (.ireturn, 1) := by decide +kernel
theorem dX4_init_0 : decode cX4_init 0 = .ok (.aload_n 0, 1) := by decide +kernel
theorem dX4_init_1 : decode cX4_init 1 = .ok (.invokespecial 3, 3) := by decide +kernel
theorem dX4_init_4 : decode cX4_init 4 = .ok (.aload_n 0, 1) := by decide +kernel
theorem dX4_init_5 : decode cX4_init 5 = .ok (.iconst 3, 1) := by decide +kernel
theorem dX4_init_6 : decode cX4_init 6 = .ok (.newarray .int, 2) := by decide +kernel
theorem dX4_init_8 : decode cX4_init 8 = .ok (.putfield 9, 3) := by decide +kernel
theorem dX4_init_11 : decode cX4_init 11 = .ok (.aload_n 0, 1) := by decide +kernel
theorem dX4_init_12 : decode cX4_init 12 = .ok (.bipush 90, 2) := by decide +kernel
theorem dX4_init_14 : decode cX4_init 14 = .ok (.newarray .char, 2) := by decide +kernel
theorem dX4_init_16 : decode cX4_init 16 = .ok (.putfield 15, 3) := by decide +kernel
theorem dX4_init_19 : decode cX4_init 19 = .ok (.return_, 1) := by decide +kernel
theorem dX5_init_0 : decode cX5_init 0 = .ok (.aload_n 0, 1) := by decide +kernel
theorem dX5_init_1 : decode cX5_init 1 = .ok (.invokespecial 3, 3) := by decide +kernel
theorem dX5_init_4 : decode cX5_init 4 = .ok (.aload_n 0, 1) := by decide +kernel
theorem dX5_init_5 : decode cX5_init 5 = .ok (.bipush 12, 2) := by decide +kernel
theorem dX5_init_7 : decode cX5_init 7 = .ok (.newarray .int, 2) := by decide +kernel
theorem dX5_init_9 : decode cX5_init 9 = .ok (.putfield 9, 3) := by decide +kernel
theorem dX5_init_12 : decode cX5_init 12 = .ok (.aload_n 0, 1) := by decide +kernel
theorem dX5_init_13 : decode cX5_init 13 = .ok (.bipush 12, 2) := by decide +kernel
theorem dX5_init_15 : decode cX5_init 15 = .ok (.newarray .int, 2) := by decide +kernel
theorem dX5_init_17 : decode cX5_init 17 = .ok (.putfield 15, 3) := by decide +kernel
theorem dX5_init_20 : decode cX5_init 20 = .ok (.aload_n 0, 1) := by decide +kernel
theorem dX5_init_21 : decode cX5_init 21 = .ok (.bipush 12, 2) := by decide +kernel
theorem dX5_init_23 : decode cX5_init 23 = .ok (.newarray .int, 2) := by decide +kernel
theorem dX5_init_25 : decode cX5_init 25 = .ok (.putfield 18, 3) := by decide +kernel
theorem dX5_init_28 : decode cX5_init 28 = .ok (.aload_n 0, 1) := by decide +kernel
theorem dX5_init_29 : decode cX5_init 29 = .ok (.bipush 12, 2) := by decide +kernel
theorem dX5_init_31 : decode cX5_init 31 = .ok (.newarray .int, 2) := by decide +kernel
theorem dX5_init_33 : decode cX5_init 33 = .ok (.putfield 21, 3) := by decide +kernel
theorem dX5_init_36 : decode cX5_init 36 = .ok (.aload_n 0, 1) := by decide +kernel
theorem dX5_init_37 : decode cX5_init 37 = .ok (.bipush 12, 2) := by decide +kernel
theorem dX5_init_39 : decode cX5_init 39 = .ok (.newarray .int, 2) := by decide +kernel
theorem dX5_init_41 : decode cX5_init 41 = .ok (.putfield 24, 3) := by decide +kernel
theorem dX5_init_44 : decode cX5_init 44 = .ok (.return_, 1) := by decide +kernel
theorem dX5_copyFrom_0 : decode cX5_copyFrom 0 = .ok (.aload_n 0, 1) := by decide +kernel
theorem dX5_copyFrom_1 : decode cX5_copyFrom 1 = .ok (.aload_n 1, 1) := by decide +kernel
theorem dX5_copyFrom_2 : decode cX5_copyFrom 2 = .ok (.getfield 27, 3) := by decide +kernel
theorem dX5_copyFrom_5 : decode cX5_copyFrom 5 = .ok (.putfield 27, 3) := by decide +kernel
theorem dX5_copyFrom_8 : decode cX5_copyFrom 8 = .ok (.aload_n 0, 1) := by decide +kernel
theorem dX5_copyFrom_9 : decode cX5_copyFrom 9 = .ok (.aload_n 1, 1) := by decide +kernel
theorem dX5_copyFrom_10 : decode cX5_copyFrom 10 = .ok (.getfield 31, 3) := by decide +kernel
theorem dX5_copyFrom_13 : decode cX5_copyFrom 13 = .ok (.putfield 31, 3) := by decide +kernel
theorem dX5_copyFrom_16 : decode cX5_copyFrom 16 = .ok (.aload_n 0, 1) := by decide +kernel
theorem dX5_copyFrom_17 : decode cX5_copyFrom 17 = .ok (.aload_n 1, 1) := by decide +kernel
theorem dX5_copyFrom_18 : decode cX5_copyFrom 18 = .ok (.getfield 34, 3) := by decide +kernel
theorem dX5_copyFrom_21 : decode cX5_copyFrom 21 = .ok (.putfield 34, 3) := by decide +kernel
theorem dX5_copyFrom_24 : decode cX5_copyFrom 24 = .ok (.aload_n 0, 1) := by decide +kernel
theorem dX5_copyFrom_25 : decode cX5_copyFrom 25 = .ok (.aload_n 1, 1) := by decide +kernel
theorem dX5_copyFrom_26 : decode cX5_copyFrom 26 = .ok (.getfield 37, 3) := by decide +kernel
theorem dX5_copyFrom_29 : decode cX5_copyFrom 29 = .ok (.putfield 37, 3) := by decide +kernel
theorem dX5_copyFrom_32 : decode cX5_copyFrom 32 = .ok (.aload_n 1, 1) := by decide +kernel
theorem dX5_copyFrom_33 : decode cX5_copyFrom 33 = .ok (.getfield 9, 3) := by decide +kernel
theorem dX5_copyFrom_36 : decode cX5_copyFrom 36 = .ok (.iconst 0, 1) := by decide +kernel
theorem dX5_copyFrom_37 : decode cX5_copyFrom 37 = .ok (.aload_n 0, 1) := by decide +kernel
theorem dX5_copyFrom_38 : decode cX5_copyFrom 38 = .ok (.getfield 9, 3) := by decide +kernel
theorem dX5_copyFrom_41 : decode cX5_copyFrom 41 = .ok (.iconst 0, 1) := by decide +kernel
theorem dX5_copyFrom_42 : decode cX5_copyFrom 42 = .ok (.bipush 12, 2) := by decide +kernel
theorem dX5_copyFrom_44 : decode cX5_copyFrom 44 = .ok (.invokestatic 40, 3) := by decide +kernel
theorem dX5_copyFrom_47 : decode cX5_copyFrom 47 = .ok (.aload_n 1, 1) := by decide +kernel
theorem dX5_copyFrom_48 : decode cX5_copyFrom 48 = .ok (.getfield 15, 3) := by decide +kernel
theorem dX5_copyFrom_51 : decode cX5_copyFrom 51 = .ok (.iconst 0, 1) := by decide +kernel
theorem dX5_copyFrom_52 : decode cX5_copyFrom 52 = .ok (.aload_n 0, 1) := by decide +kernel
theorem dX5_copyFrom_53 : decode cX5_copyFrom 53 = .ok (.getfield 15, 3) := by decide +kernel
theorem dX5_copyFrom_56 : decode cX5_copyFrom 56 = .ok (.iconst 0, 1) := by decide +kernel
theorem dX5_copyFrom_57 : decode cX5_copyFrom 57 = .ok (.bipush 12, 2) := by decide +kernel
theorem dX5_copyFrom_59 : decode cX5_copyFrom 59 = .ok (.invokestatic 40, 3) := by decide +kernel
theorem dX5_copyFrom_62 : decode cX5_copyFrom 62 = .ok (.return_, 1) := by decide +kernel
theorem dX5_startAt_0 : decode cX5_startAt 0 = .ok (.aload_n 0, 1) := by decide +kernel
theorem dX5_startAt_1 : decode cX5_startAt 1 = .ok (.iload_n 1, 1) := by decide +kernel
theorem dX5_startAt_2 : decode cX5_startAt 2 = .ok (.putfield 27, 3) := by decide +kernel
theorem dX5_startAt_5 : decode cX5_startAt 5 = .ok (.aload_n 0, 1) := by decide +kernel
theorem dX5_startAt_6 : decode cX5_startAt 6 = .ok (.iconst 0, 1) := by decide +kernel
theorem dX5_startAt_7 : decode cX5_startAt 7 = .ok (.putfield 37, 3) := by decide +kernel
theorem dX5_startAt_10 : decode cX5_startAt 10 = .ok (.aload_n 0, 1) := by decide +kernel
theorem dX5_startAt_11 : decode cX5_startAt 11 = .ok (.ldc 46, 2) := by decide +kernel
theorem dX5_startAt_13 : decode cX5_startAt 13 = .ok (.ldc 46, 2) := by decide +kernel
theorem dX5_startAt_15 : decode cX5_startAt 15 = .ok (.invokevirtual 47, 3) := by decide +kernel
theorem dX5_startAt_18 : decode cX5_startAt 18 = .ok (.return_, 1) := by decide +kernel
theorem dX5_closeOn_0 : decode cX5_closeOn 0 = .ok (.aload_n 0, 1) := by decide +kernel
theorem dX5_closeOn_1 : decode cX5_closeOn 1 = .ok (.iload_n 1, 1) := by decide +kernel
theorem dX5_closeOn_2 : decode cX5_closeOn 2 = .ok (.putfield 31, 3) := by decide +kernel
theorem dX5_closeOn_5 : decode cX5_closeOn 5 = .ok (.aload_n 0, 1) := by decide +kernel
theorem dX5_closeOn_6 : decode cX5_closeOn 6 = .ok (.iload_n 2, 1) := by decide +kernel
theorem dX5_closeOn_7 : decode cX5_closeOn 7 = .ok (.putfield 34, 3) := by decide +kernel
theorem dX5_closeOn_10 : decode cX5_closeOn 10 = .ok (.return_, 1) := by decide +kernel
theorem dX5_isClosed_0 : decode cX5_isClosed 0 = .ok (.aload_n 0, 1) := by decide +kernel
theorem dX5_isClosed_1 : decode cX5_isClosed 1 = .ok (.getfield 31, 3) := by decide +kernel
theorem dX5_isClosed_4 : decode cX5_isClosed 4 = .ok (.ldc 46, 2) := by decide +kernel
theorem dX5_isClosed_6 : decode cX5_isClosed 6 = .ok (.if_icmp .eq 7, 3) := by decide +kernel
theorem dX5_isClosed_9 : decode cX5_isClosed 9 = .ok (.iconst 1, 1) := by decide +kernel
theorem dX5_isClosed_10 : decode cX5_isClosed 10 = .ok (.goto 4, 3) := by decide +kernel
theorem dX5_isClosed_13 : decode cX5_isClosed 13 = .ok (.iconst 0, 1) := by decide +kernel
theorem dX5_isClosed_14 : decode cX5_isClosed 14 = .ok (.ireturn, 1) := by decide +kernel
theorem dX5_hasLeg_0 : decode cX5_hasLeg 0 = .ok (.iload_n 1, 1) := by decide +kernel
theorem dX5_hasLeg_1 : decode cX5_hasLeg 1 = .ok (.ifCond .lt 21, 3) := by decide +kernel
theorem dX5_hasLeg_4 : decode cX5_hasLeg 4 = .ok (.iload_n 1, 1) := by decide +kernel
theorem dX5_hasLeg_5 : decode cX5_hasLeg 5 = .ok (.aload_n 0, 1) := by decide +kernel
theorem dX5_hasLeg_6 : decode cX5_hasLeg 6 = .ok (.getfield 37, 3) := by decide +kernel
theorem dX5_hasLeg_9 : decode cX5_hasLeg 9 = .ok (.if_icmp .ge 13, 3) := by decide +kernel
theorem dX5_hasLeg_12 : decode cX5_hasLeg 12 = .ok (.iload_n 1, 1) := by decide +kernel
theorem dX5_hasLeg_13 : decode cX5_hasLeg 13 = .ok (.bipush 12, 2) := by decide +kernel
theorem dX5_hasLeg_15 : decode cX5_hasLeg 15 = .ok (.if_icmp .ge 7, 3) := by decide +kernel
theorem dX5_hasLeg_18 : decode cX5_hasLeg 18 = .ok (.iconst 1, 1) := by decide +kernel
theorem dX5_hasLeg_19 : decode cX5_hasLeg 19 = .ok (.goto 4, 3) := by decide +kernel
theorem dX5_hasLeg_22 : decode cX5_hasLeg 22 = .ok (.iconst 0, 1) := by decide +kernel
theorem dX5_hasLeg_23 : decode cX5_hasLeg 23 = .ok (.ireturn, 1) := by decide +kernel
theorem dX5_hasEnd_0 : decode cX5_hasEnd 0 = .ok (.aload_n 0, 1) := by decide +kernel
theorem dX5_hasEnd_1 : decode cX5_hasEnd 1 = .ok (.getfield 51, 3) := by decide +kernel
theorem dX5_hasEnd_4 : decode cX5_hasEnd 4 = .ok (.iconst 5, 1) := by decide +kernel
theorem dX5_hasEnd_5 : decode cX5_hasEnd 5 = .ok (.if_icmp .eq 16, 3) := by decide +kernel
theorem dX5_hasEnd_8 : decode cX5_hasEnd 8 = .ok (.aload_n 0, 1) := by decide +kernel
theorem dX5_hasEnd_9 : decode cX5_hasEnd 9 = .ok (.getfield 51, 3) := by decide +kernel
theorem dX5_hasEnd_12 : decode cX5_hasEnd 12 = .ok (.bipush 6, 2) := by decide +kernel
theorem dX5_hasEnd_14 : decode cX5_hasEnd 14 = .ok (.if_icmp .eq 7, 3) := by decide +kernel
theorem dX5_hasEnd_17 : decode cX5_hasEnd 17 = .ok (.iconst 1, 1) := by decide +kernel
theorem dX5_hasEnd_18 : decode cX5_hasEnd 18 = .ok (.goto 4, 3) := by decide +kernel
theorem dX5_hasEnd_21 : decode cX5_hasEnd 21 = .ok (.iconst 0, 1) := by decide +kernel
theorem dX5_hasEnd_22 : decode cX5_hasEnd 22 = .ok (.ireturn, 1) := by decide +kernel
theorem dX5_hasGap_0 : decode cX5_hasGap 0 = .ok (.aload_n 0, 1) := by decide +kernel
theorem dX5_hasGap_1 : decode cX5_hasGap 1 = .ok (.invokevirtual 54, 3) := by decide +kernel
theorem dX5_hasGap_4 : decode cX5_hasGap 4 = .ok (.ifCond .eq 23, 3) := by decide +kernel
theorem dX5_hasGap_7 : decode cX5_hasGap 7 = .ok (.aload_n 0, 1) := by decide +kernel
theorem dX5_hasGap_8 : decode cX5_hasGap 8 = .ok (.invokevirtual 58, 3) := by decide +kernel
theorem dX5_hasGap_11 : decode cX5_hasGap 11 = .ok (.ifCond .eq 16, 3) := by decide +kernel
theorem dX5_hasGap_14 : decode cX5_hasGap 14 = .ok (.aload_n 0, 1) := by decide +kernel
theorem dX5_hasGap_15 : decode cX5_hasGap 15 = .ok (.getfield 51, 3) := by decide +kernel
theorem dX5_hasGap_18 : decode cX5_hasGap 18 = .ok (.bipush 7, 2) := by decide +kernel
theorem dX5_hasGap_20 : decode cX5_hasGap 20 = .ok (.if_icmp .eq 7, 3) := by decide +kernel
theorem dX5_hasGap_23 : decode cX5_hasGap 23 = .ok (.iconst 1, 1) := by decide +kernel
theorem dX5_hasGap_24 : decode cX5_hasGap 24 = .ok (.goto 4, 3) := by decide +kernel
theorem dX5_hasGap_27 : decode cX5_hasGap 27 = .ok (.iconst 0, 1) := by decide +kernel
theorem dX5_hasGap_28 : decode cX5_hasGap 28 = .ok (.ireturn, 1) := by decide +kernel
theorem dX5_append_0 : decode cX5_append 0 = .ok (.aload_n 0, 1) := by decide +kernel
theorem dX5_append_1 : decode cX5_append 1 = .ok (.getfield 37, 3) := by decide +kernel
theorem dX5_append_4 : decode cX5_append 4 = .ok (.ifCond .lt 12, 3) := by decide +kernel
theorem dX5_append_7 : decode cX5_append 7 = .ok (.aload_n 0, 1) := by decide +kernel
theorem dX5_append_8 : decode cX5_append 8 = .ok (.getfield 37, 3) := by decide +kernel
theorem dX5_append_11 : decode cX5_append 11 = .ok (.bipush 12, 2) := by decide +kernel
theorem dX5_append_13 : decode cX5_append 13 = .ok (.if_icmp .lt 6, 3) := by decide +kernel
theorem dX5_append_16 : decode cX5_append 16 = .ok (.ldc 46, 2) := by decide +kernel
theorem dX5_append_18 : decode cX5_append 18 = .ok (.ireturn, 1) := by decide +kernel
theorem dX5_append_19 : decode cX5_append 19 = .ok (.aload_n 0, 1) := by decide +kernel
theorem dX5_append_20 : decode cX5_append 20 = .ok (.getfield 9, 3) := by decide +kernel
theorem dX5_append_23 : decode cX5_append 23 = .ok (.aload_n 0, 1) := by decide +kernel
theorem dX5_append_24 : decode cX5_append 24 = .ok (.getfield 37, 3) := by decide +kernel
theorem dX5_append_27 : decode cX5_append 27 = .ok (.iload_n 1, 1) := by decide +kernel
theorem dX5_append_28 : decode cX5_append 28 = .ok (.iastore, 1) := by decide +kernel
theorem dX5_append_29 : decode cX5_append 29 = .ok (.aload_n 0, 1) := by decide +kernel
theorem dX5_append_30 : decode cX5_append 30 = .ok (.getfield 15, 3) := by decide +kernel
theorem dX5_append_33 : decode cX5_append 33 = .ok (.aload_n 0, 1) := by decide +kernel
theorem dX5_append_34 : decode cX5_append 34 = .ok (.getfield 37, 3) := by decide +kernel
theorem dX5_append_37 : decode cX5_append 37 = .ok (.iload_n 2, 1) := by decide +kernel
theorem dX5_append_38 : decode cX5_append 38 = .ok (.iastore, 1) := by decide +kernel
theorem dX5_append_39 : decode cX5_append 39 = .ok (.aload_n 0, 1) := by decide +kernel
theorem dX5_append_40 : decode cX5_append 40 = .ok (.dup, 1) := by decide +kernel
theorem dX5_append_41 : decode cX5_append 41 = .ok (.getfield 37, 3) := by decide +kernel
theorem dX5_append_44 : decode cX5_append 44 = .ok (.iconst 1, 1) := by decide +kernel
theorem dX5_append_45 : decode cX5_append 45 = .ok (.iadd, 1) := by decide +kernel
theorem dX5_append_46 : decode cX5_append 46 = .ok (.putfield 37, 3) := by decide +kernel
theorem dX5_append_49 : decode cX5_append 49 = .ok (.aload_n 0, 1) := by decide +kernel
theorem dX5_append_50 : decode cX5_append 50 = .ok (.getfield 37, 3) := by decide +kernel
theorem dX5_append_53 : decode cX5_append 53 = .ok (.iconst 1, 1) := by decide +kernel
theorem dX5_append_54 : decode cX5_append 54 = .ok (.isub, 1) := by decide +kernel
theorem dX5_append_55 : decode cX5_append 55 = .ok (.ireturn, 1) := by decide +kernel
theorem dX5_shorten_0 : decode cX5_shorten 0 = .ok (.aload_n 0, 1) := by decide +kernel
theorem dX5_shorten_1 : decode cX5_shorten 1 = .ok (.getfield 37, 3) := by decide +kernel
theorem dX5_shorten_4 : decode cX5_shorten 4 = .ok (.ifCond .le 13, 3) := by decide +kernel
theorem dX5_shorten_7 : decode cX5_shorten 7 = .ok (.aload_n 0, 1) := by decide +kernel
theorem dX5_shorten_8 : decode cX5_shorten 8 = .ok (.dup, 1) := by decide +kernel
theorem dX5_shorten_9 : decode cX5_shorten 9 = .ok (.getfield 37, 3) := by decide +kernel
theorem dX5_shorten_12 : decode cX5_shorten 12 = .ok (.iconst 1, 1) := by decide +kernel
theorem dX5_shorten_13 : decode cX5_shorten 13 = .ok (.isub, 1) := by decide +kernel
theorem dX5_shorten_14 : decode cX5_shorten 14 = .ok (.putfield 37, 3) := by decide +kernel
theorem dX5_shorten_17 : decode cX5_shorten 17 = .ok (.aload_n 0, 1) := by decide +kernel
theorem dX5_shorten_18 : decode cX5_shorten 18 = .ok (.ldc 46, 2) := by decide +kernel
theorem dX5_shorten_20 : decode cX5_shorten 20 = .ok (.ldc 46, 2) := by decide +kernel
theorem dX5_shorten_22 : decode cX5_shorten 22 = .ok (.invokevirtual 47, 3) := by decide +kernel
theorem dX5_shorten_25 : decode cX5_shorten 25 = .ok (.aload_n 0, 1) := by decide +kernel
theorem dX5_shorten_26 : decode cX5_shorten 26 = .ok (.getfield 37, 3) := by decide +kernel
theorem dX5_shorten_29 : decode cX5_shorten 29 = .ok (.ireturn, 1) := by decide +kernel
theorem dX5_takeGapAway_0 : decode cX5_takeGapAway 0 = .ok (.aload_n 0, 1) := by decide +kernel
theorem dX5_takeGapAway_1 : decode cX5_takeGapAway 1 = .ok (.getfield 61, 3) := by decide +kernel
theorem dX5_takeGapAway_4 : decode cX5_takeGapAway 4 = .ok (.istore_n 1, 1) := by decide +kernel
theorem dX5_takeGapAway_5 : decode cX5_takeGapAway 5 = .ok (.iload_n 1, 1) := by decide +kernel
theorem dX5_takeGapAway_6 : decode cX5_takeGapAway 6 = .ok (.i2l, 1) := by decide +kernel
theorem dX5_takeGapAway_7 : decode cX5_takeGapAway 7 = .ok (.aload_n 0, 1) := by decide +kernel
theorem dX5_takeGapAway_8 : decode cX5_takeGapAway 8 = .ok (.getfield 37, 3) := by decide +kernel
theorem dX5_takeGapAway_11 : decode cX5_takeGapAway 11 = .ok (.iconst 1, 1) := by decide +kernel
theorem dX5_takeGapAway_12 : decode cX5_takeGapAway 12 = .ok (.iadd, 1) := by decide +kernel
theorem dX5_takeGapAway_13 : decode cX5_takeGapAway 13 = .ok (.i2l, 1) := by decide +kernel
theorem dX5_takeGapAway_14 : decode cX5_takeGapAway 14 = .ok (.invokestatic 64, 3) := by decide +kernel
theorem dX5_takeGapAway_17 : decode cX5_takeGapAway 17 = .ok (.istore_n 2, 1) := by decide +kernel
theorem dX5_takeGapAway_18 : decode cX5_takeGapAway 18 = .ok (.iload_n 1, 1) := by decide +kernel
theorem dX5_takeGapAway_19 : decode cX5_takeGapAway 19 = .ok (.aload_n 0, 1) := by decide +kernel
theorem dX5_takeGapAway_20 : decode cX5_takeGapAway 20 = .ok (.getfield 37, 3) := by decide +kernel
theorem dX5_takeGapAway_23 : decode cX5_takeGapAway 23 = .ok (.iconst 1, 1) := by decide +kernel
theorem dX5_takeGapAway_24 : decode cX5_takeGapAway 24 = .ok (.iadd, 1) := by decide +kernel
theorem dX5_takeGapAway_25 : decode cX5_takeGapAway 25 = .ok (.iload_n 2, 1) := by decide +kernel
theorem dX5_takeGapAway_26 : decode cX5_takeGapAway 26 = .ok (.imul, 1) := by decide +kernel
theorem dX5_takeGapAway_27 : decode cX5_takeGapAway 27 = .ok (.isub, 1) := by decide +kernel
theorem dX5_takeGapAway_28 : decode cX5_takeGapAway 28 = .ok (.istore_n 3, 1) := by decide +kernel
theorem dX5_takeGapAway_29 : decode cX5_takeGapAway 29 = .ok (.iload_n 3, 1) := by decide +kernel
theorem dX5_takeGapAway_30 : decode cX5_takeGapAway 30 = .ok (.ifCond .ge 7, 3) := by decide +kernel
theorem dX5_takeGapAway_33 : decode cX5_takeGapAway 33 = .ok (.iconst (-1), 1) := by decide +kernel
theorem dX5_takeGapAway_34 : decode cX5_takeGapAway 34 = .ok (.goto 4, 3) := by decide +kernel
theorem dX5_takeGapAway_37 : decode cX5_takeGapAway 37 = .ok (.iconst 1, 1) := by decide +kernel
theorem dX5_takeGapAway_38 : decode cX5_takeGapAway 38 = .ok (.istore 4, 2) := by decide +kernel
theorem dX5_takeGapAway_40 : decode cX5_takeGapAway 40 = .ok (.iconst 0, 1) := by decide +kernel
theorem dX5_takeGapAway_41 : decode cX5_takeGapAway 41 = .ok (.istore 5, 2) := by decide +kernel
theorem dX5_takeGapAway_43 : decode cX5_takeGapAway 43 = .ok (.iload 5, 2) := by decide +kernel
theorem dX5_takeGapAway_45 : decode cX5_takeGapAway 45 = .ok (.aload_n 0, 1) := by decide +kernel
theorem dX5_takeGapAway_46 : decode cX5_takeGapAway 46 = .ok (.getfield 37, 3) := by decide +kernel
theorem dX5_takeGapAway_49 : decode cX5_takeGapAway 49 = .ok (.if_icmp .ge 59, 3) := by decide +kernel
theorem dX5_takeGapAway_52 : decode cX5_takeGapAway 52 = .ok (.iload 5, 2) := by decide +kernel
theorem dX5_takeGapAway_54 : decode cX5_takeGapAway 54 = .ok (.bipush 12, 2) := by decide +kernel
theorem dX5_takeGapAway_56 : decode cX5_takeGapAway 56 = .ok (.if_icmp .ge 52, 3) := by decide +kernel
theorem dX5_takeGapAway_59 : decode cX5_takeGapAway 59 = .ok (.aload_n 0, 1) := by decide +kernel
theorem dX5_takeGapAway_60 : decode cX5_takeGapAway 60 = .ok (.iload 5, 2) := by decide +kernel
theorem dX5_takeGapAway_62 : decode cX5_takeGapAway 62 = .ok (.invokevirtual 70, 3) := by decide +kernel
theorem dX5_takeGapAway_65 : decode cX5_takeGapAway 65 = .ok (.iload_n 3, 1) := by decide +kernel
theorem dX5_takeGapAway_66 : decode cX5_takeGapAway 66 = .ok (.invokestatic 74, 3) := by decide +kernel
theorem dX5_takeGapAway_69 : decode cX5_takeGapAway 69 = .ok (.if_icmp .ge 8, 3) := by decide +kernel
theorem dX5_takeGapAway_72 : decode cX5_takeGapAway 72 = .ok (.iload 4, 2) := by decide +kernel
theorem dX5_takeGapAway_74 : decode cX5_takeGapAway 74 = .ok (.goto 4, 3) := by decide +kernel
theorem dX5_takeGapAway_77 : decode cX5_takeGapAway 77 = .ok (.iconst 0, 1) := by decide +kernel
theorem dX5_takeGapAway_78 : decode cX5_takeGapAway 78 = .ok (.istore 6, 2) := by decide +kernel
theorem dX5_takeGapAway_80 : decode cX5_takeGapAway 80 = .ok (.aload_n 0, 1) := by decide +kernel
theorem dX5_takeGapAway_81 : decode cX5_takeGapAway 81 = .ok (.getfield 9, 3) := by decide +kernel
theorem dX5_takeGapAway_84 : decode cX5_takeGapAway 84 = .ok (.iload 5, 2) := by decide +kernel
theorem dX5_takeGapAway_86 : decode cX5_takeGapAway 86 = .ok (.aload_n 0, 1) := by decide +kernel
theorem dX5_takeGapAway_87 : decode cX5_takeGapAway 87 = .ok (.getfield 9, 3) := by decide +kernel
theorem dX5_takeGapAway_90 : decode cX5_takeGapAway 90 = .ok (.iload 5, 2) := by decide +kernel
theorem dX5_takeGapAway_92 : decode cX5_takeGapAway 92 = .ok (.iaload, 1) := by decide +kernel
theorem dX5_takeGapAway_93 : decode cX5_takeGapAway 93 = .ok (.iload_n 2, 1) := by decide +kernel
theorem dX5_takeGapAway_94 : decode cX5_takeGapAway 94 = .ok (.isub, 1) := by decide +kernel
theorem dX5_takeGapAway_95 : decode cX5_takeGapAway 95 = .ok (.iload 6, 2) := by decide +kernel
theorem dX5_takeGapAway_97 : decode cX5_takeGapAway 97 = .ok (.isub, 1) := by decide +kernel
theorem dX5_takeGapAway_98 : decode cX5_takeGapAway 98 = .ok (.invokestatic 79, 3) := by decide +kernel
theorem dX5_takeGapAway_101 : decode cX5_takeGapAway 101 = .ok (.iastore, 1) := by decide +kernel
theorem dX5_takeGapAway_102 : decode cX5_takeGapAway 102 = .ok (.iinc 5 1, 3) := by decide +kernel
theorem dX5_takeGapAway_105 : decode cX5_takeGapAway 105 = .ok (.goto (-62), 3) := by decide +kernel
theorem dX5_takeGapAway_108 : decode cX5_takeGapAway 108 = .ok (.aload_n 0, 1) := by decide +kernel
theorem dX5_takeGapAway_109 : decode cX5_takeGapAway 109 = .ok (.aload_n 0, 1) := by decide +kernel
theorem dX5_takeGapAway_110 : decode cX5_takeGapAway 110 = .ok (.getfield 34, 3) := by decide +kernel
theorem dX5_takeGapAway_113 : decode cX5_takeGapAway 113 = .ok (.iload_n 2, 1) := by decide +kernel
theorem dX5_takeGapAway_114 : decode cX5_takeGapAway 114 = .ok (.isub, 1) := by decide +kernel
theorem dX5_takeGapAway_115 : decode cX5_takeGapAway 115 = .ok (.invokestatic 79, 3) := by decide +kernel
theorem dX5_takeGapAway_118 : decode cX5_takeGapAway 118 = .ok (.putfield 34, 3) := by decide +kernel
theorem dX5_takeGapAway_121 : decode cX5_takeGapAway 121 = .ok (.iload_n 1, 1) := by decide +kernel
theorem dX5_takeGapAway_122 : decode cX5_takeGapAway 122 = .ok (.ireturn, 1) := by decide +kernel
theorem dX5_legsBefore_0 : decode cX5_legsBefore 0 = .ok (.aload_n 0, 1) := by decide +kernel
theorem dX5_legsBefore_1 : decode cX5_legsBefore 1 = .ok (.iload_n 1, 1) := by decide +kernel
theorem dX5_legsBefore_2 : decode cX5_legsBefore 2 = .ok (.invokevirtual 82, 3) := by decide +kernel
theorem dX5_legsBefore_5 : decode cX5_legsBefore 5 = .ok (.ifCond .ne 5, 3) := by decide +kernel
theorem dX5_legsBefore_8 : decode cX5_legsBefore 8 = .ok (.iconst 0, 1) := by decide +kernel
theorem dX5_legsBefore_9 : decode cX5_legsBefore 9 = .ok (.ireturn, 1) := by decide +kernel
theorem dX5_legsBefore_10 : decode cX5_legsBefore 10 = .ok (.iconst 0, 1) := by decide +kernel
theorem dX5_legsBefore_11 : decode cX5_legsBefore 11 = .ok (.istore_n 2, 1) := by decide +kernel
theorem dX5_legsBefore_12 : decode cX5_legsBefore 12 = .ok (.iconst 0, 1) := by decide +kernel
theorem dX5_legsBefore_13 : decode cX5_legsBefore 13 = .ok (.istore_n 3, 1) := by decide +kernel
theorem dX5_legsBefore_14 : decode cX5_legsBefore 14 = .ok (.iload_n 3, 1) := by decide +kernel
theorem dX5_legsBefore_15 : decode cX5_legsBefore 15 = .ok (.aload_n 0, 1) := by decide +kernel
theorem dX5_legsBefore_16 : decode cX5_legsBefore 16 = .ok (.getfield 37, 3) := by decide +kernel
theorem dX5_legsBefore_19 : decode cX5_legsBefore 19 = .ok (.if_icmp .ge 53, 3) := by decide +kernel
theorem dX5_legsBefore_22 : decode cX5_legsBefore 22 = .ok (.iload_n 3, 1) := by decide +kernel
theorem dX5_legsBefore_23 : decode cX5_legsBefore 23 = .ok (.bipush 12, 2) := by decide +kernel
theorem dX5_legsBefore_25 : decode cX5_legsBefore 25 = .ok (.if_icmp .ge 47, 3) := by decide +kernel
theorem dX5_legsBefore_28 : decode cX5_legsBefore 28 = .ok (.aload_n 0, 1) := by decide +kernel
theorem dX5_legsBefore_29 : decode cX5_legsBefore 29 = .ok (.getfield 15, 3) := by decide +kernel
theorem dX5_legsBefore_32 : decode cX5_legsBefore 32 = .ok (.iload_n 3, 1) := by decide +kernel
theorem dX5_legsBefore_33 : decode cX5_legsBefore 33 = .ok (.iaload, 1) := by decide +kernel
theorem dX5_legsBefore_34 : decode cX5_legsBefore 34 = .ok (.aload_n 0, 1) := by decide +kernel
theorem dX5_legsBefore_35 : decode cX5_legsBefore 35 = .ok (.getfield 15, 3) := by decide +kernel
theorem dX5_legsBefore_38 : decode cX5_legsBefore 38 = .ok (.iload_n 1, 1) := by decide +kernel
theorem dX5_legsBefore_39 : decode cX5_legsBefore 39 = .ok (.iaload, 1) := by decide +kernel
theorem dX5_legsBefore_40 : decode cX5_legsBefore 40 = .ok (.if_icmp .gt 23, 3) := by decide +kernel
theorem dX5_legsBefore_43 : decode cX5_legsBefore 43 = .ok (.aload_n 0, 1) := by decide +kernel
theorem dX5_legsBefore_44 : decode cX5_legsBefore 44 = .ok (.getfield 15, 3) := by decide +kernel
theorem dX5_legsBefore_47 : decode cX5_legsBefore 47 = .ok (.iload_n 3, 1) := by decide +kernel
theorem dX5_legsBefore_48 : decode cX5_legsBefore 48 = .ok (.iaload, 1) := by decide +kernel
theorem dX5_legsBefore_49 : decode cX5_legsBefore 49 = .ok (.aload_n 0, 1) := by decide +kernel
theorem dX5_legsBefore_50 : decode cX5_legsBefore 50 = .ok (.getfield 15, 3) := by decide +kernel
theorem dX5_legsBefore_53 : decode cX5_legsBefore 53 = .ok (.iload_n 1, 1) := by decide +kernel
theorem dX5_legsBefore_54 : decode cX5_legsBefore 54 = .ok (.iaload, 1) := by decide +kernel
theorem dX5_legsBefore_55 : decode cX5_legsBefore 55 = .ok (.if_icmp .ne 11, 3) := by decide +kernel
theorem dX5_legsBefore_58 : decode cX5_legsBefore 58 = .ok (.iload_n 3, 1) := by decide +kernel
theorem dX5_legsBefore_59 : decode cX5_legsBefore 59 = .ok (.iload_n 1, 1) := by decide +kernel
theorem dX5_legsBefore_60 : decode cX5_legsBefore 60 = .ok (.if_icmp .ge 6, 3) := by decide +kernel
theorem dX5_legsBefore_63 : decode cX5_legsBefore 63 = .ok (.iinc 2 1, 3) := by decide +kernel
theorem dX5_legsBefore_66 : decode cX5_legsBefore 66 = .ok (.iinc 3 1, 3) := by decide +kernel
theorem dX5_legsBefore_69 : decode cX5_legsBefore 69 = .ok (.goto (-55), 3) := by decide +kernel
theorem dX5_legsBefore_72 : decode cX5_legsBefore 72 = .ok (.iload_n 2, 1) := by decide +kernel
theorem dX5_legsBefore_73 : decode cX5_legsBefore 73 = .ok (.ireturn, 1) := by decide +kernel
theorem dX5_judge_0 : decode cX5_judge 0 = .ok (.aload_n 1, 1) := by decide +kernel
theorem dX5_judge_1 : decode cX5_judge 1 = .ok (.ifnonnull 4, 3) := by decide +kernel
theorem dX5_judge_4 : decode cX5_judge 4 = .ok (.return_, 1) := by decide +kernel
theorem dX5_judge_5 : decode cX5_judge 5 = .ok (.aload_n 0, 1) := by decide +kernel
theorem dX5_judge_6 : decode cX5_judge 6 = .ok (.aload_n 0, 1) := by decide +kernel
theorem dX5_judge_7 : decode cX5_judge 7 = .ok (.getfield 37, 3) := by decide +kernel
theorem dX5_judge_10 : decode cX5_judge 10 = .ok (.ifCond .ne 7, 3) := by decide +kernel
theorem dX5_judge_13 : decode cX5_judge 13 = .ok (.iconst 5, 1) := by decide +kernel
theorem dX5_judge_14 : decode cX5_judge 14 = .ok (.goto 16, 3) := by decide +kernel
theorem dX5_judge_17 : decode cX5_judge 17 = .ok (.aload_n 1, 1) := by decide +kernel
theorem dX5_judge_18 : decode cX5_judge 18 = .ok (.getfield 86, 3) := by decide +kernel
theorem dX5_judge_21 : decode cX5_judge 21 = .ok (.ifCond .eq 8, 3) := by decide +kernel
theorem dX5_judge_24 : decode cX5_judge 24 = .ok (.bipush 6, 2) := by decide +kernel
theorem dX5_judge_26 : decode cX5_judge 26 = .ok (.goto 4, 3) := by decide +kernel
theorem dX5_judge_29 : decode cX5_judge 29 = .ok (.iconst 0, 1) := by decide +kernel
theorem dX5_judge_30 : decode cX5_judge 30 = .ok (.putfield 51, 3) := by decide +kernel
theorem dX5_judge_33 : decode cX5_judge 33 = .ok (.aload_n 0, 1) := by decide +kernel
theorem dX5_judge_34 : decode cX5_judge 34 = .ok (.getfield 51, 3) := by decide +kernel
theorem dX5_judge_37 : decode cX5_judge 37 = .ok (.ifCond .eq 4, 3) := by decide +kernel
theorem dX5_judge_40 : decode cX5_judge 40 = .ok (.return_, 1) := by decide +kernel
theorem dX5_judge_41 : decode cX5_judge 41 = .ok (.aload_n 0, 1) := by decide +kernel
theorem dX5_judge_42 : decode cX5_judge 42 = .ok (.aload_n 1, 1) := by decide +kernel
theorem dX5_judge_43 : decode cX5_judge 43 = .ok (.invokevirtual 89, 3) := by decide +kernel
theorem dX5_judge_46 : decode cX5_judge 46 = .ok (.istore 4, 2) := by decide +kernel
theorem dX5_judge_48 : decode cX5_judge 48 = .ok (.aload_n 2, 1) := by decide +kernel
theorem dX5_judge_49 : decode cX5_judge 49 = .ok (.ifnonnull 4, 3) := by decide +kernel
theorem dX5_judge_52 : decode cX5_judge 52 = .ok (.return_, 1) := by decide +kernel
theorem dX5_judge_53 : decode cX5_judge 53 = .ok (.aload_n 2, 1) := by decide +kernel
theorem dX5_judge_54 : decode cX5_judge 54 = .ok (.getfield 86, 3) := by decide +kernel
theorem dX5_judge_57 : decode cX5_judge 57 = .ok (.ifCond .eq 10, 3) := by decide +kernel
theorem dX5_judge_60 : decode cX5_judge 60 = .ok (.aload_n 0, 1) := by decide +kernel
theorem dX5_judge_61 : decode cX5_judge 61 = .ok (.bipush 7, 2) := by decide +kernel
theorem dX5_judge_63 : decode cX5_judge 63 = .ok (.putfield 51, 3) := by decide +kernel
theorem dX5_judge_66 : decode cX5_judge 66 = .ok (.return_, 1) := by decide +kernel
theorem dX5_judge_67 : decode cX5_judge 67 = .ok (.aload_n 0, 1) := by decide +kernel
theorem dX5_judge_68 : decode cX5_judge 68 = .ok (.iload 4, 2) := by decide +kernel
theorem dX5_judge_70 : decode cX5_judge 70 = .ok (.aload_n 0, 1) := by decide +kernel
theorem dX5_judge_71 : decode cX5_judge 71 = .ok (.getfield 34, 3) := by decide +kernel
theorem dX5_judge_74 : decode cX5_judge 74 = .ok (.iadd, 1) := by decide +kernel
theorem dX5_judge_75 : decode cX5_judge 75 = .ok (.ldc 93, 2) := by decide +kernel
theorem dX5_judge_77 : decode cX5_judge 77 = .ok (.iadd, 1) := by decide +kernel
theorem dX5_judge_78 : decode cX5_judge 78 = .ok (.aload_n 2, 1) := by decide +kernel
theorem dX5_judge_79 : decode cX5_judge 79 = .ok (.getfield 94, 3) := by decide +kernel
theorem dX5_judge_82 : decode cX5_judge 82 = .ok (.isub, 1) := by decide +kernel
theorem dX5_judge_83 : decode cX5_judge 83 = .ok (.invokestatic 97, 3) := by decide +kernel
theorem dX5_judge_86 : decode cX5_judge 86 = .ok (.putfield 61, 3) := by decide +kernel
theorem dX5_judge_89 : decode cX5_judge 89 = .ok (.aload_n 0, 1) := by decide +kernel
theorem dX5_judge_90 : decode cX5_judge 90 = .ok (.aload_n 0, 1) := by decide +kernel
theorem dX5_judge_91 : decode cX5_judge 91 = .ok (.getfield 100, 3) := by decide +kernel
theorem dX5_judge_94 : decode cX5_judge 94 = .ok (.aload_n 2, 1) := by decide +kernel
theorem dX5_judge_95 : decode cX5_judge 95 = .ok (.getfield 103, 3) := by decide +kernel
theorem dX5_judge_98 : decode cX5_judge 98 = .ok (.isub, 1) := by decide +kernel
theorem dX5_judge_99 : decode cX5_judge 99 = .ok (.putfield 106, 3) := by decide +kernel
theorem dX5_judge_102 : decode cX5_judge 102 = .ok (.aload_n 0, 1) := by decide +kernel
theorem dX5_judge_103 : decode cX5_judge 103 = .ok (.aload_n 0, 1) := by decide +kernel
theorem dX5_judge_104 : decode cX5_judge 104 = .ok (.getfield 109, 3) := by decide +kernel
theorem dX5_judge_107 : decode cX5_judge 107 = .ok (.aload_n 2, 1) := by decide +kernel
theorem dX5_judge_108 : decode cX5_judge 108 = .ok (.getfield 112, 3) := by decide +kernel
theorem dX5_judge_111 : decode cX5_judge 111 = .ok (.isub, 1) := by decide +kernel
theorem dX5_judge_112 : decode cX5_judge 112 = .ok (.putfield 115, 3) := by decide +kernel
theorem dX5_judge_115 : decode cX5_judge 115 = .ok (.aload_n 0, 1) := by decide +kernel
theorem dX5_judge_116 : decode cX5_judge 116 = .ok (.aload_n 0, 1) := by decide +kernel
theorem dX5_judge_117 : decode cX5_judge 117 = .ok (.getfield 61, 3) := by decide +kernel
theorem dX5_judge_120 : decode cX5_judge 120 = .ok (.invokestatic 74, 3) := by decide +kernel
theorem dX5_judge_123 : decode cX5_judge 123 = .ok (.iload_n 3, 1) := by decide +kernel
theorem dX5_judge_124 : decode cX5_judge 124 = .ok (.aload_n 0, 1) := by decide +kernel
theorem dX5_judge_125 : decode cX5_judge 125 = .ok (.getfield 37, 3) := by decide +kernel
theorem dX5_judge_128 : decode cX5_judge 128 = .ok (.iconst 1, 1) := by decide +kernel
theorem dX5_judge_129 : decode cX5_judge 129 = .ok (.iadd, 1) := by decide +kernel
theorem dX5_judge_130 : decode cX5_judge 130 = .ok (.i2l, 1) := by decide +kernel
theorem dX5_judge_131 : decode cX5_judge 131 = .ok (.invokestatic 118, 3) := by decide +kernel
theorem dX5_judge_134 : decode cX5_judge 134 = .ok (.imul, 1) := by decide +kernel
theorem dX5_judge_135 : decode cX5_judge 135 = .ok (.if_icmp .le 8, 3) := by decide +kernel
theorem dX5_judge_138 : decode cX5_judge 138 = .ok (.bipush 8, 2) := by decide +kernel
theorem dX5_judge_140 : decode cX5_judge 140 = .ok (.goto 4, 3) := by decide +kernel
theorem dX5_judge_143 : decode cX5_judge 143 = .ok (.iconst 0, 1) := by decide +kernel
theorem dX5_judge_144 : decode cX5_judge 144 = .ok (.putfield 51, 3) := by decide +kernel
theorem dX5_judge_147 : decode cX5_judge 147 = .ok (.return_, 1) := by decide +kernel
theorem dX5_layOut_0 : decode cX5_layOut 0 = .ok (.aload_n 1, 1) := by decide +kernel
theorem dX5_layOut_1 : decode cX5_layOut 1 = .ok (.getfield 94, 3) := by decide +kernel
theorem dX5_layOut_4 : decode cX5_layOut 4 = .ok (.ldc 93, 2) := by decide +kernel
theorem dX5_layOut_6 : decode cX5_layOut 6 = .ok (.iadd, 1) := by decide +kernel
theorem dX5_layOut_7 : decode cX5_layOut 7 = .ok (.istore_n 2, 1) := by decide +kernel
theorem dX5_layOut_8 : decode cX5_layOut 8 = .ok (.aload_n 0, 1) := by decide +kernel
theorem dX5_layOut_9 : decode cX5_layOut 9 = .ok (.aload_n 1, 1) := by decide +kernel
theorem dX5_layOut_10 : decode cX5_layOut 10 = .ok (.getfield 103, 3) := by decide +kernel
theorem dX5_layOut_13 : decode cX5_layOut 13 = .ok (.putfield 100, 3) := by decide +kernel
theorem dX5_layOut_16 : decode cX5_layOut 16 = .ok (.aload_n 0, 1) := by decide +kernel
theorem dX5_layOut_17 : decode cX5_layOut 17 = .ok (.aload_n 1, 1) := by decide +kernel
theorem dX5_layOut_18 : decode cX5_layOut 18 = .ok (.getfield 112, 3) := by decide +kernel
theorem dX5_layOut_21 : decode cX5_layOut 21 = .ok (.putfield 109, 3) := by decide +kernel
theorem dX5_layOut_24 : decode cX5_layOut 24 = .ok (.iconst 0, 1) := by decide +kernel
theorem dX5_layOut_25 : decode cX5_layOut 25 = .ok (.istore_n 3, 1) := by decide +kernel
theorem dX5_layOut_26 : decode cX5_layOut 26 = .ok (.iload_n 3, 1) := by decide +kernel
theorem dX5_layOut_27 : decode cX5_layOut 27 = .ok (.aload_n 0, 1) := by decide +kernel
theorem dX5_layOut_28 : decode cX5_layOut 28 = .ok (.getfield 37, 3) := by decide +kernel
theorem dX5_layOut_31 : decode cX5_layOut 31 = .ok (.if_icmp .ge 106, 3) := by decide +kernel
theorem dX5_layOut_34 : decode cX5_layOut 34 = .ok (.iload_n 3, 1) := by decide +kernel
theorem dX5_layOut_35 : decode cX5_layOut 35 = .ok (.bipush 12, 2) := by decide +kernel
theorem dX5_layOut_37 : decode cX5_layOut 37 = .ok (.if_icmp .ge 100, 3) := by decide +kernel
theorem dX5_layOut_40 : decode cX5_layOut 40 = .ok (.iload_n 2, 1) := by decide +kernel
theorem dX5_layOut_41 : decode cX5_layOut 41 = .ok (.aload_n 0, 1) := by decide +kernel
theorem dX5_layOut_42 : decode cX5_layOut 42 = .ok (.getfield 9, 3) := by decide +kernel
theorem dX5_layOut_45 : decode cX5_layOut 45 = .ok (.iload_n 3, 1) := by decide +kernel
theorem dX5_layOut_46 : decode cX5_layOut 46 = .ok (.iaload, 1) := by decide +kernel
theorem dX5_layOut_47 : decode cX5_layOut 47 = .ok (.iadd, 1) := by decide +kernel
theorem dX5_layOut_48 : decode cX5_layOut 48 = .ok (.ldc 93, 2) := by decide +kernel
theorem dX5_layOut_50 : decode cX5_layOut 50 = .ok (.iadd, 1) := by decide +kernel
theorem dX5_layOut_51 : decode cX5_layOut 51 = .ok (.invokestatic 79, 3) := by decide +kernel
theorem dX5_layOut_54 : decode cX5_layOut 54 = .ok (.istore_n 2, 1) := by decide +kernel
theorem dX5_layOut_55 : decode cX5_layOut 55 = .ok (.aload_n 0, 1) := by decide +kernel
theorem dX5_layOut_56 : decode cX5_layOut 56 = .ok (.dup, 1) := by decide +kernel
theorem dX5_layOut_57 : decode cX5_layOut 57 = .ok (.getfield 100, 3) := by decide +kernel
theorem dX5_layOut_60 : decode cX5_layOut 60 = .ok (.aload_n 0, 1) := by decide +kernel
theorem dX5_layOut_61 : decode cX5_layOut 61 = .ok (.getfield 15, 3) := by decide +kernel
theorem dX5_layOut_64 : decode cX5_layOut 64 = .ok (.iload_n 3, 1) := by decide +kernel
theorem dX5_layOut_65 : decode cX5_layOut 65 = .ok (.iaload, 1) := by decide +kernel
theorem dX5_layOut_66 : decode cX5_layOut 66 = .ok (.i2l, 1) := by decide +kernel
theorem dX5_layOut_67 : decode cX5_layOut 67 = .ok (.iload_n 2, 1) := by decide +kernel
theorem dX5_layOut_68 : decode cX5_layOut 68 = .ok (.invokestatic 122, 3) := by decide +kernel
theorem dX5_layOut_71 : decode cX5_layOut 71 = .ok (.invokestatic 125, 3) := by decide +kernel
theorem dX5_layOut_74 : decode cX5_layOut 74 = .ok (.iadd, 1) := by decide +kernel
theorem dX5_layOut_75 : decode cX5_layOut 75 = .ok (.putfield 100, 3) := by decide +kernel
theorem dX5_layOut_78 : decode cX5_layOut 78 = .ok (.aload_n 0, 1) := by decide +kernel
theorem dX5_layOut_79 : decode cX5_layOut 79 = .ok (.dup, 1) := by decide +kernel
theorem dX5_layOut_80 : decode cX5_layOut 80 = .ok (.getfield 109, 3) := by decide +kernel
theorem dX5_layOut_83 : decode cX5_layOut 83 = .ok (.aload_n 0, 1) := by decide +kernel
theorem dX5_layOut_84 : decode cX5_layOut 84 = .ok (.getfield 15, 3) := by decide +kernel
theorem dX5_layOut_87 : decode cX5_layOut 87 = .ok (.iload_n 3, 1) := by decide +kernel
theorem dX5_layOut_88 : decode cX5_layOut 88 = .ok (.iaload, 1) := by decide +kernel
theorem dX5_layOut_89 : decode cX5_layOut 89 = .ok (.i2l, 1) := by decide +kernel
theorem dX5_layOut_90 : decode cX5_layOut 90 = .ok (.iload_n 2, 1) := by decide +kernel
theorem dX5_layOut_91 : decode cX5_layOut 91 = .ok (.ldc 129, 2) := by decide +kernel
theorem dX5_layOut_93 : decode cX5_layOut 93 = .ok (.iadd, 1) := by decide +kernel
theorem dX5_layOut_94 : decode cX5_layOut 94 = .ok (.invokestatic 122, 3) := by decide +kernel
theorem dX5_layOut_97 : decode cX5_layOut 97 = .ok (.invokestatic 125, 3) := by decide +kernel
theorem dX5_layOut_100 : decode cX5_layOut 100 = .ok (.iadd, 1) := by decide +kernel
theorem dX5_layOut_101 : decode cX5_layOut 101 = .ok (.putfield 109, 3) := by decide +kernel
theorem dX5_layOut_104 : decode cX5_layOut 104 = .ok (.aload_n 0, 1) := by decide +kernel
theorem dX5_layOut_105 : decode cX5_layOut 105 = .ok (.getfield 18, 3) := by decide +kernel
theorem dX5_layOut_108 : decode cX5_layOut 108 = .ok (.iload_n 3, 1) := by decide +kernel
theorem dX5_layOut_109 : decode cX5_layOut 109 = .ok (.iload_n 2, 1) := by decide +kernel
theorem dX5_layOut_110 : decode cX5_layOut 110 = .ok (.iastore, 1) := by decide +kernel
theorem dX5_layOut_111 : decode cX5_layOut 111 = .ok (.aload_n 0, 1) := by decide +kernel
theorem dX5_layOut_112 : decode cX5_layOut 112 = .ok (.getfield 21, 3) := by decide +kernel
theorem dX5_layOut_115 : decode cX5_layOut 115 = .ok (.iload_n 3, 1) := by decide +kernel
theorem dX5_layOut_116 : decode cX5_layOut 116 = .ok (.aload_n 0, 1) := by decide +kernel
theorem dX5_layOut_117 : decode cX5_layOut 117 = .ok (.getfield 100, 3) := by decide +kernel
theorem dX5_layOut_120 : decode cX5_layOut 120 = .ok (.iastore, 1) := by decide +kernel
theorem dX5_layOut_121 : decode cX5_layOut 121 = .ok (.aload_n 0, 1) := by decide +kernel
theorem dX5_layOut_122 : decode cX5_layOut 122 = .ok (.getfield 24, 3) := by decide +kernel
theorem dX5_layOut_125 : decode cX5_layOut 125 = .ok (.iload_n 3, 1) := by decide +kernel
theorem dX5_layOut_126 : decode cX5_layOut 126 = .ok (.aload_n 0, 1) := by decide +kernel
theorem dX5_layOut_127 : decode cX5_layOut 127 = .ok (.getfield 109, 3) := by decide +kernel
theorem dX5_layOut_130 : decode cX5_layOut 130 = .ok (.iastore, 1) := by decide +kernel
theorem dX5_layOut_131 : decode cX5_layOut 131 = .ok (.iinc 3 1, 3) := by decide +kernel
theorem dX5_layOut_134 : decode cX5_layOut 134 = .ok (.goto (-108), 3) := by decide +kernel
theorem dX5_layOut_137 : decode cX5_layOut 137 = .ok (.iload_n 2, 1) := by decide +kernel
theorem dX5_layOut_138 : decode cX5_layOut 138 = .ok (.ireturn, 1) := by decide +kernel
theorem dX5_step_0 : decode cX5_step 0 = .ok (.lload_n 0, 1) := by decide +kernel
theorem dX5_step_1 : decode cX5_step 1 = .ok (.iload_n 2, 1) := by decide +kernel
theorem dX5_step_2 : decode cX5_step 2 = .ok (.i2l, 1) := by decide +kernel
theorem dX5_step_3 : decode cX5_step 3 = .ok (.lmul, 1) := by decide +kernel
theorem dX5_step_4 : decode cX5_step 4 = .ok (.ldc2_w 130, 3) := by decide +kernel
theorem dX5_step_7 : decode cX5_step 7 = .ok (.invokestatic 64, 3) := by decide +kernel
theorem dX5_step_10 : decode cX5_step 10 = .ok (.ireturn, 1) := by decide +kernel
theorem dX5_number_0 : decode cX5_number 0 = .ok (.iload_n 1, 1) := by decide +kernel
theorem dX5_number_1 : decode cX5_number 1 = .ok (.tableswitch 73 0 6 #[43, 48, 53, 58, 63, 73, 68], 43) := by decide +kernel
theorem dX5_number_44 : decode cX5_number 44 = .ok (.aload_n 0, 1) := by decide +kernel
theorem dX5_number_45 : decode cX5_number 45 = .ok (.getfield 27, 3) := by decide +kernel
theorem dX5_number_48 : decode cX5_number 48 = .ok (.ireturn, 1) := by decide +kernel
theorem dX5_number_49 : decode cX5_number 49 = .ok (.aload_n 0, 1) := by decide +kernel
theorem dX5_number_50 : decode cX5_number 50 = .ok (.getfield 37, 3) := by decide +kernel
theorem dX5_number_53 : decode cX5_number 53 = .ok (.ireturn, 1) := by decide +kernel
theorem dX5_number_54 : decode cX5_number 54 = .ok (.aload_n 0, 1) := by decide +kernel
theorem dX5_number_55 : decode cX5_number 55 = .ok (.getfield 31, 3) := by decide +kernel
theorem dX5_number_58 : decode cX5_number 58 = .ok (.ireturn, 1) := by decide +kernel
theorem dX5_number_59 : decode cX5_number 59 = .ok (.aload_n 0, 1) := by decide +kernel
theorem dX5_number_60 : decode cX5_number 60 = .ok (.getfield 34, 3) := by decide +kernel
theorem dX5_number_63 : decode cX5_number 63 = .ok (.ireturn, 1) := by decide +kernel
theorem dX5_number_64 : decode cX5_number 64 = .ok (.aload_n 0, 1) := by decide +kernel
theorem dX5_number_65 : decode cX5_number 65 = .ok (.getfield 51, 3) := by decide +kernel
theorem dX5_number_68 : decode cX5_number 68 = .ok (.ireturn, 1) := by decide +kernel
theorem dX5_number_69 : decode cX5_number 69 = .ok (.aload_n 0, 1) := by decide +kernel
theorem dX5_number_70 : decode cX5_number 70 = .ok (.invokevirtual 132, 3) := by decide +kernel
theorem dX5_number_73 : decode cX5_number 73 = .ok (.ireturn, 1) := by decide +kernel
theorem dX5_number_74 : decode cX5_number 74 = .ok (.aload_n 0, 1) := by decide +kernel
theorem dX5_number_75 : decode cX5_number 75 = .ok (.invokevirtual 136, 3) := by decide +kernel
theorem dX5_number_78 : decode cX5_number 78 = .ok (.ifCond .eq 11, 3) := by decide +kernel
theorem dX5_number_81 : decode cX5_number 81 = .ok (.aload_n 0, 1) := by decide +kernel
theorem dX5_number_82 : decode cX5_number 82 = .ok (.iload_n 1, 1) := by decide +kernel
theorem dX5_number_83 : decode cX5_number 83 = .ok (.invokevirtual 139, 3) := by decide +kernel
theorem dX5_number_86 : decode cX5_number 86 = .ok (.goto 5, 3) := by decide +kernel
theorem dX5_number_89 : decode cX5_number 89 = .ok (.ldc 46, 2) := by decide +kernel
theorem dX5_number_91 : decode cX5_number 91 = .ok (.ireturn, 1) := by decide +kernel
theorem dX5_numberOfClosing_0 : decode cX5_numberOfClosing 0 = .ok (.iload_n 1, 1) := by decide +kernel
theorem dX5_numberOfClosing_1 : decode cX5_numberOfClosing 1 = .ok (.tableswitch 46 5 8 #[31, 46, 36, 41], 31) := by decide +kernel
theorem dX5_numberOfClosing_32 : decode cX5_numberOfClosing 32 = .ok (.aload_n 0, 1) := by decide +kernel
theorem dX5_numberOfClosing_33 : decode cX5_numberOfClosing 33 = .ok (.getfield 61, 3) := by decide +kernel
theorem dX5_numberOfClosing_36 : decode cX5_numberOfClosing 36 = .ok (.ireturn, 1) := by decide +kernel
theorem dX5_numberOfClosing_37 : decode cX5_numberOfClosing 37 = .ok (.aload_n 0, 1) := by decide +kernel
theorem dX5_numberOfClosing_38 : decode cX5_numberOfClosing 38 = .ok (.getfield 106, 3) := by decide +kernel
theorem dX5_numberOfClosing_41 : decode cX5_numberOfClosing 41 = .ok (.ireturn, 1) := by decide +kernel
theorem dX5_numberOfClosing_42 : decode cX5_numberOfClosing 42 = .ok (.aload_n 0, 1) := by decide +kernel
theorem dX5_numberOfClosing_43 : decode cX5_numberOfClosing 43 = .ok (.getfield 115, 3) := by decide +kernel
theorem dX5_numberOfClosing_46 : decode cX5_numberOfClosing 46 = .ok (.ireturn, 1) := by decide +kernel
theorem dX5_numberOfClosing_47 : decode cX5_numberOfClosing 47 = .ok (.aload_n 0, 1) := by decide +kernel
theorem dX5_numberOfClosing_48 : decode cX5_numberOfClosing 48 = .ok (.getfield 106, 3) := by decide +kernel
theorem dX5_numberOfClosing_51 : decode cX5_numberOfClosing 51 = .ok (.i2l, 1) := by decide +kernel
theorem dX5_numberOfClosing_52 : decode cX5_numberOfClosing 52 = .ok (.aload_n 0, 1) := by decide +kernel
theorem dX5_numberOfClosing_53 : decode cX5_numberOfClosing 53 = .ok (.getfield 115, 3) := by decide +kernel
theorem dX5_numberOfClosing_56 : decode cX5_numberOfClosing 56 = .ok (.i2l, 1) := by decide +kernel
theorem dX5_numberOfClosing_57 : decode cX5_numberOfClosing 57 = .ok (.invokestatic 142, 3) := by decide +kernel
theorem dX5_numberOfClosing_60 : decode cX5_numberOfClosing 60 = .ok (.ireturn, 1) := by decide +kernel
theorem dX5_sumOfLengths_0 : decode cX5_sumOfLengths 0 = .ok (.iconst 0, 1) := by decide +kernel
theorem dX5_sumOfLengths_1 : decode cX5_sumOfLengths 1 = .ok (.istore_n 1, 1) := by decide +kernel
theorem dX5_sumOfLengths_2 : decode cX5_sumOfLengths 2 = .ok (.iconst 0, 1) := by decide +kernel
theorem dX5_sumOfLengths_3 : decode cX5_sumOfLengths 3 = .ok (.istore_n 2, 1) := by decide +kernel
theorem dX5_sumOfLengths_4 : decode cX5_sumOfLengths 4 = .ok (.iload_n 2, 1) := by decide +kernel
theorem dX5_sumOfLengths_5 : decode cX5_sumOfLengths 5 = .ok (.aload_n 0, 1) := by decide +kernel
theorem dX5_sumOfLengths_6 : decode cX5_sumOfLengths 6 = .ok (.getfield 37, 3) := by decide +kernel
theorem dX5_sumOfLengths_9 : decode cX5_sumOfLengths 9 = .ok (.if_icmp .ge 24, 3) := by decide +kernel
theorem dX5_sumOfLengths_12 : decode cX5_sumOfLengths 12 = .ok (.iload_n 2, 1) := by decide +kernel
theorem dX5_sumOfLengths_13 : decode cX5_sumOfLengths 13 = .ok (.bipush 12, 2) := by decide +kernel
theorem dX5_sumOfLengths_15 : decode cX5_sumOfLengths 15 = .ok (.if_icmp .ge 18, 3) := by decide +kernel
theorem dX5_sumOfLengths_18 : decode cX5_sumOfLengths 18 = .ok (.iload_n 1, 1) := by decide +kernel
theorem dX5_sumOfLengths_19 : decode cX5_sumOfLengths 19 = .ok (.aload_n 0, 1) := by decide +kernel
theorem dX5_sumOfLengths_20 : decode cX5_sumOfLengths 20 = .ok (.getfield 15, 3) := by decide +kernel
theorem dX5_sumOfLengths_23 : decode cX5_sumOfLengths 23 = .ok (.iload_n 2, 1) := by decide +kernel
theorem dX5_sumOfLengths_24 : decode cX5_sumOfLengths 24 = .ok (.iaload, 1) := by decide +kernel
theorem dX5_sumOfLengths_25 : decode cX5_sumOfLengths 25 = .ok (.iadd, 1) := by decide +kernel
theorem dX5_sumOfLengths_26 : decode cX5_sumOfLengths 26 = .ok (.istore_n 1, 1) := by decide +kernel
theorem dX5_sumOfLengths_27 : decode cX5_sumOfLengths 27 = .ok (.iinc 2 1, 3) := by decide +kernel
theorem dX5_sumOfLengths_30 : decode cX5_sumOfLengths 30 = .ok (.goto (-26), 3) := by decide +kernel
theorem dX5_sumOfLengths_33 : decode cX5_sumOfLengths 33 = .ok (.iload_n 1, 1) := by decide +kernel
theorem dX5_sumOfLengths_34 : decode cX5_sumOfLengths 34 = .ok (.ireturn, 1) := by decide +kernel
theorem dX5_numberOfLeg_0 : decode cX5_numberOfLeg 0 = .ok (.aload_n 0, 1) := by decide +kernel
theorem dX5_numberOfLeg_1 : decode cX5_numberOfLeg 1 = .ok (.iload_n 1, 1) := by decide +kernel
theorem dX5_numberOfLeg_2 : decode cX5_numberOfLeg 2 = .ok (.invokevirtual 82, 3) := by decide +kernel
theorem dX5_numberOfLeg_5 : decode cX5_numberOfLeg 5 = .ok (.ifCond .ne 6, 3) := by decide +kernel
theorem dX5_numberOfLeg_8 : decode cX5_numberOfLeg 8 = .ok (.ldc 46, 2) := by decide +kernel
theorem dX5_numberOfLeg_10 : decode cX5_numberOfLeg 10 = .ok (.ireturn, 1) := by decide +kernel
theorem dX5_numberOfLeg_11 : decode cX5_numberOfLeg 11 = .ok (.iload_n 2, 1) := by decide +kernel
theorem dX5_numberOfLeg_12 : decode cX5_numberOfLeg 12 = .ok (.tableswitch 84 0 3 #[32, 39, 46, 65], 32) := by decide +kernel
theorem dX5_numberOfLeg_44 : decode cX5_numberOfLeg 44 = .ok (.aload_n 0, 1) := by decide +kernel
theorem dX5_numberOfLeg_45 : decode cX5_numberOfLeg 45 = .ok (.getfield 9, 3) := by decide +kernel
theorem dX5_numberOfLeg_48 : decode cX5_numberOfLeg 48 = .ok (.iload_n 1, 1) := by decide +kernel
theorem dX5_numberOfLeg_49 : decode cX5_numberOfLeg 49 = .ok (.iaload, 1) := by decide +kernel
theorem dX5_numberOfLeg_50 : decode cX5_numberOfLeg 50 = .ok (.ireturn, 1) := by decide +kernel
theorem dX5_numberOfLeg_51 : decode cX5_numberOfLeg 51 = .ok (.aload_n 0, 1) := by decide +kernel
theorem dX5_numberOfLeg_52 : decode cX5_numberOfLeg 52 = .ok (.getfield 15, 3) := by decide +kernel
theorem dX5_numberOfLeg_55 : decode cX5_numberOfLeg 55 = .ok (.iload_n 1, 1) := by decide +kernel
theorem dX5_numberOfLeg_56 : decode cX5_numberOfLeg 56 = .ok (.iaload, 1) := by decide +kernel
theorem dX5_numberOfLeg_57 : decode cX5_numberOfLeg 57 = .ok (.ireturn, 1) := by decide +kernel
theorem dX5_numberOfLeg_58 : decode cX5_numberOfLeg 58 = .ok (.aload_n 0, 1) := by decide +kernel
theorem dX5_numberOfLeg_59 : decode cX5_numberOfLeg 59 = .ok (.invokevirtual 58, 3) := by decide +kernel
theorem dX5_numberOfLeg_62 : decode cX5_numberOfLeg 62 = .ok (.ifCond .eq 12, 3) := by decide +kernel
theorem dX5_numberOfLeg_65 : decode cX5_numberOfLeg 65 = .ok (.aload_n 0, 1) := by decide +kernel
theorem dX5_numberOfLeg_66 : decode cX5_numberOfLeg 66 = .ok (.getfield 18, 3) := by decide +kernel
theorem dX5_numberOfLeg_69 : decode cX5_numberOfLeg 69 = .ok (.iload_n 1, 1) := by decide +kernel
theorem dX5_numberOfLeg_70 : decode cX5_numberOfLeg 70 = .ok (.iaload, 1) := by decide +kernel
theorem dX5_numberOfLeg_71 : decode cX5_numberOfLeg 71 = .ok (.goto 5, 3) := by decide +kernel
theorem dX5_numberOfLeg_74 : decode cX5_numberOfLeg 74 = .ok (.ldc 46, 2) := by decide +kernel
theorem dX5_numberOfLeg_76 : decode cX5_numberOfLeg 76 = .ok (.ireturn, 1) := by decide +kernel
theorem dX5_numberOfLeg_77 : decode cX5_numberOfLeg 77 = .ok (.aload_n 0, 1) := by decide +kernel
theorem dX5_numberOfLeg_78 : decode cX5_numberOfLeg 78 = .ok (.invokevirtual 58, 3) := by decide +kernel
theorem dX5_numberOfLeg_81 : decode cX5_numberOfLeg 81 = .ok (.ifCond .eq 12, 3) := by decide +kernel
theorem dX5_numberOfLeg_84 : decode cX5_numberOfLeg 84 = .ok (.aload_n 0, 1) := by decide +kernel
theorem dX5_numberOfLeg_85 : decode cX5_numberOfLeg 85 = .ok (.getfield 21, 3) := by decide +kernel
theorem dX5_numberOfLeg_88 : decode cX5_numberOfLeg 88 = .ok (.iload_n 1, 1) := by decide +kernel
theorem dX5_numberOfLeg_89 : decode cX5_numberOfLeg 89 = .ok (.iaload, 1) := by decide +kernel
theorem dX5_numberOfLeg_90 : decode cX5_numberOfLeg 90 = .ok (.goto 5, 3) := by decide +kernel
theorem dX5_numberOfLeg_93 : decode cX5_numberOfLeg 93 = .ok (.ldc 46, 2) := by decide +kernel
theorem dX5_numberOfLeg_95 : decode cX5_numberOfLeg 95 = .ok (.ireturn, 1) := by decide +kernel
theorem dX5_numberOfLeg_96 : decode cX5_numberOfLeg 96 = .ok (.aload_n 0, 1) := by decide +kernel
theorem dX5_numberOfLeg_97 : decode cX5_numberOfLeg 97 = .ok (.invokevirtual 58, 3) := by decide +kernel
theorem dX5_numberOfLeg_100 : decode cX5_numberOfLeg 100 = .ok (.ifCond .eq 12, 3) := by decide +kernel
theorem dX5_numberOfLeg_103 : decode cX5_numberOfLeg 103 = .ok (.aload_n 0, 1) := by decide +kernel
theorem dX5_numberOfLeg_104 : decode cX5_numberOfLeg 104 = .ok (.getfield 24, 3) := by decide +kernel
theorem dX5_numberOfLeg_107 : decode cX5_numberOfLeg 107 = .ok (.iload_n 1, 1) := by decide +kernel
theorem dX5_numberOfLeg_108 : decode cX5_numberOfLeg 108 = .ok (.iaload, 1) := by decide +kernel
theorem dX5_numberOfLeg_109 : decode cX5_numberOfLeg 109 = .ok (.goto 5, 3) := by decide +kernel
theorem dX5_numberOfLeg_112 : decode cX5_numberOfLeg 112 = .ok (.ldc 46, 2) := by decide +kernel
theorem dX5_numberOfLeg_114 : decode cX5_numberOfLeg 114 = .ok (.ireturn, 1) := by decide +kernel
theorem dX6_init_0 : decode cX6_init 0 = .ok (.aload_n 0, 1) := by decide +kernel
theorem dX6_init_1 : decode cX6_init 1 = .ok (.invokespecial 3, 3) := by decide +kernel
theorem dX6_init_4 : decode cX6_init 4 = .ok (.aload_n 0, 1) := by decide +kernel
theorem dX6_init_5 : decode cX6_init 5 = .ok (.bipush 9, 2) := by decide +kernel
theorem dX6_init_7 : decode cX6_init 7 = .ok (.newarray .int, 2) := by decide +kernel
theorem dX6_init_9 : decode cX6_init 9 = .ok (.putfield 9, 3) := by decide +kernel
theorem dX6_init_12 : decode cX6_init 12 = .ok (.return_, 1) := by decide +kernel
theorem dX6_copyFrom_0 : decode cX6_copyFrom 0 = .ok (.aload_n 0, 1) := by decide +kernel
theorem dX6_copyFrom_1 : decode cX6_copyFrom 1 = .ok (.aload_n 1, 1) := by decide +kernel
theorem dX6_copyFrom_2 : decode cX6_copyFrom 2 = .ok (.getfield 15, 3) := by decide +kernel
theorem dX6_copyFrom_5 : decode cX6_copyFrom 5 = .ok (.putfield 15, 3) := by decide +kernel
theorem dX6_copyFrom_8 : decode cX6_copyFrom 8 = .ok (.aload_n 0, 1) := by decide +kernel
theorem dX6_copyFrom_9 : decode cX6_copyFrom 9 = .ok (.aload_n 1, 1) := by decide +kernel
theorem dX6_copyFrom_10 : decode cX6_copyFrom 10 = .ok (.getfield 19, 3) := by decide +kernel
theorem dX6_copyFrom_13 : decode cX6_copyFrom 13 = .ok (.putfield 19, 3) := by decide +kernel
theorem dX6_copyFrom_16 : decode cX6_copyFrom 16 = .ok (.aload_n 0, 1) := by decide +kernel
theorem dX6_copyFrom_17 : decode cX6_copyFrom 17 = .ok (.aload_n 1, 1) := by decide +kernel
theorem dX6_copyFrom_18 : decode cX6_copyFrom 18 = .ok (.getfield 22, 3) := by decide +kernel
theorem dX6_copyFrom_21 : decode cX6_copyFrom 21 = .ok (.putfield 22, 3) := by decide +kernel
theorem dX6_copyFrom_24 : decode cX6_copyFrom 24 = .ok (.aload_n 1, 1) := by decide +kernel
theorem dX6_copyFrom_25 : decode cX6_copyFrom 25 = .ok (.getfield 9, 3) := by decide +kernel
theorem dX6_copyFrom_28 : decode cX6_copyFrom 28 = .ok (.iconst 0, 1) := by decide +kernel
theorem dX6_copyFrom_29 : decode cX6_copyFrom 29 = .ok (.aload_n 0, 1) := by decide +kernel
theorem dX6_copyFrom_30 : decode cX6_copyFrom 30 = .ok (.getfield 9, 3) := by decide +kernel
theorem dX6_copyFrom_33 : decode cX6_copyFrom 33 = .ok (.iconst 0, 1) := by decide +kernel
theorem dX6_copyFrom_34 : decode cX6_copyFrom 34 = .ok (.bipush 9, 2) := by decide +kernel
theorem dX6_copyFrom_36 : decode cX6_copyFrom 36 = .ok (.invokestatic 25, 3) := by decide +kernel
theorem dX6_copyFrom_39 : decode cX6_copyFrom 39 = .ok (.return_, 1) := by decide +kernel
theorem dX6_hangAt_0 : decode cX6_hangAt 0 = .ok (.aload_n 0, 1) := by decide +kernel
theorem dX6_hangAt_1 : decode cX6_hangAt 1 = .ok (.iload_n 1, 1) := by decide +kernel
theorem dX6_hangAt_2 : decode cX6_hangAt 2 = .ok (.putfield 15, 3) := by decide +kernel
theorem dX6_hangAt_5 : decode cX6_hangAt 5 = .ok (.aload_n 0, 1) := by decide +kernel
theorem dX6_hangAt_6 : decode cX6_hangAt 6 = .ok (.iload_n 2, 1) := by decide +kernel
theorem dX6_hangAt_7 : decode cX6_hangAt 7 = .ok (.putfield 19, 3) := by decide +kernel
theorem dX6_hangAt_10 : decode cX6_hangAt 10 = .ok (.aload_n 0, 1) := by decide +kernel
theorem dX6_hangAt_11 : decode cX6_hangAt 11 = .ok (.iconst 0, 1) := by decide +kernel
theorem dX6_hangAt_12 : decode cX6_hangAt 12 = .ok (.putfield 22, 3) := by decide +kernel
theorem dX6_hangAt_15 : decode cX6_hangAt 15 = .ok (.return_, 1) := by decide +kernel
theorem dX6_addTurn_0 : decode cX6_addTurn 0 = .ok (.aload_n 0, 1) := by decide +kernel
theorem dX6_addTurn_1 : decode cX6_addTurn 1 = .ok (.getfield 22, 3) := by decide +kernel
theorem dX6_addTurn_4 : decode cX6_addTurn 4 = .ok (.ifCond .lt 35, 3) := by decide +kernel
theorem dX6_addTurn_7 : decode cX6_addTurn 7 = .ok (.aload_n 0, 1) := by decide +kernel
theorem dX6_addTurn_8 : decode cX6_addTurn 8 = .ok (.getfield 22, 3) := by decide +kernel
theorem dX6_addTurn_11 : decode cX6_addTurn 11 = .ok (.aload_n 0, 1) := by decide +kernel
theorem dX6_addTurn_12 : decode cX6_addTurn 12 = .ok (.getfield 9, 3) := by decide +kernel
theorem dX6_addTurn_15 : decode cX6_addTurn 15 = .ok (.arraylength, 1) := by decide +kernel
theorem dX6_addTurn_16 : decode cX6_addTurn 16 = .ok (.if_icmp .ge 23, 3) := by decide +kernel
theorem dX6_addTurn_19 : decode cX6_addTurn 19 = .ok (.aload_n 0, 1) := by decide +kernel
theorem dX6_addTurn_20 : decode cX6_addTurn 20 = .ok (.getfield 9, 3) := by decide +kernel
theorem dX6_addTurn_23 : decode cX6_addTurn 23 = .ok (.aload_n 0, 1) := by decide +kernel
theorem dX6_addTurn_24 : decode cX6_addTurn 24 = .ok (.getfield 22, 3) := by decide +kernel
theorem dX6_addTurn_27 : decode cX6_addTurn 27 = .ok (.iload_n 1, 1) := by decide +kernel
theorem dX6_addTurn_28 : decode cX6_addTurn 28 = .ok (.iastore, 1) := by decide +kernel
theorem dX6_addTurn_29 : decode cX6_addTurn 29 = .ok (.aload_n 0, 1) := by decide +kernel
theorem dX6_addTurn_30 : decode cX6_addTurn 30 = .ok (.dup, 1) := by decide +kernel
theorem dX6_addTurn_31 : decode cX6_addTurn 31 = .ok (.getfield 22, 3) := by decide +kernel
theorem dX6_addTurn_34 : decode cX6_addTurn 34 = .ok (.iconst 1, 1) := by decide +kernel
theorem dX6_addTurn_35 : decode cX6_addTurn 35 = .ok (.iadd, 1) := by decide +kernel
theorem dX6_addTurn_36 : decode cX6_addTurn 36 = .ok (.putfield 22, 3) := by decide +kernel
theorem dX6_addTurn_39 : decode cX6_addTurn 39 = .ok (.aload_n 0, 1) := by decide +kernel
theorem dX6_addTurn_40 : decode cX6_addTurn 40 = .ok (.getfield 22, 3) := by decide +kernel
theorem dX6_addTurn_43 : decode cX6_addTurn 43 = .ok (.ireturn, 1) := by decide +kernel
theorem dX6_dropTurns_0 : decode cX6_dropTurns 0 = .ok (.aload_n 0, 1) := by decide +kernel
theorem dX6_dropTurns_1 : decode cX6_dropTurns 1 = .ok (.getfield 22, 3) := by decide +kernel
theorem dX6_dropTurns_4 : decode cX6_dropTurns 4 = .ok (.istore_n 1, 1) := by decide +kernel
theorem dX6_dropTurns_5 : decode cX6_dropTurns 5 = .ok (.aload_n 0, 1) := by decide +kernel
theorem dX6_dropTurns_6 : decode cX6_dropTurns 6 = .ok (.iconst 0, 1) := by decide +kernel
theorem dX6_dropTurns_7 : decode cX6_dropTurns 7 = .ok (.putfield 22, 3) := by decide +kernel
theorem dX6_dropTurns_10 : decode cX6_dropTurns 10 = .ok (.iload_n 1, 1) := by decide +kernel
theorem dX6_dropTurns_11 : decode cX6_dropTurns 11 = .ok (.ireturn, 1) := by decide +kernel
theorem dX6_judge_0 : decode cX6_judge 0 = .ok (.aload_n 0, 1) := by decide +kernel
theorem dX6_judge_1 : decode cX6_judge 1 = .ok (.aload_n 0, 1) := by decide +kernel
theorem dX6_judge_2 : decode cX6_judge 2 = .ok (.invokevirtual 31, 3) := by decide +kernel
theorem dX6_judge_5 : decode cX6_judge 5 = .ok (.putfield 35, 3) := by decide +kernel
theorem dX6_judge_8 : decode cX6_judge 8 = .ok (.aload_n 0, 1) := by decide +kernel
theorem dX6_judge_9 : decode cX6_judge 9 = .ok (.aload_n 0, 1) := by decide +kernel
theorem dX6_judge_10 : decode cX6_judge 10 = .ok (.invokevirtual 38, 3) := by decide +kernel
theorem dX6_judge_13 : decode cX6_judge 13 = .ok (.putfield 41, 3) := by decide +kernel
theorem dX6_judge_16 : decode cX6_judge 16 = .ok (.aload_n 0, 1) := by decide +kernel
theorem dX6_judge_17 : decode cX6_judge 17 = .ok (.aload_n 0, 1) := by decide +kernel
theorem dX6_judge_18 : decode cX6_judge 18 = .ok (.getfield 22, 3) := by decide +kernel
theorem dX6_judge_21 : decode cX6_judge 21 = .ok (.iconst 3, 1) := by decide +kernel
theorem dX6_judge_22 : decode cX6_judge 22 = .ok (.if_icmp .ge 7, 3) := by decide +kernel
theorem dX6_judge_25 : decode cX6_judge 25 = .ok (.iconst 1, 1) := by decide +kernel
theorem dX6_judge_26 : decode cX6_judge 26 = .ok (.goto 16, 3) := by decide +kernel
theorem dX6_judge_29 : decode cX6_judge 29 = .ok (.aload_n 0, 1) := by decide +kernel
theorem dX6_judge_30 : decode cX6_judge 30 = .ok (.getfield 41, 3) := by decide +kernel
theorem dX6_judge_33 : decode cX6_judge 33 = .ok (.iload_n 1, 1) := by decide +kernel
theorem dX6_judge_34 : decode cX6_judge 34 = .ok (.if_icmp .le 7, 3) := by decide +kernel
theorem dX6_judge_37 : decode cX6_judge 37 = .ok (.iconst 2, 1) := by decide +kernel
theorem dX6_judge_38 : decode cX6_judge 38 = .ok (.goto 4, 3) := by decide +kernel
theorem dX6_judge_41 : decode cX6_judge 41 = .ok (.iconst 0, 1) := by decide +kernel
theorem dX6_judge_42 : decode cX6_judge 42 = .ok (.putfield 44, 3) := by decide +kernel
theorem dX6_judge_45 : decode cX6_judge 45 = .ok (.return_, 1) := by decide +kernel
theorem dX6_number_0 : decode cX6_number 0 = .ok (.iload_n 1, 1) := by decide +kernel
theorem dX6_number_1 : decode cX6_number 1 = .ok (.tableswitch 60 0 4 #[35, 40, 45, 50, 55], 35) := by decide +kernel
theorem dX6_number_36 : decode cX6_number 36 = .ok (.aload_n 0, 1) := by decide +kernel
theorem dX6_number_37 : decode cX6_number 37 = .ok (.getfield 15, 3) := by decide +kernel
theorem dX6_number_40 : decode cX6_number 40 = .ok (.ireturn, 1) := by decide +kernel
theorem dX6_number_41 : decode cX6_number 41 = .ok (.aload_n 0, 1) := by decide +kernel
theorem dX6_number_42 : decode cX6_number 42 = .ok (.getfield 19, 3) := by decide +kernel
theorem dX6_number_45 : decode cX6_number 45 = .ok (.ireturn, 1) := by decide +kernel
theorem dX6_number_46 : decode cX6_number 46 = .ok (.aload_n 0, 1) := by decide +kernel
theorem dX6_number_47 : decode cX6_number 47 = .ok (.getfield 22, 3) := by decide +kernel
theorem dX6_number_50 : decode cX6_number 50 = .ok (.ireturn, 1) := by decide +kernel
theorem dX6_number_51 : decode cX6_number 51 = .ok (.aload_n 0, 1) := by decide +kernel
theorem dX6_number_52 : decode cX6_number 52 = .ok (.getfield 35, 3) := by decide +kernel
theorem dX6_number_55 : decode cX6_number 55 = .ok (.ireturn, 1) := by decide +kernel
theorem dX6_number_56 : decode cX6_number 56 = .ok (.aload_n 0, 1) := by decide +kernel
theorem dX6_number_57 : decode cX6_number 57 = .ok (.getfield 44, 3) := by decide +kernel
theorem dX6_number_60 : decode cX6_number 60 = .ok (.ireturn, 1) := by decide +kernel
theorem dX6_number_61 : decode cX6_number 61 = .ok (.aload_n 0, 1) := by decide +kernel
theorem dX6_number_62 : decode cX6_number 62 = .ok (.getfield 41, 3) := by decide +kernel
theorem dX6_number_65 : decode cX6_number 65 = .ok (.ireturn, 1) := by decide +kernel
theorem dX6_meanOfTurns_0 : decode cX6_meanOfTurns 0 = .ok (.aload_n 0, 1) := by decide +kernel
theorem dX6_meanOfTurns_1 : decode cX6_meanOfTurns 1 = .ok (.getfield 22, 3) := by decide +kernel
theorem dX6_meanOfTurns_4 : decode cX6_meanOfTurns 4 = .ok (.iconst 3, 1) := by decide +kernel
theorem dX6_meanOfTurns_5 : decode cX6_meanOfTurns 5 = .ok (.if_icmp .lt 15, 3) := by decide +kernel
theorem dX6_meanOfTurns_8 : decode cX6_meanOfTurns 8 = .ok (.aload_n 0, 1) := by decide +kernel
theorem dX6_meanOfTurns_9 : decode cX6_meanOfTurns 9 = .ok (.getfield 22, 3) := by decide +kernel
theorem dX6_meanOfTurns_12 : decode cX6_meanOfTurns 12 = .ok (.aload_n 0, 1) := by decide +kernel
theorem dX6_meanOfTurns_13 : decode cX6_meanOfTurns 13 = .ok (.getfield 9, 3) := by decide +kernel
theorem dX6_meanOfTurns_16 : decode cX6_meanOfTurns 16 = .ok (.arraylength, 1) := by decide +kernel
theorem dX6_meanOfTurns_17 : decode cX6_meanOfTurns 17 = .ok (.if_icmp .le 6, 3) := by decide +kernel
theorem dX6_meanOfTurns_20 : decode cX6_meanOfTurns 20 = .ok (.ldc 47, 2) := by decide +kernel
theorem dX6_meanOfTurns_22 : decode cX6_meanOfTurns 22 = .ok (.ireturn, 1) := by decide +kernel
theorem dX6_meanOfTurns_23 : decode cX6_meanOfTurns 23 = .ok (.aload_n 0, 1) := by decide +kernel
theorem dX6_meanOfTurns_24 : decode cX6_meanOfTurns 24 = .ok (.getfield 9, 3) := by decide +kernel
theorem dX6_meanOfTurns_27 : decode cX6_meanOfTurns 27 = .ok (.iconst 0, 1) := by decide +kernel
theorem dX6_meanOfTurns_28 : decode cX6_meanOfTurns 28 = .ok (.iaload, 1) := by decide +kernel
theorem dX6_meanOfTurns_29 : decode cX6_meanOfTurns 29 = .ok (.aload_n 0, 1) := by decide +kernel
theorem dX6_meanOfTurns_30 : decode cX6_meanOfTurns 30 = .ok (.getfield 9, 3) := by decide +kernel
theorem dX6_meanOfTurns_33 : decode cX6_meanOfTurns 33 = .ok (.aload_n 0, 1) := by decide +kernel
theorem dX6_meanOfTurns_34 : decode cX6_meanOfTurns 34 = .ok (.getfield 22, 3) := by decide +kernel
theorem dX6_meanOfTurns_37 : decode cX6_meanOfTurns 37 = .ok (.iconst 1, 1) := by decide +kernel
theorem dX6_meanOfTurns_38 : decode cX6_meanOfTurns 38 = .ok (.isub, 1) := by decide +kernel
theorem dX6_meanOfTurns_39 : decode cX6_meanOfTurns 39 = .ok (.iaload, 1) := by decide +kernel
theorem dX6_meanOfTurns_40 : decode cX6_meanOfTurns 40 = .ok (.iadd, 1) := by decide +kernel
theorem dX6_meanOfTurns_41 : decode cX6_meanOfTurns 41 = .ok (.istore_n 1, 1) := by decide +kernel
theorem dX6_meanOfTurns_42 : decode cX6_meanOfTurns 42 = .ok (.iconst 1, 1) := by decide +kernel
theorem dX6_meanOfTurns_43 : decode cX6_meanOfTurns 43 = .ok (.istore_n 2, 1) := by decide +kernel
theorem dX6_meanOfTurns_44 : decode cX6_meanOfTurns 44 = .ok (.iload_n 2, 1) := by decide +kernel
theorem dX6_meanOfTurns_45 : decode cX6_meanOfTurns 45 = .ok (.aload_n 0, 1) := by decide +kernel
theorem dX6_meanOfTurns_46 : decode cX6_meanOfTurns 46 = .ok (.getfield 22, 3) := by decide +kernel
theorem dX6_meanOfTurns_49 : decode cX6_meanOfTurns 49 = .ok (.iconst 1, 1) := by decide +kernel
theorem dX6_meanOfTurns_50 : decode cX6_meanOfTurns 50 = .ok (.isub, 1) := by decide +kernel
theorem dX6_meanOfTurns_51 : decode cX6_meanOfTurns 51 = .ok (.if_icmp .ge 20, 3) := by decide +kernel
theorem dX6_meanOfTurns_54 : decode cX6_meanOfTurns 54 = .ok (.iload_n 1, 1) := by decide +kernel
theorem dX6_meanOfTurns_55 : decode cX6_meanOfTurns 55 = .ok (.iconst 2, 1) := by decide +kernel
theorem dX6_meanOfTurns_56 : decode cX6_meanOfTurns 56 = .ok (.aload_n 0, 1) := by decide +kernel
theorem dX6_meanOfTurns_57 : decode cX6_meanOfTurns 57 = .ok (.getfield 9, 3) := by decide +kernel
theorem dX6_meanOfTurns_60 : decode cX6_meanOfTurns 60 = .ok (.iload_n 2, 1) := by decide +kernel
theorem dX6_meanOfTurns_61 : decode cX6_meanOfTurns 61 = .ok (.iaload, 1) := by decide +kernel
theorem dX6_meanOfTurns_62 : decode cX6_meanOfTurns 62 = .ok (.imul, 1) := by decide +kernel
theorem dX6_meanOfTurns_63 : decode cX6_meanOfTurns 63 = .ok (.iadd, 1) := by decide +kernel
theorem dX6_meanOfTurns_64 : decode cX6_meanOfTurns 64 = .ok (.istore_n 1, 1) := by decide +kernel
theorem dX6_meanOfTurns_65 : decode cX6_meanOfTurns 65 = .ok (.iinc 2 1, 3) := by decide +kernel
theorem dX6_meanOfTurns_68 : decode cX6_meanOfTurns 68 = .ok (.goto (-24), 3) := by decide +kernel
theorem dX6_meanOfTurns_71 : decode cX6_meanOfTurns 71 = .ok (.iload_n 1, 1) := by decide +kernel
theorem dX6_meanOfTurns_72 : decode cX6_meanOfTurns 72 = .ok (.i2l, 1) := by decide +kernel
theorem dX6_meanOfTurns_73 : decode cX6_meanOfTurns 73 = .ok (.iconst 2, 1) := by decide +kernel
theorem dX6_meanOfTurns_74 : decode cX6_meanOfTurns 74 = .ok (.aload_n 0, 1) := by decide +kernel
theorem dX6_meanOfTurns_75 : decode cX6_meanOfTurns 75 = .ok (.getfield 22, 3) := by decide +kernel
theorem dX6_meanOfTurns_78 : decode cX6_meanOfTurns 78 = .ok (.iconst 1, 1) := by decide +kernel
theorem dX6_meanOfTurns_79 : decode cX6_meanOfTurns 79 = .ok (.isub, 1) := by decide +kernel
theorem dX6_meanOfTurns_80 : decode cX6_meanOfTurns 80 = .ok (.imul, 1) := by decide +kernel
theorem dX6_meanOfTurns_81 : decode cX6_meanOfTurns 81 = .ok (.i2l, 1) := by decide +kernel
theorem dX6_meanOfTurns_82 : decode cX6_meanOfTurns 82 = .ok (.invokestatic 48, 3) := by decide +kernel
theorem dX6_meanOfTurns_85 : decode cX6_meanOfTurns 85 = .ok (.ireturn, 1) := by decide +kernel
theorem dX6_greatestDifference_0 : decode cX6_greatestDifference 0 = .ok (.iconst 0, 1) := by decide +kernel
theorem dX6_greatestDifference_1 : decode cX6_greatestDifference 1 = .ok (.istore_n 1, 1) := by decide +kernel
theorem dX6_greatestDifference_2 : decode cX6_greatestDifference 2 = .ok (.iconst 2, 1) := by decide +kernel
theorem dX6_greatestDifference_3 : decode cX6_greatestDifference 3 = .ok (.istore_n 2, 1) := by decide +kernel
theorem dX6_greatestDifference_4 : decode cX6_greatestDifference 4 = .ok (.iload_n 2, 1) := by decide +kernel
theorem dX6_greatestDifference_5 : decode cX6_greatestDifference 5 = .ok (.aload_n 0, 1) := by decide +kernel
theorem dX6_greatestDifference_6 : decode cX6_greatestDifference 6 = .ok (.getfield 22, 3) := by decide +kernel
theorem dX6_greatestDifference_9 : decode cX6_greatestDifference 9 = .ok (.if_icmp .ge 41, 3) := by decide +kernel
theorem dX6_greatestDifference_12 : decode cX6_greatestDifference 12 = .ok (.iload_n 2, 1) := by decide +kernel
theorem dX6_greatestDifference_13 : decode cX6_greatestDifference 13 = .ok (.aload_n 0, 1) := by decide +kernel
theorem dX6_greatestDifference_14 : decode cX6_greatestDifference 14 = .ok (.getfield 9, 3) := by decide +kernel
theorem dX6_greatestDifference_17 : decode cX6_greatestDifference 17 = .ok (.arraylength, 1) := by decide +kernel
theorem dX6_greatestDifference_18 : decode cX6_greatestDifference 18 = .ok (.if_icmp .ge 32, 3) := by decide +kernel
theorem dX6_greatestDifference_21 : decode cX6_greatestDifference 21 = .ok (.iload_n 1, 1) := by decide +kernel
theorem dX6_greatestDifference_22 : decode cX6_greatestDifference 22 = .ok (.aload_n 0, 1) := by decide +kernel
theorem dX6_greatestDifference_23 : decode cX6_greatestDifference 23 = .ok (.getfield 9, 3) := by decide +kernel
theorem dX6_greatestDifference_26 : decode cX6_greatestDifference 26 = .ok (.iload_n 2, 1) := by decide +kernel
theorem dX6_greatestDifference_27 : decode cX6_greatestDifference 27 = .ok (.iaload, 1) := by decide +kernel
theorem dX6_greatestDifference_28 : decode cX6_greatestDifference 28 = .ok (.aload_n 0, 1) := by decide +kernel
theorem dX6_greatestDifference_29 : decode cX6_greatestDifference 29 = .ok (.getfield 9, 3) := by decide +kernel
theorem dX6_greatestDifference_32 : decode cX6_greatestDifference 32 = .ok (.iload_n 2, 1) := by decide +kernel
theorem dX6_greatestDifference_33 : decode cX6_greatestDifference 33 = .ok (.iconst 2, 1) := by decide +kernel
theorem dX6_greatestDifference_34 : decode cX6_greatestDifference 34 = .ok (.isub, 1) := by decide +kernel
theorem dX6_greatestDifference_35 : decode cX6_greatestDifference 35 = .ok (.iaload, 1) := by decide +kernel
theorem dX6_greatestDifference_36 : decode cX6_greatestDifference 36 = .ok (.isub, 1) := by decide +kernel
theorem dX6_greatestDifference_37 : decode cX6_greatestDifference 37 = .ok (.invokestatic 54, 3) := by decide +kernel
theorem dX6_greatestDifference_40 : decode cX6_greatestDifference 40 = .ok (.invokestatic 60, 3) := by decide +kernel
theorem dX6_greatestDifference_43 : decode cX6_greatestDifference 43 = .ok (.istore_n 1, 1) := by decide +kernel
theorem dX6_greatestDifference_44 : decode cX6_greatestDifference 44 = .ok (.iinc 2 1, 3) := by decide +kernel
theorem dX6_greatestDifference_47 : decode cX6_greatestDifference 47 = .ok (.goto (-43), 3) := by decide +kernel
theorem dX6_greatestDifference_50 : decode cX6_greatestDifference 50 = .ok (.iload_n 1, 1) := by decide +kernel
theorem dX6_greatestDifference_51 : decode cX6_greatestDifference 51 = .ok (.ireturn, 1) := by decide +kernel
theorem dX7_init_0 : decode cX7_init 0 = .ok (.aload_n 0, 1) := by decide +kernel
theorem dX7_init_1 : decode cX7_init 1 = .ok (.invokespecial 1, 3) := by decide +kernel
theorem dX7_init_4 : decode cX7_init 4 = .ok (.aload_n 0, 1) := by decide +kernel
theorem dX7_init_5 : decode cX7_init 5 = .ok (.new 7, 3) := by decide +kernel
theorem dX7_init_8 : decode cX7_init 8 = .ok (.dup, 1) := by decide +kernel
theorem dX7_init_9 : decode cX7_init 9 = .ok (.invokespecial 9, 3) := by decide +kernel
theorem dX7_init_12 : decode cX7_init 12 = .ok (.putfield 10, 3) := by decide +kernel
theorem dX7_init_15 : decode cX7_init 15 = .ok (.aload_n 0, 1) := by decide +kernel
theorem dX7_init_16 : decode cX7_init 16 = .ok (.new 16, 3) := by decide +kernel
theorem dX7_init_19 : decode cX7_init 19 = .ok (.dup, 1) := by decide +kernel
theorem dX7_init_20 : decode cX7_init 20 = .ok (.invokespecial 18, 3) := by decide +kernel
theorem dX7_init_23 : decode cX7_init 23 = .ok (.putfield 19, 3) := by decide +kernel
theorem dX7_init_26 : decode cX7_init 26 = .ok (.aload_n 0, 1) := by decide +kernel
theorem dX7_init_27 : decode cX7_init 27 = .ok (.new 23, 3) := by decide +kernel
theorem dX7_init_30 : decode cX7_init 30 = .ok (.dup, 1) := by decide +kernel
theorem dX7_init_31 : decode cX7_init 31 = .ok (.invokespecial 25, 3) := by decide +kernel
theorem dX7_init_34 : decode cX7_init 34 = .ok (.putfield 26, 3) := by decide +kernel
theorem dX7_init_37 : decode cX7_init 37 = .ok (.return_, 1) := by decide +kernel
theorem dX7_set_0 : decode cX7_set 0 = .ok (.aload_n 0, 1) := by decide +kernel
theorem dX7_set_1 : decode cX7_set 1 = .ok (.getfield 10, 3) := by decide +kernel
theorem dX7_set_4 : decode cX7_set 4 = .ok (.iload_n 1, 1) := by decide +kernel
theorem dX7_set_5 : decode cX7_set 5 = .ok (.iload_n 2, 1) := by decide +kernel
theorem dX7_set_6 : decode cX7_set 6 = .ok (.invokevirtual 30, 3) := by decide +kernel
theorem dX7_set_9 : decode cX7_set 9 = .ok (.ifCond .ne 13, 3) := by decide +kernel
theorem dX7_set_12 : decode cX7_set 12 = .ok (.new 34, 3) := by decide +kernel
theorem dX7_set_15 : decode cX7_set 15 = .ok (.dup, 1) := by decide +kernel
theorem dX7_set_16 : decode cX7_set 16 = .ok (.ldc 36, 2) := by decide +kernel
theorem dX7_set_18 : decode cX7_set 18 = .ok (.invokespecial 38, 3) := by decide +kernel
theorem dX7_set_21 : decode cX7_set 21 = .ok (.athrow, 1) := by decide +kernel
theorem dX7_set_22 : decode cX7_set 22 = .ok (.aload_n 0, 1) := by decide +kernel
theorem dX7_set_23 : decode cX7_set 23 = .ok (.getfield 19, 3) := by decide +kernel
theorem dX7_set_26 : decode cX7_set 26 = .ok (.aload_n 0, 1) := by decide +kernel
theorem dX7_set_27 : decode cX7_set 27 = .ok (.getfield 10, 3) := by decide +kernel
theorem dX7_set_30 : decode cX7_set 30 = .ok (.invokevirtual 41, 3) := by decide +kernel
theorem dX7_set_33 : decode cX7_set 33 = .ok (.aload_n 0, 1) := by decide +kernel
theorem dX7_set_34 : decode cX7_set 34 = .ok (.getfield 10, 3) := by decide +kernel
theorem dX7_set_37 : decode cX7_set 37 = .ok (.iload_n 1, 1) := by decide +kernel
theorem dX7_set_38 : decode cX7_set 38 = .ok (.iload_n 2, 1) := by decide +kernel
theorem dX7_set_39 : decode cX7_set 39 = .ok (.invokevirtual 45, 3) := by decide +kernel
theorem dX7_set_42 : decode cX7_set 42 = .ok (.istore_n 3, 1) := by decide +kernel
theorem dX7_set_43 : decode cX7_set 43 = .ok (.aload_n 0, 1) := by decide +kernel
theorem dX7_set_44 : decode cX7_set 44 = .ok (.getfield 10, 3) := by decide +kernel
theorem dX7_set_47 : decode cX7_set 47 = .ok (.invokevirtual 49, 3) := by decide +kernel
theorem dX7_set_50 : decode cX7_set 50 = .ok (.iload_n 3, 1) := by decide +kernel
theorem dX7_set_51 : decode cX7_set 51 = .ok (.ireturn, 1) := by decide +kernel
theorem dX7_info_0 : decode cX7_info 0 = .ok (.iload_n 1, 1) := by decide +kernel
theorem dX7_info_1 : decode cX7_info 1 = .ok (.iconst 0, 1) := by decide +kernel
theorem dX7_info_2 : decode cX7_info 2 = .ok (.bipush 7, 2) := by decide +kernel
theorem dX7_info_4 : decode cX7_info 4 = .ok (.invokestatic 52, 3) := by decide +kernel
theorem dX7_info_7 : decode cX7_info 7 = .ok (.ifCond .ne 13, 3) := by decide +kernel
theorem dX7_info_10 : decode cX7_info 10 = .ok (.new 34, 3) := by decide +kernel
theorem dX7_info_13 : decode cX7_info 13 = .ok (.dup, 1) := by decide +kernel
theorem dX7_info_14 : decode cX7_info 14 = .ok (.ldc 56, 2) := by decide +kernel
theorem dX7_info_16 : decode cX7_info 16 = .ok (.invokespecial 38, 3) := by decide +kernel
theorem dX7_info_19 : decode cX7_info 19 = .ok (.athrow, 1) := by decide +kernel
theorem dX7_info_20 : decode cX7_info 20 = .ok (.aload_n 0, 1) := by decide +kernel
theorem dX7_info_21 : decode cX7_info 21 = .ok (.getfield 10, 3) := by decide +kernel
theorem dX7_info_24 : decode cX7_info 24 = .ok (.iload_n 1, 1) := by decide +kernel
theorem dX7_info_25 : decode cX7_info 25 = .ok (.invokevirtual 58, 3) := by decide +kernel
theorem dX7_info_28 : decode cX7_info 28 = .ok (.ireturn, 1) := by decide +kernel
theorem dX7_hang_0 : decode cX7_hang 0 = .ok (.iload_n 1, 1) := by decide +kernel
theorem dX7_hang_1 : decode cX7_hang 1 = .ok (.ldc 62, 2) := by decide +kernel
theorem dX7_hang_3 : decode cX7_hang 3 = .ok (.ldc 63, 2) := by decide +kernel
theorem dX7_hang_5 : decode cX7_hang 5 = .ok (.invokestatic 52, 3) := by decide +kernel
theorem dX7_hang_8 : decode cX7_hang 8 = .ok (.ifCond .eq 14, 3) := by decide +kernel
theorem dX7_hang_11 : decode cX7_hang 11 = .ok (.iload_n 2, 1) := by decide +kernel
theorem dX7_hang_12 : decode cX7_hang 12 = .ok (.ldc 62, 2) := by decide +kernel
theorem dX7_hang_14 : decode cX7_hang 14 = .ok (.ldc 63, 2) := by decide +kernel
theorem dX7_hang_16 : decode cX7_hang 16 = .ok (.invokestatic 52, 3) := by decide +kernel
theorem dX7_hang_19 : decode cX7_hang 19 = .ok (.ifCond .ne 13, 3) := by decide +kernel
theorem dX7_hang_22 : decode cX7_hang 22 = .ok (.new 34, 3) := by decide +kernel
theorem dX7_hang_25 : decode cX7_hang 25 = .ok (.dup, 1) := by decide +kernel
theorem dX7_hang_26 : decode cX7_hang 26 = .ok (.ldc 64, 2) := by decide +kernel
theorem dX7_hang_28 : decode cX7_hang 28 = .ok (.invokespecial 38, 3) := by decide +kernel
theorem dX7_hang_31 : decode cX7_hang 31 = .ok (.athrow, 1) := by decide +kernel
theorem dX7_hang_32 : decode cX7_hang 32 = .ok (.aload_n 0, 1) := by decide +kernel
theorem dX7_hang_33 : decode cX7_hang 33 = .ok (.getfield 10, 3) := by decide +kernel
theorem dX7_hang_36 : decode cX7_hang 36 = .ok (.getfield 66, 3) := by decide +kernel
theorem dX7_hang_39 : decode cX7_hang 39 = .ok (.bipush 6, 2) := by decide +kernel
theorem dX7_hang_41 : decode cX7_hang 41 = .ok (.if_icmp .lt 13, 3) := by decide +kernel
theorem dX7_hang_44 : decode cX7_hang 44 = .ok (.new 70, 3) := by decide +kernel
theorem dX7_hang_47 : decode cX7_hang 47 = .ok (.dup, 1) := by decide +kernel
theorem dX7_hang_48 : decode cX7_hang 48 = .ok (.ldc 72, 2) := by decide +kernel
theorem dX7_hang_50 : decode cX7_hang 50 = .ok (.invokespecial 74, 3) := by decide +kernel
theorem dX7_hang_53 : decode cX7_hang 53 = .ok (.athrow, 1) := by decide +kernel
theorem dX7_hang_54 : decode cX7_hang 54 = .ok (.aload_n 0, 1) := by decide +kernel
theorem dX7_hang_55 : decode cX7_hang 55 = .ok (.getfield 19, 3) := by decide +kernel
theorem dX7_hang_58 : decode cX7_hang 58 = .ok (.aload_n 0, 1) := by decide +kernel
theorem dX7_hang_59 : decode cX7_hang 59 = .ok (.getfield 10, 3) := by decide +kernel
theorem dX7_hang_62 : decode cX7_hang 62 = .ok (.invokevirtual 41, 3) := by decide +kernel
theorem dX7_hang_65 : decode cX7_hang 65 = .ok (.aload_n 0, 1) := by decide +kernel
theorem dX7_hang_66 : decode cX7_hang 66 = .ok (.getfield 10, 3) := by decide +kernel
theorem dX7_hang_69 : decode cX7_hang 69 = .ok (.iload_n 1, 1) := by decide +kernel
theorem dX7_hang_70 : decode cX7_hang 70 = .ok (.iload_n 2, 1) := by decide +kernel
theorem dX7_hang_71 : decode cX7_hang 71 = .ok (.invokevirtual 75, 3) := by decide +kernel
theorem dX7_hang_74 : decode cX7_hang 74 = .ok (.istore_n 3, 1) := by decide +kernel
theorem dX7_hang_75 : decode cX7_hang 75 = .ok (.aload_n 0, 1) := by decide +kernel
theorem dX7_hang_76 : decode cX7_hang 76 = .ok (.getfield 10, 3) := by decide +kernel
theorem dX7_hang_79 : decode cX7_hang 79 = .ok (.invokevirtual 49, 3) := by decide +kernel
theorem dX7_hang_82 : decode cX7_hang 82 = .ok (.iload_n 3, 1) := by decide +kernel
theorem dX7_hang_83 : decode cX7_hang 83 = .ok (.ireturn, 1) := by decide +kernel
theorem dX7_swing_0 : decode cX7_swing 0 = .ok (.aload_n 0, 1) := by decide +kernel
theorem dX7_swing_1 : decode cX7_swing 1 = .ok (.bipush 116, 2) := by decide +kernel
theorem dX7_swing_3 : decode cX7_swing 3 = .ok (.iload_n 1, 1) := by decide +kernel
theorem dX7_swing_4 : decode cX7_swing 4 = .ok (.iload_n 2, 1) := by decide +kernel
theorem dX7_swing_5 : decode cX7_swing 5 = .ok (.iconst 0, 1) := by decide +kernel
theorem dX7_swing_6 : decode cX7_swing 6 = .ok (.invokevirtual 78, 3) := by decide +kernel
theorem dX7_swing_9 : decode cX7_swing 9 = .ok (.ireturn, 1) := by decide +kernel
theorem dX7_still_0 : decode cX7_still 0 = .ok (.aload_n 0, 1) := by decide +kernel
theorem dX7_still_1 : decode cX7_still 1 = .ok (.getfield 10, 3) := by decide +kernel
theorem dX7_still_4 : decode cX7_still 4 = .ok (.iload_n 1, 1) := by decide +kernel
theorem dX7_still_5 : decode cX7_still 5 = .ok (.invokevirtual 82, 3) := by decide +kernel
theorem dX7_still_8 : decode cX7_still 8 = .ok (.astore_n 2, 1) := by decide +kernel
theorem dX7_still_9 : decode cX7_still 9 = .ok (.aload_n 2, 1) := by decide +kernel
theorem dX7_still_10 : decode cX7_still 10 = .ok (.ifnonnull 13, 3) := by decide +kernel
theorem dX7_still_13 : decode cX7_still 13 = .ok (.new 86, 3) := by decide +kernel
theorem dX7_still_16 : decode cX7_still 16 = .ok (.dup, 1) := by decide +kernel
theorem dX7_still_17 : decode cX7_still 17 = .ok (.ldc 88, 2) := by decide +kernel
theorem dX7_still_19 : decode cX7_still 19 = .ok (.invokespecial 90, 3) := by decide +kernel
theorem dX7_still_22 : decode cX7_still 22 = .ok (.athrow, 1) := by decide +kernel
theorem dX7_still_23 : decode cX7_still 23 = .ok (.aload_n 0, 1) := by decide +kernel
theorem dX7_still_24 : decode cX7_still 24 = .ok (.getfield 19, 3) := by decide +kernel
theorem dX7_still_27 : decode cX7_still 27 = .ok (.aload_n 0, 1) := by decide +kernel
theorem dX7_still_28 : decode cX7_still 28 = .ok (.getfield 10, 3) := by decide +kernel
theorem dX7_still_31 : decode cX7_still 31 = .ok (.invokevirtual 41, 3) := by decide +kernel
theorem dX7_still_34 : decode cX7_still 34 = .ok (.aload_n 2, 1) := by decide +kernel
theorem dX7_still_35 : decode cX7_still 35 = .ok (.invokevirtual 91, 3) := by decide +kernel
theorem dX7_still_38 : decode cX7_still 38 = .ok (.istore_n 3, 1) := by decide +kernel
theorem dX7_still_39 : decode cX7_still 39 = .ok (.aload_n 0, 1) := by decide +kernel
theorem dX7_still_40 : decode cX7_still 40 = .ok (.getfield 10, 3) := by decide +kernel
theorem dX7_still_43 : decode cX7_still 43 = .ok (.invokevirtual 49, 3) := by decide +kernel
theorem dX7_still_46 : decode cX7_still 46 = .ok (.iload_n 3, 1) := by decide +kernel
theorem dX7_still_47 : decode cX7_still 47 = .ok (.ireturn, 1) := by decide +kernel
theorem dX7_wire_0 : decode cX7_wire 0 = .ok (.aload_n 0, 1) := by decide +kernel
theorem dX7_wire_1 : decode cX7_wire 1 = .ok (.getfield 10, 3) := by decide +kernel
theorem dX7_wire_4 : decode cX7_wire 4 = .ok (.iload_n 1, 1) := by decide +kernel
theorem dX7_wire_5 : decode cX7_wire 5 = .ok (.invokevirtual 82, 3) := by decide +kernel
theorem dX7_wire_8 : decode cX7_wire 8 = .ok (.astore_n 3, 1) := by decide +kernel
theorem dX7_wire_9 : decode cX7_wire 9 = .ok (.aload_n 3, 1) := by decide +kernel
theorem dX7_wire_10 : decode cX7_wire 10 = .ok (.ifnonnull 13, 3) := by decide +kernel
theorem dX7_wire_13 : decode cX7_wire 13 = .ok (.new 86, 3) := by decide +kernel
theorem dX7_wire_16 : decode cX7_wire 16 = .ok (.dup, 1) := by decide +kernel
theorem dX7_wire_17 : decode cX7_wire 17 = .ok (.ldc 88, 2) := by decide +kernel
theorem dX7_wire_19 : decode cX7_wire 19 = .ok (.invokespecial 90, 3) := by decide +kernel
theorem dX7_wire_22 : decode cX7_wire 22 = .ok (.athrow, 1) := by decide +kernel
theorem dX7_wire_23 : decode cX7_wire 23 = .ok (.iload_n 2, 1) := by decide +kernel
theorem dX7_wire_24 : decode cX7_wire 24 = .ok (.iconst 0, 1) := by decide +kernel
theorem dX7_wire_25 : decode cX7_wire 25 = .ok (.iconst 5, 1) := by decide +kernel
theorem dX7_wire_26 : decode cX7_wire 26 = .ok (.invokestatic 52, 3) := by decide +kernel
theorem dX7_wire_29 : decode cX7_wire 29 = .ok (.ifCond .ne 13, 3) := by decide +kernel
theorem dX7_wire_32 : decode cX7_wire 32 = .ok (.new 34, 3) := by decide +kernel
theorem dX7_wire_35 : decode cX7_wire 35 = .ok (.dup, 1) := by decide +kernel
theorem dX7_wire_36 : decode cX7_wire 36 = .ok (.ldc 97, 2) := by decide +kernel
theorem dX7_wire_38 : decode cX7_wire 38 = .ok (.invokespecial 38, 3) := by decide +kernel
theorem dX7_wire_41 : decode cX7_wire 41 = .ok (.athrow, 1) := by decide +kernel
theorem dX7_wire_42 : decode cX7_wire 42 = .ok (.aload_n 3, 1) := by decide +kernel
theorem dX7_wire_43 : decode cX7_wire 43 = .ok (.iload_n 2, 1) := by decide +kernel
theorem dX7_wire_44 : decode cX7_wire 44 = .ok (.invokevirtual 99, 3) := by decide +kernel
theorem dX7_wire_47 : decode cX7_wire 47 = .ok (.ireturn, 1) := by decide +kernel
theorem dX7_join_0 : decode cX7_join 0 = .ok (.aload_n 0, 1) := by decide +kernel
theorem dX7_join_1 : decode cX7_join 1 = .ok (.getfield 10, 3) := by decide +kernel
theorem dX7_join_4 : decode cX7_join 4 = .ok (.iload_n 1, 1) := by decide +kernel
theorem dX7_join_5 : decode cX7_join 5 = .ok (.invokevirtual 82, 3) := by decide +kernel
theorem dX7_join_8 : decode cX7_join 8 = .ok (.ifnull 14, 3) := by decide +kernel
theorem dX7_join_11 : decode cX7_join 11 = .ok (.aload_n 0, 1) := by decide +kernel
theorem dX7_join_12 : decode cX7_join 12 = .ok (.getfield 10, 3) := by decide +kernel
theorem dX7_join_15 : decode cX7_join 15 = .ok (.iload_n 2, 1) := by decide +kernel
theorem dX7_join_16 : decode cX7_join 16 = .ok (.invokevirtual 82, 3) := by decide +kernel
theorem dX7_join_19 : decode cX7_join 19 = .ok (.ifnonnull 13, 3) := by decide +kernel
theorem dX7_join_22 : decode cX7_join 22 = .ok (.new 86, 3) := by decide +kernel
theorem dX7_join_25 : decode cX7_join 25 = .ok (.dup, 1) := by decide +kernel
theorem dX7_join_26 : decode cX7_join 26 = .ok (.ldc 88, 2) := by decide +kernel
theorem dX7_join_28 : decode cX7_join 28 = .ok (.invokespecial 90, 3) := by decide +kernel
theorem dX7_join_31 : decode cX7_join 31 = .ok (.athrow, 1) := by decide +kernel
theorem dX7_join_32 : decode cX7_join 32 = .ok (.iload_n 1, 1) := by decide +kernel
theorem dX7_join_33 : decode cX7_join 33 = .ok (.iload_n 2, 1) := by decide +kernel
theorem dX7_join_34 : decode cX7_join 34 = .ok (.if_icmp .eq 43, 3) := by decide +kernel
theorem dX7_join_37 : decode cX7_join 37 = .ok (.iload_n 3, 1) := by decide +kernel
theorem dX7_join_38 : decode cX7_join 38 = .ok (.invokestatic 100, 3) := by decide +kernel
theorem dX7_join_41 : decode cX7_join 41 = .ok (.ifCond .eq 36, 3) := by decide +kernel
theorem dX7_join_44 : decode cX7_join 44 = .ok (.iload 4, 2) := by decide +kernel
theorem dX7_join_46 : decode cX7_join 46 = .ok (.bipush 100, 2) := by decide +kernel
theorem dX7_join_48 : decode cX7_join 48 = .ok (.sipush 20000, 3) := by decide +kernel
theorem dX7_join_51 : decode cX7_join 51 = .ok (.invokestatic 52, 3) := by decide +kernel
theorem dX7_join_54 : decode cX7_join 54 = .ok (.ifCond .eq 23, 3) := by decide +kernel
theorem dX7_join_57 : decode cX7_join 57 = .ok (.iload 5, 2) := by decide +kernel
theorem dX7_join_59 : decode cX7_join 59 = .ok (.bipush 100, 2) := by decide +kernel
theorem dX7_join_61 : decode cX7_join 61 = .ok (.ldc 104, 2) := by decide +kernel
theorem dX7_join_63 : decode cX7_join 63 = .ok (.invokestatic 52, 3) := by decide +kernel
theorem dX7_join_66 : decode cX7_join 66 = .ok (.ifCond .eq 11, 3) := by decide +kernel
theorem dX7_join_69 : decode cX7_join 69 = .ok (.iload 6, 2) := by decide +kernel
theorem dX7_join_71 : decode cX7_join 71 = .ok (.invokestatic 105, 3) := by decide +kernel
theorem dX7_join_74 : decode cX7_join 74 = .ok (.ifCond .ne 13, 3) := by decide +kernel
theorem dX7_join_77 : decode cX7_join 77 = .ok (.new 34, 3) := by decide +kernel
theorem dX7_join_80 : decode cX7_join 80 = .ok (.dup, 1) := by decide +kernel
theorem dX7_join_81 : decode cX7_join 81 = .ok (.ldc 108, 2) := by decide +kernel
theorem dX7_join_83 : decode cX7_join 83 = .ok (.invokespecial 38, 3) := by decide +kernel
theorem dX7_join_86 : decode cX7_join 86 = .ok (.athrow, 1) := by decide +kernel
theorem dX7_join_87 : decode cX7_join 87 = .ok (.aload_n 0, 1) := by decide +kernel
theorem dX7_join_88 : decode cX7_join 88 = .ok (.getfield 10, 3) := by decide +kernel
theorem dX7_join_91 : decode cX7_join 91 = .ok (.getfield 110, 3) := by decide +kernel
theorem dX7_join_94 : decode cX7_join 94 = .ok (.iconst 4, 1) := by decide +kernel
theorem dX7_join_95 : decode cX7_join 95 = .ok (.if_icmp .lt 13, 3) := by decide +kernel
theorem dX7_join_98 : decode cX7_join 98 = .ok (.new 70, 3) := by decide +kernel
theorem dX7_join_101 : decode cX7_join 101 = .ok (.dup, 1) := by decide +kernel
theorem dX7_join_102 : decode cX7_join 102 = .ok (.ldc 113, 2) := by decide +kernel
theorem dX7_join_104 : decode cX7_join 104 = .ok (.invokespecial 74, 3) := by decide +kernel
theorem dX7_join_107 : decode cX7_join 107 = .ok (.athrow, 1) := by decide +kernel
theorem dX7_join_108 : decode cX7_join 108 = .ok (.aload_n 0, 1) := by decide +kernel
theorem dX7_join_109 : decode cX7_join 109 = .ok (.getfield 19, 3) := by decide +kernel
theorem dX7_join_112 : decode cX7_join 112 = .ok (.aload_n 0, 1) := by decide +kernel
theorem dX7_join_113 : decode cX7_join 113 = .ok (.getfield 10, 3) := by decide +kernel
theorem dX7_join_116 : decode cX7_join 116 = .ok (.invokevirtual 41, 3) := by decide +kernel
theorem dX7_join_119 : decode cX7_join 119 = .ok (.aload_n 0, 1) := by decide +kernel
theorem dX7_join_120 : decode cX7_join 120 = .ok (.getfield 10, 3) := by decide +kernel
theorem dX7_join_123 : decode cX7_join 123 = .ok (.iload_n 1, 1) := by decide +kernel
theorem dX7_join_124 : decode cX7_join 124 = .ok (.iload_n 2, 1) := by decide +kernel
theorem dX7_join_125 : decode cX7_join 125 = .ok (.iload_n 3, 1) := by decide +kernel
theorem dX7_join_126 : decode cX7_join 126 = .ok (.iload 4, 2) := by decide +kernel
theorem dX7_join_128 : decode cX7_join 128 = .ok (.iload 5, 2) := by decide +kernel
theorem dX7_join_130 : decode cX7_join 130 = .ok (.iload 6, 2) := by decide +kernel
theorem dX7_join_132 : decode cX7_join 132 = .ok (.invokevirtual 115, 3) := by decide +kernel
theorem dX7_join_135 : decode cX7_join 135 = .ok (.istore 7, 2) := by decide +kernel
theorem dX7_join_137 : decode cX7_join 137 = .ok (.aload_n 0, 1) := by decide +kernel
theorem dX7_join_138 : decode cX7_join 138 = .ok (.getfield 10, 3) := by decide +kernel
theorem dX7_join_141 : decode cX7_join 141 = .ok (.invokevirtual 49, 3) := by decide +kernel
theorem dX7_join_144 : decode cX7_join 144 = .ok (.iload 7, 2) := by decide +kernel
theorem dX7_join_146 : decode cX7_join 146 = .ok (.ireturn, 1) := by decide +kernel
theorem dX7_measure_0 : decode cX7_measure 0 = .ok (.aload_n 0, 1) := by decide +kernel
theorem dX7_measure_1 : decode cX7_measure 1 = .ok (.getfield 10, 3) := by decide +kernel
theorem dX7_measure_4 : decode cX7_measure 4 = .ok (.iload_n 1, 1) := by decide +kernel
theorem dX7_measure_5 : decode cX7_measure 5 = .ok (.invokevirtual 119, 3) := by decide +kernel
theorem dX7_measure_8 : decode cX7_measure 8 = .ok (.astore_n 3, 1) := by decide +kernel
theorem dX7_measure_9 : decode cX7_measure 9 = .ok (.aload_n 3, 1) := by decide +kernel
theorem dX7_measure_10 : decode cX7_measure 10 = .ok (.ifnonnull 13, 3) := by decide +kernel
theorem dX7_measure_13 : decode cX7_measure 13 = .ok (.new 86, 3) := by decide +kernel
theorem dX7_measure_16 : decode cX7_measure 16 = .ok (.dup, 1) := by decide +kernel
theorem dX7_measure_17 : decode cX7_measure 17 = .ok (.ldc 123, 2) := by decide +kernel
theorem dX7_measure_19 : decode cX7_measure 19 = .ok (.invokespecial 90, 3) := by decide +kernel
theorem dX7_measure_22 : decode cX7_measure 22 = .ok (.athrow, 1) := by decide +kernel
theorem dX7_measure_23 : decode cX7_measure 23 = .ok (.iload_n 2, 1) := by decide +kernel
theorem dX7_measure_24 : decode cX7_measure 24 = .ok (.invokestatic 105, 3) := by decide +kernel
theorem dX7_measure_27 : decode cX7_measure 27 = .ok (.ifCond .ne 13, 3) := by decide +kernel
theorem dX7_measure_30 : decode cX7_measure 30 = .ok (.new 34, 3) := by decide +kernel
theorem dX7_measure_33 : decode cX7_measure 33 = .ok (.dup, 1) := by decide +kernel
theorem dX7_measure_34 : decode cX7_measure 34 = .ok (.ldc 125, 2) := by decide +kernel
theorem dX7_measure_36 : decode cX7_measure 36 = .ok (.invokespecial 38, 3) := by decide +kernel
theorem dX7_measure_39 : decode cX7_measure 39 = .ok (.athrow, 1) := by decide +kernel
theorem dX7_measure_40 : decode cX7_measure 40 = .ok (.aload_n 0, 1) := by decide +kernel
theorem dX7_measure_41 : decode cX7_measure 41 = .ok (.getfield 19, 3) := by decide +kernel
theorem dX7_measure_44 : decode cX7_measure 44 = .ok (.aload_n 0, 1) := by decide +kernel
theorem dX7_measure_45 : decode cX7_measure 45 = .ok (.getfield 10, 3) := by decide +kernel
theorem dX7_measure_48 : decode cX7_measure 48 = .ok (.invokevirtual 41, 3) := by decide +kernel
theorem dX7_measure_51 : decode cX7_measure 51 = .ok (.aload_n 3, 1) := by decide +kernel
theorem dX7_measure_52 : decode cX7_measure 52 = .ok (.getfield 127, 3) := by decide +kernel
theorem dX7_measure_55 : decode cX7_measure 55 = .ok (.istore 4, 2) := by decide +kernel
theorem dX7_measure_57 : decode cX7_measure 57 = .ok (.aload_n 3, 1) := by decide +kernel
theorem dX7_measure_58 : decode cX7_measure 58 = .ok (.iload_n 2, 1) := by decide +kernel
theorem dX7_measure_59 : decode cX7_measure 59 = .ok (.putfield 127, 3) := by decide +kernel
theorem dX7_measure_62 : decode cX7_measure 62 = .ok (.aload_n 0, 1) := by decide +kernel
theorem dX7_measure_63 : decode cX7_measure 63 = .ok (.getfield 10, 3) := by decide +kernel
theorem dX7_measure_66 : decode cX7_measure 66 = .ok (.invokevirtual 49, 3) := by decide +kernel
theorem dX7_measure_69 : decode cX7_measure 69 = .ok (.iload 4, 2) := by decide +kernel
theorem dX7_measure_71 : decode cX7_measure 71 = .ok (.ireturn, 1) := by decide +kernel
theorem dX7_joinOf_0 : decode cX7_joinOf 0 = .ok (.aload_n 0, 1) := by decide +kernel
theorem dX7_joinOf_1 : decode cX7_joinOf 1 = .ok (.getfield 10, 3) := by decide +kernel
theorem dX7_joinOf_4 : decode cX7_joinOf 4 = .ok (.iload_n 1, 1) := by decide +kernel
theorem dX7_joinOf_5 : decode cX7_joinOf 5 = .ok (.invokevirtual 119, 3) := by decide +kernel
theorem dX7_joinOf_8 : decode cX7_joinOf 8 = .ok (.astore_n 3, 1) := by decide +kernel
theorem dX7_joinOf_9 : decode cX7_joinOf 9 = .ok (.aload_n 3, 1) := by decide +kernel
theorem dX7_joinOf_10 : decode cX7_joinOf 10 = .ok (.ifnonnull 13, 3) := by decide +kernel
theorem dX7_joinOf_13 : decode cX7_joinOf 13 = .ok (.new 86, 3) := by decide +kernel
theorem dX7_joinOf_16 : decode cX7_joinOf 16 = .ok (.dup, 1) := by decide +kernel
theorem dX7_joinOf_17 : decode cX7_joinOf 17 = .ok (.ldc 123, 2) := by decide +kernel
theorem dX7_joinOf_19 : decode cX7_joinOf 19 = .ok (.invokespecial 90, 3) := by decide +kernel
theorem dX7_joinOf_22 : decode cX7_joinOf 22 = .ok (.athrow, 1) := by decide +kernel
theorem dX7_joinOf_23 : decode cX7_joinOf 23 = .ok (.iload_n 2, 1) := by decide +kernel
theorem dX7_joinOf_24 : decode cX7_joinOf 24 = .ok (.iconst 0, 1) := by decide +kernel
theorem dX7_joinOf_25 : decode cX7_joinOf 25 = .ok (.bipush 7, 2) := by decide +kernel
theorem dX7_joinOf_27 : decode cX7_joinOf 27 = .ok (.invokestatic 52, 3) := by decide +kernel
theorem dX7_joinOf_30 : decode cX7_joinOf 30 = .ok (.ifCond .ne 13, 3) := by decide +kernel
theorem dX7_joinOf_33 : decode cX7_joinOf 33 = .ok (.new 34, 3) := by decide +kernel
theorem dX7_joinOf_36 : decode cX7_joinOf 36 = .ok (.dup, 1) := by decide +kernel
theorem dX7_joinOf_37 : decode cX7_joinOf 37 = .ok (.ldc 56, 2) := by decide +kernel
theorem dX7_joinOf_39 : decode cX7_joinOf 39 = .ok (.invokespecial 38, 3) := by decide +kernel
theorem dX7_joinOf_42 : decode cX7_joinOf 42 = .ok (.athrow, 1) := by decide +kernel
theorem dX7_joinOf_43 : decode cX7_joinOf 43 = .ok (.aload_n 3, 1) := by decide +kernel
theorem dX7_joinOf_44 : decode cX7_joinOf 44 = .ok (.iload_n 2, 1) := by decide +kernel
theorem dX7_joinOf_45 : decode cX7_joinOf 45 = .ok (.invokevirtual 132, 3) := by decide +kernel
theorem dX7_joinOf_48 : decode cX7_joinOf 48 = .ok (.ireturn, 1) := by decide +kernel
theorem dX7_begin_0 : decode cX7_begin 0 = .ok (.aload_n 0, 1) := by decide +kernel
theorem dX7_begin_1 : decode cX7_begin 1 = .ok (.getfield 10, 3) := by decide +kernel
theorem dX7_begin_4 : decode cX7_begin 4 = .ok (.iload_n 1, 1) := by decide +kernel
theorem dX7_begin_5 : decode cX7_begin 5 = .ok (.invokevirtual 119, 3) := by decide +kernel
theorem dX7_begin_8 : decode cX7_begin 8 = .ok (.ifnonnull 13, 3) := by decide +kernel
theorem dX7_begin_11 : decode cX7_begin 11 = .ok (.new 86, 3) := by decide +kernel
theorem dX7_begin_14 : decode cX7_begin 14 = .ok (.dup, 1) := by decide +kernel
theorem dX7_begin_15 : decode cX7_begin 15 = .ok (.ldc 123, 2) := by decide +kernel
theorem dX7_begin_17 : decode cX7_begin 17 = .ok (.invokespecial 90, 3) := by decide +kernel
theorem dX7_begin_20 : decode cX7_begin 20 = .ok (.athrow, 1) := by decide +kernel
theorem dX7_begin_21 : decode cX7_begin 21 = .ok (.aload_n 0, 1) := by decide +kernel
theorem dX7_begin_22 : decode cX7_begin 22 = .ok (.getfield 10, 3) := by decide +kernel
theorem dX7_begin_25 : decode cX7_begin 25 = .ok (.getfield 133, 3) := by decide +kernel
theorem dX7_begin_28 : decode cX7_begin 28 = .ok (.iconst 4, 1) := by decide +kernel
theorem dX7_begin_29 : decode cX7_begin 29 = .ok (.if_icmp .lt 13, 3) := by decide +kernel
theorem dX7_begin_32 : decode cX7_begin 32 = .ok (.new 70, 3) := by decide +kernel
theorem dX7_begin_35 : decode cX7_begin 35 = .ok (.dup, 1) := by decide +kernel
theorem dX7_begin_36 : decode cX7_begin 36 = .ok (.ldc 136, 2) := by decide +kernel
theorem dX7_begin_38 : decode cX7_begin 38 = .ok (.invokespecial 74, 3) := by decide +kernel
theorem dX7_begin_41 : decode cX7_begin 41 = .ok (.athrow, 1) := by decide +kernel
theorem dX7_begin_42 : decode cX7_begin 42 = .ok (.aload_n 0, 1) := by decide +kernel
theorem dX7_begin_43 : decode cX7_begin 43 = .ok (.getfield 19, 3) := by decide +kernel
theorem dX7_begin_46 : decode cX7_begin 46 = .ok (.aload_n 0, 1) := by decide +kernel
theorem dX7_begin_47 : decode cX7_begin 47 = .ok (.getfield 10, 3) := by decide +kernel
theorem dX7_begin_50 : decode cX7_begin 50 = .ok (.invokevirtual 41, 3) := by decide +kernel
theorem dX7_begin_53 : decode cX7_begin 53 = .ok (.aload_n 0, 1) := by decide +kernel
theorem dX7_begin_54 : decode cX7_begin 54 = .ok (.getfield 10, 3) := by decide +kernel
theorem dX7_begin_57 : decode cX7_begin 57 = .ok (.iload_n 1, 1) := by decide +kernel
theorem dX7_begin_58 : decode cX7_begin 58 = .ok (.invokevirtual 138, 3) := by decide +kernel
theorem dX7_begin_61 : decode cX7_begin 61 = .ok (.istore_n 2, 1) := by decide +kernel
theorem dX7_begin_62 : decode cX7_begin 62 = .ok (.aload_n 0, 1) := by decide +kernel
theorem dX7_begin_63 : decode cX7_begin 63 = .ok (.getfield 10, 3) := by decide +kernel
theorem dX7_begin_66 : decode cX7_begin 66 = .ok (.invokevirtual 49, 3) := by decide +kernel
theorem dX7_begin_69 : decode cX7_begin 69 = .ok (.iload_n 2, 1) := by decide +kernel
theorem dX7_begin_70 : decode cX7_begin 70 = .ok (.ireturn, 1) := by decide +kernel
theorem dX7_addLeg_0 : decode cX7_addLeg 0 = .ok (.aload_n 0, 1) := by decide +kernel
theorem dX7_addLeg_1 : decode cX7_addLeg 1 = .ok (.bipush 108, 2) := by decide +kernel
theorem dX7_addLeg_3 : decode cX7_addLeg 3 = .ok (.iload_n 1, 1) := by decide +kernel
theorem dX7_addLeg_4 : decode cX7_addLeg 4 = .ok (.iload_n 2, 1) := by decide +kernel
theorem dX7_addLeg_5 : decode cX7_addLeg 5 = .ok (.iload_n 3, 1) := by decide +kernel
theorem dX7_addLeg_6 : decode cX7_addLeg 6 = .ok (.invokevirtual 78, 3) := by decide +kernel
theorem dX7_addLeg_9 : decode cX7_addLeg 9 = .ok (.ireturn, 1) := by decide +kernel
theorem dX7_dropLeg_0 : decode cX7_dropLeg 0 = .ok (.aload_n 0, 1) := by decide +kernel
theorem dX7_dropLeg_1 : decode cX7_dropLeg 1 = .ok (.bipush 107, 2) := by decide +kernel
theorem dX7_dropLeg_3 : decode cX7_dropLeg 3 = .ok (.iload_n 1, 1) := by decide +kernel
theorem dX7_dropLeg_4 : decode cX7_dropLeg 4 = .ok (.iconst 0, 1) := by decide +kernel
theorem dX7_dropLeg_5 : decode cX7_dropLeg 5 = .ok (.iconst 0, 1) := by decide +kernel
theorem dX7_dropLeg_6 : decode cX7_dropLeg 6 = .ok (.invokevirtual 78, 3) := by decide +kernel
theorem dX7_dropLeg_9 : decode cX7_dropLeg 9 = .ok (.ireturn, 1) := by decide +kernel
theorem dX7_close_0 : decode cX7_close 0 = .ok (.aload_n 0, 1) := by decide +kernel
theorem dX7_close_1 : decode cX7_close 1 = .ok (.getfield 10, 3) := by decide +kernel
theorem dX7_close_4 : decode cX7_close 4 = .ok (.iload_n 1, 1) := by decide +kernel
theorem dX7_close_5 : decode cX7_close 5 = .ok (.invokevirtual 141, 3) := by decide +kernel
theorem dX7_close_8 : decode cX7_close 8 = .ok (.astore 4, 2) := by decide +kernel
theorem dX7_close_10 : decode cX7_close 10 = .ok (.aload 4, 2) := by decide +kernel
theorem dX7_close_12 : decode cX7_close 12 = .ok (.ifnull 14, 3) := by decide +kernel
theorem dX7_close_15 : decode cX7_close 15 = .ok (.aload_n 0, 1) := by decide +kernel
theorem dX7_close_16 : decode cX7_close 16 = .ok (.getfield 10, 3) := by decide +kernel
theorem dX7_close_19 : decode cX7_close 19 = .ok (.iload_n 2, 1) := by decide +kernel
theorem dX7_close_20 : decode cX7_close 20 = .ok (.invokevirtual 119, 3) := by decide +kernel
theorem dX7_close_23 : decode cX7_close 23 = .ok (.ifnonnull 13, 3) := by decide +kernel
theorem dX7_close_26 : decode cX7_close 26 = .ok (.new 86, 3) := by decide +kernel
theorem dX7_close_29 : decode cX7_close 29 = .ok (.dup, 1) := by decide +kernel
theorem dX7_close_30 : decode cX7_close 30 = .ok (.ldc 145, 2) := by decide +kernel
theorem dX7_close_32 : decode cX7_close 32 = .ok (.invokespecial 90, 3) := by decide +kernel
theorem dX7_close_35 : decode cX7_close 35 = .ok (.athrow, 1) := by decide +kernel
theorem dX7_close_36 : decode cX7_close 36 = .ok (.iload_n 2, 1) := by decide +kernel
theorem dX7_close_37 : decode cX7_close 37 = .ok (.aload 4, 2) := by decide +kernel
theorem dX7_close_39 : decode cX7_close 39 = .ok (.getfield 147, 3) := by decide +kernel
theorem dX7_close_42 : decode cX7_close 42 = .ok (.if_icmp .eq 10, 3) := by decide +kernel
theorem dX7_close_45 : decode cX7_close 45 = .ok (.iload_n 3, 1) := by decide +kernel
theorem dX7_close_46 : decode cX7_close 46 = .ok (.invokestatic 100, 3) := by decide +kernel
theorem dX7_close_49 : decode cX7_close 49 = .ok (.ifCond .ne 13, 3) := by decide +kernel
theorem dX7_close_52 : decode cX7_close 52 = .ok (.new 34, 3) := by decide +kernel
theorem dX7_close_55 : decode cX7_close 55 = .ok (.dup, 1) := by decide +kernel
theorem dX7_close_56 : decode cX7_close 56 = .ok (.ldc 152, 2) := by decide +kernel
theorem dX7_close_58 : decode cX7_close 58 = .ok (.invokespecial 38, 3) := by decide +kernel
theorem dX7_close_61 : decode cX7_close 61 = .ok (.athrow, 1) := by decide +kernel
theorem dX7_close_62 : decode cX7_close 62 = .ok (.aload 4, 2) := by decide +kernel
theorem dX7_close_64 : decode cX7_close 64 = .ok (.getfield 154, 3) := by decide +kernel
theorem dX7_close_67 : decode cX7_close 67 = .ok (.ifCond .ne 13, 3) := by decide +kernel
theorem dX7_close_70 : decode cX7_close 70 = .ok (.new 70, 3) := by decide +kernel
theorem dX7_close_73 : decode cX7_close 73 = .ok (.dup, 1) := by decide +kernel
theorem dX7_close_74 : decode cX7_close 74 = .ok (.ldc 157, 2) := by decide +kernel
theorem dX7_close_76 : decode cX7_close 76 = .ok (.invokespecial 74, 3) := by decide +kernel
theorem dX7_close_79 : decode cX7_close 79 = .ok (.athrow, 1) := by decide +kernel
theorem dX7_close_80 : decode cX7_close 80 = .ok (.aload_n 0, 1) := by decide +kernel
theorem dX7_close_81 : decode cX7_close 81 = .ok (.getfield 19, 3) := by decide +kernel
theorem dX7_close_84 : decode cX7_close 84 = .ok (.aload_n 0, 1) := by decide +kernel
theorem dX7_close_85 : decode cX7_close 85 = .ok (.getfield 10, 3) := by decide +kernel
theorem dX7_close_88 : decode cX7_close 88 = .ok (.invokevirtual 41, 3) := by decide +kernel
theorem dX7_close_91 : decode cX7_close 91 = .ok (.aload 4, 2) := by decide +kernel
theorem dX7_close_93 : decode cX7_close 93 = .ok (.iload_n 2, 1) := by decide +kernel
theorem dX7_close_94 : decode cX7_close 94 = .ok (.iload_n 3, 1) := by decide +kernel
theorem dX7_close_95 : decode cX7_close 95 = .ok (.invokevirtual 159, 3) := by decide +kernel
theorem dX7_close_98 : decode cX7_close 98 = .ok (.aload_n 0, 1) := by decide +kernel
theorem dX7_close_99 : decode cX7_close 99 = .ok (.getfield 10, 3) := by decide +kernel
theorem dX7_close_102 : decode cX7_close 102 = .ok (.invokevirtual 49, 3) := by decide +kernel
theorem dX7_close_105 : decode cX7_close 105 = .ok (.aload 4, 2) := by decide +kernel
theorem dX7_close_107 : decode cX7_close 107 = .ok (.getfield 163, 3) := by decide +kernel
theorem dX7_close_110 : decode cX7_close 110 = .ok (.ireturn, 1) := by decide +kernel
theorem dX7_adjust_0 : decode cX7_adjust 0 = .ok (.aload_n 0, 1) := by decide +kernel
theorem dX7_adjust_1 : decode cX7_adjust 1 = .ok (.bipush 97, 2) := by decide +kernel
theorem dX7_adjust_3 : decode cX7_adjust 3 = .ok (.iload_n 1, 1) := by decide +kernel
theorem dX7_adjust_4 : decode cX7_adjust 4 = .ok (.iconst 0, 1) := by decide +kernel
theorem dX7_adjust_5 : decode cX7_adjust 5 = .ok (.iconst 0, 1) := by decide +kernel
theorem dX7_adjust_6 : decode cX7_adjust 6 = .ok (.invokevirtual 78, 3) := by decide +kernel
theorem dX7_adjust_9 : decode cX7_adjust 9 = .ok (.ireturn, 1) := by decide +kernel
theorem dX7_traverse_0 : decode cX7_traverse 0 = .ok (.aload_n 0, 1) := by decide +kernel
theorem dX7_traverse_1 : decode cX7_traverse 1 = .ok (.getfield 10, 3) := by decide +kernel
theorem dX7_traverse_4 : decode cX7_traverse 4 = .ok (.iload_n 1, 1) := by decide +kernel
theorem dX7_traverse_5 : decode cX7_traverse 5 = .ok (.invokevirtual 141, 3) := by decide +kernel
theorem dX7_traverse_8 : decode cX7_traverse 8 = .ok (.astore_n 3, 1) := by decide +kernel
theorem dX7_traverse_9 : decode cX7_traverse 9 = .ok (.aload_n 3, 1) := by decide +kernel
theorem dX7_traverse_10 : decode cX7_traverse 10 = .ok (.ifnonnull 13, 3) := by decide +kernel
theorem dX7_traverse_13 : decode cX7_traverse 13 = .ok (.new 86, 3) := by decide +kernel
theorem dX7_traverse_16 : decode cX7_traverse 16 = .ok (.dup, 1) := by decide +kernel
theorem dX7_traverse_17 : decode cX7_traverse 17 = .ok (.ldc 166, 2) := by decide +kernel
theorem dX7_traverse_19 : decode cX7_traverse 19 = .ok (.invokespecial 90, 3) := by decide +kernel
theorem dX7_traverse_22 : decode cX7_traverse 22 = .ok (.athrow, 1) := by decide +kernel
theorem dX7_traverse_23 : decode cX7_traverse 23 = .ok (.iload_n 2, 1) := by decide +kernel
theorem dX7_traverse_24 : decode cX7_traverse 24 = .ok (.iconst 0, 1) := by decide +kernel
theorem dX7_traverse_25 : decode cX7_traverse 25 = .ok (.bipush 9, 2) := by decide +kernel
theorem dX7_traverse_27 : decode cX7_traverse 27 = .ok (.invokestatic 52, 3) := by decide +kernel
theorem dX7_traverse_30 : decode cX7_traverse 30 = .ok (.ifCond .ne 13, 3) := by decide +kernel
theorem dX7_traverse_33 : decode cX7_traverse 33 = .ok (.new 34, 3) := by decide +kernel
theorem dX7_traverse_36 : decode cX7_traverse 36 = .ok (.dup, 1) := by decide +kernel
theorem dX7_traverse_37 : decode cX7_traverse 37 = .ok (.ldc 168, 2) := by decide +kernel
theorem dX7_traverse_39 : decode cX7_traverse 39 = .ok (.invokespecial 38, 3) := by decide +kernel
theorem dX7_traverse_42 : decode cX7_traverse 42 = .ok (.athrow, 1) := by decide +kernel
theorem dX7_traverse_43 : decode cX7_traverse 43 = .ok (.aload_n 3, 1) := by decide +kernel
theorem dX7_traverse_44 : decode cX7_traverse 44 = .ok (.iload_n 2, 1) := by decide +kernel
theorem dX7_traverse_45 : decode cX7_traverse 45 = .ok (.invokevirtual 170, 3) := by decide +kernel
theorem dX7_traverse_48 : decode cX7_traverse 48 = .ok (.ireturn, 1) := by decide +kernel
theorem dX7_leg_0 : decode cX7_leg 0 = .ok (.aload_n 0, 1) := by decide +kernel
theorem dX7_leg_1 : decode cX7_leg 1 = .ok (.getfield 10, 3) := by decide +kernel
theorem dX7_leg_4 : decode cX7_leg 4 = .ok (.iload_n 1, 1) := by decide +kernel
theorem dX7_leg_5 : decode cX7_leg 5 = .ok (.invokevirtual 141, 3) := by decide +kernel
theorem dX7_leg_8 : decode cX7_leg 8 = .ok (.astore 4, 2) := by decide +kernel
theorem dX7_leg_10 : decode cX7_leg 10 = .ok (.aload 4, 2) := by decide +kernel
theorem dX7_leg_12 : decode cX7_leg 12 = .ok (.ifnull 12, 3) := by decide +kernel
theorem dX7_leg_15 : decode cX7_leg 15 = .ok (.aload 4, 2) := by decide +kernel
theorem dX7_leg_17 : decode cX7_leg 17 = .ok (.iload_n 2, 1) := by decide +kernel
theorem dX7_leg_18 : decode cX7_leg 18 = .ok (.invokevirtual 171, 3) := by decide +kernel
theorem dX7_leg_21 : decode cX7_leg 21 = .ok (.ifCond .ne 13, 3) := by decide +kernel
theorem dX7_leg_24 : decode cX7_leg 24 = .ok (.new 86, 3) := by decide +kernel
theorem dX7_leg_27 : decode cX7_leg 27 = .ok (.dup, 1) := by decide +kernel
theorem dX7_leg_28 : decode cX7_leg 28 = .ok (.ldc 174, 2) := by decide +kernel
theorem dX7_leg_30 : decode cX7_leg 30 = .ok (.invokespecial 90, 3) := by decide +kernel
theorem dX7_leg_33 : decode cX7_leg 33 = .ok (.athrow, 1) := by decide +kernel
theorem dX7_leg_34 : decode cX7_leg 34 = .ok (.iload_n 3, 1) := by decide +kernel
theorem dX7_leg_35 : decode cX7_leg 35 = .ok (.iconst 0, 1) := by decide +kernel
theorem dX7_leg_36 : decode cX7_leg 36 = .ok (.iconst 4, 1) := by decide +kernel
theorem dX7_leg_37 : decode cX7_leg 37 = .ok (.invokestatic 52, 3) := by decide +kernel
theorem dX7_leg_40 : decode cX7_leg 40 = .ok (.ifCond .ne 13, 3) := by decide +kernel
theorem dX7_leg_43 : decode cX7_leg 43 = .ok (.new 34, 3) := by decide +kernel
theorem dX7_leg_46 : decode cX7_leg 46 = .ok (.dup, 1) := by decide +kernel
theorem dX7_leg_47 : decode cX7_leg 47 = .ok (.ldc 176, 2) := by decide +kernel
theorem dX7_leg_49 : decode cX7_leg 49 = .ok (.invokespecial 38, 3) := by decide +kernel
theorem dX7_leg_52 : decode cX7_leg 52 = .ok (.athrow, 1) := by decide +kernel
theorem dX7_leg_53 : decode cX7_leg 53 = .ok (.aload 4, 2) := by decide +kernel
theorem dX7_leg_55 : decode cX7_leg 55 = .ok (.iload_n 2, 1) := by decide +kernel
theorem dX7_leg_56 : decode cX7_leg 56 = .ok (.iload_n 3, 1) := by decide +kernel
theorem dX7_leg_57 : decode cX7_leg 57 = .ok (.invokevirtual 178, 3) := by decide +kernel
theorem dX7_leg_60 : decode cX7_leg 60 = .ok (.ireturn, 1) := by decide +kernel
theorem dX7_trouble_0 : decode cX7_trouble 0 = .ok (.aload_n 0, 1) := by decide +kernel
theorem dX7_trouble_1 : decode cX7_trouble 1 = .ok (.getfield 10, 3) := by decide +kernel
theorem dX7_trouble_4 : decode cX7_trouble 4 = .ok (.iload_n 1, 1) := by decide +kernel
theorem dX7_trouble_5 : decode cX7_trouble 5 = .ok (.invokevirtual 141, 3) := by decide +kernel
theorem dX7_trouble_8 : decode cX7_trouble 8 = .ok (.astore_n 3, 1) := by decide +kernel
theorem dX7_trouble_9 : decode cX7_trouble 9 = .ok (.aload_n 3, 1) := by decide +kernel
theorem dX7_trouble_10 : decode cX7_trouble 10 = .ok (.ifnonnull 13, 3) := by decide +kernel
theorem dX7_trouble_13 : decode cX7_trouble 13 = .ok (.new 86, 3) := by decide +kernel
theorem dX7_trouble_16 : decode cX7_trouble 16 = .ok (.dup, 1) := by decide +kernel
theorem dX7_trouble_17 : decode cX7_trouble 17 = .ok (.ldc 166, 2) := by decide +kernel
theorem dX7_trouble_19 : decode cX7_trouble 19 = .ok (.invokespecial 90, 3) := by decide +kernel
theorem dX7_trouble_22 : decode cX7_trouble 22 = .ok (.athrow, 1) := by decide +kernel
theorem dX7_trouble_23 : decode cX7_trouble 23 = .ok (.aload_n 0, 1) := by decide +kernel
theorem dX7_trouble_24 : decode cX7_trouble 24 = .ok (.getfield 10, 3) := by decide +kernel
theorem dX7_trouble_27 : decode cX7_trouble 27 = .ok (.aload_n 3, 1) := by decide +kernel
theorem dX7_trouble_28 : decode cX7_trouble 28 = .ok (.iload_n 2, 1) := by decide +kernel
theorem dX7_trouble_29 : decode cX7_trouble 29 = .ok (.invokevirtual 181, 3) := by decide +kernel
theorem dX7_trouble_32 : decode cX7_trouble 32 = .ok (.ireturn, 1) := by decide +kernel
theorem dX7_order_0 : decode cX7_order 0 = .ok (.aload_n 0, 1) := by decide +kernel
theorem dX7_order_1 : decode cX7_order 1 = .ok (.iload_n 1, 1) := by decide +kernel
theorem dX7_order_2 : decode cX7_order 2 = .ok (.iload_n 2, 1) := by decide +kernel
theorem dX7_order_3 : decode cX7_order 3 = .ok (.iload_n 3, 1) := by decide +kernel
theorem dX7_order_4 : decode cX7_order 4 = .ok (.iload 4, 2) := by decide +kernel
theorem dX7_order_6 : decode cX7_order 6 = .ok (.invokevirtual 275, 3) := by decide +kernel
theorem dX7_order_9 : decode cX7_order 9 = .ok (.istore 5, 2) := by decide +kernel
theorem dX7_order_11 : decode cX7_order 11 = .ok (.iload 5, 2) := by decide +kernel
theorem dX7_order_13 : decode cX7_order 13 = .ok (.iconst 1, 1) := by decide +kernel
theorem dX7_order_14 : decode cX7_order 14 = .ok (.if_icmp .ne 14, 3) := by decide +kernel
theorem dX7_order_17 : decode cX7_order 17 = .ok (.new 86, 3) := by decide +kernel
theorem dX7_order_20 : decode cX7_order 20 = .ok (.dup, 1) := by decide +kernel
theorem dX7_order_21 : decode cX7_order 21 = .ok (.ldc_w 278, 3) := by decide +kernel
theorem dX7_order_24 : decode cX7_order 24 = .ok (.invokespecial 90, 3) := by decide +kernel
theorem dX7_order_27 : decode cX7_order 27 = .ok (.athrow, 1) := by decide +kernel
theorem dX7_order_28 : decode cX7_order 28 = .ok (.iload 5, 2) := by decide +kernel
theorem dX7_order_30 : decode cX7_order 30 = .ok (.iconst 2, 1) := by decide +kernel
theorem dX7_order_31 : decode cX7_order 31 = .ok (.if_icmp .ne 14, 3) := by decide +kernel
theorem dX7_order_34 : decode cX7_order 34 = .ok (.new 34, 3) := by decide +kernel
theorem dX7_order_37 : decode cX7_order 37 = .ok (.dup, 1) := by decide +kernel
theorem dX7_order_38 : decode cX7_order 38 = .ok (.ldc_w 280, 3) := by decide +kernel
theorem dX7_order_41 : decode cX7_order 41 = .ok (.invokespecial 38, 3) := by decide +kernel
theorem dX7_order_44 : decode cX7_order 44 = .ok (.athrow, 1) := by decide +kernel
theorem dX7_order_45 : decode cX7_order 45 = .ok (.iload 5, 2) := by decide +kernel
theorem dX7_order_47 : decode cX7_order 47 = .ok (.iconst 3, 1) := by decide +kernel
theorem dX7_order_48 : decode cX7_order 48 = .ok (.if_icmp .ne 14, 3) := by decide +kernel
theorem dX7_order_51 : decode cX7_order 51 = .ok (.new 70, 3) := by decide +kernel
theorem dX7_order_54 : decode cX7_order 54 = .ok (.dup, 1) := by decide +kernel
theorem dX7_order_55 : decode cX7_order 55 = .ok (.ldc_w 282, 3) := by decide +kernel
theorem dX7_order_58 : decode cX7_order 58 = .ok (.invokespecial 74, 3) := by decide +kernel
theorem dX7_order_61 : decode cX7_order 61 = .ok (.athrow, 1) := by decide +kernel
theorem dX7_order_62 : decode cX7_order 62 = .ok (.aload_n 0, 1) := by decide +kernel
theorem dX7_order_63 : decode cX7_order 63 = .ok (.getfield 19, 3) := by decide +kernel
theorem dX7_order_66 : decode cX7_order 66 = .ok (.aload_n 0, 1) := by decide +kernel
theorem dX7_order_67 : decode cX7_order 67 = .ok (.getfield 10, 3) := by decide +kernel
theorem dX7_order_70 : decode cX7_order 70 = .ok (.invokevirtual 41, 3) := by decide +kernel
theorem dX7_order_73 : decode cX7_order 73 = .ok (.aload_n 0, 1) := by decide +kernel
theorem dX7_order_74 : decode cX7_order 74 = .ok (.iload_n 1, 1) := by decide +kernel
theorem dX7_order_75 : decode cX7_order 75 = .ok (.iload_n 2, 1) := by decide +kernel
theorem dX7_order_76 : decode cX7_order 76 = .ok (.iload_n 3, 1) := by decide +kernel
theorem dX7_order_77 : decode cX7_order 77 = .ok (.iload 4, 2) := by decide +kernel
theorem dX7_order_79 : decode cX7_order 79 = .ok (.invokevirtual 284, 3) := by decide +kernel
theorem dX7_order_82 : decode cX7_order 82 = .ok (.istore 6, 2) := by decide +kernel
theorem dX7_order_84 : decode cX7_order 84 = .ok (.aload_n 0, 1) := by decide +kernel
theorem dX7_order_85 : decode cX7_order 85 = .ok (.getfield 10, 3) := by decide +kernel
theorem dX7_order_88 : decode cX7_order 88 = .ok (.invokevirtual 49, 3) := by decide +kernel
theorem dX7_order_91 : decode cX7_order 91 = .ok (.iload 6, 2) := by decide +kernel
theorem dX7_order_93 : decode cX7_order 93 = .ok (.ireturn, 1) := by decide +kernel
theorem dX7_refusalOf_0 : decode cX7_refusalOf 0 = .ok (.iload_n 1, 1) := by decide +kernel
theorem dX7_refusalOf_1 : decode cX7_refusalOf 1 = .ok (.bipush 116, 2) := by decide +kernel
theorem dX7_refusalOf_3 : decode cX7_refusalOf 3 = .ok (.if_icmp .ne 16, 3) := by decide +kernel
theorem dX7_refusalOf_6 : decode cX7_refusalOf 6 = .ok (.aload_n 0, 1) := by decide +kernel
theorem dX7_refusalOf_7 : decode cX7_refusalOf 7 = .ok (.getfield 10, 3) := by decide +kernel
theorem dX7_refusalOf_10 : decode cX7_refusalOf 10 = .ok (.iload_n 2, 1) := by decide +kernel
theorem dX7_refusalOf_11 : decode cX7_refusalOf 11 = .ok (.invokevirtual 82, 3) := by decide +kernel
theorem dX7_refusalOf_14 : decode cX7_refusalOf 14 = .ok (.iload_n 3, 1) := by decide +kernel
theorem dX7_refusalOf_15 : decode cX7_refusalOf 15 = .ok (.invokestatic 287, 3) := by decide +kernel
theorem dX7_refusalOf_18 : decode cX7_refusalOf 18 = .ok (.ireturn, 1) := by decide +kernel
theorem dX7_refusalOf_19 : decode cX7_refusalOf 19 = .ok (.aload_n 0, 1) := by decide +kernel
theorem dX7_refusalOf_20 : decode cX7_refusalOf 20 = .ok (.getfield 10, 3) := by decide +kernel
theorem dX7_refusalOf_23 : decode cX7_refusalOf 23 = .ok (.iload_n 2, 1) := by decide +kernel
theorem dX7_refusalOf_24 : decode cX7_refusalOf 24 = .ok (.invokevirtual 141, 3) := by decide +kernel
theorem dX7_refusalOf_27 : decode cX7_refusalOf 27 = .ok (.astore 5, 2) := by decide +kernel
theorem dX7_refusalOf_29 : decode cX7_refusalOf 29 = .ok (.aload 5, 2) := by decide +kernel
theorem dX7_refusalOf_31 : decode cX7_refusalOf 31 = .ok (.ifnonnull 5, 3) := by decide +kernel
theorem dX7_refusalOf_34 : decode cX7_refusalOf 34 = .ok (.iconst 1, 1) := by decide +kernel
theorem dX7_refusalOf_35 : decode cX7_refusalOf 35 = .ok (.ireturn, 1) := by decide +kernel
theorem dX7_refusalOf_36 : decode cX7_refusalOf 36 = .ok (.iload_n 1, 1) := by decide +kernel
theorem dX7_refusalOf_37 : decode cX7_refusalOf 37 = .ok (.bipush 108, 2) := by decide +kernel
theorem dX7_refusalOf_39 : decode cX7_refusalOf 39 = .ok (.if_icmp .ne 12, 3) := by decide +kernel
theorem dX7_refusalOf_42 : decode cX7_refusalOf 42 = .ok (.aload 5, 2) := by decide +kernel
theorem dX7_refusalOf_44 : decode cX7_refusalOf 44 = .ok (.iload_n 3, 1) := by decide +kernel
theorem dX7_refusalOf_45 : decode cX7_refusalOf 45 = .ok (.iload 4, 2) := by decide +kernel
theorem dX7_refusalOf_47 : decode cX7_refusalOf 47 = .ok (.invokestatic 291, 3) := by decide +kernel
theorem dX7_refusalOf_50 : decode cX7_refusalOf 50 = .ok (.ireturn, 1) := by decide +kernel
theorem dX7_refusalOf_51 : decode cX7_refusalOf 51 = .ok (.iload_n 1, 1) := by decide +kernel
theorem dX7_refusalOf_52 : decode cX7_refusalOf 52 = .ok (.bipush 107, 2) := by decide +kernel
theorem dX7_refusalOf_54 : decode cX7_refusalOf 54 = .ok (.if_icmp .ne 17, 3) := by decide +kernel
theorem dX7_refusalOf_57 : decode cX7_refusalOf 57 = .ok (.aload 5, 2) := by decide +kernel
theorem dX7_refusalOf_59 : decode cX7_refusalOf 59 = .ok (.getfield 154, 3) := by decide +kernel
theorem dX7_refusalOf_62 : decode cX7_refusalOf 62 = .ok (.ifCond .ne 7, 3) := by decide +kernel
theorem dX7_refusalOf_65 : decode cX7_refusalOf 65 = .ok (.iconst 3, 1) := by decide +kernel
theorem dX7_refusalOf_66 : decode cX7_refusalOf 66 = .ok (.goto 4, 3) := by decide +kernel
theorem dX7_refusalOf_69 : decode cX7_refusalOf 69 = .ok (.iconst 0, 1) := by decide +kernel
theorem dX7_refusalOf_70 : decode cX7_refusalOf 70 = .ok (.ireturn, 1) := by decide +kernel
theorem dX7_refusalOf_71 : decode cX7_refusalOf 71 = .ok (.aload 5, 2) := by decide +kernel
theorem dX7_refusalOf_73 : decode cX7_refusalOf 73 = .ok (.invokevirtual 294, 3) := by decide +kernel
theorem dX7_refusalOf_76 : decode cX7_refusalOf 76 = .ok (.ifCond .eq 15, 3) := by decide +kernel
theorem dX7_refusalOf_79 : decode cX7_refusalOf 79 = .ok (.aload 5, 2) := by decide +kernel
theorem dX7_refusalOf_81 : decode cX7_refusalOf 81 = .ok (.getfield 163, 3) := by decide +kernel
theorem dX7_refusalOf_84 : decode cX7_refusalOf 84 = .ok (.ifCond .ne 7, 3) := by decide +kernel
theorem dX7_refusalOf_87 : decode cX7_refusalOf 87 = .ok (.iconst 0, 1) := by decide +kernel
theorem dX7_refusalOf_88 : decode cX7_refusalOf 88 = .ok (.goto 4, 3) := by decide +kernel
theorem dX7_refusalOf_91 : decode cX7_refusalOf 91 = .ok (.iconst 3, 1) := by decide +kernel
theorem dX7_refusalOf_92 : decode cX7_refusalOf 92 = .ok (.ireturn, 1) := by decide +kernel
theorem dX7_refusalOfTurn_0 : decode cX7_refusalOfTurn 0 = .ok (.aload_n 0, 1) := by decide +kernel
theorem dX7_refusalOfTurn_1 : decode cX7_refusalOfTurn 1 = .ok (.ifnonnull 5, 3) := by decide +kernel
theorem dX7_refusalOfTurn_4 : decode cX7_refusalOfTurn 4 = .ok (.iconst 1, 1) := by decide +kernel
theorem dX7_refusalOfTurn_5 : decode cX7_refusalOfTurn 5 = .ok (.ireturn, 1) := by decide +kernel
theorem dX7_refusalOfTurn_6 : decode cX7_refusalOfTurn 6 = .ok (.iload_n 1, 1) := by decide +kernel
theorem dX7_refusalOfTurn_7 : decode cX7_refusalOfTurn 7 = .ok (.iconst 0, 1) := by decide +kernel
theorem dX7_refusalOfTurn_8 : decode cX7_refusalOfTurn 8 = .ok (.sipush 999, 3) := by decide +kernel
theorem dX7_refusalOfTurn_11 : decode cX7_refusalOfTurn 11 = .ok (.invokestatic 52, 3) := by decide +kernel
theorem dX7_refusalOfTurn_14 : decode cX7_refusalOfTurn 14 = .ok (.ifCond .ne 5, 3) := by decide +kernel
theorem dX7_refusalOfTurn_17 : decode cX7_refusalOfTurn 17 = .ok (.iconst 2, 1) := by decide +kernel
theorem dX7_refusalOfTurn_18 : decode cX7_refusalOfTurn 18 = .ok (.ireturn, 1) := by decide +kernel
theorem dX7_refusalOfTurn_19 : decode cX7_refusalOfTurn 19 = .ok (.aload_n 0, 1) := by decide +kernel
theorem dX7_refusalOfTurn_20 : decode cX7_refusalOfTurn 20 = .ok (.getfield 298, 3) := by decide +kernel
theorem dX7_refusalOfTurn_23 : decode cX7_refusalOfTurn 23 = .ok (.bipush 9, 2) := by decide +kernel
theorem dX7_refusalOfTurn_25 : decode cX7_refusalOfTurn 25 = .ok (.if_icmp .lt 7, 3) := by decide +kernel
theorem dX7_refusalOfTurn_28 : decode cX7_refusalOfTurn 28 = .ok (.iconst 3, 1) := by decide +kernel
theorem dX7_refusalOfTurn_29 : decode cX7_refusalOfTurn 29 = .ok (.goto 4, 3) := by decide +kernel
theorem dX7_refusalOfTurn_32 : decode cX7_refusalOfTurn 32 = .ok (.iconst 0, 1) := by decide +kernel
theorem dX7_refusalOfTurn_33 : decode cX7_refusalOfTurn 33 = .ok (.ireturn, 1) := by decide +kernel
theorem dX7_refusalOfLeg_0 : decode cX7_refusalOfLeg 0 = .ok (.iload_n 1, 1) := by decide +kernel
theorem dX7_refusalOfLeg_1 : decode cX7_refusalOfLeg 1 = .ok (.invokestatic 100, 3) := by decide +kernel
theorem dX7_refusalOfLeg_4 : decode cX7_refusalOfLeg 4 = .ok (.ifCond .eq 14, 3) := by decide +kernel
theorem dX7_refusalOfLeg_7 : decode cX7_refusalOfLeg 7 = .ok (.iload_n 2, 1) := by decide +kernel
theorem dX7_refusalOfLeg_8 : decode cX7_refusalOfLeg 8 = .ok (.iconst 1, 1) := by decide +kernel
theorem dX7_refusalOfLeg_9 : decode cX7_refusalOfLeg 9 = .ok (.ldc_w 301, 3) := by decide +kernel
theorem dX7_refusalOfLeg_12 : decode cX7_refusalOfLeg 12 = .ok (.invokestatic 52, 3) := by decide +kernel
theorem dX7_refusalOfLeg_15 : decode cX7_refusalOfLeg 15 = .ok (.ifCond .ne 5, 3) := by decide +kernel
theorem dX7_refusalOfLeg_18 : decode cX7_refusalOfLeg 18 = .ok (.iconst 2, 1) := by decide +kernel
theorem dX7_refusalOfLeg_19 : decode cX7_refusalOfLeg 19 = .ok (.ireturn, 1) := by decide +kernel
theorem dX7_refusalOfLeg_20 : decode cX7_refusalOfLeg 20 = .ok (.aload_n 0, 1) := by decide +kernel
theorem dX7_refusalOfLeg_21 : decode cX7_refusalOfLeg 21 = .ok (.invokevirtual 294, 3) := by decide +kernel
theorem dX7_refusalOfLeg_24 : decode cX7_refusalOfLeg 24 = .ok (.ifCond .ne 12, 3) := by decide +kernel
theorem dX7_refusalOfLeg_27 : decode cX7_refusalOfLeg 27 = .ok (.aload_n 0, 1) := by decide +kernel
theorem dX7_refusalOfLeg_28 : decode cX7_refusalOfLeg 28 = .ok (.getfield 154, 3) := by decide +kernel
theorem dX7_refusalOfLeg_31 : decode cX7_refusalOfLeg 31 = .ok (.bipush 12, 2) := by decide +kernel
theorem dX7_refusalOfLeg_33 : decode cX7_refusalOfLeg 33 = .ok (.if_icmp .lt 7, 3) := by decide +kernel
theorem dX7_refusalOfLeg_36 : decode cX7_refusalOfLeg 36 = .ok (.iconst 3, 1) := by decide +kernel
theorem dX7_refusalOfLeg_37 : decode cX7_refusalOfLeg 37 = .ok (.goto 4, 3) := by decide +kernel
theorem dX7_refusalOfLeg_40 : decode cX7_refusalOfLeg 40 = .ok (.iconst 0, 1) := by decide +kernel
theorem dX7_refusalOfLeg_41 : decode cX7_refusalOfLeg 41 = .ok (.ireturn, 1) := by decide +kernel
theorem dX7_carryOut_0 : decode cX7_carryOut 0 = .ok (.iload_n 1, 1) := by decide +kernel
theorem dX7_carryOut_1 : decode cX7_carryOut 1 = .ok (.bipush 116, 2) := by decide +kernel
theorem dX7_carryOut_3 : decode cX7_carryOut 3 = .ok (.if_icmp .ne 30, 3) := by decide +kernel
theorem dX7_carryOut_6 : decode cX7_carryOut 6 = .ok (.aload_n 0, 1) := by decide +kernel
theorem dX7_carryOut_7 : decode cX7_carryOut 7 = .ok (.getfield 10, 3) := by decide +kernel
theorem dX7_carryOut_10 : decode cX7_carryOut 10 = .ok (.iload_n 2, 1) := by decide +kernel
theorem dX7_carryOut_11 : decode cX7_carryOut 11 = .ok (.invokevirtual 82, 3) := by decide +kernel
theorem dX7_carryOut_14 : decode cX7_carryOut 14 = .ok (.astore 5, 2) := by decide +kernel
theorem dX7_carryOut_16 : decode cX7_carryOut 16 = .ok (.aload 5, 2) := by decide +kernel
theorem dX7_carryOut_18 : decode cX7_carryOut 18 = .ok (.ifnonnull 8, 3) := by decide +kernel
theorem dX7_carryOut_21 : decode cX7_carryOut 21 = .ok (.ldc 189, 2) := by decide +kernel
theorem dX7_carryOut_23 : decode cX7_carryOut 23 = .ok (.goto 9, 3) := by decide +kernel
theorem dX7_carryOut_26 : decode cX7_carryOut 26 = .ok (.aload 5, 2) := by decide +kernel
theorem dX7_carryOut_28 : decode cX7_carryOut 28 = .ok (.iload_n 3, 1) := by decide +kernel
theorem dX7_carryOut_29 : decode cX7_carryOut 29 = .ok (.invokevirtual 302, 3) := by decide +kernel
theorem dX7_carryOut_32 : decode cX7_carryOut 32 = .ok (.ireturn, 1) := by decide +kernel
theorem dX7_carryOut_33 : decode cX7_carryOut 33 = .ok (.aload_n 0, 1) := by decide +kernel
theorem dX7_carryOut_34 : decode cX7_carryOut 34 = .ok (.getfield 10, 3) := by decide +kernel
theorem dX7_carryOut_37 : decode cX7_carryOut 37 = .ok (.iload_n 2, 1) := by decide +kernel
theorem dX7_carryOut_38 : decode cX7_carryOut 38 = .ok (.invokevirtual 141, 3) := by decide +kernel
theorem dX7_carryOut_41 : decode cX7_carryOut 41 = .ok (.astore 5, 2) := by decide +kernel
theorem dX7_carryOut_43 : decode cX7_carryOut 43 = .ok (.aload 5, 2) := by decide +kernel
theorem dX7_carryOut_45 : decode cX7_carryOut 45 = .ok (.ifnonnull 6, 3) := by decide +kernel
theorem dX7_carryOut_48 : decode cX7_carryOut 48 = .ok (.ldc 189, 2) := by decide +kernel
theorem dX7_carryOut_50 : decode cX7_carryOut 50 = .ok (.ireturn, 1) := by decide +kernel
theorem dX7_carryOut_51 : decode cX7_carryOut 51 = .ok (.iload_n 1, 1) := by decide +kernel
theorem dX7_carryOut_52 : decode cX7_carryOut 52 = .ok (.bipush 108, 2) := by decide +kernel
theorem dX7_carryOut_54 : decode cX7_carryOut 54 = .ok (.if_icmp .ne 12, 3) := by decide +kernel
theorem dX7_carryOut_57 : decode cX7_carryOut 57 = .ok (.aload 5, 2) := by decide +kernel
theorem dX7_carryOut_59 : decode cX7_carryOut 59 = .ok (.iload_n 3, 1) := by decide +kernel
theorem dX7_carryOut_60 : decode cX7_carryOut 60 = .ok (.iload 4, 2) := by decide +kernel
theorem dX7_carryOut_62 : decode cX7_carryOut 62 = .ok (.invokevirtual 305, 3) := by decide +kernel
theorem dX7_carryOut_65 : decode cX7_carryOut 65 = .ok (.ireturn, 1) := by decide +kernel
theorem dX7_carryOut_66 : decode cX7_carryOut 66 = .ok (.iload_n 1, 1) := by decide +kernel
theorem dX7_carryOut_67 : decode cX7_carryOut 67 = .ok (.bipush 107, 2) := by decide +kernel
theorem dX7_carryOut_69 : decode cX7_carryOut 69 = .ok (.if_icmp .ne 11, 3) := by decide +kernel
theorem dX7_carryOut_72 : decode cX7_carryOut 72 = .ok (.aload 5, 2) := by decide +kernel
theorem dX7_carryOut_74 : decode cX7_carryOut 74 = .ok (.invokevirtual 307, 3) := by decide +kernel
theorem dX7_carryOut_77 : decode cX7_carryOut 77 = .ok (.goto 8, 3) := by decide +kernel
theorem dX7_carryOut_80 : decode cX7_carryOut 80 = .ok (.aload 5, 2) := by decide +kernel
theorem dX7_carryOut_82 : decode cX7_carryOut 82 = .ok (.invokevirtual 310, 3) := by decide +kernel
theorem dX7_carryOut_85 : decode cX7_carryOut 85 = .ok (.ireturn, 1) := by decide +kernel
theorem dX7_isIn_0 : decode cX7_isIn 0 = .ok (.iload_n 0, 1) := by decide +kernel
theorem dX7_isIn_1 : decode cX7_isIn 1 = .ok (.iload_n 1, 1) := by decide +kernel
theorem dX7_isIn_2 : decode cX7_isIn 2 = .ok (.if_icmp .lt 12, 3) := by decide +kernel
theorem dX7_isIn_5 : decode cX7_isIn 5 = .ok (.iload_n 0, 1) := by decide +kernel
theorem dX7_isIn_6 : decode cX7_isIn 6 = .ok (.iload_n 2, 1) := by decide +kernel
theorem dX7_isIn_7 : decode cX7_isIn 7 = .ok (.if_icmp .gt 7, 3) := by decide +kernel
theorem dX7_isIn_10 : decode cX7_isIn 10 = .ok (.iconst 1, 1) := by decide +kernel
theorem dX7_isIn_11 : decode cX7_isIn 11 = .ok (.goto 4, 3) := by decide +kernel
theorem dX7_isIn_14 : decode cX7_isIn 14 = .ok (.iconst 0, 1) := by decide +kernel
theorem dX7_isIn_15 : decode cX7_isIn 15 = .ok (.ireturn, 1) := by decide +kernel
theorem dX7_isBearing_0 : decode cX7_isBearing 0 = .ok (.iload_n 0, 1) := by decide +kernel
theorem dX7_isBearing_1 : decode cX7_isBearing 1 = .ok (.iconst 0, 1) := by decide +kernel
theorem dX7_isBearing_2 : decode cX7_isBearing 2 = .ok (.ldc_w 313, 3) := by decide +kernel
theorem dX7_isBearing_5 : decode cX7_isBearing 5 = .ok (.invokestatic 52, 3) := by decide +kernel
theorem dX7_isBearing_8 : decode cX7_isBearing 8 = .ok (.ireturn, 1) := by decide +kernel
theorem dX7_isSmall_0 : decode cX7_isSmall 0 = .ok (.iload_n 0, 1) := by decide +kernel
theorem dX7_isSmall_1 : decode cX7_isSmall 1 = .ok (.sipush (-3600), 3) := by decide +kernel
theorem dX7_isSmall_4 : decode cX7_isSmall 4 = .ok (.sipush 3600, 3) := by decide +kernel
theorem dX7_isSmall_7 : decode cX7_isSmall 7 = .ok (.invokestatic 52, 3) := by decide +kernel
theorem dX7_isSmall_10 : decode cX7_isSmall 10 = .ok (.ireturn, 1) := by decide +kernel
theorem dL_cell_0 : decode cL_cell 0 = .ok (.iload_n 1, 1) := by decide +kernel
theorem dL_cell_1 : decode cL_cell 1 = .ok (.aload_n 0, 1) := by decide +kernel
theorem dL_cell_2 : decode cL_cell 2 = .ok (.arraylength, 1) := by decide +kernel
theorem dL_cell_3 : decode cL_cell 3 = .ok (.if_icmp .ge 9, 3) := by decide +kernel
theorem dL_cell_6 : decode cL_cell 6 = .ok (.aload_n 0, 1) := by decide +kernel
theorem dL_cell_7 : decode cL_cell 7 = .ok (.iload_n 1, 1) := by decide +kernel
theorem dL_cell_8 : decode cL_cell 8 = .ok (.iaload, 1) := by decide +kernel
theorem dL_cell_9 : decode cL_cell 9 = .ok (.goto 9, 3) := by decide +kernel
theorem dL_cell_12 : decode cL_cell 12 = .ok (.ldc 7, 2) := by decide +kernel
theorem dL_cell_14 : decode cL_cell 14 = .ok (.iload_n 1, 1) := by decide +kernel
theorem dL_cell_15 : decode cL_cell 15 = .ok (.iconst 3, 1) := by decide +kernel
theorem dL_cell_16 : decode cL_cell 16 = .ok (.iadd, 1) := by decide +kernel
theorem dL_cell_17 : decode cL_cell 17 = .ok (.imul, 1) := by decide +kernel
theorem dL_cell_18 : decode cL_cell 18 = .ok (.ireturn, 1) := by decide +kernel
theorem dL_low_0 : decode cL_low 0 = .ok (.iload_n 0, 1) := by decide +kernel
theorem dL_low_1 : decode cL_low 1 = .ok (.ldc 8, 2) := by decide +kernel
theorem dL_low_3 : decode cL_low 3 = .ok (.iand, 1) := by decide +kernel
theorem dL_low_4 : decode cL_low 4 = .ok (.iload_n 1, 1) := by decide +kernel
theorem dL_low_5 : decode cL_low 5 = .ok (.irem, 1) := by decide +kernel
theorem dL_low_6 : decode cL_low 6 = .ok (.ireturn, 1) := by decide +kernel
theorem dL_sets_0 : decode cL_sets 0 = .ok (.aload_n 0, 1) := by decide +kernel
theorem dL_sets_1 : decode cL_sets 1 = .ok (.iload_n 1, 1) := by decide +kernel
theorem dL_sets_2 : decode cL_sets 2 = .ok (.iload_n 2, 1) := by decide +kernel
theorem dL_sets_3 : decode cL_sets 3 = .ok (.invokevirtual 9, 3) := by decide +kernel
theorem dL_sets_6 : decode cL_sets 6 = .ok (.ireturn, 1) := by decide +kernel
theorem dL_sets_7 : decode cL_sets 7 = .ok (.astore_n 3, 1) := by decide +kernel
theorem dL_sets_8 : decode cL_sets 8 = .ok (.ldc 17, 2) := by decide +kernel
theorem dL_sets_10 : decode cL_sets 10 = .ok (.ireturn, 1) := by decide +kernel
theorem dL_hangs_0 : decode cL_hangs 0 = .ok (.aload_n 0, 1) := by decide +kernel
theorem dL_hangs_1 : decode cL_hangs 1 = .ok (.iload_n 1, 1) := by decide +kernel
theorem dL_hangs_2 : decode cL_hangs 2 = .ok (.iload_n 2, 1) := by decide +kernel
theorem dL_hangs_3 : decode cL_hangs 3 = .ok (.invokevirtual 18, 3) := by decide +kernel
theorem dL_hangs_6 : decode cL_hangs 6 = .ok (.ireturn, 1) := by decide +kernel
theorem dL_hangs_7 : decode cL_hangs 7 = .ok (.astore_n 3, 1) := by decide +kernel
theorem dL_hangs_8 : decode cL_hangs 8 = .ok (.ldc 17, 2) := by decide +kernel
theorem dL_hangs_10 : decode cL_hangs 10 = .ok (.ireturn, 1) := by decide +kernel
theorem dL_hangs_11 : decode cL_hangs 11 = .ok (.astore_n 3, 1) := by decide +kernel
theorem dL_hangs_12 : decode cL_hangs 12 = .ok (.ldc 23, 2) := by decide +kernel
theorem dL_hangs_14 : decode cL_hangs 14 = .ok (.ireturn, 1) := by decide +kernel
theorem dL_swings_0 : decode cL_swings 0 = .ok (.aload_n 0, 1) := by decide +kernel
theorem dL_swings_1 : decode cL_swings 1 = .ok (.iload_n 1, 1) := by decide +kernel
theorem dL_swings_2 : decode cL_swings 2 = .ok (.iload_n 2, 1) := by decide +kernel
theorem dL_swings_3 : decode cL_swings 3 = .ok (.invokevirtual 24, 3) := by decide +kernel
theorem dL_swings_6 : decode cL_swings 6 = .ok (.ireturn, 1) := by decide +kernel
theorem dL_swings_7 : decode cL_swings 7 = .ok (.astore_n 3, 1) := by decide +kernel
theorem dL_swings_8 : decode cL_swings 8 = .ok (.ldc 29, 2) := by decide +kernel
theorem dL_swings_10 : decode cL_swings 10 = .ok (.ireturn, 1) := by decide +kernel
theorem dL_swings_11 : decode cL_swings 11 = .ok (.astore_n 3, 1) := by decide +kernel
theorem dL_swings_12 : decode cL_swings 12 = .ok (.ldc 17, 2) := by decide +kernel
theorem dL_swings_14 : decode cL_swings 14 = .ok (.ireturn, 1) := by decide +kernel
theorem dL_swings_15 : decode cL_swings 15 = .ok (.astore_n 3, 1) := by decide +kernel
theorem dL_swings_16 : decode cL_swings 16 = .ok (.ldc 23, 2) := by decide +kernel
theorem dL_swings_18 : decode cL_swings 18 = .ok (.ireturn, 1) := by decide +kernel
theorem dL_stills_0 : decode cL_stills 0 = .ok (.aload_n 0, 1) := by decide +kernel
theorem dL_stills_1 : decode cL_stills 1 = .ok (.iload_n 1, 1) := by decide +kernel
theorem dL_stills_2 : decode cL_stills 2 = .ok (.invokevirtual 30, 3) := by decide +kernel
theorem dL_stills_5 : decode cL_stills 5 = .ok (.ireturn, 1) := by decide +kernel
theorem dL_stills_6 : decode cL_stills 6 = .ok (.astore_n 2, 1) := by decide +kernel
theorem dL_stills_7 : decode cL_stills 7 = .ok (.ldc 29, 2) := by decide +kernel
theorem dL_stills_9 : decode cL_stills 9 = .ok (.ireturn, 1) := by decide +kernel
theorem dL_joins_0 : decode cL_joins 0 = .ok (.aload_n 0, 1) := by decide +kernel
theorem dL_joins_1 : decode cL_joins 1 = .ok (.iload_n 1, 1) := by decide +kernel
theorem dL_joins_2 : decode cL_joins 2 = .ok (.iload_n 2, 1) := by decide +kernel
theorem dL_joins_3 : decode cL_joins 3 = .ok (.iload_n 3, 1) := by decide +kernel
theorem dL_joins_4 : decode cL_joins 4 = .ok (.iload 4, 2) := by decide +kernel
theorem dL_joins_6 : decode cL_joins 6 = .ok (.iload 5, 2) := by decide +kernel
theorem dL_joins_8 : decode cL_joins 8 = .ok (.iload 6, 2) := by decide +kernel
theorem dL_joins_10 : decode cL_joins 10 = .ok (.invokevirtual 34, 3) := by decide +kernel
theorem dL_joins_13 : decode cL_joins 13 = .ok (.ireturn, 1) := by decide +kernel
theorem dL_joins_14 : decode cL_joins 14 = .ok (.astore 7, 2) := by decide +kernel
theorem dL_joins_16 : decode cL_joins 16 = .ok (.ldc 29, 2) := by decide +kernel
theorem dL_joins_18 : decode cL_joins 18 = .ok (.ireturn, 1) := by decide +kernel
theorem dL_joins_19 : decode cL_joins 19 = .ok (.astore 7, 2) := by decide +kernel
theorem dL_joins_21 : decode cL_joins 21 = .ok (.ldc 17, 2) := by decide +kernel
theorem dL_joins_23 : decode cL_joins 23 = .ok (.ireturn, 1) := by decide +kernel
theorem dL_joins_24 : decode cL_joins 24 = .ok (.astore 7, 2) := by decide +kernel
theorem dL_joins_26 : decode cL_joins 26 = .ok (.ldc 23, 2) := by decide +kernel
theorem dL_joins_28 : decode cL_joins 28 = .ok (.ireturn, 1) := by decide +kernel
theorem dL_measures_0 : decode cL_measures 0 = .ok (.aload_n 0, 1) := by decide +kernel
theorem dL_measures_1 : decode cL_measures 1 = .ok (.iload_n 1, 1) := by decide +kernel
theorem dL_measures_2 : decode cL_measures 2 = .ok (.iload_n 2, 1) := by decide +kernel
theorem dL_measures_3 : decode cL_measures 3 = .ok (.invokevirtual 38, 3) := by decide +kernel
theorem dL_measures_6 : decode cL_measures 6 = .ok (.ireturn, 1) := by decide +kernel
theorem dL_measures_7 : decode cL_measures 7 = .ok (.astore_n 3, 1) := by decide +kernel
theorem dL_measures_8 : decode cL_measures 8 = .ok (.ldc 29, 2) := by decide +kernel
theorem dL_measures_10 : decode cL_measures 10 = .ok (.ireturn, 1) := by decide +kernel
theorem dL_measures_11 : decode cL_measures 11 = .ok (.astore_n 3, 1) := by decide +kernel
theorem dL_measures_12 : decode cL_measures 12 = .ok (.ldc 17, 2) := by decide +kernel
theorem dL_measures_14 : decode cL_measures 14 = .ok (.ireturn, 1) := by decide +kernel
theorem dL_begins_0 : decode cL_begins 0 = .ok (.aload_n 0, 1) := by decide +kernel
theorem dL_begins_1 : decode cL_begins 1 = .ok (.iload_n 1, 1) := by decide +kernel
theorem dL_begins_2 : decode cL_begins 2 = .ok (.invokevirtual 41, 3) := by decide +kernel
theorem dL_begins_5 : decode cL_begins 5 = .ok (.ireturn, 1) := by decide +kernel
theorem dL_begins_6 : decode cL_begins 6 = .ok (.astore_n 2, 1) := by decide +kernel
theorem dL_begins_7 : decode cL_begins 7 = .ok (.ldc 29, 2) := by decide +kernel
theorem dL_begins_9 : decode cL_begins 9 = .ok (.ireturn, 1) := by decide +kernel
theorem dL_begins_10 : decode cL_begins 10 = .ok (.astore_n 2, 1) := by decide +kernel
theorem dL_begins_11 : decode cL_begins 11 = .ok (.ldc 23, 2) := by decide +kernel
theorem dL_begins_13 : decode cL_begins 13 = .ok (.ireturn, 1) := by decide +kernel
theorem dL_adds_0 : decode cL_adds 0 = .ok (.aload_n 0, 1) := by decide +kernel
theorem dL_adds_1 : decode cL_adds 1 = .ok (.iload_n 1, 1) := by decide +kernel
theorem dL_adds_2 : decode cL_adds 2 = .ok (.iload_n 2, 1) := by decide +kernel
theorem dL_adds_3 : decode cL_adds 3 = .ok (.iload_n 3, 1) := by decide +kernel
theorem dL_adds_4 : decode cL_adds 4 = .ok (.invokevirtual 44, 3) := by decide +kernel
theorem dL_adds_7 : decode cL_adds 7 = .ok (.ireturn, 1) := by decide +kernel
theorem dL_adds_8 : decode cL_adds 8 = .ok (.astore 4, 2) := by decide +kernel
theorem dL_adds_10 : decode cL_adds 10 = .ok (.ldc 29, 2) := by decide +kernel
theorem dL_adds_12 : decode cL_adds 12 = .ok (.ireturn, 1) := by decide +kernel
theorem dL_adds_13 : decode cL_adds 13 = .ok (.astore 4, 2) := by decide +kernel
theorem dL_adds_15 : decode cL_adds 15 = .ok (.ldc 17, 2) := by decide +kernel
theorem dL_adds_17 : decode cL_adds 17 = .ok (.ireturn, 1) := by decide +kernel
theorem dL_adds_18 : decode cL_adds 18 = .ok (.astore 4, 2) := by decide +kernel
theorem dL_adds_20 : decode cL_adds 20 = .ok (.ldc 23, 2) := by decide +kernel
theorem dL_adds_22 : decode cL_adds 22 = .ok (.ireturn, 1) := by decide +kernel
theorem dL_drops_0 : decode cL_drops 0 = .ok (.aload_n 0, 1) := by decide +kernel
theorem dL_drops_1 : decode cL_drops 1 = .ok (.iload_n 1, 1) := by decide +kernel
theorem dL_drops_2 : decode cL_drops 2 = .ok (.invokevirtual 48, 3) := by decide +kernel
theorem dL_drops_5 : decode cL_drops 5 = .ok (.ireturn, 1) := by decide +kernel
theorem dL_drops_6 : decode cL_drops 6 = .ok (.astore_n 2, 1) := by decide +kernel
theorem dL_drops_7 : decode cL_drops 7 = .ok (.ldc 29, 2) := by decide +kernel
theorem dL_drops_9 : decode cL_drops 9 = .ok (.ireturn, 1) := by decide +kernel
theorem dL_drops_10 : decode cL_drops 10 = .ok (.astore_n 2, 1) := by decide +kernel
theorem dL_drops_11 : decode cL_drops 11 = .ok (.ldc 23, 2) := by decide +kernel
theorem dL_drops_13 : decode cL_drops 13 = .ok (.ireturn, 1) := by decide +kernel
theorem dL_closes_0 : decode cL_closes 0 = .ok (.aload_n 0, 1) := by decide +kernel
theorem dL_closes_1 : decode cL_closes 1 = .ok (.iload_n 1, 1) := by decide +kernel
theorem dL_closes_2 : decode cL_closes 2 = .ok (.iload_n 2, 1) := by decide +kernel
theorem dL_closes_3 : decode cL_closes 3 = .ok (.iload_n 3, 1) := by decide +kernel
theorem dL_closes_4 : decode cL_closes 4 = .ok (.invokevirtual 51, 3) := by decide +kernel
theorem dL_closes_7 : decode cL_closes 7 = .ok (.ireturn, 1) := by decide +kernel
theorem dL_closes_8 : decode cL_closes 8 = .ok (.astore 4, 2) := by decide +kernel
theorem dL_closes_10 : decode cL_closes 10 = .ok (.ldc 29, 2) := by decide +kernel
theorem dL_closes_12 : decode cL_closes 12 = .ok (.ireturn, 1) := by decide +kernel
theorem dL_closes_13 : decode cL_closes 13 = .ok (.astore 4, 2) := by decide +kernel
theorem dL_closes_15 : decode cL_closes 15 = .ok (.ldc 17, 2) := by decide +kernel
theorem dL_closes_17 : decode cL_closes 17 = .ok (.ireturn, 1) := by decide +kernel
theorem dL_closes_18 : decode cL_closes 18 = .ok (.astore 4, 2) := by decide +kernel
theorem dL_closes_20 : decode cL_closes 20 = .ok (.ldc 23, 2) := by decide +kernel
theorem dL_closes_22 : decode cL_closes 22 = .ok (.ireturn, 1) := by decide +kernel
theorem dL_adjusts_0 : decode cL_adjusts 0 = .ok (.aload_n 0, 1) := by decide +kernel
theorem dL_adjusts_1 : decode cL_adjusts 1 = .ok (.iload_n 1, 1) := by decide +kernel
theorem dL_adjusts_2 : decode cL_adjusts 2 = .ok (.invokevirtual 54, 3) := by decide +kernel
theorem dL_adjusts_5 : decode cL_adjusts 5 = .ok (.ireturn, 1) := by decide +kernel
theorem dL_adjusts_6 : decode cL_adjusts 6 = .ok (.astore_n 2, 1) := by decide +kernel
theorem dL_adjusts_7 : decode cL_adjusts 7 = .ok (.ldc 29, 2) := by decide +kernel
theorem dL_adjusts_9 : decode cL_adjusts 9 = .ok (.ireturn, 1) := by decide +kernel
theorem dL_adjusts_10 : decode cL_adjusts 10 = .ok (.astore_n 2, 1) := by decide +kernel
theorem dL_adjusts_11 : decode cL_adjusts 11 = .ok (.ldc 23, 2) := by decide +kernel
theorem dL_adjusts_13 : decode cL_adjusts 13 = .ok (.ireturn, 1) := by decide +kernel
theorem dL_size_0 : decode cL_size 0 = .ok (.iload_n 0, 1) := by decide +kernel
theorem dL_size_1 : decode cL_size 1 = .ok (.ifCond .ge 8, 3) := by decide +kernel
theorem dL_size_4 : decode cL_size 4 = .ok (.iload_n 0, 1) := by decide +kernel
theorem dL_size_5 : decode cL_size 5 = .ok (.ineg, 1) := by decide +kernel
theorem dL_size_6 : decode cL_size 6 = .ok (.goto 4, 3) := by decide +kernel
theorem dL_size_9 : decode cL_size 9 = .ok (.iload_n 0, 1) := by decide +kernel
theorem dL_size_10 : decode cL_size 10 = .ok (.ireturn, 1) := by decide +kernel
theorem dL_norm_0 : decode cL_norm 0 = .ok (.lload_n 0, 1) := by decide +kernel
theorem dL_norm_1 : decode cL_norm 1 = .ok (.ldc2_w 57, 3) := by decide +kernel
theorem dL_norm_4 : decode cL_norm 4 = .ok (.lrem, 1) := by decide +kernel
theorem dL_norm_5 : decode cL_norm 5 = .ok (.lstore_n 2, 1) := by decide +kernel
theorem dL_norm_6 : decode cL_norm 6 = .ok (.lload_n 2, 1) := by decide +kernel
theorem dL_norm_7 : decode cL_norm 7 = .ok (.lconst 0, 1) := by decide +kernel
theorem dL_norm_8 : decode cL_norm 8 = .ok (.lcmp, 1) := by decide +kernel
theorem dL_norm_9 : decode cL_norm 9 = .ok (.ifCond .ge 11, 3) := by decide +kernel
theorem dL_norm_12 : decode cL_norm 12 = .ok (.lload_n 2, 1) := by decide +kernel
theorem dL_norm_13 : decode cL_norm 13 = .ok (.ldc2_w 57, 3) := by decide +kernel
theorem dL_norm_16 : decode cL_norm 16 = .ok (.ladd, 1) := by decide +kernel
theorem dL_norm_17 : decode cL_norm 17 = .ok (.goto 4, 3) := by decide +kernel
theorem dL_norm_20 : decode cL_norm 20 = .ok (.lload_n 2, 1) := by decide +kernel
theorem dL_norm_21 : decode cL_norm 21 = .ok (.l2i, 1) := by decide +kernel
theorem dL_norm_22 : decode cL_norm 22 = .ok (.ireturn, 1) := by decide +kernel
theorem dL_centre_0 : decode cL_centre 0 = .ok (.lload_n 0, 1) := by decide +kernel
theorem dL_centre_1 : decode cL_centre 1 = .ok (.ldc2_w 59, 3) := by decide +kernel
theorem dL_centre_4 : decode cL_centre 4 = .ok (.ladd, 1) := by decide +kernel
theorem dL_centre_5 : decode cL_centre 5 = .ok (.invokestatic 61, 3) := by decide +kernel
theorem dL_centre_8 : decode cL_centre 8 = .ok (.ldc 67, 2) := by decide +kernel
theorem dL_centre_10 : decode cL_centre 10 = .ok (.isub, 1) := by decide +kernel
theorem dL_centre_11 : decode cL_centre 11 = .ok (.ireturn, 1) := by decide +kernel
theorem dL_sine_0 : decode cL_sine 0 = .ok (.lload_n 0, 1) := by decide +kernel
theorem dL_sine_1 : decode cL_sine 1 = .ok (.invokestatic 61, 3) := by decide +kernel
theorem dL_sine_4 : decode cL_sine 4 = .ok (.i2l, 1) := by decide +kernel
theorem dL_sine_5 : decode cL_sine 5 = .ok (.lstore_n 2, 1) := by decide +kernel
theorem dL_sine_6 : decode cL_sine 6 = .ok (.lload_n 2, 1) := by decide +kernel
theorem dL_sine_7 : decode cL_sine 7 = .ok (.ldc2_w 59, 3) := by decide +kernel
theorem dL_sine_10 : decode cL_sine 10 = .ok (.lrem, 1) := by decide +kernel
theorem dL_sine_11 : decode cL_sine 11 = .ok (.lstore 4, 2) := by decide +kernel
theorem dL_sine_13 : decode cL_sine 13 = .ok (.lload 4, 2) := by decide +kernel
theorem dL_sine_15 : decode cL_sine 15 = .ok (.ldc2_w 59, 3) := by decide +kernel
theorem dL_sine_18 : decode cL_sine 18 = .ok (.lload 4, 2) := by decide +kernel
theorem dL_sine_20 : decode cL_sine 20 = .ok (.lsub, 1) := by decide +kernel
theorem dL_sine_21 : decode cL_sine 21 = .ok (.lmul, 1) := by decide +kernel
theorem dL_sine_22 : decode cL_sine 22 = .ok (.ldc2_w 68, 3) := by decide +kernel
theorem dL_sine_25 : decode cL_sine 25 = .ok (.lmul, 1) := by decide +kernel
theorem dL_sine_26 : decode cL_sine 26 = .ok (.ldc2_w 70, 3) := by decide +kernel
theorem dL_sine_29 : decode cL_sine 29 = .ok (.lload 4, 2) := by decide +kernel
theorem dL_sine_31 : decode cL_sine 31 = .ok (.ldc2_w 59, 3) := by decide +kernel
theorem dL_sine_34 : decode cL_sine 34 = .ok (.lload 4, 2) := by decide +kernel
theorem dL_sine_36 : decode cL_sine 36 = .ok (.lsub, 1) := by decide +kernel
theorem dL_sine_37 : decode cL_sine 37 = .ok (.lmul, 1) := by decide +kernel
theorem dL_sine_38 : decode cL_sine 38 = .ok (.lsub, 1) := by decide +kernel
theorem dL_sine_39 : decode cL_sine 39 = .ok (.ldiv, 1) := by decide +kernel
theorem dL_sine_40 : decode cL_sine 40 = .ok (.lstore 6, 2) := by decide +kernel
theorem dL_sine_42 : decode cL_sine 42 = .ok (.lload_n 2, 1) := by decide +kernel
theorem dL_sine_43 : decode cL_sine 43 = .ok (.lload 4, 2) := by decide +kernel
theorem dL_sine_45 : decode cL_sine 45 = .ok (.lcmp, 1) := by decide +kernel
theorem dL_sine_46 : decode cL_sine 46 = .ok (.ifCond .ne 8, 3) := by decide +kernel
theorem dL_sine_49 : decode cL_sine 49 = .ok (.lload 6, 2) := by decide +kernel
theorem dL_sine_51 : decode cL_sine 51 = .ok (.goto 6, 3) := by decide +kernel
theorem dL_sine_54 : decode cL_sine 54 = .ok (.lload 6, 2) := by decide +kernel
theorem dL_sine_56 : decode cL_sine 56 = .ok (.lneg, 1) := by decide +kernel
theorem dL_sine_57 : decode cL_sine 57 = .ok (.lreturn, 1) := by decide +kernel
theorem dL_root_0 : decode cL_root 0 = .ok (.lconst 0, 1) := by decide +kernel
theorem dL_root_1 : decode cL_root 1 = .ok (.lstore_n 2, 1) := by decide +kernel
theorem dL_root_2 : decode cL_root 2 = .ok (.ldc2_w 72, 3) := by decide +kernel
theorem dL_root_5 : decode cL_root 5 = .ok (.lstore 4, 2) := by decide +kernel
theorem dL_root_7 : decode cL_root 7 = .ok (.lload 4, 2) := by decide +kernel
theorem dL_root_9 : decode cL_root 9 = .ok (.lconst 0, 1) := by decide +kernel
theorem dL_root_10 : decode cL_root 10 = .ok (.lcmp, 1) := by decide +kernel
theorem dL_root_11 : decode cL_root 11 = .ok (.ifCond .le 35, 3) := by decide +kernel
theorem dL_root_14 : decode cL_root 14 = .ok (.lload_n 2, 1) := by decide +kernel
theorem dL_root_15 : decode cL_root 15 = .ok (.lload_n 2, 1) := by decide +kernel
theorem dL_root_16 : decode cL_root 16 = .ok (.lload 4, 2) := by decide +kernel
theorem dL_root_18 : decode cL_root 18 = .ok (.ladd, 1) := by decide +kernel
theorem dL_root_19 : decode cL_root 19 = .ok (.lload_n 2, 1) := by decide +kernel
theorem dL_root_20 : decode cL_root 20 = .ok (.lload 4, 2) := by decide +kernel
theorem dL_root_22 : decode cL_root 22 = .ok (.ladd, 1) := by decide +kernel
theorem dL_root_23 : decode cL_root 23 = .ok (.lmul, 1) := by decide +kernel
theorem dL_root_24 : decode cL_root 24 = .ok (.lload_n 0, 1) := by decide +kernel
theorem dL_root_25 : decode cL_root 25 = .ok (.lcmp, 1) := by decide +kernel
theorem dL_root_26 : decode cL_root 26 = .ok (.ifCond .gt 8, 3) := by decide +kernel
theorem dL_root_29 : decode cL_root 29 = .ok (.lload 4, 2) := by decide +kernel
theorem dL_root_31 : decode cL_root 31 = .ok (.goto 4, 3) := by decide +kernel
theorem dL_root_34 : decode cL_root 34 = .ok (.lconst 0, 1) := by decide +kernel
theorem dL_root_35 : decode cL_root 35 = .ok (.ladd, 1) := by decide +kernel
theorem dL_root_36 : decode cL_root 36 = .ok (.lstore_n 2, 1) := by decide +kernel
theorem dL_root_37 : decode cL_root 37 = .ok (.lload 4, 2) := by decide +kernel
theorem dL_root_39 : decode cL_root 39 = .ok (.iconst 1, 1) := by decide +kernel
theorem dL_root_40 : decode cL_root 40 = .ok (.lshr, 1) := by decide +kernel
theorem dL_root_41 : decode cL_root 41 = .ok (.lstore 4, 2) := by decide +kernel
theorem dL_root_43 : decode cL_root 43 = .ok (.goto (-36), 3) := by decide +kernel
theorem dL_root_46 : decode cL_root 46 = .ok (.lload_n 2, 1) := by decide +kernel
theorem dL_root_47 : decode cL_root 47 = .ok (.l2i, 1) := by decide +kernel
theorem dL_root_48 : decode cL_root 48 = .ok (.ireturn, 1) := by decide +kernel
theorem dL_drift_0 : decode cL_drift 0 = .ok (.iconst 0, 1) := by decide +kernel
theorem dL_drift_1 : decode cL_drift 1 = .ok (.istore_n 3, 1) := by decide +kernel
theorem dL_drift_2 : decode cL_drift 2 = .ok (.iconst 0, 1) := by decide +kernel
theorem dL_drift_3 : decode cL_drift 3 = .ok (.istore 4, 2) := by decide +kernel
theorem dL_drift_5 : decode cL_drift 5 = .ok (.iload 4, 2) := by decide +kernel
theorem dL_drift_7 : decode cL_drift 7 = .ok (.iconst 2, 1) := by decide +kernel
theorem dL_drift_8 : decode cL_drift 8 = .ok (.iadd, 1) := by decide +kernel
theorem dL_drift_9 : decode cL_drift 9 = .ok (.aload_n 0, 1) := by decide +kernel
theorem dL_drift_10 : decode cL_drift 10 = .ok (.iload_n 2, 1) := by decide +kernel
theorem dL_drift_11 : decode cL_drift 11 = .ok (.iaload, 1) := by decide +kernel
theorem dL_drift_12 : decode cL_drift 12 = .ok (.if_icmp .ge 48, 3) := by decide +kernel
theorem dL_drift_15 : decode cL_drift 15 = .ok (.aload_n 1, 1) := by decide +kernel
theorem dL_drift_16 : decode cL_drift 16 = .ok (.bipush 9, 2) := by decide +kernel
theorem dL_drift_18 : decode cL_drift 18 = .ok (.iload_n 2, 1) := by decide +kernel
theorem dL_drift_19 : decode cL_drift 19 = .ok (.imul, 1) := by decide +kernel
theorem dL_drift_20 : decode cL_drift 20 = .ok (.iload 4, 2) := by decide +kernel
theorem dL_drift_22 : decode cL_drift 22 = .ok (.iadd, 1) := by decide +kernel
theorem dL_drift_23 : decode cL_drift 23 = .ok (.iaload, 1) := by decide +kernel
theorem dL_drift_24 : decode cL_drift 24 = .ok (.aload_n 1, 1) := by decide +kernel
theorem dL_drift_25 : decode cL_drift 25 = .ok (.bipush 9, 2) := by decide +kernel
theorem dL_drift_27 : decode cL_drift 27 = .ok (.iload_n 2, 1) := by decide +kernel
theorem dL_drift_28 : decode cL_drift 28 = .ok (.imul, 1) := by decide +kernel
theorem dL_drift_29 : decode cL_drift 29 = .ok (.iload 4, 2) := by decide +kernel
theorem dL_drift_31 : decode cL_drift 31 = .ok (.iadd, 1) := by decide +kernel
theorem dL_drift_32 : decode cL_drift 32 = .ok (.iconst 2, 1) := by decide +kernel
theorem dL_drift_33 : decode cL_drift 33 = .ok (.iadd, 1) := by decide +kernel
theorem dL_drift_34 : decode cL_drift 34 = .ok (.iaload, 1) := by decide +kernel
theorem dL_drift_35 : decode cL_drift 35 = .ok (.isub, 1) := by decide +kernel
theorem dL_drift_36 : decode cL_drift 36 = .ok (.invokestatic 74, 3) := by decide +kernel
theorem dL_drift_39 : decode cL_drift 39 = .ok (.istore 5, 2) := by decide +kernel
theorem dL_drift_41 : decode cL_drift 41 = .ok (.iload 5, 2) := by decide +kernel
theorem dL_drift_43 : decode cL_drift 43 = .ok (.iload_n 3, 1) := by decide +kernel
theorem dL_drift_44 : decode cL_drift 44 = .ok (.if_icmp .le 8, 3) := by decide +kernel
theorem dL_drift_47 : decode cL_drift 47 = .ok (.iload 5, 2) := by decide +kernel
theorem dL_drift_49 : decode cL_drift 49 = .ok (.goto 4, 3) := by decide +kernel
theorem dL_drift_52 : decode cL_drift 52 = .ok (.iload_n 3, 1) := by decide +kernel
theorem dL_drift_53 : decode cL_drift 53 = .ok (.istore_n 3, 1) := by decide +kernel
theorem dL_drift_54 : decode cL_drift 54 = .ok (.iinc 4 1, 3) := by decide +kernel
theorem dL_drift_57 : decode cL_drift 57 = .ok (.goto (-52), 3) := by decide +kernel
theorem dL_drift_60 : decode cL_drift 60 = .ok (.iload_n 3, 1) := by decide +kernel
theorem dL_drift_61 : decode cL_drift 61 = .ok (.ireturn, 1) := by decide +kernel
theorem dL_wrong_0 : decode cL_wrong 0 = .ok (.aload_n 1, 1) := by decide +kernel
theorem dL_wrong_1 : decode cL_wrong 1 = .ok (.iload_n 3, 1) := by decide +kernel
theorem dL_wrong_2 : decode cL_wrong 2 = .ok (.iaload, 1) := by decide +kernel
theorem dL_wrong_3 : decode cL_wrong 3 = .ok (.iconst 3, 1) := by decide +kernel
theorem dL_wrong_4 : decode cL_wrong 4 = .ok (.if_icmp .ge 7, 3) := by decide +kernel
theorem dL_wrong_7 : decode cL_wrong 7 = .ok (.iconst 1, 1) := by decide +kernel
theorem dL_wrong_8 : decode cL_wrong 8 = .ok (.goto 20, 3) := by decide +kernel
theorem dL_wrong_11 : decode cL_wrong 11 = .ok (.aload_n 1, 1) := by decide +kernel
theorem dL_wrong_12 : decode cL_wrong 12 = .ok (.aload_n 2, 1) := by decide +kernel
theorem dL_wrong_13 : decode cL_wrong 13 = .ok (.iload_n 3, 1) := by decide +kernel
theorem dL_wrong_14 : decode cL_wrong 14 = .ok (.invokestatic 77, 3) := by decide +kernel
theorem dL_wrong_17 : decode cL_wrong 17 = .ok (.aload_n 0, 1) := by decide +kernel
theorem dL_wrong_18 : decode cL_wrong 18 = .ok (.iconst 0, 1) := by decide +kernel
theorem dL_wrong_19 : decode cL_wrong 19 = .ok (.iaload, 1) := by decide +kernel
theorem dL_wrong_20 : decode cL_wrong 20 = .ok (.if_icmp .le 7, 3) := by decide +kernel
theorem dL_wrong_23 : decode cL_wrong 23 = .ok (.iconst 2, 1) := by decide +kernel
theorem dL_wrong_24 : decode cL_wrong 24 = .ok (.goto 4, 3) := by decide +kernel
theorem dL_wrong_27 : decode cL_wrong 27 = .ok (.iconst 0, 1) := by decide +kernel
theorem dL_wrong_28 : decode cL_wrong 28 = .ok (.ireturn, 1) := by decide +kernel
theorem dL_rest_0 : decode cL_rest 0 = .ok (.iconst 0, 1) := by decide +kernel
theorem dL_rest_1 : decode cL_rest 1 = .ok (.istore_n 3, 1) := by decide +kernel
theorem dL_rest_2 : decode cL_rest 2 = .ok (.iconst 0, 1) := by decide +kernel
theorem dL_rest_3 : decode cL_rest 3 = .ok (.istore 4, 2) := by decide +kernel
theorem dL_rest_5 : decode cL_rest 5 = .ok (.iload 4, 2) := by decide +kernel
theorem dL_rest_7 : decode cL_rest 7 = .ok (.iconst 1, 1) := by decide +kernel
theorem dL_rest_8 : decode cL_rest 8 = .ok (.iadd, 1) := by decide +kernel
theorem dL_rest_9 : decode cL_rest 9 = .ok (.aload_n 0, 1) := by decide +kernel
theorem dL_rest_10 : decode cL_rest 10 = .ok (.iload_n 2, 1) := by decide +kernel
theorem dL_rest_11 : decode cL_rest 11 = .ok (.iaload, 1) := by decide +kernel
theorem dL_rest_12 : decode cL_rest 12 = .ok (.if_icmp .ge 33, 3) := by decide +kernel
theorem dL_rest_15 : decode cL_rest 15 = .ok (.iload_n 3, 1) := by decide +kernel
theorem dL_rest_16 : decode cL_rest 16 = .ok (.aload_n 1, 1) := by decide +kernel
theorem dL_rest_17 : decode cL_rest 17 = .ok (.bipush 9, 2) := by decide +kernel
theorem dL_rest_19 : decode cL_rest 19 = .ok (.iload_n 2, 1) := by decide +kernel
theorem dL_rest_20 : decode cL_rest 20 = .ok (.imul, 1) := by decide +kernel
theorem dL_rest_21 : decode cL_rest 21 = .ok (.iload 4, 2) := by decide +kernel
theorem dL_rest_23 : decode cL_rest 23 = .ok (.iadd, 1) := by decide +kernel
theorem dL_rest_24 : decode cL_rest 24 = .ok (.iaload, 1) := by decide +kernel
theorem dL_rest_25 : decode cL_rest 25 = .ok (.aload_n 1, 1) := by decide +kernel
theorem dL_rest_26 : decode cL_rest 26 = .ok (.bipush 9, 2) := by decide +kernel
theorem dL_rest_28 : decode cL_rest 28 = .ok (.iload_n 2, 1) := by decide +kernel
theorem dL_rest_29 : decode cL_rest 29 = .ok (.imul, 1) := by decide +kernel
theorem dL_rest_30 : decode cL_rest 30 = .ok (.iload 4, 2) := by decide +kernel
theorem dL_rest_32 : decode cL_rest 32 = .ok (.iadd, 1) := by decide +kernel
theorem dL_rest_33 : decode cL_rest 33 = .ok (.iconst 1, 1) := by decide +kernel
theorem dL_rest_34 : decode cL_rest 34 = .ok (.iadd, 1) := by decide +kernel
theorem dL_rest_35 : decode cL_rest 35 = .ok (.iaload, 1) := by decide +kernel
theorem dL_rest_36 : decode cL_rest 36 = .ok (.iadd, 1) := by decide +kernel
theorem dL_rest_37 : decode cL_rest 37 = .ok (.iadd, 1) := by decide +kernel
theorem dL_rest_38 : decode cL_rest 38 = .ok (.istore_n 3, 1) := by decide +kernel
theorem dL_rest_39 : decode cL_rest 39 = .ok (.iinc 4 1, 3) := by decide +kernel
theorem dL_rest_42 : decode cL_rest 42 = .ok (.goto (-37), 3) := by decide +kernel
theorem dL_rest_45 : decode cL_rest 45 = .ok (.aload_n 0, 1) := by decide +kernel
theorem dL_rest_46 : decode cL_rest 46 = .ok (.iload_n 2, 1) := by decide +kernel
theorem dL_rest_47 : decode cL_rest 47 = .ok (.iaload, 1) := by decide +kernel
theorem dL_rest_48 : decode cL_rest 48 = .ok (.iconst 3, 1) := by decide +kernel
theorem dL_rest_49 : decode cL_rest 49 = .ok (.if_icmp .ge 8, 3) := by decide +kernel
theorem dL_rest_52 : decode cL_rest 52 = .ok (.ldc 81, 2) := by decide +kernel
theorem dL_rest_54 : decode cL_rest 54 = .ok (.goto 12, 3) := by decide +kernel
theorem dL_rest_57 : decode cL_rest 57 = .ok (.iload_n 3, 1) := by decide +kernel
theorem dL_rest_58 : decode cL_rest 58 = .ok (.iconst 2, 1) := by decide +kernel
theorem dL_rest_59 : decode cL_rest 59 = .ok (.aload_n 0, 1) := by decide +kernel
theorem dL_rest_60 : decode cL_rest 60 = .ok (.iload_n 2, 1) := by decide +kernel
theorem dL_rest_61 : decode cL_rest 61 = .ok (.iaload, 1) := by decide +kernel
theorem dL_rest_62 : decode cL_rest 62 = .ok (.imul, 1) := by decide +kernel
theorem dL_rest_63 : decode cL_rest 63 = .ok (.iconst 2, 1) := by decide +kernel
theorem dL_rest_64 : decode cL_rest 64 = .ok (.isub, 1) := by decide +kernel
theorem dL_rest_65 : decode cL_rest 65 = .ok (.idiv, 1) := by decide +kernel
theorem dL_rest_66 : decode cL_rest 66 = .ok (.ireturn, 1) := by decide +kernel
theorem dL_wires_0 : decode cL_wires 0 = .ok (.aload_n 0, 1) := by decide +kernel
theorem dL_wires_1 : decode cL_wires 1 = .ok (.aload_n 1, 1) := by decide +kernel
theorem dL_wires_2 : decode cL_wires 2 = .ok (.aload_n 2, 1) := by decide +kernel
theorem dL_wires_3 : decode cL_wires 3 = .ok (.aload_n 3, 1) := by decide +kernel
theorem dL_wires_4 : decode cL_wires 4 = .ok (.bipush 6, 2) := by decide +kernel
theorem dL_wires_6 : decode cL_wires 6 = .ok (.iload 4, 2) := by decide +kernel
theorem dL_wires_8 : decode cL_wires 8 = .ok (.imul, 1) := by decide +kernel
theorem dL_wires_9 : decode cL_wires 9 = .ok (.iaload, 1) := by decide +kernel
theorem dL_wires_10 : decode cL_wires 10 = .ok (.invokestatic 82, 3) := by decide +kernel
theorem dL_wires_13 : decode cL_wires 13 = .ok (.istore 5, 2) := by decide +kernel
theorem dL_wires_15 : decode cL_wires 15 = .ok (.iload 5, 2) := by decide +kernel
theorem dL_wires_17 : decode cL_wires 17 = .ok (.ifCond .le 8, 3) := by decide +kernel
theorem dL_wires_20 : decode cL_wires 20 = .ok (.iload 5, 2) := by decide +kernel
theorem dL_wires_22 : decode cL_wires 22 = .ok (.goto 18, 3) := by decide +kernel
theorem dL_wires_25 : decode cL_wires 25 = .ok (.aload_n 0, 1) := by decide +kernel
theorem dL_wires_26 : decode cL_wires 26 = .ok (.aload_n 1, 1) := by decide +kernel
theorem dL_wires_27 : decode cL_wires 27 = .ok (.aload_n 2, 1) := by decide +kernel
theorem dL_wires_28 : decode cL_wires 28 = .ok (.aload_n 3, 1) := by decide +kernel
theorem dL_wires_29 : decode cL_wires 29 = .ok (.bipush 6, 2) := by decide +kernel
theorem dL_wires_31 : decode cL_wires 31 = .ok (.iload 4, 2) := by decide +kernel
theorem dL_wires_33 : decode cL_wires 33 = .ok (.imul, 1) := by decide +kernel
theorem dL_wires_34 : decode cL_wires 34 = .ok (.iconst 1, 1) := by decide +kernel
theorem dL_wires_35 : decode cL_wires 35 = .ok (.iadd, 1) := by decide +kernel
theorem dL_wires_36 : decode cL_wires 36 = .ok (.iaload, 1) := by decide +kernel
theorem dL_wires_37 : decode cL_wires 37 = .ok (.invokestatic 82, 3) := by decide +kernel
theorem dL_wires_40 : decode cL_wires 40 = .ok (.ireturn, 1) := by decide +kernel
theorem dL_joint_0 : decode cL_joint 0 = .ok (.aload_n 0, 1) := by decide +kernel
theorem dL_joint_1 : decode cL_joint 1 = .ok (.aload_n 1, 1) := by decide +kernel
theorem dL_joint_2 : decode cL_joint 2 = .ok (.aload_n 2, 1) := by decide +kernel
theorem dL_joint_3 : decode cL_joint 3 = .ok (.aload_n 3, 1) := by decide +kernel
theorem dL_joint_4 : decode cL_joint 4 = .ok (.iload 4, 2) := by decide +kernel
theorem dL_joint_6 : decode cL_joint 6 = .ok (.invokestatic 86, 3) := by decide +kernel
theorem dL_joint_9 : decode cL_joint 9 = .ok (.ifCond .le 7, 3) := by decide +kernel
theorem dL_joint_12 : decode cL_joint 12 = .ok (.iconst 3, 1) := by decide +kernel
theorem dL_joint_13 : decode cL_joint 13 = .ok (.goto 31, 3) := by decide +kernel
theorem dL_joint_16 : decode cL_joint 16 = .ok (.aload_n 3, 1) := by decide +kernel
theorem dL_joint_17 : decode cL_joint 17 = .ok (.bipush 6, 2) := by decide +kernel
theorem dL_joint_19 : decode cL_joint 19 = .ok (.iload 4, 2) := by decide +kernel
theorem dL_joint_21 : decode cL_joint 21 = .ok (.imul, 1) := by decide +kernel
theorem dL_joint_22 : decode cL_joint 22 = .ok (.iconst 4, 1) := by decide +kernel
theorem dL_joint_23 : decode cL_joint 23 = .ok (.iadd, 1) := by decide +kernel
theorem dL_joint_24 : decode cL_joint 24 = .ok (.iaload, 1) := by decide +kernel
theorem dL_joint_25 : decode cL_joint 25 = .ok (.iconst 3, 1) := by decide +kernel
theorem dL_joint_26 : decode cL_joint 26 = .ok (.aload_n 3, 1) := by decide +kernel
theorem dL_joint_27 : decode cL_joint 27 = .ok (.bipush 6, 2) := by decide +kernel
theorem dL_joint_29 : decode cL_joint 29 = .ok (.iload 4, 2) := by decide +kernel
theorem dL_joint_31 : decode cL_joint 31 = .ok (.imul, 1) := by decide +kernel
theorem dL_joint_32 : decode cL_joint 32 = .ok (.iconst 3, 1) := by decide +kernel
theorem dL_joint_33 : decode cL_joint 33 = .ok (.iadd, 1) := by decide +kernel
theorem dL_joint_34 : decode cL_joint 34 = .ok (.iaload, 1) := by decide +kernel
theorem dL_joint_35 : decode cL_joint 35 = .ok (.imul, 1) := by decide +kernel
theorem dL_joint_36 : decode cL_joint 36 = .ok (.if_icmp .le 7, 3) := by decide +kernel
theorem dL_joint_39 : decode cL_joint 39 = .ok (.iconst 4, 1) := by decide +kernel
theorem dL_joint_40 : decode cL_joint 40 = .ok (.goto 4, 3) := by decide +kernel
theorem dL_joint_43 : decode cL_joint 43 = .ok (.iconst 0, 1) := by decide +kernel
theorem dL_joint_44 : decode cL_joint 44 = .ok (.ireturn, 1) := by decide +kernel
theorem dL_start_0 : decode cL_start 0 = .ok (.aload_n 0, 1) := by decide +kernel
theorem dL_start_1 : decode cL_start 1 = .ok (.aload_n 1, 1) := by decide +kernel
theorem dL_start_2 : decode cL_start 2 = .ok (.aload_n 2, 1) := by decide +kernel
theorem dL_start_3 : decode cL_start 3 = .ok (.bipush 6, 2) := by decide +kernel
theorem dL_start_5 : decode cL_start 5 = .ok (.iload_n 3, 1) := by decide +kernel
theorem dL_start_6 : decode cL_start 6 = .ok (.imul, 1) := by decide +kernel
theorem dL_start_7 : decode cL_start 7 = .ok (.iconst 1, 1) := by decide +kernel
theorem dL_start_8 : decode cL_start 8 = .ok (.iadd, 1) := by decide +kernel
theorem dL_start_9 : decode cL_start 9 = .ok (.iaload, 1) := by decide +kernel
theorem dL_start_10 : decode cL_start 10 = .ok (.invokestatic 90, 3) := by decide +kernel
theorem dL_start_13 : decode cL_start 13 = .ok (.aload_n 0, 1) := by decide +kernel
theorem dL_start_14 : decode cL_start 14 = .ok (.aload_n 1, 1) := by decide +kernel
theorem dL_start_15 : decode cL_start 15 = .ok (.aload_n 2, 1) := by decide +kernel
theorem dL_start_16 : decode cL_start 16 = .ok (.bipush 6, 2) := by decide +kernel
theorem dL_start_18 : decode cL_start 18 = .ok (.iload_n 3, 1) := by decide +kernel
theorem dL_start_19 : decode cL_start 19 = .ok (.imul, 1) := by decide +kernel
theorem dL_start_20 : decode cL_start 20 = .ok (.iaload, 1) := by decide +kernel
theorem dL_start_21 : decode cL_start 21 = .ok (.invokestatic 90, 3) := by decide +kernel
theorem dL_start_24 : decode cL_start 24 = .ok (.isub, 1) := by decide +kernel
theorem dL_start_25 : decode cL_start 25 = .ok (.i2l, 1) := by decide +kernel
theorem dL_start_26 : decode cL_start 26 = .ok (.lstore 4, 2) := by decide +kernel
theorem dL_start_28 : decode cL_start 28 = .ok (.aload_n 2, 1) := by decide +kernel
theorem dL_start_29 : decode cL_start 29 = .ok (.bipush 6, 2) := by decide +kernel
theorem dL_start_31 : decode cL_start 31 = .ok (.iload_n 3, 1) := by decide +kernel
theorem dL_start_32 : decode cL_start 32 = .ok (.imul, 1) := by decide +kernel
theorem dL_start_33 : decode cL_start 33 = .ok (.iconst 5, 1) := by decide +kernel
theorem dL_start_34 : decode cL_start 34 = .ok (.iadd, 1) := by decide +kernel
theorem dL_start_35 : decode cL_start 35 = .ok (.iaload, 1) := by decide +kernel
theorem dL_start_36 : decode cL_start 36 = .ok (.i2l, 1) := by decide +kernel
theorem dL_start_37 : decode cL_start 37 = .ok (.aload_n 2, 1) := by decide +kernel
theorem dL_start_38 : decode cL_start 38 = .ok (.bipush 6, 2) := by decide +kernel
theorem dL_start_40 : decode cL_start 40 = .ok (.iload_n 3, 1) := by decide +kernel
theorem dL_start_41 : decode cL_start 41 = .ok (.imul, 1) := by decide +kernel
theorem dL_start_42 : decode cL_start 42 = .ok (.iconst 4, 1) := by decide +kernel
theorem dL_start_43 : decode cL_start 43 = .ok (.iadd, 1) := by decide +kernel
theorem dL_start_44 : decode cL_start 44 = .ok (.iaload, 1) := by decide +kernel
theorem dL_start_45 : decode cL_start 45 = .ok (.i2l, 1) := by decide +kernel
theorem dL_start_46 : decode cL_start 46 = .ok (.lmul, 1) := by decide +kernel
theorem dL_start_47 : decode cL_start 47 = .ok (.aload_n 2, 1) := by decide +kernel
theorem dL_start_48 : decode cL_start 48 = .ok (.bipush 6, 2) := by decide +kernel
theorem dL_start_50 : decode cL_start 50 = .ok (.iload_n 3, 1) := by decide +kernel
theorem dL_start_51 : decode cL_start 51 = .ok (.imul, 1) := by decide +kernel
theorem dL_start_52 : decode cL_start 52 = .ok (.iconst 3, 1) := by decide +kernel
theorem dL_start_53 : decode cL_start 53 = .ok (.iadd, 1) := by decide +kernel
theorem dL_start_54 : decode cL_start 54 = .ok (.iaload, 1) := by decide +kernel
theorem dL_start_55 : decode cL_start 55 = .ok (.i2l, 1) := by decide +kernel
theorem dL_start_56 : decode cL_start 56 = .ok (.ldiv, 1) := by decide +kernel
theorem dL_start_57 : decode cL_start 57 = .ok (.lstore 6, 2) := by decide +kernel
theorem dL_start_59 : decode cL_start 59 = .ok (.aload_n 2, 1) := by decide +kernel
theorem dL_start_60 : decode cL_start 60 = .ok (.bipush 6, 2) := by decide +kernel
theorem dL_start_62 : decode cL_start 62 = .ok (.iload_n 3, 1) := by decide +kernel
theorem dL_start_63 : decode cL_start 63 = .ok (.imul, 1) := by decide +kernel
theorem dL_start_64 : decode cL_start 64 = .ok (.iconst 2, 1) := by decide +kernel
theorem dL_start_65 : decode cL_start 65 = .ok (.iadd, 1) := by decide +kernel
theorem dL_start_66 : decode cL_start 66 = .ok (.iaload, 1) := by decide +kernel
theorem dL_start_67 : decode cL_start 67 = .ok (.i2l, 1) := by decide +kernel
theorem dL_start_68 : decode cL_start 68 = .ok (.lload 6, 2) := by decide +kernel
theorem dL_start_70 : decode cL_start 70 = .ok (.ladd, 1) := by decide +kernel
theorem dL_start_71 : decode cL_start 71 = .ok (.lload 4, 2) := by decide +kernel
theorem dL_start_73 : decode cL_start 73 = .ok (.ldc2_w 93, 3) := by decide +kernel
theorem dL_start_76 : decode cL_start 76 = .ok (.lmul, 1) := by decide +kernel
theorem dL_start_77 : decode cL_start 77 = .ok (.aload_n 2, 1) := by decide +kernel
theorem dL_start_78 : decode cL_start 78 = .ok (.bipush 6, 2) := by decide +kernel
theorem dL_start_80 : decode cL_start 80 = .ok (.iload_n 3, 1) := by decide +kernel
theorem dL_start_81 : decode cL_start 81 = .ok (.imul, 1) := by decide +kernel
theorem dL_start_82 : decode cL_start 82 = .ok (.iconst 3, 1) := by decide +kernel
theorem dL_start_83 : decode cL_start 83 = .ok (.iadd, 1) := by decide +kernel
theorem dL_start_84 : decode cL_start 84 = .ok (.iaload, 1) := by decide +kernel
theorem dL_start_85 : decode cL_start 85 = .ok (.i2l, 1) := by decide +kernel
theorem dL_start_86 : decode cL_start 86 = .ok (.ldiv, 1) := by decide +kernel
theorem dL_start_87 : decode cL_start 87 = .ok (.ladd, 1) := by decide +kernel
theorem dL_start_88 : decode cL_start 88 = .ok (.invokestatic 61, 3) := by decide +kernel
theorem dL_start_91 : decode cL_start 91 = .ok (.ireturn, 1) := by decide +kernel
theorem dL_bearing_0 : decode cL_bearing 0 = .ok (.aload_n 0, 1) := by decide +kernel
theorem dL_bearing_1 : decode cL_bearing 1 = .ok (.aload_n 1, 1) := by decide +kernel
theorem dL_bearing_2 : decode cL_bearing 2 = .ok (.aload_n 2, 1) := by decide +kernel
theorem dL_bearing_3 : decode cL_bearing 3 = .ok (.aload_n 3, 1) := by decide +kernel
theorem dL_bearing_4 : decode cL_bearing 4 = .ok (.iconst 4, 1) := by decide +kernel
theorem dL_bearing_5 : decode cL_bearing 5 = .ok (.iload 5, 2) := by decide +kernel
theorem dL_bearing_7 : decode cL_bearing 7 = .ok (.imul, 1) := by decide +kernel
theorem dL_bearing_8 : decode cL_bearing 8 = .ok (.iaload, 1) := by decide +kernel
theorem dL_bearing_9 : decode cL_bearing 9 = .ok (.invokestatic 95, 3) := by decide +kernel
theorem dL_bearing_12 : decode cL_bearing 12 = .ok (.i2l, 1) := by decide +kernel
theorem dL_bearing_13 : decode cL_bearing 13 = .ok (.ldc2_w 59, 3) := by decide +kernel
theorem dL_bearing_16 : decode cL_bearing 16 = .ok (.iload 6, 2) := by decide +kernel
theorem dL_bearing_18 : decode cL_bearing 18 = .ok (.i2l, 1) := by decide +kernel
theorem dL_bearing_19 : decode cL_bearing 19 = .ok (.lmul, 1) := by decide +kernel
theorem dL_bearing_20 : decode cL_bearing 20 = .ok (.ladd, 1) := by decide +kernel
theorem dL_bearing_21 : decode cL_bearing 21 = .ok (.lstore 7, 2) := by decide +kernel
theorem dL_bearing_23 : decode cL_bearing 23 = .ok (.iconst 0, 1) := by decide +kernel
theorem dL_bearing_24 : decode cL_bearing 24 = .ok (.istore 9, 2) := by decide +kernel
theorem dL_bearing_26 : decode cL_bearing 26 = .ok (.iload 9, 2) := by decide +kernel
theorem dL_bearing_28 : decode cL_bearing 28 = .ok (.iload 6, 2) := by decide +kernel
theorem dL_bearing_30 : decode cL_bearing 30 = .ok (.if_icmp .gt 51, 3) := by decide +kernel
theorem dL_bearing_33 : decode cL_bearing 33 = .ok (.lload 7, 2) := by decide +kernel
theorem dL_bearing_35 : decode cL_bearing 35 = .ok (.iload 9, 2) := by decide +kernel
theorem dL_bearing_37 : decode cL_bearing 37 = .ok (.aload_n 3, 1) := by decide +kernel
theorem dL_bearing_38 : decode cL_bearing 38 = .ok (.iconst 4, 1) := by decide +kernel
theorem dL_bearing_39 : decode cL_bearing 39 = .ok (.iload 5, 2) := by decide +kernel
theorem dL_bearing_41 : decode cL_bearing 41 = .ok (.imul, 1) := by decide +kernel
theorem dL_bearing_42 : decode cL_bearing 42 = .ok (.iconst 1, 1) := by decide +kernel
theorem dL_bearing_43 : decode cL_bearing 43 = .ok (.iadd, 1) := by decide +kernel
theorem dL_bearing_44 : decode cL_bearing 44 = .ok (.iaload, 1) := by decide +kernel
theorem dL_bearing_45 : decode cL_bearing 45 = .ok (.if_icmp .ne 15, 3) := by decide +kernel
theorem dL_bearing_48 : decode cL_bearing 48 = .ok (.aload_n 3, 1) := by decide +kernel
theorem dL_bearing_49 : decode cL_bearing 49 = .ok (.iconst 4, 1) := by decide +kernel
theorem dL_bearing_50 : decode cL_bearing 50 = .ok (.iload 5, 2) := by decide +kernel
theorem dL_bearing_52 : decode cL_bearing 52 = .ok (.imul, 1) := by decide +kernel
theorem dL_bearing_53 : decode cL_bearing 53 = .ok (.iconst 3, 1) := by decide +kernel
theorem dL_bearing_54 : decode cL_bearing 54 = .ok (.iadd, 1) := by decide +kernel
theorem dL_bearing_55 : decode cL_bearing 55 = .ok (.iaload, 1) := by decide +kernel
theorem dL_bearing_56 : decode cL_bearing 56 = .ok (.i2l, 1) := by decide +kernel
theorem dL_bearing_57 : decode cL_bearing 57 = .ok (.goto 15, 3) := by decide +kernel
theorem dL_bearing_60 : decode cL_bearing 60 = .ok (.aload 4, 2) := by decide +kernel
theorem dL_bearing_62 : decode cL_bearing 62 = .ok (.bipush 12, 2) := by decide +kernel
theorem dL_bearing_64 : decode cL_bearing 64 = .ok (.iload 5, 2) := by decide +kernel
theorem dL_bearing_66 : decode cL_bearing 66 = .ok (.imul, 1) := by decide +kernel
theorem dL_bearing_67 : decode cL_bearing 67 = .ok (.iload 9, 2) := by decide +kernel
theorem dL_bearing_69 : decode cL_bearing 69 = .ok (.iadd, 1) := by decide +kernel
theorem dL_bearing_70 : decode cL_bearing 70 = .ok (.iaload, 1) := by decide +kernel
theorem dL_bearing_71 : decode cL_bearing 71 = .ok (.i2l, 1) := by decide +kernel
theorem dL_bearing_72 : decode cL_bearing 72 = .ok (.ladd, 1) := by decide +kernel
theorem dL_bearing_73 : decode cL_bearing 73 = .ok (.lstore 7, 2) := by decide +kernel
theorem dL_bearing_75 : decode cL_bearing 75 = .ok (.iinc 9 1, 3) := by decide +kernel
theorem dL_bearing_78 : decode cL_bearing 78 = .ok (.goto (-52), 3) := by decide +kernel
theorem dL_bearing_81 : decode cL_bearing 81 = .ok (.lload 7, 2) := by decide +kernel
theorem dL_bearing_83 : decode cL_bearing 83 = .ok (.invokestatic 61, 3) := by decide +kernel
theorem dL_bearing_86 : decode cL_bearing 86 = .ok (.ireturn, 1) := by decide +kernel
theorem dL_gap_0 : decode cL_gap 0 = .ok (.aload_n 0, 1) := by decide +kernel
theorem dL_gap_1 : decode cL_gap 1 = .ok (.aload_n 1, 1) := by decide +kernel
theorem dL_gap_2 : decode cL_gap 2 = .ok (.aload_n 2, 1) := by decide +kernel
theorem dL_gap_3 : decode cL_gap 3 = .ok (.aload_n 3, 1) := by decide +kernel
theorem dL_gap_4 : decode cL_gap 4 = .ok (.aload 4, 2) := by decide +kernel
theorem dL_gap_6 : decode cL_gap 6 = .ok (.iload 5, 2) := by decide +kernel
theorem dL_gap_8 : decode cL_gap 8 = .ok (.aload_n 3, 1) := by decide +kernel
theorem dL_gap_9 : decode cL_gap 9 = .ok (.iconst 4, 1) := by decide +kernel
theorem dL_gap_10 : decode cL_gap 10 = .ok (.iload 5, 2) := by decide +kernel
theorem dL_gap_12 : decode cL_gap 12 = .ok (.imul, 1) := by decide +kernel
theorem dL_gap_13 : decode cL_gap 13 = .ok (.iconst 1, 1) := by decide +kernel
theorem dL_gap_14 : decode cL_gap 14 = .ok (.iadd, 1) := by decide +kernel
theorem dL_gap_15 : decode cL_gap 15 = .ok (.iaload, 1) := by decide +kernel
theorem dL_gap_16 : decode cL_gap 16 = .ok (.invokestatic 98, 3) := by decide +kernel
theorem dL_gap_19 : decode cL_gap 19 = .ok (.aload_n 0, 1) := by decide +kernel
theorem dL_gap_20 : decode cL_gap 20 = .ok (.aload_n 1, 1) := by decide +kernel
theorem dL_gap_21 : decode cL_gap 21 = .ok (.aload_n 2, 1) := by decide +kernel
theorem dL_gap_22 : decode cL_gap 22 = .ok (.aload_n 3, 1) := by decide +kernel
theorem dL_gap_23 : decode cL_gap 23 = .ok (.iconst 4, 1) := by decide +kernel
theorem dL_gap_24 : decode cL_gap 24 = .ok (.iload 5, 2) := by decide +kernel
theorem dL_gap_26 : decode cL_gap 26 = .ok (.imul, 1) := by decide +kernel
theorem dL_gap_27 : decode cL_gap 27 = .ok (.iconst 2, 1) := by decide +kernel
theorem dL_gap_28 : decode cL_gap 28 = .ok (.iadd, 1) := by decide +kernel
theorem dL_gap_29 : decode cL_gap 29 = .ok (.iaload, 1) := by decide +kernel
theorem dL_gap_30 : decode cL_gap 30 = .ok (.invokestatic 95, 3) := by decide +kernel
theorem dL_gap_33 : decode cL_gap 33 = .ok (.isub, 1) := by decide +kernel
theorem dL_gap_34 : decode cL_gap 34 = .ok (.i2l, 1) := by decide +kernel
theorem dL_gap_35 : decode cL_gap 35 = .ok (.invokestatic 102, 3) := by decide +kernel
theorem dL_gap_38 : decode cL_gap 38 = .ok (.ireturn, 1) := by decide +kernel
theorem dL_trouble_0 : decode cL_trouble 0 = .ok (.aload_n 0, 1) := by decide +kernel
theorem dL_trouble_1 : decode cL_trouble 1 = .ok (.aload_n 1, 1) := by decide +kernel
theorem dL_trouble_2 : decode cL_trouble 2 = .ok (.aload_n 2, 1) := by decide +kernel
theorem dL_trouble_3 : decode cL_trouble 3 = .ok (.aload_n 3, 1) := by decide +kernel
theorem dL_trouble_4 : decode cL_trouble 4 = .ok (.aload 4, 2) := by decide +kernel
theorem dL_trouble_6 : decode cL_trouble 6 = .ok (.iconst 4, 1) := by decide +kernel
theorem dL_trouble_7 : decode cL_trouble 7 = .ok (.iload 6, 2) := by decide +kernel
theorem dL_trouble_9 : decode cL_trouble 9 = .ok (.imul, 1) := by decide +kernel
theorem dL_trouble_10 : decode cL_trouble 10 = .ok (.iaload, 1) := by decide +kernel
theorem dL_trouble_11 : decode cL_trouble 11 = .ok (.invokestatic 105, 3) := by decide +kernel
theorem dL_trouble_14 : decode cL_trouble 14 = .ok (.istore 7, 2) := by decide +kernel
theorem dL_trouble_16 : decode cL_trouble 16 = .ok (.aload 4, 2) := by decide +kernel
theorem dL_trouble_18 : decode cL_trouble 18 = .ok (.iconst 4, 1) := by decide +kernel
theorem dL_trouble_19 : decode cL_trouble 19 = .ok (.iload 6, 2) := by decide +kernel
theorem dL_trouble_21 : decode cL_trouble 21 = .ok (.imul, 1) := by decide +kernel
theorem dL_trouble_22 : decode cL_trouble 22 = .ok (.iconst 2, 1) := by decide +kernel
theorem dL_trouble_23 : decode cL_trouble 23 = .ok (.iadd, 1) := by decide +kernel
theorem dL_trouble_24 : decode cL_trouble 24 = .ok (.iaload, 1) := by decide +kernel
theorem dL_trouble_25 : decode cL_trouble 25 = .ok (.ifCond .lt 7, 3) := by decide +kernel
theorem dL_trouble_28 : decode cL_trouble 28 = .ok (.iconst 1, 1) := by decide +kernel
theorem dL_trouble_29 : decode cL_trouble 29 = .ok (.goto 4, 3) := by decide +kernel
theorem dL_trouble_32 : decode cL_trouble 32 = .ok (.iconst 0, 1) := by decide +kernel
theorem dL_trouble_33 : decode cL_trouble 33 = .ok (.istore 8, 2) := by decide +kernel
theorem dL_trouble_35 : decode cL_trouble 35 = .ok (.aload 4, 2) := by decide +kernel
theorem dL_trouble_37 : decode cL_trouble 37 = .ok (.iconst 4, 1) := by decide +kernel
theorem dL_trouble_38 : decode cL_trouble 38 = .ok (.iload 6, 2) := by decide +kernel
theorem dL_trouble_40 : decode cL_trouble 40 = .ok (.imul, 1) := by decide +kernel
theorem dL_trouble_41 : decode cL_trouble 41 = .ok (.iconst 1, 1) := by decide +kernel
theorem dL_trouble_42 : decode cL_trouble 42 = .ok (.iadd, 1) := by decide +kernel
theorem dL_trouble_43 : decode cL_trouble 43 = .ok (.iaload, 1) := by decide +kernel
theorem dL_trouble_44 : decode cL_trouble 44 = .ok (.ifCond .ne 7, 3) := by decide +kernel
theorem dL_trouble_47 : decode cL_trouble 47 = .ok (.iconst 5, 1) := by decide +kernel
theorem dL_trouble_48 : decode cL_trouble 48 = .ok (.goto 89, 3) := by decide +kernel
theorem dL_trouble_51 : decode cL_trouble 51 = .ok (.iload 7, 2) := by decide +kernel
theorem dL_trouble_53 : decode cL_trouble 53 = .ok (.ifCond .le 8, 3) := by decide +kernel
theorem dL_trouble_56 : decode cL_trouble 56 = .ok (.bipush 6, 2) := by decide +kernel
theorem dL_trouble_58 : decode cL_trouble 58 = .ok (.goto 79, 3) := by decide +kernel
theorem dL_trouble_61 : decode cL_trouble 61 = .ok (.iload 8, 2) := by decide +kernel
theorem dL_trouble_63 : decode cL_trouble 63 = .ok (.ifCond .ne 7, 3) := by decide +kernel
theorem dL_trouble_66 : decode cL_trouble 66 = .ok (.iconst 0, 1) := by decide +kernel
theorem dL_trouble_67 : decode cL_trouble 67 = .ok (.goto 70, 3) := by decide +kernel
theorem dL_trouble_70 : decode cL_trouble 70 = .ok (.aload_n 0, 1) := by decide +kernel
theorem dL_trouble_71 : decode cL_trouble 71 = .ok (.aload_n 1, 1) := by decide +kernel
theorem dL_trouble_72 : decode cL_trouble 72 = .ok (.aload_n 2, 1) := by decide +kernel
theorem dL_trouble_73 : decode cL_trouble 73 = .ok (.aload_n 3, 1) := by decide +kernel
theorem dL_trouble_74 : decode cL_trouble 74 = .ok (.aload 4, 2) := by decide +kernel
theorem dL_trouble_76 : decode cL_trouble 76 = .ok (.iconst 4, 1) := by decide +kernel
theorem dL_trouble_77 : decode cL_trouble 77 = .ok (.iload 6, 2) := by decide +kernel
theorem dL_trouble_79 : decode cL_trouble 79 = .ok (.imul, 1) := by decide +kernel
theorem dL_trouble_80 : decode cL_trouble 80 = .ok (.iconst 2, 1) := by decide +kernel
theorem dL_trouble_81 : decode cL_trouble 81 = .ok (.iadd, 1) := by decide +kernel
theorem dL_trouble_82 : decode cL_trouble 82 = .ok (.iaload, 1) := by decide +kernel
theorem dL_trouble_83 : decode cL_trouble 83 = .ok (.invokestatic 105, 3) := by decide +kernel
theorem dL_trouble_86 : decode cL_trouble 86 = .ok (.ifCond .le 8, 3) := by decide +kernel
theorem dL_trouble_89 : decode cL_trouble 89 = .ok (.bipush 7, 2) := by decide +kernel
theorem dL_trouble_91 : decode cL_trouble 91 = .ok (.goto 46, 3) := by decide +kernel
theorem dL_trouble_94 : decode cL_trouble 94 = .ok (.aload_n 1, 1) := by decide +kernel
theorem dL_trouble_95 : decode cL_trouble 95 = .ok (.aload_n 2, 1) := by decide +kernel
theorem dL_trouble_96 : decode cL_trouble 96 = .ok (.aload_n 3, 1) := by decide +kernel
theorem dL_trouble_97 : decode cL_trouble 97 = .ok (.aload 4, 2) := by decide +kernel
theorem dL_trouble_99 : decode cL_trouble 99 = .ok (.aload 5, 2) := by decide +kernel
theorem dL_trouble_101 : decode cL_trouble 101 = .ok (.iload 6, 2) := by decide +kernel
theorem dL_trouble_103 : decode cL_trouble 103 = .ok (.invokestatic 108, 3) := by decide +kernel
theorem dL_trouble_106 : decode cL_trouble 106 = .ok (.invokestatic 74, 3) := by decide +kernel
theorem dL_trouble_109 : decode cL_trouble 109 = .ok (.aload_n 0, 1) := by decide +kernel
theorem dL_trouble_110 : decode cL_trouble 110 = .ok (.iconst 1, 1) := by decide +kernel
theorem dL_trouble_111 : decode cL_trouble 111 = .ok (.iaload, 1) := by decide +kernel
theorem dL_trouble_112 : decode cL_trouble 112 = .ok (.aload 4, 2) := by decide +kernel
theorem dL_trouble_114 : decode cL_trouble 114 = .ok (.iconst 4, 1) := by decide +kernel
theorem dL_trouble_115 : decode cL_trouble 115 = .ok (.iload 6, 2) := by decide +kernel
theorem dL_trouble_117 : decode cL_trouble 117 = .ok (.imul, 1) := by decide +kernel
theorem dL_trouble_118 : decode cL_trouble 118 = .ok (.iconst 1, 1) := by decide +kernel
theorem dL_trouble_119 : decode cL_trouble 119 = .ok (.iadd, 1) := by decide +kernel
theorem dL_trouble_120 : decode cL_trouble 120 = .ok (.iaload, 1) := by decide +kernel
theorem dL_trouble_121 : decode cL_trouble 121 = .ok (.i2l, 1) := by decide +kernel
theorem dL_trouble_122 : decode cL_trouble 122 = .ok (.lconst 1, 1) := by decide +kernel
theorem dL_trouble_123 : decode cL_trouble 123 = .ok (.ladd, 1) := by decide +kernel
theorem dL_trouble_124 : decode cL_trouble 124 = .ok (.invokestatic 112, 3) := by decide +kernel
theorem dL_trouble_127 : decode cL_trouble 127 = .ok (.imul, 1) := by decide +kernel
theorem dL_trouble_128 : decode cL_trouble 128 = .ok (.if_icmp .le 8, 3) := by decide +kernel
theorem dL_trouble_131 : decode cL_trouble 131 = .ok (.bipush 8, 2) := by decide +kernel
theorem dL_trouble_133 : decode cL_trouble 133 = .ok (.goto 4, 3) := by decide +kernel
theorem dL_trouble_136 : decode cL_trouble 136 = .ok (.iconst 0, 1) := by decide +kernel
theorem dL_trouble_137 : decode cL_trouble 137 = .ok (.ireturn, 1) := by decide +kernel
theorem dL_end_0 : decode cL_end 0 = .ok (.aload_n 0, 1) := by decide +kernel
theorem dL_end_1 : decode cL_end 1 = .ok (.iconst 2, 1) := by decide +kernel
theorem dL_end_2 : decode cL_end 2 = .ok (.aload_n 3, 1) := by decide +kernel
theorem dL_end_3 : decode cL_end 3 = .ok (.bipush 6, 2) := by decide +kernel
theorem dL_end_5 : decode cL_end 5 = .ok (.aload 4, 2) := by decide +kernel
theorem dL_end_7 : decode cL_end 7 = .ok (.iconst 4, 1) := by decide +kernel
theorem dL_end_8 : decode cL_end 8 = .ok (.iload 7, 2) := by decide +kernel
theorem dL_end_10 : decode cL_end 10 = .ok (.imul, 1) := by decide +kernel
theorem dL_end_11 : decode cL_end 11 = .ok (.iaload, 1) := by decide +kernel
theorem dL_end_12 : decode cL_end 12 = .ok (.imul, 1) := by decide +kernel
theorem dL_end_13 : decode cL_end 13 = .ok (.iaload, 1) := by decide +kernel
theorem dL_end_14 : decode cL_end 14 = .ok (.imul, 1) := by decide +kernel
theorem dL_end_15 : decode cL_end 15 = .ok (.iload 9, 2) := by decide +kernel
theorem dL_end_17 : decode cL_end 17 = .ok (.iadd, 1) := by decide +kernel
theorem dL_end_18 : decode cL_end 18 = .ok (.iaload, 1) := by decide +kernel
theorem dL_end_19 : decode cL_end 19 = .ok (.istore 10, 2) := by decide +kernel
theorem dL_end_21 : decode cL_end 21 = .ok (.iconst 0, 1) := by decide +kernel
theorem dL_end_22 : decode cL_end 22 = .ok (.istore 11, 2) := by decide +kernel
theorem dL_end_24 : decode cL_end 24 = .ok (.iload 11, 2) := by decide +kernel
theorem dL_end_26 : decode cL_end 26 = .ok (.iload 8, 2) := by decide +kernel
theorem dL_end_28 : decode cL_end 28 = .ok (.if_icmp .gt 62, 3) := by decide +kernel
theorem dL_end_31 : decode cL_end 31 = .ok (.aload_n 1, 1) := by decide +kernel
theorem dL_end_32 : decode cL_end 32 = .ok (.aload_n 2, 1) := by decide +kernel
theorem dL_end_33 : decode cL_end 33 = .ok (.aload_n 3, 1) := by decide +kernel
theorem dL_end_34 : decode cL_end 34 = .ok (.aload 4, 2) := by decide +kernel
theorem dL_end_36 : decode cL_end 36 = .ok (.aload 5, 2) := by decide +kernel
theorem dL_end_38 : decode cL_end 38 = .ok (.iload 7, 2) := by decide +kernel
theorem dL_end_40 : decode cL_end 40 = .ok (.iload 11, 2) := by decide +kernel
theorem dL_end_42 : decode cL_end 42 = .ok (.invokestatic 98, 3) := by decide +kernel
theorem dL_end_45 : decode cL_end 45 = .ok (.i2l, 1) := by decide +kernel
theorem dL_end_46 : decode cL_end 46 = .ok (.ldc2_w 115, 3) := by decide +kernel
theorem dL_end_49 : decode cL_end 49 = .ok (.iload 9, 2) := by decide +kernel
theorem dL_end_51 : decode cL_end 51 = .ok (.i2l, 1) := by decide +kernel
theorem dL_end_52 : decode cL_end 52 = .ok (.lmul, 1) := by decide +kernel
theorem dL_end_53 : decode cL_end 53 = .ok (.ladd, 1) := by decide +kernel
theorem dL_end_54 : decode cL_end 54 = .ok (.lstore 12, 2) := by decide +kernel
theorem dL_end_56 : decode cL_end 56 = .ok (.iload 10, 2) := by decide +kernel
theorem dL_end_58 : decode cL_end 58 = .ok (.aload 6, 2) := by decide +kernel
theorem dL_end_60 : decode cL_end 60 = .ok (.bipush 12, 2) := by decide +kernel
theorem dL_end_62 : decode cL_end 62 = .ok (.iload 7, 2) := by decide +kernel
theorem dL_end_64 : decode cL_end 64 = .ok (.imul, 1) := by decide +kernel
theorem dL_end_65 : decode cL_end 65 = .ok (.iload 11, 2) := by decide +kernel
theorem dL_end_67 : decode cL_end 67 = .ok (.iadd, 1) := by decide +kernel
theorem dL_end_68 : decode cL_end 68 = .ok (.iaload, 1) := by decide +kernel
theorem dL_end_69 : decode cL_end 69 = .ok (.i2l, 1) := by decide +kernel
theorem dL_end_70 : decode cL_end 70 = .ok (.lload 12, 2) := by decide +kernel
theorem dL_end_72 : decode cL_end 72 = .ok (.invokestatic 117, 3) := by decide +kernel
theorem dL_end_75 : decode cL_end 75 = .ok (.lmul, 1) := by decide +kernel
theorem dL_end_76 : decode cL_end 76 = .ok (.ldc2_w 121, 3) := by decide +kernel
theorem dL_end_79 : decode cL_end 79 = .ok (.ldiv, 1) := by decide +kernel
theorem dL_end_80 : decode cL_end 80 = .ok (.l2i, 1) := by decide +kernel
theorem dL_end_81 : decode cL_end 81 = .ok (.iadd, 1) := by decide +kernel
theorem dL_end_82 : decode cL_end 82 = .ok (.istore 10, 2) := by decide +kernel
theorem dL_end_84 : decode cL_end 84 = .ok (.iinc 11 1, 3) := by decide +kernel
theorem dL_end_87 : decode cL_end 87 = .ok (.goto (-63), 3) := by decide +kernel
theorem dL_end_90 : decode cL_end 90 = .ok (.iload 10, 2) := by decide +kernel
theorem dL_end_92 : decode cL_end 92 = .ok (.ireturn, 1) := by decide +kernel
theorem dL_whole_0 : decode cL_whole 0 = .ok (.aload 4, 2) := by decide +kernel
theorem dL_whole_2 : decode cL_whole 2 = .ok (.iconst 4, 1) := by decide +kernel
theorem dL_whole_3 : decode cL_whole 3 = .ok (.iload 6, 2) := by decide +kernel
theorem dL_whole_5 : decode cL_whole 5 = .ok (.imul, 1) := by decide +kernel
theorem dL_whole_6 : decode cL_whole 6 = .ok (.iconst 2, 1) := by decide +kernel
theorem dL_whole_7 : decode cL_whole 7 = .ok (.iadd, 1) := by decide +kernel
theorem dL_whole_8 : decode cL_whole 8 = .ok (.iaload, 1) := by decide +kernel
theorem dL_whole_9 : decode cL_whole 9 = .ok (.ifCond .lt 26, 3) := by decide +kernel
theorem dL_whole_12 : decode cL_whole 12 = .ok (.aload_n 0, 1) := by decide +kernel
theorem dL_whole_13 : decode cL_whole 13 = .ok (.aload_n 1, 1) := by decide +kernel
theorem dL_whole_14 : decode cL_whole 14 = .ok (.aload_n 2, 1) := by decide +kernel
theorem dL_whole_15 : decode cL_whole 15 = .ok (.aload_n 3, 1) := by decide +kernel
theorem dL_whole_16 : decode cL_whole 16 = .ok (.aload 4, 2) := by decide +kernel
theorem dL_whole_18 : decode cL_whole 18 = .ok (.aload 5, 2) := by decide +kernel
theorem dL_whole_20 : decode cL_whole 20 = .ok (.iload 6, 2) := by decide +kernel
theorem dL_whole_22 : decode cL_whole 22 = .ok (.invokestatic 123, 3) := by decide +kernel
theorem dL_whole_25 : decode cL_whole 25 = .ok (.bipush 8, 2) := by decide +kernel
theorem dL_whole_27 : decode cL_whole 27 = .ok (.irem, 1) := by decide +kernel
theorem dL_whole_28 : decode cL_whole 28 = .ok (.ifCond .ne 7, 3) := by decide +kernel
theorem dL_whole_31 : decode cL_whole 31 = .ok (.iconst 1, 1) := by decide +kernel
theorem dL_whole_32 : decode cL_whole 32 = .ok (.goto 4, 3) := by decide +kernel
theorem dL_whole_35 : decode cL_whole 35 = .ok (.iconst 0, 1) := by decide +kernel
theorem dL_whole_36 : decode cL_whole 36 = .ok (.ireturn, 1) := by decide +kernel
theorem dL_miss_0 : decode cL_miss 0 = .ok (.aload_n 0, 1) := by decide +kernel
theorem dL_miss_1 : decode cL_miss 1 = .ok (.aload_n 1, 1) := by decide +kernel
theorem dL_miss_2 : decode cL_miss 2 = .ok (.aload_n 2, 1) := by decide +kernel
theorem dL_miss_3 : decode cL_miss 3 = .ok (.aload_n 3, 1) := by decide +kernel
theorem dL_miss_4 : decode cL_miss 4 = .ok (.aload 4, 2) := by decide +kernel
theorem dL_miss_6 : decode cL_miss 6 = .ok (.aload 5, 2) := by decide +kernel
theorem dL_miss_8 : decode cL_miss 8 = .ok (.aload 6, 2) := by decide +kernel
theorem dL_miss_10 : decode cL_miss 10 = .ok (.iload 7, 2) := by decide +kernel
theorem dL_miss_12 : decode cL_miss 12 = .ok (.aload 4, 2) := by decide +kernel
theorem dL_miss_14 : decode cL_miss 14 = .ok (.iconst 4, 1) := by decide +kernel
theorem dL_miss_15 : decode cL_miss 15 = .ok (.iload 7, 2) := by decide +kernel
theorem dL_miss_17 : decode cL_miss 17 = .ok (.imul, 1) := by decide +kernel
theorem dL_miss_18 : decode cL_miss 18 = .ok (.iconst 1, 1) := by decide +kernel
theorem dL_miss_19 : decode cL_miss 19 = .ok (.iadd, 1) := by decide +kernel
theorem dL_miss_20 : decode cL_miss 20 = .ok (.iaload, 1) := by decide +kernel
theorem dL_miss_21 : decode cL_miss 21 = .ok (.iconst 1, 1) := by decide +kernel
theorem dL_miss_22 : decode cL_miss 22 = .ok (.isub, 1) := by decide +kernel
theorem dL_miss_23 : decode cL_miss 23 = .ok (.iload 8, 2) := by decide +kernel
theorem dL_miss_25 : decode cL_miss 25 = .ok (.invokestatic 127, 3) := by decide +kernel
theorem dL_miss_28 : decode cL_miss 28 = .ok (.aload_n 0, 1) := by decide +kernel
theorem dL_miss_29 : decode cL_miss 29 = .ok (.iconst 2, 1) := by decide +kernel
theorem dL_miss_30 : decode cL_miss 30 = .ok (.aload_n 3, 1) := by decide +kernel
theorem dL_miss_31 : decode cL_miss 31 = .ok (.bipush 6, 2) := by decide +kernel
theorem dL_miss_33 : decode cL_miss 33 = .ok (.aload 4, 2) := by decide +kernel
theorem dL_miss_35 : decode cL_miss 35 = .ok (.iconst 4, 1) := by decide +kernel
theorem dL_miss_36 : decode cL_miss 36 = .ok (.iload 7, 2) := by decide +kernel
theorem dL_miss_38 : decode cL_miss 38 = .ok (.imul, 1) := by decide +kernel
theorem dL_miss_39 : decode cL_miss 39 = .ok (.iconst 2, 1) := by decide +kernel
theorem dL_miss_40 : decode cL_miss 40 = .ok (.iadd, 1) := by decide +kernel
theorem dL_miss_41 : decode cL_miss 41 = .ok (.iaload, 1) := by decide +kernel
theorem dL_miss_42 : decode cL_miss 42 = .ok (.imul, 1) := by decide +kernel
theorem dL_miss_43 : decode cL_miss 43 = .ok (.iaload, 1) := by decide +kernel
theorem dL_miss_44 : decode cL_miss 44 = .ok (.imul, 1) := by decide +kernel
theorem dL_miss_45 : decode cL_miss 45 = .ok (.iload 8, 2) := by decide +kernel
theorem dL_miss_47 : decode cL_miss 47 = .ok (.iadd, 1) := by decide +kernel
theorem dL_miss_48 : decode cL_miss 48 = .ok (.iaload, 1) := by decide +kernel
theorem dL_miss_49 : decode cL_miss 49 = .ok (.isub, 1) := by decide +kernel
theorem dL_miss_50 : decode cL_miss 50 = .ok (.ireturn, 1) := by decide +kernel
theorem dL_adjust_0 : decode cL_adjust 0 = .ok (.aload_n 0, 1) := by decide +kernel
theorem dL_adjust_1 : decode cL_adjust 1 = .ok (.aload_n 1, 1) := by decide +kernel
theorem dL_adjust_2 : decode cL_adjust 2 = .ok (.aload_n 2, 1) := by decide +kernel
theorem dL_adjust_3 : decode cL_adjust 3 = .ok (.aload_n 3, 1) := by decide +kernel
theorem dL_adjust_4 : decode cL_adjust 4 = .ok (.aload 4, 2) := by decide +kernel
theorem dL_adjust_6 : decode cL_adjust 6 = .ok (.iload 6, 2) := by decide +kernel
theorem dL_adjust_8 : decode cL_adjust 8 = .ok (.invokestatic 108, 3) := by decide +kernel
theorem dL_adjust_11 : decode cL_adjust 11 = .ok (.istore 7, 2) := by decide +kernel
theorem dL_adjust_13 : decode cL_adjust 13 = .ok (.aload_n 3, 1) := by decide +kernel
theorem dL_adjust_14 : decode cL_adjust 14 = .ok (.iconst 4, 1) := by decide +kernel
theorem dL_adjust_15 : decode cL_adjust 15 = .ok (.iload 6, 2) := by decide +kernel
theorem dL_adjust_17 : decode cL_adjust 17 = .ok (.imul, 1) := by decide +kernel
theorem dL_adjust_18 : decode cL_adjust 18 = .ok (.iconst 1, 1) := by decide +kernel
theorem dL_adjust_19 : decode cL_adjust 19 = .ok (.iadd, 1) := by decide +kernel
theorem dL_adjust_20 : decode cL_adjust 20 = .ok (.iaload, 1) := by decide +kernel
theorem dL_adjust_21 : decode cL_adjust 21 = .ok (.istore 8, 2) := by decide +kernel
theorem dL_adjust_23 : decode cL_adjust 23 = .ok (.iload 7, 2) := by decide +kernel
theorem dL_adjust_25 : decode cL_adjust 25 = .ok (.iload 8, 2) := by decide +kernel
theorem dL_adjust_27 : decode cL_adjust 27 = .ok (.iconst 1, 1) := by decide +kernel
theorem dL_adjust_28 : decode cL_adjust 28 = .ok (.iadd, 1) := by decide +kernel
theorem dL_adjust_29 : decode cL_adjust 29 = .ok (.idiv, 1) := by decide +kernel
theorem dL_adjust_30 : decode cL_adjust 30 = .ok (.istore 9, 2) := by decide +kernel
theorem dL_adjust_32 : decode cL_adjust 32 = .ok (.iload 7, 2) := by decide +kernel
theorem dL_adjust_34 : decode cL_adjust 34 = .ok (.iload 8, 2) := by decide +kernel
theorem dL_adjust_36 : decode cL_adjust 36 = .ok (.iconst 1, 1) := by decide +kernel
theorem dL_adjust_37 : decode cL_adjust 37 = .ok (.iadd, 1) := by decide +kernel
theorem dL_adjust_38 : decode cL_adjust 38 = .ok (.irem, 1) := by decide +kernel
theorem dL_adjust_39 : decode cL_adjust 39 = .ok (.istore 10, 2) := by decide +kernel
theorem dL_adjust_41 : decode cL_adjust 41 = .ok (.aload_n 3, 1) := by decide +kernel
theorem dL_adjust_42 : decode cL_adjust 42 = .ok (.iconst 4, 1) := by decide +kernel
theorem dL_adjust_43 : decode cL_adjust 43 = .ok (.iload 6, 2) := by decide +kernel
theorem dL_adjust_45 : decode cL_adjust 45 = .ok (.imul, 1) := by decide +kernel
theorem dL_adjust_46 : decode cL_adjust 46 = .ok (.iconst 3, 1) := by decide +kernel
theorem dL_adjust_47 : decode cL_adjust 47 = .ok (.iadd, 1) := by decide +kernel
theorem dL_adjust_48 : decode cL_adjust 48 = .ok (.aload_n 3, 1) := by decide +kernel
theorem dL_adjust_49 : decode cL_adjust 49 = .ok (.iconst 4, 1) := by decide +kernel
theorem dL_adjust_50 : decode cL_adjust 50 = .ok (.iload 6, 2) := by decide +kernel
theorem dL_adjust_52 : decode cL_adjust 52 = .ok (.imul, 1) := by decide +kernel
theorem dL_adjust_53 : decode cL_adjust 53 = .ok (.iconst 3, 1) := by decide +kernel
theorem dL_adjust_54 : decode cL_adjust 54 = .ok (.iadd, 1) := by decide +kernel
theorem dL_adjust_55 : decode cL_adjust 55 = .ok (.iaload, 1) := by decide +kernel
theorem dL_adjust_56 : decode cL_adjust 56 = .ok (.iload 9, 2) := by decide +kernel
theorem dL_adjust_58 : decode cL_adjust 58 = .ok (.isub, 1) := by decide +kernel
theorem dL_adjust_59 : decode cL_adjust 59 = .ok (.i2l, 1) := by decide +kernel
theorem dL_adjust_60 : decode cL_adjust 60 = .ok (.invokestatic 61, 3) := by decide +kernel
theorem dL_adjust_63 : decode cL_adjust 63 = .ok (.iastore, 1) := by decide +kernel
theorem dL_adjust_64 : decode cL_adjust 64 = .ok (.lconst 0, 1) := by decide +kernel
theorem dL_adjust_65 : decode cL_adjust 65 = .ok (.lstore 11, 2) := by decide +kernel
theorem dL_adjust_67 : decode cL_adjust 67 = .ok (.iconst 0, 1) := by decide +kernel
theorem dL_adjust_68 : decode cL_adjust 68 = .ok (.istore 13, 2) := by decide +kernel
theorem dL_adjust_70 : decode cL_adjust 70 = .ok (.iload 13, 2) := by decide +kernel
theorem dL_adjust_72 : decode cL_adjust 72 = .ok (.iload 8, 2) := by decide +kernel
theorem dL_adjust_74 : decode cL_adjust 74 = .ok (.if_icmp .ge 144, 3) := by decide +kernel
theorem dL_adjust_77 : decode cL_adjust 77 = .ok (.iconst (-1), 1) := by decide +kernel
theorem dL_adjust_78 : decode cL_adjust 78 = .ok (.istore 14, 2) := by decide +kernel
theorem dL_adjust_80 : decode cL_adjust 80 = .ok (.iconst 0, 1) := by decide +kernel
theorem dL_adjust_81 : decode cL_adjust 81 = .ok (.istore 15, 2) := by decide +kernel
theorem dL_adjust_83 : decode cL_adjust 83 = .ok (.iload 15, 2) := by decide +kernel
theorem dL_adjust_85 : decode cL_adjust 85 = .ok (.iload 8, 2) := by decide +kernel
theorem dL_adjust_87 : decode cL_adjust 87 = .ok (.if_icmp .ge 60, 3) := by decide +kernel
theorem dL_adjust_90 : decode cL_adjust 90 = .ok (.lload 11, 2) := by decide +kernel
theorem dL_adjust_92 : decode cL_adjust 92 = .ok (.iload 15, 2) := by decide +kernel
theorem dL_adjust_94 : decode cL_adjust 94 = .ok (.lshr, 1) := by decide +kernel
theorem dL_adjust_95 : decode cL_adjust 95 = .ok (.lconst 1, 1) := by decide +kernel
theorem dL_adjust_96 : decode cL_adjust 96 = .ok (.land, 1) := by decide +kernel
theorem dL_adjust_97 : decode cL_adjust 97 = .ok (.lconst 0, 1) := by decide +kernel
theorem dL_adjust_98 : decode cL_adjust 98 = .ok (.lcmp, 1) := by decide +kernel
theorem dL_adjust_99 : decode cL_adjust 99 = .ok (.ifCond .ne 38, 3) := by decide +kernel
theorem dL_adjust_102 : decode cL_adjust 102 = .ok (.iload 14, 2) := by decide +kernel
theorem dL_adjust_104 : decode cL_adjust 104 = .ok (.ifCond .lt 28, 3) := by decide +kernel
theorem dL_adjust_107 : decode cL_adjust 107 = .ok (.aload 5, 2) := by decide +kernel
theorem dL_adjust_109 : decode cL_adjust 109 = .ok (.bipush 12, 2) := by decide +kernel
theorem dL_adjust_111 : decode cL_adjust 111 = .ok (.iload 6, 2) := by decide +kernel
theorem dL_adjust_113 : decode cL_adjust 113 = .ok (.imul, 1) := by decide +kernel
theorem dL_adjust_114 : decode cL_adjust 114 = .ok (.iload 15, 2) := by decide +kernel
theorem dL_adjust_116 : decode cL_adjust 116 = .ok (.iadd, 1) := by decide +kernel
theorem dL_adjust_117 : decode cL_adjust 117 = .ok (.iaload, 1) := by decide +kernel
theorem dL_adjust_118 : decode cL_adjust 118 = .ok (.aload 5, 2) := by decide +kernel
theorem dL_adjust_120 : decode cL_adjust 120 = .ok (.bipush 12, 2) := by decide +kernel
theorem dL_adjust_122 : decode cL_adjust 122 = .ok (.iload 6, 2) := by decide +kernel
theorem dL_adjust_124 : decode cL_adjust 124 = .ok (.imul, 1) := by decide +kernel
theorem dL_adjust_125 : decode cL_adjust 125 = .ok (.iload 14, 2) := by decide +kernel
theorem dL_adjust_127 : decode cL_adjust 127 = .ok (.iadd, 1) := by decide +kernel
theorem dL_adjust_128 : decode cL_adjust 128 = .ok (.iaload, 1) := by decide +kernel
theorem dL_adjust_129 : decode cL_adjust 129 = .ok (.if_icmp .le 8, 3) := by decide +kernel
theorem dL_adjust_132 : decode cL_adjust 132 = .ok (.iload 15, 2) := by decide +kernel
theorem dL_adjust_134 : decode cL_adjust 134 = .ok (.goto 5, 3) := by decide +kernel
theorem dL_adjust_137 : decode cL_adjust 137 = .ok (.iload 14, 2) := by decide +kernel
theorem dL_adjust_139 : decode cL_adjust 139 = .ok (.istore 14, 2) := by decide +kernel
theorem dL_adjust_141 : decode cL_adjust 141 = .ok (.iinc 15 1, 3) := by decide +kernel
theorem dL_adjust_144 : decode cL_adjust 144 = .ok (.goto (-61), 3) := by decide +kernel
theorem dL_adjust_147 : decode cL_adjust 147 = .ok (.lload 11, 2) := by decide +kernel
theorem dL_adjust_149 : decode cL_adjust 149 = .ok (.lconst 1, 1) := by decide +kernel
theorem dL_adjust_150 : decode cL_adjust 150 = .ok (.iload 14, 2) := by decide +kernel
theorem dL_adjust_152 : decode cL_adjust 152 = .ok (.lshl, 1) := by decide +kernel
theorem dL_adjust_153 : decode cL_adjust 153 = .ok (.lor, 1) := by decide +kernel
theorem dL_adjust_154 : decode cL_adjust 154 = .ok (.lstore 11, 2) := by decide +kernel
theorem dL_adjust_156 : decode cL_adjust 156 = .ok (.aload 4, 2) := by decide +kernel
theorem dL_adjust_158 : decode cL_adjust 158 = .ok (.bipush 12, 2) := by decide +kernel
theorem dL_adjust_160 : decode cL_adjust 160 = .ok (.iload 6, 2) := by decide +kernel
theorem dL_adjust_162 : decode cL_adjust 162 = .ok (.imul, 1) := by decide +kernel
theorem dL_adjust_163 : decode cL_adjust 163 = .ok (.iload 14, 2) := by decide +kernel
theorem dL_adjust_165 : decode cL_adjust 165 = .ok (.iadd, 1) := by decide +kernel
theorem dL_adjust_166 : decode cL_adjust 166 = .ok (.aload 4, 2) := by decide +kernel
theorem dL_adjust_168 : decode cL_adjust 168 = .ok (.bipush 12, 2) := by decide +kernel
theorem dL_adjust_170 : decode cL_adjust 170 = .ok (.iload 6, 2) := by decide +kernel
theorem dL_adjust_172 : decode cL_adjust 172 = .ok (.imul, 1) := by decide +kernel
theorem dL_adjust_173 : decode cL_adjust 173 = .ok (.iload 14, 2) := by decide +kernel
theorem dL_adjust_175 : decode cL_adjust 175 = .ok (.iadd, 1) := by decide +kernel
theorem dL_adjust_176 : decode cL_adjust 176 = .ok (.iaload, 1) := by decide +kernel
theorem dL_adjust_177 : decode cL_adjust 177 = .ok (.i2l, 1) := by decide +kernel
theorem dL_adjust_178 : decode cL_adjust 178 = .ok (.iload 9, 2) := by decide +kernel
theorem dL_adjust_180 : decode cL_adjust 180 = .ok (.i2l, 1) := by decide +kernel
theorem dL_adjust_181 : decode cL_adjust 181 = .ok (.lsub, 1) := by decide +kernel
theorem dL_adjust_182 : decode cL_adjust 182 = .ok (.iload 13, 2) := by decide +kernel
theorem dL_adjust_184 : decode cL_adjust 184 = .ok (.iload 10, 2) := by decide +kernel
theorem dL_adjust_186 : decode cL_adjust 186 = .ok (.if_icmp .ge 7, 3) := by decide +kernel
theorem dL_adjust_189 : decode cL_adjust 189 = .ok (.iconst 1, 1) := by decide +kernel
theorem dL_adjust_190 : decode cL_adjust 190 = .ok (.goto 16, 3) := by decide +kernel
theorem dL_adjust_193 : decode cL_adjust 193 = .ok (.iload 13, 2) := by decide +kernel
theorem dL_adjust_195 : decode cL_adjust 195 = .ok (.iload 10, 2) := by decide +kernel
theorem dL_adjust_197 : decode cL_adjust 197 = .ok (.ineg, 1) := by decide +kernel
theorem dL_adjust_198 : decode cL_adjust 198 = .ok (.if_icmp .ge 7, 3) := by decide +kernel
theorem dL_adjust_201 : decode cL_adjust 201 = .ok (.iconst (-1), 1) := by decide +kernel
theorem dL_adjust_202 : decode cL_adjust 202 = .ok (.goto 4, 3) := by decide +kernel
theorem dL_adjust_205 : decode cL_adjust 205 = .ok (.iconst 0, 1) := by decide +kernel
theorem dL_adjust_206 : decode cL_adjust 206 = .ok (.i2l, 1) := by decide +kernel
theorem dL_adjust_207 : decode cL_adjust 207 = .ok (.lsub, 1) := by decide +kernel
theorem dL_adjust_208 : decode cL_adjust 208 = .ok (.invokestatic 61, 3) := by decide +kernel
theorem dL_adjust_211 : decode cL_adjust 211 = .ok (.iastore, 1) := by decide +kernel
theorem dL_adjust_212 : decode cL_adjust 212 = .ok (.iinc 13 1, 3) := by decide +kernel
theorem dL_adjust_215 : decode cL_adjust 215 = .ok (.goto (-145), 3) := by decide +kernel
theorem dL_adjust_218 : decode cL_adjust 218 = .ok (.iload 7, 2) := by decide +kernel
theorem dL_adjust_220 : decode cL_adjust 220 = .ok (.ireturn, 1) := by decide +kernel
theorem dL_lays_0 : decode cL_lays 0 = .ok (.iload 7, 2) := by decide +kernel
theorem dL_lays_2 : decode cL_lays 2 = .ok (.ifCond .ne 130, 3) := by decide +kernel
theorem dL_lays_5 : decode cL_lays 5 = .ok (.iload 6, 2) := by decide +kernel
theorem dL_lays_7 : decode cL_lays 7 = .ok (.sipush 4001, 3) := by decide +kernel
theorem dL_lays_10 : decode cL_lays 10 = .ok (.irem, 1) := by decide +kernel
theorem dL_lays_11 : decode cL_lays 11 = .ok (.sipush 2000, 3) := by decide +kernel
theorem dL_lays_14 : decode cL_lays 14 = .ok (.isub, 1) := by decide +kernel
theorem dL_lays_15 : decode cL_lays 15 = .ok (.bipush 50, 2) := by decide +kernel
theorem dL_lays_17 : decode cL_lays 17 = .ok (.imul, 1) := by decide +kernel
theorem dL_lays_18 : decode cL_lays 18 = .ok (.istore 8, 2) := by decide +kernel
theorem dL_lays_20 : decode cL_lays 20 = .ok (.iload 6, 2) := by decide +kernel
theorem dL_lays_22 : decode cL_lays 22 = .ok (.bipush 7, 2) := by decide +kernel
theorem dL_lays_24 : decode cL_lays 24 = .ok (.idiv, 1) := by decide +kernel
theorem dL_lays_25 : decode cL_lays 25 = .ok (.sipush 4001, 3) := by decide +kernel
theorem dL_lays_28 : decode cL_lays 28 = .ok (.irem, 1) := by decide +kernel
theorem dL_lays_29 : decode cL_lays 29 = .ok (.sipush 2000, 3) := by decide +kernel
theorem dL_lays_32 : decode cL_lays 32 = .ok (.isub, 1) := by decide +kernel
theorem dL_lays_33 : decode cL_lays 33 = .ok (.bipush 50, 2) := by decide +kernel
theorem dL_lays_35 : decode cL_lays 35 = .ok (.imul, 1) := by decide +kernel
theorem dL_lays_36 : decode cL_lays 36 = .ok (.istore 9, 2) := by decide +kernel
theorem dL_lays_38 : decode cL_lays 38 = .ok (.aload_n 1, 1) := by decide +kernel
theorem dL_lays_39 : decode cL_lays 39 = .ok (.iconst 3, 1) := by decide +kernel
theorem dL_lays_40 : decode cL_lays 40 = .ok (.iaload, 1) := by decide +kernel
theorem dL_lays_41 : decode cL_lays 41 = .ok (.bipush 6, 2) := by decide +kernel
theorem dL_lays_43 : decode cL_lays 43 = .ok (.if_icmp .ne 34, 3) := by decide +kernel
theorem dL_lays_46 : decode cL_lays 46 = .ok (.aload_n 0, 1) := by decide +kernel
theorem dL_lays_47 : decode cL_lays 47 = .ok (.iload 8, 2) := by decide +kernel
theorem dL_lays_49 : decode cL_lays 49 = .ok (.iload 9, 2) := by decide +kernel
theorem dL_lays_51 : decode cL_lays 51 = .ok (.invokestatic 131, 3) := by decide +kernel
theorem dL_lays_54 : decode cL_lays 54 = .ok (.ldc 23, 2) := by decide +kernel
theorem dL_lays_56 : decode cL_lays 56 = .ok (.if_icmp .ne 19, 3) := by decide +kernel
theorem dL_lays_59 : decode cL_lays 59 = .ok (.aload_n 0, 1) := by decide +kernel
theorem dL_lays_60 : decode cL_lays 60 = .ok (.ldc 135, 2) := by decide +kernel
theorem dL_lays_62 : decode cL_lays 62 = .ok (.iconst 0, 1) := by decide +kernel
theorem dL_lays_63 : decode cL_lays 63 = .ok (.invokestatic 131, 3) := by decide +kernel
theorem dL_lays_66 : decode cL_lays 66 = .ok (.ldc 17, 2) := by decide +kernel
theorem dL_lays_68 : decode cL_lays 68 = .ok (.if_icmp .ne 7, 3) := by decide +kernel
theorem dL_lays_71 : decode cL_lays 71 = .ok (.iconst 1, 1) := by decide +kernel
theorem dL_lays_72 : decode cL_lays 72 = .ok (.goto 4, 3) := by decide +kernel
theorem dL_lays_75 : decode cL_lays 75 = .ok (.iconst 0, 1) := by decide +kernel
theorem dL_lays_76 : decode cL_lays 76 = .ok (.ireturn, 1) := by decide +kernel
theorem dL_lays_77 : decode cL_lays 77 = .ok (.aload_n 2, 1) := by decide +kernel
theorem dL_lays_78 : decode cL_lays 78 = .ok (.iconst 2, 1) := by decide +kernel
theorem dL_lays_79 : decode cL_lays 79 = .ok (.aload_n 1, 1) := by decide +kernel
theorem dL_lays_80 : decode cL_lays 80 = .ok (.iconst 3, 1) := by decide +kernel
theorem dL_lays_81 : decode cL_lays 81 = .ok (.iaload, 1) := by decide +kernel
theorem dL_lays_82 : decode cL_lays 82 = .ok (.imul, 1) := by decide +kernel
theorem dL_lays_83 : decode cL_lays 83 = .ok (.iload 8, 2) := by decide +kernel
theorem dL_lays_85 : decode cL_lays 85 = .ok (.iastore, 1) := by decide +kernel
theorem dL_lays_86 : decode cL_lays 86 = .ok (.aload_n 2, 1) := by decide +kernel
theorem dL_lays_87 : decode cL_lays 87 = .ok (.iconst 2, 1) := by decide +kernel
theorem dL_lays_88 : decode cL_lays 88 = .ok (.aload_n 1, 1) := by decide +kernel
theorem dL_lays_89 : decode cL_lays 89 = .ok (.iconst 3, 1) := by decide +kernel
theorem dL_lays_90 : decode cL_lays 90 = .ok (.iaload, 1) := by decide +kernel
theorem dL_lays_91 : decode cL_lays 91 = .ok (.imul, 1) := by decide +kernel
theorem dL_lays_92 : decode cL_lays 92 = .ok (.iconst 1, 1) := by decide +kernel
theorem dL_lays_93 : decode cL_lays 93 = .ok (.iadd, 1) := by decide +kernel
theorem dL_lays_94 : decode cL_lays 94 = .ok (.iload 9, 2) := by decide +kernel
theorem dL_lays_96 : decode cL_lays 96 = .ok (.iastore, 1) := by decide +kernel
theorem dL_lays_97 : decode cL_lays 97 = .ok (.aload_n 3, 1) := by decide +kernel
theorem dL_lays_98 : decode cL_lays 98 = .ok (.aload_n 1, 1) := by decide +kernel
theorem dL_lays_99 : decode cL_lays 99 = .ok (.iconst 3, 1) := by decide +kernel
theorem dL_lays_100 : decode cL_lays 100 = .ok (.iaload, 1) := by decide +kernel
theorem dL_lays_101 : decode cL_lays 101 = .ok (.iconst 0, 1) := by decide +kernel
theorem dL_lays_102 : decode cL_lays 102 = .ok (.iastore, 1) := by decide +kernel
theorem dL_lays_103 : decode cL_lays 103 = .ok (.aload_n 1, 1) := by decide +kernel
theorem dL_lays_104 : decode cL_lays 104 = .ok (.iconst 3, 1) := by decide +kernel
theorem dL_lays_105 : decode cL_lays 105 = .ok (.dup2, 1) := by decide +kernel
theorem dL_lays_106 : decode cL_lays 106 = .ok (.iaload, 1) := by decide +kernel
theorem dL_lays_107 : decode cL_lays 107 = .ok (.iconst 1, 1) := by decide +kernel
theorem dL_lays_108 : decode cL_lays 108 = .ok (.iadd, 1) := by decide +kernel
theorem dL_lays_109 : decode cL_lays 109 = .ok (.iastore, 1) := by decide +kernel
theorem dL_lays_110 : decode cL_lays 110 = .ok (.aload_n 0, 1) := by decide +kernel
theorem dL_lays_111 : decode cL_lays 111 = .ok (.iload 8, 2) := by decide +kernel
theorem dL_lays_113 : decode cL_lays 113 = .ok (.iload 9, 2) := by decide +kernel
theorem dL_lays_115 : decode cL_lays 115 = .ok (.invokestatic 131, 3) := by decide +kernel
theorem dL_lays_118 : decode cL_lays 118 = .ok (.aload_n 1, 1) := by decide +kernel
theorem dL_lays_119 : decode cL_lays 119 = .ok (.iconst 3, 1) := by decide +kernel
theorem dL_lays_120 : decode cL_lays 120 = .ok (.iaload, 1) := by decide +kernel
theorem dL_lays_121 : decode cL_lays 121 = .ok (.iconst 1, 1) := by decide +kernel
theorem dL_lays_122 : decode cL_lays 122 = .ok (.isub, 1) := by decide +kernel
theorem dL_lays_123 : decode cL_lays 123 = .ok (.if_icmp .ne 7, 3) := by decide +kernel
theorem dL_lays_126 : decode cL_lays 126 = .ok (.iconst 1, 1) := by decide +kernel
theorem dL_lays_127 : decode cL_lays 127 = .ok (.goto 4, 3) := by decide +kernel
theorem dL_lays_130 : decode cL_lays 130 = .ok (.iconst 0, 1) := by decide +kernel
theorem dL_lays_131 : decode cL_lays 131 = .ok (.ireturn, 1) := by decide +kernel
theorem dL_lays_132 : decode cL_lays 132 = .ok (.aload_n 1, 1) := by decide +kernel
theorem dL_lays_133 : decode cL_lays 133 = .ok (.iconst 3, 1) := by decide +kernel
theorem dL_lays_134 : decode cL_lays 134 = .ok (.iaload, 1) := by decide +kernel
theorem dL_lays_135 : decode cL_lays 135 = .ok (.ifCond .ne 45, 3) := by decide +kernel
theorem dL_lays_138 : decode cL_lays 138 = .ok (.aload_n 0, 1) := by decide +kernel
theorem dL_lays_139 : decode cL_lays 139 = .ok (.iconst 0, 1) := by decide +kernel
theorem dL_lays_140 : decode cL_lays 140 = .ok (.iconst 0, 1) := by decide +kernel
theorem dL_lays_141 : decode cL_lays 141 = .ok (.invokestatic 136, 3) := by decide +kernel
theorem dL_lays_144 : decode cL_lays 144 = .ok (.ldc 29, 2) := by decide +kernel
theorem dL_lays_146 : decode cL_lays 146 = .ok (.if_icmp .ne 32, 3) := by decide +kernel
theorem dL_lays_149 : decode cL_lays 149 = .ok (.aload_n 0, 1) := by decide +kernel
theorem dL_lays_150 : decode cL_lays 150 = .ok (.iconst 0, 1) := by decide +kernel
theorem dL_lays_151 : decode cL_lays 151 = .ok (.invokestatic 139, 3) := by decide +kernel
theorem dL_lays_154 : decode cL_lays 154 = .ok (.ldc 29, 2) := by decide +kernel
theorem dL_lays_156 : decode cL_lays 156 = .ok (.if_icmp .ne 22, 3) := by decide +kernel
theorem dL_lays_159 : decode cL_lays 159 = .ok (.aload_n 0, 1) := by decide +kernel
theorem dL_lays_160 : decode cL_lays 160 = .ok (.iconst 0, 1) := by decide +kernel
theorem dL_lays_161 : decode cL_lays 161 = .ok (.iconst 0, 1) := by decide +kernel
theorem dL_lays_162 : decode cL_lays 162 = .ok (.iconst 0, 1) := by decide +kernel
theorem dL_lays_163 : decode cL_lays 163 = .ok (.iconst 0, 1) := by decide +kernel
theorem dL_lays_164 : decode cL_lays 164 = .ok (.iconst 0, 1) := by decide +kernel
theorem dL_lays_165 : decode cL_lays 165 = .ok (.iconst 0, 1) := by decide +kernel
theorem dL_lays_166 : decode cL_lays 166 = .ok (.invokestatic 143, 3) := by decide +kernel
theorem dL_lays_169 : decode cL_lays 169 = .ok (.ldc 29, 2) := by decide +kernel
theorem dL_lays_171 : decode cL_lays 171 = .ok (.if_icmp .ne 7, 3) := by decide +kernel
theorem dL_lays_174 : decode cL_lays 174 = .ok (.iconst 1, 1) := by decide +kernel
theorem dL_lays_175 : decode cL_lays 175 = .ok (.goto 4, 3) := by decide +kernel
theorem dL_lays_178 : decode cL_lays 178 = .ok (.iconst 0, 1) := by decide +kernel
theorem dL_lays_179 : decode cL_lays 179 = .ok (.ireturn, 1) := by decide +kernel
theorem dL_lays_180 : decode cL_lays 180 = .ok (.iload 6, 2) := by decide +kernel
theorem dL_lays_182 : decode cL_lays 182 = .ok (.aload_n 1, 1) := by decide +kernel
theorem dL_lays_183 : decode cL_lays 183 = .ok (.iconst 3, 1) := by decide +kernel
theorem dL_lays_184 : decode cL_lays 184 = .ok (.iaload, 1) := by decide +kernel
theorem dL_lays_185 : decode cL_lays 185 = .ok (.irem, 1) := by decide +kernel
theorem dL_lays_186 : decode cL_lays 186 = .ok (.istore 8, 2) := by decide +kernel
theorem dL_lays_188 : decode cL_lays 188 = .ok (.iload 7, 2) := by decide +kernel
theorem dL_lays_190 : decode cL_lays 190 = .ok (.iconst 1, 1) := by decide +kernel
theorem dL_lays_191 : decode cL_lays 191 = .ok (.if_icmp .ne 99, 3) := by decide +kernel
theorem dL_lays_194 : decode cL_lays 194 = .ok (.iload 6, 2) := by decide +kernel
theorem dL_lays_196 : decode cL_lays 196 = .ok (.bipush 6, 2) := by decide +kernel
theorem dL_lays_198 : decode cL_lays 198 = .ok (.idiv, 1) := by decide +kernel
theorem dL_lays_199 : decode cL_lays 199 = .ok (.iload 6, 2) := by decide +kernel
theorem dL_lays_201 : decode cL_lays 201 = .ok (.bipush 11, 2) := by decide +kernel
theorem dL_lays_203 : decode cL_lays 203 = .ok (.irem, 1) := by decide +kernel
theorem dL_lays_204 : decode cL_lays 204 = .ok (.ifCond .ne 9, 3) := by decide +kernel
theorem dL_lays_207 : decode cL_lays 207 = .ok (.sipush 1000, 3) := by decide +kernel
theorem dL_lays_210 : decode cL_lays 210 = .ok (.goto 5, 3) := by decide +kernel
theorem dL_lays_213 : decode cL_lays 213 = .ok (.bipush 30, 2) := by decide +kernel
theorem dL_lays_215 : decode cL_lays 215 = .ok (.irem, 1) := by decide +kernel
theorem dL_lays_216 : decode cL_lays 216 = .ok (.istore 9, 2) := by decide +kernel
theorem dL_lays_218 : decode cL_lays 218 = .ok (.aload_n 3, 1) := by decide +kernel
theorem dL_lays_219 : decode cL_lays 219 = .ok (.iload 8, 2) := by decide +kernel
theorem dL_lays_221 : decode cL_lays 221 = .ok (.iaload, 1) := by decide +kernel
theorem dL_lays_222 : decode cL_lays 222 = .ok (.bipush 9, 2) := by decide +kernel
theorem dL_lays_224 : decode cL_lays 224 = .ok (.if_icmp .ne 22, 3) := by decide +kernel
theorem dL_lays_227 : decode cL_lays 227 = .ok (.aload_n 0, 1) := by decide +kernel
theorem dL_lays_228 : decode cL_lays 228 = .ok (.iload 8, 2) := by decide +kernel
theorem dL_lays_230 : decode cL_lays 230 = .ok (.iload 9, 2) := by decide +kernel
theorem dL_lays_232 : decode cL_lays 232 = .ok (.invokestatic 136, 3) := by decide +kernel
theorem dL_lays_235 : decode cL_lays 235 = .ok (.ldc 23, 2) := by decide +kernel
theorem dL_lays_237 : decode cL_lays 237 = .ok (.if_icmp .ne 7, 3) := by decide +kernel
theorem dL_lays_240 : decode cL_lays 240 = .ok (.iconst 1, 1) := by decide +kernel
theorem dL_lays_241 : decode cL_lays 241 = .ok (.goto 4, 3) := by decide +kernel
theorem dL_lays_244 : decode cL_lays 244 = .ok (.iconst 0, 1) := by decide +kernel
theorem dL_lays_245 : decode cL_lays 245 = .ok (.ireturn, 1) := by decide +kernel
theorem dL_lays_246 : decode cL_lays 246 = .ok (.aload 4, 2) := by decide +kernel
theorem dL_lays_248 : decode cL_lays 248 = .ok (.bipush 9, 2) := by decide +kernel
theorem dL_lays_250 : decode cL_lays 250 = .ok (.iload 8, 2) := by decide +kernel
theorem dL_lays_252 : decode cL_lays 252 = .ok (.imul, 1) := by decide +kernel
theorem dL_lays_253 : decode cL_lays 253 = .ok (.aload_n 3, 1) := by decide +kernel
theorem dL_lays_254 : decode cL_lays 254 = .ok (.iload 8, 2) := by decide +kernel
theorem dL_lays_256 : decode cL_lays 256 = .ok (.iaload, 1) := by decide +kernel
theorem dL_lays_257 : decode cL_lays 257 = .ok (.iadd, 1) := by decide +kernel
theorem dL_lays_258 : decode cL_lays 258 = .ok (.iload 9, 2) := by decide +kernel
theorem dL_lays_260 : decode cL_lays 260 = .ok (.iastore, 1) := by decide +kernel
theorem dL_lays_261 : decode cL_lays 261 = .ok (.aload_n 3, 1) := by decide +kernel
theorem dL_lays_262 : decode cL_lays 262 = .ok (.iload 8, 2) := by decide +kernel
theorem dL_lays_264 : decode cL_lays 264 = .ok (.dup2, 1) := by decide +kernel
theorem dL_lays_265 : decode cL_lays 265 = .ok (.iaload, 1) := by decide +kernel
theorem dL_lays_266 : decode cL_lays 266 = .ok (.iconst 1, 1) := by decide +kernel
theorem dL_lays_267 : decode cL_lays 267 = .ok (.iadd, 1) := by decide +kernel
theorem dL_lays_268 : decode cL_lays 268 = .ok (.iastore, 1) := by decide +kernel
theorem dL_lays_269 : decode cL_lays 269 = .ok (.aload_n 0, 1) := by decide +kernel
theorem dL_lays_270 : decode cL_lays 270 = .ok (.iload 8, 2) := by decide +kernel
theorem dL_lays_272 : decode cL_lays 272 = .ok (.iload 9, 2) := by decide +kernel
theorem dL_lays_274 : decode cL_lays 274 = .ok (.invokestatic 136, 3) := by decide +kernel
theorem dL_lays_277 : decode cL_lays 277 = .ok (.aload_n 3, 1) := by decide +kernel
theorem dL_lays_278 : decode cL_lays 278 = .ok (.iload 8, 2) := by decide +kernel
theorem dL_lays_280 : decode cL_lays 280 = .ok (.iaload, 1) := by decide +kernel
theorem dL_lays_281 : decode cL_lays 281 = .ok (.if_icmp .ne 7, 3) := by decide +kernel
theorem dL_lays_284 : decode cL_lays 284 = .ok (.iconst 1, 1) := by decide +kernel
theorem dL_lays_285 : decode cL_lays 285 = .ok (.goto 4, 3) := by decide +kernel
theorem dL_lays_288 : decode cL_lays 288 = .ok (.iconst 0, 1) := by decide +kernel
theorem dL_lays_289 : decode cL_lays 289 = .ok (.ireturn, 1) := by decide +kernel
theorem dL_lays_290 : decode cL_lays 290 = .ok (.iload 7, 2) := by decide +kernel
theorem dL_lays_292 : decode cL_lays 292 = .ok (.iconst 2, 1) := by decide +kernel
theorem dL_lays_293 : decode cL_lays 293 = .ok (.if_icmp .ne 31, 3) := by decide +kernel
theorem dL_lays_296 : decode cL_lays 296 = .ok (.aload_n 3, 1) := by decide +kernel
theorem dL_lays_297 : decode cL_lays 297 = .ok (.iload 8, 2) := by decide +kernel
theorem dL_lays_299 : decode cL_lays 299 = .ok (.iaload, 1) := by decide +kernel
theorem dL_lays_300 : decode cL_lays 300 = .ok (.istore 9, 2) := by decide +kernel
theorem dL_lays_302 : decode cL_lays 302 = .ok (.aload_n 3, 1) := by decide +kernel
theorem dL_lays_303 : decode cL_lays 303 = .ok (.iload 8, 2) := by decide +kernel
theorem dL_lays_305 : decode cL_lays 305 = .ok (.iconst 0, 1) := by decide +kernel
theorem dL_lays_306 : decode cL_lays 306 = .ok (.iastore, 1) := by decide +kernel
theorem dL_lays_307 : decode cL_lays 307 = .ok (.aload_n 0, 1) := by decide +kernel
theorem dL_lays_308 : decode cL_lays 308 = .ok (.iload 8, 2) := by decide +kernel
theorem dL_lays_310 : decode cL_lays 310 = .ok (.invokestatic 139, 3) := by decide +kernel
theorem dL_lays_313 : decode cL_lays 313 = .ok (.iload 9, 2) := by decide +kernel
theorem dL_lays_315 : decode cL_lays 315 = .ok (.if_icmp .ne 7, 3) := by decide +kernel
theorem dL_lays_318 : decode cL_lays 318 = .ok (.iconst 1, 1) := by decide +kernel
theorem dL_lays_319 : decode cL_lays 319 = .ok (.goto 4, 3) := by decide +kernel
theorem dL_lays_322 : decode cL_lays 322 = .ok (.iconst 0, 1) := by decide +kernel
theorem dL_lays_323 : decode cL_lays 323 = .ok (.ireturn, 1) := by decide +kernel
theorem dL_lays_324 : decode cL_lays 324 = .ok (.iload 6, 2) := by decide +kernel
theorem dL_lays_326 : decode cL_lays 326 = .ok (.bipush 6, 2) := by decide +kernel
theorem dL_lays_328 : decode cL_lays 328 = .ok (.idiv, 1) := by decide +kernel
theorem dL_lays_329 : decode cL_lays 329 = .ok (.aload_n 1, 1) := by decide +kernel
theorem dL_lays_330 : decode cL_lays 330 = .ok (.iconst 3, 1) := by decide +kernel
theorem dL_lays_331 : decode cL_lays 331 = .ok (.iaload, 1) := by decide +kernel
theorem dL_lays_332 : decode cL_lays 332 = .ok (.irem, 1) := by decide +kernel
theorem dL_lays_333 : decode cL_lays 333 = .ok (.istore 9, 2) := by decide +kernel
theorem dL_lays_335 : decode cL_lays 335 = .ok (.iload 6, 2) := by decide +kernel
theorem dL_lays_337 : decode cL_lays 337 = .ok (.bipush 36, 2) := by decide +kernel
theorem dL_lays_339 : decode cL_lays 339 = .ok (.idiv, 1) := by decide +kernel
theorem dL_lays_340 : decode cL_lays 340 = .ok (.ldc 147, 2) := by decide +kernel
theorem dL_lays_342 : decode cL_lays 342 = .ok (.irem, 1) := by decide +kernel
theorem dL_lays_343 : decode cL_lays 343 = .ok (.istore 10, 2) := by decide +kernel
theorem dL_lays_345 : decode cL_lays 345 = .ok (.bipush 100, 2) := by decide +kernel
theorem dL_lays_347 : decode cL_lays 347 = .ok (.iload 6, 2) := by decide +kernel
theorem dL_lays_349 : decode cL_lays 349 = .ok (.iconst 5, 1) := by decide +kernel
theorem dL_lays_350 : decode cL_lays 350 = .ok (.idiv, 1) := by decide +kernel
theorem dL_lays_351 : decode cL_lays 351 = .ok (.sipush 9000, 3) := by decide +kernel
theorem dL_lays_354 : decode cL_lays 354 = .ok (.irem, 1) := by decide +kernel
theorem dL_lays_355 : decode cL_lays 355 = .ok (.iadd, 1) := by decide +kernel
theorem dL_lays_356 : decode cL_lays 356 = .ok (.istore 11, 2) := by decide +kernel
theorem dL_lays_358 : decode cL_lays 358 = .ok (.bipush 100, 2) := by decide +kernel
theorem dL_lays_360 : decode cL_lays 360 = .ok (.iload 6, 2) := by decide +kernel

theorem dX0_init_0 : decode cX0_init 0 = .ok (.aload_n 0, 1) := by decide +kernel
theorem dX0_init_1 : decode cX0_init 1 = .ok (.invokespecial 3, 3) := by decide +kernel
theorem dX0_init_4 : decode cX0_init 4 = .ok (.aload_n 0, 1) := by decide +kernel
theorem dX0_init_5 : decode cX0_init 5 = .ok (.iconst 4, 1) := by decide +kernel
theorem dX0_init_6 : decode cX0_init 6 = .ok (.anewarray 9, 3) := by decide +kernel
theorem dX0_init_9 : decode cX0_init 9 = .ok (.putfield 11, 3) := by decide +kernel
theorem dX0_init_12 : decode cX0_init 12 = .ok (.iconst 0, 1) := by decide +kernel
theorem dX0_init_13 : decode cX0_init 13 = .ok (.istore_n 1, 1) := by decide +kernel
theorem dX0_init_14 : decode cX0_init 14 = .ok (.iload_n 1, 1) := by decide +kernel
theorem dX0_init_15 : decode cX0_init 15 = .ok (.iconst 4, 1) := by decide +kernel
theorem dX0_init_16 : decode cX0_init 16 = .ok (.if_icmp .ge 22, 3) := by decide +kernel
theorem dX0_init_19 : decode cX0_init 19 = .ok (.aload_n 0, 1) := by decide +kernel
theorem dX0_init_20 : decode cX0_init 20 = .ok (.getfield 11, 3) := by decide +kernel
theorem dX0_init_23 : decode cX0_init 23 = .ok (.iload_n 1, 1) := by decide +kernel
theorem dX0_init_24 : decode cX0_init 24 = .ok (.new 9, 3) := by decide +kernel
theorem dX0_init_27 : decode cX0_init 27 = .ok (.dup, 1) := by decide +kernel
theorem dX0_init_28 : decode cX0_init 28 = .ok (.invokespecial 17, 3) := by decide +kernel
theorem dX0_init_31 : decode cX0_init 31 = .ok (.aastore, 1) := by decide +kernel
theorem dX0_init_32 : decode cX0_init 32 = .ok (.iinc 1 1, 3) := by decide +kernel
theorem dX0_init_35 : decode cX0_init 35 = .ok (.goto (-21), 3) := by decide +kernel
theorem dX0_init_38 : decode cX0_init 38 = .ok (.return_, 1) := by decide +kernel
theorem dX0_keep_0 : decode cX0_keep 0 = .ok (.aload_n 0, 1) := by decide +kernel
theorem dX0_keep_1 : decode cX0_keep 1 = .ok (.aload_n 0, 1) := by decide +kernel
theorem dX0_keep_2 : decode cX0_keep 2 = .ok (.getfield 18, 3) := by decide +kernel
theorem dX0_keep_5 : decode cX0_keep 5 = .ok (.iconst 0, 1) := by decide +kernel
theorem dX0_keep_6 : decode cX0_keep 6 = .ok (.iconst 2, 1) := by decide +kernel
theorem dX0_keep_7 : decode cX0_keep 7 = .ok (.invokestatic 22, 3) := by decide +kernel
theorem dX0_keep_10 : decode cX0_keep 10 = .ok (.ifCond .eq 12, 3) := by decide +kernel
theorem dX0_keep_13 : decode cX0_keep 13 = .ok (.aload_n 0, 1) := by decide +kernel
theorem dX0_keep_14 : decode cX0_keep 14 = .ok (.getfield 18, 3) := by decide +kernel
theorem dX0_keep_17 : decode cX0_keep 17 = .ok (.iconst 1, 1) := by decide +kernel
theorem dX0_keep_18 : decode cX0_keep 18 = .ok (.iadd, 1) := by decide +kernel
theorem dX0_keep_19 : decode cX0_keep 19 = .ok (.goto 4, 3) := by decide +kernel
theorem dX0_keep_22 : decode cX0_keep 22 = .ok (.iconst 0, 1) := by decide +kernel
theorem dX0_keep_23 : decode cX0_keep 23 = .ok (.putfield 18, 3) := by decide +kernel
theorem dX0_keep_26 : decode cX0_keep 26 = .ok (.aload_n 0, 1) := by decide +kernel
theorem dX0_keep_27 : decode cX0_keep 27 = .ok (.getfield 11, 3) := by decide +kernel
theorem dX0_keep_30 : decode cX0_keep 30 = .ok (.aload_n 0, 1) := by decide +kernel
theorem dX0_keep_31 : decode cX0_keep 31 = .ok (.getfield 18, 3) := by decide +kernel
theorem dX0_keep_34 : decode cX0_keep 34 = .ok (.aaload, 1) := by decide +kernel
theorem dX0_keep_35 : decode cX0_keep 35 = .ok (.aload_n 1, 1) := by decide +kernel
theorem dX0_keep_36 : decode cX0_keep 36 = .ok (.invokevirtual 26, 3) := by decide +kernel
theorem dX0_keep_39 : decode cX0_keep 39 = .ok (.aload_n 0, 1) := by decide +kernel
theorem dX0_keep_40 : decode cX0_keep 40 = .ok (.aload_n 0, 1) := by decide +kernel
theorem dX0_keep_41 : decode cX0_keep 41 = .ok (.getfield 30, 3) := by decide +kernel
theorem dX0_keep_44 : decode cX0_keep 44 = .ok (.iconst 1, 1) := by decide +kernel
theorem dX0_keep_45 : decode cX0_keep 45 = .ok (.iadd, 1) := by decide +kernel
theorem dX0_keep_46 : decode cX0_keep 46 = .ok (.iconst 4, 1) := by decide +kernel
theorem dX0_keep_47 : decode cX0_keep 47 = .ok (.invokestatic 33, 3) := by decide +kernel
theorem dX0_keep_50 : decode cX0_keep 50 = .ok (.putfield 30, 3) := by decide +kernel
theorem dX0_keep_53 : decode cX0_keep 53 = .ok (.return_, 1) := by decide +kernel
theorem dX0_giveBack_0 : decode cX0_giveBack 0 = .ok (.aload_n 0, 1) := by decide +kernel
theorem dX0_giveBack_1 : decode cX0_giveBack 1 = .ok (.getfield 18, 3) := by decide +kernel
theorem dX0_giveBack_4 : decode cX0_giveBack 4 = .ok (.iconst 0, 1) := by decide +kernel
theorem dX0_giveBack_5 : decode cX0_giveBack 5 = .ok (.iconst 3, 1) := by decide +kernel
theorem dX0_giveBack_6 : decode cX0_giveBack 6 = .ok (.invokestatic 22, 3) := by decide +kernel
theorem dX0_giveBack_9 : decode cX0_giveBack 9 = .ok (.ifCond .ne 8, 3) := by decide +kernel
theorem dX0_giveBack_12 : decode cX0_giveBack 12 = .ok (.aload_n 0, 1) := by decide +kernel
theorem dX0_giveBack_13 : decode cX0_giveBack 13 = .ok (.getfield 30, 3) := by decide +kernel
theorem dX0_giveBack_16 : decode cX0_giveBack 16 = .ok (.ireturn, 1) := by decide +kernel
theorem dX0_giveBack_17 : decode cX0_giveBack 17 = .ok (.aload_n 1, 1) := by decide +kernel
theorem dX0_giveBack_18 : decode cX0_giveBack 18 = .ok (.aload_n 0, 1) := by decide +kernel
theorem dX0_giveBack_19 : decode cX0_giveBack 19 = .ok (.getfield 11, 3) := by decide +kernel
theorem dX0_giveBack_22 : decode cX0_giveBack 22 = .ok (.aload_n 0, 1) := by decide +kernel
theorem dX0_giveBack_23 : decode cX0_giveBack 23 = .ok (.getfield 18, 3) := by decide +kernel
theorem dX0_giveBack_26 : decode cX0_giveBack 26 = .ok (.aaload, 1) := by decide +kernel
theorem dX0_giveBack_27 : decode cX0_giveBack 27 = .ok (.invokevirtual 26, 3) := by decide +kernel
theorem dX0_giveBack_30 : decode cX0_giveBack 30 = .ok (.aload_n 0, 1) := by decide +kernel
theorem dX0_giveBack_31 : decode cX0_giveBack 31 = .ok (.aload_n 0, 1) := by decide +kernel
theorem dX0_giveBack_32 : decode cX0_giveBack 32 = .ok (.getfield 18, 3) := by decide +kernel
theorem dX0_giveBack_35 : decode cX0_giveBack 35 = .ok (.ifCond .ne 7, 3) := by decide +kernel
theorem dX0_giveBack_38 : decode cX0_giveBack 38 = .ok (.iconst 3, 1) := by decide +kernel
theorem dX0_giveBack_39 : decode cX0_giveBack 39 = .ok (.goto 9, 3) := by decide +kernel
theorem dX0_giveBack_42 : decode cX0_giveBack 42 = .ok (.aload_n 0, 1) := by decide +kernel
theorem dX0_giveBack_43 : decode cX0_giveBack 43 = .ok (.getfield 18, 3) := by decide +kernel
theorem dX0_giveBack_46 : decode cX0_giveBack 46 = .ok (.iconst 1, 1) := by decide +kernel
theorem dX0_giveBack_47 : decode cX0_giveBack 47 = .ok (.isub, 1) := by decide +kernel
theorem dX0_giveBack_48 : decode cX0_giveBack 48 = .ok (.putfield 18, 3) := by decide +kernel
theorem dX0_giveBack_51 : decode cX0_giveBack 51 = .ok (.aload_n 0, 1) := by decide +kernel
theorem dX0_giveBack_52 : decode cX0_giveBack 52 = .ok (.dup, 1) := by decide +kernel
theorem dX0_giveBack_53 : decode cX0_giveBack 53 = .ok (.getfield 30, 3) := by decide +kernel
theorem dX0_giveBack_56 : decode cX0_giveBack 56 = .ok (.iconst 1, 1) := by decide +kernel
theorem dX0_giveBack_57 : decode cX0_giveBack 57 = .ok (.isub, 1) := by decide +kernel
theorem dX0_giveBack_58 : decode cX0_giveBack 58 = .ok (.putfield 30, 3) := by decide +kernel
theorem dX0_giveBack_61 : decode cX0_giveBack 61 = .ok (.aload_n 0, 1) := by decide +kernel
theorem dX0_giveBack_62 : decode cX0_giveBack 62 = .ok (.getfield 30, 3) := by decide +kernel
theorem dX0_giveBack_65 : decode cX0_giveBack 65 = .ok (.ireturn, 1) := by decide +kernel
theorem dX1_init_0 : decode cX1_init 0 = .ok (.aload_n 0, 1) := by decide +kernel
theorem dX1_init_1 : decode cX1_init 1 = .ok (.invokespecial 3, 3) := by decide +kernel
theorem dX1_init_4 : decode cX1_init 4 = .ok (.return_, 1) := by decide +kernel
theorem dX1_copyFrom_0 : decode cX1_copyFrom 0 = .ok (.aload_n 0, 1) := by decide +kernel
theorem dX1_copyFrom_1 : decode cX1_copyFrom 1 = .ok (.aload_n 1, 1) := by decide +kernel
theorem dX1_copyFrom_2 : decode cX1_copyFrom 2 = .ok (.getfield 9, 3) := by decide +kernel
theorem dX1_copyFrom_5 : decode cX1_copyFrom 5 = .ok (.putfield 9, 3) := by decide +kernel
theorem dX1_copyFrom_8 : decode cX1_copyFrom 8 = .ok (.aload_n 0, 1) := by decide +kernel
theorem dX1_copyFrom_9 : decode cX1_copyFrom 9 = .ok (.aload_n 1, 1) := by decide +kernel
theorem dX1_copyFrom_10 : decode cX1_copyFrom 10 = .ok (.getfield 15, 3) := by decide +kernel
theorem dX1_copyFrom_13 : decode cX1_copyFrom 13 = .ok (.putfield 15, 3) := by decide +kernel
theorem dX1_copyFrom_16 : decode cX1_copyFrom 16 = .ok (.aload_n 0, 1) := by decide +kernel
theorem dX1_copyFrom_17 : decode cX1_copyFrom 17 = .ok (.aload_n 1, 1) := by decide +kernel
theorem dX1_copyFrom_18 : decode cX1_copyFrom 18 = .ok (.getfield 18, 3) := by decide +kernel
theorem dX1_copyFrom_21 : decode cX1_copyFrom 21 = .ok (.putfield 18, 3) := by decide +kernel
theorem dX1_copyFrom_24 : decode cX1_copyFrom 24 = .ok (.aload_n 0, 1) := by decide +kernel
theorem dX1_copyFrom_25 : decode cX1_copyFrom 25 = .ok (.aload_n 1, 1) := by decide +kernel
theorem dX1_copyFrom_26 : decode cX1_copyFrom 26 = .ok (.getfield 21, 3) := by decide +kernel
theorem dX1_copyFrom_29 : decode cX1_copyFrom 29 = .ok (.putfield 21, 3) := by decide +kernel
theorem dX1_copyFrom_32 : decode cX1_copyFrom 32 = .ok (.aload_n 0, 1) := by decide +kernel
theorem dX1_copyFrom_33 : decode cX1_copyFrom 33 = .ok (.aload_n 1, 1) := by decide +kernel
theorem dX1_copyFrom_34 : decode cX1_copyFrom 34 = .ok (.getfield 24, 3) := by decide +kernel
theorem dX1_copyFrom_37 : decode cX1_copyFrom 37 = .ok (.putfield 24, 3) := by decide +kernel
theorem dX1_copyFrom_40 : decode cX1_copyFrom 40 = .ok (.aload_n 0, 1) := by decide +kernel
theorem dX1_copyFrom_41 : decode cX1_copyFrom 41 = .ok (.aload_n 1, 1) := by decide +kernel
theorem dX1_copyFrom_42 : decode cX1_copyFrom 42 = .ok (.getfield 27, 3) := by decide +kernel
theorem dX1_copyFrom_45 : decode cX1_copyFrom 45 = .ok (.putfield 27, 3) := by decide +kernel
theorem dX1_copyFrom_48 : decode cX1_copyFrom 48 = .ok (.return_, 1) := by decide +kernel
theorem dX1_lay_0 : decode cX1_lay 0 = .ok (.aload_n 0, 1) := by decide +kernel
theorem dX1_lay_1 : decode cX1_lay 1 = .ok (.iload_n 1, 1) := by decide +kernel
theorem dX1_lay_2 : decode cX1_lay 2 = .ok (.putfield 9, 3) := by decide +kernel
theorem dX1_lay_5 : decode cX1_lay 5 = .ok (.aload_n 0, 1) := by decide +kernel
theorem dX1_lay_6 : decode cX1_lay 6 = .ok (.iload_n 2, 1) := by decide +kernel
theorem dX1_lay_7 : decode cX1_lay 7 = .ok (.putfield 15, 3) := by decide +kernel
theorem dX1_lay_10 : decode cX1_lay 10 = .ok (.aload_n 0, 1) := by decide +kernel
theorem dX1_lay_11 : decode cX1_lay 11 = .ok (.iload_n 3, 1) := by decide +kernel
theorem dX1_lay_12 : decode cX1_lay 12 = .ok (.putfield 18, 3) := by decide +kernel
theorem dX1_lay_15 : decode cX1_lay 15 = .ok (.aload_n 0, 1) := by decide +kernel
theorem dX1_lay_16 : decode cX1_lay 16 = .ok (.iload 4, 2) := by decide +kernel
theorem dX1_lay_18 : decode cX1_lay 18 = .ok (.putfield 21, 3) := by decide +kernel
theorem dX1_lay_21 : decode cX1_lay 21 = .ok (.aload_n 0, 1) := by decide +kernel
theorem dX1_lay_22 : decode cX1_lay 22 = .ok (.iload 5, 2) := by decide +kernel
theorem dX1_lay_24 : decode cX1_lay 24 = .ok (.putfield 24, 3) := by decide +kernel
theorem dX1_lay_27 : decode cX1_lay 27 = .ok (.aload_n 0, 1) := by decide +kernel
theorem dX1_lay_28 : decode cX1_lay 28 = .ok (.iload 6, 2) := by decide +kernel
theorem dX1_lay_30 : decode cX1_lay 30 = .ok (.putfield 27, 3) := by decide +kernel
theorem dX1_lay_33 : decode cX1_lay 33 = .ok (.return_, 1) := by decide +kernel
theorem dX1_judge_0 : decode cX1_judge 0 = .ok (.aload_n 1, 1) := by decide +kernel
theorem dX1_judge_1 : decode cX1_judge 1 = .ok (.ifnull 7, 3) := by decide +kernel
theorem dX1_judge_4 : decode cX1_judge 4 = .ok (.aload_n 2, 1) := by decide +kernel
theorem dX1_judge_5 : decode cX1_judge 5 = .ok (.ifnonnull 4, 3) := by decide +kernel
theorem dX1_judge_8 : decode cX1_judge 8 = .ok (.return_, 1) := by decide +kernel
theorem dX1_judge_9 : decode cX1_judge 9 = .ok (.aload_n 0, 1) := by decide +kernel
theorem dX1_judge_10 : decode cX1_judge 10 = .ok (.aload_n 1, 1) := by decide +kernel
theorem dX1_judge_11 : decode cX1_judge 11 = .ok (.getfield 30, 3) := by decide +kernel
theorem dX1_judge_14 : decode cX1_judge 14 = .ok (.putfield 35, 3) := by decide +kernel
theorem dX1_judge_17 : decode cX1_judge 17 = .ok (.aload_n 0, 1) := by decide +kernel
theorem dX1_judge_18 : decode cX1_judge 18 = .ok (.aload_n 1, 1) := by decide +kernel
theorem dX1_judge_19 : decode cX1_judge 19 = .ok (.getfield 36, 3) := by decide +kernel
theorem dX1_judge_22 : decode cX1_judge 22 = .ok (.putfield 39, 3) := by decide +kernel
theorem dX1_judge_25 : decode cX1_judge 25 = .ok (.aload_n 0, 1) := by decide +kernel
theorem dX1_judge_26 : decode cX1_judge 26 = .ok (.aload_n 1, 1) := by decide +kernel
theorem dX1_judge_27 : decode cX1_judge 27 = .ok (.getfield 40, 3) := by decide +kernel
theorem dX1_judge_30 : decode cX1_judge 30 = .ok (.ifCond .eq 10, 3) := by decide +kernel
theorem dX1_judge_33 : decode cX1_judge 33 = .ok (.aload_n 1, 1) := by decide +kernel
theorem dX1_judge_34 : decode cX1_judge 34 = .ok (.getfield 40, 3) := by decide +kernel
theorem dX1_judge_37 : decode cX1_judge 37 = .ok (.goto 7, 3) := by decide +kernel
theorem dX1_judge_40 : decode cX1_judge 40 = .ok (.aload_n 2, 1) := by decide +kernel
theorem dX1_judge_41 : decode cX1_judge 41 = .ok (.getfield 40, 3) := by decide +kernel
theorem dX1_judge_44 : decode cX1_judge 44 = .ok (.putfield 43, 3) := by decide +kernel
theorem dX1_judge_47 : decode cX1_judge 47 = .ok (.aload_n 0, 1) := by decide +kernel
theorem dX1_judge_48 : decode cX1_judge 48 = .ok (.aload_n 0, 1) := by decide +kernel
theorem dX1_judge_49 : decode cX1_judge 49 = .ok (.getfield 43, 3) := by decide +kernel
theorem dX1_judge_52 : decode cX1_judge 52 = .ok (.ifCond .eq 7, 3) := by decide +kernel
theorem dX1_judge_55 : decode cX1_judge 55 = .ok (.iconst 3, 1) := by decide +kernel
theorem dX1_judge_56 : decode cX1_judge 56 = .ok (.goto 21, 3) := by decide +kernel
theorem dX1_judge_59 : decode cX1_judge 59 = .ok (.aload_n 0, 1) := by decide +kernel
theorem dX1_judge_60 : decode cX1_judge 60 = .ok (.getfield 24, 3) := by decide +kernel
theorem dX1_judge_63 : decode cX1_judge 63 = .ok (.iconst 3, 1) := by decide +kernel
theorem dX1_judge_64 : decode cX1_judge 64 = .ok (.aload_n 0, 1) := by decide +kernel
theorem dX1_judge_65 : decode cX1_judge 65 = .ok (.getfield 21, 3) := by decide +kernel
theorem dX1_judge_68 : decode cX1_judge 68 = .ok (.imul, 1) := by decide +kernel
theorem dX1_judge_69 : decode cX1_judge 69 = .ok (.if_icmp .le 7, 3) := by decide +kernel
theorem dX1_judge_72 : decode cX1_judge 72 = .ok (.iconst 4, 1) := by decide +kernel
theorem dX1_judge_73 : decode cX1_judge 73 = .ok (.goto 4, 3) := by decide +kernel
theorem dX1_judge_76 : decode cX1_judge 76 = .ok (.iconst 0, 1) := by decide +kernel
theorem dX1_judge_77 : decode cX1_judge 77 = .ok (.putfield 46, 3) := by decide +kernel
theorem dX1_judge_80 : decode cX1_judge 80 = .ok (.aload_n 0, 1) := by decide +kernel
theorem dX1_judge_81 : decode cX1_judge 81 = .ok (.aload_n 0, 1) := by decide +kernel
theorem dX1_judge_82 : decode cX1_judge 82 = .ok (.getfield 43, 3) := by decide +kernel
theorem dX1_judge_85 : decode cX1_judge 85 = .ok (.ifCond .eq 7, 3) := by decide +kernel
theorem dX1_judge_88 : decode cX1_judge 88 = .ok (.iconst 0, 1) := by decide +kernel
theorem dX1_judge_89 : decode cX1_judge 89 = .ok (.goto 25, 3) := by decide +kernel
theorem dX1_judge_92 : decode cX1_judge 92 = .ok (.aload_n 2, 1) := by decide +kernel
theorem dX1_judge_93 : decode cX1_judge 93 = .ok (.getfield 47, 3) := by decide +kernel
theorem dX1_judge_96 : decode cX1_judge 96 = .ok (.aload_n 1, 1) := by decide +kernel
theorem dX1_judge_97 : decode cX1_judge 97 = .ok (.getfield 47, 3) := by decide +kernel
theorem dX1_judge_100 : decode cX1_judge 100 = .ok (.isub, 1) := by decide +kernel
theorem dX1_judge_101 : decode cX1_judge 101 = .ok (.i2l, 1) := by decide +kernel
theorem dX1_judge_102 : decode cX1_judge 102 = .ok (.ldc2_w 50, 3) := by decide +kernel
theorem dX1_judge_105 : decode cX1_judge 105 = .ok (.lmul, 1) := by decide +kernel
theorem dX1_judge_106 : decode cX1_judge 106 = .ok (.aload_n 0, 1) := by decide +kernel
theorem dX1_judge_107 : decode cX1_judge 107 = .ok (.getfield 21, 3) := by decide +kernel
theorem dX1_judge_110 : decode cX1_judge 110 = .ok (.i2l, 1) := by decide +kernel
theorem dX1_judge_111 : decode cX1_judge 111 = .ok (.invokestatic 52, 3) := by decide +kernel
theorem dX1_judge_114 : decode cX1_judge 114 = .ok (.putfield 58, 3) := by decide +kernel
theorem dX1_judge_117 : decode cX1_judge 117 = .ok (.aload_n 0, 1) := by decide +kernel
theorem dX1_judge_118 : decode cX1_judge 118 = .ok (.aload_n 0, 1) := by decide +kernel
theorem dX1_judge_119 : decode cX1_judge 119 = .ok (.getfield 46, 3) := by decide +kernel
theorem dX1_judge_122 : decode cX1_judge 122 = .ok (.ifCond .eq 8, 3) := by decide +kernel
theorem dX1_judge_125 : decode cX1_judge 125 = .ok (.ldc 61, 2) := by decide +kernel
theorem dX1_judge_127 : decode cX1_judge 127 = .ok (.goto 11, 3) := by decide +kernel
theorem dX1_judge_130 : decode cX1_judge 130 = .ok (.aload_n 0, 1) := by decide +kernel
theorem dX1_judge_131 : decode cX1_judge 131 = .ok (.aload_n 0, 1) := by decide +kernel
theorem dX1_judge_132 : decode cX1_judge 132 = .ok (.getfield 27, 3) := by decide +kernel
theorem dX1_judge_135 : decode cX1_judge 135 = .ok (.invokevirtual 62, 3) := by decide +kernel
theorem dX1_judge_138 : decode cX1_judge 138 = .ok (.putfield 66, 3) := by decide +kernel
theorem dX1_judge_141 : decode cX1_judge 141 = .ok (.return_, 1) := by decide +kernel
theorem dX1_startWith_0 : decode cX1_startWith 0 = .ok (.aload_n 0, 1) := by decide +kernel
theorem dX1_startWith_1 : decode cX1_startWith 1 = .ok (.getfield 18, 3) := by decide +kernel
theorem dX1_startWith_4 : decode cX1_startWith 4 = .ok (.iload_n 1, 1) := by decide +kernel
theorem dX1_startWith_5 : decode cX1_startWith 5 = .ok (.aload_n 0, 1) := by decide +kernel
theorem dX1_startWith_6 : decode cX1_startWith 6 = .ok (.getfield 24, 3) := by decide +kernel
theorem dX1_startWith_9 : decode cX1_startWith 9 = .ok (.imul, 1) := by decide +kernel
theorem dX1_startWith_10 : decode cX1_startWith 10 = .ok (.i2l, 1) := by decide +kernel
theorem dX1_startWith_11 : decode cX1_startWith 11 = .ok (.aload_n 0, 1) := by decide +kernel
theorem dX1_startWith_12 : decode cX1_startWith 12 = .ok (.getfield 21, 3) := by decide +kernel
theorem dX1_startWith_15 : decode cX1_startWith 15 = .ok (.i2l, 1) := by decide +kernel
theorem dX1_startWith_16 : decode cX1_startWith 16 = .ok (.invokestatic 52, 3) := by decide +kernel
theorem dX1_startWith_19 : decode cX1_startWith 19 = .ok (.iadd, 1) := by decide +kernel
theorem dX1_startWith_20 : decode cX1_startWith 20 = .ok (.aload_n 0, 1) := by decide +kernel
theorem dX1_startWith_21 : decode cX1_startWith 21 = .ok (.getfield 58, 3) := by decide +kernel
theorem dX1_startWith_24 : decode cX1_startWith 24 = .ok (.iadd, 1) := by decide +kernel
theorem dX1_startWith_25 : decode cX1_startWith 25 = .ok (.invokestatic 69, 3) := by decide +kernel
theorem dX1_startWith_28 : decode cX1_startWith 28 = .ok (.ireturn, 1) := by decide +kernel
theorem dX1_number_0 : decode cX1_number 0 = .ok (.iload_n 1, 1) := by decide +kernel
theorem dX1_number_1 : decode cX1_number 1 = .ok (.tableswitch 78 0 6 #[43, 48, 53, 58, 63, 68, 73], 43) := by decide +kernel
theorem dX1_number_44 : decode cX1_number 44 = .ok (.aload_n 0, 1) := by decide +kernel
theorem dX1_number_45 : decode cX1_number 45 = .ok (.getfield 9, 3) := by decide +kernel
theorem dX1_number_48 : decode cX1_number 48 = .ok (.ireturn, 1) := by decide +kernel
theorem dX1_number_49 : decode cX1_number 49 = .ok (.aload_n 0, 1) := by decide +kernel
theorem dX1_number_50 : decode cX1_number 50 = .ok (.getfield 15, 3) := by decide +kernel
theorem dX1_number_53 : decode cX1_number 53 = .ok (.ireturn, 1) := by decide +kernel
theorem dX1_number_54 : decode cX1_number 54 = .ok (.aload_n 0, 1) := by decide +kernel
theorem dX1_number_55 : decode cX1_number 55 = .ok (.getfield 18, 3) := by decide +kernel
theorem dX1_number_58 : decode cX1_number 58 = .ok (.ireturn, 1) := by decide +kernel
theorem dX1_number_59 : decode cX1_number 59 = .ok (.aload_n 0, 1) := by decide +kernel
theorem dX1_number_60 : decode cX1_number 60 = .ok (.getfield 21, 3) := by decide +kernel
theorem dX1_number_63 : decode cX1_number 63 = .ok (.ireturn, 1) := by decide +kernel
theorem dX1_number_64 : decode cX1_number 64 = .ok (.aload_n 0, 1) := by decide +kernel
theorem dX1_number_65 : decode cX1_number 65 = .ok (.getfield 24, 3) := by decide +kernel
theorem dX1_number_68 : decode cX1_number 68 = .ok (.ireturn, 1) := by decide +kernel
theorem dX1_number_69 : decode cX1_number 69 = .ok (.aload_n 0, 1) := by decide +kernel
theorem dX1_number_70 : decode cX1_number 70 = .ok (.getfield 27, 3) := by decide +kernel
theorem dX1_number_73 : decode cX1_number 73 = .ok (.ireturn, 1) := by decide +kernel
theorem dX1_number_74 : decode cX1_number 74 = .ok (.aload_n 0, 1) := by decide +kernel
theorem dX1_number_75 : decode cX1_number 75 = .ok (.getfield 46, 3) := by decide +kernel
theorem dX1_number_78 : decode cX1_number 78 = .ok (.ireturn, 1) := by decide +kernel
theorem dX1_number_79 : decode cX1_number 79 = .ok (.aload_n 0, 1) := by decide +kernel
theorem dX1_number_80 : decode cX1_number 80 = .ok (.getfield 66, 3) := by decide +kernel
theorem dX1_number_83 : decode cX1_number 83 = .ok (.ireturn, 1) := by decide +kernel
theorem dX2_init_0 : decode cX2_init 0 = .ok (.aload_n 0, 1) := by decide +kernel
theorem dX2_init_1 : decode cX2_init 1 = .ok (.invokespecial 3, 3) := by decide +kernel
theorem dX2_init_4 : decode cX2_init 4 = .ok (.aload_n 0, 1) := by decide +kernel
theorem dX2_init_5 : decode cX2_init 5 = .ok (.iconst 3, 1) := by decide +kernel
theorem dX2_init_6 : decode cX2_init 6 = .ok (.newarray .int, 2) := by decide +kernel
theorem dX2_init_8 : decode cX2_init 8 = .ok (.dup, 1) := by decide +kernel
theorem dX2_init_9 : decode cX2_init 9 = .ok (.iconst 0, 1) := by decide +kernel
theorem dX2_init_10 : decode cX2_init 10 = .ok (.bipush 20, 2) := by decide +kernel
theorem dX2_init_12 : decode cX2_init 12 = .ok (.iastore, 1) := by decide +kernel
theorem dX2_init_13 : decode cX2_init 13 = .ok (.dup, 1) := by decide +kernel
theorem dX2_init_14 : decode cX2_init 14 = .ok (.iconst 1, 1) := by decide +kernel
theorem dX2_init_15 : decode cX2_init 15 = .ok (.bipush 30, 2) := by decide +kernel
theorem dX2_init_17 : decode cX2_init 17 = .ok (.iastore, 1) := by decide +kernel
theorem dX2_init_18 : decode cX2_init 18 = .ok (.dup, 1) := by decide +kernel
theorem dX2_init_19 : decode cX2_init 19 = .ok (.iconst 2, 1) := by decide +kernel
theorem dX2_init_20 : decode cX2_init 20 = .ok (.sipush 500, 3) := by decide +kernel
theorem dX2_init_23 : decode cX2_init 23 = .ok (.iastore, 1) := by decide +kernel
theorem dX2_init_24 : decode cX2_init 24 = .ok (.putfield 9, 3) := by decide +kernel
theorem dX2_init_27 : decode cX2_init 27 = .ok (.aload_n 0, 1) := by decide +kernel
theorem dX2_init_28 : decode cX2_init 28 = .ok (.bipush 6, 2) := by decide +kernel
theorem dX2_init_30 : decode cX2_init 30 = .ok (.anewarray 15, 3) := by decide +kernel
theorem dX2_init_33 : decode cX2_init 33 = .ok (.putfield 17, 3) := by decide +kernel
theorem dX2_init_36 : decode cX2_init 36 = .ok (.aload_n 0, 1) := by decide +kernel
theorem dX2_init_37 : decode cX2_init 37 = .ok (.iconst 4, 1) := by decide +kernel
theorem dX2_init_38 : decode cX2_init 38 = .ok (.anewarray 21, 3) := by decide +kernel
theorem dX2_init_41 : decode cX2_init 41 = .ok (.putfield 23, 3) := by decide +kernel
theorem dX2_init_44 : decode cX2_init 44 = .ok (.aload_n 0, 1) := by decide +kernel
theorem dX2_init_45 : decode cX2_init 45 = .ok (.iconst 4, 1) := by decide +kernel
theorem dX2_init_46 : decode cX2_init 46 = .ok (.anewarray 27, 3) := by decide +kernel
theorem dX2_init_49 : decode cX2_init 49 = .ok (.putfield 29, 3) := by decide +kernel
theorem dX2_init_52 : decode cX2_init 52 = .ok (.iconst 0, 1) := by decide +kernel
theorem dX2_init_53 : decode cX2_init 53 = .ok (.istore_n 1, 1) := by decide +kernel
theorem dX2_init_54 : decode cX2_init 54 = .ok (.iload_n 1, 1) := by decide +kernel
theorem dX2_init_55 : decode cX2_init 55 = .ok (.bipush 6, 2) := by decide +kernel
theorem dX2_init_57 : decode cX2_init 57 = .ok (.if_icmp .ge 22, 3) := by decide +kernel
theorem dX2_init_60 : decode cX2_init 60 = .ok (.aload_n 0, 1) := by decide +kernel
theorem dX2_init_61 : decode cX2_init 61 = .ok (.getfield 17, 3) := by decide +kernel
theorem dX2_init_64 : decode cX2_init 64 = .ok (.iload_n 1, 1) := by decide +kernel
theorem dX2_init_65 : decode cX2_init 65 = .ok (.new 15, 3) := by decide +kernel
theorem dX2_init_68 : decode cX2_init 68 = .ok (.dup, 1) := by decide +kernel
theorem dX2_init_69 : decode cX2_init 69 = .ok (.invokespecial 33, 3) := by decide +kernel
theorem dX2_init_72 : decode cX2_init 72 = .ok (.aastore, 1) := by decide +kernel
theorem dX2_init_73 : decode cX2_init 73 = .ok (.iinc 1 1, 3) := by decide +kernel
theorem dX2_init_76 : decode cX2_init 76 = .ok (.goto (-22), 3) := by decide +kernel
theorem dX2_init_79 : decode cX2_init 79 = .ok (.iconst 0, 1) := by decide +kernel
theorem dX2_init_80 : decode cX2_init 80 = .ok (.istore_n 1, 1) := by decide +kernel
theorem dX2_init_81 : decode cX2_init 81 = .ok (.iload_n 1, 1) := by decide +kernel
theorem dX2_init_82 : decode cX2_init 82 = .ok (.iconst 4, 1) := by decide +kernel
theorem dX2_init_83 : decode cX2_init 83 = .ok (.if_icmp .ge 22, 3) := by decide +kernel
theorem dX2_init_86 : decode cX2_init 86 = .ok (.aload_n 0, 1) := by decide +kernel
theorem dX2_init_87 : decode cX2_init 87 = .ok (.getfield 23, 3) := by decide +kernel
theorem dX2_init_90 : decode cX2_init 90 = .ok (.iload_n 1, 1) := by decide +kernel
theorem dX2_init_91 : decode cX2_init 91 = .ok (.new 21, 3) := by decide +kernel
theorem dX2_init_94 : decode cX2_init 94 = .ok (.dup, 1) := by decide +kernel
theorem dX2_init_95 : decode cX2_init 95 = .ok (.invokespecial 34, 3) := by decide +kernel
theorem dX2_init_98 : decode cX2_init 98 = .ok (.aastore, 1) := by decide +kernel
theorem dX2_init_99 : decode cX2_init 99 = .ok (.iinc 1 1, 3) := by decide +kernel
theorem dX2_init_102 : decode cX2_init 102 = .ok (.goto (-21), 3) := by decide +kernel
theorem dX2_init_105 : decode cX2_init 105 = .ok (.iconst 0, 1) := by decide +kernel
theorem dX2_init_106 : decode cX2_init 106 = .ok (.istore_n 1, 1) := by decide +kernel
theorem dX2_init_107 : decode cX2_init 107 = .ok (.iload_n 1, 1) := by decide +kernel
theorem dX2_init_108 : decode cX2_init 108 = .ok (.iconst 4, 1) := by decide +kernel
theorem dX2_init_109 : decode cX2_init 109 = .ok (.if_icmp .ge 22, 3) := by decide +kernel
theorem dX2_init_112 : decode cX2_init 112 = .ok (.aload_n 0, 1) := by decide +kernel
theorem dX2_init_113 : decode cX2_init 113 = .ok (.getfield 29, 3) := by decide +kernel
theorem dX2_init_116 : decode cX2_init 116 = .ok (.iload_n 1, 1) := by decide +kernel
theorem dX2_init_117 : decode cX2_init 117 = .ok (.new 27, 3) := by decide +kernel
theorem dX2_init_120 : decode cX2_init 120 = .ok (.dup, 1) := by decide +kernel
theorem dX2_init_121 : decode cX2_init 121 = .ok (.invokespecial 35, 3) := by decide +kernel
theorem dX2_init_124 : decode cX2_init 124 = .ok (.aastore, 1) := by decide +kernel
theorem dX2_init_125 : decode cX2_init 125 = .ok (.iinc 1 1, 3) := by decide +kernel
theorem dX2_init_128 : decode cX2_init 128 = .ok (.goto (-21), 3) := by decide +kernel
theorem dX2_init_131 : decode cX2_init 131 = .ok (.return_, 1) := by decide +kernel
theorem dX2_copyFrom_0 : decode cX2_copyFrom 0 = .ok (.aload_n 1, 1) := by decide +kernel
theorem dX2_copyFrom_1 : decode cX2_copyFrom 1 = .ok (.getfield 9, 3) := by decide +kernel
theorem dX2_copyFrom_4 : decode cX2_copyFrom 4 = .ok (.iconst 0, 1) := by decide +kernel
theorem dX2_copyFrom_5 : decode cX2_copyFrom 5 = .ok (.aload_n 0, 1) := by decide +kernel
theorem dX2_copyFrom_6 : decode cX2_copyFrom 6 = .ok (.getfield 9, 3) := by decide +kernel
theorem dX2_copyFrom_9 : decode cX2_copyFrom 9 = .ok (.iconst 0, 1) := by decide +kernel
theorem dX2_copyFrom_10 : decode cX2_copyFrom 10 = .ok (.iconst 3, 1) := by decide +kernel
theorem dX2_copyFrom_11 : decode cX2_copyFrom 11 = .ok (.invokestatic 36, 3) := by decide +kernel
theorem dX2_copyFrom_14 : decode cX2_copyFrom 14 = .ok (.aload_n 0, 1) := by decide +kernel
theorem dX2_copyFrom_15 : decode cX2_copyFrom 15 = .ok (.aload_n 1, 1) := by decide +kernel
theorem dX2_copyFrom_16 : decode cX2_copyFrom 16 = .ok (.getfield 42, 3) := by decide +kernel
theorem dX2_copyFrom_19 : decode cX2_copyFrom 19 = .ok (.putfield 42, 3) := by decide +kernel
theorem dX2_copyFrom_22 : decode cX2_copyFrom 22 = .ok (.aload_n 0, 1) := by decide +kernel
theorem dX2_copyFrom_23 : decode cX2_copyFrom 23 = .ok (.aload_n 1, 1) := by decide +kernel
theorem dX2_copyFrom_24 : decode cX2_copyFrom 24 = .ok (.getfield 46, 3) := by decide +kernel
theorem dX2_copyFrom_27 : decode cX2_copyFrom 27 = .ok (.putfield 46, 3) := by decide +kernel
theorem dX2_copyFrom_30 : decode cX2_copyFrom 30 = .ok (.aload_n 0, 1) := by decide +kernel
theorem dX2_copyFrom_31 : decode cX2_copyFrom 31 = .ok (.aload_n 1, 1) := by decide +kernel
theorem dX2_copyFrom_32 : decode cX2_copyFrom 32 = .ok (.getfield 49, 3) := by decide +kernel
theorem dX2_copyFrom_35 : decode cX2_copyFrom 35 = .ok (.putfield 49, 3) := by decide +kernel
theorem dX2_copyFrom_38 : decode cX2_copyFrom 38 = .ok (.iconst 0, 1) := by decide +kernel
theorem dX2_copyFrom_39 : decode cX2_copyFrom 39 = .ok (.istore_n 2, 1) := by decide +kernel
theorem dX2_copyFrom_40 : decode cX2_copyFrom 40 = .ok (.iload_n 2, 1) := by decide +kernel
theorem dX2_copyFrom_41 : decode cX2_copyFrom 41 = .ok (.bipush 6, 2) := by decide +kernel
theorem dX2_copyFrom_43 : decode cX2_copyFrom 43 = .ok (.if_icmp .ge 24, 3) := by decide +kernel
theorem dX2_copyFrom_46 : decode cX2_copyFrom 46 = .ok (.aload_n 0, 1) := by decide +kernel
theorem dX2_copyFrom_47 : decode cX2_copyFrom 47 = .ok (.getfield 17, 3) := by decide +kernel
theorem dX2_copyFrom_50 : decode cX2_copyFrom 50 = .ok (.iload_n 2, 1) := by decide +kernel
theorem dX2_copyFrom_51 : decode cX2_copyFrom 51 = .ok (.aaload, 1) := by decide +kernel
theorem dX2_copyFrom_52 : decode cX2_copyFrom 52 = .ok (.aload_n 1, 1) := by decide +kernel
theorem dX2_copyFrom_53 : decode cX2_copyFrom 53 = .ok (.getfield 17, 3) := by decide +kernel
theorem dX2_copyFrom_56 : decode cX2_copyFrom 56 = .ok (.iload_n 2, 1) := by decide +kernel
theorem dX2_copyFrom_57 : decode cX2_copyFrom 57 = .ok (.aaload, 1) := by decide +kernel
theorem dX2_copyFrom_58 : decode cX2_copyFrom 58 = .ok (.invokevirtual 52, 3) := by decide +kernel
theorem dX2_copyFrom_61 : decode cX2_copyFrom 61 = .ok (.iinc 2 1, 3) := by decide +kernel
theorem dX2_copyFrom_64 : decode cX2_copyFrom 64 = .ok (.goto (-24), 3) := by decide +kernel
theorem dX2_copyFrom_67 : decode cX2_copyFrom 67 = .ok (.iconst 0, 1) := by decide +kernel
theorem dX2_copyFrom_68 : decode cX2_copyFrom 68 = .ok (.istore_n 2, 1) := by decide +kernel
theorem dX2_copyFrom_69 : decode cX2_copyFrom 69 = .ok (.iload_n 2, 1) := by decide +kernel
theorem dX2_copyFrom_70 : decode cX2_copyFrom 70 = .ok (.iconst 4, 1) := by decide +kernel
theorem dX2_copyFrom_71 : decode cX2_copyFrom 71 = .ok (.if_icmp .ge 24, 3) := by decide +kernel
theorem dX2_copyFrom_74 : decode cX2_copyFrom 74 = .ok (.aload_n 0, 1) := by decide +kernel
theorem dX2_copyFrom_75 : decode cX2_copyFrom 75 = .ok (.getfield 23, 3) := by decide +kernel
theorem dX2_copyFrom_78 : decode cX2_copyFrom 78 = .ok (.iload_n 2, 1) := by decide +kernel
theorem dX2_copyFrom_79 : decode cX2_copyFrom 79 = .ok (.aaload, 1) := by decide +kernel
theorem dX2_copyFrom_80 : decode cX2_copyFrom 80 = .ok (.aload_n 1, 1) := by decide +kernel
theorem dX2_copyFrom_81 : decode cX2_copyFrom 81 = .ok (.getfield 23, 3) := by decide +kernel
theorem dX2_copyFrom_84 : decode cX2_copyFrom 84 = .ok (.iload_n 2, 1) := by decide +kernel
theorem dX2_copyFrom_85 : decode cX2_copyFrom 85 = .ok (.aaload, 1) := by decide +kernel
theorem dX2_copyFrom_86 : decode cX2_copyFrom 86 = .ok (.invokevirtual 56, 3) := by decide +kernel
theorem dX2_copyFrom_89 : decode cX2_copyFrom 89 = .ok (.iinc 2 1, 3) := by decide +kernel
theorem dX2_copyFrom_92 : decode cX2_copyFrom 92 = .ok (.goto (-23), 3) := by decide +kernel
theorem dX2_copyFrom_95 : decode cX2_copyFrom 95 = .ok (.iconst 0, 1) := by decide +kernel
theorem dX2_copyFrom_96 : decode cX2_copyFrom 96 = .ok (.istore_n 2, 1) := by decide +kernel
theorem dX2_copyFrom_97 : decode cX2_copyFrom 97 = .ok (.iload_n 2, 1) := by decide +kernel
theorem dX2_copyFrom_98 : decode cX2_copyFrom 98 = .ok (.iconst 4, 1) := by decide +kernel
theorem dX2_copyFrom_99 : decode cX2_copyFrom 99 = .ok (.if_icmp .ge 24, 3) := by decide +kernel
theorem dX2_copyFrom_102 : decode cX2_copyFrom 102 = .ok (.aload_n 0, 1) := by decide +kernel
theorem dX2_copyFrom_103 : decode cX2_copyFrom 103 = .ok (.getfield 29, 3) := by decide +kernel
theorem dX2_copyFrom_106 : decode cX2_copyFrom 106 = .ok (.iload_n 2, 1) := by decide +kernel
theorem dX2_copyFrom_107 : decode cX2_copyFrom 107 = .ok (.aaload, 1) := by decide +kernel
theorem dX2_copyFrom_108 : decode cX2_copyFrom 108 = .ok (.aload_n 1, 1) := by decide +kernel
theorem dX2_copyFrom_109 : decode cX2_copyFrom 109 = .ok (.getfield 29, 3) := by decide +kernel
theorem dX2_copyFrom_112 : decode cX2_copyFrom 112 = .ok (.iload_n 2, 1) := by decide +kernel
theorem dX2_copyFrom_113 : decode cX2_copyFrom 113 = .ok (.aaload, 1) := by decide +kernel
theorem dX2_copyFrom_114 : decode cX2_copyFrom 114 = .ok (.invokevirtual 59, 3) := by decide +kernel
theorem dX2_copyFrom_117 : decode cX2_copyFrom 117 = .ok (.iinc 2 1, 3) := by decide +kernel
theorem dX2_copyFrom_120 : decode cX2_copyFrom 120 = .ok (.goto (-23), 3) := by decide +kernel
theorem dX2_copyFrom_123 : decode cX2_copyFrom 123 = .ok (.return_, 1) := by decide +kernel
theorem dX2_judge_0 : decode cX2_judge 0 = .ok (.iconst 0, 1) := by decide +kernel
theorem dX2_judge_1 : decode cX2_judge 1 = .ok (.istore_n 1, 1) := by decide +kernel
theorem dX2_judge_2 : decode cX2_judge 2 = .ok (.iload_n 1, 1) := by decide +kernel
theorem dX2_judge_3 : decode cX2_judge 3 = .ok (.aload_n 0, 1) := by decide +kernel
theorem dX2_judge_4 : decode cX2_judge 4 = .ok (.getfield 42, 3) := by decide +kernel
theorem dX2_judge_7 : decode cX2_judge 7 = .ok (.if_icmp .ge 30, 3) := by decide +kernel
theorem dX2_judge_10 : decode cX2_judge 10 = .ok (.iload_n 1, 1) := by decide +kernel
theorem dX2_judge_11 : decode cX2_judge 11 = .ok (.bipush 6, 2) := by decide +kernel
theorem dX2_judge_13 : decode cX2_judge 13 = .ok (.if_icmp .ge 24, 3) := by decide +kernel
theorem dX2_judge_16 : decode cX2_judge 16 = .ok (.aload_n 0, 1) := by decide +kernel
theorem dX2_judge_17 : decode cX2_judge 17 = .ok (.getfield 17, 3) := by decide +kernel
theorem dX2_judge_20 : decode cX2_judge 20 = .ok (.iload_n 1, 1) := by decide +kernel
theorem dX2_judge_21 : decode cX2_judge 21 = .ok (.aaload, 1) := by decide +kernel
theorem dX2_judge_22 : decode cX2_judge 22 = .ok (.aload_n 0, 1) := by decide +kernel
theorem dX2_judge_23 : decode cX2_judge 23 = .ok (.getfield 9, 3) := by decide +kernel
theorem dX2_judge_26 : decode cX2_judge 26 = .ok (.iconst 0, 1) := by decide +kernel
theorem dX2_judge_27 : decode cX2_judge 27 = .ok (.iaload, 1) := by decide +kernel
theorem dX2_judge_28 : decode cX2_judge 28 = .ok (.invokevirtual 62, 3) := by decide +kernel
theorem dX2_judge_31 : decode cX2_judge 31 = .ok (.iinc 1 1, 3) := by decide +kernel
theorem dX2_judge_34 : decode cX2_judge 34 = .ok (.goto (-32), 3) := by decide +kernel
theorem dX2_judge_37 : decode cX2_judge 37 = .ok (.iconst 0, 1) := by decide +kernel
theorem dX2_judge_38 : decode cX2_judge 38 = .ok (.istore_n 1, 1) := by decide +kernel
theorem dX2_judge_39 : decode cX2_judge 39 = .ok (.iload_n 1, 1) := by decide +kernel
theorem dX2_judge_40 : decode cX2_judge 40 = .ok (.aload_n 0, 1) := by decide +kernel
theorem dX2_judge_41 : decode cX2_judge 41 = .ok (.getfield 46, 3) := by decide +kernel
theorem dX2_judge_44 : decode cX2_judge 44 = .ok (.if_icmp .ge 49, 3) := by decide +kernel
theorem dX2_judge_47 : decode cX2_judge 47 = .ok (.iload_n 1, 1) := by decide +kernel
theorem dX2_judge_48 : decode cX2_judge 48 = .ok (.iconst 4, 1) := by decide +kernel
theorem dX2_judge_49 : decode cX2_judge 49 = .ok (.if_icmp .ge 44, 3) := by decide +kernel
theorem dX2_judge_52 : decode cX2_judge 52 = .ok (.aload_n 0, 1) := by decide +kernel
theorem dX2_judge_53 : decode cX2_judge 53 = .ok (.getfield 23, 3) := by decide +kernel
theorem dX2_judge_56 : decode cX2_judge 56 = .ok (.iload_n 1, 1) := by decide +kernel
theorem dX2_judge_57 : decode cX2_judge 57 = .ok (.aaload, 1) := by decide +kernel
theorem dX2_judge_58 : decode cX2_judge 58 = .ok (.aload_n 0, 1) := by decide +kernel
theorem dX2_judge_59 : decode cX2_judge 59 = .ok (.aload_n 0, 1) := by decide +kernel
theorem dX2_judge_60 : decode cX2_judge 60 = .ok (.getfield 23, 3) := by decide +kernel
theorem dX2_judge_63 : decode cX2_judge 63 = .ok (.iload_n 1, 1) := by decide +kernel
theorem dX2_judge_64 : decode cX2_judge 64 = .ok (.aaload, 1) := by decide +kernel
theorem dX2_judge_65 : decode cX2_judge 65 = .ok (.getfield 66, 3) := by decide +kernel
theorem dX2_judge_68 : decode cX2_judge 68 = .ok (.invokevirtual 69, 3) := by decide +kernel
theorem dX2_judge_71 : decode cX2_judge 71 = .ok (.aload_n 0, 1) := by decide +kernel
theorem dX2_judge_72 : decode cX2_judge 72 = .ok (.aload_n 0, 1) := by decide +kernel
theorem dX2_judge_73 : decode cX2_judge 73 = .ok (.getfield 23, 3) := by decide +kernel
theorem dX2_judge_76 : decode cX2_judge 76 = .ok (.iload_n 1, 1) := by decide +kernel
theorem dX2_judge_77 : decode cX2_judge 77 = .ok (.aaload, 1) := by decide +kernel
theorem dX2_judge_78 : decode cX2_judge 78 = .ok (.getfield 73, 3) := by decide +kernel
theorem dX2_judge_81 : decode cX2_judge 81 = .ok (.invokevirtual 69, 3) := by decide +kernel
theorem dX2_judge_84 : decode cX2_judge 84 = .ok (.invokevirtual 76, 3) := by decide +kernel
theorem dX2_judge_87 : decode cX2_judge 87 = .ok (.iinc 1 1, 3) := by decide +kernel
theorem dX2_judge_90 : decode cX2_judge 90 = .ok (.goto (-51), 3) := by decide +kernel
theorem dX2_judge_93 : decode cX2_judge 93 = .ok (.iconst 0, 1) := by decide +kernel
theorem dX2_judge_94 : decode cX2_judge 94 = .ok (.istore_n 1, 1) := by decide +kernel
theorem dX2_judge_95 : decode cX2_judge 95 = .ok (.iload_n 1, 1) := by decide +kernel
theorem dX2_judge_96 : decode cX2_judge 96 = .ok (.aload_n 0, 1) := by decide +kernel
theorem dX2_judge_97 : decode cX2_judge 97 = .ok (.getfield 49, 3) := by decide +kernel
theorem dX2_judge_100 : decode cX2_judge 100 = .ok (.if_icmp .ge 59, 3) := by decide +kernel
theorem dX2_judge_103 : decode cX2_judge 103 = .ok (.iload_n 1, 1) := by decide +kernel
theorem dX2_judge_104 : decode cX2_judge 104 = .ok (.iconst 4, 1) := by decide +kernel
theorem dX2_judge_105 : decode cX2_judge 105 = .ok (.if_icmp .ge 54, 3) := by decide +kernel
theorem dX2_judge_108 : decode cX2_judge 108 = .ok (.aload_n 0, 1) := by decide +kernel
theorem dX2_judge_109 : decode cX2_judge 109 = .ok (.aload_n 0, 1) := by decide +kernel
theorem dX2_judge_110 : decode cX2_judge 110 = .ok (.getfield 29, 3) := by decide +kernel
theorem dX2_judge_113 : decode cX2_judge 113 = .ok (.iload_n 1, 1) := by decide +kernel
theorem dX2_judge_114 : decode cX2_judge 114 = .ok (.aaload, 1) := by decide +kernel
theorem dX2_judge_115 : decode cX2_judge 115 = .ok (.getfield 79, 3) := by decide +kernel
theorem dX2_judge_118 : decode cX2_judge 118 = .ok (.invokevirtual 82, 3) := by decide +kernel
theorem dX2_judge_121 : decode cX2_judge 121 = .ok (.astore_n 2, 1) := by decide +kernel
theorem dX2_judge_122 : decode cX2_judge 122 = .ok (.aload_n 0, 1) := by decide +kernel
theorem dX2_judge_123 : decode cX2_judge 123 = .ok (.aload_n 0, 1) := by decide +kernel
theorem dX2_judge_124 : decode cX2_judge 124 = .ok (.getfield 29, 3) := by decide +kernel
theorem dX2_judge_127 : decode cX2_judge 127 = .ok (.iload_n 1, 1) := by decide +kernel
theorem dX2_judge_128 : decode cX2_judge 128 = .ok (.aaload, 1) := by decide +kernel
theorem dX2_judge_129 : decode cX2_judge 129 = .ok (.getfield 86, 3) := by decide +kernel
theorem dX2_judge_132 : decode cX2_judge 132 = .ok (.invokevirtual 82, 3) := by decide +kernel
theorem dX2_judge_135 : decode cX2_judge 135 = .ok (.astore_n 3, 1) := by decide +kernel
theorem dX2_judge_136 : decode cX2_judge 136 = .ok (.aload_n 0, 1) := by decide +kernel
theorem dX2_judge_137 : decode cX2_judge 137 = .ok (.getfield 29, 3) := by decide +kernel
theorem dX2_judge_140 : decode cX2_judge 140 = .ok (.iload_n 1, 1) := by decide +kernel
theorem dX2_judge_141 : decode cX2_judge 141 = .ok (.aaload, 1) := by decide +kernel
theorem dX2_judge_142 : decode cX2_judge 142 = .ok (.aload_n 2, 1) := by decide +kernel
theorem dX2_judge_143 : decode cX2_judge 143 = .ok (.aload_n 3, 1) := by decide +kernel
theorem dX2_judge_144 : decode cX2_judge 144 = .ok (.aload_n 0, 1) := by decide +kernel
theorem dX2_judge_145 : decode cX2_judge 145 = .ok (.getfield 9, 3) := by decide +kernel
theorem dX2_judge_148 : decode cX2_judge 148 = .ok (.iconst 1, 1) := by decide +kernel
theorem dX2_judge_149 : decode cX2_judge 149 = .ok (.iaload, 1) := by decide +kernel
theorem dX2_judge_150 : decode cX2_judge 150 = .ok (.invokevirtual 89, 3) := by decide +kernel
theorem dX2_judge_153 : decode cX2_judge 153 = .ok (.iinc 1 1, 3) := by decide +kernel
theorem dX2_judge_156 : decode cX2_judge 156 = .ok (.goto (-61), 3) := by decide +kernel
theorem dX2_judge_159 : decode cX2_judge 159 = .ok (.return_, 1) := by decide +kernel
theorem dX2_takesSetting_0 : decode cX2_takesSetting 0 = .ok (.iload_n 1, 1) := by decide +kernel
theorem dX2_takesSetting_1 : decode cX2_takesSetting 1 = .ok (.iconst 0, 1) := by decide +kernel
theorem dX2_takesSetting_2 : decode cX2_takesSetting 2 = .ok (.iconst 2, 1) := by decide +kernel
theorem dX2_takesSetting_3 : decode cX2_takesSetting 3 = .ok (.invokestatic 92, 3) := by decide +kernel
theorem dX2_takesSetting_6 : decode cX2_takesSetting 6 = .ok (.ifCond .eq 24, 3) := by decide +kernel
theorem dX2_takesSetting_9 : decode cX2_takesSetting 9 = .ok (.iload_n 2, 1) := by decide +kernel
theorem dX2_takesSetting_10 : decode cX2_takesSetting 10 = .ok (.getstatic 96, 3) := by decide +kernel
theorem dX2_takesSetting_13 : decode cX2_takesSetting 13 = .ok (.iload_n 1, 1) := by decide +kernel
theorem dX2_takesSetting_14 : decode cX2_takesSetting 14 = .ok (.iaload, 1) := by decide +kernel
theorem dX2_takesSetting_15 : decode cX2_takesSetting 15 = .ok (.getstatic 99, 3) := by decide +kernel
theorem dX2_takesSetting_18 : decode cX2_takesSetting 18 = .ok (.iload_n 1, 1) := by decide +kernel
theorem dX2_takesSetting_19 : decode cX2_takesSetting 19 = .ok (.iaload, 1) := by decide +kernel
theorem dX2_takesSetting_20 : decode cX2_takesSetting 20 = .ok (.invokestatic 92, 3) := by decide +kernel
theorem dX2_takesSetting_23 : decode cX2_takesSetting 23 = .ok (.ifCond .eq 7, 3) := by decide +kernel
theorem dX2_takesSetting_26 : decode cX2_takesSetting 26 = .ok (.iconst 1, 1) := by decide +kernel
theorem dX2_takesSetting_27 : decode cX2_takesSetting 27 = .ok (.goto 4, 3) := by decide +kernel
theorem dX2_takesSetting_30 : decode cX2_takesSetting 30 = .ok (.iconst 0, 1) := by decide +kernel
theorem dX2_takesSetting_31 : decode cX2_takesSetting 31 = .ok (.ireturn, 1) := by decide +kernel
theorem dX2_changeSetting_0 : decode cX2_changeSetting 0 = .ok (.iload_n 1, 1) := by decide +kernel
theorem dX2_changeSetting_1 : decode cX2_changeSetting 1 = .ok (.iconst 0, 1) := by decide +kernel
theorem dX2_changeSetting_2 : decode cX2_changeSetting 2 = .ok (.iconst 2, 1) := by decide +kernel
theorem dX2_changeSetting_3 : decode cX2_changeSetting 3 = .ok (.invokestatic 92, 3) := by decide +kernel
theorem dX2_changeSetting_6 : decode cX2_changeSetting 6 = .ok (.ifCond .ne 6, 3) := by decide +kernel
theorem dX2_changeSetting_9 : decode cX2_changeSetting 9 = .ok (.ldc 102, 2) := by decide +kernel
theorem dX2_changeSetting_11 : decode cX2_changeSetting 11 = .ok (.ireturn, 1) := by decide +kernel
theorem dX2_changeSetting_12 : decode cX2_changeSetting 12 = .ok (.aload_n 0, 1) := by decide +kernel
theorem dX2_changeSetting_13 : decode cX2_changeSetting 13 = .ok (.getfield 9, 3) := by decide +kernel
theorem dX2_changeSetting_16 : decode cX2_changeSetting 16 = .ok (.iload_n 1, 1) := by decide +kernel
theorem dX2_changeSetting_17 : decode cX2_changeSetting 17 = .ok (.iaload, 1) := by decide +kernel
theorem dX2_changeSetting_18 : decode cX2_changeSetting 18 = .ok (.istore_n 3, 1) := by decide +kernel
theorem dX2_changeSetting_19 : decode cX2_changeSetting 19 = .ok (.aload_n 0, 1) := by decide +kernel
theorem dX2_changeSetting_20 : decode cX2_changeSetting 20 = .ok (.getfield 9, 3) := by decide +kernel
theorem dX2_changeSetting_23 : decode cX2_changeSetting 23 = .ok (.iload_n 1, 1) := by decide +kernel
theorem dX2_changeSetting_24 : decode cX2_changeSetting 24 = .ok (.iload_n 2, 1) := by decide +kernel
theorem dX2_changeSetting_25 : decode cX2_changeSetting 25 = .ok (.iastore, 1) := by decide +kernel
theorem dX2_changeSetting_26 : decode cX2_changeSetting 26 = .ok (.iload_n 3, 1) := by decide +kernel
theorem dX2_changeSetting_27 : decode cX2_changeSetting 27 = .ok (.ireturn, 1) := by decide +kernel
theorem dX2_number_0 : decode cX2_number 0 = .ok (.iload_n 1, 1) := by decide +kernel
theorem dX2_number_1 : decode cX2_number 1 = .ok (.tableswitch 60 3 7 #[35, 40, 45, 50, 55], 35) := by decide +kernel
theorem dX2_number_36 : decode cX2_number 36 = .ok (.aload_n 0, 1) := by decide +kernel
theorem dX2_number_37 : decode cX2_number 37 = .ok (.getfield 42, 3) := by decide +kernel
theorem dX2_number_40 : decode cX2_number 40 = .ok (.ireturn, 1) := by decide +kernel
theorem dX2_number_41 : decode cX2_number 41 = .ok (.aload_n 0, 1) := by decide +kernel
theorem dX2_number_42 : decode cX2_number 42 = .ok (.getfield 46, 3) := by decide +kernel
theorem dX2_number_45 : decode cX2_number 45 = .ok (.ireturn, 1) := by decide +kernel
theorem dX2_number_46 : decode cX2_number 46 = .ok (.aload_n 0, 1) := by decide +kernel
theorem dX2_number_47 : decode cX2_number 47 = .ok (.getfield 49, 3) := by decide +kernel
theorem dX2_number_50 : decode cX2_number 50 = .ok (.ireturn, 1) := by decide +kernel
theorem dX2_number_51 : decode cX2_number 51 = .ok (.aload_n 0, 1) := by decide +kernel
theorem dX2_number_52 : decode cX2_number 52 = .ok (.invokevirtual 103, 3) := by decide +kernel
theorem dX2_number_55 : decode cX2_number 55 = .ok (.ireturn, 1) := by decide +kernel
theorem dX2_number_56 : decode cX2_number 56 = .ok (.aload_n 0, 1) := by decide +kernel
theorem dX2_number_57 : decode cX2_number 57 = .ok (.invokevirtual 107, 3) := by decide +kernel
theorem dX2_number_60 : decode cX2_number 60 = .ok (.ireturn, 1) := by decide +kernel
theorem dX2_number_61 : decode cX2_number 61 = .ok (.iload_n 1, 1) := by decide +kernel
theorem dX2_number_62 : decode cX2_number 62 = .ok (.iconst 0, 1) := by decide +kernel
theorem dX2_number_63 : decode cX2_number 63 = .ok (.iconst 2, 1) := by decide +kernel
theorem dX2_number_64 : decode cX2_number 64 = .ok (.invokestatic 92, 3) := by decide +kernel
theorem dX2_number_67 : decode cX2_number 67 = .ok (.ifCond .eq 12, 3) := by decide +kernel
theorem dX2_number_70 : decode cX2_number 70 = .ok (.aload_n 0, 1) := by decide +kernel
theorem dX2_number_71 : decode cX2_number 71 = .ok (.getfield 9, 3) := by decide +kernel
theorem dX2_number_74 : decode cX2_number 74 = .ok (.iload_n 1, 1) := by decide +kernel
theorem dX2_number_75 : decode cX2_number 75 = .ok (.iaload, 1) := by decide +kernel
theorem dX2_number_76 : decode cX2_number 76 = .ok (.goto 5, 3) := by decide +kernel
theorem dX2_number_79 : decode cX2_number 79 = .ok (.ldc 102, 2) := by decide +kernel
theorem dX2_number_81 : decode cX2_number 81 = .ok (.ireturn, 1) := by decide +kernel
theorem dX2_legsOfAll_0 : decode cX2_legsOfAll 0 = .ok (.iconst 0, 1) := by decide +kernel
theorem dX2_legsOfAll_1 : decode cX2_legsOfAll 1 = .ok (.istore_n 1, 1) := by decide +kernel
theorem dX2_legsOfAll_2 : decode cX2_legsOfAll 2 = .ok (.iconst 0, 1) := by decide +kernel
theorem dX2_legsOfAll_3 : decode cX2_legsOfAll 3 = .ok (.istore_n 2, 1) := by decide +kernel
theorem dX2_legsOfAll_4 : decode cX2_legsOfAll 4 = .ok (.iload_n 2, 1) := by decide +kernel
theorem dX2_legsOfAll_5 : decode cX2_legsOfAll 5 = .ok (.aload_n 0, 1) := by decide +kernel
theorem dX2_legsOfAll_6 : decode cX2_legsOfAll 6 = .ok (.getfield 49, 3) := by decide +kernel
theorem dX2_legsOfAll_9 : decode cX2_legsOfAll 9 = .ok (.if_icmp .ge 26, 3) := by decide +kernel
theorem dX2_legsOfAll_12 : decode cX2_legsOfAll 12 = .ok (.iload_n 2, 1) := by decide +kernel
theorem dX2_legsOfAll_13 : decode cX2_legsOfAll 13 = .ok (.iconst 4, 1) := by decide +kernel
theorem dX2_legsOfAll_14 : decode cX2_legsOfAll 14 = .ok (.if_icmp .ge 21, 3) := by decide +kernel
theorem dX2_legsOfAll_17 : decode cX2_legsOfAll 17 = .ok (.iload_n 1, 1) := by decide +kernel
theorem dX2_legsOfAll_18 : decode cX2_legsOfAll 18 = .ok (.aload_n 0, 1) := by decide +kernel
theorem dX2_legsOfAll_19 : decode cX2_legsOfAll 19 = .ok (.getfield 29, 3) := by decide +kernel
theorem dX2_legsOfAll_22 : decode cX2_legsOfAll 22 = .ok (.iload_n 2, 1) := by decide +kernel
theorem dX2_legsOfAll_23 : decode cX2_legsOfAll 23 = .ok (.aaload, 1) := by decide +kernel
theorem dX2_legsOfAll_24 : decode cX2_legsOfAll 24 = .ok (.getfield 110, 3) := by decide +kernel
theorem dX2_legsOfAll_27 : decode cX2_legsOfAll 27 = .ok (.iadd, 1) := by decide +kernel
theorem dX2_legsOfAll_28 : decode cX2_legsOfAll 28 = .ok (.istore_n 1, 1) := by decide +kernel
theorem dX2_legsOfAll_29 : decode cX2_legsOfAll 29 = .ok (.iinc 2 1, 3) := by decide +kernel
theorem dX2_legsOfAll_32 : decode cX2_legsOfAll 32 = .ok (.goto (-28), 3) := by decide +kernel
theorem dX2_legsOfAll_35 : decode cX2_legsOfAll 35 = .ok (.iload_n 1, 1) := by decide +kernel
theorem dX2_legsOfAll_36 : decode cX2_legsOfAll 36 = .ok (.ireturn, 1) := by decide +kernel
theorem dX2_turnsOfAll_0 : decode cX2_turnsOfAll 0 = .ok (.iconst 0, 1) := by decide +kernel
theorem dX2_turnsOfAll_1 : decode cX2_turnsOfAll 1 = .ok (.istore_n 1, 1) := by decide +kernel
theorem dX2_turnsOfAll_2 : decode cX2_turnsOfAll 2 = .ok (.iconst 0, 1) := by decide +kernel
theorem dX2_turnsOfAll_3 : decode cX2_turnsOfAll 3 = .ok (.istore_n 2, 1) := by decide +kernel
theorem dX2_turnsOfAll_4 : decode cX2_turnsOfAll 4 = .ok (.iload_n 2, 1) := by decide +kernel
theorem dX2_turnsOfAll_5 : decode cX2_turnsOfAll 5 = .ok (.aload_n 0, 1) := by decide +kernel
theorem dX2_turnsOfAll_6 : decode cX2_turnsOfAll 6 = .ok (.getfield 42, 3) := by decide +kernel
theorem dX2_turnsOfAll_9 : decode cX2_turnsOfAll 9 = .ok (.if_icmp .ge 27, 3) := by decide +kernel
theorem dX2_turnsOfAll_12 : decode cX2_turnsOfAll 12 = .ok (.iload_n 2, 1) := by decide +kernel
theorem dX2_turnsOfAll_13 : decode cX2_turnsOfAll 13 = .ok (.bipush 6, 2) := by decide +kernel
theorem dX2_turnsOfAll_15 : decode cX2_turnsOfAll 15 = .ok (.if_icmp .ge 21, 3) := by decide +kernel
theorem dX2_turnsOfAll_18 : decode cX2_turnsOfAll 18 = .ok (.iload_n 1, 1) := by decide +kernel
theorem dX2_turnsOfAll_19 : decode cX2_turnsOfAll 19 = .ok (.aload_n 0, 1) := by decide +kernel
theorem dX2_turnsOfAll_20 : decode cX2_turnsOfAll 20 = .ok (.getfield 17, 3) := by decide +kernel
theorem dX2_turnsOfAll_23 : decode cX2_turnsOfAll 23 = .ok (.iload_n 2, 1) := by decide +kernel
theorem dX2_turnsOfAll_24 : decode cX2_turnsOfAll 24 = .ok (.aaload, 1) := by decide +kernel
theorem dX2_turnsOfAll_25 : decode cX2_turnsOfAll 25 = .ok (.getfield 113, 3) := by decide +kernel
theorem dX2_turnsOfAll_28 : decode cX2_turnsOfAll 28 = .ok (.iadd, 1) := by decide +kernel
theorem dX2_turnsOfAll_29 : decode cX2_turnsOfAll 29 = .ok (.istore_n 1, 1) := by decide +kernel
theorem dX2_turnsOfAll_30 : decode cX2_turnsOfAll 30 = .ok (.iinc 2 1, 3) := by decide +kernel
theorem dX2_turnsOfAll_33 : decode cX2_turnsOfAll 33 = .ok (.goto (-29), 3) := by decide +kernel
theorem dX2_turnsOfAll_36 : decode cX2_turnsOfAll 36 = .ok (.iload_n 1, 1) := by decide +kernel
theorem dX2_turnsOfAll_37 : decode cX2_turnsOfAll 37 = .ok (.ireturn, 1) := by decide +kernel
theorem dX2_wireAt_0 : decode cX2_wireAt 0 = .ok (.iload_n 1, 1) := by decide +kernel
theorem dX2_wireAt_1 : decode cX2_wireAt 1 = .ok (.iconst 0, 1) := by decide +kernel
theorem dX2_wireAt_2 : decode cX2_wireAt 2 = .ok (.aload_n 0, 1) := by decide +kernel
theorem dX2_wireAt_3 : decode cX2_wireAt 3 = .ok (.getfield 42, 3) := by decide +kernel
theorem dX2_wireAt_6 : decode cX2_wireAt 6 = .ok (.iconst 1, 1) := by decide +kernel
theorem dX2_wireAt_7 : decode cX2_wireAt 7 = .ok (.isub, 1) := by decide +kernel
theorem dX2_wireAt_8 : decode cX2_wireAt 8 = .ok (.invokestatic 92, 3) := by decide +kernel
theorem dX2_wireAt_11 : decode cX2_wireAt 11 = .ok (.ifCond .eq 18, 3) := by decide +kernel
theorem dX2_wireAt_14 : decode cX2_wireAt 14 = .ok (.iload_n 1, 1) := by decide +kernel
theorem dX2_wireAt_15 : decode cX2_wireAt 15 = .ok (.bipush 6, 2) := by decide +kernel
theorem dX2_wireAt_17 : decode cX2_wireAt 17 = .ok (.if_icmp .ge 12, 3) := by decide +kernel
theorem dX2_wireAt_20 : decode cX2_wireAt 20 = .ok (.aload_n 0, 1) := by decide +kernel
theorem dX2_wireAt_21 : decode cX2_wireAt 21 = .ok (.getfield 17, 3) := by decide +kernel
theorem dX2_wireAt_24 : decode cX2_wireAt 24 = .ok (.iload_n 1, 1) := by decide +kernel
theorem dX2_wireAt_25 : decode cX2_wireAt 25 = .ok (.aaload, 1) := by decide +kernel
theorem dX2_wireAt_26 : decode cX2_wireAt 26 = .ok (.goto 4, 3) := by decide +kernel
theorem dX2_wireAt_29 : decode cX2_wireAt 29 = .ok (.aconst_null, 1) := by decide +kernel
theorem dX2_wireAt_30 : decode cX2_wireAt 30 = .ok (.areturn, 1) := by decide +kernel
theorem dX2_joinAt_0 : decode cX2_joinAt 0 = .ok (.iload_n 1, 1) := by decide +kernel
theorem dX2_joinAt_1 : decode cX2_joinAt 1 = .ok (.iconst 0, 1) := by decide +kernel
theorem dX2_joinAt_2 : decode cX2_joinAt 2 = .ok (.aload_n 0, 1) := by decide +kernel
theorem dX2_joinAt_3 : decode cX2_joinAt 3 = .ok (.getfield 46, 3) := by decide +kernel
theorem dX2_joinAt_6 : decode cX2_joinAt 6 = .ok (.iconst 1, 1) := by decide +kernel
theorem dX2_joinAt_7 : decode cX2_joinAt 7 = .ok (.isub, 1) := by decide +kernel
theorem dX2_joinAt_8 : decode cX2_joinAt 8 = .ok (.invokestatic 92, 3) := by decide +kernel
theorem dX2_joinAt_11 : decode cX2_joinAt 11 = .ok (.ifCond .eq 17, 3) := by decide +kernel
theorem dX2_joinAt_14 : decode cX2_joinAt 14 = .ok (.iload_n 1, 1) := by decide +kernel
theorem dX2_joinAt_15 : decode cX2_joinAt 15 = .ok (.iconst 4, 1) := by decide +kernel
theorem dX2_joinAt_16 : decode cX2_joinAt 16 = .ok (.if_icmp .ge 12, 3) := by decide +kernel
theorem dX2_joinAt_19 : decode cX2_joinAt 19 = .ok (.aload_n 0, 1) := by decide +kernel
theorem dX2_joinAt_20 : decode cX2_joinAt 20 = .ok (.getfield 23, 3) := by decide +kernel
theorem dX2_joinAt_23 : decode cX2_joinAt 23 = .ok (.iload_n 1, 1) := by decide +kernel
theorem dX2_joinAt_24 : decode cX2_joinAt 24 = .ok (.aaload, 1) := by decide +kernel
theorem dX2_joinAt_25 : decode cX2_joinAt 25 = .ok (.goto 4, 3) := by decide +kernel
theorem dX2_joinAt_28 : decode cX2_joinAt 28 = .ok (.aconst_null, 1) := by decide +kernel
theorem dX2_joinAt_29 : decode cX2_joinAt 29 = .ok (.areturn, 1) := by decide +kernel
theorem dX2_traverseAt_0 : decode cX2_traverseAt 0 = .ok (.iload_n 1, 1) := by decide +kernel
theorem dX2_traverseAt_1 : decode cX2_traverseAt 1 = .ok (.iconst 0, 1) := by decide +kernel
theorem dX2_traverseAt_2 : decode cX2_traverseAt 2 = .ok (.aload_n 0, 1) := by decide +kernel
theorem dX2_traverseAt_3 : decode cX2_traverseAt 3 = .ok (.getfield 49, 3) := by decide +kernel
theorem dX2_traverseAt_6 : decode cX2_traverseAt 6 = .ok (.iconst 1, 1) := by decide +kernel
theorem dX2_traverseAt_7 : decode cX2_traverseAt 7 = .ok (.isub, 1) := by decide +kernel
theorem dX2_traverseAt_8 : decode cX2_traverseAt 8 = .ok (.invokestatic 92, 3) := by decide +kernel
theorem dX2_traverseAt_11 : decode cX2_traverseAt 11 = .ok (.ifCond .eq 17, 3) := by decide +kernel
theorem dX2_traverseAt_14 : decode cX2_traverseAt 14 = .ok (.iload_n 1, 1) := by decide +kernel
theorem dX2_traverseAt_15 : decode cX2_traverseAt 15 = .ok (.iconst 4, 1) := by decide +kernel
theorem dX2_traverseAt_16 : decode cX2_traverseAt 16 = .ok (.if_icmp .ge 12, 3) := by decide +kernel
theorem dX2_traverseAt_19 : decode cX2_traverseAt 19 = .ok (.aload_n 0, 1) := by decide +kernel
theorem dX2_traverseAt_20 : decode cX2_traverseAt 20 = .ok (.getfield 29, 3) := by decide +kernel
theorem dX2_traverseAt_23 : decode cX2_traverseAt 23 = .ok (.iload_n 1, 1) := by decide +kernel
theorem dX2_traverseAt_24 : decode cX2_traverseAt 24 = .ok (.aaload, 1) := by decide +kernel
theorem dX2_traverseAt_25 : decode cX2_traverseAt 25 = .ok (.goto 4, 3) := by decide +kernel
theorem dX2_traverseAt_28 : decode cX2_traverseAt 28 = .ok (.aconst_null, 1) := by decide +kernel
theorem dX2_traverseAt_29 : decode cX2_traverseAt 29 = .ok (.areturn, 1) := by decide +kernel
theorem dX2_addWire_0 : decode cX2_addWire 0 = .ok (.aload_n 0, 1) := by decide +kernel
theorem dX2_addWire_1 : decode cX2_addWire 1 = .ok (.getfield 42, 3) := by decide +kernel
theorem dX2_addWire_4 : decode cX2_addWire 4 = .ok (.iconst 0, 1) := by decide +kernel
theorem dX2_addWire_5 : decode cX2_addWire 5 = .ok (.iconst 5, 1) := by decide +kernel
theorem dX2_addWire_6 : decode cX2_addWire 6 = .ok (.invokestatic 92, 3) := by decide +kernel
theorem dX2_addWire_9 : decode cX2_addWire 9 = .ok (.ifCond .ne 6, 3) := by decide +kernel
theorem dX2_addWire_12 : decode cX2_addWire 12 = .ok (.ldc 102, 2) := by decide +kernel
theorem dX2_addWire_14 : decode cX2_addWire 14 = .ok (.ireturn, 1) := by decide +kernel
theorem dX2_addWire_15 : decode cX2_addWire 15 = .ok (.aload_n 0, 1) := by decide +kernel
theorem dX2_addWire_16 : decode cX2_addWire 16 = .ok (.getfield 17, 3) := by decide +kernel
theorem dX2_addWire_19 : decode cX2_addWire 19 = .ok (.aload_n 0, 1) := by decide +kernel
theorem dX2_addWire_20 : decode cX2_addWire 20 = .ok (.getfield 42, 3) := by decide +kernel
theorem dX2_addWire_23 : decode cX2_addWire 23 = .ok (.aaload, 1) := by decide +kernel
theorem dX2_addWire_24 : decode cX2_addWire 24 = .ok (.iload_n 1, 1) := by decide +kernel
theorem dX2_addWire_25 : decode cX2_addWire 25 = .ok (.iload_n 2, 1) := by decide +kernel
theorem dX2_addWire_26 : decode cX2_addWire 26 = .ok (.invokevirtual 116, 3) := by decide +kernel
theorem dX2_addWire_29 : decode cX2_addWire 29 = .ok (.aload_n 0, 1) := by decide +kernel
theorem dX2_addWire_30 : decode cX2_addWire 30 = .ok (.dup, 1) := by decide +kernel
theorem dX2_addWire_31 : decode cX2_addWire 31 = .ok (.getfield 42, 3) := by decide +kernel
theorem dX2_addWire_34 : decode cX2_addWire 34 = .ok (.iconst 1, 1) := by decide +kernel
theorem dX2_addWire_35 : decode cX2_addWire 35 = .ok (.iadd, 1) := by decide +kernel
theorem dX2_addWire_36 : decode cX2_addWire 36 = .ok (.putfield 42, 3) := by decide +kernel
theorem dX2_addWire_39 : decode cX2_addWire 39 = .ok (.aload_n 0, 1) := by decide +kernel
theorem dX2_addWire_40 : decode cX2_addWire 40 = .ok (.getfield 42, 3) := by decide +kernel
theorem dX2_addWire_43 : decode cX2_addWire 43 = .ok (.iconst 1, 1) := by decide +kernel
theorem dX2_addWire_44 : decode cX2_addWire 44 = .ok (.isub, 1) := by decide +kernel
theorem dX2_addWire_45 : decode cX2_addWire 45 = .ok (.ireturn, 1) := by decide +kernel
theorem dX2_addJoin_0 : decode cX2_addJoin 0 = .ok (.aload_n 0, 1) := by decide +kernel
theorem dX2_addJoin_1 : decode cX2_addJoin 1 = .ok (.getfield 46, 3) := by decide +kernel
theorem dX2_addJoin_4 : decode cX2_addJoin 4 = .ok (.iconst 0, 1) := by decide +kernel
theorem dX2_addJoin_5 : decode cX2_addJoin 5 = .ok (.iconst 3, 1) := by decide +kernel
theorem dX2_addJoin_6 : decode cX2_addJoin 6 = .ok (.invokestatic 92, 3) := by decide +kernel
theorem dX2_addJoin_9 : decode cX2_addJoin 9 = .ok (.ifCond .ne 6, 3) := by decide +kernel
theorem dX2_addJoin_12 : decode cX2_addJoin 12 = .ok (.ldc 102, 2) := by decide +kernel
theorem dX2_addJoin_14 : decode cX2_addJoin 14 = .ok (.ireturn, 1) := by decide +kernel
theorem dX2_addJoin_15 : decode cX2_addJoin 15 = .ok (.aload_n 0, 1) := by decide +kernel
theorem dX2_addJoin_16 : decode cX2_addJoin 16 = .ok (.getfield 23, 3) := by decide +kernel
theorem dX2_addJoin_19 : decode cX2_addJoin 19 = .ok (.aload_n 0, 1) := by decide +kernel
theorem dX2_addJoin_20 : decode cX2_addJoin 20 = .ok (.getfield 46, 3) := by decide +kernel
theorem dX2_addJoin_23 : decode cX2_addJoin 23 = .ok (.aaload, 1) := by decide +kernel
theorem dX2_addJoin_24 : decode cX2_addJoin 24 = .ok (.iload_n 1, 1) := by decide +kernel
theorem dX2_addJoin_25 : decode cX2_addJoin 25 = .ok (.iload_n 2, 1) := by decide +kernel
theorem dX2_addJoin_26 : decode cX2_addJoin 26 = .ok (.iload_n 3, 1) := by decide +kernel
theorem dX2_addJoin_27 : decode cX2_addJoin 27 = .ok (.iload 4, 2) := by decide +kernel
theorem dX2_addJoin_29 : decode cX2_addJoin 29 = .ok (.iload 5, 2) := by decide +kernel
theorem dX2_addJoin_31 : decode cX2_addJoin 31 = .ok (.iload 6, 2) := by decide +kernel
theorem dX2_addJoin_33 : decode cX2_addJoin 33 = .ok (.invokevirtual 120, 3) := by decide +kernel
theorem dX2_addJoin_36 : decode cX2_addJoin 36 = .ok (.aload_n 0, 1) := by decide +kernel
theorem dX2_addJoin_37 : decode cX2_addJoin 37 = .ok (.dup, 1) := by decide +kernel
theorem dX2_addJoin_38 : decode cX2_addJoin 38 = .ok (.getfield 46, 3) := by decide +kernel
theorem dX2_addJoin_41 : decode cX2_addJoin 41 = .ok (.iconst 1, 1) := by decide +kernel
theorem dX2_addJoin_42 : decode cX2_addJoin 42 = .ok (.iadd, 1) := by decide +kernel
theorem dX2_addJoin_43 : decode cX2_addJoin 43 = .ok (.putfield 46, 3) := by decide +kernel
theorem dX2_addJoin_46 : decode cX2_addJoin 46 = .ok (.aload_n 0, 1) := by decide +kernel
theorem dX2_addJoin_47 : decode cX2_addJoin 47 = .ok (.getfield 46, 3) := by decide +kernel
theorem dX2_addJoin_50 : decode cX2_addJoin 50 = .ok (.iconst 1, 1) := by decide +kernel
theorem dX2_addJoin_51 : decode cX2_addJoin 51 = .ok (.isub, 1) := by decide +kernel
theorem dX2_addJoin_52 : decode cX2_addJoin 52 = .ok (.ireturn, 1) := by decide +kernel
theorem dX2_addTraverse_0 : decode cX2_addTraverse 0 = .ok (.aload_n 0, 1) := by decide +kernel
theorem dX2_addTraverse_1 : decode cX2_addTraverse 1 = .ok (.getfield 49, 3) := by decide +kernel
theorem dX2_addTraverse_4 : decode cX2_addTraverse 4 = .ok (.iconst 0, 1) := by decide +kernel
theorem dX2_addTraverse_5 : decode cX2_addTraverse 5 = .ok (.iconst 3, 1) := by decide +kernel
theorem dX2_addTraverse_6 : decode cX2_addTraverse 6 = .ok (.invokestatic 92, 3) := by decide +kernel
theorem dX2_addTraverse_9 : decode cX2_addTraverse 9 = .ok (.ifCond .ne 6, 3) := by decide +kernel
theorem dX2_addTraverse_12 : decode cX2_addTraverse 12 = .ok (.ldc 102, 2) := by decide +kernel
theorem dX2_addTraverse_14 : decode cX2_addTraverse 14 = .ok (.ireturn, 1) := by decide +kernel
theorem dX2_addTraverse_15 : decode cX2_addTraverse 15 = .ok (.aload_n 0, 1) := by decide +kernel
theorem dX2_addTraverse_16 : decode cX2_addTraverse 16 = .ok (.getfield 29, 3) := by decide +kernel
theorem dX2_addTraverse_19 : decode cX2_addTraverse 19 = .ok (.aload_n 0, 1) := by decide +kernel
theorem dX2_addTraverse_20 : decode cX2_addTraverse 20 = .ok (.getfield 49, 3) := by decide +kernel
theorem dX2_addTraverse_23 : decode cX2_addTraverse 23 = .ok (.aaload, 1) := by decide +kernel
theorem dX2_addTraverse_24 : decode cX2_addTraverse 24 = .ok (.iload_n 1, 1) := by decide +kernel
theorem dX2_addTraverse_25 : decode cX2_addTraverse 25 = .ok (.invokevirtual 124, 3) := by decide +kernel
theorem dX2_addTraverse_28 : decode cX2_addTraverse 28 = .ok (.aload_n 0, 1) := by decide +kernel
theorem dX2_addTraverse_29 : decode cX2_addTraverse 29 = .ok (.dup, 1) := by decide +kernel
theorem dX2_addTraverse_30 : decode cX2_addTraverse 30 = .ok (.getfield 49, 3) := by decide +kernel
theorem dX2_addTraverse_33 : decode cX2_addTraverse 33 = .ok (.iconst 1, 1) := by decide +kernel
theorem dX2_addTraverse_34 : decode cX2_addTraverse 34 = .ok (.iadd, 1) := by decide +kernel
theorem dX2_addTraverse_35 : decode cX2_addTraverse 35 = .ok (.putfield 49, 3) := by decide +kernel
theorem dX2_addTraverse_38 : decode cX2_addTraverse 38 = .ok (.aload_n 0, 1) := by decide +kernel
theorem dX2_addTraverse_39 : decode cX2_addTraverse 39 = .ok (.getfield 49, 3) := by decide +kernel
theorem dX2_addTraverse_42 : decode cX2_addTraverse 42 = .ok (.iconst 1, 1) := by decide +kernel
theorem dX2_addTraverse_43 : decode cX2_addTraverse 43 = .ok (.isub, 1) := by decide +kernel
theorem dX2_addTraverse_44 : decode cX2_addTraverse 44 = .ok (.ireturn, 1) := by decide +kernel
theorem dX2_troubleOf_0 : decode cX2_troubleOf 0 = .ok (.iload_n 2, 1) := by decide +kernel
theorem dX2_troubleOf_1 : decode cX2_troubleOf 1 = .ok (.ifCond .ne 20, 3) := by decide +kernel
theorem dX2_troubleOf_4 : decode cX2_troubleOf 4 = .ok (.aload_n 1, 1) := by decide +kernel
theorem dX2_troubleOf_5 : decode cX2_troubleOf 5 = .ok (.getfield 127, 3) := by decide +kernel
theorem dX2_troubleOf_8 : decode cX2_troubleOf 8 = .ok (.ifCond .ne 8, 3) := by decide +kernel
theorem dX2_troubleOf_11 : decode cX2_troubleOf 11 = .ok (.ldc 102, 2) := by decide +kernel
theorem dX2_troubleOf_13 : decode cX2_troubleOf 13 = .ok (.goto 7, 3) := by decide +kernel
theorem dX2_troubleOf_16 : decode cX2_troubleOf 16 = .ok (.aload_n 1, 1) := by decide +kernel
theorem dX2_troubleOf_17 : decode cX2_troubleOf 17 = .ok (.getfield 127, 3) := by decide +kernel
theorem dX2_troubleOf_20 : decode cX2_troubleOf 20 = .ok (.ireturn, 1) := by decide +kernel
theorem dX2_troubleOf_21 : decode cX2_troubleOf 21 = .ok (.aconst_null, 1) := by decide +kernel
theorem dX2_troubleOf_22 : decode cX2_troubleOf 22 = .ok (.astore_n 3, 1) := by decide +kernel
theorem dX2_troubleOf_23 : decode cX2_troubleOf 23 = .ok (.aload_n 1, 1) := by decide +kernel
theorem dX2_troubleOf_24 : decode cX2_troubleOf 24 = .ok (.getfield 127, 3) := by decide +kernel
theorem dX2_troubleOf_27 : decode cX2_troubleOf 27 = .ok (.bipush 6, 2) := by decide +kernel
theorem dX2_troubleOf_29 : decode cX2_troubleOf 29 = .ok (.if_icmp .ne 15, 3) := by decide +kernel
theorem dX2_troubleOf_32 : decode cX2_troubleOf 32 = .ok (.aload_n 0, 1) := by decide +kernel
theorem dX2_troubleOf_33 : decode cX2_troubleOf 33 = .ok (.aload_n 1, 1) := by decide +kernel
theorem dX2_troubleOf_34 : decode cX2_troubleOf 34 = .ok (.getfield 79, 3) := by decide +kernel
theorem dX2_troubleOf_37 : decode cX2_troubleOf 37 = .ok (.invokevirtual 82, 3) := by decide +kernel
theorem dX2_troubleOf_40 : decode cX2_troubleOf 40 = .ok (.astore_n 3, 1) := by decide +kernel
theorem dX2_troubleOf_41 : decode cX2_troubleOf 41 = .ok (.goto 21, 3) := by decide +kernel
theorem dX2_troubleOf_44 : decode cX2_troubleOf 44 = .ok (.aload_n 1, 1) := by decide +kernel
theorem dX2_troubleOf_45 : decode cX2_troubleOf 45 = .ok (.getfield 127, 3) := by decide +kernel
theorem dX2_troubleOf_48 : decode cX2_troubleOf 48 = .ok (.bipush 7, 2) := by decide +kernel
theorem dX2_troubleOf_50 : decode cX2_troubleOf 50 = .ok (.if_icmp .ne 12, 3) := by decide +kernel
theorem dX2_troubleOf_53 : decode cX2_troubleOf 53 = .ok (.aload_n 0, 1) := by decide +kernel
theorem dX2_troubleOf_54 : decode cX2_troubleOf 54 = .ok (.aload_n 1, 1) := by decide +kernel
theorem dX2_troubleOf_55 : decode cX2_troubleOf 55 = .ok (.getfield 86, 3) := by decide +kernel
theorem dX2_troubleOf_58 : decode cX2_troubleOf 58 = .ok (.invokevirtual 82, 3) := by decide +kernel
theorem dX2_troubleOf_61 : decode cX2_troubleOf 61 = .ok (.astore_n 3, 1) := by decide +kernel
theorem dX2_troubleOf_62 : decode cX2_troubleOf 62 = .ok (.aload_n 3, 1) := by decide +kernel
theorem dX2_troubleOf_63 : decode cX2_troubleOf 63 = .ok (.ifnonnull 6, 3) := by decide +kernel
theorem dX2_troubleOf_66 : decode cX2_troubleOf 66 = .ok (.ldc 102, 2) := by decide +kernel
theorem dX2_troubleOf_68 : decode cX2_troubleOf 68 = .ok (.ireturn, 1) := by decide +kernel
theorem dX2_troubleOf_69 : decode cX2_troubleOf 69 = .ok (.iload_n 2, 1) := by decide +kernel
theorem dX2_troubleOf_70 : decode cX2_troubleOf 70 = .ok (.iconst 1, 1) := by decide +kernel
theorem dX2_troubleOf_71 : decode cX2_troubleOf 71 = .ok (.if_icmp .ne 8, 3) := by decide +kernel
theorem dX2_troubleOf_74 : decode cX2_troubleOf 74 = .ok (.aload_n 3, 1) := by decide +kernel
theorem dX2_troubleOf_75 : decode cX2_troubleOf 75 = .ok (.getfield 130, 3) := by decide +kernel
theorem dX2_troubleOf_78 : decode cX2_troubleOf 78 = .ok (.ireturn, 1) := by decide +kernel
theorem dX2_troubleOf_79 : decode cX2_troubleOf 79 = .ok (.iload_n 2, 1) := by decide +kernel
theorem dX2_troubleOf_80 : decode cX2_troubleOf 80 = .ok (.iconst 2, 1) := by decide +kernel
theorem dX2_troubleOf_81 : decode cX2_troubleOf 81 = .ok (.if_icmp .ne 17, 3) := by decide +kernel
theorem dX2_troubleOf_84 : decode cX2_troubleOf 84 = .ok (.aload_n 3, 1) := by decide +kernel
theorem dX2_troubleOf_85 : decode cX2_troubleOf 85 = .ok (.getfield 131, 3) := by decide +kernel
theorem dX2_troubleOf_88 : decode cX2_troubleOf 88 = .ok (.ifCond .eq 10, 3) := by decide +kernel
theorem dX2_troubleOf_91 : decode cX2_troubleOf 91 = .ok (.aload_n 3, 1) := by decide +kernel
theorem dX2_troubleOf_92 : decode cX2_troubleOf 92 = .ok (.getfield 131, 3) := by decide +kernel
theorem dX2_troubleOf_95 : decode cX2_troubleOf 95 = .ok (.goto 5, 3) := by decide +kernel
theorem dX2_troubleOf_98 : decode cX2_troubleOf 98 = .ok (.ldc 102, 2) := by decide +kernel
theorem dX2_troubleOf_100 : decode cX2_troubleOf 100 = .ok (.ireturn, 1) := by decide +kernel
theorem dX3_norm_0 : decode cX3_norm 0 = .ok (.iload_n 0, 1) := by decide +kernel
theorem dX3_norm_1 : decode cX3_norm 1 = .ok (.ldc 9, 2) := by decide +kernel
theorem dX3_norm_3 : decode cX3_norm 3 = .ok (.irem, 1) := by decide +kernel
theorem dX3_norm_4 : decode cX3_norm 4 = .ok (.istore_n 1, 1) := by decide +kernel
theorem dX3_norm_5 : decode cX3_norm 5 = .ok (.iload_n 1, 1) := by decide +kernel
theorem dX3_norm_6 : decode cX3_norm 6 = .ok (.ifCond .ge 10, 3) := by decide +kernel
theorem dX3_norm_9 : decode cX3_norm 9 = .ok (.iload_n 1, 1) := by decide +kernel
theorem dX3_norm_10 : decode cX3_norm 10 = .ok (.ldc 9, 2) := by decide +kernel
theorem dX3_norm_12 : decode cX3_norm 12 = .ok (.iadd, 1) := by decide +kernel
theorem dX3_norm_13 : decode cX3_norm 13 = .ok (.goto 4, 3) := by decide +kernel
theorem dX3_norm_16 : decode cX3_norm 16 = .ok (.iload_n 1, 1) := by decide +kernel
theorem dX3_norm_17 : decode cX3_norm 17 = .ok (.ireturn, 1) := by decide +kernel
theorem dX3_centre_0 : decode cX3_centre 0 = .ok (.iload_n 0, 1) := by decide +kernel
theorem dX3_centre_1 : decode cX3_centre 1 = .ok (.ldc 10, 2) := by decide +kernel
theorem dX3_centre_3 : decode cX3_centre 3 = .ok (.iadd, 1) := by decide +kernel
theorem dX3_centre_4 : decode cX3_centre 4 = .ok (.invokestatic 11, 3) := by decide +kernel
theorem dX3_centre_7 : decode cX3_centre 7 = .ok (.ldc 10, 2) := by decide +kernel
theorem dX3_centre_9 : decode cX3_centre 9 = .ok (.isub, 1) := by decide +kernel
theorem dX3_centre_10 : decode cX3_centre 10 = .ok (.ireturn, 1) := by decide +kernel
theorem dX3_sineOf_0 : decode cX3_sineOf 0 = .ok (.iload_n 0, 1) := by decide +kernel
theorem dX3_sineOf_1 : decode cX3_sineOf 1 = .ok (.invokestatic 11, 3) := by decide +kernel
theorem dX3_sineOf_4 : decode cX3_sineOf 4 = .ok (.istore_n 1, 1) := by decide +kernel
theorem dX3_sineOf_5 : decode cX3_sineOf 5 = .ok (.iload_n 1, 1) := by decide +kernel
theorem dX3_sineOf_6 : decode cX3_sineOf 6 = .ok (.ldc 10, 2) := by decide +kernel
theorem dX3_sineOf_8 : decode cX3_sineOf 8 = .ok (.if_icmp .ge 8, 3) := by decide +kernel
theorem dX3_sineOf_11 : decode cX3_sineOf 11 = .ok (.iload_n 1, 1) := by decide +kernel
theorem dX3_sineOf_12 : decode cX3_sineOf 12 = .ok (.i2l, 1) := by decide +kernel
theorem dX3_sineOf_13 : decode cX3_sineOf 13 = .ok (.goto 8, 3) := by decide +kernel
theorem dX3_sineOf_16 : decode cX3_sineOf 16 = .ok (.iload_n 1, 1) := by decide +kernel
theorem dX3_sineOf_17 : decode cX3_sineOf 17 = .ok (.ldc 10, 2) := by decide +kernel
theorem dX3_sineOf_19 : decode cX3_sineOf 19 = .ok (.isub, 1) := by decide +kernel
theorem dX3_sineOf_20 : decode cX3_sineOf 20 = .ok (.i2l, 1) := by decide +kernel
theorem dX3_sineOf_21 : decode cX3_sineOf 21 = .ok (.lstore_n 2, 1) := by decide +kernel
theorem dX3_sineOf_22 : decode cX3_sineOf 22 = .ok (.lload_n 2, 1) := by decide +kernel
theorem dX3_sineOf_23 : decode cX3_sineOf 23 = .ok (.ldc2_w 17, 3) := by decide +kernel
theorem dX3_sineOf_26 : decode cX3_sineOf 26 = .ok (.lload_n 2, 1) := by decide +kernel
theorem dX3_sineOf_27 : decode cX3_sineOf 27 = .ok (.lsub, 1) := by decide +kernel
theorem dX3_sineOf_28 : decode cX3_sineOf 28 = .ok (.lmul, 1) := by decide +kernel
theorem dX3_sineOf_29 : decode cX3_sineOf 29 = .ok (.lstore 4, 2) := by decide +kernel
theorem dX3_sineOf_31 : decode cX3_sineOf 31 = .ok (.ldc2_w 19, 3) := by decide +kernel
theorem dX3_sineOf_34 : decode cX3_sineOf 34 = .ok (.lload 4, 2) := by decide +kernel
theorem dX3_sineOf_36 : decode cX3_sineOf 36 = .ok (.lmul, 1) := by decide +kernel
theorem dX3_sineOf_37 : decode cX3_sineOf 37 = .ok (.ldc2_w 21, 3) := by decide +kernel
theorem dX3_sineOf_40 : decode cX3_sineOf 40 = .ok (.lload 4, 2) := by decide +kernel
theorem dX3_sineOf_42 : decode cX3_sineOf 42 = .ok (.lsub, 1) := by decide +kernel
theorem dX3_sineOf_43 : decode cX3_sineOf 43 = .ok (.invokestatic 23, 3) := by decide +kernel
theorem dX3_sineOf_46 : decode cX3_sineOf 46 = .ok (.istore 6, 2) := by decide +kernel
theorem dX3_sineOf_48 : decode cX3_sineOf 48 = .ok (.iload_n 1, 1) := by decide +kernel
theorem dX3_sineOf_49 : decode cX3_sineOf 49 = .ok (.ldc 10, 2) := by decide +kernel
theorem dX3_sineOf_51 : decode cX3_sineOf 51 = .ok (.if_icmp .ge 8, 3) := by decide +kernel
theorem dX3_sineOf_54 : decode cX3_sineOf 54 = .ok (.iload 6, 2) := by decide +kernel
theorem dX3_sineOf_56 : decode cX3_sineOf 56 = .ok (.goto 6, 3) := by decide +kernel
theorem dX3_sineOf_59 : decode cX3_sineOf 59 = .ok (.iload 6, 2) := by decide +kernel
theorem dX3_sineOf_61 : decode cX3_sineOf 61 = .ok (.ineg, 1) := by decide +kernel
theorem dX3_sineOf_62 : decode cX3_sineOf 62 = .ok (.ireturn, 1) := by decide +kernel
theorem dX3_quotient_0 : decode cX3_quotient 0 = .ok (.lload_n 2, 1) := by decide +kernel
theorem dX3_quotient_1 : decode cX3_quotient 1 = .ok (.lconst 0, 1) := by decide +kernel
theorem dX3_quotient_2 : decode cX3_quotient 2 = .ok (.lcmp, 1) := by decide +kernel
theorem dX3_quotient_3 : decode cX3_quotient 3 = .ok (.ifCond .ne 7, 3) := by decide +kernel
theorem dX3_quotient_6 : decode cX3_quotient 6 = .ok (.iconst 0, 1) := by decide +kernel
theorem dX3_quotient_7 : decode cX3_quotient 7 = .ok (.goto 7, 3) := by decide +kernel
theorem dX3_quotient_10 : decode cX3_quotient 10 = .ok (.lload_n 0, 1) := by decide +kernel
theorem dX3_quotient_11 : decode cX3_quotient 11 = .ok (.lload_n 2, 1) := by decide +kernel
theorem dX3_quotient_12 : decode cX3_quotient 12 = .ok (.ldiv, 1) := by decide +kernel
theorem dX3_quotient_13 : decode cX3_quotient 13 = .ok (.l2i, 1) := by decide +kernel
theorem dX3_quotient_14 : decode cX3_quotient 14 = .ok (.ireturn, 1) := by decide +kernel
theorem dX3_lengthOf_0 : decode cX3_lengthOf 0 = .ok (.lload_n 0, 1) := by decide +kernel
theorem dX3_lengthOf_1 : decode cX3_lengthOf 1 = .ok (.lload_n 2, 1) := by decide +kernel
theorem dX3_lengthOf_2 : decode cX3_lengthOf 2 = .ok (.invokestatic 27, 3) := by decide +kernel
theorem dX3_lengthOf_5 : decode cX3_lengthOf 5 = .ok (.invokestatic 31, 3) := by decide +kernel
theorem dX3_lengthOf_8 : decode cX3_lengthOf 8 = .ok (.ireturn, 1) := by decide +kernel
theorem dX3_squareOf_0 : decode cX3_squareOf 0 = .ok (.lload_n 0, 1) := by decide +kernel
theorem dX3_squareOf_1 : decode cX3_squareOf 1 = .ok (.lload_n 0, 1) := by decide +kernel
theorem dX3_squareOf_2 : decode cX3_squareOf 2 = .ok (.lmul, 1) := by decide +kernel
theorem dX3_squareOf_3 : decode cX3_squareOf 3 = .ok (.lload_n 2, 1) := by decide +kernel
theorem dX3_squareOf_4 : decode cX3_squareOf 4 = .ok (.lload_n 2, 1) := by decide +kernel
theorem dX3_squareOf_5 : decode cX3_squareOf 5 = .ok (.lmul, 1) := by decide +kernel
theorem dX3_squareOf_6 : decode cX3_squareOf 6 = .ok (.ladd, 1) := by decide +kernel
theorem dX3_squareOf_7 : decode cX3_squareOf 7 = .ok (.lreturn, 1) := by decide +kernel
theorem dX3_rootOf_0 : decode cX3_rootOf 0 = .ok (.lconst 0, 1) := by decide +kernel
theorem dX3_rootOf_1 : decode cX3_rootOf 1 = .ok (.lstore_n 2, 1) := by decide +kernel
theorem dX3_rootOf_2 : decode cX3_rootOf 2 = .ok (.bipush 30, 2) := by decide +kernel
theorem dX3_rootOf_4 : decode cX3_rootOf 4 = .ok (.istore 4, 2) := by decide +kernel
theorem dX3_rootOf_6 : decode cX3_rootOf 6 = .ok (.iload 4, 2) := by decide +kernel
theorem dX3_rootOf_8 : decode cX3_rootOf 8 = .ok (.ifCond .lt 30, 3) := by decide +kernel
theorem dX3_rootOf_11 : decode cX3_rootOf 11 = .ok (.lload_n 2, 1) := by decide +kernel
theorem dX3_rootOf_12 : decode cX3_rootOf 12 = .ok (.lconst 1, 1) := by decide +kernel
theorem dX3_rootOf_13 : decode cX3_rootOf 13 = .ok (.iload 4, 2) := by decide +kernel
theorem dX3_rootOf_15 : decode cX3_rootOf 15 = .ok (.lshl, 1) := by decide +kernel
theorem dX3_rootOf_16 : decode cX3_rootOf 16 = .ok (.ladd, 1) := by decide +kernel
theorem dX3_rootOf_17 : decode cX3_rootOf 17 = .ok (.lstore 5, 2) := by decide +kernel
theorem dX3_rootOf_19 : decode cX3_rootOf 19 = .ok (.lload 5, 2) := by decide +kernel
theorem dX3_rootOf_21 : decode cX3_rootOf 21 = .ok (.lload 5, 2) := by decide +kernel
theorem dX3_rootOf_23 : decode cX3_rootOf 23 = .ok (.lmul, 1) := by decide +kernel
theorem dX3_rootOf_24 : decode cX3_rootOf 24 = .ok (.lload_n 0, 1) := by decide +kernel
theorem dX3_rootOf_25 : decode cX3_rootOf 25 = .ok (.lcmp, 1) := by decide +kernel
theorem dX3_rootOf_26 : decode cX3_rootOf 26 = .ok (.ifCond .gt 6, 3) := by decide +kernel
theorem dX3_rootOf_29 : decode cX3_rootOf 29 = .ok (.lload 5, 2) := by decide +kernel
theorem dX3_rootOf_31 : decode cX3_rootOf 31 = .ok (.lstore_n 2, 1) := by decide +kernel
theorem dX3_rootOf_32 : decode cX3_rootOf 32 = .ok (.iinc 4 (-1), 3) := by decide +kernel
theorem dX3_rootOf_35 : decode cX3_rootOf 35 = .ok (.goto (-29), 3) := by decide +kernel
theorem dX3_rootOf_38 : decode cX3_rootOf 38 = .ok (.lload_n 2, 1) := by decide +kernel
theorem dX3_rootOf_39 : decode cX3_rootOf 39 = .ok (.l2i, 1) := by decide +kernel
theorem dX3_rootOf_40 : decode cX3_rootOf 40 = .ok (.ireturn, 1) := by decide +kernel
theorem dX4_init_0 : decode cX4_init 0 = .ok (.aload_n 0, 1) := by decide +kernel
theorem dX4_init_1 : decode cX4_init 1 = .ok (.invokespecial 3, 3) := by decide +kernel
theorem dX4_init_4 : decode cX4_init 4 = .ok (.aload_n 0, 1) := by decide +kernel
theorem dX4_init_5 : decode cX4_init 5 = .ok (.iconst 3, 1) := by decide +kernel
theorem dX4_init_6 : decode cX4_init 6 = .ok (.newarray .int, 2) := by decide +kernel
theorem dX4_init_8 : decode cX4_init 8 = .ok (.putfield 9, 3) := by decide +kernel
theorem dX4_init_11 : decode cX4_init 11 = .ok (.aload_n 0, 1) := by decide +kernel
theorem dX4_init_12 : decode cX4_init 12 = .ok (.bipush 90, 2) := by decide +kernel
theorem dX4_init_14 : decode cX4_init 14 = .ok (.newarray .char, 2) := by decide +kernel
theorem dX4_init_16 : decode cX4_init 16 = .ok (.putfield 15, 3) := by decide +kernel
theorem dX4_init_19 : decode cX4_init 19 = .ok (.return_, 1) := by decide +kernel
theorem dX4_append_0 : decode cX4_append 0 = .ok (.aload_n 0, 1) := by decide +kernel
theorem dX4_append_1 : decode cX4_append 1 = .ok (.getfield 19, 3) := by decide +kernel
theorem dX4_append_4 : decode cX4_append 4 = .ok (.ifCond .lt 35, 3) := by decide +kernel
theorem dX4_append_7 : decode cX4_append 7 = .ok (.aload_n 0, 1) := by decide +kernel
theorem dX4_append_8 : decode cX4_append 8 = .ok (.getfield 19, 3) := by decide +kernel
theorem dX4_append_11 : decode cX4_append 11 = .ok (.aload_n 0, 1) := by decide +kernel
theorem dX4_append_12 : decode cX4_append 12 = .ok (.getfield 15, 3) := by decide +kernel
theorem dX4_append_15 : decode cX4_append 15 = .ok (.arraylength, 1) := by decide +kernel
theorem dX4_append_16 : decode cX4_append 16 = .ok (.if_icmp .ge 23, 3) := by decide +kernel
theorem dX4_append_19 : decode cX4_append 19 = .ok (.aload_n 0, 1) := by decide +kernel
theorem dX4_append_20 : decode cX4_append 20 = .ok (.getfield 15, 3) := by decide +kernel
theorem dX4_append_23 : decode cX4_append 23 = .ok (.aload_n 0, 1) := by decide +kernel
theorem dX4_append_24 : decode cX4_append 24 = .ok (.getfield 19, 3) := by decide +kernel
theorem dX4_append_27 : decode cX4_append 27 = .ok (.iload_n 1, 1) := by decide +kernel
theorem dX4_append_28 : decode cX4_append 28 = .ok (.castore, 1) := by decide +kernel
theorem dX4_append_29 : decode cX4_append 29 = .ok (.aload_n 0, 1) := by decide +kernel
theorem dX4_append_30 : decode cX4_append 30 = .ok (.dup, 1) := by decide +kernel
theorem dX4_append_31 : decode cX4_append 31 = .ok (.getfield 19, 3) := by decide +kernel
theorem dX4_append_34 : decode cX4_append 34 = .ok (.iconst 1, 1) := by decide +kernel
theorem dX4_append_35 : decode cX4_append 35 = .ok (.iadd, 1) := by decide +kernel
theorem dX4_append_36 : decode cX4_append 36 = .ok (.putfield 19, 3) := by decide +kernel
theorem dX4_append_39 : decode cX4_append 39 = .ok (.aload_n 0, 1) := by decide +kernel
theorem dX4_append_40 : decode cX4_append 40 = .ok (.getfield 19, 3) := by decide +kernel
theorem dX4_append_43 : decode cX4_append 43 = .ok (.ireturn, 1) := by decide +kernel
theorem dX4_empty_0 : decode cX4_empty 0 = .ok (.aload_n 0, 1) := by decide +kernel
theorem dX4_empty_1 : decode cX4_empty 1 = .ok (.getfield 19, 3) := by decide +kernel
theorem dX4_empty_4 : decode cX4_empty 4 = .ok (.istore_n 1, 1) := by decide +kernel
theorem dX4_empty_5 : decode cX4_empty 5 = .ok (.aload_n 0, 1) := by decide +kernel
theorem dX4_empty_6 : decode cX4_empty 6 = .ok (.iconst 0, 1) := by decide +kernel
theorem dX4_empty_7 : decode cX4_empty 7 = .ok (.putfield 19, 3) := by decide +kernel
theorem dX4_empty_10 : decode cX4_empty 10 = .ok (.iload_n 1, 1) := by decide +kernel
theorem dX4_empty_11 : decode cX4_empty 11 = .ok (.ireturn, 1) := by decide +kernel
theorem dX4_firstFault_0 : decode cX4_firstFault 0 = .ok (.iconst 0, 1) := by decide +kernel
theorem dX4_firstFault_1 : decode cX4_firstFault 1 = .ok (.istore_n 1, 1) := by decide +kernel
theorem dX4_firstFault_2 : decode cX4_firstFault 2 = .ok (.iconst 0, 1) := by decide +kernel
theorem dX4_firstFault_3 : decode cX4_firstFault 3 = .ok (.istore_n 2, 1) := by decide +kernel
theorem dX4_firstFault_4 : decode cX4_firstFault 4 = .ok (.iconst 0, 1) := by decide +kernel
theorem dX4_firstFault_5 : decode cX4_firstFault 5 = .ok (.istore_n 3, 1) := by decide +kernel
theorem dX4_firstFault_6 : decode cX4_firstFault 6 = .ok (.iload_n 3, 1) := by decide +kernel
theorem dX4_firstFault_7 : decode cX4_firstFault 7 = .ok (.aload_n 0, 1) := by decide +kernel
theorem dX4_firstFault_8 : decode cX4_firstFault 8 = .ok (.getfield 19, 3) := by decide +kernel
theorem dX4_firstFault_11 : decode cX4_firstFault 11 = .ok (.if_icmp .ge 89, 3) := by decide +kernel
theorem dX4_firstFault_14 : decode cX4_firstFault 14 = .ok (.iload_n 3, 1) := by decide +kernel
theorem dX4_firstFault_15 : decode cX4_firstFault 15 = .ok (.aload_n 0, 1) := by decide +kernel
theorem dX4_firstFault_16 : decode cX4_firstFault 16 = .ok (.getfield 15, 3) := by decide +kernel
theorem dX4_firstFault_19 : decode cX4_firstFault 19 = .ok (.arraylength, 1) := by decide +kernel
theorem dX4_firstFault_20 : decode cX4_firstFault 20 = .ok (.if_icmp .ge 80, 3) := by decide +kernel
theorem dX4_firstFault_23 : decode cX4_firstFault 23 = .ok (.aload_n 0, 1) := by decide +kernel
theorem dX4_firstFault_24 : decode cX4_firstFault 24 = .ok (.getfield 15, 3) := by decide +kernel
theorem dX4_firstFault_27 : decode cX4_firstFault 27 = .ok (.iload_n 3, 1) := by decide +kernel
theorem dX4_firstFault_28 : decode cX4_firstFault 28 = .ok (.caload, 1) := by decide +kernel
theorem dX4_firstFault_29 : decode cX4_firstFault 29 = .ok (.istore 4, 2) := by decide +kernel
theorem dX4_firstFault_31 : decode cX4_firstFault 31 = .ok (.iload_n 1, 1) := by decide +kernel
theorem dX4_firstFault_32 : decode cX4_firstFault 32 = .ok (.ifCond .ne 15, 3) := by decide +kernel
theorem dX4_firstFault_35 : decode cX4_firstFault 35 = .ok (.iload 4, 2) := by decide +kernel
theorem dX4_firstFault_37 : decode cX4_firstFault 37 = .ok (.invokestatic 23, 3) := by decide +kernel
theorem dX4_firstFault_40 : decode cX4_firstFault 40 = .ok (.istore_n 1, 1) := by decide +kernel
theorem dX4_firstFault_41 : decode cX4_firstFault 41 = .ok (.iload_n 1, 1) := by decide +kernel
theorem dX4_firstFault_42 : decode cX4_firstFault 42 = .ok (.ifCond .ne 52, 3) := by decide +kernel
theorem dX4_firstFault_45 : decode cX4_firstFault 45 = .ok (.iload_n 3, 1) := by decide +kernel
theorem dX4_firstFault_46 : decode cX4_firstFault 46 = .ok (.ireturn, 1) := by decide +kernel
theorem dX4_firstFault_47 : decode cX4_firstFault 47 = .ok (.iload 4, 2) := by decide +kernel
theorem dX4_firstFault_49 : decode cX4_firstFault 49 = .ok (.invokestatic 27, 3) := by decide +kernel
theorem dX4_firstFault_52 : decode cX4_firstFault 52 = .ok (.ifCond .eq 14, 3) := by decide +kernel
theorem dX4_firstFault_55 : decode cX4_firstFault 55 = .ok (.iinc 2 1, 3) := by decide +kernel
theorem dX4_firstFault_58 : decode cX4_firstFault 58 = .ok (.iload_n 2, 1) := by decide +kernel
theorem dX4_firstFault_59 : decode cX4_firstFault 59 = .ok (.bipush 7, 2) := by decide +kernel
theorem dX4_firstFault_61 : decode cX4_firstFault 61 = .ok (.if_icmp .le 33, 3) := by decide +kernel
theorem dX4_firstFault_64 : decode cX4_firstFault 64 = .ok (.iload_n 3, 1) := by decide +kernel
theorem dX4_firstFault_65 : decode cX4_firstFault 65 = .ok (.ireturn, 1) := by decide +kernel
theorem dX4_firstFault_66 : decode cX4_firstFault 66 = .ok (.iload_n 2, 1) := by decide +kernel
theorem dX4_firstFault_67 : decode cX4_firstFault 67 = .ok (.ifCond .eq 20, 3) := by decide +kernel
theorem dX4_firstFault_70 : decode cX4_firstFault 70 = .ok (.iload 4, 2) := by decide +kernel
theorem dX4_firstFault_72 : decode cX4_firstFault 72 = .ok (.iload_n 1, 1) := by decide +kernel
theorem dX4_firstFault_73 : decode cX4_firstFault 73 = .ok (.iconst 1, 1) := by decide +kernel
theorem dX4_firstFault_74 : decode cX4_firstFault 74 = .ok (.if_icmp .le 8, 3) := by decide +kernel
theorem dX4_firstFault_77 : decode cX4_firstFault 77 = .ok (.bipush 44, 2) := by decide +kernel
theorem dX4_firstFault_79 : decode cX4_firstFault 79 = .ok (.goto 5, 3) := by decide +kernel
theorem dX4_firstFault_82 : decode cX4_firstFault 82 = .ok (.bipush 59, 2) := by decide +kernel
theorem dX4_firstFault_84 : decode cX4_firstFault 84 = .ok (.if_icmp .eq 5, 3) := by decide +kernel
theorem dX4_firstFault_87 : decode cX4_firstFault 87 = .ok (.iload_n 3, 1) := by decide +kernel
theorem dX4_firstFault_88 : decode cX4_firstFault 88 = .ok (.ireturn, 1) := by decide +kernel
theorem dX4_firstFault_89 : decode cX4_firstFault 89 = .ok (.iinc 1 (-1), 3) := by decide +kernel
theorem dX4_firstFault_92 : decode cX4_firstFault 92 = .ok (.iconst 0, 1) := by decide +kernel
theorem dX4_firstFault_93 : decode cX4_firstFault 93 = .ok (.istore_n 2, 1) := by decide +kernel
theorem dX4_firstFault_94 : decode cX4_firstFault 94 = .ok (.iinc 3 1, 3) := by decide +kernel
theorem dX4_firstFault_97 : decode cX4_firstFault 97 = .ok (.goto (-91), 3) := by decide +kernel
theorem dX4_firstFault_100 : decode cX4_firstFault 100 = .ok (.iload_n 1, 1) := by decide +kernel
theorem dX4_firstFault_101 : decode cX4_firstFault 101 = .ok (.ifCond .ne 8, 3) := by decide +kernel
theorem dX4_firstFault_104 : decode cX4_firstFault 104 = .ok (.ldc 31, 2) := by decide +kernel
theorem dX4_firstFault_106 : decode cX4_firstFault 106 = .ok (.goto 7, 3) := by decide +kernel
theorem dX4_firstFault_109 : decode cX4_firstFault 109 = .ok (.aload_n 0, 1) := by decide +kernel
theorem dX4_firstFault_110 : decode cX4_firstFault 110 = .ok (.getfield 19, 3) := by decide +kernel
theorem dX4_firstFault_113 : decode cX4_firstFault 113 = .ok (.ireturn, 1) := by decide +kernel
theorem dX4_endsCommand_0 : decode cX4_endsCommand 0 = .ok (.iload_n 1, 1) := by decide +kernel
theorem dX4_endsCommand_1 : decode cX4_endsCommand 1 = .ok (.ifCond .lt 21, 3) := by decide +kernel
theorem dX4_endsCommand_4 : decode cX4_endsCommand 4 = .ok (.iload_n 1, 1) := by decide +kernel
theorem dX4_endsCommand_5 : decode cX4_endsCommand 5 = .ok (.aload_n 0, 1) := by decide +kernel
theorem dX4_endsCommand_6 : decode cX4_endsCommand 6 = .ok (.getfield 15, 3) := by decide +kernel
theorem dX4_endsCommand_9 : decode cX4_endsCommand 9 = .ok (.arraylength, 1) := by decide +kernel
theorem dX4_endsCommand_10 : decode cX4_endsCommand 10 = .ok (.if_icmp .ge 12, 3) := by decide +kernel
theorem dX4_endsCommand_13 : decode cX4_endsCommand 13 = .ok (.aload_n 0, 1) := by decide +kernel
theorem dX4_endsCommand_14 : decode cX4_endsCommand 14 = .ok (.getfield 15, 3) := by decide +kernel
theorem dX4_endsCommand_17 : decode cX4_endsCommand 17 = .ok (.iload_n 1, 1) := by decide +kernel
theorem dX4_endsCommand_18 : decode cX4_endsCommand 18 = .ok (.caload, 1) := by decide +kernel
theorem dX4_endsCommand_19 : decode cX4_endsCommand 19 = .ok (.goto 5, 3) := by decide +kernel
theorem dX4_endsCommand_22 : decode cX4_endsCommand 22 = .ok (.bipush 32, 2) := by decide +kernel
theorem dX4_endsCommand_24 : decode cX4_endsCommand 24 = .ok (.istore_n 2, 1) := by decide +kernel
theorem dX4_endsCommand_25 : decode cX4_endsCommand 25 = .ok (.iload_n 2, 1) := by decide +kernel
theorem dX4_endsCommand_26 : decode cX4_endsCommand 26 = .ok (.bipush 44, 2) := by decide +kernel
theorem dX4_endsCommand_28 : decode cX4_endsCommand 28 = .ok (.if_icmp .ne 16, 3) := by decide +kernel
theorem dX4_endsCommand_31 : decode cX4_endsCommand 31 = .ok (.aload_n 0, 1) := by decide +kernel
theorem dX4_endsCommand_32 : decode cX4_endsCommand 32 = .ok (.dup, 1) := by decide +kernel
theorem dX4_endsCommand_33 : decode cX4_endsCommand 33 = .ok (.getfield 32, 3) := by decide +kernel
theorem dX4_endsCommand_36 : decode cX4_endsCommand 36 = .ok (.iconst 1, 1) := by decide +kernel
theorem dX4_endsCommand_37 : decode cX4_endsCommand 37 = .ok (.iadd, 1) := by decide +kernel
theorem dX4_endsCommand_38 : decode cX4_endsCommand 38 = .ok (.putfield 32, 3) := by decide +kernel
theorem dX4_endsCommand_41 : decode cX4_endsCommand 41 = .ok (.goto 69, 3) := by decide +kernel
theorem dX4_endsCommand_44 : decode cX4_endsCommand 44 = .ok (.iload_n 2, 1) := by decide +kernel
theorem dX4_endsCommand_45 : decode cX4_endsCommand 45 = .ok (.invokestatic 27, 3) := by decide +kernel
theorem dX4_endsCommand_48 : decode cX4_endsCommand 48 = .ok (.ifCond .eq 51, 3) := by decide +kernel
theorem dX4_endsCommand_51 : decode cX4_endsCommand 51 = .ok (.aload_n 0, 1) := by decide +kernel
theorem dX4_endsCommand_52 : decode cX4_endsCommand 52 = .ok (.getfield 32, 3) := by decide +kernel
theorem dX4_endsCommand_55 : decode cX4_endsCommand 55 = .ok (.ifCond .lt 55, 3) := by decide +kernel
theorem dX4_endsCommand_58 : decode cX4_endsCommand 58 = .ok (.aload_n 0, 1) := by decide +kernel
theorem dX4_endsCommand_59 : decode cX4_endsCommand 59 = .ok (.getfield 32, 3) := by decide +kernel
theorem dX4_endsCommand_62 : decode cX4_endsCommand 62 = .ok (.aload_n 0, 1) := by decide +kernel
theorem dX4_endsCommand_63 : decode cX4_endsCommand 63 = .ok (.getfield 9, 3) := by decide +kernel
theorem dX4_endsCommand_66 : decode cX4_endsCommand 66 = .ok (.arraylength, 1) := by decide +kernel
theorem dX4_endsCommand_67 : decode cX4_endsCommand 67 = .ok (.if_icmp .ge 43, 3) := by decide +kernel
theorem dX4_endsCommand_70 : decode cX4_endsCommand 70 = .ok (.aload_n 0, 1) := by decide +kernel
theorem dX4_endsCommand_71 : decode cX4_endsCommand 71 = .ok (.getfield 9, 3) := by decide +kernel
theorem dX4_endsCommand_74 : decode cX4_endsCommand 74 = .ok (.aload_n 0, 1) := by decide +kernel
theorem dX4_endsCommand_75 : decode cX4_endsCommand 75 = .ok (.getfield 32, 3) := by decide +kernel
theorem dX4_endsCommand_78 : decode cX4_endsCommand 78 = .ok (.bipush 10, 2) := by decide +kernel
theorem dX4_endsCommand_80 : decode cX4_endsCommand 80 = .ok (.aload_n 0, 1) := by decide +kernel
theorem dX4_endsCommand_81 : decode cX4_endsCommand 81 = .ok (.getfield 9, 3) := by decide +kernel
theorem dX4_endsCommand_84 : decode cX4_endsCommand 84 = .ok (.aload_n 0, 1) := by decide +kernel
theorem dX4_endsCommand_85 : decode cX4_endsCommand 85 = .ok (.getfield 32, 3) := by decide +kernel
theorem dX4_endsCommand_88 : decode cX4_endsCommand 88 = .ok (.iaload, 1) := by decide +kernel
theorem dX4_endsCommand_89 : decode cX4_endsCommand 89 = .ok (.imul, 1) := by decide +kernel
theorem dX4_endsCommand_90 : decode cX4_endsCommand 90 = .ok (.iload_n 2, 1) := by decide +kernel
theorem dX4_endsCommand_91 : decode cX4_endsCommand 91 = .ok (.bipush 48, 2) := by decide +kernel
theorem dX4_endsCommand_93 : decode cX4_endsCommand 93 = .ok (.isub, 1) := by decide +kernel
theorem dX4_endsCommand_94 : decode cX4_endsCommand 94 = .ok (.iadd, 1) := by decide +kernel
theorem dX4_endsCommand_95 : decode cX4_endsCommand 95 = .ok (.iastore, 1) := by decide +kernel
theorem dX4_endsCommand_96 : decode cX4_endsCommand 96 = .ok (.goto 14, 3) := by decide +kernel
theorem dX4_endsCommand_99 : decode cX4_endsCommand 99 = .ok (.iload_n 2, 1) := by decide +kernel
theorem dX4_endsCommand_100 : decode cX4_endsCommand 100 = .ok (.bipush 59, 2) := by decide +kernel
theorem dX4_endsCommand_102 : decode cX4_endsCommand 102 = .ok (.if_icmp .eq 8, 3) := by decide +kernel
theorem dX4_endsCommand_105 : decode cX4_endsCommand 105 = .ok (.aload_n 0, 1) := by decide +kernel
theorem dX4_endsCommand_106 : decode cX4_endsCommand 106 = .ok (.iload_n 2, 1) := by decide +kernel
theorem dX4_endsCommand_107 : decode cX4_endsCommand 107 = .ok (.invokevirtual 35, 3) := by decide +kernel
theorem dX4_endsCommand_110 : decode cX4_endsCommand 110 = .ok (.iload_n 2, 1) := by decide +kernel
theorem dX4_endsCommand_111 : decode cX4_endsCommand 111 = .ok (.bipush 59, 2) := by decide +kernel
theorem dX4_endsCommand_113 : decode cX4_endsCommand 113 = .ok (.if_icmp .ne 7, 3) := by decide +kernel
theorem dX4_endsCommand_116 : decode cX4_endsCommand 116 = .ok (.iconst 1, 1) := by decide +kernel
theorem dX4_endsCommand_117 : decode cX4_endsCommand 117 = .ok (.goto 4, 3) := by decide +kernel
theorem dX4_endsCommand_120 : decode cX4_endsCommand 120 = .ok (.iconst 0, 1) := by decide +kernel
theorem dX4_endsCommand_121 : decode cX4_endsCommand 121 = .ok (.ireturn, 1) := by decide +kernel
theorem dX4_startCommand_0 : decode cX4_startCommand 0 = .ok (.aload_n 0, 1) := by decide +kernel
theorem dX4_startCommand_1 : decode cX4_startCommand 1 = .ok (.iload_n 1, 1) := by decide +kernel
theorem dX4_startCommand_2 : decode cX4_startCommand 2 = .ok (.putfield 39, 3) := by decide +kernel
theorem dX4_startCommand_5 : decode cX4_startCommand 5 = .ok (.aload_n 0, 1) := by decide +kernel
theorem dX4_startCommand_6 : decode cX4_startCommand 6 = .ok (.iconst 0, 1) := by decide +kernel
theorem dX4_startCommand_7 : decode cX4_startCommand 7 = .ok (.putfield 32, 3) := by decide +kernel
theorem dX4_startCommand_10 : decode cX4_startCommand 10 = .ok (.iconst 0, 1) := by decide +kernel
theorem dX4_startCommand_11 : decode cX4_startCommand 11 = .ok (.istore_n 2, 1) := by decide +kernel
theorem dX4_startCommand_12 : decode cX4_startCommand 12 = .ok (.iload_n 2, 1) := by decide +kernel
theorem dX4_startCommand_13 : decode cX4_startCommand 13 = .ok (.aload_n 0, 1) := by decide +kernel
theorem dX4_startCommand_14 : decode cX4_startCommand 14 = .ok (.getfield 9, 3) := by decide +kernel
theorem dX4_startCommand_17 : decode cX4_startCommand 17 = .ok (.arraylength, 1) := by decide +kernel
theorem dX4_startCommand_18 : decode cX4_startCommand 18 = .ok (.if_icmp .ge 16, 3) := by decide +kernel
theorem dX4_startCommand_21 : decode cX4_startCommand 21 = .ok (.aload_n 0, 1) := by decide +kernel
theorem dX4_startCommand_22 : decode cX4_startCommand 22 = .ok (.getfield 9, 3) := by decide +kernel
theorem dX4_startCommand_25 : decode cX4_startCommand 25 = .ok (.iload_n 2, 1) := by decide +kernel
theorem dX4_startCommand_26 : decode cX4_startCommand 26 = .ok (.iconst 0, 1) := by decide +kernel
theorem dX4_startCommand_27 : decode cX4_startCommand 27 = .ok (.iastore, 1) := by decide +kernel
theorem dX4_startCommand_28 : decode cX4_startCommand 28 = .ok (.iinc 2 1, 3) := by decide +kernel
theorem dX4_startCommand_31 : decode cX4_startCommand 31 = .ok (.goto (-19), 3) := by decide +kernel
theorem dX4_startCommand_34 : decode cX4_startCommand 34 = .ok (.return_, 1) := by decide +kernel
theorem dX4_numbersOf_0 : decode cX4_numbersOf 0 = .ok (.iload_n 0, 1) := by decide +kernel
theorem dX4_numbersOf_1 : decode cX4_numbersOf 1 = .ok (.bipush 108, 2) := by decide +kernel
theorem dX4_numbersOf_3 : decode cX4_numbersOf 3 = .ok (.if_icmp .ne 5, 3) := by decide +kernel
theorem dX4_numbersOf_6 : decode cX4_numbersOf 6 = .ok (.iconst 3, 1) := by decide +kernel
theorem dX4_numbersOf_7 : decode cX4_numbersOf 7 = .ok (.ireturn, 1) := by decide +kernel
theorem dX4_numbersOf_8 : decode cX4_numbersOf 8 = .ok (.iload_n 0, 1) := by decide +kernel
theorem dX4_numbersOf_9 : decode cX4_numbersOf 9 = .ok (.bipush 116, 2) := by decide +kernel
theorem dX4_numbersOf_11 : decode cX4_numbersOf 11 = .ok (.if_icmp .ne 5, 3) := by decide +kernel
theorem dX4_numbersOf_14 : decode cX4_numbersOf 14 = .ok (.iconst 2, 1) := by decide +kernel
theorem dX4_numbersOf_15 : decode cX4_numbersOf 15 = .ok (.ireturn, 1) := by decide +kernel
theorem dX4_numbersOf_16 : decode cX4_numbersOf 16 = .ok (.iload_n 0, 1) := by decide +kernel
theorem dX4_numbersOf_17 : decode cX4_numbersOf 17 = .ok (.bipush 107, 2) := by decide +kernel
theorem dX4_numbersOf_19 : decode cX4_numbersOf 19 = .ok (.if_icmp .eq 9, 3) := by decide +kernel
theorem dX4_numbersOf_22 : decode cX4_numbersOf 22 = .ok (.iload_n 0, 1) := by decide +kernel
theorem dX4_numbersOf_23 : decode cX4_numbersOf 23 = .ok (.bipush 97, 2) := by decide +kernel
theorem dX4_numbersOf_25 : decode cX4_numbersOf 25 = .ok (.if_icmp .ne 7, 3) := by decide +kernel
theorem dX4_numbersOf_28 : decode cX4_numbersOf 28 = .ok (.iconst 1, 1) := by decide +kernel
theorem dX4_numbersOf_29 : decode cX4_numbersOf 29 = .ok (.goto 4, 3) := by decide +kernel
theorem dX4_numbersOf_32 : decode cX4_numbersOf 32 = .ok (.iconst 0, 1) := by decide +kernel
theorem dX4_numbersOf_33 : decode cX4_numbersOf 33 = .ok (.ireturn, 1) := by decide +kernel
theorem dX4_isDigit_0 : decode cX4_isDigit 0 = .ok (.iload_n 0, 1) := by decide +kernel
theorem dX4_isDigit_1 : decode cX4_isDigit 1 = .ok (.bipush 48, 2) := by decide +kernel
theorem dX4_isDigit_3 : decode cX4_isDigit 3 = .ok (.if_icmp .lt 13, 3) := by decide +kernel
theorem dX4_isDigit_6 : decode cX4_isDigit 6 = .ok (.iload_n 0, 1) := by decide +kernel
theorem dX4_isDigit_7 : decode cX4_isDigit 7 = .ok (.bipush 57, 2) := by decide +kernel
theorem dX4_isDigit_9 : decode cX4_isDigit 9 = .ok (.if_icmp .gt 7, 3) := by decide +kernel
theorem dX4_isDigit_12 : decode cX4_isDigit 12 = .ok (.iconst 1, 1) := by decide +kernel
theorem dX4_isDigit_13 : decode cX4_isDigit 13 = .ok (.goto 4, 3) := by decide +kernel
theorem dX4_isDigit_16 : decode cX4_isDigit 16 = .ok (.iconst 0, 1) := by decide +kernel
theorem dX4_isDigit_17 : decode cX4_isDigit 17 = .ok (.ireturn, 1) := by decide +kernel
theorem dX5_init_0 : decode cX5_init 0 = .ok (.aload_n 0, 1) := by decide +kernel
theorem dX5_init_1 : decode cX5_init 1 = .ok (.invokespecial 3, 3) := by decide +kernel
theorem dX5_init_4 : decode cX5_init 4 = .ok (.aload_n 0, 1) := by decide +kernel
theorem dX5_init_5 : decode cX5_init 5 = .ok (.bipush 12, 2) := by decide +kernel
theorem dX5_init_7 : decode cX5_init 7 = .ok (.newarray .int, 2) := by decide +kernel
theorem dX5_init_9 : decode cX5_init 9 = .ok (.putfield 9, 3) := by decide +kernel
theorem dX5_init_12 : decode cX5_init 12 = .ok (.aload_n 0, 1) := by decide +kernel
theorem dX5_init_13 : decode cX5_init 13 = .ok (.bipush 12, 2) := by decide +kernel
theorem dX5_init_15 : decode cX5_init 15 = .ok (.newarray .int, 2) := by decide +kernel
theorem dX5_init_17 : decode cX5_init 17 = .ok (.putfield 15, 3) := by decide +kernel
theorem dX5_init_20 : decode cX5_init 20 = .ok (.aload_n 0, 1) := by decide +kernel
theorem dX5_init_21 : decode cX5_init 21 = .ok (.bipush 12, 2) := by decide +kernel
theorem dX5_init_23 : decode cX5_init 23 = .ok (.newarray .int, 2) := by decide +kernel
theorem dX5_init_25 : decode cX5_init 25 = .ok (.putfield 18, 3) := by decide +kernel
theorem dX5_init_28 : decode cX5_init 28 = .ok (.aload_n 0, 1) := by decide +kernel
theorem dX5_init_29 : decode cX5_init 29 = .ok (.bipush 12, 2) := by decide +kernel
theorem dX5_init_31 : decode cX5_init 31 = .ok (.newarray .int, 2) := by decide +kernel
theorem dX5_init_33 : decode cX5_init 33 = .ok (.putfield 21, 3) := by decide +kernel
theorem dX5_init_36 : decode cX5_init 36 = .ok (.aload_n 0, 1) := by decide +kernel
theorem dX5_init_37 : decode cX5_init 37 = .ok (.bipush 12, 2) := by decide +kernel
theorem dX5_init_39 : decode cX5_init 39 = .ok (.newarray .int, 2) := by decide +kernel
theorem dX5_init_41 : decode cX5_init 41 = .ok (.putfield 24, 3) := by decide +kernel
theorem dX5_init_44 : decode cX5_init 44 = .ok (.return_, 1) := by decide +kernel
theorem dX5_copyFrom_0 : decode cX5_copyFrom 0 = .ok (.aload_n 0, 1) := by decide +kernel
theorem dX5_copyFrom_1 : decode cX5_copyFrom 1 = .ok (.aload_n 1, 1) := by decide +kernel
theorem dX5_copyFrom_2 : decode cX5_copyFrom 2 = .ok (.getfield 27, 3) := by decide +kernel
theorem dX5_copyFrom_5 : decode cX5_copyFrom 5 = .ok (.putfield 27, 3) := by decide +kernel
theorem dX5_copyFrom_8 : decode cX5_copyFrom 8 = .ok (.aload_n 0, 1) := by decide +kernel
theorem dX5_copyFrom_9 : decode cX5_copyFrom 9 = .ok (.aload_n 1, 1) := by decide +kernel
theorem dX5_copyFrom_10 : decode cX5_copyFrom 10 = .ok (.getfield 31, 3) := by decide +kernel
theorem dX5_copyFrom_13 : decode cX5_copyFrom 13 = .ok (.putfield 31, 3) := by decide +kernel
theorem dX5_copyFrom_16 : decode cX5_copyFrom 16 = .ok (.aload_n 0, 1) := by decide +kernel
theorem dX5_copyFrom_17 : decode cX5_copyFrom 17 = .ok (.aload_n 1, 1) := by decide +kernel
theorem dX5_copyFrom_18 : decode cX5_copyFrom 18 = .ok (.getfield 34, 3) := by decide +kernel
theorem dX5_copyFrom_21 : decode cX5_copyFrom 21 = .ok (.putfield 34, 3) := by decide +kernel
theorem dX5_copyFrom_24 : decode cX5_copyFrom 24 = .ok (.aload_n 0, 1) := by decide +kernel
theorem dX5_copyFrom_25 : decode cX5_copyFrom 25 = .ok (.aload_n 1, 1) := by decide +kernel
theorem dX5_copyFrom_26 : decode cX5_copyFrom 26 = .ok (.getfield 37, 3) := by decide +kernel
theorem dX5_copyFrom_29 : decode cX5_copyFrom 29 = .ok (.putfield 37, 3) := by decide +kernel
theorem dX5_copyFrom_32 : decode cX5_copyFrom 32 = .ok (.aload_n 1, 1) := by decide +kernel
theorem dX5_copyFrom_33 : decode cX5_copyFrom 33 = .ok (.getfield 9, 3) := by decide +kernel
theorem dX5_copyFrom_36 : decode cX5_copyFrom 36 = .ok (.iconst 0, 1) := by decide +kernel
theorem dX5_copyFrom_37 : decode cX5_copyFrom 37 = .ok (.aload_n 0, 1) := by decide +kernel
theorem dX5_copyFrom_38 : decode cX5_copyFrom 38 = .ok (.getfield 9, 3) := by decide +kernel
theorem dX5_copyFrom_41 : decode cX5_copyFrom 41 = .ok (.iconst 0, 1) := by decide +kernel
theorem dX5_copyFrom_42 : decode cX5_copyFrom 42 = .ok (.bipush 12, 2) := by decide +kernel
theorem dX5_copyFrom_44 : decode cX5_copyFrom 44 = .ok (.invokestatic 40, 3) := by decide +kernel
theorem dX5_copyFrom_47 : decode cX5_copyFrom 47 = .ok (.aload_n 1, 1) := by decide +kernel
theorem dX5_copyFrom_48 : decode cX5_copyFrom 48 = .ok (.getfield 15, 3) := by decide +kernel
theorem dX5_copyFrom_51 : decode cX5_copyFrom 51 = .ok (.iconst 0, 1) := by decide +kernel
theorem dX5_copyFrom_52 : decode cX5_copyFrom 52 = .ok (.aload_n 0, 1) := by decide +kernel
theorem dX5_copyFrom_53 : decode cX5_copyFrom 53 = .ok (.getfield 15, 3) := by decide +kernel
theorem dX5_copyFrom_56 : decode cX5_copyFrom 56 = .ok (.iconst 0, 1) := by decide +kernel
theorem dX5_copyFrom_57 : decode cX5_copyFrom 57 = .ok (.bipush 12, 2) := by decide +kernel
theorem dX5_copyFrom_59 : decode cX5_copyFrom 59 = .ok (.invokestatic 40, 3) := by decide +kernel
theorem dX5_copyFrom_62 : decode cX5_copyFrom 62 = .ok (.return_, 1) := by decide +kernel
theorem dX5_startAt_0 : decode cX5_startAt 0 = .ok (.aload_n 0, 1) := by decide +kernel
theorem dX5_startAt_1 : decode cX5_startAt 1 = .ok (.iload_n 1, 1) := by decide +kernel
theorem dX5_startAt_2 : decode cX5_startAt 2 = .ok (.putfield 27, 3) := by decide +kernel
theorem dX5_startAt_5 : decode cX5_startAt 5 = .ok (.aload_n 0, 1) := by decide +kernel
theorem dX5_startAt_6 : decode cX5_startAt 6 = .ok (.iconst 0, 1) := by decide +kernel
theorem dX5_startAt_7 : decode cX5_startAt 7 = .ok (.putfield 37, 3) := by decide +kernel
theorem dX5_startAt_10 : decode cX5_startAt 10 = .ok (.aload_n 0, 1) := by decide +kernel
theorem dX5_startAt_11 : decode cX5_startAt 11 = .ok (.ldc 46, 2) := by decide +kernel
theorem dX5_startAt_13 : decode cX5_startAt 13 = .ok (.ldc 46, 2) := by decide +kernel
theorem dX5_startAt_15 : decode cX5_startAt 15 = .ok (.invokevirtual 47, 3) := by decide +kernel
theorem dX5_startAt_18 : decode cX5_startAt 18 = .ok (.return_, 1) := by decide +kernel
theorem dX5_closeOn_0 : decode cX5_closeOn 0 = .ok (.aload_n 0, 1) := by decide +kernel
theorem dX5_closeOn_1 : decode cX5_closeOn 1 = .ok (.iload_n 1, 1) := by decide +kernel
theorem dX5_closeOn_2 : decode cX5_closeOn 2 = .ok (.putfield 31, 3) := by decide +kernel
theorem dX5_closeOn_5 : decode cX5_closeOn 5 = .ok (.aload_n 0, 1) := by decide +kernel
theorem dX5_closeOn_6 : decode cX5_closeOn 6 = .ok (.iload_n 2, 1) := by decide +kernel
theorem dX5_closeOn_7 : decode cX5_closeOn 7 = .ok (.putfield 34, 3) := by decide +kernel
theorem dX5_closeOn_10 : decode cX5_closeOn 10 = .ok (.return_, 1) := by decide +kernel
theorem dX5_isClosed_0 : decode cX5_isClosed 0 = .ok (.aload_n 0, 1) := by decide +kernel
theorem dX5_isClosed_1 : decode cX5_isClosed 1 = .ok (.getfield 31, 3) := by decide +kernel
theorem dX5_isClosed_4 : decode cX5_isClosed 4 = .ok (.ldc 46, 2) := by decide +kernel
theorem dX5_isClosed_6 : decode cX5_isClosed 6 = .ok (.if_icmp .eq 7, 3) := by decide +kernel
theorem dX5_isClosed_9 : decode cX5_isClosed 9 = .ok (.iconst 1, 1) := by decide +kernel
theorem dX5_isClosed_10 : decode cX5_isClosed 10 = .ok (.goto 4, 3) := by decide +kernel
theorem dX5_isClosed_13 : decode cX5_isClosed 13 = .ok (.iconst 0, 1) := by decide +kernel
theorem dX5_isClosed_14 : decode cX5_isClosed 14 = .ok (.ireturn, 1) := by decide +kernel
theorem dX5_hasLeg_0 : decode cX5_hasLeg 0 = .ok (.iload_n 1, 1) := by decide +kernel
theorem dX5_hasLeg_1 : decode cX5_hasLeg 1 = .ok (.ifCond .lt 21, 3) := by decide +kernel
theorem dX5_hasLeg_4 : decode cX5_hasLeg 4 = .ok (.iload_n 1, 1) := by decide +kernel
theorem dX5_hasLeg_5 : decode cX5_hasLeg 5 = .ok (.aload_n 0, 1) := by decide +kernel
theorem dX5_hasLeg_6 : decode cX5_hasLeg 6 = .ok (.getfield 37, 3) := by decide +kernel
theorem dX5_hasLeg_9 : decode cX5_hasLeg 9 = .ok (.if_icmp .ge 13, 3) := by decide +kernel
theorem dX5_hasLeg_12 : decode cX5_hasLeg 12 = .ok (.iload_n 1, 1) := by decide +kernel
theorem dX5_hasLeg_13 : decode cX5_hasLeg 13 = .ok (.bipush 12, 2) := by decide +kernel
theorem dX5_hasLeg_15 : decode cX5_hasLeg 15 = .ok (.if_icmp .ge 7, 3) := by decide +kernel
theorem dX5_hasLeg_18 : decode cX5_hasLeg 18 = .ok (.iconst 1, 1) := by decide +kernel
theorem dX5_hasLeg_19 : decode cX5_hasLeg 19 = .ok (.goto 4, 3) := by decide +kernel
theorem dX5_hasLeg_22 : decode cX5_hasLeg 22 = .ok (.iconst 0, 1) := by decide +kernel
theorem dX5_hasLeg_23 : decode cX5_hasLeg 23 = .ok (.ireturn, 1) := by decide +kernel
theorem dX5_hasEnd_0 : decode cX5_hasEnd 0 = .ok (.aload_n 0, 1) := by decide +kernel
theorem dX5_hasEnd_1 : decode cX5_hasEnd 1 = .ok (.getfield 51, 3) := by decide +kernel
theorem dX5_hasEnd_4 : decode cX5_hasEnd 4 = .ok (.iconst 5, 1) := by decide +kernel
theorem dX5_hasEnd_5 : decode cX5_hasEnd 5 = .ok (.if_icmp .eq 16, 3) := by decide +kernel
theorem dX5_hasEnd_8 : decode cX5_hasEnd 8 = .ok (.aload_n 0, 1) := by decide +kernel
theorem dX5_hasEnd_9 : decode cX5_hasEnd 9 = .ok (.getfield 51, 3) := by decide +kernel
theorem dX5_hasEnd_12 : decode cX5_hasEnd 12 = .ok (.bipush 6, 2) := by decide +kernel
theorem dX5_hasEnd_14 : decode cX5_hasEnd 14 = .ok (.if_icmp .eq 7, 3) := by decide +kernel
theorem dX5_hasEnd_17 : decode cX5_hasEnd 17 = .ok (.iconst 1, 1) := by decide +kernel
theorem dX5_hasEnd_18 : decode cX5_hasEnd 18 = .ok (.goto 4, 3) := by decide +kernel
theorem dX5_hasEnd_21 : decode cX5_hasEnd 21 = .ok (.iconst 0, 1) := by decide +kernel
theorem dX5_hasEnd_22 : decode cX5_hasEnd 22 = .ok (.ireturn, 1) := by decide +kernel
theorem dX5_hasGap_0 : decode cX5_hasGap 0 = .ok (.aload_n 0, 1) := by decide +kernel
theorem dX5_hasGap_1 : decode cX5_hasGap 1 = .ok (.invokevirtual 54, 3) := by decide +kernel
theorem dX5_hasGap_4 : decode cX5_hasGap 4 = .ok (.ifCond .eq 23, 3) := by decide +kernel
theorem dX5_hasGap_7 : decode cX5_hasGap 7 = .ok (.aload_n 0, 1) := by decide +kernel
theorem dX5_hasGap_8 : decode cX5_hasGap 8 = .ok (.invokevirtual 58, 3) := by decide +kernel
theorem dX5_hasGap_11 : decode cX5_hasGap 11 = .ok (.ifCond .eq 16, 3) := by decide +kernel
theorem dX5_hasGap_14 : decode cX5_hasGap 14 = .ok (.aload_n 0, 1) := by decide +kernel
theorem dX5_hasGap_15 : decode cX5_hasGap 15 = .ok (.getfield 51, 3) := by decide +kernel
theorem dX5_hasGap_18 : decode cX5_hasGap 18 = .ok (.bipush 7, 2) := by decide +kernel
theorem dX5_hasGap_20 : decode cX5_hasGap 20 = .ok (.if_icmp .eq 7, 3) := by decide +kernel
theorem dX5_hasGap_23 : decode cX5_hasGap 23 = .ok (.iconst 1, 1) := by decide +kernel
theorem dX5_hasGap_24 : decode cX5_hasGap 24 = .ok (.goto 4, 3) := by decide +kernel
theorem dX5_hasGap_27 : decode cX5_hasGap 27 = .ok (.iconst 0, 1) := by decide +kernel
theorem dX5_hasGap_28 : decode cX5_hasGap 28 = .ok (.ireturn, 1) := by decide +kernel
theorem dX5_append_0 : decode cX5_append 0 = .ok (.aload_n 0, 1) := by decide +kernel
theorem dX5_append_1 : decode cX5_append 1 = .ok (.getfield 37, 3) := by decide +kernel
theorem dX5_append_4 : decode cX5_append 4 = .ok (.ifCond .lt 12, 3) := by decide +kernel
theorem dX5_append_7 : decode cX5_append 7 = .ok (.aload_n 0, 1) := by decide +kernel
theorem dX5_append_8 : decode cX5_append 8 = .ok (.getfield 37, 3) := by decide +kernel
theorem dX5_append_11 : decode cX5_append 11 = .ok (.bipush 12, 2) := by decide +kernel
theorem dX5_append_13 : decode cX5_append 13 = .ok (.if_icmp .lt 6, 3) := by decide +kernel
theorem dX5_append_16 : decode cX5_append 16 = .ok (.ldc 46, 2) := by decide +kernel
theorem dX5_append_18 : decode cX5_append 18 = .ok (.ireturn, 1) := by decide +kernel
theorem dX5_append_19 : decode cX5_append 19 = .ok (.aload_n 0, 1) := by decide +kernel
theorem dX5_append_20 : decode cX5_append 20 = .ok (.getfield 9, 3) := by decide +kernel
theorem dX5_append_23 : decode cX5_append 23 = .ok (.aload_n 0, 1) := by decide +kernel
theorem dX5_append_24 : decode cX5_append 24 = .ok (.getfield 37, 3) := by decide +kernel
theorem dX5_append_27 : decode cX5_append 27 = .ok (.iload_n 1, 1) := by decide +kernel
theorem dX5_append_28 : decode cX5_append 28 = .ok (.iastore, 1) := by decide +kernel
theorem dX5_append_29 : decode cX5_append 29 = .ok (.aload_n 0, 1) := by decide +kernel
theorem dX5_append_30 : decode cX5_append 30 = .ok (.getfield 15, 3) := by decide +kernel
theorem dX5_append_33 : decode cX5_append 33 = .ok (.aload_n 0, 1) := by decide +kernel
theorem dX5_append_34 : decode cX5_append 34 = .ok (.getfield 37, 3) := by decide +kernel
theorem dX5_append_37 : decode cX5_append 37 = .ok (.iload_n 2, 1) := by decide +kernel
theorem dX5_append_38 : decode cX5_append 38 = .ok (.iastore, 1) := by decide +kernel
theorem dX5_append_39 : decode cX5_append 39 = .ok (.aload_n 0, 1) := by decide +kernel
theorem dX5_append_40 : decode cX5_append 40 = .ok (.dup, 1) := by decide +kernel
theorem dX5_append_41 : decode cX5_append 41 = .ok (.getfield 37, 3) := by decide +kernel
theorem dX5_append_44 : decode cX5_append 44 = .ok (.iconst 1, 1) := by decide +kernel
theorem dX5_append_45 : decode cX5_append 45 = .ok (.iadd, 1) := by decide +kernel
theorem dX5_append_46 : decode cX5_append 46 = .ok (.putfield 37, 3) := by decide +kernel
theorem dX5_append_49 : decode cX5_append 49 = .ok (.aload_n 0, 1) := by decide +kernel
theorem dX5_append_50 : decode cX5_append 50 = .ok (.getfield 37, 3) := by decide +kernel
theorem dX5_append_53 : decode cX5_append 53 = .ok (.iconst 1, 1) := by decide +kernel
theorem dX5_append_54 : decode cX5_append 54 = .ok (.isub, 1) := by decide +kernel
theorem dX5_append_55 : decode cX5_append 55 = .ok (.ireturn, 1) := by decide +kernel
theorem dX5_shorten_0 : decode cX5_shorten 0 = .ok (.aload_n 0, 1) := by decide +kernel
theorem dX5_shorten_1 : decode cX5_shorten 1 = .ok (.getfield 37, 3) := by decide +kernel
theorem dX5_shorten_4 : decode cX5_shorten 4 = .ok (.ifCond .le 13, 3) := by decide +kernel
theorem dX5_shorten_7 : decode cX5_shorten 7 = .ok (.aload_n 0, 1) := by decide +kernel
theorem dX5_shorten_8 : decode cX5_shorten 8 = .ok (.dup, 1) := by decide +kernel
theorem dX5_shorten_9 : decode cX5_shorten 9 = .ok (.getfield 37, 3) := by decide +kernel
theorem dX5_shorten_12 : decode cX5_shorten 12 = .ok (.iconst 1, 1) := by decide +kernel
theorem dX5_shorten_13 : decode cX5_shorten 13 = .ok (.isub, 1) := by decide +kernel
theorem dX5_shorten_14 : decode cX5_shorten 14 = .ok (.putfield 37, 3) := by decide +kernel
theorem dX5_shorten_17 : decode cX5_shorten 17 = .ok (.aload_n 0, 1) := by decide +kernel
theorem dX5_shorten_18 : decode cX5_shorten 18 = .ok (.ldc 46, 2) := by decide +kernel
theorem dX5_shorten_20 : decode cX5_shorten 20 = .ok (.ldc 46, 2) := by decide +kernel
theorem dX5_shorten_22 : decode cX5_shorten 22 = .ok (.invokevirtual 47, 3) := by decide +kernel
theorem dX5_shorten_25 : decode cX5_shorten 25 = .ok (.aload_n 0, 1) := by decide +kernel
theorem dX5_shorten_26 : decode cX5_shorten 26 = .ok (.getfield 37, 3) := by decide +kernel
theorem dX5_shorten_29 : decode cX5_shorten 29 = .ok (.ireturn, 1) := by decide +kernel
theorem dX5_takeGapAway_0 : decode cX5_takeGapAway 0 = .ok (.aload_n 0, 1) := by decide +kernel
theorem dX5_takeGapAway_1 : decode cX5_takeGapAway 1 = .ok (.getfield 61, 3) := by decide +kernel
theorem dX5_takeGapAway_4 : decode cX5_takeGapAway 4 = .ok (.istore_n 1, 1) := by decide +kernel
theorem dX5_takeGapAway_5 : decode cX5_takeGapAway 5 = .ok (.iload_n 1, 1) := by decide +kernel
theorem dX5_takeGapAway_6 : decode cX5_takeGapAway 6 = .ok (.i2l, 1) := by decide +kernel
theorem dX5_takeGapAway_7 : decode cX5_takeGapAway 7 = .ok (.aload_n 0, 1) := by decide +kernel
theorem dX5_takeGapAway_8 : decode cX5_takeGapAway 8 = .ok (.getfield 37, 3) := by decide +kernel
theorem dX5_takeGapAway_11 : decode cX5_takeGapAway 11 = .ok (.iconst 1, 1) := by decide +kernel
theorem dX5_takeGapAway_12 : decode cX5_takeGapAway 12 = .ok (.iadd, 1) := by decide +kernel
theorem dX5_takeGapAway_13 : decode cX5_takeGapAway 13 = .ok (.i2l, 1) := by decide +kernel
theorem dX5_takeGapAway_14 : decode cX5_takeGapAway 14 = .ok (.invokestatic 64, 3) := by decide +kernel
theorem dX5_takeGapAway_17 : decode cX5_takeGapAway 17 = .ok (.istore_n 2, 1) := by decide +kernel
theorem dX5_takeGapAway_18 : decode cX5_takeGapAway 18 = .ok (.iload_n 1, 1) := by decide +kernel
theorem dX5_takeGapAway_19 : decode cX5_takeGapAway 19 = .ok (.aload_n 0, 1) := by decide +kernel
theorem dX5_takeGapAway_20 : decode cX5_takeGapAway 20 = .ok (.getfield 37, 3) := by decide +kernel
theorem dX5_takeGapAway_23 : decode cX5_takeGapAway 23 = .ok (.iconst 1, 1) := by decide +kernel
theorem dX5_takeGapAway_24 : decode cX5_takeGapAway 24 = .ok (.iadd, 1) := by decide +kernel
theorem dX5_takeGapAway_25 : decode cX5_takeGapAway 25 = .ok (.iload_n 2, 1) := by decide +kernel
theorem dX5_takeGapAway_26 : decode cX5_takeGapAway 26 = .ok (.imul, 1) := by decide +kernel
theorem dX5_takeGapAway_27 : decode cX5_takeGapAway 27 = .ok (.isub, 1) := by decide +kernel
theorem dX5_takeGapAway_28 : decode cX5_takeGapAway 28 = .ok (.istore_n 3, 1) := by decide +kernel
theorem dX5_takeGapAway_29 : decode cX5_takeGapAway 29 = .ok (.iload_n 3, 1) := by decide +kernel
theorem dX5_takeGapAway_30 : decode cX5_takeGapAway 30 = .ok (.ifCond .ge 7, 3) := by decide +kernel
theorem dX5_takeGapAway_33 : decode cX5_takeGapAway 33 = .ok (.iconst (-1), 1) := by decide +kernel
theorem dX5_takeGapAway_34 : decode cX5_takeGapAway 34 = .ok (.goto 4, 3) := by decide +kernel
theorem dX5_takeGapAway_37 : decode cX5_takeGapAway 37 = .ok (.iconst 1, 1) := by decide +kernel
theorem dX5_takeGapAway_38 : decode cX5_takeGapAway 38 = .ok (.istore 4, 2) := by decide +kernel
theorem dX5_takeGapAway_40 : decode cX5_takeGapAway 40 = .ok (.iconst 0, 1) := by decide +kernel
theorem dX5_takeGapAway_41 : decode cX5_takeGapAway 41 = .ok (.istore 5, 2) := by decide +kernel
theorem dX5_takeGapAway_43 : decode cX5_takeGapAway 43 = .ok (.iload 5, 2) := by decide +kernel
theorem dX5_takeGapAway_45 : decode cX5_takeGapAway 45 = .ok (.aload_n 0, 1) := by decide +kernel
theorem dX5_takeGapAway_46 : decode cX5_takeGapAway 46 = .ok (.getfield 37, 3) := by decide +kernel
theorem dX5_takeGapAway_49 : decode cX5_takeGapAway 49 = .ok (.if_icmp .ge 59, 3) := by decide +kernel
theorem dX5_takeGapAway_52 : decode cX5_takeGapAway 52 = .ok (.iload 5, 2) := by decide +kernel
theorem dX5_takeGapAway_54 : decode cX5_takeGapAway 54 = .ok (.bipush 12, 2) := by decide +kernel
theorem dX5_takeGapAway_56 : decode cX5_takeGapAway 56 = .ok (.if_icmp .ge 52, 3) := by decide +kernel
theorem dX5_takeGapAway_59 : decode cX5_takeGapAway 59 = .ok (.aload_n 0, 1) := by decide +kernel
theorem dX5_takeGapAway_60 : decode cX5_takeGapAway 60 = .ok (.iload 5, 2) := by decide +kernel
theorem dX5_takeGapAway_62 : decode cX5_takeGapAway 62 = .ok (.invokevirtual 70, 3) := by decide +kernel
theorem dX5_takeGapAway_65 : decode cX5_takeGapAway 65 = .ok (.iload_n 3, 1) := by decide +kernel
theorem dX5_takeGapAway_66 : decode cX5_takeGapAway 66 = .ok (.invokestatic 74, 3) := by decide +kernel
theorem dX5_takeGapAway_69 : decode cX5_takeGapAway 69 = .ok (.if_icmp .ge 8, 3) := by decide +kernel
theorem dX5_takeGapAway_72 : decode cX5_takeGapAway 72 = .ok (.iload 4, 2) := by decide +kernel
theorem dX5_takeGapAway_74 : decode cX5_takeGapAway 74 = .ok (.goto 4, 3) := by decide +kernel
theorem dX5_takeGapAway_77 : decode cX5_takeGapAway 77 = .ok (.iconst 0, 1) := by decide +kernel
theorem dX5_takeGapAway_78 : decode cX5_takeGapAway 78 = .ok (.istore 6, 2) := by decide +kernel
theorem dX5_takeGapAway_80 : decode cX5_takeGapAway 80 = .ok (.aload_n 0, 1) := by decide +kernel
theorem dX5_takeGapAway_81 : decode cX5_takeGapAway 81 = .ok (.getfield 9, 3) := by decide +kernel
theorem dX5_takeGapAway_84 : decode cX5_takeGapAway 84 = .ok (.iload 5, 2) := by decide +kernel
theorem dX5_takeGapAway_86 : decode cX5_takeGapAway 86 = .ok (.aload_n 0, 1) := by decide +kernel
theorem dX5_takeGapAway_87 : decode cX5_takeGapAway 87 = .ok (.getfield 9, 3) := by decide +kernel
theorem dX5_takeGapAway_90 : decode cX5_takeGapAway 90 = .ok (.iload 5, 2) := by decide +kernel
theorem dX5_takeGapAway_92 : decode cX5_takeGapAway 92 = .ok (.iaload, 1) := by decide +kernel
theorem dX5_takeGapAway_93 : decode cX5_takeGapAway 93 = .ok (.iload_n 2, 1) := by decide +kernel
theorem dX5_takeGapAway_94 : decode cX5_takeGapAway 94 = .ok (.isub, 1) := by decide +kernel
theorem dX5_takeGapAway_95 : decode cX5_takeGapAway 95 = .ok (.iload 6, 2) := by decide +kernel
theorem dX5_takeGapAway_97 : decode cX5_takeGapAway 97 = .ok (.isub, 1) := by decide +kernel
theorem dX5_takeGapAway_98 : decode cX5_takeGapAway 98 = .ok (.invokestatic 79, 3) := by decide +kernel
theorem dX5_takeGapAway_101 : decode cX5_takeGapAway 101 = .ok (.iastore, 1) := by decide +kernel
theorem dX5_takeGapAway_102 : decode cX5_takeGapAway 102 = .ok (.iinc 5 1, 3) := by decide +kernel
theorem dX5_takeGapAway_105 : decode cX5_takeGapAway 105 = .ok (.goto (-62), 3) := by decide +kernel
theorem dX5_takeGapAway_108 : decode cX5_takeGapAway 108 = .ok (.aload_n 0, 1) := by decide +kernel
theorem dX5_takeGapAway_109 : decode cX5_takeGapAway 109 = .ok (.aload_n 0, 1) := by decide +kernel
theorem dX5_takeGapAway_110 : decode cX5_takeGapAway 110 = .ok (.getfield 34, 3) := by decide +kernel
theorem dX5_takeGapAway_113 : decode cX5_takeGapAway 113 = .ok (.iload_n 2, 1) := by decide +kernel
theorem dX5_takeGapAway_114 : decode cX5_takeGapAway 114 = .ok (.isub, 1) := by decide +kernel
theorem dX5_takeGapAway_115 : decode cX5_takeGapAway 115 = .ok (.invokestatic 79, 3) := by decide +kernel
theorem dX5_takeGapAway_118 : decode cX5_takeGapAway 118 = .ok (.putfield 34, 3) := by decide +kernel
theorem dX5_takeGapAway_121 : decode cX5_takeGapAway 121 = .ok (.iload_n 1, 1) := by decide +kernel
theorem dX5_takeGapAway_122 : decode cX5_takeGapAway 122 = .ok (.ireturn, 1) := by decide +kernel
theorem dX5_legsBefore_0 : decode cX5_legsBefore 0 = .ok (.aload_n 0, 1) := by decide +kernel
theorem dX5_legsBefore_1 : decode cX5_legsBefore 1 = .ok (.iload_n 1, 1) := by decide +kernel
theorem dX5_legsBefore_2 : decode cX5_legsBefore 2 = .ok (.invokevirtual 82, 3) := by decide +kernel
theorem dX5_legsBefore_5 : decode cX5_legsBefore 5 = .ok (.ifCond .ne 5, 3) := by decide +kernel
theorem dX5_legsBefore_8 : decode cX5_legsBefore 8 = .ok (.iconst 0, 1) := by decide +kernel
theorem dX5_legsBefore_9 : decode cX5_legsBefore 9 = .ok (.ireturn, 1) := by decide +kernel
theorem dX5_legsBefore_10 : decode cX5_legsBefore 10 = .ok (.iconst 0, 1) := by decide +kernel
theorem dX5_legsBefore_11 : decode cX5_legsBefore 11 = .ok (.istore_n 2, 1) := by decide +kernel
theorem dX5_legsBefore_12 : decode cX5_legsBefore 12 = .ok (.iconst 0, 1) := by decide +kernel
theorem dX5_legsBefore_13 : decode cX5_legsBefore 13 = .ok (.istore_n 3, 1) := by decide +kernel
theorem dX5_legsBefore_14 : decode cX5_legsBefore 14 = .ok (.iload_n 3, 1) := by decide +kernel
theorem dX5_legsBefore_15 : decode cX5_legsBefore 15 = .ok (.aload_n 0, 1) := by decide +kernel
theorem dX5_legsBefore_16 : decode cX5_legsBefore 16 = .ok (.getfield 37, 3) := by decide +kernel
theorem dX5_legsBefore_19 : decode cX5_legsBefore 19 = .ok (.if_icmp .ge 53, 3) := by decide +kernel
theorem dX5_legsBefore_22 : decode cX5_legsBefore 22 = .ok (.iload_n 3, 1) := by decide +kernel
theorem dX5_legsBefore_23 : decode cX5_legsBefore 23 = .ok (.bipush 12, 2) := by decide +kernel
theorem dX5_legsBefore_25 : decode cX5_legsBefore 25 = .ok (.if_icmp .ge 47, 3) := by decide +kernel
theorem dX5_legsBefore_28 : decode cX5_legsBefore 28 = .ok (.aload_n 0, 1) := by decide +kernel
theorem dX5_legsBefore_29 : decode cX5_legsBefore 29 = .ok (.getfield 15, 3) := by decide +kernel
theorem dX5_legsBefore_32 : decode cX5_legsBefore 32 = .ok (.iload_n 3, 1) := by decide +kernel
theorem dX5_legsBefore_33 : decode cX5_legsBefore 33 = .ok (.iaload, 1) := by decide +kernel
theorem dX5_legsBefore_34 : decode cX5_legsBefore 34 = .ok (.aload_n 0, 1) := by decide +kernel
theorem dX5_legsBefore_35 : decode cX5_legsBefore 35 = .ok (.getfield 15, 3) := by decide +kernel
theorem dX5_legsBefore_38 : decode cX5_legsBefore 38 = .ok (.iload_n 1, 1) := by decide +kernel
theorem dX5_legsBefore_39 : decode cX5_legsBefore 39 = .ok (.iaload, 1) := by decide +kernel
theorem dX5_legsBefore_40 : decode cX5_legsBefore 40 = .ok (.if_icmp .gt 23, 3) := by decide +kernel
theorem dX5_legsBefore_43 : decode cX5_legsBefore 43 = .ok (.aload_n 0, 1) := by decide +kernel
theorem dX5_legsBefore_44 : decode cX5_legsBefore 44 = .ok (.getfield 15, 3) := by decide +kernel
theorem dX5_legsBefore_47 : decode cX5_legsBefore 47 = .ok (.iload_n 3, 1) := by decide +kernel
theorem dX5_legsBefore_48 : decode cX5_legsBefore 48 = .ok (.iaload, 1) := by decide +kernel
theorem dX5_legsBefore_49 : decode cX5_legsBefore 49 = .ok (.aload_n 0, 1) := by decide +kernel
theorem dX5_legsBefore_50 : decode cX5_legsBefore 50 = .ok (.getfield 15, 3) := by decide +kernel
theorem dX5_legsBefore_53 : decode cX5_legsBefore 53 = .ok (.iload_n 1, 1) := by decide +kernel
theorem dX5_legsBefore_54 : decode cX5_legsBefore 54 = .ok (.iaload, 1) := by decide +kernel
theorem dX5_legsBefore_55 : decode cX5_legsBefore 55 = .ok (.if_icmp .ne 11, 3) := by decide +kernel
theorem dX5_legsBefore_58 : decode cX5_legsBefore 58 = .ok (.iload_n 3, 1) := by decide +kernel
theorem dX5_legsBefore_59 : decode cX5_legsBefore 59 = .ok (.iload_n 1, 1) := by decide +kernel
theorem dX5_legsBefore_60 : decode cX5_legsBefore 60 = .ok (.if_icmp .ge 6, 3) := by decide +kernel
theorem dX5_legsBefore_63 : decode cX5_legsBefore 63 = .ok (.iinc 2 1, 3) := by decide +kernel
theorem dX5_legsBefore_66 : decode cX5_legsBefore 66 = .ok (.iinc 3 1, 3) := by decide +kernel
theorem dX5_legsBefore_69 : decode cX5_legsBefore 69 = .ok (.goto (-55), 3) := by decide +kernel
theorem dX5_legsBefore_72 : decode cX5_legsBefore 72 = .ok (.iload_n 2, 1) := by decide +kernel
theorem dX5_legsBefore_73 : decode cX5_legsBefore 73 = .ok (.ireturn, 1) := by decide +kernel
theorem dX5_judge_0 : decode cX5_judge 0 = .ok (.aload_n 1, 1) := by decide +kernel
theorem dX5_judge_1 : decode cX5_judge 1 = .ok (.ifnonnull 4, 3) := by decide +kernel
theorem dX5_judge_4 : decode cX5_judge 4 = .ok (.return_, 1) := by decide +kernel
theorem dX5_judge_5 : decode cX5_judge 5 = .ok (.aload_n 0, 1) := by decide +kernel
theorem dX5_judge_6 : decode cX5_judge 6 = .ok (.aload_n 0, 1) := by decide +kernel
theorem dX5_judge_7 : decode cX5_judge 7 = .ok (.getfield 37, 3) := by decide +kernel
theorem dX5_judge_10 : decode cX5_judge 10 = .ok (.ifCond .ne 7, 3) := by decide +kernel
theorem dX5_judge_13 : decode cX5_judge 13 = .ok (.iconst 5, 1) := by decide +kernel
theorem dX5_judge_14 : decode cX5_judge 14 = .ok (.goto 16, 3) := by decide +kernel
theorem dX5_judge_17 : decode cX5_judge 17 = .ok (.aload_n 1, 1) := by decide +kernel
theorem dX5_judge_18 : decode cX5_judge 18 = .ok (.getfield 86, 3) := by decide +kernel
theorem dX5_judge_21 : decode cX5_judge 21 = .ok (.ifCond .eq 8, 3) := by decide +kernel
theorem dX5_judge_24 : decode cX5_judge 24 = .ok (.bipush 6, 2) := by decide +kernel
theorem dX5_judge_26 : decode cX5_judge 26 = .ok (.goto 4, 3) := by decide +kernel
theorem dX5_judge_29 : decode cX5_judge 29 = .ok (.iconst 0, 1) := by decide +kernel
theorem dX5_judge_30 : decode cX5_judge 30 = .ok (.putfield 51, 3) := by decide +kernel
theorem dX5_judge_33 : decode cX5_judge 33 = .ok (.aload_n 0, 1) := by decide +kernel
theorem dX5_judge_34 : decode cX5_judge 34 = .ok (.getfield 51, 3) := by decide +kernel
theorem dX5_judge_37 : decode cX5_judge 37 = .ok (.ifCond .eq 4, 3) := by decide +kernel
theorem dX5_judge_40 : decode cX5_judge 40 = .ok (.return_, 1) := by decide +kernel
theorem dX5_judge_41 : decode cX5_judge 41 = .ok (.aload_n 0, 1) := by decide +kernel
theorem dX5_judge_42 : decode cX5_judge 42 = .ok (.aload_n 1, 1) := by decide +kernel
theorem dX5_judge_43 : decode cX5_judge 43 = .ok (.invokevirtual 89, 3) := by decide +kernel
theorem dX5_judge_46 : decode cX5_judge 46 = .ok (.istore 4, 2) := by decide +kernel
theorem dX5_judge_48 : decode cX5_judge 48 = .ok (.aload_n 2, 1) := by decide +kernel
theorem dX5_judge_49 : decode cX5_judge 49 = .ok (.ifnonnull 4, 3) := by decide +kernel
theorem dX5_judge_52 : decode cX5_judge 52 = .ok (.return_, 1) := by decide +kernel
theorem dX5_judge_53 : decode cX5_judge 53 = .ok (.aload_n 2, 1) := by decide +kernel
theorem dX5_judge_54 : decode cX5_judge 54 = .ok (.getfield 86, 3) := by decide +kernel
theorem dX5_judge_57 : decode cX5_judge 57 = .ok (.ifCond .eq 10, 3) := by decide +kernel
theorem dX5_judge_60 : decode cX5_judge 60 = .ok (.aload_n 0, 1) := by decide +kernel
theorem dX5_judge_61 : decode cX5_judge 61 = .ok (.bipush 7, 2) := by decide +kernel
theorem dX5_judge_63 : decode cX5_judge 63 = .ok (.putfield 51, 3) := by decide +kernel
theorem dX5_judge_66 : decode cX5_judge 66 = .ok (.return_, 1) := by decide +kernel
theorem dX5_judge_67 : decode cX5_judge 67 = .ok (.aload_n 0, 1) := by decide +kernel
theorem dX5_judge_68 : decode cX5_judge 68 = .ok (.iload 4, 2) := by decide +kernel
theorem dX5_judge_70 : decode cX5_judge 70 = .ok (.aload_n 0, 1) := by decide +kernel
theorem dX5_judge_71 : decode cX5_judge 71 = .ok (.getfield 34, 3) := by decide +kernel
theorem dX5_judge_74 : decode cX5_judge 74 = .ok (.iadd, 1) := by decide +kernel
theorem dX5_judge_75 : decode cX5_judge 75 = .ok (.ldc 93, 2) := by decide +kernel
theorem dX5_judge_77 : decode cX5_judge 77 = .ok (.iadd, 1) := by decide +kernel
theorem dX5_judge_78 : decode cX5_judge 78 = .ok (.aload_n 2, 1) := by decide +kernel
theorem dX5_judge_79 : decode cX5_judge 79 = .ok (.getfield 94, 3) := by decide +kernel
theorem dX5_judge_82 : decode cX5_judge 82 = .ok (.isub, 1) := by decide +kernel
theorem dX5_judge_83 : decode cX5_judge 83 = .ok (.invokestatic 97, 3) := by decide +kernel
theorem dX5_judge_86 : decode cX5_judge 86 = .ok (.putfield 61, 3) := by decide +kernel
theorem dX5_judge_89 : decode cX5_judge 89 = .ok (.aload_n 0, 1) := by decide +kernel
theorem dX5_judge_90 : decode cX5_judge 90 = .ok (.aload_n 0, 1) := by decide +kernel
theorem dX5_judge_91 : decode cX5_judge 91 = .ok (.getfield 100, 3) := by decide +kernel
theorem dX5_judge_94 : decode cX5_judge 94 = .ok (.aload_n 2, 1) := by decide +kernel
theorem dX5_judge_95 : decode cX5_judge 95 = .ok (.getfield 103, 3) := by decide +kernel
theorem dX5_judge_98 : decode cX5_judge 98 = .ok (.isub, 1) := by decide +kernel
theorem dX5_judge_99 : decode cX5_judge 99 = .ok (.putfield 106, 3) := by decide +kernel
theorem dX5_judge_102 : decode cX5_judge 102 = .ok (.aload_n 0, 1) := by decide +kernel
theorem dX5_judge_103 : decode cX5_judge 103 = .ok (.aload_n 0, 1) := by decide +kernel
theorem dX5_judge_104 : decode cX5_judge 104 = .ok (.getfield 109, 3) := by decide +kernel
theorem dX5_judge_107 : decode cX5_judge 107 = .ok (.aload_n 2, 1) := by decide +kernel
theorem dX5_judge_108 : decode cX5_judge 108 = .ok (.getfield 112, 3) := by decide +kernel
theorem dX5_judge_111 : decode cX5_judge 111 = .ok (.isub, 1) := by decide +kernel
theorem dX5_judge_112 : decode cX5_judge 112 = .ok (.putfield 115, 3) := by decide +kernel
theorem dX5_judge_115 : decode cX5_judge 115 = .ok (.aload_n 0, 1) := by decide +kernel
theorem dX5_judge_116 : decode cX5_judge 116 = .ok (.aload_n 0, 1) := by decide +kernel
theorem dX5_judge_117 : decode cX5_judge 117 = .ok (.getfield 61, 3) := by decide +kernel
theorem dX5_judge_120 : decode cX5_judge 120 = .ok (.invokestatic 74, 3) := by decide +kernel
theorem dX5_judge_123 : decode cX5_judge 123 = .ok (.iload_n 3, 1) := by decide +kernel
theorem dX5_judge_124 : decode cX5_judge 124 = .ok (.aload_n 0, 1) := by decide +kernel
theorem dX5_judge_125 : decode cX5_judge 125 = .ok (.getfield 37, 3) := by decide +kernel
theorem dX5_judge_128 : decode cX5_judge 128 = .ok (.iconst 1, 1) := by decide +kernel
theorem dX5_judge_129 : decode cX5_judge 129 = .ok (.iadd, 1) := by decide +kernel
theorem dX5_judge_130 : decode cX5_judge 130 = .ok (.i2l, 1) := by decide +kernel
theorem dX5_judge_131 : decode cX5_judge 131 = .ok (.invokestatic 118, 3) := by decide +kernel
theorem dX5_judge_134 : decode cX5_judge 134 = .ok (.imul, 1) := by decide +kernel
theorem dX5_judge_135 : decode cX5_judge 135 = .ok (.if_icmp .le 8, 3) := by decide +kernel
theorem dX5_judge_138 : decode cX5_judge 138 = .ok (.bipush 8, 2) := by decide +kernel
theorem dX5_judge_140 : decode cX5_judge 140 = .ok (.goto 4, 3) := by decide +kernel
theorem dX5_judge_143 : decode cX5_judge 143 = .ok (.iconst 0, 1) := by decide +kernel
theorem dX5_judge_144 : decode cX5_judge 144 = .ok (.putfield 51, 3) := by decide +kernel
theorem dX5_judge_147 : decode cX5_judge 147 = .ok (.return_, 1) := by decide +kernel
theorem dX5_layOut_0 : decode cX5_layOut 0 = .ok (.aload_n 1, 1) := by decide +kernel
theorem dX5_layOut_1 : decode cX5_layOut 1 = .ok (.getfield 94, 3) := by decide +kernel
theorem dX5_layOut_4 : decode cX5_layOut 4 = .ok (.ldc 93, 2) := by decide +kernel
theorem dX5_layOut_6 : decode cX5_layOut 6 = .ok (.iadd, 1) := by decide +kernel
theorem dX5_layOut_7 : decode cX5_layOut 7 = .ok (.istore_n 2, 1) := by decide +kernel
theorem dX5_layOut_8 : decode cX5_layOut 8 = .ok (.aload_n 0, 1) := by decide +kernel
theorem dX5_layOut_9 : decode cX5_layOut 9 = .ok (.aload_n 1, 1) := by decide +kernel
theorem dX5_layOut_10 : decode cX5_layOut 10 = .ok (.getfield 103, 3) := by decide +kernel
theorem dX5_layOut_13 : decode cX5_layOut 13 = .ok (.putfield 100, 3) := by decide +kernel
theorem dX5_layOut_16 : decode cX5_layOut 16 = .ok (.aload_n 0, 1) := by decide +kernel
theorem dX5_layOut_17 : decode cX5_layOut 17 = .ok (.aload_n 1, 1) := by decide +kernel
theorem dX5_layOut_18 : decode cX5_layOut 18 = .ok (.getfield 112, 3) := by decide +kernel
theorem dX5_layOut_21 : decode cX5_layOut 21 = .ok (.putfield 109, 3) := by decide +kernel
theorem dX5_layOut_24 : decode cX5_layOut 24 = .ok (.iconst 0, 1) := by decide +kernel
theorem dX5_layOut_25 : decode cX5_layOut 25 = .ok (.istore_n 3, 1) := by decide +kernel
theorem dX5_layOut_26 : decode cX5_layOut 26 = .ok (.iload_n 3, 1) := by decide +kernel
theorem dX5_layOut_27 : decode cX5_layOut 27 = .ok (.aload_n 0, 1) := by decide +kernel
theorem dX5_layOut_28 : decode cX5_layOut 28 = .ok (.getfield 37, 3) := by decide +kernel
theorem dX5_layOut_31 : decode cX5_layOut 31 = .ok (.if_icmp .ge 106, 3) := by decide +kernel
theorem dX5_layOut_34 : decode cX5_layOut 34 = .ok (.iload_n 3, 1) := by decide +kernel
theorem dX5_layOut_35 : decode cX5_layOut 35 = .ok (.bipush 12, 2) := by decide +kernel
theorem dX5_layOut_37 : decode cX5_layOut 37 = .ok (.if_icmp .ge 100, 3) := by decide +kernel
theorem dX5_layOut_40 : decode cX5_layOut 40 = .ok (.iload_n 2, 1) := by decide +kernel
theorem dX5_layOut_41 : decode cX5_layOut 41 = .ok (.aload_n 0, 1) := by decide +kernel
theorem dX5_layOut_42 : decode cX5_layOut 42 = .ok (.getfield 9, 3) := by decide +kernel
theorem dX5_layOut_45 : decode cX5_layOut 45 = .ok (.iload_n 3, 1) := by decide +kernel
theorem dX5_layOut_46 : decode cX5_layOut 46 = .ok (.iaload, 1) := by decide +kernel
theorem dX5_layOut_47 : decode cX5_layOut 47 = .ok (.iadd, 1) := by decide +kernel
theorem dX5_layOut_48 : decode cX5_layOut 48 = .ok (.ldc 93, 2) := by decide +kernel
theorem dX5_layOut_50 : decode cX5_layOut 50 = .ok (.iadd, 1) := by decide +kernel
theorem dX5_layOut_51 : decode cX5_layOut 51 = .ok (.invokestatic 79, 3) := by decide +kernel
theorem dX5_layOut_54 : decode cX5_layOut 54 = .ok (.istore_n 2, 1) := by decide +kernel
theorem dX5_layOut_55 : decode cX5_layOut 55 = .ok (.aload_n 0, 1) := by decide +kernel
theorem dX5_layOut_56 : decode cX5_layOut 56 = .ok (.dup, 1) := by decide +kernel
theorem dX5_layOut_57 : decode cX5_layOut 57 = .ok (.getfield 100, 3) := by decide +kernel
theorem dX5_layOut_60 : decode cX5_layOut 60 = .ok (.aload_n 0, 1) := by decide +kernel
theorem dX5_layOut_61 : decode cX5_layOut 61 = .ok (.getfield 15, 3) := by decide +kernel
theorem dX5_layOut_64 : decode cX5_layOut 64 = .ok (.iload_n 3, 1) := by decide +kernel
theorem dX5_layOut_65 : decode cX5_layOut 65 = .ok (.iaload, 1) := by decide +kernel
theorem dX5_layOut_66 : decode cX5_layOut 66 = .ok (.i2l, 1) := by decide +kernel
theorem dX5_layOut_67 : decode cX5_layOut 67 = .ok (.iload_n 2, 1) := by decide +kernel
theorem dX5_layOut_68 : decode cX5_layOut 68 = .ok (.invokestatic 122, 3) := by decide +kernel
theorem dX5_layOut_71 : decode cX5_layOut 71 = .ok (.invokestatic 125, 3) := by decide +kernel
theorem dX5_layOut_74 : decode cX5_layOut 74 = .ok (.iadd, 1) := by decide +kernel
theorem dX5_layOut_75 : decode cX5_layOut 75 = .ok (.putfield 100, 3) := by decide +kernel
theorem dX5_layOut_78 : decode cX5_layOut 78 = .ok (.aload_n 0, 1) := by decide +kernel
theorem dX5_layOut_79 : decode cX5_layOut 79 = .ok (.dup, 1) := by decide +kernel
theorem dX5_layOut_80 : decode cX5_layOut 80 = .ok (.getfield 109, 3) := by decide +kernel
theorem dX5_layOut_83 : decode cX5_layOut 83 = .ok (.aload_n 0, 1) := by decide +kernel
theorem dX5_layOut_84 : decode cX5_layOut 84 = .ok (.getfield 15, 3) := by decide +kernel
theorem dX5_layOut_87 : decode cX5_layOut 87 = .ok (.iload_n 3, 1) := by decide +kernel
theorem dX5_layOut_88 : decode cX5_layOut 88 = .ok (.iaload, 1) := by decide +kernel
theorem dX5_layOut_89 : decode cX5_layOut 89 = .ok (.i2l, 1) := by decide +kernel
theorem dX5_layOut_90 : decode cX5_layOut 90 = .ok (.iload_n 2, 1) := by decide +kernel
theorem dX5_layOut_91 : decode cX5_layOut 91 = .ok (.ldc 129, 2) := by decide +kernel
theorem dX5_layOut_93 : decode cX5_layOut 93 = .ok (.iadd, 1) := by decide +kernel
theorem dX5_layOut_94 : decode cX5_layOut 94 = .ok (.invokestatic 122, 3) := by decide +kernel
theorem dX5_layOut_97 : decode cX5_layOut 97 = .ok (.invokestatic 125, 3) := by decide +kernel
theorem dX5_layOut_100 : decode cX5_layOut 100 = .ok (.iadd, 1) := by decide +kernel
theorem dX5_layOut_101 : decode cX5_layOut 101 = .ok (.putfield 109, 3) := by decide +kernel
theorem dX5_layOut_104 : decode cX5_layOut 104 = .ok (.aload_n 0, 1) := by decide +kernel
theorem dX5_layOut_105 : decode cX5_layOut 105 = .ok (.getfield 18, 3) := by decide +kernel
theorem dX5_layOut_108 : decode cX5_layOut 108 = .ok (.iload_n 3, 1) := by decide +kernel
theorem dX5_layOut_109 : decode cX5_layOut 109 = .ok (.iload_n 2, 1) := by decide +kernel
theorem dX5_layOut_110 : decode cX5_layOut 110 = .ok (.iastore, 1) := by decide +kernel
theorem dX5_layOut_111 : decode cX5_layOut 111 = .ok (.aload_n 0, 1) := by decide +kernel
theorem dX5_layOut_112 : decode cX5_layOut 112 = .ok (.getfield 21, 3) := by decide +kernel
theorem dX5_layOut_115 : decode cX5_layOut 115 = .ok (.iload_n 3, 1) := by decide +kernel
theorem dX5_layOut_116 : decode cX5_layOut 116 = .ok (.aload_n 0, 1) := by decide +kernel
theorem dX5_layOut_117 : decode cX5_layOut 117 = .ok (.getfield 100, 3) := by decide +kernel
theorem dX5_layOut_120 : decode cX5_layOut 120 = .ok (.iastore, 1) := by decide +kernel
theorem dX5_layOut_121 : decode cX5_layOut 121 = .ok (.aload_n 0, 1) := by decide +kernel
theorem dX5_layOut_122 : decode cX5_layOut 122 = .ok (.getfield 24, 3) := by decide +kernel
theorem dX5_layOut_125 : decode cX5_layOut 125 = .ok (.iload_n 3, 1) := by decide +kernel
theorem dX5_layOut_126 : decode cX5_layOut 126 = .ok (.aload_n 0, 1) := by decide +kernel
theorem dX5_layOut_127 : decode cX5_layOut 127 = .ok (.getfield 109, 3) := by decide +kernel
theorem dX5_layOut_130 : decode cX5_layOut 130 = .ok (.iastore, 1) := by decide +kernel
theorem dX5_layOut_131 : decode cX5_layOut 131 = .ok (.iinc 3 1, 3) := by decide +kernel
theorem dX5_layOut_134 : decode cX5_layOut 134 = .ok (.goto (-108), 3) := by decide +kernel
theorem dX5_layOut_137 : decode cX5_layOut 137 = .ok (.iload_n 2, 1) := by decide +kernel
theorem dX5_layOut_138 : decode cX5_layOut 138 = .ok (.ireturn, 1) := by decide +kernel
theorem dX5_step_0 : decode cX5_step 0 = .ok (.lload_n 0, 1) := by decide +kernel
theorem dX5_step_1 : decode cX5_step 1 = .ok (.iload_n 2, 1) := by decide +kernel
theorem dX5_step_2 : decode cX5_step 2 = .ok (.i2l, 1) := by decide +kernel
theorem dX5_step_3 : decode cX5_step 3 = .ok (.lmul, 1) := by decide +kernel
theorem dX5_step_4 : decode cX5_step 4 = .ok (.ldc2_w 130, 3) := by decide +kernel
theorem dX5_step_7 : decode cX5_step 7 = .ok (.invokestatic 64, 3) := by decide +kernel
theorem dX5_step_10 : decode cX5_step 10 = .ok (.ireturn, 1) := by decide +kernel
theorem dX5_number_0 : decode cX5_number 0 = .ok (.iload_n 1, 1) := by decide +kernel
theorem dX5_number_1 : decode cX5_number 1 = .ok (.tableswitch 73 0 6 #[43, 48, 53, 58, 63, 73, 68], 43) := by decide +kernel
theorem dX5_number_44 : decode cX5_number 44 = .ok (.aload_n 0, 1) := by decide +kernel
theorem dX5_number_45 : decode cX5_number 45 = .ok (.getfield 27, 3) := by decide +kernel
theorem dX5_number_48 : decode cX5_number 48 = .ok (.ireturn, 1) := by decide +kernel
theorem dX5_number_49 : decode cX5_number 49 = .ok (.aload_n 0, 1) := by decide +kernel
theorem dX5_number_50 : decode cX5_number 50 = .ok (.getfield 37, 3) := by decide +kernel
theorem dX5_number_53 : decode cX5_number 53 = .ok (.ireturn, 1) := by decide +kernel
theorem dX5_number_54 : decode cX5_number 54 = .ok (.aload_n 0, 1) := by decide +kernel
theorem dX5_number_55 : decode cX5_number 55 = .ok (.getfield 31, 3) := by decide +kernel
theorem dX5_number_58 : decode cX5_number 58 = .ok (.ireturn, 1) := by decide +kernel
theorem dX5_number_59 : decode cX5_number 59 = .ok (.aload_n 0, 1) := by decide +kernel
theorem dX5_number_60 : decode cX5_number 60 = .ok (.getfield 34, 3) := by decide +kernel
theorem dX5_number_63 : decode cX5_number 63 = .ok (.ireturn, 1) := by decide +kernel
theorem dX5_number_64 : decode cX5_number 64 = .ok (.aload_n 0, 1) := by decide +kernel
theorem dX5_number_65 : decode cX5_number 65 = .ok (.getfield 51, 3) := by decide +kernel
theorem dX5_number_68 : decode cX5_number 68 = .ok (.ireturn, 1) := by decide +kernel
theorem dX5_number_69 : decode cX5_number 69 = .ok (.aload_n 0, 1) := by decide +kernel
theorem dX5_number_70 : decode cX5_number 70 = .ok (.invokevirtual 132, 3) := by decide +kernel
theorem dX5_number_73 : decode cX5_number 73 = .ok (.ireturn, 1) := by decide +kernel
theorem dX5_number_74 : decode cX5_number 74 = .ok (.aload_n 0, 1) := by decide +kernel
theorem dX5_number_75 : decode cX5_number 75 = .ok (.invokevirtual 136, 3) := by decide +kernel
theorem dX5_number_78 : decode cX5_number 78 = .ok (.ifCond .eq 11, 3) := by decide +kernel
theorem dX5_number_81 : decode cX5_number 81 = .ok (.aload_n 0, 1) := by decide +kernel
theorem dX5_number_82 : decode cX5_number 82 = .ok (.iload_n 1, 1) := by decide +kernel
theorem dX5_number_83 : decode cX5_number 83 = .ok (.invokevirtual 139, 3) := by decide +kernel
theorem dX5_number_86 : decode cX5_number 86 = .ok (.goto 5, 3) := by decide +kernel
theorem dX5_number_89 : decode cX5_number 89 = .ok (.ldc 46, 2) := by decide +kernel
theorem dX5_number_91 : decode cX5_number 91 = .ok (.ireturn, 1) := by decide +kernel
theorem dX5_numberOfClosing_0 : decode cX5_numberOfClosing 0 = .ok (.iload_n 1, 1) := by decide +kernel
theorem dX5_numberOfClosing_1 : decode cX5_numberOfClosing 1 = .ok (.tableswitch 46 5 8 #[31, 46, 36, 41], 31) := by decide +kernel
theorem dX5_numberOfClosing_32 : decode cX5_numberOfClosing 32 = .ok (.aload_n 0, 1) := by decide +kernel
theorem dX5_numberOfClosing_33 : decode cX5_numberOfClosing 33 = .ok (.getfield 61, 3) := by decide +kernel
theorem dX5_numberOfClosing_36 : decode cX5_numberOfClosing 36 = .ok (.ireturn, 1) := by decide +kernel
theorem dX5_numberOfClosing_37 : decode cX5_numberOfClosing 37 = .ok (.aload_n 0, 1) := by decide +kernel
theorem dX5_numberOfClosing_38 : decode cX5_numberOfClosing 38 = .ok (.getfield 106, 3) := by decide +kernel
theorem dX5_numberOfClosing_41 : decode cX5_numberOfClosing 41 = .ok (.ireturn, 1) := by decide +kernel
theorem dX5_numberOfClosing_42 : decode cX5_numberOfClosing 42 = .ok (.aload_n 0, 1) := by decide +kernel
theorem dX5_numberOfClosing_43 : decode cX5_numberOfClosing 43 = .ok (.getfield 115, 3) := by decide +kernel
theorem dX5_numberOfClosing_46 : decode cX5_numberOfClosing 46 = .ok (.ireturn, 1) := by decide +kernel
theorem dX5_numberOfClosing_47 : decode cX5_numberOfClosing 47 = .ok (.aload_n 0, 1) := by decide +kernel
theorem dX5_numberOfClosing_48 : decode cX5_numberOfClosing 48 = .ok (.getfield 106, 3) := by decide +kernel
theorem dX5_numberOfClosing_51 : decode cX5_numberOfClosing 51 = .ok (.i2l, 1) := by decide +kernel
theorem dX5_numberOfClosing_52 : decode cX5_numberOfClosing 52 = .ok (.aload_n 0, 1) := by decide +kernel
theorem dX5_numberOfClosing_53 : decode cX5_numberOfClosing 53 = .ok (.getfield 115, 3) := by decide +kernel
theorem dX5_numberOfClosing_56 : decode cX5_numberOfClosing 56 = .ok (.i2l, 1) := by decide +kernel
theorem dX5_numberOfClosing_57 : decode cX5_numberOfClosing 57 = .ok (.invokestatic 142, 3) := by decide +kernel
theorem dX5_numberOfClosing_60 : decode cX5_numberOfClosing 60 = .ok (.ireturn, 1) := by decide +kernel
theorem dX5_sumOfLengths_0 : decode cX5_sumOfLengths 0 = .ok (.iconst 0, 1) := by decide +kernel
theorem dX5_sumOfLengths_1 : decode cX5_sumOfLengths 1 = .ok (.istore_n 1, 1) := by decide +kernel
theorem dX5_sumOfLengths_2 : decode cX5_sumOfLengths 2 = .ok (.iconst 0, 1) := by decide +kernel
theorem dX5_sumOfLengths_3 : decode cX5_sumOfLengths 3 = .ok (.istore_n 2, 1) := by decide +kernel
theorem dX5_sumOfLengths_4 : decode cX5_sumOfLengths 4 = .ok (.iload_n 2, 1) := by decide +kernel
theorem dX5_sumOfLengths_5 : decode cX5_sumOfLengths 5 = .ok (.aload_n 0, 1) := by decide +kernel
theorem dX5_sumOfLengths_6 : decode cX5_sumOfLengths 6 = .ok (.getfield 37, 3) := by decide +kernel
theorem dX5_sumOfLengths_9 : decode cX5_sumOfLengths 9 = .ok (.if_icmp .ge 24, 3) := by decide +kernel
theorem dX5_sumOfLengths_12 : decode cX5_sumOfLengths 12 = .ok (.iload_n 2, 1) := by decide +kernel
theorem dX5_sumOfLengths_13 : decode cX5_sumOfLengths 13 = .ok (.bipush 12, 2) := by decide +kernel
theorem dX5_sumOfLengths_15 : decode cX5_sumOfLengths 15 = .ok (.if_icmp .ge 18, 3) := by decide +kernel
theorem dX5_sumOfLengths_18 : decode cX5_sumOfLengths 18 = .ok (.iload_n 1, 1) := by decide +kernel
theorem dX5_sumOfLengths_19 : decode cX5_sumOfLengths 19 = .ok (.aload_n 0, 1) := by decide +kernel
theorem dX5_sumOfLengths_20 : decode cX5_sumOfLengths 20 = .ok (.getfield 15, 3) := by decide +kernel
theorem dX5_sumOfLengths_23 : decode cX5_sumOfLengths 23 = .ok (.iload_n 2, 1) := by decide +kernel
theorem dX5_sumOfLengths_24 : decode cX5_sumOfLengths 24 = .ok (.iaload, 1) := by decide +kernel
theorem dX5_sumOfLengths_25 : decode cX5_sumOfLengths 25 = .ok (.iadd, 1) := by decide +kernel
theorem dX5_sumOfLengths_26 : decode cX5_sumOfLengths 26 = .ok (.istore_n 1, 1) := by decide +kernel
theorem dX5_sumOfLengths_27 : decode cX5_sumOfLengths 27 = .ok (.iinc 2 1, 3) := by decide +kernel
theorem dX5_sumOfLengths_30 : decode cX5_sumOfLengths 30 = .ok (.goto (-26), 3) := by decide +kernel
theorem dX5_sumOfLengths_33 : decode cX5_sumOfLengths 33 = .ok (.iload_n 1, 1) := by decide +kernel
theorem dX5_sumOfLengths_34 : decode cX5_sumOfLengths 34 = .ok (.ireturn, 1) := by decide +kernel
theorem dX5_numberOfLeg_0 : decode cX5_numberOfLeg 0 = .ok (.aload_n 0, 1) := by decide +kernel
theorem dX5_numberOfLeg_1 : decode cX5_numberOfLeg 1 = .ok (.iload_n 1, 1) := by decide +kernel
theorem dX5_numberOfLeg_2 : decode cX5_numberOfLeg 2 = .ok (.invokevirtual 82, 3) := by decide +kernel
theorem dX5_numberOfLeg_5 : decode cX5_numberOfLeg 5 = .ok (.ifCond .ne 6, 3) := by decide +kernel
theorem dX5_numberOfLeg_8 : decode cX5_numberOfLeg 8 = .ok (.ldc 46, 2) := by decide +kernel
theorem dX5_numberOfLeg_10 : decode cX5_numberOfLeg 10 = .ok (.ireturn, 1) := by decide +kernel
theorem dX5_numberOfLeg_11 : decode cX5_numberOfLeg 11 = .ok (.iload_n 2, 1) := by decide +kernel
theorem dX5_numberOfLeg_12 : decode cX5_numberOfLeg 12 = .ok (.tableswitch 84 0 3 #[32, 39, 46, 65], 32) := by decide +kernel
theorem dX5_numberOfLeg_44 : decode cX5_numberOfLeg 44 = .ok (.aload_n 0, 1) := by decide +kernel
theorem dX5_numberOfLeg_45 : decode cX5_numberOfLeg 45 = .ok (.getfield 9, 3) := by decide +kernel
theorem dX5_numberOfLeg_48 : decode cX5_numberOfLeg 48 = .ok (.iload_n 1, 1) := by decide +kernel
theorem dX5_numberOfLeg_49 : decode cX5_numberOfLeg 49 = .ok (.iaload, 1) := by decide +kernel
theorem dX5_numberOfLeg_50 : decode cX5_numberOfLeg 50 = .ok (.ireturn, 1) := by decide +kernel
theorem dX5_numberOfLeg_51 : decode cX5_numberOfLeg 51 = .ok (.aload_n 0, 1) := by decide +kernel
theorem dX5_numberOfLeg_52 : decode cX5_numberOfLeg 52 = .ok (.getfield 15, 3) := by decide +kernel
theorem dX5_numberOfLeg_55 : decode cX5_numberOfLeg 55 = .ok (.iload_n 1, 1) := by decide +kernel
theorem dX5_numberOfLeg_56 : decode cX5_numberOfLeg 56 = .ok (.iaload, 1) := by decide +kernel
theorem dX5_numberOfLeg_57 : decode cX5_numberOfLeg 57 = .ok (.ireturn, 1) := by decide +kernel
theorem dX5_numberOfLeg_58 : decode cX5_numberOfLeg 58 = .ok (.aload_n 0, 1) := by decide +kernel
theorem dX5_numberOfLeg_59 : decode cX5_numberOfLeg 59 = .ok (.invokevirtual 58, 3) := by decide +kernel
theorem dX5_numberOfLeg_62 : decode cX5_numberOfLeg 62 = .ok (.ifCond .eq 12, 3) := by decide +kernel
theorem dX5_numberOfLeg_65 : decode cX5_numberOfLeg 65 = .ok (.aload_n 0, 1) := by decide +kernel
theorem dX5_numberOfLeg_66 : decode cX5_numberOfLeg 66 = .ok (.getfield 18, 3) := by decide +kernel
theorem dX5_numberOfLeg_69 : decode cX5_numberOfLeg 69 = .ok (.iload_n 1, 1) := by decide +kernel
theorem dX5_numberOfLeg_70 : decode cX5_numberOfLeg 70 = .ok (.iaload, 1) := by decide +kernel
theorem dX5_numberOfLeg_71 : decode cX5_numberOfLeg 71 = .ok (.goto 5, 3) := by decide +kernel
theorem dX5_numberOfLeg_74 : decode cX5_numberOfLeg 74 = .ok (.ldc 46, 2) := by decide +kernel
theorem dX5_numberOfLeg_76 : decode cX5_numberOfLeg 76 = .ok (.ireturn, 1) := by decide +kernel
theorem dX5_numberOfLeg_77 : decode cX5_numberOfLeg 77 = .ok (.aload_n 0, 1) := by decide +kernel
theorem dX5_numberOfLeg_78 : decode cX5_numberOfLeg 78 = .ok (.invokevirtual 58, 3) := by decide +kernel
theorem dX5_numberOfLeg_81 : decode cX5_numberOfLeg 81 = .ok (.ifCond .eq 12, 3) := by decide +kernel
theorem dX5_numberOfLeg_84 : decode cX5_numberOfLeg 84 = .ok (.aload_n 0, 1) := by decide +kernel
theorem dX5_numberOfLeg_85 : decode cX5_numberOfLeg 85 = .ok (.getfield 21, 3) := by decide +kernel
theorem dX5_numberOfLeg_88 : decode cX5_numberOfLeg 88 = .ok (.iload_n 1, 1) := by decide +kernel
theorem dX5_numberOfLeg_89 : decode cX5_numberOfLeg 89 = .ok (.iaload, 1) := by decide +kernel
theorem dX5_numberOfLeg_90 : decode cX5_numberOfLeg 90 = .ok (.goto 5, 3) := by decide +kernel
theorem dX5_numberOfLeg_93 : decode cX5_numberOfLeg 93 = .ok (.ldc 46, 2) := by decide +kernel
theorem dX5_numberOfLeg_95 : decode cX5_numberOfLeg 95 = .ok (.ireturn, 1) := by decide +kernel
theorem dX5_numberOfLeg_96 : decode cX5_numberOfLeg 96 = .ok (.aload_n 0, 1) := by decide +kernel
theorem dX5_numberOfLeg_97 : decode cX5_numberOfLeg 97 = .ok (.invokevirtual 58, 3) := by decide +kernel
theorem dX5_numberOfLeg_100 : decode cX5_numberOfLeg 100 = .ok (.ifCond .eq 12, 3) := by decide +kernel
theorem dX5_numberOfLeg_103 : decode cX5_numberOfLeg 103 = .ok (.aload_n 0, 1) := by decide +kernel
theorem dX5_numberOfLeg_104 : decode cX5_numberOfLeg 104 = .ok (.getfield 24, 3) := by decide +kernel
theorem dX5_numberOfLeg_107 : decode cX5_numberOfLeg 107 = .ok (.iload_n 1, 1) := by decide +kernel
theorem dX5_numberOfLeg_108 : decode cX5_numberOfLeg 108 = .ok (.iaload, 1) := by decide +kernel
theorem dX5_numberOfLeg_109 : decode cX5_numberOfLeg 109 = .ok (.goto 5, 3) := by decide +kernel
theorem dX5_numberOfLeg_112 : decode cX5_numberOfLeg 112 = .ok (.ldc 46, 2) := by decide +kernel
theorem dX5_numberOfLeg_114 : decode cX5_numberOfLeg 114 = .ok (.ireturn, 1) := by decide +kernel
theorem dX5_suspectedLeg_0 : decode cX5_suspectedLeg 0 = .ok (.aload_n 0, 1) := by decide +kernel
theorem dX5_suspectedLeg_1 : decode cX5_suspectedLeg 1 = .ok (.invokevirtual 136, 3) := by decide +kernel
theorem dX5_suspectedLeg_4 : decode cX5_suspectedLeg 4 = .ok (.ifCond .ne 6, 3) := by decide +kernel
theorem dX5_suspectedLeg_7 : decode cX5_suspectedLeg 7 = .ok (.ldc 46, 2) := by decide +kernel
theorem dX5_suspectedLeg_9 : decode cX5_suspectedLeg 9 = .ok (.ireturn, 1) := by decide +kernel
theorem dX5_suspectedLeg_10 : decode cX5_suspectedLeg 10 = .ok (.ldc 46, 2) := by decide +kernel
theorem dX5_suspectedLeg_12 : decode cX5_suspectedLeg 12 = .ok (.istore_n 1, 1) := by decide +kernel
theorem dX5_suspectedLeg_13 : decode cX5_suspectedLeg 13 = .ok (.lconst 0, 1) := by decide +kernel
theorem dX5_suspectedLeg_14 : decode cX5_suspectedLeg 14 = .ok (.lstore_n 2, 1) := by decide +kernel
theorem dX5_suspectedLeg_15 : decode cX5_suspectedLeg 15 = .ok (.iconst 0, 1) := by decide +kernel
theorem dX5_suspectedLeg_16 : decode cX5_suspectedLeg 16 = .ok (.istore 4, 2) := by decide +kernel
theorem dX5_suspectedLeg_18 : decode cX5_suspectedLeg 18 = .ok (.iload 4, 2) := by decide +kernel
theorem dX5_suspectedLeg_20 : decode cX5_suspectedLeg 20 = .ok (.aload_n 0, 1) := by decide +kernel
theorem dX5_suspectedLeg_21 : decode cX5_suspectedLeg 21 = .ok (.getfield 37, 3) := by decide +kernel
theorem dX5_suspectedLeg_24 : decode cX5_suspectedLeg 24 = .ok (.if_icmp .ge 82, 3) := by decide +kernel
theorem dX5_suspectedLeg_27 : decode cX5_suspectedLeg 27 = .ok (.iload 4, 2) := by decide +kernel
theorem dX5_suspectedLeg_29 : decode cX5_suspectedLeg 29 = .ok (.bipush 12, 2) := by decide +kernel
theorem dX5_suspectedLeg_31 : decode cX5_suspectedLeg 31 = .ok (.if_icmp .ge 75, 3) := by decide +kernel
theorem dX5_suspectedLeg_34 : decode cX5_suspectedLeg 34 = .ok (.aload_n 0, 1) := by decide +kernel
theorem dX5_suspectedLeg_35 : decode cX5_suspectedLeg 35 = .ok (.getfield 106, 3) := by decide +kernel
theorem dX5_suspectedLeg_38 : decode cX5_suspectedLeg 38 = .ok (.i2l, 1) := by decide +kernel
theorem dX5_suspectedLeg_39 : decode cX5_suspectedLeg 39 = .ok (.aload_n 0, 1) := by decide +kernel
theorem dX5_suspectedLeg_40 : decode cX5_suspectedLeg 40 = .ok (.getfield 18, 3) := by decide +kernel
theorem dX5_suspectedLeg_43 : decode cX5_suspectedLeg 43 = .ok (.iload 4, 2) := by decide +kernel
theorem dX5_suspectedLeg_45 : decode cX5_suspectedLeg 45 = .ok (.iaload, 1) := by decide +kernel
theorem dX5_suspectedLeg_46 : decode cX5_suspectedLeg 46 = .ok (.ldc 129, 2) := by decide +kernel
theorem dX5_suspectedLeg_48 : decode cX5_suspectedLeg 48 = .ok (.iadd, 1) := by decide +kernel
theorem dX5_suspectedLeg_49 : decode cX5_suspectedLeg 49 = .ok (.invokestatic 122, 3) := by decide +kernel
theorem dX5_suspectedLeg_52 : decode cX5_suspectedLeg 52 = .ok (.i2l, 1) := by decide +kernel
theorem dX5_suspectedLeg_53 : decode cX5_suspectedLeg 53 = .ok (.lmul, 1) := by decide +kernel
theorem dX5_suspectedLeg_54 : decode cX5_suspectedLeg 54 = .ok (.lstore 5, 2) := by decide +kernel
theorem dX5_suspectedLeg_56 : decode cX5_suspectedLeg 56 = .ok (.lload 5, 2) := by decide +kernel
theorem dX5_suspectedLeg_58 : decode cX5_suspectedLeg 58 = .ok (.aload_n 0, 1) := by decide +kernel
theorem dX5_suspectedLeg_59 : decode cX5_suspectedLeg 59 = .ok (.getfield 115, 3) := by decide +kernel
theorem dX5_suspectedLeg_62 : decode cX5_suspectedLeg 62 = .ok (.i2l, 1) := by decide +kernel
theorem dX5_suspectedLeg_63 : decode cX5_suspectedLeg 63 = .ok (.aload_n 0, 1) := by decide +kernel
theorem dX5_suspectedLeg_64 : decode cX5_suspectedLeg 64 = .ok (.getfield 18, 3) := by decide +kernel
theorem dX5_suspectedLeg_67 : decode cX5_suspectedLeg 67 = .ok (.iload 4, 2) := by decide +kernel
theorem dX5_suspectedLeg_69 : decode cX5_suspectedLeg 69 = .ok (.iaload, 1) := by decide +kernel
theorem dX5_suspectedLeg_70 : decode cX5_suspectedLeg 70 = .ok (.invokestatic 122, 3) := by decide +kernel
theorem dX5_suspectedLeg_73 : decode cX5_suspectedLeg 73 = .ok (.i2l, 1) := by decide +kernel
theorem dX5_suspectedLeg_74 : decode cX5_suspectedLeg 74 = .ok (.lmul, 1) := by decide +kernel
theorem dX5_suspectedLeg_75 : decode cX5_suspectedLeg 75 = .ok (.lsub, 1) := by decide +kernel
theorem dX5_suspectedLeg_76 : decode cX5_suspectedLeg 76 = .ok (.invokestatic 145, 3) := by decide +kernel
theorem dX5_suspectedLeg_79 : decode cX5_suspectedLeg 79 = .ok (.lstore 7, 2) := by decide +kernel
theorem dX5_suspectedLeg_81 : decode cX5_suspectedLeg 81 = .ok (.iload_n 1, 1) := by decide +kernel
theorem dX5_suspectedLeg_82 : decode cX5_suspectedLeg 82 = .ok (.ldc 46, 2) := by decide +kernel
theorem dX5_suspectedLeg_84 : decode cX5_suspectedLeg 84 = .ok (.if_icmp .eq 10, 3) := by decide +kernel
theorem dX5_suspectedLeg_87 : decode cX5_suspectedLeg 87 = .ok (.lload 7, 2) := by decide +kernel
theorem dX5_suspectedLeg_89 : decode cX5_suspectedLeg 89 = .ok (.lload_n 2, 1) := by decide +kernel
theorem dX5_suspectedLeg_90 : decode cX5_suspectedLeg 90 = .ok (.lcmp, 1) := by decide +kernel
theorem dX5_suspectedLeg_91 : decode cX5_suspectedLeg 91 = .ok (.ifCond .ge 9, 3) := by decide +kernel
theorem dX5_suspectedLeg_94 : decode cX5_suspectedLeg 94 = .ok (.lload 7, 2) := by decide +kernel
theorem dX5_suspectedLeg_96 : decode cX5_suspectedLeg 96 = .ok (.lstore_n 2, 1) := by decide +kernel
theorem dX5_suspectedLeg_97 : decode cX5_suspectedLeg 97 = .ok (.iload 4, 2) := by decide +kernel
theorem dX5_suspectedLeg_99 : decode cX5_suspectedLeg 99 = .ok (.istore_n 1, 1) := by decide +kernel
theorem dX5_suspectedLeg_100 : decode cX5_suspectedLeg 100 = .ok (.iinc 4 1, 3) := by decide +kernel
theorem dX5_suspectedLeg_103 : decode cX5_suspectedLeg 103 = .ok (.goto (-85), 3) := by decide +kernel
theorem dX5_suspectedLeg_106 : decode cX5_suspectedLeg 106 = .ok (.iload_n 1, 1) := by decide +kernel
theorem dX5_suspectedLeg_107 : decode cX5_suspectedLeg 107 = .ok (.ireturn, 1) := by decide +kernel
theorem dX5_distanceTo_0 : decode cX5_distanceTo 0 = .ok (.aload_n 0, 1) := by decide +kernel
theorem dX5_distanceTo_1 : decode cX5_distanceTo 1 = .ok (.invokevirtual 58, 3) := by decide +kernel
theorem dX5_distanceTo_4 : decode cX5_distanceTo 4 = .ok (.ifCond .eq 10, 3) := by decide +kernel
theorem dX5_distanceTo_7 : decode cX5_distanceTo 7 = .ok (.aload_n 1, 1) := by decide +kernel
theorem dX5_distanceTo_8 : decode cX5_distanceTo 8 = .ok (.invokevirtual 58, 3) := by decide +kernel
theorem dX5_distanceTo_11 : decode cX5_distanceTo 11 = .ok (.ifCond .ne 6, 3) := by decide +kernel
theorem dX5_distanceTo_14 : decode cX5_distanceTo 14 = .ok (.ldc 46, 2) := by decide +kernel
theorem dX5_distanceTo_16 : decode cX5_distanceTo 16 = .ok (.ireturn, 1) := by decide +kernel
theorem dX5_distanceTo_17 : decode cX5_distanceTo 17 = .ok (.aload_n 0, 1) := by decide +kernel
theorem dX5_distanceTo_18 : decode cX5_distanceTo 18 = .ok (.getfield 100, 3) := by decide +kernel
theorem dX5_distanceTo_21 : decode cX5_distanceTo 21 = .ok (.aload_n 1, 1) := by decide +kernel
theorem dX5_distanceTo_22 : decode cX5_distanceTo 22 = .ok (.getfield 100, 3) := by decide +kernel
theorem dX5_distanceTo_25 : decode cX5_distanceTo 25 = .ok (.isub, 1) := by decide +kernel
theorem dX5_distanceTo_26 : decode cX5_distanceTo 26 = .ok (.i2l, 1) := by decide +kernel
theorem dX5_distanceTo_27 : decode cX5_distanceTo 27 = .ok (.aload_n 0, 1) := by decide +kernel
theorem dX5_distanceTo_28 : decode cX5_distanceTo 28 = .ok (.getfield 109, 3) := by decide +kernel
theorem dX5_distanceTo_31 : decode cX5_distanceTo 31 = .ok (.aload_n 1, 1) := by decide +kernel
theorem dX5_distanceTo_32 : decode cX5_distanceTo 32 = .ok (.getfield 109, 3) := by decide +kernel
theorem dX5_distanceTo_35 : decode cX5_distanceTo 35 = .ok (.isub, 1) := by decide +kernel
theorem dX5_distanceTo_36 : decode cX5_distanceTo 36 = .ok (.i2l, 1) := by decide +kernel
theorem dX5_distanceTo_37 : decode cX5_distanceTo 37 = .ok (.invokestatic 142, 3) := by decide +kernel
theorem dX5_distanceTo_40 : decode cX5_distanceTo 40 = .ok (.ireturn, 1) := by decide +kernel
theorem dX5_smallAngleFor_0 : decode cX5_smallAngleFor 0 = .ok (.aload_n 0, 1) := by decide +kernel
theorem dX5_smallAngleFor_1 : decode cX5_smallAngleFor 1 = .ok (.invokevirtual 136, 3) := by decide +kernel
theorem dX5_smallAngleFor_4 : decode cX5_smallAngleFor 4 = .ok (.ifCond .ne 6, 3) := by decide +kernel
theorem dX5_smallAngleFor_7 : decode cX5_smallAngleFor 7 = .ok (.ldc 46, 2) := by decide +kernel
theorem dX5_smallAngleFor_9 : decode cX5_smallAngleFor 9 = .ok (.ireturn, 1) := by decide +kernel
theorem dX5_smallAngleFor_10 : decode cX5_smallAngleFor 10 = .ok (.iload_n 1, 1) := by decide +kernel
theorem dX5_smallAngleFor_11 : decode cX5_smallAngleFor 11 = .ok (.aload_n 0, 1) := by decide +kernel
theorem dX5_smallAngleFor_12 : decode cX5_smallAngleFor 12 = .ok (.getfield 27, 3) := by decide +kernel
theorem dX5_smallAngleFor_15 : decode cX5_smallAngleFor 15 = .ok (.if_icmp .ne 7, 3) := by decide +kernel
theorem dX5_smallAngleFor_18 : decode cX5_smallAngleFor 18 = .ok (.iconst 1, 1) := by decide +kernel
theorem dX5_smallAngleFor_19 : decode cX5_smallAngleFor 19 = .ok (.goto 16, 3) := by decide +kernel
theorem dX5_smallAngleFor_22 : decode cX5_smallAngleFor 22 = .ok (.iload_n 1, 1) := by decide +kernel
theorem dX5_smallAngleFor_23 : decode cX5_smallAngleFor 23 = .ok (.aload_n 0, 1) := by decide +kernel
theorem dX5_smallAngleFor_24 : decode cX5_smallAngleFor 24 = .ok (.getfield 31, 3) := by decide +kernel
theorem dX5_smallAngleFor_27 : decode cX5_smallAngleFor 27 = .ok (.if_icmp .ne 7, 3) := by decide +kernel
theorem dX5_smallAngleFor_30 : decode cX5_smallAngleFor 30 = .ok (.iconst (-1), 1) := by decide +kernel
theorem dX5_smallAngleFor_31 : decode cX5_smallAngleFor 31 = .ok (.goto 4, 3) := by decide +kernel
theorem dX5_smallAngleFor_34 : decode cX5_smallAngleFor 34 = .ok (.iconst 0, 1) := by decide +kernel
theorem dX5_smallAngleFor_35 : decode cX5_smallAngleFor 35 = .ok (.istore 4, 2) := by decide +kernel
theorem dX5_smallAngleFor_37 : decode cX5_smallAngleFor 37 = .ok (.sipush (-3600), 3) := by decide +kernel
theorem dX5_smallAngleFor_40 : decode cX5_smallAngleFor 40 = .ok (.istore 5, 2) := by decide +kernel
theorem dX5_smallAngleFor_42 : decode cX5_smallAngleFor 42 = .ok (.iload 5, 2) := by decide +kernel
theorem dX5_smallAngleFor_44 : decode cX5_smallAngleFor 44 = .ok (.sipush 3600, 3) := by decide +kernel
theorem dX5_smallAngleFor_47 : decode cX5_smallAngleFor 47 = .ok (.if_icmp .gt 45, 3) := by decide +kernel
theorem dX5_smallAngleFor_50 : decode cX5_smallAngleFor 50 = .ok (.iload 4, 2) := by decide +kernel
theorem dX5_smallAngleFor_52 : decode cX5_smallAngleFor 52 = .ok (.aload_n 2, 1) := by decide +kernel
theorem dX5_smallAngleFor_53 : decode cX5_smallAngleFor 53 = .ok (.iload 5, 2) := by decide +kernel
theorem dX5_smallAngleFor_55 : decode cX5_smallAngleFor 55 = .ok (.invokevirtual 148, 3) := by decide +kernel
theorem dX5_smallAngleFor_58 : decode cX5_smallAngleFor 58 = .ok (.aload_n 2, 1) := by decide +kernel
theorem dX5_smallAngleFor_59 : decode cX5_smallAngleFor 59 = .ok (.getfield 94, 3) := by decide +kernel
theorem dX5_smallAngleFor_62 : decode cX5_smallAngleFor 62 = .ok (.isub, 1) := by decide +kernel
theorem dX5_smallAngleFor_63 : decode cX5_smallAngleFor 63 = .ok (.imul, 1) := by decide +kernel
theorem dX5_smallAngleFor_64 : decode cX5_smallAngleFor 64 = .ok (.istore 6, 2) := by decide +kernel
theorem dX5_smallAngleFor_66 : decode cX5_smallAngleFor 66 = .ok (.aload_n 0, 1) := by decide +kernel
theorem dX5_smallAngleFor_67 : decode cX5_smallAngleFor 67 = .ok (.getfield 61, 3) := by decide +kernel
theorem dX5_smallAngleFor_70 : decode cX5_smallAngleFor 70 = .ok (.iload 6, 2) := by decide +kernel
theorem dX5_smallAngleFor_72 : decode cX5_smallAngleFor 72 = .ok (.iadd, 1) := by decide +kernel
theorem dX5_smallAngleFor_73 : decode cX5_smallAngleFor 73 = .ok (.invokestatic 97, 3) := by decide +kernel
theorem dX5_smallAngleFor_76 : decode cX5_smallAngleFor 76 = .ok (.invokestatic 74, 3) := by decide +kernel
theorem dX5_smallAngleFor_79 : decode cX5_smallAngleFor 79 = .ok (.iload_n 3, 1) := by decide +kernel
theorem dX5_smallAngleFor_80 : decode cX5_smallAngleFor 80 = .ok (.if_icmp .gt 6, 3) := by decide +kernel
theorem dX5_smallAngleFor_83 : decode cX5_smallAngleFor 83 = .ok (.iload 5, 2) := by decide +kernel
theorem dX5_smallAngleFor_85 : decode cX5_smallAngleFor 85 = .ok (.ireturn, 1) := by decide +kernel
theorem dX5_smallAngleFor_86 : decode cX5_smallAngleFor 86 = .ok (.iinc 5 1, 3) := by decide +kernel
theorem dX5_smallAngleFor_89 : decode cX5_smallAngleFor 89 = .ok (.goto (-47), 3) := by decide +kernel
theorem dX5_smallAngleFor_92 : decode cX5_smallAngleFor 92 = .ok (.ldc 46, 2) := by decide +kernel
theorem dX5_smallAngleFor_94 : decode cX5_smallAngleFor 94 = .ok (.ireturn, 1) := by decide +kernel
theorem dX5_lengthTowards_0 : decode cX5_lengthTowards 0 = .ok (.aload_n 0, 1) := by decide +kernel
theorem dX5_lengthTowards_1 : decode cX5_lengthTowards 1 = .ok (.invokevirtual 58, 3) := by decide +kernel
theorem dX5_lengthTowards_4 : decode cX5_lengthTowards 4 = .ok (.ifCond .eq 23, 3) := by decide +kernel
theorem dX5_lengthTowards_7 : decode cX5_lengthTowards 7 = .ok (.aload_n 1, 1) := by decide +kernel
theorem dX5_lengthTowards_8 : decode cX5_lengthTowards 8 = .ok (.invokevirtual 58, 3) := by decide +kernel
theorem dX5_lengthTowards_11 : decode cX5_lengthTowards 11 = .ok (.ifCond .eq 16, 3) := by decide +kernel
theorem dX5_lengthTowards_14 : decode cX5_lengthTowards 14 = .ok (.aload_n 0, 1) := by decide +kernel
theorem dX5_lengthTowards_15 : decode cX5_lengthTowards 15 = .ok (.aload_n 0, 1) := by decide +kernel
theorem dX5_lengthTowards_16 : decode cX5_lengthTowards 16 = .ok (.getfield 37, 3) := by decide +kernel
theorem dX5_lengthTowards_19 : decode cX5_lengthTowards 19 = .ok (.iconst 1, 1) := by decide +kernel
theorem dX5_lengthTowards_20 : decode cX5_lengthTowards 20 = .ok (.isub, 1) := by decide +kernel
theorem dX5_lengthTowards_21 : decode cX5_lengthTowards 21 = .ok (.invokevirtual 82, 3) := by decide +kernel
theorem dX5_lengthTowards_24 : decode cX5_lengthTowards 24 = .ok (.ifCond .ne 6, 3) := by decide +kernel
theorem dX5_lengthTowards_27 : decode cX5_lengthTowards 27 = .ok (.ldc 46, 2) := by decide +kernel
theorem dX5_lengthTowards_29 : decode cX5_lengthTowards 29 = .ok (.ireturn, 1) := by decide +kernel
theorem dX5_lengthTowards_30 : decode cX5_lengthTowards 30 = .ok (.aload_n 0, 1) := by decide +kernel
theorem dX5_lengthTowards_31 : decode cX5_lengthTowards 31 = .ok (.getfield 18, 3) := by decide +kernel
theorem dX5_lengthTowards_34 : decode cX5_lengthTowards 34 = .ok (.aload_n 0, 1) := by decide +kernel
theorem dX5_lengthTowards_35 : decode cX5_lengthTowards 35 = .ok (.getfield 37, 3) := by decide +kernel
theorem dX5_lengthTowards_38 : decode cX5_lengthTowards 38 = .ok (.iconst 1, 1) := by decide +kernel
theorem dX5_lengthTowards_39 : decode cX5_lengthTowards 39 = .ok (.isub, 1) := by decide +kernel
theorem dX5_lengthTowards_40 : decode cX5_lengthTowards 40 = .ok (.iaload, 1) := by decide +kernel
theorem dX5_lengthTowards_41 : decode cX5_lengthTowards 41 = .ok (.iload_n 2, 1) := by decide +kernel
theorem dX5_lengthTowards_42 : decode cX5_lengthTowards 42 = .ok (.iadd, 1) := by decide +kernel
theorem dX5_lengthTowards_43 : decode cX5_lengthTowards 43 = .ok (.ldc 93, 2) := by decide +kernel
theorem dX5_lengthTowards_45 : decode cX5_lengthTowards 45 = .ok (.iadd, 1) := by decide +kernel
theorem dX5_lengthTowards_46 : decode cX5_lengthTowards 46 = .ok (.istore 4, 2) := by decide +kernel
theorem dX5_lengthTowards_48 : decode cX5_lengthTowards 48 = .ok (.iload 4, 2) := by decide +kernel
theorem dX5_lengthTowards_50 : decode cX5_lengthTowards 50 = .ok (.invokestatic 122, 3) := by decide +kernel
theorem dX5_lengthTowards_53 : decode cX5_lengthTowards 53 = .ok (.istore 5, 2) := by decide +kernel
theorem dX5_lengthTowards_55 : decode cX5_lengthTowards 55 = .ok (.iload 4, 2) := by decide +kernel
theorem dX5_lengthTowards_57 : decode cX5_lengthTowards 57 = .ok (.ldc 129, 2) := by decide +kernel
theorem dX5_lengthTowards_59 : decode cX5_lengthTowards 59 = .ok (.iadd, 1) := by decide +kernel
theorem dX5_lengthTowards_60 : decode cX5_lengthTowards 60 = .ok (.invokestatic 122, 3) := by decide +kernel
theorem dX5_lengthTowards_63 : decode cX5_lengthTowards 63 = .ok (.istore 6, 2) := by decide +kernel
theorem dX5_lengthTowards_65 : decode cX5_lengthTowards 65 = .ok (.ldc 46, 2) := by decide +kernel
theorem dX5_lengthTowards_67 : decode cX5_lengthTowards 67 = .ok (.istore 7, 2) := by decide +kernel
theorem dX5_lengthTowards_69 : decode cX5_lengthTowards 69 = .ok (.lconst 0, 1) := by decide +kernel
theorem dX5_lengthTowards_70 : decode cX5_lengthTowards 70 = .ok (.lstore 8, 2) := by decide +kernel
theorem dX5_lengthTowards_72 : decode cX5_lengthTowards 72 = .ok (.iconst 1, 1) := by decide +kernel
theorem dX5_lengthTowards_73 : decode cX5_lengthTowards 73 = .ok (.istore 10, 2) := by decide +kernel
theorem dX5_lengthTowards_75 : decode cX5_lengthTowards 75 = .ok (.iload 10, 2) := by decide +kernel
theorem dX5_lengthTowards_77 : decode cX5_lengthTowards 77 = .ok (.iload_n 3, 1) := by decide +kernel
theorem dX5_lengthTowards_78 : decode cX5_lengthTowards 78 = .ok (.if_icmp .gt 98, 3) := by decide +kernel
theorem dX5_lengthTowards_81 : decode cX5_lengthTowards 81 = .ok (.sipush 1000, 3) := by decide +kernel
theorem dX5_lengthTowards_84 : decode cX5_lengthTowards 84 = .ok (.iload 10, 2) := by decide +kernel
theorem dX5_lengthTowards_86 : decode cX5_lengthTowards 86 = .ok (.imul, 1) := by decide +kernel
theorem dX5_lengthTowards_87 : decode cX5_lengthTowards 87 = .ok (.istore 11, 2) := by decide +kernel
theorem dX5_lengthTowards_89 : decode cX5_lengthTowards 89 = .ok (.aload_n 0, 1) := by decide +kernel
theorem dX5_lengthTowards_90 : decode cX5_lengthTowards 90 = .ok (.getfield 100, 3) := by decide +kernel
theorem dX5_lengthTowards_93 : decode cX5_lengthTowards 93 = .ok (.iload 11, 2) := by decide +kernel
theorem dX5_lengthTowards_95 : decode cX5_lengthTowards 95 = .ok (.i2l, 1) := by decide +kernel
theorem dX5_lengthTowards_96 : decode cX5_lengthTowards 96 = .ok (.iload 5, 2) := by decide +kernel
theorem dX5_lengthTowards_98 : decode cX5_lengthTowards 98 = .ok (.invokestatic 125, 3) := by decide +kernel
theorem dX5_lengthTowards_101 : decode cX5_lengthTowards 101 = .ok (.iadd, 1) := by decide +kernel
theorem dX5_lengthTowards_102 : decode cX5_lengthTowards 102 = .ok (.aload_n 1, 1) := by decide +kernel
theorem dX5_lengthTowards_103 : decode cX5_lengthTowards 103 = .ok (.getfield 100, 3) := by decide +kernel
theorem dX5_lengthTowards_106 : decode cX5_lengthTowards 106 = .ok (.isub, 1) := by decide +kernel
theorem dX5_lengthTowards_107 : decode cX5_lengthTowards 107 = .ok (.istore 12, 2) := by decide +kernel
theorem dX5_lengthTowards_109 : decode cX5_lengthTowards 109 = .ok (.aload_n 0, 1) := by decide +kernel
theorem dX5_lengthTowards_110 : decode cX5_lengthTowards 110 = .ok (.getfield 109, 3) := by decide +kernel
theorem dX5_lengthTowards_113 : decode cX5_lengthTowards 113 = .ok (.iload 11, 2) := by decide +kernel
theorem dX5_lengthTowards_115 : decode cX5_lengthTowards 115 = .ok (.i2l, 1) := by decide +kernel
theorem dX5_lengthTowards_116 : decode cX5_lengthTowards 116 = .ok (.iload 6, 2) := by decide +kernel
theorem dX5_lengthTowards_118 : decode cX5_lengthTowards 118 = .ok (.invokestatic 125, 3) := by decide +kernel
theorem dX5_lengthTowards_121 : decode cX5_lengthTowards 121 = .ok (.iadd, 1) := by decide +kernel
theorem dX5_lengthTowards_122 : decode cX5_lengthTowards 122 = .ok (.aload_n 1, 1) := by decide +kernel
theorem dX5_lengthTowards_123 : decode cX5_lengthTowards 123 = .ok (.getfield 109, 3) := by decide +kernel
theorem dX5_lengthTowards_126 : decode cX5_lengthTowards 126 = .ok (.isub, 1) := by decide +kernel
theorem dX5_lengthTowards_127 : decode cX5_lengthTowards 127 = .ok (.istore 13, 2) := by decide +kernel
theorem dX5_lengthTowards_129 : decode cX5_lengthTowards 129 = .ok (.iload 7, 2) := by decide +kernel
theorem dX5_lengthTowards_131 : decode cX5_lengthTowards 131 = .ok (.ldc 46, 2) := by decide +kernel
theorem dX5_lengthTowards_133 : decode cX5_lengthTowards 133 = .ok (.if_icmp .eq 21, 3) := by decide +kernel
theorem dX5_lengthTowards_136 : decode cX5_lengthTowards 136 = .ok (.iload 12, 2) := by decide +kernel
theorem dX5_lengthTowards_138 : decode cX5_lengthTowards 138 = .ok (.i2l, 1) := by decide +kernel
theorem dX5_lengthTowards_139 : decode cX5_lengthTowards 139 = .ok (.iload 13, 2) := by decide +kernel
theorem dX5_lengthTowards_141 : decode cX5_lengthTowards 141 = .ok (.i2l, 1) := by decide +kernel
theorem dX5_lengthTowards_142 : decode cX5_lengthTowards 142 = .ok (.invokestatic 151, 3) := by decide +kernel
theorem dX5_lengthTowards_145 : decode cX5_lengthTowards 145 = .ok (.lload 8, 2) := by decide +kernel
theorem dX5_lengthTowards_147 : decode cX5_lengthTowards 147 = .ok (.lload 8, 2) := by decide +kernel
theorem dX5_lengthTowards_149 : decode cX5_lengthTowards 149 = .ok (.lmul, 1) := by decide +kernel
theorem dX5_lengthTowards_150 : decode cX5_lengthTowards 150 = .ok (.lcmp, 1) := by decide +kernel
theorem dX5_lengthTowards_151 : decode cX5_lengthTowards 151 = .ok (.ifCond .ge 19, 3) := by decide +kernel
theorem dX5_lengthTowards_154 : decode cX5_lengthTowards 154 = .ok (.iload 12, 2) := by decide +kernel
theorem dX5_lengthTowards_156 : decode cX5_lengthTowards 156 = .ok (.i2l, 1) := by decide +kernel
theorem dX5_lengthTowards_157 : decode cX5_lengthTowards 157 = .ok (.iload 13, 2) := by decide +kernel
theorem dX5_lengthTowards_159 : decode cX5_lengthTowards 159 = .ok (.i2l, 1) := by decide +kernel
theorem dX5_lengthTowards_160 : decode cX5_lengthTowards 160 = .ok (.invokestatic 142, 3) := by decide +kernel
theorem dX5_lengthTowards_163 : decode cX5_lengthTowards 163 = .ok (.i2l, 1) := by decide +kernel
theorem dX5_lengthTowards_164 : decode cX5_lengthTowards 164 = .ok (.lstore 8, 2) := by decide +kernel
theorem dX5_lengthTowards_166 : decode cX5_lengthTowards 166 = .ok (.iload 11, 2) := by decide +kernel
theorem dX5_lengthTowards_168 : decode cX5_lengthTowards 168 = .ok (.istore 7, 2) := by decide +kernel
theorem dX5_lengthTowards_170 : decode cX5_lengthTowards 170 = .ok (.iinc 10 1, 3) := by decide +kernel
theorem dX5_lengthTowards_173 : decode cX5_lengthTowards 173 = .ok (.goto (-98), 3) := by decide +kernel
theorem dX5_lengthTowards_176 : decode cX5_lengthTowards 176 = .ok (.iload 7, 2) := by decide +kernel
theorem dX5_lengthTowards_178 : decode cX5_lengthTowards 178 = .ok (.ireturn, 1) := by decide +kernel
theorem dX6_init_0 : decode cX6_init 0 = .ok (.aload_n 0, 1) := by decide +kernel
theorem dX6_init_1 : decode cX6_init 1 = .ok (.invokespecial 3, 3) := by decide +kernel
theorem dX6_init_4 : decode cX6_init 4 = .ok (.aload_n 0, 1) := by decide +kernel
theorem dX6_init_5 : decode cX6_init 5 = .ok (.bipush 9, 2) := by decide +kernel
theorem dX6_init_7 : decode cX6_init 7 = .ok (.newarray .int, 2) := by decide +kernel
theorem dX6_init_9 : decode cX6_init 9 = .ok (.putfield 9, 3) := by decide +kernel
theorem dX6_init_12 : decode cX6_init 12 = .ok (.return_, 1) := by decide +kernel
theorem dX6_copyFrom_0 : decode cX6_copyFrom 0 = .ok (.aload_n 0, 1) := by decide +kernel
theorem dX6_copyFrom_1 : decode cX6_copyFrom 1 = .ok (.aload_n 1, 1) := by decide +kernel
theorem dX6_copyFrom_2 : decode cX6_copyFrom 2 = .ok (.getfield 15, 3) := by decide +kernel
theorem dX6_copyFrom_5 : decode cX6_copyFrom 5 = .ok (.putfield 15, 3) := by decide +kernel
theorem dX6_copyFrom_8 : decode cX6_copyFrom 8 = .ok (.aload_n 0, 1) := by decide +kernel
theorem dX6_copyFrom_9 : decode cX6_copyFrom 9 = .ok (.aload_n 1, 1) := by decide +kernel
theorem dX6_copyFrom_10 : decode cX6_copyFrom 10 = .ok (.getfield 19, 3) := by decide +kernel
theorem dX6_copyFrom_13 : decode cX6_copyFrom 13 = .ok (.putfield 19, 3) := by decide +kernel
theorem dX6_copyFrom_16 : decode cX6_copyFrom 16 = .ok (.aload_n 0, 1) := by decide +kernel
theorem dX6_copyFrom_17 : decode cX6_copyFrom 17 = .ok (.aload_n 1, 1) := by decide +kernel
theorem dX6_copyFrom_18 : decode cX6_copyFrom 18 = .ok (.getfield 22, 3) := by decide +kernel
theorem dX6_copyFrom_21 : decode cX6_copyFrom 21 = .ok (.putfield 22, 3) := by decide +kernel
theorem dX6_copyFrom_24 : decode cX6_copyFrom 24 = .ok (.aload_n 1, 1) := by decide +kernel
theorem dX6_copyFrom_25 : decode cX6_copyFrom 25 = .ok (.getfield 9, 3) := by decide +kernel
theorem dX6_copyFrom_28 : decode cX6_copyFrom 28 = .ok (.iconst 0, 1) := by decide +kernel
theorem dX6_copyFrom_29 : decode cX6_copyFrom 29 = .ok (.aload_n 0, 1) := by decide +kernel
theorem dX6_copyFrom_30 : decode cX6_copyFrom 30 = .ok (.getfield 9, 3) := by decide +kernel
theorem dX6_copyFrom_33 : decode cX6_copyFrom 33 = .ok (.iconst 0, 1) := by decide +kernel
theorem dX6_copyFrom_34 : decode cX6_copyFrom 34 = .ok (.bipush 9, 2) := by decide +kernel
theorem dX6_copyFrom_36 : decode cX6_copyFrom 36 = .ok (.invokestatic 25, 3) := by decide +kernel
theorem dX6_copyFrom_39 : decode cX6_copyFrom 39 = .ok (.return_, 1) := by decide +kernel
theorem dX6_hangAt_0 : decode cX6_hangAt 0 = .ok (.aload_n 0, 1) := by decide +kernel
theorem dX6_hangAt_1 : decode cX6_hangAt 1 = .ok (.iload_n 1, 1) := by decide +kernel
theorem dX6_hangAt_2 : decode cX6_hangAt 2 = .ok (.putfield 15, 3) := by decide +kernel
theorem dX6_hangAt_5 : decode cX6_hangAt 5 = .ok (.aload_n 0, 1) := by decide +kernel
theorem dX6_hangAt_6 : decode cX6_hangAt 6 = .ok (.iload_n 2, 1) := by decide +kernel
theorem dX6_hangAt_7 : decode cX6_hangAt 7 = .ok (.putfield 19, 3) := by decide +kernel
theorem dX6_hangAt_10 : decode cX6_hangAt 10 = .ok (.aload_n 0, 1) := by decide +kernel
theorem dX6_hangAt_11 : decode cX6_hangAt 11 = .ok (.iconst 0, 1) := by decide +kernel
theorem dX6_hangAt_12 : decode cX6_hangAt 12 = .ok (.putfield 22, 3) := by decide +kernel
theorem dX6_hangAt_15 : decode cX6_hangAt 15 = .ok (.return_, 1) := by decide +kernel
theorem dX6_addTurn_0 : decode cX6_addTurn 0 = .ok (.aload_n 0, 1) := by decide +kernel
theorem dX6_addTurn_1 : decode cX6_addTurn 1 = .ok (.getfield 22, 3) := by decide +kernel
theorem dX6_addTurn_4 : decode cX6_addTurn 4 = .ok (.ifCond .lt 35, 3) := by decide +kernel
theorem dX6_addTurn_7 : decode cX6_addTurn 7 = .ok (.aload_n 0, 1) := by decide +kernel
theorem dX6_addTurn_8 : decode cX6_addTurn 8 = .ok (.getfield 22, 3) := by decide +kernel
theorem dX6_addTurn_11 : decode cX6_addTurn 11 = .ok (.aload_n 0, 1) := by decide +kernel
theorem dX6_addTurn_12 : decode cX6_addTurn 12 = .ok (.getfield 9, 3) := by decide +kernel
theorem dX6_addTurn_15 : decode cX6_addTurn 15 = .ok (.arraylength, 1) := by decide +kernel
theorem dX6_addTurn_16 : decode cX6_addTurn 16 = .ok (.if_icmp .ge 23, 3) := by decide +kernel
theorem dX6_addTurn_19 : decode cX6_addTurn 19 = .ok (.aload_n 0, 1) := by decide +kernel
theorem dX6_addTurn_20 : decode cX6_addTurn 20 = .ok (.getfield 9, 3) := by decide +kernel
theorem dX6_addTurn_23 : decode cX6_addTurn 23 = .ok (.aload_n 0, 1) := by decide +kernel
theorem dX6_addTurn_24 : decode cX6_addTurn 24 = .ok (.getfield 22, 3) := by decide +kernel
theorem dX6_addTurn_27 : decode cX6_addTurn 27 = .ok (.iload_n 1, 1) := by decide +kernel
theorem dX6_addTurn_28 : decode cX6_addTurn 28 = .ok (.iastore, 1) := by decide +kernel
theorem dX6_addTurn_29 : decode cX6_addTurn 29 = .ok (.aload_n 0, 1) := by decide +kernel
theorem dX6_addTurn_30 : decode cX6_addTurn 30 = .ok (.dup, 1) := by decide +kernel
theorem dX6_addTurn_31 : decode cX6_addTurn 31 = .ok (.getfield 22, 3) := by decide +kernel
theorem dX6_addTurn_34 : decode cX6_addTurn 34 = .ok (.iconst 1, 1) := by decide +kernel
theorem dX6_addTurn_35 : decode cX6_addTurn 35 = .ok (.iadd, 1) := by decide +kernel
theorem dX6_addTurn_36 : decode cX6_addTurn 36 = .ok (.putfield 22, 3) := by decide +kernel
theorem dX6_addTurn_39 : decode cX6_addTurn 39 = .ok (.aload_n 0, 1) := by decide +kernel
theorem dX6_addTurn_40 : decode cX6_addTurn 40 = .ok (.getfield 22, 3) := by decide +kernel
theorem dX6_addTurn_43 : decode cX6_addTurn 43 = .ok (.ireturn, 1) := by decide +kernel
theorem dX6_dropTurns_0 : decode cX6_dropTurns 0 = .ok (.aload_n 0, 1) := by decide +kernel
theorem dX6_dropTurns_1 : decode cX6_dropTurns 1 = .ok (.getfield 22, 3) := by decide +kernel
theorem dX6_dropTurns_4 : decode cX6_dropTurns 4 = .ok (.istore_n 1, 1) := by decide +kernel
theorem dX6_dropTurns_5 : decode cX6_dropTurns 5 = .ok (.aload_n 0, 1) := by decide +kernel
theorem dX6_dropTurns_6 : decode cX6_dropTurns 6 = .ok (.iconst 0, 1) := by decide +kernel
theorem dX6_dropTurns_7 : decode cX6_dropTurns 7 = .ok (.putfield 22, 3) := by decide +kernel
theorem dX6_dropTurns_10 : decode cX6_dropTurns 10 = .ok (.iload_n 1, 1) := by decide +kernel
theorem dX6_dropTurns_11 : decode cX6_dropTurns 11 = .ok (.ireturn, 1) := by decide +kernel
theorem dX6_judge_0 : decode cX6_judge 0 = .ok (.aload_n 0, 1) := by decide +kernel
theorem dX6_judge_1 : decode cX6_judge 1 = .ok (.aload_n 0, 1) := by decide +kernel
theorem dX6_judge_2 : decode cX6_judge 2 = .ok (.invokevirtual 31, 3) := by decide +kernel
theorem dX6_judge_5 : decode cX6_judge 5 = .ok (.putfield 35, 3) := by decide +kernel
theorem dX6_judge_8 : decode cX6_judge 8 = .ok (.aload_n 0, 1) := by decide +kernel
theorem dX6_judge_9 : decode cX6_judge 9 = .ok (.aload_n 0, 1) := by decide +kernel
theorem dX6_judge_10 : decode cX6_judge 10 = .ok (.invokevirtual 38, 3) := by decide +kernel
theorem dX6_judge_13 : decode cX6_judge 13 = .ok (.putfield 41, 3) := by decide +kernel
theorem dX6_judge_16 : decode cX6_judge 16 = .ok (.aload_n 0, 1) := by decide +kernel
theorem dX6_judge_17 : decode cX6_judge 17 = .ok (.aload_n 0, 1) := by decide +kernel
theorem dX6_judge_18 : decode cX6_judge 18 = .ok (.getfield 22, 3) := by decide +kernel
theorem dX6_judge_21 : decode cX6_judge 21 = .ok (.iconst 3, 1) := by decide +kernel
theorem dX6_judge_22 : decode cX6_judge 22 = .ok (.if_icmp .ge 7, 3) := by decide +kernel
theorem dX6_judge_25 : decode cX6_judge 25 = .ok (.iconst 1, 1) := by decide +kernel
theorem dX6_judge_26 : decode cX6_judge 26 = .ok (.goto 16, 3) := by decide +kernel
theorem dX6_judge_29 : decode cX6_judge 29 = .ok (.aload_n 0, 1) := by decide +kernel
theorem dX6_judge_30 : decode cX6_judge 30 = .ok (.getfield 41, 3) := by decide +kernel
theorem dX6_judge_33 : decode cX6_judge 33 = .ok (.iload_n 1, 1) := by decide +kernel
theorem dX6_judge_34 : decode cX6_judge 34 = .ok (.if_icmp .le 7, 3) := by decide +kernel
theorem dX6_judge_37 : decode cX6_judge 37 = .ok (.iconst 2, 1) := by decide +kernel
theorem dX6_judge_38 : decode cX6_judge 38 = .ok (.goto 4, 3) := by decide +kernel
theorem dX6_judge_41 : decode cX6_judge 41 = .ok (.iconst 0, 1) := by decide +kernel
theorem dX6_judge_42 : decode cX6_judge 42 = .ok (.putfield 44, 3) := by decide +kernel
theorem dX6_judge_45 : decode cX6_judge 45 = .ok (.return_, 1) := by decide +kernel
theorem dX6_number_0 : decode cX6_number 0 = .ok (.iload_n 1, 1) := by decide +kernel
theorem dX6_number_1 : decode cX6_number 1 = .ok (.tableswitch 60 0 4 #[35, 40, 45, 50, 55], 35) := by decide +kernel
theorem dX6_number_36 : decode cX6_number 36 = .ok (.aload_n 0, 1) := by decide +kernel
theorem dX6_number_37 : decode cX6_number 37 = .ok (.getfield 15, 3) := by decide +kernel
theorem dX6_number_40 : decode cX6_number 40 = .ok (.ireturn, 1) := by decide +kernel
theorem dX6_number_41 : decode cX6_number 41 = .ok (.aload_n 0, 1) := by decide +kernel
theorem dX6_number_42 : decode cX6_number 42 = .ok (.getfield 19, 3) := by decide +kernel
theorem dX6_number_45 : decode cX6_number 45 = .ok (.ireturn, 1) := by decide +kernel
theorem dX6_number_46 : decode cX6_number 46 = .ok (.aload_n 0, 1) := by decide +kernel
theorem dX6_number_47 : decode cX6_number 47 = .ok (.getfield 22, 3) := by decide +kernel
theorem dX6_number_50 : decode cX6_number 50 = .ok (.ireturn, 1) := by decide +kernel
theorem dX6_number_51 : decode cX6_number 51 = .ok (.aload_n 0, 1) := by decide +kernel
theorem dX6_number_52 : decode cX6_number 52 = .ok (.getfield 35, 3) := by decide +kernel
theorem dX6_number_55 : decode cX6_number 55 = .ok (.ireturn, 1) := by decide +kernel
theorem dX6_number_56 : decode cX6_number 56 = .ok (.aload_n 0, 1) := by decide +kernel
theorem dX6_number_57 : decode cX6_number 57 = .ok (.getfield 44, 3) := by decide +kernel
theorem dX6_number_60 : decode cX6_number 60 = .ok (.ireturn, 1) := by decide +kernel
theorem dX6_number_61 : decode cX6_number 61 = .ok (.aload_n 0, 1) := by decide +kernel
theorem dX6_number_62 : decode cX6_number 62 = .ok (.getfield 41, 3) := by decide +kernel
theorem dX6_number_65 : decode cX6_number 65 = .ok (.ireturn, 1) := by decide +kernel
theorem dX6_meanOfTurns_0 : decode cX6_meanOfTurns 0 = .ok (.aload_n 0, 1) := by decide +kernel
theorem dX6_meanOfTurns_1 : decode cX6_meanOfTurns 1 = .ok (.getfield 22, 3) := by decide +kernel
theorem dX6_meanOfTurns_4 : decode cX6_meanOfTurns 4 = .ok (.iconst 3, 1) := by decide +kernel
theorem dX6_meanOfTurns_5 : decode cX6_meanOfTurns 5 = .ok (.if_icmp .lt 15, 3) := by decide +kernel
theorem dX6_meanOfTurns_8 : decode cX6_meanOfTurns 8 = .ok (.aload_n 0, 1) := by decide +kernel
theorem dX6_meanOfTurns_9 : decode cX6_meanOfTurns 9 = .ok (.getfield 22, 3) := by decide +kernel
theorem dX6_meanOfTurns_12 : decode cX6_meanOfTurns 12 = .ok (.aload_n 0, 1) := by decide +kernel
theorem dX6_meanOfTurns_13 : decode cX6_meanOfTurns 13 = .ok (.getfield 9, 3) := by decide +kernel
theorem dX6_meanOfTurns_16 : decode cX6_meanOfTurns 16 = .ok (.arraylength, 1) := by decide +kernel
theorem dX6_meanOfTurns_17 : decode cX6_meanOfTurns 17 = .ok (.if_icmp .le 6, 3) := by decide +kernel
theorem dX6_meanOfTurns_20 : decode cX6_meanOfTurns 20 = .ok (.ldc 47, 2) := by decide +kernel
theorem dX6_meanOfTurns_22 : decode cX6_meanOfTurns 22 = .ok (.ireturn, 1) := by decide +kernel
theorem dX6_meanOfTurns_23 : decode cX6_meanOfTurns 23 = .ok (.aload_n 0, 1) := by decide +kernel
theorem dX6_meanOfTurns_24 : decode cX6_meanOfTurns 24 = .ok (.getfield 9, 3) := by decide +kernel
theorem dX6_meanOfTurns_27 : decode cX6_meanOfTurns 27 = .ok (.iconst 0, 1) := by decide +kernel
theorem dX6_meanOfTurns_28 : decode cX6_meanOfTurns 28 = .ok (.iaload, 1) := by decide +kernel
theorem dX6_meanOfTurns_29 : decode cX6_meanOfTurns 29 = .ok (.aload_n 0, 1) := by decide +kernel
theorem dX6_meanOfTurns_30 : decode cX6_meanOfTurns 30 = .ok (.getfield 9, 3) := by decide +kernel
theorem dX6_meanOfTurns_33 : decode cX6_meanOfTurns 33 = .ok (.aload_n 0, 1) := by decide +kernel
theorem dX6_meanOfTurns_34 : decode cX6_meanOfTurns 34 = .ok (.getfield 22, 3) := by decide +kernel
theorem dX6_meanOfTurns_37 : decode cX6_meanOfTurns 37 = .ok (.iconst 1, 1) := by decide +kernel
theorem dX6_meanOfTurns_38 : decode cX6_meanOfTurns 38 = .ok (.isub, 1) := by decide +kernel
theorem dX6_meanOfTurns_39 : decode cX6_meanOfTurns 39 = .ok (.iaload, 1) := by decide +kernel
theorem dX6_meanOfTurns_40 : decode cX6_meanOfTurns 40 = .ok (.iadd, 1) := by decide +kernel
theorem dX6_meanOfTurns_41 : decode cX6_meanOfTurns 41 = .ok (.istore_n 1, 1) := by decide +kernel
theorem dX6_meanOfTurns_42 : decode cX6_meanOfTurns 42 = .ok (.iconst 1, 1) := by decide +kernel
theorem dX6_meanOfTurns_43 : decode cX6_meanOfTurns 43 = .ok (.istore_n 2, 1) := by decide +kernel
theorem dX6_meanOfTurns_44 : decode cX6_meanOfTurns 44 = .ok (.iload_n 2, 1) := by decide +kernel
theorem dX6_meanOfTurns_45 : decode cX6_meanOfTurns 45 = .ok (.aload_n 0, 1) := by decide +kernel
theorem dX6_meanOfTurns_46 : decode cX6_meanOfTurns 46 = .ok (.getfield 22, 3) := by decide +kernel
theorem dX6_meanOfTurns_49 : decode cX6_meanOfTurns 49 = .ok (.iconst 1, 1) := by decide +kernel
theorem dX6_meanOfTurns_50 : decode cX6_meanOfTurns 50 = .ok (.isub, 1) := by decide +kernel
theorem dX6_meanOfTurns_51 : decode cX6_meanOfTurns 51 = .ok (.if_icmp .ge 20, 3) := by decide +kernel
theorem dX6_meanOfTurns_54 : decode cX6_meanOfTurns 54 = .ok (.iload_n 1, 1) := by decide +kernel
theorem dX6_meanOfTurns_55 : decode cX6_meanOfTurns 55 = .ok (.iconst 2, 1) := by decide +kernel
theorem dX6_meanOfTurns_56 : decode cX6_meanOfTurns 56 = .ok (.aload_n 0, 1) := by decide +kernel
theorem dX6_meanOfTurns_57 : decode cX6_meanOfTurns 57 = .ok (.getfield 9, 3) := by decide +kernel
theorem dX6_meanOfTurns_60 : decode cX6_meanOfTurns 60 = .ok (.iload_n 2, 1) := by decide +kernel
theorem dX6_meanOfTurns_61 : decode cX6_meanOfTurns 61 = .ok (.iaload, 1) := by decide +kernel
theorem dX6_meanOfTurns_62 : decode cX6_meanOfTurns 62 = .ok (.imul, 1) := by decide +kernel
theorem dX6_meanOfTurns_63 : decode cX6_meanOfTurns 63 = .ok (.iadd, 1) := by decide +kernel
theorem dX6_meanOfTurns_64 : decode cX6_meanOfTurns 64 = .ok (.istore_n 1, 1) := by decide +kernel
theorem dX6_meanOfTurns_65 : decode cX6_meanOfTurns 65 = .ok (.iinc 2 1, 3) := by decide +kernel
theorem dX6_meanOfTurns_68 : decode cX6_meanOfTurns 68 = .ok (.goto (-24), 3) := by decide +kernel
theorem dX6_meanOfTurns_71 : decode cX6_meanOfTurns 71 = .ok (.iload_n 1, 1) := by decide +kernel
theorem dX6_meanOfTurns_72 : decode cX6_meanOfTurns 72 = .ok (.i2l, 1) := by decide +kernel
theorem dX6_meanOfTurns_73 : decode cX6_meanOfTurns 73 = .ok (.iconst 2, 1) := by decide +kernel
theorem dX6_meanOfTurns_74 : decode cX6_meanOfTurns 74 = .ok (.aload_n 0, 1) := by decide +kernel
theorem dX6_meanOfTurns_75 : decode cX6_meanOfTurns 75 = .ok (.getfield 22, 3) := by decide +kernel
theorem dX6_meanOfTurns_78 : decode cX6_meanOfTurns 78 = .ok (.iconst 1, 1) := by decide +kernel
theorem dX6_meanOfTurns_79 : decode cX6_meanOfTurns 79 = .ok (.isub, 1) := by decide +kernel
theorem dX6_meanOfTurns_80 : decode cX6_meanOfTurns 80 = .ok (.imul, 1) := by decide +kernel
theorem dX6_meanOfTurns_81 : decode cX6_meanOfTurns 81 = .ok (.i2l, 1) := by decide +kernel
theorem dX6_meanOfTurns_82 : decode cX6_meanOfTurns 82 = .ok (.invokestatic 48, 3) := by decide +kernel
theorem dX6_meanOfTurns_85 : decode cX6_meanOfTurns 85 = .ok (.ireturn, 1) := by decide +kernel
theorem dX6_greatestDifference_0 : decode cX6_greatestDifference 0 = .ok (.iconst 0, 1) := by decide +kernel
theorem dX6_greatestDifference_1 : decode cX6_greatestDifference 1 = .ok (.istore_n 1, 1) := by decide +kernel
theorem dX6_greatestDifference_2 : decode cX6_greatestDifference 2 = .ok (.iconst 2, 1) := by decide +kernel
theorem dX6_greatestDifference_3 : decode cX6_greatestDifference 3 = .ok (.istore_n 2, 1) := by decide +kernel
theorem dX6_greatestDifference_4 : decode cX6_greatestDifference 4 = .ok (.iload_n 2, 1) := by decide +kernel
theorem dX6_greatestDifference_5 : decode cX6_greatestDifference 5 = .ok (.aload_n 0, 1) := by decide +kernel
theorem dX6_greatestDifference_6 : decode cX6_greatestDifference 6 = .ok (.getfield 22, 3) := by decide +kernel
theorem dX6_greatestDifference_9 : decode cX6_greatestDifference 9 = .ok (.if_icmp .ge 41, 3) := by decide +kernel
theorem dX6_greatestDifference_12 : decode cX6_greatestDifference 12 = .ok (.iload_n 2, 1) := by decide +kernel
theorem dX6_greatestDifference_13 : decode cX6_greatestDifference 13 = .ok (.aload_n 0, 1) := by decide +kernel
theorem dX6_greatestDifference_14 : decode cX6_greatestDifference 14 = .ok (.getfield 9, 3) := by decide +kernel
theorem dX6_greatestDifference_17 : decode cX6_greatestDifference 17 = .ok (.arraylength, 1) := by decide +kernel
theorem dX6_greatestDifference_18 : decode cX6_greatestDifference 18 = .ok (.if_icmp .ge 32, 3) := by decide +kernel
theorem dX6_greatestDifference_21 : decode cX6_greatestDifference 21 = .ok (.iload_n 1, 1) := by decide +kernel
theorem dX6_greatestDifference_22 : decode cX6_greatestDifference 22 = .ok (.aload_n 0, 1) := by decide +kernel
theorem dX6_greatestDifference_23 : decode cX6_greatestDifference 23 = .ok (.getfield 9, 3) := by decide +kernel
theorem dX6_greatestDifference_26 : decode cX6_greatestDifference 26 = .ok (.iload_n 2, 1) := by decide +kernel
theorem dX6_greatestDifference_27 : decode cX6_greatestDifference 27 = .ok (.iaload, 1) := by decide +kernel
theorem dX6_greatestDifference_28 : decode cX6_greatestDifference 28 = .ok (.aload_n 0, 1) := by decide +kernel
theorem dX6_greatestDifference_29 : decode cX6_greatestDifference 29 = .ok (.getfield 9, 3) := by decide +kernel
theorem dX6_greatestDifference_32 : decode cX6_greatestDifference 32 = .ok (.iload_n 2, 1) := by decide +kernel
theorem dX6_greatestDifference_33 : decode cX6_greatestDifference 33 = .ok (.iconst 2, 1) := by decide +kernel
theorem dX6_greatestDifference_34 : decode cX6_greatestDifference 34 = .ok (.isub, 1) := by decide +kernel
theorem dX6_greatestDifference_35 : decode cX6_greatestDifference 35 = .ok (.iaload, 1) := by decide +kernel
theorem dX6_greatestDifference_36 : decode cX6_greatestDifference 36 = .ok (.isub, 1) := by decide +kernel
theorem dX6_greatestDifference_37 : decode cX6_greatestDifference 37 = .ok (.invokestatic 54, 3) := by decide +kernel
theorem dX6_greatestDifference_40 : decode cX6_greatestDifference 40 = .ok (.invokestatic 60, 3) := by decide +kernel
theorem dX6_greatestDifference_43 : decode cX6_greatestDifference 43 = .ok (.istore_n 1, 1) := by decide +kernel
theorem dX6_greatestDifference_44 : decode cX6_greatestDifference 44 = .ok (.iinc 2 1, 3) := by decide +kernel
theorem dX6_greatestDifference_47 : decode cX6_greatestDifference 47 = .ok (.goto (-43), 3) := by decide +kernel
theorem dX6_greatestDifference_50 : decode cX6_greatestDifference 50 = .ok (.iload_n 1, 1) := by decide +kernel
theorem dX6_greatestDifference_51 : decode cX6_greatestDifference 51 = .ok (.ireturn, 1) := by decide +kernel
theorem dX7_init_0 : decode cX7_init 0 = .ok (.aload_n 0, 1) := by decide +kernel
theorem dX7_init_1 : decode cX7_init 1 = .ok (.invokespecial 1, 3) := by decide +kernel
theorem dX7_init_4 : decode cX7_init 4 = .ok (.aload_n 0, 1) := by decide +kernel
theorem dX7_init_5 : decode cX7_init 5 = .ok (.new 7, 3) := by decide +kernel
theorem dX7_init_8 : decode cX7_init 8 = .ok (.dup, 1) := by decide +kernel
theorem dX7_init_9 : decode cX7_init 9 = .ok (.invokespecial 9, 3) := by decide +kernel
theorem dX7_init_12 : decode cX7_init 12 = .ok (.putfield 10, 3) := by decide +kernel
theorem dX7_init_15 : decode cX7_init 15 = .ok (.aload_n 0, 1) := by decide +kernel
theorem dX7_init_16 : decode cX7_init 16 = .ok (.new 16, 3) := by decide +kernel
theorem dX7_init_19 : decode cX7_init 19 = .ok (.dup, 1) := by decide +kernel
theorem dX7_init_20 : decode cX7_init 20 = .ok (.invokespecial 18, 3) := by decide +kernel
theorem dX7_init_23 : decode cX7_init 23 = .ok (.putfield 19, 3) := by decide +kernel
theorem dX7_init_26 : decode cX7_init 26 = .ok (.aload_n 0, 1) := by decide +kernel
theorem dX7_init_27 : decode cX7_init 27 = .ok (.new 23, 3) := by decide +kernel
theorem dX7_init_30 : decode cX7_init 30 = .ok (.dup, 1) := by decide +kernel
theorem dX7_init_31 : decode cX7_init 31 = .ok (.invokespecial 25, 3) := by decide +kernel
theorem dX7_init_34 : decode cX7_init 34 = .ok (.putfield 26, 3) := by decide +kernel
theorem dX7_init_37 : decode cX7_init 37 = .ok (.return_, 1) := by decide +kernel
theorem dX7_set_0 : decode cX7_set 0 = .ok (.aload_n 0, 1) := by decide +kernel
theorem dX7_set_1 : decode cX7_set 1 = .ok (.getfield 10, 3) := by decide +kernel
theorem dX7_set_4 : decode cX7_set 4 = .ok (.iload_n 1, 1) := by decide +kernel
theorem dX7_set_5 : decode cX7_set 5 = .ok (.iload_n 2, 1) := by decide +kernel
theorem dX7_set_6 : decode cX7_set 6 = .ok (.invokevirtual 30, 3) := by decide +kernel
theorem dX7_set_9 : decode cX7_set 9 = .ok (.ifCond .ne 13, 3) := by decide +kernel
theorem dX7_set_12 : decode cX7_set 12 = .ok (.new 34, 3) := by decide +kernel
theorem dX7_set_15 : decode cX7_set 15 = .ok (.dup, 1) := by decide +kernel
theorem dX7_set_16 : decode cX7_set 16 = .ok (.ldc 36, 2) := by decide +kernel
theorem dX7_set_18 : decode cX7_set 18 = .ok (.invokespecial 38, 3) := by decide +kernel
theorem dX7_set_21 : decode cX7_set 21 = .ok (.athrow, 1) := by decide +kernel
theorem dX7_set_22 : decode cX7_set 22 = .ok (.aload_n 0, 1) := by decide +kernel
theorem dX7_set_23 : decode cX7_set 23 = .ok (.getfield 19, 3) := by decide +kernel
theorem dX7_set_26 : decode cX7_set 26 = .ok (.aload_n 0, 1) := by decide +kernel
theorem dX7_set_27 : decode cX7_set 27 = .ok (.getfield 10, 3) := by decide +kernel
theorem dX7_set_30 : decode cX7_set 30 = .ok (.invokevirtual 41, 3) := by decide +kernel
theorem dX7_set_33 : decode cX7_set 33 = .ok (.aload_n 0, 1) := by decide +kernel
theorem dX7_set_34 : decode cX7_set 34 = .ok (.getfield 10, 3) := by decide +kernel
theorem dX7_set_37 : decode cX7_set 37 = .ok (.iload_n 1, 1) := by decide +kernel
theorem dX7_set_38 : decode cX7_set 38 = .ok (.iload_n 2, 1) := by decide +kernel
theorem dX7_set_39 : decode cX7_set 39 = .ok (.invokevirtual 45, 3) := by decide +kernel
theorem dX7_set_42 : decode cX7_set 42 = .ok (.istore_n 3, 1) := by decide +kernel
theorem dX7_set_43 : decode cX7_set 43 = .ok (.aload_n 0, 1) := by decide +kernel
theorem dX7_set_44 : decode cX7_set 44 = .ok (.getfield 10, 3) := by decide +kernel
theorem dX7_set_47 : decode cX7_set 47 = .ok (.invokevirtual 49, 3) := by decide +kernel
theorem dX7_set_50 : decode cX7_set 50 = .ok (.iload_n 3, 1) := by decide +kernel
theorem dX7_set_51 : decode cX7_set 51 = .ok (.ireturn, 1) := by decide +kernel
theorem dX7_info_0 : decode cX7_info 0 = .ok (.iload_n 1, 1) := by decide +kernel
theorem dX7_info_1 : decode cX7_info 1 = .ok (.iconst 0, 1) := by decide +kernel
theorem dX7_info_2 : decode cX7_info 2 = .ok (.bipush 7, 2) := by decide +kernel
theorem dX7_info_4 : decode cX7_info 4 = .ok (.invokestatic 52, 3) := by decide +kernel
theorem dX7_info_7 : decode cX7_info 7 = .ok (.ifCond .ne 13, 3) := by decide +kernel
theorem dX7_info_10 : decode cX7_info 10 = .ok (.new 34, 3) := by decide +kernel
theorem dX7_info_13 : decode cX7_info 13 = .ok (.dup, 1) := by decide +kernel
theorem dX7_info_14 : decode cX7_info 14 = .ok (.ldc 56, 2) := by decide +kernel
theorem dX7_info_16 : decode cX7_info 16 = .ok (.invokespecial 38, 3) := by decide +kernel
theorem dX7_info_19 : decode cX7_info 19 = .ok (.athrow, 1) := by decide +kernel
theorem dX7_info_20 : decode cX7_info 20 = .ok (.aload_n 0, 1) := by decide +kernel
theorem dX7_info_21 : decode cX7_info 21 = .ok (.getfield 10, 3) := by decide +kernel
theorem dX7_info_24 : decode cX7_info 24 = .ok (.iload_n 1, 1) := by decide +kernel
theorem dX7_info_25 : decode cX7_info 25 = .ok (.invokevirtual 58, 3) := by decide +kernel
theorem dX7_info_28 : decode cX7_info 28 = .ok (.ireturn, 1) := by decide +kernel
theorem dX7_hang_0 : decode cX7_hang 0 = .ok (.iload_n 1, 1) := by decide +kernel
theorem dX7_hang_1 : decode cX7_hang 1 = .ok (.ldc 62, 2) := by decide +kernel
theorem dX7_hang_3 : decode cX7_hang 3 = .ok (.ldc 63, 2) := by decide +kernel
theorem dX7_hang_5 : decode cX7_hang 5 = .ok (.invokestatic 52, 3) := by decide +kernel
theorem dX7_hang_8 : decode cX7_hang 8 = .ok (.ifCond .eq 14, 3) := by decide +kernel
theorem dX7_hang_11 : decode cX7_hang 11 = .ok (.iload_n 2, 1) := by decide +kernel
theorem dX7_hang_12 : decode cX7_hang 12 = .ok (.ldc 62, 2) := by decide +kernel
theorem dX7_hang_14 : decode cX7_hang 14 = .ok (.ldc 63, 2) := by decide +kernel
theorem dX7_hang_16 : decode cX7_hang 16 = .ok (.invokestatic 52, 3) := by decide +kernel
theorem dX7_hang_19 : decode cX7_hang 19 = .ok (.ifCond .ne 13, 3) := by decide +kernel
theorem dX7_hang_22 : decode cX7_hang 22 = .ok (.new 34, 3) := by decide +kernel
theorem dX7_hang_25 : decode cX7_hang 25 = .ok (.dup, 1) := by decide +kernel
theorem dX7_hang_26 : decode cX7_hang 26 = .ok (.ldc 64, 2) := by decide +kernel
theorem dX7_hang_28 : decode cX7_hang 28 = .ok (.invokespecial 38, 3) := by decide +kernel
theorem dX7_hang_31 : decode cX7_hang 31 = .ok (.athrow, 1) := by decide +kernel
theorem dX7_hang_32 : decode cX7_hang 32 = .ok (.aload_n 0, 1) := by decide +kernel
theorem dX7_hang_33 : decode cX7_hang 33 = .ok (.getfield 10, 3) := by decide +kernel
theorem dX7_hang_36 : decode cX7_hang 36 = .ok (.getfield 66, 3) := by decide +kernel
theorem dX7_hang_39 : decode cX7_hang 39 = .ok (.bipush 6, 2) := by decide +kernel
theorem dX7_hang_41 : decode cX7_hang 41 = .ok (.if_icmp .lt 13, 3) := by decide +kernel
theorem dX7_hang_44 : decode cX7_hang 44 = .ok (.new 70, 3) := by decide +kernel
theorem dX7_hang_47 : decode cX7_hang 47 = .ok (.dup, 1) := by decide +kernel
theorem dX7_hang_48 : decode cX7_hang 48 = .ok (.ldc 72, 2) := by decide +kernel
theorem dX7_hang_50 : decode cX7_hang 50 = .ok (.invokespecial 74, 3) := by decide +kernel
theorem dX7_hang_53 : decode cX7_hang 53 = .ok (.athrow, 1) := by decide +kernel
theorem dX7_hang_54 : decode cX7_hang 54 = .ok (.aload_n 0, 1) := by decide +kernel
theorem dX7_hang_55 : decode cX7_hang 55 = .ok (.getfield 19, 3) := by decide +kernel
theorem dX7_hang_58 : decode cX7_hang 58 = .ok (.aload_n 0, 1) := by decide +kernel
theorem dX7_hang_59 : decode cX7_hang 59 = .ok (.getfield 10, 3) := by decide +kernel
theorem dX7_hang_62 : decode cX7_hang 62 = .ok (.invokevirtual 41, 3) := by decide +kernel
theorem dX7_hang_65 : decode cX7_hang 65 = .ok (.aload_n 0, 1) := by decide +kernel
theorem dX7_hang_66 : decode cX7_hang 66 = .ok (.getfield 10, 3) := by decide +kernel
theorem dX7_hang_69 : decode cX7_hang 69 = .ok (.iload_n 1, 1) := by decide +kernel
theorem dX7_hang_70 : decode cX7_hang 70 = .ok (.iload_n 2, 1) := by decide +kernel
theorem dX7_hang_71 : decode cX7_hang 71 = .ok (.invokevirtual 75, 3) := by decide +kernel
theorem dX7_hang_74 : decode cX7_hang 74 = .ok (.istore_n 3, 1) := by decide +kernel
theorem dX7_hang_75 : decode cX7_hang 75 = .ok (.aload_n 0, 1) := by decide +kernel
theorem dX7_hang_76 : decode cX7_hang 76 = .ok (.getfield 10, 3) := by decide +kernel
theorem dX7_hang_79 : decode cX7_hang 79 = .ok (.invokevirtual 49, 3) := by decide +kernel
theorem dX7_hang_82 : decode cX7_hang 82 = .ok (.iload_n 3, 1) := by decide +kernel
theorem dX7_hang_83 : decode cX7_hang 83 = .ok (.ireturn, 1) := by decide +kernel
theorem dX7_swing_0 : decode cX7_swing 0 = .ok (.aload_n 0, 1) := by decide +kernel
theorem dX7_swing_1 : decode cX7_swing 1 = .ok (.bipush 116, 2) := by decide +kernel
theorem dX7_swing_3 : decode cX7_swing 3 = .ok (.iload_n 1, 1) := by decide +kernel
theorem dX7_swing_4 : decode cX7_swing 4 = .ok (.iload_n 2, 1) := by decide +kernel
theorem dX7_swing_5 : decode cX7_swing 5 = .ok (.iconst 0, 1) := by decide +kernel
theorem dX7_swing_6 : decode cX7_swing 6 = .ok (.invokevirtual 78, 3) := by decide +kernel
theorem dX7_swing_9 : decode cX7_swing 9 = .ok (.ireturn, 1) := by decide +kernel
theorem dX7_still_0 : decode cX7_still 0 = .ok (.aload_n 0, 1) := by decide +kernel
theorem dX7_still_1 : decode cX7_still 1 = .ok (.getfield 10, 3) := by decide +kernel
theorem dX7_still_4 : decode cX7_still 4 = .ok (.iload_n 1, 1) := by decide +kernel
theorem dX7_still_5 : decode cX7_still 5 = .ok (.invokevirtual 82, 3) := by decide +kernel
theorem dX7_still_8 : decode cX7_still 8 = .ok (.astore_n 2, 1) := by decide +kernel
theorem dX7_still_9 : decode cX7_still 9 = .ok (.aload_n 2, 1) := by decide +kernel
theorem dX7_still_10 : decode cX7_still 10 = .ok (.ifnonnull 13, 3) := by decide +kernel
theorem dX7_still_13 : decode cX7_still 13 = .ok (.new 86, 3) := by decide +kernel
theorem dX7_still_16 : decode cX7_still 16 = .ok (.dup, 1) := by decide +kernel
theorem dX7_still_17 : decode cX7_still 17 = .ok (.ldc 88, 2) := by decide +kernel
theorem dX7_still_19 : decode cX7_still 19 = .ok (.invokespecial 90, 3) := by decide +kernel
theorem dX7_still_22 : decode cX7_still 22 = .ok (.athrow, 1) := by decide +kernel
theorem dX7_still_23 : decode cX7_still 23 = .ok (.aload_n 0, 1) := by decide +kernel
theorem dX7_still_24 : decode cX7_still 24 = .ok (.getfield 19, 3) := by decide +kernel
theorem dX7_still_27 : decode cX7_still 27 = .ok (.aload_n 0, 1) := by decide +kernel
theorem dX7_still_28 : decode cX7_still 28 = .ok (.getfield 10, 3) := by decide +kernel
theorem dX7_still_31 : decode cX7_still 31 = .ok (.invokevirtual 41, 3) := by decide +kernel
theorem dX7_still_34 : decode cX7_still 34 = .ok (.aload_n 2, 1) := by decide +kernel
theorem dX7_still_35 : decode cX7_still 35 = .ok (.invokevirtual 91, 3) := by decide +kernel
theorem dX7_still_38 : decode cX7_still 38 = .ok (.istore_n 3, 1) := by decide +kernel
theorem dX7_still_39 : decode cX7_still 39 = .ok (.aload_n 0, 1) := by decide +kernel
theorem dX7_still_40 : decode cX7_still 40 = .ok (.getfield 10, 3) := by decide +kernel
theorem dX7_still_43 : decode cX7_still 43 = .ok (.invokevirtual 49, 3) := by decide +kernel
theorem dX7_still_46 : decode cX7_still 46 = .ok (.iload_n 3, 1) := by decide +kernel
theorem dX7_still_47 : decode cX7_still 47 = .ok (.ireturn, 1) := by decide +kernel
theorem dX7_wire_0 : decode cX7_wire 0 = .ok (.aload_n 0, 1) := by decide +kernel
theorem dX7_wire_1 : decode cX7_wire 1 = .ok (.getfield 10, 3) := by decide +kernel
theorem dX7_wire_4 : decode cX7_wire 4 = .ok (.iload_n 1, 1) := by decide +kernel
theorem dX7_wire_5 : decode cX7_wire 5 = .ok (.invokevirtual 82, 3) := by decide +kernel
theorem dX7_wire_8 : decode cX7_wire 8 = .ok (.astore_n 3, 1) := by decide +kernel
theorem dX7_wire_9 : decode cX7_wire 9 = .ok (.aload_n 3, 1) := by decide +kernel
theorem dX7_wire_10 : decode cX7_wire 10 = .ok (.ifnonnull 13, 3) := by decide +kernel
theorem dX7_wire_13 : decode cX7_wire 13 = .ok (.new 86, 3) := by decide +kernel
theorem dX7_wire_16 : decode cX7_wire 16 = .ok (.dup, 1) := by decide +kernel
theorem dX7_wire_17 : decode cX7_wire 17 = .ok (.ldc 88, 2) := by decide +kernel
theorem dX7_wire_19 : decode cX7_wire 19 = .ok (.invokespecial 90, 3) := by decide +kernel
theorem dX7_wire_22 : decode cX7_wire 22 = .ok (.athrow, 1) := by decide +kernel
theorem dX7_wire_23 : decode cX7_wire 23 = .ok (.iload_n 2, 1) := by decide +kernel
theorem dX7_wire_24 : decode cX7_wire 24 = .ok (.iconst 0, 1) := by decide +kernel
theorem dX7_wire_25 : decode cX7_wire 25 = .ok (.iconst 5, 1) := by decide +kernel
theorem dX7_wire_26 : decode cX7_wire 26 = .ok (.invokestatic 52, 3) := by decide +kernel
theorem dX7_wire_29 : decode cX7_wire 29 = .ok (.ifCond .ne 13, 3) := by decide +kernel
theorem dX7_wire_32 : decode cX7_wire 32 = .ok (.new 34, 3) := by decide +kernel
theorem dX7_wire_35 : decode cX7_wire 35 = .ok (.dup, 1) := by decide +kernel
theorem dX7_wire_36 : decode cX7_wire 36 = .ok (.ldc 97, 2) := by decide +kernel
theorem dX7_wire_38 : decode cX7_wire 38 = .ok (.invokespecial 38, 3) := by decide +kernel
theorem dX7_wire_41 : decode cX7_wire 41 = .ok (.athrow, 1) := by decide +kernel
theorem dX7_wire_42 : decode cX7_wire 42 = .ok (.aload_n 3, 1) := by decide +kernel
theorem dX7_wire_43 : decode cX7_wire 43 = .ok (.iload_n 2, 1) := by decide +kernel
theorem dX7_wire_44 : decode cX7_wire 44 = .ok (.invokevirtual 99, 3) := by decide +kernel
theorem dX7_wire_47 : decode cX7_wire 47 = .ok (.ireturn, 1) := by decide +kernel
theorem dX7_join_0 : decode cX7_join 0 = .ok (.aload_n 0, 1) := by decide +kernel
theorem dX7_join_1 : decode cX7_join 1 = .ok (.getfield 10, 3) := by decide +kernel
theorem dX7_join_4 : decode cX7_join 4 = .ok (.iload_n 1, 1) := by decide +kernel
theorem dX7_join_5 : decode cX7_join 5 = .ok (.invokevirtual 82, 3) := by decide +kernel
theorem dX7_join_8 : decode cX7_join 8 = .ok (.ifnull 14, 3) := by decide +kernel
theorem dX7_join_11 : decode cX7_join 11 = .ok (.aload_n 0, 1) := by decide +kernel
theorem dX7_join_12 : decode cX7_join 12 = .ok (.getfield 10, 3) := by decide +kernel
theorem dX7_join_15 : decode cX7_join 15 = .ok (.iload_n 2, 1) := by decide +kernel
theorem dX7_join_16 : decode cX7_join 16 = .ok (.invokevirtual 82, 3) := by decide +kernel
theorem dX7_join_19 : decode cX7_join 19 = .ok (.ifnonnull 13, 3) := by decide +kernel
theorem dX7_join_22 : decode cX7_join 22 = .ok (.new 86, 3) := by decide +kernel
theorem dX7_join_25 : decode cX7_join 25 = .ok (.dup, 1) := by decide +kernel
theorem dX7_join_26 : decode cX7_join 26 = .ok (.ldc 88, 2) := by decide +kernel
theorem dX7_join_28 : decode cX7_join 28 = .ok (.invokespecial 90, 3) := by decide +kernel
theorem dX7_join_31 : decode cX7_join 31 = .ok (.athrow, 1) := by decide +kernel
theorem dX7_join_32 : decode cX7_join 32 = .ok (.iload_n 1, 1) := by decide +kernel
theorem dX7_join_33 : decode cX7_join 33 = .ok (.iload_n 2, 1) := by decide +kernel
theorem dX7_join_34 : decode cX7_join 34 = .ok (.if_icmp .eq 43, 3) := by decide +kernel
theorem dX7_join_37 : decode cX7_join 37 = .ok (.iload_n 3, 1) := by decide +kernel
theorem dX7_join_38 : decode cX7_join 38 = .ok (.invokestatic 100, 3) := by decide +kernel
theorem dX7_join_41 : decode cX7_join 41 = .ok (.ifCond .eq 36, 3) := by decide +kernel
theorem dX7_join_44 : decode cX7_join 44 = .ok (.iload 4, 2) := by decide +kernel
theorem dX7_join_46 : decode cX7_join 46 = .ok (.bipush 100, 2) := by decide +kernel
theorem dX7_join_48 : decode cX7_join 48 = .ok (.sipush 20000, 3) := by decide +kernel
theorem dX7_join_51 : decode cX7_join 51 = .ok (.invokestatic 52, 3) := by decide +kernel
theorem dX7_join_54 : decode cX7_join 54 = .ok (.ifCond .eq 23, 3) := by decide +kernel
theorem dX7_join_57 : decode cX7_join 57 = .ok (.iload 5, 2) := by decide +kernel
theorem dX7_join_59 : decode cX7_join 59 = .ok (.bipush 100, 2) := by decide +kernel
theorem dX7_join_61 : decode cX7_join 61 = .ok (.ldc 104, 2) := by decide +kernel
theorem dX7_join_63 : decode cX7_join 63 = .ok (.invokestatic 52, 3) := by decide +kernel
theorem dX7_join_66 : decode cX7_join 66 = .ok (.ifCond .eq 11, 3) := by decide +kernel
theorem dX7_join_69 : decode cX7_join 69 = .ok (.iload 6, 2) := by decide +kernel
theorem dX7_join_71 : decode cX7_join 71 = .ok (.invokestatic 105, 3) := by decide +kernel
theorem dX7_join_74 : decode cX7_join 74 = .ok (.ifCond .ne 13, 3) := by decide +kernel
theorem dX7_join_77 : decode cX7_join 77 = .ok (.new 34, 3) := by decide +kernel
theorem dX7_join_80 : decode cX7_join 80 = .ok (.dup, 1) := by decide +kernel
theorem dX7_join_81 : decode cX7_join 81 = .ok (.ldc 108, 2) := by decide +kernel
theorem dX7_join_83 : decode cX7_join 83 = .ok (.invokespecial 38, 3) := by decide +kernel
theorem dX7_join_86 : decode cX7_join 86 = .ok (.athrow, 1) := by decide +kernel
theorem dX7_join_87 : decode cX7_join 87 = .ok (.aload_n 0, 1) := by decide +kernel
theorem dX7_join_88 : decode cX7_join 88 = .ok (.getfield 10, 3) := by decide +kernel
theorem dX7_join_91 : decode cX7_join 91 = .ok (.getfield 110, 3) := by decide +kernel
theorem dX7_join_94 : decode cX7_join 94 = .ok (.iconst 4, 1) := by decide +kernel
theorem dX7_join_95 : decode cX7_join 95 = .ok (.if_icmp .lt 13, 3) := by decide +kernel
theorem dX7_join_98 : decode cX7_join 98 = .ok (.new 70, 3) := by decide +kernel
theorem dX7_join_101 : decode cX7_join 101 = .ok (.dup, 1) := by decide +kernel
theorem dX7_join_102 : decode cX7_join 102 = .ok (.ldc 113, 2) := by decide +kernel
theorem dX7_join_104 : decode cX7_join 104 = .ok (.invokespecial 74, 3) := by decide +kernel
theorem dX7_join_107 : decode cX7_join 107 = .ok (.athrow, 1) := by decide +kernel
theorem dX7_join_108 : decode cX7_join 108 = .ok (.aload_n 0, 1) := by decide +kernel
theorem dX7_join_109 : decode cX7_join 109 = .ok (.getfield 19, 3) := by decide +kernel
theorem dX7_join_112 : decode cX7_join 112 = .ok (.aload_n 0, 1) := by decide +kernel
theorem dX7_join_113 : decode cX7_join 113 = .ok (.getfield 10, 3) := by decide +kernel
theorem dX7_join_116 : decode cX7_join 116 = .ok (.invokevirtual 41, 3) := by decide +kernel
theorem dX7_join_119 : decode cX7_join 119 = .ok (.aload_n 0, 1) := by decide +kernel
theorem dX7_join_120 : decode cX7_join 120 = .ok (.getfield 10, 3) := by decide +kernel
theorem dX7_join_123 : decode cX7_join 123 = .ok (.iload_n 1, 1) := by decide +kernel
theorem dX7_join_124 : decode cX7_join 124 = .ok (.iload_n 2, 1) := by decide +kernel
theorem dX7_join_125 : decode cX7_join 125 = .ok (.iload_n 3, 1) := by decide +kernel
theorem dX7_join_126 : decode cX7_join 126 = .ok (.iload 4, 2) := by decide +kernel
theorem dX7_join_128 : decode cX7_join 128 = .ok (.iload 5, 2) := by decide +kernel
theorem dX7_join_130 : decode cX7_join 130 = .ok (.iload 6, 2) := by decide +kernel
theorem dX7_join_132 : decode cX7_join 132 = .ok (.invokevirtual 115, 3) := by decide +kernel
theorem dX7_join_135 : decode cX7_join 135 = .ok (.istore 7, 2) := by decide +kernel
theorem dX7_join_137 : decode cX7_join 137 = .ok (.aload_n 0, 1) := by decide +kernel
theorem dX7_join_138 : decode cX7_join 138 = .ok (.getfield 10, 3) := by decide +kernel
theorem dX7_join_141 : decode cX7_join 141 = .ok (.invokevirtual 49, 3) := by decide +kernel
theorem dX7_join_144 : decode cX7_join 144 = .ok (.iload 7, 2) := by decide +kernel
theorem dX7_join_146 : decode cX7_join 146 = .ok (.ireturn, 1) := by decide +kernel
theorem dX7_measure_0 : decode cX7_measure 0 = .ok (.aload_n 0, 1) := by decide +kernel
theorem dX7_measure_1 : decode cX7_measure 1 = .ok (.getfield 10, 3) := by decide +kernel
theorem dX7_measure_4 : decode cX7_measure 4 = .ok (.iload_n 1, 1) := by decide +kernel
theorem dX7_measure_5 : decode cX7_measure 5 = .ok (.invokevirtual 119, 3) := by decide +kernel
theorem dX7_measure_8 : decode cX7_measure 8 = .ok (.astore_n 3, 1) := by decide +kernel
theorem dX7_measure_9 : decode cX7_measure 9 = .ok (.aload_n 3, 1) := by decide +kernel
theorem dX7_measure_10 : decode cX7_measure 10 = .ok (.ifnonnull 13, 3) := by decide +kernel
theorem dX7_measure_13 : decode cX7_measure 13 = .ok (.new 86, 3) := by decide +kernel
theorem dX7_measure_16 : decode cX7_measure 16 = .ok (.dup, 1) := by decide +kernel
theorem dX7_measure_17 : decode cX7_measure 17 = .ok (.ldc 123, 2) := by decide +kernel
theorem dX7_measure_19 : decode cX7_measure 19 = .ok (.invokespecial 90, 3) := by decide +kernel
theorem dX7_measure_22 : decode cX7_measure 22 = .ok (.athrow, 1) := by decide +kernel
theorem dX7_measure_23 : decode cX7_measure 23 = .ok (.iload_n 2, 1) := by decide +kernel
theorem dX7_measure_24 : decode cX7_measure 24 = .ok (.invokestatic 105, 3) := by decide +kernel
theorem dX7_measure_27 : decode cX7_measure 27 = .ok (.ifCond .ne 13, 3) := by decide +kernel
theorem dX7_measure_30 : decode cX7_measure 30 = .ok (.new 34, 3) := by decide +kernel
theorem dX7_measure_33 : decode cX7_measure 33 = .ok (.dup, 1) := by decide +kernel
theorem dX7_measure_34 : decode cX7_measure 34 = .ok (.ldc 125, 2) := by decide +kernel
theorem dX7_measure_36 : decode cX7_measure 36 = .ok (.invokespecial 38, 3) := by decide +kernel
theorem dX7_measure_39 : decode cX7_measure 39 = .ok (.athrow, 1) := by decide +kernel
theorem dX7_measure_40 : decode cX7_measure 40 = .ok (.aload_n 0, 1) := by decide +kernel
theorem dX7_measure_41 : decode cX7_measure 41 = .ok (.getfield 19, 3) := by decide +kernel
theorem dX7_measure_44 : decode cX7_measure 44 = .ok (.aload_n 0, 1) := by decide +kernel
theorem dX7_measure_45 : decode cX7_measure 45 = .ok (.getfield 10, 3) := by decide +kernel
theorem dX7_measure_48 : decode cX7_measure 48 = .ok (.invokevirtual 41, 3) := by decide +kernel
theorem dX7_measure_51 : decode cX7_measure 51 = .ok (.aload_n 3, 1) := by decide +kernel
theorem dX7_measure_52 : decode cX7_measure 52 = .ok (.getfield 127, 3) := by decide +kernel
theorem dX7_measure_55 : decode cX7_measure 55 = .ok (.istore 4, 2) := by decide +kernel
theorem dX7_measure_57 : decode cX7_measure 57 = .ok (.aload_n 3, 1) := by decide +kernel
theorem dX7_measure_58 : decode cX7_measure 58 = .ok (.iload_n 2, 1) := by decide +kernel
theorem dX7_measure_59 : decode cX7_measure 59 = .ok (.putfield 127, 3) := by decide +kernel
theorem dX7_measure_62 : decode cX7_measure 62 = .ok (.aload_n 0, 1) := by decide +kernel
theorem dX7_measure_63 : decode cX7_measure 63 = .ok (.getfield 10, 3) := by decide +kernel
theorem dX7_measure_66 : decode cX7_measure 66 = .ok (.invokevirtual 49, 3) := by decide +kernel
theorem dX7_measure_69 : decode cX7_measure 69 = .ok (.iload 4, 2) := by decide +kernel
theorem dX7_measure_71 : decode cX7_measure 71 = .ok (.ireturn, 1) := by decide +kernel
theorem dX7_joinOf_0 : decode cX7_joinOf 0 = .ok (.aload_n 0, 1) := by decide +kernel
theorem dX7_joinOf_1 : decode cX7_joinOf 1 = .ok (.getfield 10, 3) := by decide +kernel
theorem dX7_joinOf_4 : decode cX7_joinOf 4 = .ok (.iload_n 1, 1) := by decide +kernel
theorem dX7_joinOf_5 : decode cX7_joinOf 5 = .ok (.invokevirtual 119, 3) := by decide +kernel
theorem dX7_joinOf_8 : decode cX7_joinOf 8 = .ok (.astore_n 3, 1) := by decide +kernel
theorem dX7_joinOf_9 : decode cX7_joinOf 9 = .ok (.aload_n 3, 1) := by decide +kernel
theorem dX7_joinOf_10 : decode cX7_joinOf 10 = .ok (.ifnonnull 13, 3) := by decide +kernel
theorem dX7_joinOf_13 : decode cX7_joinOf 13 = .ok (.new 86, 3) := by decide +kernel
theorem dX7_joinOf_16 : decode cX7_joinOf 16 = .ok (.dup, 1) := by decide +kernel
theorem dX7_joinOf_17 : decode cX7_joinOf 17 = .ok (.ldc 123, 2) := by decide +kernel
theorem dX7_joinOf_19 : decode cX7_joinOf 19 = .ok (.invokespecial 90, 3) := by decide +kernel
theorem dX7_joinOf_22 : decode cX7_joinOf 22 = .ok (.athrow, 1) := by decide +kernel
theorem dX7_joinOf_23 : decode cX7_joinOf 23 = .ok (.iload_n 2, 1) := by decide +kernel
theorem dX7_joinOf_24 : decode cX7_joinOf 24 = .ok (.iconst 0, 1) := by decide +kernel
theorem dX7_joinOf_25 : decode cX7_joinOf 25 = .ok (.bipush 7, 2) := by decide +kernel
theorem dX7_joinOf_27 : decode cX7_joinOf 27 = .ok (.invokestatic 52, 3) := by decide +kernel
theorem dX7_joinOf_30 : decode cX7_joinOf 30 = .ok (.ifCond .ne 13, 3) := by decide +kernel
theorem dX7_joinOf_33 : decode cX7_joinOf 33 = .ok (.new 34, 3) := by decide +kernel
theorem dX7_joinOf_36 : decode cX7_joinOf 36 = .ok (.dup, 1) := by decide +kernel
theorem dX7_joinOf_37 : decode cX7_joinOf 37 = .ok (.ldc 56, 2) := by decide +kernel
theorem dX7_joinOf_39 : decode cX7_joinOf 39 = .ok (.invokespecial 38, 3) := by decide +kernel
theorem dX7_joinOf_42 : decode cX7_joinOf 42 = .ok (.athrow, 1) := by decide +kernel
theorem dX7_joinOf_43 : decode cX7_joinOf 43 = .ok (.aload_n 3, 1) := by decide +kernel
theorem dX7_joinOf_44 : decode cX7_joinOf 44 = .ok (.iload_n 2, 1) := by decide +kernel
theorem dX7_joinOf_45 : decode cX7_joinOf 45 = .ok (.invokevirtual 132, 3) := by decide +kernel
theorem dX7_joinOf_48 : decode cX7_joinOf 48 = .ok (.ireturn, 1) := by decide +kernel
theorem dX7_begin_0 : decode cX7_begin 0 = .ok (.aload_n 0, 1) := by decide +kernel
theorem dX7_begin_1 : decode cX7_begin 1 = .ok (.getfield 10, 3) := by decide +kernel
theorem dX7_begin_4 : decode cX7_begin 4 = .ok (.iload_n 1, 1) := by decide +kernel
theorem dX7_begin_5 : decode cX7_begin 5 = .ok (.invokevirtual 119, 3) := by decide +kernel
theorem dX7_begin_8 : decode cX7_begin 8 = .ok (.ifnonnull 13, 3) := by decide +kernel
theorem dX7_begin_11 : decode cX7_begin 11 = .ok (.new 86, 3) := by decide +kernel
theorem dX7_begin_14 : decode cX7_begin 14 = .ok (.dup, 1) := by decide +kernel
theorem dX7_begin_15 : decode cX7_begin 15 = .ok (.ldc 123, 2) := by decide +kernel
theorem dX7_begin_17 : decode cX7_begin 17 = .ok (.invokespecial 90, 3) := by decide +kernel
theorem dX7_begin_20 : decode cX7_begin 20 = .ok (.athrow, 1) := by decide +kernel
theorem dX7_begin_21 : decode cX7_begin 21 = .ok (.aload_n 0, 1) := by decide +kernel
theorem dX7_begin_22 : decode cX7_begin 22 = .ok (.getfield 10, 3) := by decide +kernel
theorem dX7_begin_25 : decode cX7_begin 25 = .ok (.getfield 133, 3) := by decide +kernel
theorem dX7_begin_28 : decode cX7_begin 28 = .ok (.iconst 4, 1) := by decide +kernel
theorem dX7_begin_29 : decode cX7_begin 29 = .ok (.if_icmp .lt 13, 3) := by decide +kernel
theorem dX7_begin_32 : decode cX7_begin 32 = .ok (.new 70, 3) := by decide +kernel
theorem dX7_begin_35 : decode cX7_begin 35 = .ok (.dup, 1) := by decide +kernel
theorem dX7_begin_36 : decode cX7_begin 36 = .ok (.ldc 136, 2) := by decide +kernel
theorem dX7_begin_38 : decode cX7_begin 38 = .ok (.invokespecial 74, 3) := by decide +kernel
theorem dX7_begin_41 : decode cX7_begin 41 = .ok (.athrow, 1) := by decide +kernel
theorem dX7_begin_42 : decode cX7_begin 42 = .ok (.aload_n 0, 1) := by decide +kernel
theorem dX7_begin_43 : decode cX7_begin 43 = .ok (.getfield 19, 3) := by decide +kernel
theorem dX7_begin_46 : decode cX7_begin 46 = .ok (.aload_n 0, 1) := by decide +kernel
theorem dX7_begin_47 : decode cX7_begin 47 = .ok (.getfield 10, 3) := by decide +kernel
theorem dX7_begin_50 : decode cX7_begin 50 = .ok (.invokevirtual 41, 3) := by decide +kernel
theorem dX7_begin_53 : decode cX7_begin 53 = .ok (.aload_n 0, 1) := by decide +kernel
theorem dX7_begin_54 : decode cX7_begin 54 = .ok (.getfield 10, 3) := by decide +kernel
theorem dX7_begin_57 : decode cX7_begin 57 = .ok (.iload_n 1, 1) := by decide +kernel
theorem dX7_begin_58 : decode cX7_begin 58 = .ok (.invokevirtual 138, 3) := by decide +kernel
theorem dX7_begin_61 : decode cX7_begin 61 = .ok (.istore_n 2, 1) := by decide +kernel
theorem dX7_begin_62 : decode cX7_begin 62 = .ok (.aload_n 0, 1) := by decide +kernel
theorem dX7_begin_63 : decode cX7_begin 63 = .ok (.getfield 10, 3) := by decide +kernel
theorem dX7_begin_66 : decode cX7_begin 66 = .ok (.invokevirtual 49, 3) := by decide +kernel
theorem dX7_begin_69 : decode cX7_begin 69 = .ok (.iload_n 2, 1) := by decide +kernel
theorem dX7_begin_70 : decode cX7_begin 70 = .ok (.ireturn, 1) := by decide +kernel
theorem dX7_addLeg_0 : decode cX7_addLeg 0 = .ok (.aload_n 0, 1) := by decide +kernel
theorem dX7_addLeg_1 : decode cX7_addLeg 1 = .ok (.bipush 108, 2) := by decide +kernel
theorem dX7_addLeg_3 : decode cX7_addLeg 3 = .ok (.iload_n 1, 1) := by decide +kernel
theorem dX7_addLeg_4 : decode cX7_addLeg 4 = .ok (.iload_n 2, 1) := by decide +kernel
theorem dX7_addLeg_5 : decode cX7_addLeg 5 = .ok (.iload_n 3, 1) := by decide +kernel
theorem dX7_addLeg_6 : decode cX7_addLeg 6 = .ok (.invokevirtual 78, 3) := by decide +kernel
theorem dX7_addLeg_9 : decode cX7_addLeg 9 = .ok (.ireturn, 1) := by decide +kernel
theorem dX7_dropLeg_0 : decode cX7_dropLeg 0 = .ok (.aload_n 0, 1) := by decide +kernel
theorem dX7_dropLeg_1 : decode cX7_dropLeg 1 = .ok (.bipush 107, 2) := by decide +kernel
theorem dX7_dropLeg_3 : decode cX7_dropLeg 3 = .ok (.iload_n 1, 1) := by decide +kernel
theorem dX7_dropLeg_4 : decode cX7_dropLeg 4 = .ok (.iconst 0, 1) := by decide +kernel
theorem dX7_dropLeg_5 : decode cX7_dropLeg 5 = .ok (.iconst 0, 1) := by decide +kernel
theorem dX7_dropLeg_6 : decode cX7_dropLeg 6 = .ok (.invokevirtual 78, 3) := by decide +kernel
theorem dX7_dropLeg_9 : decode cX7_dropLeg 9 = .ok (.ireturn, 1) := by decide +kernel
theorem dX7_close_0 : decode cX7_close 0 = .ok (.aload_n 0, 1) := by decide +kernel
theorem dX7_close_1 : decode cX7_close 1 = .ok (.getfield 10, 3) := by decide +kernel
theorem dX7_close_4 : decode cX7_close 4 = .ok (.iload_n 1, 1) := by decide +kernel
theorem dX7_close_5 : decode cX7_close 5 = .ok (.invokevirtual 141, 3) := by decide +kernel
theorem dX7_close_8 : decode cX7_close 8 = .ok (.astore 4, 2) := by decide +kernel
theorem dX7_close_10 : decode cX7_close 10 = .ok (.aload 4, 2) := by decide +kernel
theorem dX7_close_12 : decode cX7_close 12 = .ok (.ifnull 14, 3) := by decide +kernel
theorem dX7_close_15 : decode cX7_close 15 = .ok (.aload_n 0, 1) := by decide +kernel
theorem dX7_close_16 : decode cX7_close 16 = .ok (.getfield 10, 3) := by decide +kernel
theorem dX7_close_19 : decode cX7_close 19 = .ok (.iload_n 2, 1) := by decide +kernel
theorem dX7_close_20 : decode cX7_close 20 = .ok (.invokevirtual 119, 3) := by decide +kernel
theorem dX7_close_23 : decode cX7_close 23 = .ok (.ifnonnull 13, 3) := by decide +kernel
theorem dX7_close_26 : decode cX7_close 26 = .ok (.new 86, 3) := by decide +kernel
theorem dX7_close_29 : decode cX7_close 29 = .ok (.dup, 1) := by decide +kernel
theorem dX7_close_30 : decode cX7_close 30 = .ok (.ldc 145, 2) := by decide +kernel
theorem dX7_close_32 : decode cX7_close 32 = .ok (.invokespecial 90, 3) := by decide +kernel
theorem dX7_close_35 : decode cX7_close 35 = .ok (.athrow, 1) := by decide +kernel
theorem dX7_close_36 : decode cX7_close 36 = .ok (.iload_n 2, 1) := by decide +kernel
theorem dX7_close_37 : decode cX7_close 37 = .ok (.aload 4, 2) := by decide +kernel
theorem dX7_close_39 : decode cX7_close 39 = .ok (.getfield 147, 3) := by decide +kernel
theorem dX7_close_42 : decode cX7_close 42 = .ok (.if_icmp .eq 10, 3) := by decide +kernel
theorem dX7_close_45 : decode cX7_close 45 = .ok (.iload_n 3, 1) := by decide +kernel
theorem dX7_close_46 : decode cX7_close 46 = .ok (.invokestatic 100, 3) := by decide +kernel
theorem dX7_close_49 : decode cX7_close 49 = .ok (.ifCond .ne 13, 3) := by decide +kernel
theorem dX7_close_52 : decode cX7_close 52 = .ok (.new 34, 3) := by decide +kernel
theorem dX7_close_55 : decode cX7_close 55 = .ok (.dup, 1) := by decide +kernel
theorem dX7_close_56 : decode cX7_close 56 = .ok (.ldc 152, 2) := by decide +kernel
theorem dX7_close_58 : decode cX7_close 58 = .ok (.invokespecial 38, 3) := by decide +kernel
theorem dX7_close_61 : decode cX7_close 61 = .ok (.athrow, 1) := by decide +kernel
theorem dX7_close_62 : decode cX7_close 62 = .ok (.aload 4, 2) := by decide +kernel
theorem dX7_close_64 : decode cX7_close 64 = .ok (.getfield 154, 3) := by decide +kernel
theorem dX7_close_67 : decode cX7_close 67 = .ok (.ifCond .ne 13, 3) := by decide +kernel
theorem dX7_close_70 : decode cX7_close 70 = .ok (.new 70, 3) := by decide +kernel
theorem dX7_close_73 : decode cX7_close 73 = .ok (.dup, 1) := by decide +kernel
theorem dX7_close_74 : decode cX7_close 74 = .ok (.ldc 157, 2) := by decide +kernel
theorem dX7_close_76 : decode cX7_close 76 = .ok (.invokespecial 74, 3) := by decide +kernel
theorem dX7_close_79 : decode cX7_close 79 = .ok (.athrow, 1) := by decide +kernel
theorem dX7_close_80 : decode cX7_close 80 = .ok (.aload_n 0, 1) := by decide +kernel
theorem dX7_close_81 : decode cX7_close 81 = .ok (.getfield 19, 3) := by decide +kernel
theorem dX7_close_84 : decode cX7_close 84 = .ok (.aload_n 0, 1) := by decide +kernel
theorem dX7_close_85 : decode cX7_close 85 = .ok (.getfield 10, 3) := by decide +kernel
theorem dX7_close_88 : decode cX7_close 88 = .ok (.invokevirtual 41, 3) := by decide +kernel
theorem dX7_close_91 : decode cX7_close 91 = .ok (.aload 4, 2) := by decide +kernel
theorem dX7_close_93 : decode cX7_close 93 = .ok (.iload_n 2, 1) := by decide +kernel
theorem dX7_close_94 : decode cX7_close 94 = .ok (.iload_n 3, 1) := by decide +kernel
theorem dX7_close_95 : decode cX7_close 95 = .ok (.invokevirtual 159, 3) := by decide +kernel
theorem dX7_close_98 : decode cX7_close 98 = .ok (.aload_n 0, 1) := by decide +kernel
theorem dX7_close_99 : decode cX7_close 99 = .ok (.getfield 10, 3) := by decide +kernel
theorem dX7_close_102 : decode cX7_close 102 = .ok (.invokevirtual 49, 3) := by decide +kernel
theorem dX7_close_105 : decode cX7_close 105 = .ok (.aload 4, 2) := by decide +kernel
theorem dX7_close_107 : decode cX7_close 107 = .ok (.getfield 163, 3) := by decide +kernel
theorem dX7_close_110 : decode cX7_close 110 = .ok (.ireturn, 1) := by decide +kernel
theorem dX7_adjust_0 : decode cX7_adjust 0 = .ok (.aload_n 0, 1) := by decide +kernel
theorem dX7_adjust_1 : decode cX7_adjust 1 = .ok (.bipush 97, 2) := by decide +kernel
theorem dX7_adjust_3 : decode cX7_adjust 3 = .ok (.iload_n 1, 1) := by decide +kernel
theorem dX7_adjust_4 : decode cX7_adjust 4 = .ok (.iconst 0, 1) := by decide +kernel
theorem dX7_adjust_5 : decode cX7_adjust 5 = .ok (.iconst 0, 1) := by decide +kernel
theorem dX7_adjust_6 : decode cX7_adjust 6 = .ok (.invokevirtual 78, 3) := by decide +kernel
theorem dX7_adjust_9 : decode cX7_adjust 9 = .ok (.ireturn, 1) := by decide +kernel
theorem dX7_traverse_0 : decode cX7_traverse 0 = .ok (.aload_n 0, 1) := by decide +kernel
theorem dX7_traverse_1 : decode cX7_traverse 1 = .ok (.getfield 10, 3) := by decide +kernel
theorem dX7_traverse_4 : decode cX7_traverse 4 = .ok (.iload_n 1, 1) := by decide +kernel
theorem dX7_traverse_5 : decode cX7_traverse 5 = .ok (.invokevirtual 141, 3) := by decide +kernel
theorem dX7_traverse_8 : decode cX7_traverse 8 = .ok (.astore_n 3, 1) := by decide +kernel
theorem dX7_traverse_9 : decode cX7_traverse 9 = .ok (.aload_n 3, 1) := by decide +kernel
theorem dX7_traverse_10 : decode cX7_traverse 10 = .ok (.ifnonnull 13, 3) := by decide +kernel
theorem dX7_traverse_13 : decode cX7_traverse 13 = .ok (.new 86, 3) := by decide +kernel
theorem dX7_traverse_16 : decode cX7_traverse 16 = .ok (.dup, 1) := by decide +kernel
theorem dX7_traverse_17 : decode cX7_traverse 17 = .ok (.ldc 166, 2) := by decide +kernel
theorem dX7_traverse_19 : decode cX7_traverse 19 = .ok (.invokespecial 90, 3) := by decide +kernel
theorem dX7_traverse_22 : decode cX7_traverse 22 = .ok (.athrow, 1) := by decide +kernel
theorem dX7_traverse_23 : decode cX7_traverse 23 = .ok (.iload_n 2, 1) := by decide +kernel
theorem dX7_traverse_24 : decode cX7_traverse 24 = .ok (.iconst 0, 1) := by decide +kernel
theorem dX7_traverse_25 : decode cX7_traverse 25 = .ok (.bipush 9, 2) := by decide +kernel
theorem dX7_traverse_27 : decode cX7_traverse 27 = .ok (.invokestatic 52, 3) := by decide +kernel
theorem dX7_traverse_30 : decode cX7_traverse 30 = .ok (.ifCond .ne 13, 3) := by decide +kernel
theorem dX7_traverse_33 : decode cX7_traverse 33 = .ok (.new 34, 3) := by decide +kernel
theorem dX7_traverse_36 : decode cX7_traverse 36 = .ok (.dup, 1) := by decide +kernel
theorem dX7_traverse_37 : decode cX7_traverse 37 = .ok (.ldc 168, 2) := by decide +kernel
theorem dX7_traverse_39 : decode cX7_traverse 39 = .ok (.invokespecial 38, 3) := by decide +kernel
theorem dX7_traverse_42 : decode cX7_traverse 42 = .ok (.athrow, 1) := by decide +kernel
theorem dX7_traverse_43 : decode cX7_traverse 43 = .ok (.aload_n 3, 1) := by decide +kernel
theorem dX7_traverse_44 : decode cX7_traverse 44 = .ok (.iload_n 2, 1) := by decide +kernel
theorem dX7_traverse_45 : decode cX7_traverse 45 = .ok (.invokevirtual 170, 3) := by decide +kernel
theorem dX7_traverse_48 : decode cX7_traverse 48 = .ok (.ireturn, 1) := by decide +kernel
theorem dX7_leg_0 : decode cX7_leg 0 = .ok (.aload_n 0, 1) := by decide +kernel
theorem dX7_leg_1 : decode cX7_leg 1 = .ok (.getfield 10, 3) := by decide +kernel
theorem dX7_leg_4 : decode cX7_leg 4 = .ok (.iload_n 1, 1) := by decide +kernel
theorem dX7_leg_5 : decode cX7_leg 5 = .ok (.invokevirtual 141, 3) := by decide +kernel
theorem dX7_leg_8 : decode cX7_leg 8 = .ok (.astore 4, 2) := by decide +kernel
theorem dX7_leg_10 : decode cX7_leg 10 = .ok (.aload 4, 2) := by decide +kernel
theorem dX7_leg_12 : decode cX7_leg 12 = .ok (.ifnull 12, 3) := by decide +kernel
theorem dX7_leg_15 : decode cX7_leg 15 = .ok (.aload 4, 2) := by decide +kernel
theorem dX7_leg_17 : decode cX7_leg 17 = .ok (.iload_n 2, 1) := by decide +kernel
theorem dX7_leg_18 : decode cX7_leg 18 = .ok (.invokevirtual 171, 3) := by decide +kernel
theorem dX7_leg_21 : decode cX7_leg 21 = .ok (.ifCond .ne 13, 3) := by decide +kernel
theorem dX7_leg_24 : decode cX7_leg 24 = .ok (.new 86, 3) := by decide +kernel
theorem dX7_leg_27 : decode cX7_leg 27 = .ok (.dup, 1) := by decide +kernel
theorem dX7_leg_28 : decode cX7_leg 28 = .ok (.ldc 174, 2) := by decide +kernel
theorem dX7_leg_30 : decode cX7_leg 30 = .ok (.invokespecial 90, 3) := by decide +kernel
theorem dX7_leg_33 : decode cX7_leg 33 = .ok (.athrow, 1) := by decide +kernel
theorem dX7_leg_34 : decode cX7_leg 34 = .ok (.iload_n 3, 1) := by decide +kernel
theorem dX7_leg_35 : decode cX7_leg 35 = .ok (.iconst 0, 1) := by decide +kernel
theorem dX7_leg_36 : decode cX7_leg 36 = .ok (.iconst 4, 1) := by decide +kernel
theorem dX7_leg_37 : decode cX7_leg 37 = .ok (.invokestatic 52, 3) := by decide +kernel
theorem dX7_leg_40 : decode cX7_leg 40 = .ok (.ifCond .ne 13, 3) := by decide +kernel
theorem dX7_leg_43 : decode cX7_leg 43 = .ok (.new 34, 3) := by decide +kernel
theorem dX7_leg_46 : decode cX7_leg 46 = .ok (.dup, 1) := by decide +kernel
theorem dX7_leg_47 : decode cX7_leg 47 = .ok (.ldc 176, 2) := by decide +kernel
theorem dX7_leg_49 : decode cX7_leg 49 = .ok (.invokespecial 38, 3) := by decide +kernel
theorem dX7_leg_52 : decode cX7_leg 52 = .ok (.athrow, 1) := by decide +kernel
theorem dX7_leg_53 : decode cX7_leg 53 = .ok (.aload 4, 2) := by decide +kernel
theorem dX7_leg_55 : decode cX7_leg 55 = .ok (.iload_n 2, 1) := by decide +kernel
theorem dX7_leg_56 : decode cX7_leg 56 = .ok (.iload_n 3, 1) := by decide +kernel
theorem dX7_leg_57 : decode cX7_leg 57 = .ok (.invokevirtual 178, 3) := by decide +kernel
theorem dX7_leg_60 : decode cX7_leg 60 = .ok (.ireturn, 1) := by decide +kernel
theorem dX7_trouble_0 : decode cX7_trouble 0 = .ok (.aload_n 0, 1) := by decide +kernel
theorem dX7_trouble_1 : decode cX7_trouble 1 = .ok (.getfield 10, 3) := by decide +kernel
theorem dX7_trouble_4 : decode cX7_trouble 4 = .ok (.iload_n 1, 1) := by decide +kernel
theorem dX7_trouble_5 : decode cX7_trouble 5 = .ok (.invokevirtual 141, 3) := by decide +kernel
theorem dX7_trouble_8 : decode cX7_trouble 8 = .ok (.astore_n 3, 1) := by decide +kernel
theorem dX7_trouble_9 : decode cX7_trouble 9 = .ok (.aload_n 3, 1) := by decide +kernel
theorem dX7_trouble_10 : decode cX7_trouble 10 = .ok (.ifnonnull 13, 3) := by decide +kernel
theorem dX7_trouble_13 : decode cX7_trouble 13 = .ok (.new 86, 3) := by decide +kernel
theorem dX7_trouble_16 : decode cX7_trouble 16 = .ok (.dup, 1) := by decide +kernel
theorem dX7_trouble_17 : decode cX7_trouble 17 = .ok (.ldc 166, 2) := by decide +kernel
theorem dX7_trouble_19 : decode cX7_trouble 19 = .ok (.invokespecial 90, 3) := by decide +kernel
theorem dX7_trouble_22 : decode cX7_trouble 22 = .ok (.athrow, 1) := by decide +kernel
theorem dX7_trouble_23 : decode cX7_trouble 23 = .ok (.aload_n 0, 1) := by decide +kernel
theorem dX7_trouble_24 : decode cX7_trouble 24 = .ok (.getfield 10, 3) := by decide +kernel
theorem dX7_trouble_27 : decode cX7_trouble 27 = .ok (.aload_n 3, 1) := by decide +kernel
theorem dX7_trouble_28 : decode cX7_trouble 28 = .ok (.iload_n 2, 1) := by decide +kernel
theorem dX7_trouble_29 : decode cX7_trouble 29 = .ok (.invokevirtual 181, 3) := by decide +kernel
theorem dX7_trouble_32 : decode cX7_trouble 32 = .ok (.ireturn, 1) := by decide +kernel
theorem dX7_apart_0 : decode cX7_apart 0 = .ok (.aload_n 0, 1) := by decide +kernel
theorem dX7_apart_1 : decode cX7_apart 1 = .ok (.getfield 10, 3) := by decide +kernel
theorem dX7_apart_4 : decode cX7_apart 4 = .ok (.iload_n 1, 1) := by decide +kernel
theorem dX7_apart_5 : decode cX7_apart 5 = .ok (.invokevirtual 141, 3) := by decide +kernel
theorem dX7_apart_8 : decode cX7_apart 8 = .ok (.astore_n 3, 1) := by decide +kernel
theorem dX7_apart_9 : decode cX7_apart 9 = .ok (.aload_n 0, 1) := by decide +kernel
theorem dX7_apart_10 : decode cX7_apart 10 = .ok (.getfield 10, 3) := by decide +kernel
theorem dX7_apart_13 : decode cX7_apart 13 = .ok (.iload_n 2, 1) := by decide +kernel
theorem dX7_apart_14 : decode cX7_apart 14 = .ok (.invokevirtual 141, 3) := by decide +kernel
theorem dX7_apart_17 : decode cX7_apart 17 = .ok (.astore 4, 2) := by decide +kernel
theorem dX7_apart_19 : decode cX7_apart 19 = .ok (.aload_n 3, 1) := by decide +kernel
theorem dX7_apart_20 : decode cX7_apart 20 = .ok (.ifnull 8, 3) := by decide +kernel
theorem dX7_apart_23 : decode cX7_apart 23 = .ok (.aload 4, 2) := by decide +kernel
theorem dX7_apart_25 : decode cX7_apart 25 = .ok (.ifnonnull 13, 3) := by decide +kernel
theorem dX7_apart_28 : decode cX7_apart 28 = .ok (.new 86, 3) := by decide +kernel
theorem dX7_apart_31 : decode cX7_apart 31 = .ok (.dup, 1) := by decide +kernel
theorem dX7_apart_32 : decode cX7_apart 32 = .ok (.ldc 166, 2) := by decide +kernel
theorem dX7_apart_34 : decode cX7_apart 34 = .ok (.invokespecial 90, 3) := by decide +kernel
theorem dX7_apart_37 : decode cX7_apart 37 = .ok (.athrow, 1) := by decide +kernel
theorem dX7_apart_38 : decode cX7_apart 38 = .ok (.aload_n 3, 1) := by decide +kernel
theorem dX7_apart_39 : decode cX7_apart 39 = .ok (.aload 4, 2) := by decide +kernel
theorem dX7_apart_41 : decode cX7_apart 41 = .ok (.invokevirtual 185, 3) := by decide +kernel
theorem dX7_apart_44 : decode cX7_apart 44 = .ok (.ireturn, 1) := by decide +kernel
theorem dX7_meets_0 : decode cX7_meets 0 = .ok (.aload_n 0, 1) := by decide +kernel
theorem dX7_meets_1 : decode cX7_meets 1 = .ok (.getfield 10, 3) := by decide +kernel
theorem dX7_meets_4 : decode cX7_meets 4 = .ok (.iload_n 1, 1) := by decide +kernel
theorem dX7_meets_5 : decode cX7_meets 5 = .ok (.invokevirtual 141, 3) := by decide +kernel
theorem dX7_meets_8 : decode cX7_meets 8 = .ok (.astore_n 3, 1) := by decide +kernel
theorem dX7_meets_9 : decode cX7_meets 9 = .ok (.aload_n 0, 1) := by decide +kernel
theorem dX7_meets_10 : decode cX7_meets 10 = .ok (.getfield 10, 3) := by decide +kernel
theorem dX7_meets_13 : decode cX7_meets 13 = .ok (.iload_n 2, 1) := by decide +kernel
theorem dX7_meets_14 : decode cX7_meets 14 = .ok (.invokevirtual 141, 3) := by decide +kernel
theorem dX7_meets_17 : decode cX7_meets 17 = .ok (.astore 4, 2) := by decide +kernel
theorem dX7_meets_19 : decode cX7_meets 19 = .ok (.aload_n 3, 1) := by decide +kernel
theorem dX7_meets_20 : decode cX7_meets 20 = .ok (.ifnull 8, 3) := by decide +kernel
theorem dX7_meets_23 : decode cX7_meets 23 = .ok (.aload 4, 2) := by decide +kernel
theorem dX7_meets_25 : decode cX7_meets 25 = .ok (.ifnonnull 13, 3) := by decide +kernel
theorem dX7_meets_28 : decode cX7_meets 28 = .ok (.new 86, 3) := by decide +kernel
theorem dX7_meets_31 : decode cX7_meets 31 = .ok (.dup, 1) := by decide +kernel
theorem dX7_meets_32 : decode cX7_meets 32 = .ok (.ldc 166, 2) := by decide +kernel
theorem dX7_meets_34 : decode cX7_meets 34 = .ok (.invokespecial 90, 3) := by decide +kernel
theorem dX7_meets_37 : decode cX7_meets 37 = .ok (.athrow, 1) := by decide +kernel
theorem dX7_meets_38 : decode cX7_meets 38 = .ok (.aload_n 3, 1) := by decide +kernel
theorem dX7_meets_39 : decode cX7_meets 39 = .ok (.aload 4, 2) := by decide +kernel
theorem dX7_meets_41 : decode cX7_meets 41 = .ok (.invokevirtual 185, 3) := by decide +kernel
theorem dX7_meets_44 : decode cX7_meets 44 = .ok (.istore 5, 2) := by decide +kernel
theorem dX7_meets_46 : decode cX7_meets 46 = .ok (.iload 5, 2) := by decide +kernel
theorem dX7_meets_48 : decode cX7_meets 48 = .ok (.ldc 189, 2) := by decide +kernel
theorem dX7_meets_50 : decode cX7_meets 50 = .ok (.if_icmp .eq 21, 3) := by decide +kernel
theorem dX7_meets_53 : decode cX7_meets 53 = .ok (.iload 5, 2) := by decide +kernel
theorem dX7_meets_55 : decode cX7_meets 55 = .ok (.aload_n 0, 1) := by decide +kernel
theorem dX7_meets_56 : decode cX7_meets 56 = .ok (.getfield 10, 3) := by decide +kernel
theorem dX7_meets_59 : decode cX7_meets 59 = .ok (.getfield 190, 3) := by decide +kernel
theorem dX7_meets_62 : decode cX7_meets 62 = .ok (.iconst 2, 1) := by decide +kernel
theorem dX7_meets_63 : decode cX7_meets 63 = .ok (.iaload, 1) := by decide +kernel
theorem dX7_meets_64 : decode cX7_meets 64 = .ok (.if_icmp .gt 7, 3) := by decide +kernel
theorem dX7_meets_67 : decode cX7_meets 67 = .ok (.iconst 1, 1) := by decide +kernel
theorem dX7_meets_68 : decode cX7_meets 68 = .ok (.goto 4, 3) := by decide +kernel
theorem dX7_meets_71 : decode cX7_meets 71 = .ok (.iconst 0, 1) := by decide +kernel
theorem dX7_meets_72 : decode cX7_meets 72 = .ok (.ireturn, 1) := by decide +kernel
theorem dX7_sine_0 : decode cX7_sine 0 = .ok (.iload_n 1, 1) := by decide +kernel
theorem dX7_sine_1 : decode cX7_sine 1 = .ok (.ldc 194, 2) := by decide +kernel
theorem dX7_sine_3 : decode cX7_sine 3 = .ok (.ldc 195, 2) := by decide +kernel
theorem dX7_sine_5 : decode cX7_sine 5 = .ok (.invokestatic 52, 3) := by decide +kernel
theorem dX7_sine_8 : decode cX7_sine 8 = .ok (.ifCond .ne 13, 3) := by decide +kernel
theorem dX7_sine_11 : decode cX7_sine 11 = .ok (.new 34, 3) := by decide +kernel
theorem dX7_sine_14 : decode cX7_sine 14 = .ok (.dup, 1) := by decide +kernel
theorem dX7_sine_15 : decode cX7_sine 15 = .ok (.ldc 196, 2) := by decide +kernel
theorem dX7_sine_17 : decode cX7_sine 17 = .ok (.invokespecial 38, 3) := by decide +kernel
theorem dX7_sine_20 : decode cX7_sine 20 = .ok (.athrow, 1) := by decide +kernel
theorem dX7_sine_21 : decode cX7_sine 21 = .ok (.iload_n 1, 1) := by decide +kernel
theorem dX7_sine_22 : decode cX7_sine 22 = .ok (.invokestatic 198, 3) := by decide +kernel
theorem dX7_sine_25 : decode cX7_sine 25 = .ok (.ireturn, 1) := by decide +kernel
theorem dX7_suspect_0 : decode cX7_suspect 0 = .ok (.aload_n 0, 1) := by decide +kernel
theorem dX7_suspect_1 : decode cX7_suspect 1 = .ok (.getfield 10, 3) := by decide +kernel
theorem dX7_suspect_4 : decode cX7_suspect 4 = .ok (.iload_n 1, 1) := by decide +kernel
theorem dX7_suspect_5 : decode cX7_suspect 5 = .ok (.invokevirtual 141, 3) := by decide +kernel
theorem dX7_suspect_8 : decode cX7_suspect 8 = .ok (.astore_n 2, 1) := by decide +kernel
theorem dX7_suspect_9 : decode cX7_suspect 9 = .ok (.aload_n 2, 1) := by decide +kernel
theorem dX7_suspect_10 : decode cX7_suspect 10 = .ok (.ifnonnull 13, 3) := by decide +kernel
theorem dX7_suspect_13 : decode cX7_suspect 13 = .ok (.new 86, 3) := by decide +kernel
theorem dX7_suspect_16 : decode cX7_suspect 16 = .ok (.dup, 1) := by decide +kernel
theorem dX7_suspect_17 : decode cX7_suspect 17 = .ok (.ldc 166, 2) := by decide +kernel
theorem dX7_suspect_19 : decode cX7_suspect 19 = .ok (.invokespecial 90, 3) := by decide +kernel
theorem dX7_suspect_22 : decode cX7_suspect 22 = .ok (.athrow, 1) := by decide +kernel
theorem dX7_suspect_23 : decode cX7_suspect 23 = .ok (.aload_n 2, 1) := by decide +kernel
theorem dX7_suspect_24 : decode cX7_suspect 24 = .ok (.invokevirtual 203, 3) := by decide +kernel
theorem dX7_suspect_27 : decode cX7_suspect 27 = .ok (.ireturn, 1) := by decide +kernel
theorem dX7_angleFor_0 : decode cX7_angleFor 0 = .ok (.aload_n 0, 1) := by decide +kernel
theorem dX7_angleFor_1 : decode cX7_angleFor 1 = .ok (.getfield 10, 3) := by decide +kernel
theorem dX7_angleFor_4 : decode cX7_angleFor 4 = .ok (.iload_n 1, 1) := by decide +kernel
theorem dX7_angleFor_5 : decode cX7_angleFor 5 = .ok (.invokevirtual 141, 3) := by decide +kernel
theorem dX7_angleFor_8 : decode cX7_angleFor 8 = .ok (.astore 4, 2) := by decide +kernel
theorem dX7_angleFor_10 : decode cX7_angleFor 10 = .ok (.aload_n 0, 1) := by decide +kernel
theorem dX7_angleFor_11 : decode cX7_angleFor 11 = .ok (.getfield 10, 3) := by decide +kernel
theorem dX7_angleFor_14 : decode cX7_angleFor 14 = .ok (.iload_n 2, 1) := by decide +kernel
theorem dX7_angleFor_15 : decode cX7_angleFor 15 = .ok (.invokevirtual 119, 3) := by decide +kernel
theorem dX7_angleFor_18 : decode cX7_angleFor 18 = .ok (.astore 5, 2) := by decide +kernel
theorem dX7_angleFor_20 : decode cX7_angleFor 20 = .ok (.aload 4, 2) := by decide +kernel
theorem dX7_angleFor_22 : decode cX7_angleFor 22 = .ok (.ifnull 8, 3) := by decide +kernel
theorem dX7_angleFor_25 : decode cX7_angleFor 25 = .ok (.aload 5, 2) := by decide +kernel
theorem dX7_angleFor_27 : decode cX7_angleFor 27 = .ok (.ifnonnull 13, 3) := by decide +kernel
theorem dX7_angleFor_30 : decode cX7_angleFor 30 = .ok (.new 86, 3) := by decide +kernel
theorem dX7_angleFor_33 : decode cX7_angleFor 33 = .ok (.dup, 1) := by decide +kernel
theorem dX7_angleFor_34 : decode cX7_angleFor 34 = .ok (.ldc 145, 2) := by decide +kernel
theorem dX7_angleFor_36 : decode cX7_angleFor 36 = .ok (.invokespecial 90, 3) := by decide +kernel
theorem dX7_angleFor_39 : decode cX7_angleFor 39 = .ok (.athrow, 1) := by decide +kernel
theorem dX7_angleFor_40 : decode cX7_angleFor 40 = .ok (.iload_n 3, 1) := by decide +kernel
theorem dX7_angleFor_41 : decode cX7_angleFor 41 = .ok (.iconst 0, 1) := by decide +kernel
theorem dX7_angleFor_42 : decode cX7_angleFor 42 = .ok (.sipush 3600, 3) := by decide +kernel
theorem dX7_angleFor_45 : decode cX7_angleFor 45 = .ok (.invokestatic 52, 3) := by decide +kernel
theorem dX7_angleFor_48 : decode cX7_angleFor 48 = .ok (.ifCond .ne 13, 3) := by decide +kernel
theorem dX7_angleFor_51 : decode cX7_angleFor 51 = .ok (.new 34, 3) := by decide +kernel
theorem dX7_angleFor_54 : decode cX7_angleFor 54 = .ok (.dup, 1) := by decide +kernel
theorem dX7_angleFor_55 : decode cX7_angleFor 55 = .ok (.ldc 206, 2) := by decide +kernel
theorem dX7_angleFor_57 : decode cX7_angleFor 57 = .ok (.invokespecial 38, 3) := by decide +kernel
theorem dX7_angleFor_60 : decode cX7_angleFor 60 = .ok (.athrow, 1) := by decide +kernel
theorem dX7_angleFor_61 : decode cX7_angleFor 61 = .ok (.aload 4, 2) := by decide +kernel
theorem dX7_angleFor_63 : decode cX7_angleFor 63 = .ok (.iload_n 2, 1) := by decide +kernel
theorem dX7_angleFor_64 : decode cX7_angleFor 64 = .ok (.aload 5, 2) := by decide +kernel
theorem dX7_angleFor_66 : decode cX7_angleFor 66 = .ok (.iload_n 3, 1) := by decide +kernel
theorem dX7_angleFor_67 : decode cX7_angleFor 67 = .ok (.invokevirtual 208, 3) := by decide +kernel
theorem dX7_angleFor_70 : decode cX7_angleFor 70 = .ok (.ireturn, 1) := by decide +kernel
theorem dX7_reachBy_0 : decode cX7_reachBy 0 = .ok (.aload_n 0, 1) := by decide +kernel
theorem dX7_reachBy_1 : decode cX7_reachBy 1 = .ok (.getfield 10, 3) := by decide +kernel
theorem dX7_reachBy_4 : decode cX7_reachBy 4 = .ok (.iload_n 1, 1) := by decide +kernel
theorem dX7_reachBy_5 : decode cX7_reachBy 5 = .ok (.invokevirtual 141, 3) := by decide +kernel
theorem dX7_reachBy_8 : decode cX7_reachBy 8 = .ok (.astore 5, 2) := by decide +kernel
theorem dX7_reachBy_10 : decode cX7_reachBy 10 = .ok (.aload_n 0, 1) := by decide +kernel
theorem dX7_reachBy_11 : decode cX7_reachBy 11 = .ok (.getfield 10, 3) := by decide +kernel
theorem dX7_reachBy_14 : decode cX7_reachBy 14 = .ok (.iload_n 2, 1) := by decide +kernel
theorem dX7_reachBy_15 : decode cX7_reachBy 15 = .ok (.invokevirtual 141, 3) := by decide +kernel
theorem dX7_reachBy_18 : decode cX7_reachBy 18 = .ok (.astore 6, 2) := by decide +kernel
theorem dX7_reachBy_20 : decode cX7_reachBy 20 = .ok (.aload 5, 2) := by decide +kernel
theorem dX7_reachBy_22 : decode cX7_reachBy 22 = .ok (.ifnull 8, 3) := by decide +kernel
theorem dX7_reachBy_25 : decode cX7_reachBy 25 = .ok (.aload 6, 2) := by decide +kernel
theorem dX7_reachBy_27 : decode cX7_reachBy 27 = .ok (.ifnonnull 13, 3) := by decide +kernel
theorem dX7_reachBy_30 : decode cX7_reachBy 30 = .ok (.new 86, 3) := by decide +kernel
theorem dX7_reachBy_33 : decode cX7_reachBy 33 = .ok (.dup, 1) := by decide +kernel
theorem dX7_reachBy_34 : decode cX7_reachBy 34 = .ok (.ldc 166, 2) := by decide +kernel
theorem dX7_reachBy_36 : decode cX7_reachBy 36 = .ok (.invokespecial 90, 3) := by decide +kernel
theorem dX7_reachBy_39 : decode cX7_reachBy 39 = .ok (.athrow, 1) := by decide +kernel
theorem dX7_reachBy_40 : decode cX7_reachBy 40 = .ok (.iload_n 3, 1) := by decide +kernel
theorem dX7_reachBy_41 : decode cX7_reachBy 41 = .ok (.invokestatic 100, 3) := by decide +kernel
theorem dX7_reachBy_44 : decode cX7_reachBy 44 = .ok (.ifCond .eq 15, 3) := by decide +kernel
theorem dX7_reachBy_47 : decode cX7_reachBy 47 = .ok (.iload 4, 2) := by decide +kernel
theorem dX7_reachBy_49 : decode cX7_reachBy 49 = .ok (.iconst 1, 1) := by decide +kernel
theorem dX7_reachBy_50 : decode cX7_reachBy 50 = .ok (.sipush 2000, 3) := by decide +kernel
theorem dX7_reachBy_53 : decode cX7_reachBy 53 = .ok (.invokestatic 52, 3) := by decide +kernel
theorem dX7_reachBy_56 : decode cX7_reachBy 56 = .ok (.ifCond .ne 13, 3) := by decide +kernel
theorem dX7_reachBy_59 : decode cX7_reachBy 59 = .ok (.new 34, 3) := by decide +kernel
theorem dX7_reachBy_62 : decode cX7_reachBy 62 = .ok (.dup, 1) := by decide +kernel
theorem dX7_reachBy_63 : decode cX7_reachBy 63 = .ok (.ldc 212, 2) := by decide +kernel
theorem dX7_reachBy_65 : decode cX7_reachBy 65 = .ok (.invokespecial 38, 3) := by decide +kernel
theorem dX7_reachBy_68 : decode cX7_reachBy 68 = .ok (.athrow, 1) := by decide +kernel
theorem dX7_reachBy_69 : decode cX7_reachBy 69 = .ok (.aload 5, 2) := by decide +kernel
theorem dX7_reachBy_71 : decode cX7_reachBy 71 = .ok (.aload 6, 2) := by decide +kernel
theorem dX7_reachBy_73 : decode cX7_reachBy 73 = .ok (.iload_n 3, 1) := by decide +kernel
theorem dX7_reachBy_74 : decode cX7_reachBy 74 = .ok (.iload 4, 2) := by decide +kernel
theorem dX7_reachBy_76 : decode cX7_reachBy 76 = .ok (.invokevirtual 214, 3) := by decide +kernel
theorem dX7_reachBy_79 : decode cX7_reachBy 79 = .ok (.ireturn, 1) := by decide +kernel
theorem dX7_type_0 : decode cX7_type 0 = .ok (.iload_n 1, 1) := by decide +kernel
theorem dX7_type_1 : decode cX7_type 1 = .ok (.bipush 32, 2) := by decide +kernel
theorem dX7_type_3 : decode cX7_type 3 = .ok (.bipush 126, 2) := by decide +kernel
theorem dX7_type_5 : decode cX7_type 5 = .ok (.invokestatic 52, 3) := by decide +kernel
theorem dX7_type_8 : decode cX7_type 8 = .ok (.ifCond .ne 13, 3) := by decide +kernel
theorem dX7_type_11 : decode cX7_type 11 = .ok (.new 34, 3) := by decide +kernel
theorem dX7_type_14 : decode cX7_type 14 = .ok (.dup, 1) := by decide +kernel
theorem dX7_type_15 : decode cX7_type 15 = .ok (.ldc 218, 2) := by decide +kernel
theorem dX7_type_17 : decode cX7_type 17 = .ok (.invokespecial 38, 3) := by decide +kernel
theorem dX7_type_20 : decode cX7_type 20 = .ok (.athrow, 1) := by decide +kernel
theorem dX7_type_21 : decode cX7_type 21 = .ok (.aload_n 0, 1) := by decide +kernel
theorem dX7_type_22 : decode cX7_type 22 = .ok (.getfield 26, 3) := by decide +kernel
theorem dX7_type_25 : decode cX7_type 25 = .ok (.getfield 220, 3) := by decide +kernel
theorem dX7_type_28 : decode cX7_type 28 = .ok (.bipush 90, 2) := by decide +kernel
theorem dX7_type_30 : decode cX7_type 30 = .ok (.if_icmp .lt 13, 3) := by decide +kernel
theorem dX7_type_33 : decode cX7_type 33 = .ok (.new 70, 3) := by decide +kernel
theorem dX7_type_36 : decode cX7_type 36 = .ok (.dup, 1) := by decide +kernel
theorem dX7_type_37 : decode cX7_type 37 = .ok (.ldc 223, 2) := by decide +kernel
theorem dX7_type_39 : decode cX7_type 39 = .ok (.invokespecial 74, 3) := by decide +kernel
theorem dX7_type_42 : decode cX7_type 42 = .ok (.athrow, 1) := by decide +kernel
theorem dX7_type_43 : decode cX7_type 43 = .ok (.aload_n 0, 1) := by decide +kernel
theorem dX7_type_44 : decode cX7_type 44 = .ok (.getfield 26, 3) := by decide +kernel
theorem dX7_type_47 : decode cX7_type 47 = .ok (.iload_n 1, 1) := by decide +kernel
theorem dX7_type_48 : decode cX7_type 48 = .ok (.i2c, 1) := by decide +kernel
theorem dX7_type_49 : decode cX7_type 49 = .ok (.invokevirtual 225, 3) := by decide +kernel
theorem dX7_type_52 : decode cX7_type 52 = .ok (.ireturn, 1) := by decide +kernel
theorem dX7_clearText_0 : decode cX7_clearText 0 = .ok (.aload_n 0, 1) := by decide +kernel
theorem dX7_clearText_1 : decode cX7_clearText 1 = .ok (.getfield 26, 3) := by decide +kernel
theorem dX7_clearText_4 : decode cX7_clearText 4 = .ok (.invokevirtual 229, 3) := by decide +kernel
theorem dX7_clearText_7 : decode cX7_clearText 7 = .ok (.ireturn, 1) := by decide +kernel
theorem dX7_fault_0 : decode cX7_fault 0 = .ok (.aload_n 0, 1) := by decide +kernel
theorem dX7_fault_1 : decode cX7_fault 1 = .ok (.getfield 26, 3) := by decide +kernel
theorem dX7_fault_4 : decode cX7_fault 4 = .ok (.invokevirtual 232, 3) := by decide +kernel
theorem dX7_fault_7 : decode cX7_fault 7 = .ok (.ireturn, 1) := by decide +kernel
theorem dX7_run_0 : decode cX7_run 0 = .ok (.aload_n 0, 1) := by decide +kernel
theorem dX7_run_1 : decode cX7_run 1 = .ok (.getfield 26, 3) := by decide +kernel
theorem dX7_run_4 : decode cX7_run 4 = .ok (.invokevirtual 232, 3) := by decide +kernel
theorem dX7_run_7 : decode cX7_run 7 = .ok (.ldc 189, 2) := by decide +kernel
theorem dX7_run_9 : decode cX7_run 9 = .ok (.if_icmp .eq 13, 3) := by decide +kernel
theorem dX7_run_12 : decode cX7_run 12 = .ok (.new 34, 3) := by decide +kernel
theorem dX7_run_15 : decode cX7_run 15 = .ok (.dup, 1) := by decide +kernel
theorem dX7_run_16 : decode cX7_run 16 = .ok (.ldc 235, 2) := by decide +kernel
theorem dX7_run_18 : decode cX7_run 18 = .ok (.invokespecial 38, 3) := by decide +kernel
theorem dX7_run_21 : decode cX7_run 21 = .ok (.athrow, 1) := by decide +kernel
theorem dX7_run_22 : decode cX7_run 22 = .ok (.aload_n 0, 1) := by decide +kernel
theorem dX7_run_23 : decode cX7_run 23 = .ok (.getfield 19, 3) := by decide +kernel
theorem dX7_run_26 : decode cX7_run 26 = .ok (.aload_n 0, 1) := by decide +kernel
theorem dX7_run_27 : decode cX7_run 27 = .ok (.getfield 10, 3) := by decide +kernel
theorem dX7_run_30 : decode cX7_run 30 = .ok (.invokevirtual 41, 3) := by decide +kernel
theorem dX7_run_33 : decode cX7_run 33 = .ok (.iconst 0, 1) := by decide +kernel
theorem dX7_run_34 : decode cX7_run 34 = .ok (.istore_n 1, 1) := by decide +kernel
theorem dX7_run_35 : decode cX7_run 35 = .ok (.iconst 0, 1) := by decide +kernel
theorem dX7_run_36 : decode cX7_run 36 = .ok (.istore_n 2, 1) := by decide +kernel
theorem dX7_run_37 : decode cX7_run 37 = .ok (.iload_n 2, 1) := by decide +kernel
theorem dX7_run_38 : decode cX7_run 38 = .ok (.aload_n 0, 1) := by decide +kernel
theorem dX7_run_39 : decode cX7_run 39 = .ok (.getfield 26, 3) := by decide +kernel
theorem dX7_run_42 : decode cX7_run 42 = .ok (.getfield 220, 3) := by decide +kernel
theorem dX7_run_45 : decode cX7_run 45 = .ok (.if_icmp .ge 44, 3) := by decide +kernel
theorem dX7_run_48 : decode cX7_run 48 = .ok (.aload_n 0, 1) := by decide +kernel
theorem dX7_run_49 : decode cX7_run 49 = .ok (.getfield 26, 3) := by decide +kernel
theorem dX7_run_52 : decode cX7_run 52 = .ok (.iload_n 2, 1) := by decide +kernel
theorem dX7_run_53 : decode cX7_run 53 = .ok (.invokevirtual 237, 3) := by decide +kernel
theorem dX7_run_56 : decode cX7_run 56 = .ok (.ifCond .eq 27, 3) := by decide +kernel
theorem dX7_run_59 : decode cX7_run 59 = .ok (.aload_n 0, 1) := by decide +kernel
theorem dX7_run_60 : decode cX7_run 60 = .ok (.aload_n 0, 1) := by decide +kernel
theorem dX7_run_61 : decode cX7_run 61 = .ok (.getfield 26, 3) := by decide +kernel
theorem dX7_run_64 : decode cX7_run 64 = .ok (.getfield 240, 3) := by decide +kernel
theorem dX7_run_67 : decode cX7_run 67 = .ok (.aload_n 0, 1) := by decide +kernel
theorem dX7_run_68 : decode cX7_run 68 = .ok (.getfield 26, 3) := by decide +kernel
theorem dX7_run_71 : decode cX7_run 71 = .ok (.getfield 244, 3) := by decide +kernel
theorem dX7_run_74 : decode cX7_run 74 = .ok (.invokevirtual 247, 3) := by decide +kernel
theorem dX7_run_77 : decode cX7_run 77 = .ok (.ifCond .eq 6, 3) := by decide +kernel
theorem dX7_run_80 : decode cX7_run 80 = .ok (.iinc 1 1, 3) := by decide +kernel
theorem dX7_run_83 : decode cX7_run 83 = .ok (.iinc 2 1, 3) := by decide +kernel
theorem dX7_run_86 : decode cX7_run 86 = .ok (.goto (-49), 3) := by decide +kernel
theorem dX7_run_89 : decode cX7_run 89 = .ok (.iload_n 1, 1) := by decide +kernel
theorem dX7_run_90 : decode cX7_run 90 = .ok (.ireturn, 1) := by decide +kernel
theorem dX7_undo_0 : decode cX7_undo 0 = .ok (.aload_n 0, 1) := by decide +kernel
theorem dX7_undo_1 : decode cX7_undo 1 = .ok (.getfield 19, 3) := by decide +kernel
theorem dX7_undo_4 : decode cX7_undo 4 = .ok (.getfield 251, 3) := by decide +kernel
theorem dX7_undo_7 : decode cX7_undo 7 = .ok (.ifCond .ne 13, 3) := by decide +kernel
theorem dX7_undo_10 : decode cX7_undo 10 = .ok (.new 70, 3) := by decide +kernel
theorem dX7_undo_13 : decode cX7_undo 13 = .ok (.dup, 1) := by decide +kernel
theorem dX7_undo_14 : decode cX7_undo 14 = .ok (.ldc 254, 2) := by decide +kernel
theorem dX7_undo_16 : decode cX7_undo 16 = .ok (.invokespecial 74, 3) := by decide +kernel
theorem dX7_undo_19 : decode cX7_undo 19 = .ok (.athrow, 1) := by decide +kernel
theorem dX7_undo_20 : decode cX7_undo 20 = .ok (.aload_n 0, 1) := by decide +kernel
theorem dX7_undo_21 : decode cX7_undo 21 = .ok (.getfield 19, 3) := by decide +kernel
theorem dX7_undo_24 : decode cX7_undo 24 = .ok (.aload_n 0, 1) := by decide +kernel
theorem dX7_undo_25 : decode cX7_undo 25 = .ok (.getfield 10, 3) := by decide +kernel
theorem dX7_undo_28 : decode cX7_undo 28 = .ok (.invokevirtual 256, 3) := by decide +kernel
theorem dX7_undo_31 : decode cX7_undo 31 = .ok (.istore_n 1, 1) := by decide +kernel
theorem dX7_undo_32 : decode cX7_undo 32 = .ok (.aload_n 0, 1) := by decide +kernel
theorem dX7_undo_33 : decode cX7_undo 33 = .ok (.getfield 10, 3) := by decide +kernel
theorem dX7_undo_36 : decode cX7_undo 36 = .ok (.invokevirtual 49, 3) := by decide +kernel
theorem dX7_undo_39 : decode cX7_undo 39 = .ok (.iload_n 1, 1) := by decide +kernel
theorem dX7_undo_40 : decode cX7_undo 40 = .ok (.ireturn, 1) := by decide +kernel
theorem dX7_checksum_0 : decode cX7_checksum 0 = .ok (.ldc2_w 260, 3) := by decide +kernel
theorem dX7_checksum_3 : decode cX7_checksum 3 = .ok (.lstore_n 1, 1) := by decide +kernel
theorem dX7_checksum_4 : decode cX7_checksum 4 = .ok (.iconst 0, 1) := by decide +kernel
theorem dX7_checksum_5 : decode cX7_checksum 5 = .ok (.istore_n 3, 1) := by decide +kernel
theorem dX7_checksum_6 : decode cX7_checksum 6 = .ok (.iload_n 3, 1) := by decide +kernel
theorem dX7_checksum_7 : decode cX7_checksum 7 = .ok (.bipush 7, 2) := by decide +kernel
theorem dX7_checksum_9 : decode cX7_checksum 9 = .ok (.if_icmp .gt 25, 3) := by decide +kernel
theorem dX7_checksum_12 : decode cX7_checksum 12 = .ok (.ldc2_w 262, 3) := by decide +kernel
theorem dX7_checksum_15 : decode cX7_checksum 15 = .ok (.lload_n 1, 1) := by decide +kernel
theorem dX7_checksum_16 : decode cX7_checksum 16 = .ok (.lmul, 1) := by decide +kernel
theorem dX7_checksum_17 : decode cX7_checksum 17 = .ok (.aload_n 0, 1) := by decide +kernel
theorem dX7_checksum_18 : decode cX7_checksum 18 = .ok (.getfield 10, 3) := by decide +kernel
theorem dX7_checksum_21 : decode cX7_checksum 21 = .ok (.iload_n 3, 1) := by decide +kernel
theorem dX7_checksum_22 : decode cX7_checksum 22 = .ok (.invokevirtual 58, 3) := by decide +kernel
theorem dX7_checksum_25 : decode cX7_checksum 25 = .ok (.i2l, 1) := by decide +kernel
theorem dX7_checksum_26 : decode cX7_checksum 26 = .ok (.ladd, 1) := by decide +kernel
theorem dX7_checksum_27 : decode cX7_checksum 27 = .ok (.lstore_n 1, 1) := by decide +kernel
theorem dX7_checksum_28 : decode cX7_checksum 28 = .ok (.iinc 3 1, 3) := by decide +kernel
theorem dX7_checksum_31 : decode cX7_checksum 31 = .ok (.goto (-25), 3) := by decide +kernel
theorem dX7_checksum_34 : decode cX7_checksum 34 = .ok (.aload_n 0, 1) := by decide +kernel
theorem dX7_checksum_35 : decode cX7_checksum 35 = .ok (.lload_n 1, 1) := by decide +kernel
theorem dX7_checksum_36 : decode cX7_checksum 36 = .ok (.invokevirtual 264, 3) := by decide +kernel
theorem dX7_checksum_39 : decode cX7_checksum 39 = .ok (.lstore_n 1, 1) := by decide +kernel
theorem dX7_checksum_40 : decode cX7_checksum 40 = .ok (.aload_n 0, 1) := by decide +kernel
theorem dX7_checksum_41 : decode cX7_checksum 41 = .ok (.lload_n 1, 1) := by decide +kernel
theorem dX7_checksum_42 : decode cX7_checksum 42 = .ok (.invokevirtual 268, 3) := by decide +kernel
theorem dX7_checksum_45 : decode cX7_checksum 45 = .ok (.lstore_n 1, 1) := by decide +kernel
theorem dX7_checksum_46 : decode cX7_checksum 46 = .ok (.iconst 0, 1) := by decide +kernel
theorem dX7_checksum_47 : decode cX7_checksum 47 = .ok (.istore_n 3, 1) := by decide +kernel
theorem dX7_checksum_48 : decode cX7_checksum 48 = .ok (.iload_n 3, 1) := by decide +kernel
theorem dX7_checksum_49 : decode cX7_checksum 49 = .ok (.aload_n 0, 1) := by decide +kernel
theorem dX7_checksum_50 : decode cX7_checksum 50 = .ok (.getfield 10, 3) := by decide +kernel
theorem dX7_checksum_53 : decode cX7_checksum 53 = .ok (.getfield 133, 3) := by decide +kernel
theorem dX7_checksum_56 : decode cX7_checksum 56 = .ok (.if_icmp .ge 23, 3) := by decide +kernel
theorem dX7_checksum_59 : decode cX7_checksum 59 = .ok (.aload_n 0, 1) := by decide +kernel
theorem dX7_checksum_60 : decode cX7_checksum 60 = .ok (.lload_n 1, 1) := by decide +kernel
theorem dX7_checksum_61 : decode cX7_checksum 61 = .ok (.aload_n 0, 1) := by decide +kernel
theorem dX7_checksum_62 : decode cX7_checksum 62 = .ok (.getfield 10, 3) := by decide +kernel
theorem dX7_checksum_65 : decode cX7_checksum 65 = .ok (.iload_n 3, 1) := by decide +kernel
theorem dX7_checksum_66 : decode cX7_checksum 66 = .ok (.invokevirtual 141, 3) := by decide +kernel
theorem dX7_checksum_69 : decode cX7_checksum 69 = .ok (.invokevirtual 271, 3) := by decide +kernel
theorem dX7_checksum_72 : decode cX7_checksum 72 = .ok (.lstore_n 1, 1) := by decide +kernel
theorem dX7_checksum_73 : decode cX7_checksum 73 = .ok (.iinc 3 1, 3) := by decide +kernel
theorem dX7_checksum_76 : decode cX7_checksum 76 = .ok (.goto (-28), 3) := by decide +kernel
theorem dX7_checksum_79 : decode cX7_checksum 79 = .ok (.ldc2_w 262, 3) := by decide +kernel
theorem dX7_checksum_82 : decode cX7_checksum 82 = .ok (.lload_n 1, 1) := by decide +kernel
theorem dX7_checksum_83 : decode cX7_checksum 83 = .ok (.lmul, 1) := by decide +kernel
theorem dX7_checksum_84 : decode cX7_checksum 84 = .ok (.aload_n 0, 1) := by decide +kernel
theorem dX7_checksum_85 : decode cX7_checksum 85 = .ok (.getfield 26, 3) := by decide +kernel
theorem dX7_checksum_88 : decode cX7_checksum 88 = .ok (.getfield 220, 3) := by decide +kernel
theorem dX7_checksum_91 : decode cX7_checksum 91 = .ok (.i2l, 1) := by decide +kernel
theorem dX7_checksum_92 : decode cX7_checksum 92 = .ok (.ladd, 1) := by decide +kernel
theorem dX7_checksum_93 : decode cX7_checksum 93 = .ok (.lstore_n 1, 1) := by decide +kernel
theorem dX7_checksum_94 : decode cX7_checksum 94 = .ok (.ldc2_w 262, 3) := by decide +kernel
theorem dX7_checksum_97 : decode cX7_checksum 97 = .ok (.lload_n 1, 1) := by decide +kernel
theorem dX7_checksum_98 : decode cX7_checksum 98 = .ok (.lmul, 1) := by decide +kernel
theorem dX7_checksum_99 : decode cX7_checksum 99 = .ok (.aload_n 0, 1) := by decide +kernel
theorem dX7_checksum_100 : decode cX7_checksum 100 = .ok (.getfield 19, 3) := by decide +kernel
theorem dX7_checksum_103 : decode cX7_checksum 103 = .ok (.getfield 251, 3) := by decide +kernel
theorem dX7_checksum_106 : decode cX7_checksum 106 = .ok (.i2l, 1) := by decide +kernel
theorem dX7_checksum_107 : decode cX7_checksum 107 = .ok (.ladd, 1) := by decide +kernel
theorem dX7_checksum_108 : decode cX7_checksum 108 = .ok (.lreturn, 1) := by decide +kernel
theorem dX7_checkWires_0 : decode cX7_checkWires 0 = .ok (.lload_n 1, 1) := by decide +kernel
theorem dX7_checkWires_1 : decode cX7_checkWires 1 = .ok (.lstore_n 3, 1) := by decide +kernel
theorem dX7_checkWires_2 : decode cX7_checkWires 2 = .ok (.iconst 0, 1) := by decide +kernel
theorem dX7_checkWires_3 : decode cX7_checkWires 3 = .ok (.istore 5, 2) := by decide +kernel
theorem dX7_checkWires_5 : decode cX7_checkWires 5 = .ok (.iload 5, 2) := by decide +kernel
theorem dX7_checkWires_7 : decode cX7_checkWires 7 = .ok (.aload_n 0, 1) := by decide +kernel
theorem dX7_checkWires_8 : decode cX7_checkWires 8 = .ok (.getfield 10, 3) := by decide +kernel
theorem dX7_checkWires_11 : decode cX7_checkWires 11 = .ok (.getfield 66, 3) := by decide +kernel
theorem dX7_checkWires_14 : decode cX7_checkWires 14 = .ok (.if_icmp .ge 55, 3) := by decide +kernel
theorem dX7_checkWires_17 : decode cX7_checkWires 17 = .ok (.aload_n 0, 1) := by decide +kernel
theorem dX7_checkWires_18 : decode cX7_checkWires 18 = .ok (.getfield 10, 3) := by decide +kernel
theorem dX7_checkWires_21 : decode cX7_checkWires 21 = .ok (.iload 5, 2) := by decide +kernel
theorem dX7_checkWires_23 : decode cX7_checkWires 23 = .ok (.invokevirtual 82, 3) := by decide +kernel
theorem dX7_checkWires_26 : decode cX7_checkWires 26 = .ok (.astore 6, 2) := by decide +kernel
theorem dX7_checkWires_28 : decode cX7_checkWires 28 = .ok (.iconst 0, 1) := by decide +kernel
theorem dX7_checkWires_29 : decode cX7_checkWires 29 = .ok (.istore 7, 2) := by decide +kernel
theorem dX7_checkWires_31 : decode cX7_checkWires 31 = .ok (.iload 7, 2) := by decide +kernel
theorem dX7_checkWires_33 : decode cX7_checkWires 33 = .ok (.iconst 5, 1) := by decide +kernel
theorem dX7_checkWires_34 : decode cX7_checkWires 34 = .ok (.if_icmp .gt 29, 3) := by decide +kernel
theorem dX7_checkWires_37 : decode cX7_checkWires 37 = .ok (.aload 6, 2) := by decide +kernel
theorem dX7_checkWires_39 : decode cX7_checkWires 39 = .ok (.ifnull 24, 3) := by decide +kernel
theorem dX7_checkWires_42 : decode cX7_checkWires 42 = .ok (.ldc2_w 262, 3) := by decide +kernel
theorem dX7_checkWires_45 : decode cX7_checkWires 45 = .ok (.lload_n 3, 1) := by decide +kernel
theorem dX7_checkWires_46 : decode cX7_checkWires 46 = .ok (.lmul, 1) := by decide +kernel
theorem dX7_checkWires_47 : decode cX7_checkWires 47 = .ok (.aload 6, 2) := by decide +kernel
theorem dX7_checkWires_49 : decode cX7_checkWires 49 = .ok (.iload 7, 2) := by decide +kernel
theorem dX7_checkWires_51 : decode cX7_checkWires 51 = .ok (.invokevirtual 99, 3) := by decide +kernel
theorem dX7_checkWires_54 : decode cX7_checkWires 54 = .ok (.i2l, 1) := by decide +kernel
theorem dX7_checkWires_55 : decode cX7_checkWires 55 = .ok (.ladd, 1) := by decide +kernel
theorem dX7_checkWires_56 : decode cX7_checkWires 56 = .ok (.lstore_n 3, 1) := by decide +kernel
theorem dX7_checkWires_57 : decode cX7_checkWires 57 = .ok (.iinc 7 1, 3) := by decide +kernel
theorem dX7_checkWires_60 : decode cX7_checkWires 60 = .ok (.goto (-29), 3) := by decide +kernel
theorem dX7_checkWires_63 : decode cX7_checkWires 63 = .ok (.iinc 5 1, 3) := by decide +kernel
theorem dX7_checkWires_66 : decode cX7_checkWires 66 = .ok (.goto (-61), 3) := by decide +kernel
theorem dX7_checkWires_69 : decode cX7_checkWires 69 = .ok (.lload_n 3, 1) := by decide +kernel
theorem dX7_checkWires_70 : decode cX7_checkWires 70 = .ok (.lreturn, 1) := by decide +kernel
theorem dX7_checkJoins_0 : decode cX7_checkJoins 0 = .ok (.lload_n 1, 1) := by decide +kernel
theorem dX7_checkJoins_1 : decode cX7_checkJoins 1 = .ok (.lstore_n 3, 1) := by decide +kernel
theorem dX7_checkJoins_2 : decode cX7_checkJoins 2 = .ok (.iconst 0, 1) := by decide +kernel
theorem dX7_checkJoins_3 : decode cX7_checkJoins 3 = .ok (.istore 5, 2) := by decide +kernel
theorem dX7_checkJoins_5 : decode cX7_checkJoins 5 = .ok (.iload 5, 2) := by decide +kernel
theorem dX7_checkJoins_7 : decode cX7_checkJoins 7 = .ok (.aload_n 0, 1) := by decide +kernel
theorem dX7_checkJoins_8 : decode cX7_checkJoins 8 = .ok (.getfield 10, 3) := by decide +kernel
theorem dX7_checkJoins_11 : decode cX7_checkJoins 11 = .ok (.getfield 110, 3) := by decide +kernel
theorem dX7_checkJoins_14 : decode cX7_checkJoins 14 = .ok (.if_icmp .ge 56, 3) := by decide +kernel
theorem dX7_checkJoins_17 : decode cX7_checkJoins 17 = .ok (.aload_n 0, 1) := by decide +kernel
theorem dX7_checkJoins_18 : decode cX7_checkJoins 18 = .ok (.getfield 10, 3) := by decide +kernel
theorem dX7_checkJoins_21 : decode cX7_checkJoins 21 = .ok (.iload 5, 2) := by decide +kernel
theorem dX7_checkJoins_23 : decode cX7_checkJoins 23 = .ok (.invokevirtual 119, 3) := by decide +kernel
theorem dX7_checkJoins_26 : decode cX7_checkJoins 26 = .ok (.astore 6, 2) := by decide +kernel
theorem dX7_checkJoins_28 : decode cX7_checkJoins 28 = .ok (.iconst 0, 1) := by decide +kernel
theorem dX7_checkJoins_29 : decode cX7_checkJoins 29 = .ok (.istore 7, 2) := by decide +kernel
theorem dX7_checkJoins_31 : decode cX7_checkJoins 31 = .ok (.iload 7, 2) := by decide +kernel
theorem dX7_checkJoins_33 : decode cX7_checkJoins 33 = .ok (.bipush 7, 2) := by decide +kernel
theorem dX7_checkJoins_35 : decode cX7_checkJoins 35 = .ok (.if_icmp .gt 29, 3) := by decide +kernel
theorem dX7_checkJoins_38 : decode cX7_checkJoins 38 = .ok (.aload 6, 2) := by decide +kernel
theorem dX7_checkJoins_40 : decode cX7_checkJoins 40 = .ok (.ifnull 24, 3) := by decide +kernel
theorem dX7_checkJoins_43 : decode cX7_checkJoins 43 = .ok (.ldc2_w 262, 3) := by decide +kernel
theorem dX7_checkJoins_46 : decode cX7_checkJoins 46 = .ok (.lload_n 3, 1) := by decide +kernel
theorem dX7_checkJoins_47 : decode cX7_checkJoins 47 = .ok (.lmul, 1) := by decide +kernel
theorem dX7_checkJoins_48 : decode cX7_checkJoins 48 = .ok (.aload 6, 2) := by decide +kernel
theorem dX7_checkJoins_50 : decode cX7_checkJoins 50 = .ok (.iload 7, 2) := by decide +kernel
theorem dX7_checkJoins_52 : decode cX7_checkJoins 52 = .ok (.invokevirtual 132, 3) := by decide +kernel
theorem dX7_checkJoins_55 : decode cX7_checkJoins 55 = .ok (.i2l, 1) := by decide +kernel
theorem dX7_checkJoins_56 : decode cX7_checkJoins 56 = .ok (.ladd, 1) := by decide +kernel
theorem dX7_checkJoins_57 : decode cX7_checkJoins 57 = .ok (.lstore_n 3, 1) := by decide +kernel
theorem dX7_checkJoins_58 : decode cX7_checkJoins 58 = .ok (.iinc 7 1, 3) := by decide +kernel
theorem dX7_checkJoins_61 : decode cX7_checkJoins 61 = .ok (.goto (-30), 3) := by decide +kernel
theorem dX7_checkJoins_64 : decode cX7_checkJoins 64 = .ok (.iinc 5 1, 3) := by decide +kernel
theorem dX7_checkJoins_67 : decode cX7_checkJoins 67 = .ok (.goto (-62), 3) := by decide +kernel
theorem dX7_checkJoins_70 : decode cX7_checkJoins 70 = .ok (.lload_n 3, 1) := by decide +kernel
theorem dX7_checkJoins_71 : decode cX7_checkJoins 71 = .ok (.lreturn, 1) := by decide +kernel
theorem dX7_checkTraverse_0 : decode cX7_checkTraverse 0 = .ok (.lload_n 1, 1) := by decide +kernel
theorem dX7_checkTraverse_1 : decode cX7_checkTraverse 1 = .ok (.lstore 4, 2) := by decide +kernel
theorem dX7_checkTraverse_3 : decode cX7_checkTraverse 3 = .ok (.aload_n 3, 1) := by decide +kernel
theorem dX7_checkTraverse_4 : decode cX7_checkTraverse 4 = .ok (.ifnonnull 6, 3) := by decide +kernel
theorem dX7_checkTraverse_7 : decode cX7_checkTraverse 7 = .ok (.lload 4, 2) := by decide +kernel
theorem dX7_checkTraverse_9 : decode cX7_checkTraverse 9 = .ok (.lreturn, 1) := by decide +kernel
theorem dX7_checkTraverse_10 : decode cX7_checkTraverse 10 = .ok (.iconst 0, 1) := by decide +kernel
theorem dX7_checkTraverse_11 : decode cX7_checkTraverse 11 = .ok (.istore 6, 2) := by decide +kernel
theorem dX7_checkTraverse_13 : decode cX7_checkTraverse 13 = .ok (.iload 6, 2) := by decide +kernel
theorem dX7_checkTraverse_15 : decode cX7_checkTraverse 15 = .ok (.bipush 9, 2) := by decide +kernel
theorem dX7_checkTraverse_17 : decode cX7_checkTraverse 17 = .ok (.if_icmp .gt 25, 3) := by decide +kernel
theorem dX7_checkTraverse_20 : decode cX7_checkTraverse 20 = .ok (.ldc2_w 262, 3) := by decide +kernel
theorem dX7_checkTraverse_23 : decode cX7_checkTraverse 23 = .ok (.lload 4, 2) := by decide +kernel
theorem dX7_checkTraverse_25 : decode cX7_checkTraverse 25 = .ok (.lmul, 1) := by decide +kernel
theorem dX7_checkTraverse_26 : decode cX7_checkTraverse 26 = .ok (.aload_n 3, 1) := by decide +kernel
theorem dX7_checkTraverse_27 : decode cX7_checkTraverse 27 = .ok (.iload 6, 2) := by decide +kernel
theorem dX7_checkTraverse_29 : decode cX7_checkTraverse 29 = .ok (.invokevirtual 170, 3) := by decide +kernel
theorem dX7_checkTraverse_32 : decode cX7_checkTraverse 32 = .ok (.i2l, 1) := by decide +kernel
theorem dX7_checkTraverse_33 : decode cX7_checkTraverse 33 = .ok (.ladd, 1) := by decide +kernel
theorem dX7_checkTraverse_34 : decode cX7_checkTraverse 34 = .ok (.lstore 4, 2) := by decide +kernel
theorem dX7_checkTraverse_36 : decode cX7_checkTraverse 36 = .ok (.iinc 6 1, 3) := by decide +kernel
theorem dX7_checkTraverse_39 : decode cX7_checkTraverse 39 = .ok (.goto (-26), 3) := by decide +kernel
theorem dX7_checkTraverse_42 : decode cX7_checkTraverse 42 = .ok (.iconst 0, 1) := by decide +kernel
theorem dX7_checkTraverse_43 : decode cX7_checkTraverse 43 = .ok (.istore 6, 2) := by decide +kernel
theorem dX7_checkTraverse_45 : decode cX7_checkTraverse 45 = .ok (.iload 6, 2) := by decide +kernel
theorem dX7_checkTraverse_47 : decode cX7_checkTraverse 47 = .ok (.aload_n 3, 1) := by decide +kernel
theorem dX7_checkTraverse_48 : decode cX7_checkTraverse 48 = .ok (.getfield 154, 3) := by decide +kernel
theorem dX7_checkTraverse_51 : decode cX7_checkTraverse 51 = .ok (.if_icmp .ge 42, 3) := by decide +kernel
theorem dX7_checkTraverse_54 : decode cX7_checkTraverse 54 = .ok (.iconst 0, 1) := by decide +kernel
theorem dX7_checkTraverse_55 : decode cX7_checkTraverse 55 = .ok (.istore 7, 2) := by decide +kernel
theorem dX7_checkTraverse_57 : decode cX7_checkTraverse 57 = .ok (.iload 7, 2) := by decide +kernel
theorem dX7_checkTraverse_59 : decode cX7_checkTraverse 59 = .ok (.iconst 4, 1) := by decide +kernel
theorem dX7_checkTraverse_60 : decode cX7_checkTraverse 60 = .ok (.if_icmp .gt 27, 3) := by decide +kernel
theorem dX7_checkTraverse_63 : decode cX7_checkTraverse 63 = .ok (.ldc2_w 262, 3) := by decide +kernel
theorem dX7_checkTraverse_66 : decode cX7_checkTraverse 66 = .ok (.lload 4, 2) := by decide +kernel
theorem dX7_checkTraverse_68 : decode cX7_checkTraverse 68 = .ok (.lmul, 1) := by decide +kernel
theorem dX7_checkTraverse_69 : decode cX7_checkTraverse 69 = .ok (.aload_n 3, 1) := by decide +kernel
theorem dX7_checkTraverse_70 : decode cX7_checkTraverse 70 = .ok (.iload 6, 2) := by decide +kernel
theorem dX7_checkTraverse_72 : decode cX7_checkTraverse 72 = .ok (.iload 7, 2) := by decide +kernel
theorem dX7_checkTraverse_74 : decode cX7_checkTraverse 74 = .ok (.invokevirtual 178, 3) := by decide +kernel
theorem dX7_checkTraverse_77 : decode cX7_checkTraverse 77 = .ok (.i2l, 1) := by decide +kernel
theorem dX7_checkTraverse_78 : decode cX7_checkTraverse 78 = .ok (.ladd, 1) := by decide +kernel
theorem dX7_checkTraverse_79 : decode cX7_checkTraverse 79 = .ok (.lstore 4, 2) := by decide +kernel
theorem dX7_checkTraverse_81 : decode cX7_checkTraverse 81 = .ok (.iinc 7 1, 3) := by decide +kernel
theorem dX7_checkTraverse_84 : decode cX7_checkTraverse 84 = .ok (.goto (-27), 3) := by decide +kernel
theorem dX7_checkTraverse_87 : decode cX7_checkTraverse 87 = .ok (.iinc 6 1, 3) := by decide +kernel
theorem dX7_checkTraverse_90 : decode cX7_checkTraverse 90 = .ok (.goto (-45), 3) := by decide +kernel
theorem dX7_checkTraverse_93 : decode cX7_checkTraverse 93 = .ok (.ldc2_w 262, 3) := by decide +kernel
theorem dX7_checkTraverse_96 : decode cX7_checkTraverse 96 = .ok (.lload 4, 2) := by decide +kernel
theorem dX7_checkTraverse_98 : decode cX7_checkTraverse 98 = .ok (.lmul, 1) := by decide +kernel
theorem dX7_checkTraverse_99 : decode cX7_checkTraverse 99 = .ok (.aload_n 3, 1) := by decide +kernel
theorem dX7_checkTraverse_100 : decode cX7_checkTraverse 100 = .ok (.invokevirtual 203, 3) := by decide +kernel
theorem dX7_checkTraverse_103 : decode cX7_checkTraverse 103 = .ok (.i2l, 1) := by decide +kernel
theorem dX7_checkTraverse_104 : decode cX7_checkTraverse 104 = .ok (.ladd, 1) := by decide +kernel
theorem dX7_checkTraverse_105 : decode cX7_checkTraverse 105 = .ok (.lstore 4, 2) := by decide +kernel
theorem dX7_checkTraverse_107 : decode cX7_checkTraverse 107 = .ok (.iconst 0, 1) := by decide +kernel
theorem dX7_checkTraverse_108 : decode cX7_checkTraverse 108 = .ok (.istore 6, 2) := by decide +kernel
theorem dX7_checkTraverse_110 : decode cX7_checkTraverse 110 = .ok (.iload 6, 2) := by decide +kernel
theorem dX7_checkTraverse_112 : decode cX7_checkTraverse 112 = .ok (.iconst 2, 1) := by decide +kernel
theorem dX7_checkTraverse_113 : decode cX7_checkTraverse 113 = .ok (.if_icmp .gt 29, 3) := by decide +kernel
theorem dX7_checkTraverse_116 : decode cX7_checkTraverse 116 = .ok (.ldc2_w 262, 3) := by decide +kernel
theorem dX7_checkTraverse_119 : decode cX7_checkTraverse 119 = .ok (.lload 4, 2) := by decide +kernel
theorem dX7_checkTraverse_121 : decode cX7_checkTraverse 121 = .ok (.lmul, 1) := by decide +kernel
theorem dX7_checkTraverse_122 : decode cX7_checkTraverse 122 = .ok (.aload_n 0, 1) := by decide +kernel
theorem dX7_checkTraverse_123 : decode cX7_checkTraverse 123 = .ok (.getfield 10, 3) := by decide +kernel
theorem dX7_checkTraverse_126 : decode cX7_checkTraverse 126 = .ok (.aload_n 3, 1) := by decide +kernel
theorem dX7_checkTraverse_127 : decode cX7_checkTraverse 127 = .ok (.iload 6, 2) := by decide +kernel
theorem dX7_checkTraverse_129 : decode cX7_checkTraverse 129 = .ok (.invokevirtual 181, 3) := by decide +kernel
theorem dX7_checkTraverse_132 : decode cX7_checkTraverse 132 = .ok (.i2l, 1) := by decide +kernel
theorem dX7_checkTraverse_133 : decode cX7_checkTraverse 133 = .ok (.ladd, 1) := by decide +kernel
theorem dX7_checkTraverse_134 : decode cX7_checkTraverse 134 = .ok (.lstore 4, 2) := by decide +kernel
theorem dX7_checkTraverse_136 : decode cX7_checkTraverse 136 = .ok (.iinc 6 1, 3) := by decide +kernel
theorem dX7_checkTraverse_139 : decode cX7_checkTraverse 139 = .ok (.goto (-29), 3) := by decide +kernel
theorem dX7_checkTraverse_142 : decode cX7_checkTraverse 142 = .ok (.lload 4, 2) := by decide +kernel
theorem dX7_checkTraverse_144 : decode cX7_checkTraverse 144 = .ok (.lreturn, 1) := by decide +kernel
theorem dX7_order_0 : decode cX7_order 0 = .ok (.aload_n 0, 1) := by decide +kernel
theorem dX7_order_1 : decode cX7_order 1 = .ok (.iload_n 1, 1) := by decide +kernel
theorem dX7_order_2 : decode cX7_order 2 = .ok (.iload_n 2, 1) := by decide +kernel
theorem dX7_order_3 : decode cX7_order 3 = .ok (.iload_n 3, 1) := by decide +kernel
theorem dX7_order_4 : decode cX7_order 4 = .ok (.iload 4, 2) := by decide +kernel
theorem dX7_order_6 : decode cX7_order 6 = .ok (.invokevirtual 275, 3) := by decide +kernel
theorem dX7_order_9 : decode cX7_order 9 = .ok (.istore 5, 2) := by decide +kernel
theorem dX7_order_11 : decode cX7_order 11 = .ok (.iload 5, 2) := by decide +kernel
theorem dX7_order_13 : decode cX7_order 13 = .ok (.iconst 1, 1) := by decide +kernel
theorem dX7_order_14 : decode cX7_order 14 = .ok (.if_icmp .ne 14, 3) := by decide +kernel
theorem dX7_order_17 : decode cX7_order 17 = .ok (.new 86, 3) := by decide +kernel
theorem dX7_order_20 : decode cX7_order 20 = .ok (.dup, 1) := by decide +kernel
theorem dX7_order_21 : decode cX7_order 21 = .ok (.ldc_w 278, 3) := by decide +kernel
theorem dX7_order_24 : decode cX7_order 24 = .ok (.invokespecial 90, 3) := by decide +kernel
theorem dX7_order_27 : decode cX7_order 27 = .ok (.athrow, 1) := by decide +kernel
theorem dX7_order_28 : decode cX7_order 28 = .ok (.iload 5, 2) := by decide +kernel
theorem dX7_order_30 : decode cX7_order 30 = .ok (.iconst 2, 1) := by decide +kernel
theorem dX7_order_31 : decode cX7_order 31 = .ok (.if_icmp .ne 14, 3) := by decide +kernel
theorem dX7_order_34 : decode cX7_order 34 = .ok (.new 34, 3) := by decide +kernel
theorem dX7_order_37 : decode cX7_order 37 = .ok (.dup, 1) := by decide +kernel
theorem dX7_order_38 : decode cX7_order 38 = .ok (.ldc_w 280, 3) := by decide +kernel
theorem dX7_order_41 : decode cX7_order 41 = .ok (.invokespecial 38, 3) := by decide +kernel
theorem dX7_order_44 : decode cX7_order 44 = .ok (.athrow, 1) := by decide +kernel
theorem dX7_order_45 : decode cX7_order 45 = .ok (.iload 5, 2) := by decide +kernel
theorem dX7_order_47 : decode cX7_order 47 = .ok (.iconst 3, 1) := by decide +kernel
theorem dX7_order_48 : decode cX7_order 48 = .ok (.if_icmp .ne 14, 3) := by decide +kernel
theorem dX7_order_51 : decode cX7_order 51 = .ok (.new 70, 3) := by decide +kernel
theorem dX7_order_54 : decode cX7_order 54 = .ok (.dup, 1) := by decide +kernel
theorem dX7_order_55 : decode cX7_order 55 = .ok (.ldc_w 282, 3) := by decide +kernel
theorem dX7_order_58 : decode cX7_order 58 = .ok (.invokespecial 74, 3) := by decide +kernel
theorem dX7_order_61 : decode cX7_order 61 = .ok (.athrow, 1) := by decide +kernel
theorem dX7_order_62 : decode cX7_order 62 = .ok (.aload_n 0, 1) := by decide +kernel
theorem dX7_order_63 : decode cX7_order 63 = .ok (.getfield 19, 3) := by decide +kernel
theorem dX7_order_66 : decode cX7_order 66 = .ok (.aload_n 0, 1) := by decide +kernel
theorem dX7_order_67 : decode cX7_order 67 = .ok (.getfield 10, 3) := by decide +kernel
theorem dX7_order_70 : decode cX7_order 70 = .ok (.invokevirtual 41, 3) := by decide +kernel
theorem dX7_order_73 : decode cX7_order 73 = .ok (.aload_n 0, 1) := by decide +kernel
theorem dX7_order_74 : decode cX7_order 74 = .ok (.iload_n 1, 1) := by decide +kernel
theorem dX7_order_75 : decode cX7_order 75 = .ok (.iload_n 2, 1) := by decide +kernel
theorem dX7_order_76 : decode cX7_order 76 = .ok (.iload_n 3, 1) := by decide +kernel
theorem dX7_order_77 : decode cX7_order 77 = .ok (.iload 4, 2) := by decide +kernel
theorem dX7_order_79 : decode cX7_order 79 = .ok (.invokevirtual 284, 3) := by decide +kernel
theorem dX7_order_82 : decode cX7_order 82 = .ok (.istore 6, 2) := by decide +kernel
theorem dX7_order_84 : decode cX7_order 84 = .ok (.aload_n 0, 1) := by decide +kernel
theorem dX7_order_85 : decode cX7_order 85 = .ok (.getfield 10, 3) := by decide +kernel
theorem dX7_order_88 : decode cX7_order 88 = .ok (.invokevirtual 49, 3) := by decide +kernel
theorem dX7_order_91 : decode cX7_order 91 = .ok (.iload 6, 2) := by decide +kernel
theorem dX7_order_93 : decode cX7_order 93 = .ok (.ireturn, 1) := by decide +kernel
theorem dX7_obey_0 : decode cX7_obey 0 = .ok (.aload_n 2, 1) := by decide +kernel
theorem dX7_obey_1 : decode cX7_obey 1 = .ok (.arraylength, 1) := by decide +kernel
theorem dX7_obey_2 : decode cX7_obey 2 = .ok (.iconst 3, 1) := by decide +kernel
theorem dX7_obey_3 : decode cX7_obey 3 = .ok (.if_icmp .lt 20, 3) := by decide +kernel
theorem dX7_obey_6 : decode cX7_obey 6 = .ok (.aload_n 0, 1) := by decide +kernel
theorem dX7_obey_7 : decode cX7_obey 7 = .ok (.iload_n 1, 1) := by decide +kernel
theorem dX7_obey_8 : decode cX7_obey 8 = .ok (.aload_n 2, 1) := by decide +kernel
theorem dX7_obey_9 : decode cX7_obey 9 = .ok (.iconst 0, 1) := by decide +kernel
theorem dX7_obey_10 : decode cX7_obey 10 = .ok (.iaload, 1) := by decide +kernel
theorem dX7_obey_11 : decode cX7_obey 11 = .ok (.aload_n 2, 1) := by decide +kernel
theorem dX7_obey_12 : decode cX7_obey 12 = .ok (.iconst 1, 1) := by decide +kernel
theorem dX7_obey_13 : decode cX7_obey 13 = .ok (.iaload, 1) := by decide +kernel
theorem dX7_obey_14 : decode cX7_obey 14 = .ok (.aload_n 2, 1) := by decide +kernel
theorem dX7_obey_15 : decode cX7_obey 15 = .ok (.iconst 2, 1) := by decide +kernel
theorem dX7_obey_16 : decode cX7_obey 16 = .ok (.iaload, 1) := by decide +kernel
theorem dX7_obey_17 : decode cX7_obey 17 = .ok (.invokevirtual 275, 3) := by decide +kernel
theorem dX7_obey_20 : decode cX7_obey 20 = .ok (.ifCond .eq 5, 3) := by decide +kernel
theorem dX7_obey_23 : decode cX7_obey 23 = .ok (.iconst 0, 1) := by decide +kernel
theorem dX7_obey_24 : decode cX7_obey 24 = .ok (.ireturn, 1) := by decide +kernel
theorem dX7_obey_25 : decode cX7_obey 25 = .ok (.aload_n 0, 1) := by decide +kernel
theorem dX7_obey_26 : decode cX7_obey 26 = .ok (.iload_n 1, 1) := by decide +kernel
theorem dX7_obey_27 : decode cX7_obey 27 = .ok (.aload_n 2, 1) := by decide +kernel
theorem dX7_obey_28 : decode cX7_obey 28 = .ok (.iconst 0, 1) := by decide +kernel
theorem dX7_obey_29 : decode cX7_obey 29 = .ok (.iaload, 1) := by decide +kernel
theorem dX7_obey_30 : decode cX7_obey 30 = .ok (.aload_n 2, 1) := by decide +kernel
theorem dX7_obey_31 : decode cX7_obey 31 = .ok (.iconst 1, 1) := by decide +kernel
theorem dX7_obey_32 : decode cX7_obey 32 = .ok (.iaload, 1) := by decide +kernel
theorem dX7_obey_33 : decode cX7_obey 33 = .ok (.aload_n 2, 1) := by decide +kernel
theorem dX7_obey_34 : decode cX7_obey 34 = .ok (.iconst 2, 1) := by decide +kernel
theorem dX7_obey_35 : decode cX7_obey 35 = .ok (.iaload, 1) := by decide +kernel
theorem dX7_obey_36 : decode cX7_obey 36 = .ok (.invokevirtual 284, 3) := by decide +kernel
theorem dX7_obey_39 : decode cX7_obey 39 = .ok (.pop, 1) := by decide +kernel
theorem dX7_obey_40 : decode cX7_obey 40 = .ok (.aload_n 0, 1) := by decide +kernel
theorem dX7_obey_41 : decode cX7_obey 41 = .ok (.getfield 10, 3) := by decide +kernel
theorem dX7_obey_44 : decode cX7_obey 44 = .ok (.invokevirtual 49, 3) := by decide +kernel
theorem dX7_obey_47 : decode cX7_obey 47 = .ok (.iconst 1, 1) := by decide +kernel
theorem dX7_obey_48 : decode cX7_obey 48 = .ok (.ireturn, 1) := by decide +kernel
theorem dX7_refusalOf_0 : decode cX7_refusalOf 0 = .ok (.iload_n 1, 1) := by decide +kernel
theorem dX7_refusalOf_1 : decode cX7_refusalOf 1 = .ok (.bipush 116, 2) := by decide +kernel
theorem dX7_refusalOf_3 : decode cX7_refusalOf 3 = .ok (.if_icmp .ne 16, 3) := by decide +kernel
theorem dX7_refusalOf_6 : decode cX7_refusalOf 6 = .ok (.aload_n 0, 1) := by decide +kernel
theorem dX7_refusalOf_7 : decode cX7_refusalOf 7 = .ok (.getfield 10, 3) := by decide +kernel
theorem dX7_refusalOf_10 : decode cX7_refusalOf 10 = .ok (.iload_n 2, 1) := by decide +kernel
theorem dX7_refusalOf_11 : decode cX7_refusalOf 11 = .ok (.invokevirtual 82, 3) := by decide +kernel
theorem dX7_refusalOf_14 : decode cX7_refusalOf 14 = .ok (.iload_n 3, 1) := by decide +kernel
theorem dX7_refusalOf_15 : decode cX7_refusalOf 15 = .ok (.invokestatic 287, 3) := by decide +kernel
theorem dX7_refusalOf_18 : decode cX7_refusalOf 18 = .ok (.ireturn, 1) := by decide +kernel
theorem dX7_refusalOf_19 : decode cX7_refusalOf 19 = .ok (.aload_n 0, 1) := by decide +kernel
theorem dX7_refusalOf_20 : decode cX7_refusalOf 20 = .ok (.getfield 10, 3) := by decide +kernel
theorem dX7_refusalOf_23 : decode cX7_refusalOf 23 = .ok (.iload_n 2, 1) := by decide +kernel
theorem dX7_refusalOf_24 : decode cX7_refusalOf 24 = .ok (.invokevirtual 141, 3) := by decide +kernel
theorem dX7_refusalOf_27 : decode cX7_refusalOf 27 = .ok (.astore 5, 2) := by decide +kernel
theorem dX7_refusalOf_29 : decode cX7_refusalOf 29 = .ok (.aload 5, 2) := by decide +kernel
theorem dX7_refusalOf_31 : decode cX7_refusalOf 31 = .ok (.ifnonnull 5, 3) := by decide +kernel
theorem dX7_refusalOf_34 : decode cX7_refusalOf 34 = .ok (.iconst 1, 1) := by decide +kernel
theorem dX7_refusalOf_35 : decode cX7_refusalOf 35 = .ok (.ireturn, 1) := by decide +kernel
theorem dX7_refusalOf_36 : decode cX7_refusalOf 36 = .ok (.iload_n 1, 1) := by decide +kernel
theorem dX7_refusalOf_37 : decode cX7_refusalOf 37 = .ok (.bipush 108, 2) := by decide +kernel
theorem dX7_refusalOf_39 : decode cX7_refusalOf 39 = .ok (.if_icmp .ne 12, 3) := by decide +kernel
theorem dX7_refusalOf_42 : decode cX7_refusalOf 42 = .ok (.aload 5, 2) := by decide +kernel
theorem dX7_refusalOf_44 : decode cX7_refusalOf 44 = .ok (.iload_n 3, 1) := by decide +kernel
theorem dX7_refusalOf_45 : decode cX7_refusalOf 45 = .ok (.iload 4, 2) := by decide +kernel
theorem dX7_refusalOf_47 : decode cX7_refusalOf 47 = .ok (.invokestatic 291, 3) := by decide +kernel
theorem dX7_refusalOf_50 : decode cX7_refusalOf 50 = .ok (.ireturn, 1) := by decide +kernel
theorem dX7_refusalOf_51 : decode cX7_refusalOf 51 = .ok (.iload_n 1, 1) := by decide +kernel
theorem dX7_refusalOf_52 : decode cX7_refusalOf 52 = .ok (.bipush 107, 2) := by decide +kernel
theorem dX7_refusalOf_54 : decode cX7_refusalOf 54 = .ok (.if_icmp .ne 17, 3) := by decide +kernel
theorem dX7_refusalOf_57 : decode cX7_refusalOf 57 = .ok (.aload 5, 2) := by decide +kernel
theorem dX7_refusalOf_59 : decode cX7_refusalOf 59 = .ok (.getfield 154, 3) := by decide +kernel
theorem dX7_refusalOf_62 : decode cX7_refusalOf 62 = .ok (.ifCond .ne 7, 3) := by decide +kernel
theorem dX7_refusalOf_65 : decode cX7_refusalOf 65 = .ok (.iconst 3, 1) := by decide +kernel
theorem dX7_refusalOf_66 : decode cX7_refusalOf 66 = .ok (.goto 4, 3) := by decide +kernel
theorem dX7_refusalOf_69 : decode cX7_refusalOf 69 = .ok (.iconst 0, 1) := by decide +kernel
theorem dX7_refusalOf_70 : decode cX7_refusalOf 70 = .ok (.ireturn, 1) := by decide +kernel
theorem dX7_refusalOf_71 : decode cX7_refusalOf 71 = .ok (.aload 5, 2) := by decide +kernel
theorem dX7_refusalOf_73 : decode cX7_refusalOf 73 = .ok (.invokevirtual 294, 3) := by decide +kernel
theorem dX7_refusalOf_76 : decode cX7_refusalOf 76 = .ok (.ifCond .eq 15, 3) := by decide +kernel
theorem dX7_refusalOf_79 : decode cX7_refusalOf 79 = .ok (.aload 5, 2) := by decide +kernel
theorem dX7_refusalOf_81 : decode cX7_refusalOf 81 = .ok (.getfield 163, 3) := by decide +kernel
theorem dX7_refusalOf_84 : decode cX7_refusalOf 84 = .ok (.ifCond .ne 7, 3) := by decide +kernel
theorem dX7_refusalOf_87 : decode cX7_refusalOf 87 = .ok (.iconst 0, 1) := by decide +kernel
theorem dX7_refusalOf_88 : decode cX7_refusalOf 88 = .ok (.goto 4, 3) := by decide +kernel
theorem dX7_refusalOf_91 : decode cX7_refusalOf 91 = .ok (.iconst 3, 1) := by decide +kernel
theorem dX7_refusalOf_92 : decode cX7_refusalOf 92 = .ok (.ireturn, 1) := by decide +kernel
theorem dX7_refusalOfTurn_0 : decode cX7_refusalOfTurn 0 = .ok (.aload_n 0, 1) := by decide +kernel
theorem dX7_refusalOfTurn_1 : decode cX7_refusalOfTurn 1 = .ok (.ifnonnull 5, 3) := by decide +kernel
theorem dX7_refusalOfTurn_4 : decode cX7_refusalOfTurn 4 = .ok (.iconst 1, 1) := by decide +kernel
theorem dX7_refusalOfTurn_5 : decode cX7_refusalOfTurn 5 = .ok (.ireturn, 1) := by decide +kernel
theorem dX7_refusalOfTurn_6 : decode cX7_refusalOfTurn 6 = .ok (.iload_n 1, 1) := by decide +kernel
theorem dX7_refusalOfTurn_7 : decode cX7_refusalOfTurn 7 = .ok (.iconst 0, 1) := by decide +kernel
theorem dX7_refusalOfTurn_8 : decode cX7_refusalOfTurn 8 = .ok (.sipush 999, 3) := by decide +kernel
theorem dX7_refusalOfTurn_11 : decode cX7_refusalOfTurn 11 = .ok (.invokestatic 52, 3) := by decide +kernel
theorem dX7_refusalOfTurn_14 : decode cX7_refusalOfTurn 14 = .ok (.ifCond .ne 5, 3) := by decide +kernel
theorem dX7_refusalOfTurn_17 : decode cX7_refusalOfTurn 17 = .ok (.iconst 2, 1) := by decide +kernel
theorem dX7_refusalOfTurn_18 : decode cX7_refusalOfTurn 18 = .ok (.ireturn, 1) := by decide +kernel
theorem dX7_refusalOfTurn_19 : decode cX7_refusalOfTurn 19 = .ok (.aload_n 0, 1) := by decide +kernel
theorem dX7_refusalOfTurn_20 : decode cX7_refusalOfTurn 20 = .ok (.getfield 298, 3) := by decide +kernel
theorem dX7_refusalOfTurn_23 : decode cX7_refusalOfTurn 23 = .ok (.bipush 9, 2) := by decide +kernel
theorem dX7_refusalOfTurn_25 : decode cX7_refusalOfTurn 25 = .ok (.if_icmp .lt 7, 3) := by decide +kernel
theorem dX7_refusalOfTurn_28 : decode cX7_refusalOfTurn 28 = .ok (.iconst 3, 1) := by decide +kernel
theorem dX7_refusalOfTurn_29 : decode cX7_refusalOfTurn 29 = .ok (.goto 4, 3) := by decide +kernel
theorem dX7_refusalOfTurn_32 : decode cX7_refusalOfTurn 32 = .ok (.iconst 0, 1) := by decide +kernel
theorem dX7_refusalOfTurn_33 : decode cX7_refusalOfTurn 33 = .ok (.ireturn, 1) := by decide +kernel
theorem dX7_refusalOfLeg_0 : decode cX7_refusalOfLeg 0 = .ok (.iload_n 1, 1) := by decide +kernel
theorem dX7_refusalOfLeg_1 : decode cX7_refusalOfLeg 1 = .ok (.invokestatic 100, 3) := by decide +kernel
theorem dX7_refusalOfLeg_4 : decode cX7_refusalOfLeg 4 = .ok (.ifCond .eq 14, 3) := by decide +kernel
theorem dX7_refusalOfLeg_7 : decode cX7_refusalOfLeg 7 = .ok (.iload_n 2, 1) := by decide +kernel
theorem dX7_refusalOfLeg_8 : decode cX7_refusalOfLeg 8 = .ok (.iconst 1, 1) := by decide +kernel
theorem dX7_refusalOfLeg_9 : decode cX7_refusalOfLeg 9 = .ok (.ldc_w 301, 3) := by decide +kernel
theorem dX7_refusalOfLeg_12 : decode cX7_refusalOfLeg 12 = .ok (.invokestatic 52, 3) := by decide +kernel
theorem dX7_refusalOfLeg_15 : decode cX7_refusalOfLeg 15 = .ok (.ifCond .ne 5, 3) := by decide +kernel
theorem dX7_refusalOfLeg_18 : decode cX7_refusalOfLeg 18 = .ok (.iconst 2, 1) := by decide +kernel
theorem dX7_refusalOfLeg_19 : decode cX7_refusalOfLeg 19 = .ok (.ireturn, 1) := by decide +kernel
theorem dX7_refusalOfLeg_20 : decode cX7_refusalOfLeg 20 = .ok (.aload_n 0, 1) := by decide +kernel
theorem dX7_refusalOfLeg_21 : decode cX7_refusalOfLeg 21 = .ok (.invokevirtual 294, 3) := by decide +kernel
theorem dX7_refusalOfLeg_24 : decode cX7_refusalOfLeg 24 = .ok (.ifCond .ne 12, 3) := by decide +kernel
theorem dX7_refusalOfLeg_27 : decode cX7_refusalOfLeg 27 = .ok (.aload_n 0, 1) := by decide +kernel
theorem dX7_refusalOfLeg_28 : decode cX7_refusalOfLeg 28 = .ok (.getfield 154, 3) := by decide +kernel
theorem dX7_refusalOfLeg_31 : decode cX7_refusalOfLeg 31 = .ok (.bipush 12, 2) := by decide +kernel
theorem dX7_refusalOfLeg_33 : decode cX7_refusalOfLeg 33 = .ok (.if_icmp .lt 7, 3) := by decide +kernel
theorem dX7_refusalOfLeg_36 : decode cX7_refusalOfLeg 36 = .ok (.iconst 3, 1) := by decide +kernel
theorem dX7_refusalOfLeg_37 : decode cX7_refusalOfLeg 37 = .ok (.goto 4, 3) := by decide +kernel
theorem dX7_refusalOfLeg_40 : decode cX7_refusalOfLeg 40 = .ok (.iconst 0, 1) := by decide +kernel
theorem dX7_refusalOfLeg_41 : decode cX7_refusalOfLeg 41 = .ok (.ireturn, 1) := by decide +kernel
theorem dX7_carryOut_0 : decode cX7_carryOut 0 = .ok (.iload_n 1, 1) := by decide +kernel
theorem dX7_carryOut_1 : decode cX7_carryOut 1 = .ok (.bipush 116, 2) := by decide +kernel
theorem dX7_carryOut_3 : decode cX7_carryOut 3 = .ok (.if_icmp .ne 30, 3) := by decide +kernel
theorem dX7_carryOut_6 : decode cX7_carryOut 6 = .ok (.aload_n 0, 1) := by decide +kernel
theorem dX7_carryOut_7 : decode cX7_carryOut 7 = .ok (.getfield 10, 3) := by decide +kernel
theorem dX7_carryOut_10 : decode cX7_carryOut 10 = .ok (.iload_n 2, 1) := by decide +kernel
theorem dX7_carryOut_11 : decode cX7_carryOut 11 = .ok (.invokevirtual 82, 3) := by decide +kernel
theorem dX7_carryOut_14 : decode cX7_carryOut 14 = .ok (.astore 5, 2) := by decide +kernel
theorem dX7_carryOut_16 : decode cX7_carryOut 16 = .ok (.aload 5, 2) := by decide +kernel
theorem dX7_carryOut_18 : decode cX7_carryOut 18 = .ok (.ifnonnull 8, 3) := by decide +kernel
theorem dX7_carryOut_21 : decode cX7_carryOut 21 = .ok (.ldc 189, 2) := by decide +kernel
theorem dX7_carryOut_23 : decode cX7_carryOut 23 = .ok (.goto 9, 3) := by decide +kernel
theorem dX7_carryOut_26 : decode cX7_carryOut 26 = .ok (.aload 5, 2) := by decide +kernel
theorem dX7_carryOut_28 : decode cX7_carryOut 28 = .ok (.iload_n 3, 1) := by decide +kernel
theorem dX7_carryOut_29 : decode cX7_carryOut 29 = .ok (.invokevirtual 302, 3) := by decide +kernel
theorem dX7_carryOut_32 : decode cX7_carryOut 32 = .ok (.ireturn, 1) := by decide +kernel
theorem dX7_carryOut_33 : decode cX7_carryOut 33 = .ok (.aload_n 0, 1) := by decide +kernel
theorem dX7_carryOut_34 : decode cX7_carryOut 34 = .ok (.getfield 10, 3) := by decide +kernel
theorem dX7_carryOut_37 : decode cX7_carryOut 37 = .ok (.iload_n 2, 1) := by decide +kernel
theorem dX7_carryOut_38 : decode cX7_carryOut 38 = .ok (.invokevirtual 141, 3) := by decide +kernel
theorem dX7_carryOut_41 : decode cX7_carryOut 41 = .ok (.astore 5, 2) := by decide +kernel
theorem dX7_carryOut_43 : decode cX7_carryOut 43 = .ok (.aload 5, 2) := by decide +kernel
theorem dX7_carryOut_45 : decode cX7_carryOut 45 = .ok (.ifnonnull 6, 3) := by decide +kernel
theorem dX7_carryOut_48 : decode cX7_carryOut 48 = .ok (.ldc 189, 2) := by decide +kernel
theorem dX7_carryOut_50 : decode cX7_carryOut 50 = .ok (.ireturn, 1) := by decide +kernel
theorem dX7_carryOut_51 : decode cX7_carryOut 51 = .ok (.iload_n 1, 1) := by decide +kernel
theorem dX7_carryOut_52 : decode cX7_carryOut 52 = .ok (.bipush 108, 2) := by decide +kernel
theorem dX7_carryOut_54 : decode cX7_carryOut 54 = .ok (.if_icmp .ne 12, 3) := by decide +kernel
theorem dX7_carryOut_57 : decode cX7_carryOut 57 = .ok (.aload 5, 2) := by decide +kernel
theorem dX7_carryOut_59 : decode cX7_carryOut 59 = .ok (.iload_n 3, 1) := by decide +kernel
theorem dX7_carryOut_60 : decode cX7_carryOut 60 = .ok (.iload 4, 2) := by decide +kernel
theorem dX7_carryOut_62 : decode cX7_carryOut 62 = .ok (.invokevirtual 305, 3) := by decide +kernel
theorem dX7_carryOut_65 : decode cX7_carryOut 65 = .ok (.ireturn, 1) := by decide +kernel
theorem dX7_carryOut_66 : decode cX7_carryOut 66 = .ok (.iload_n 1, 1) := by decide +kernel
theorem dX7_carryOut_67 : decode cX7_carryOut 67 = .ok (.bipush 107, 2) := by decide +kernel
theorem dX7_carryOut_69 : decode cX7_carryOut 69 = .ok (.if_icmp .ne 11, 3) := by decide +kernel
theorem dX7_carryOut_72 : decode cX7_carryOut 72 = .ok (.aload 5, 2) := by decide +kernel
theorem dX7_carryOut_74 : decode cX7_carryOut 74 = .ok (.invokevirtual 307, 3) := by decide +kernel
theorem dX7_carryOut_77 : decode cX7_carryOut 77 = .ok (.goto 8, 3) := by decide +kernel
theorem dX7_carryOut_80 : decode cX7_carryOut 80 = .ok (.aload 5, 2) := by decide +kernel
theorem dX7_carryOut_82 : decode cX7_carryOut 82 = .ok (.invokevirtual 310, 3) := by decide +kernel
theorem dX7_carryOut_85 : decode cX7_carryOut 85 = .ok (.ireturn, 1) := by decide +kernel
theorem dX7_isIn_0 : decode cX7_isIn 0 = .ok (.iload_n 0, 1) := by decide +kernel
theorem dX7_isIn_1 : decode cX7_isIn 1 = .ok (.iload_n 1, 1) := by decide +kernel
theorem dX7_isIn_2 : decode cX7_isIn 2 = .ok (.if_icmp .lt 12, 3) := by decide +kernel
theorem dX7_isIn_5 : decode cX7_isIn 5 = .ok (.iload_n 0, 1) := by decide +kernel
theorem dX7_isIn_6 : decode cX7_isIn 6 = .ok (.iload_n 2, 1) := by decide +kernel
theorem dX7_isIn_7 : decode cX7_isIn 7 = .ok (.if_icmp .gt 7, 3) := by decide +kernel
theorem dX7_isIn_10 : decode cX7_isIn 10 = .ok (.iconst 1, 1) := by decide +kernel
theorem dX7_isIn_11 : decode cX7_isIn 11 = .ok (.goto 4, 3) := by decide +kernel
theorem dX7_isIn_14 : decode cX7_isIn 14 = .ok (.iconst 0, 1) := by decide +kernel
theorem dX7_isIn_15 : decode cX7_isIn 15 = .ok (.ireturn, 1) := by decide +kernel
theorem dX7_isBearing_0 : decode cX7_isBearing 0 = .ok (.iload_n 0, 1) := by decide +kernel
theorem dX7_isBearing_1 : decode cX7_isBearing 1 = .ok (.iconst 0, 1) := by decide +kernel
theorem dX7_isBearing_2 : decode cX7_isBearing 2 = .ok (.ldc_w 313, 3) := by decide +kernel
theorem dX7_isBearing_5 : decode cX7_isBearing 5 = .ok (.invokestatic 52, 3) := by decide +kernel
theorem dX7_isBearing_8 : decode cX7_isBearing 8 = .ok (.ireturn, 1) := by decide +kernel
theorem dX7_isSmall_0 : decode cX7_isSmall 0 = .ok (.iload_n 0, 1) := by decide +kernel
theorem dX7_isSmall_1 : decode cX7_isSmall 1 = .ok (.sipush (-3600), 3) := by decide +kernel
theorem dX7_isSmall_4 : decode cX7_isSmall 4 = .ok (.sipush 3600, 3) := by decide +kernel
theorem dX7_isSmall_7 : decode cX7_isSmall 7 = .ok (.invokestatic 52, 3) := by decide +kernel
theorem dX7_isSmall_10 : decode cX7_isSmall 10 = .ok (.ireturn, 1) := by decide +kernel
theorem dX8_init_0 : decode cX8_init 0 = .ok (.aload_n 0, 1) := by decide +kernel
theorem dX8_init_1 : decode cX8_init 1 = .ok (.invokespecial 1, 3) := by decide +kernel
theorem dX8_init_4 : decode cX8_init 4 = .ok (.aload_n 0, 1) := by decide +kernel
theorem dX8_init_5 : decode cX8_init 5 = .ok (.sipush 214, 3) := by decide +kernel
theorem dX8_init_8 : decode cX8_init 8 = .ok (.newarray .int, 2) := by decide +kernel
theorem dX8_init_10 : decode cX8_init 10 = .ok (.putfield 7, 3) := by decide +kernel
theorem dX8_init_13 : decode cX8_init 13 = .ok (.aload_n 0, 1) := by decide +kernel
theorem dX8_init_14 : decode cX8_init 14 = .ok (.sipush 856, 3) := by decide +kernel
theorem dX8_init_17 : decode cX8_init 17 = .ok (.newarray .int, 2) := by decide +kernel
theorem dX8_init_19 : decode cX8_init 19 = .ok (.putfield 13, 3) := by decide +kernel
theorem dX8_init_22 : decode cX8_init 22 = .ok (.aload_n 0, 1) := by decide +kernel
theorem dX8_init_23 : decode cX8_init 23 = .ok (.bipush 90, 2) := by decide +kernel

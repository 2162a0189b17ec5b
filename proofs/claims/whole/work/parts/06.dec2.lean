theorem dX8_init_25 : decode cX8_init 25 = .ok (.newarray .int, 2) := by decide +kernel
theorem dX8_init_27 : decode cX8_init 27 = .ok (.putfield 16, 3) := by decide +kernel
theorem dX8_init_30 : decode cX8_init 30 = .ok (.aload_n 0, 1) := by decide +kernel
theorem dX8_init_31 : decode cX8_init 31 = .ok (.iconst 3, 1) := by decide +kernel
theorem dX8_init_32 : decode cX8_init 32 = .ok (.newarray .int, 2) := by decide +kernel
theorem dX8_init_34 : decode cX8_init 34 = .ok (.putfield 19, 3) := by decide +kernel
theorem dX8_init_37 : decode cX8_init 37 = .ok (.aload_n 0, 1) := by decide +kernel
theorem dX8_init_38 : decode cX8_init 38 = .ok (.getfield 7, 3) := by decide +kernel
theorem dX8_init_41 : decode cX8_init 41 = .ok (.iconst 0, 1) := by decide +kernel
theorem dX8_init_42 : decode cX8_init 42 = .ok (.bipush 20, 2) := by decide +kernel
theorem dX8_init_44 : decode cX8_init 44 = .ok (.iastore, 1) := by decide +kernel
theorem dX8_init_45 : decode cX8_init 45 = .ok (.aload_n 0, 1) := by decide +kernel
theorem dX8_init_46 : decode cX8_init 46 = .ok (.getfield 7, 3) := by decide +kernel
theorem dX8_init_49 : decode cX8_init 49 = .ok (.iconst 1, 1) := by decide +kernel
theorem dX8_init_50 : decode cX8_init 50 = .ok (.bipush 30, 2) := by decide +kernel
theorem dX8_init_52 : decode cX8_init 52 = .ok (.iastore, 1) := by decide +kernel
theorem dX8_init_53 : decode cX8_init 53 = .ok (.aload_n 0, 1) := by decide +kernel
theorem dX8_init_54 : decode cX8_init 54 = .ok (.getfield 7, 3) := by decide +kernel
theorem dX8_init_57 : decode cX8_init 57 = .ok (.iconst 2, 1) := by decide +kernel
theorem dX8_init_58 : decode cX8_init 58 = .ok (.sipush 500, 3) := by decide +kernel
theorem dX8_init_61 : decode cX8_init 61 = .ok (.iastore, 1) := by decide +kernel
theorem dX8_init_62 : decode cX8_init 62 = .ok (.return_, 1) := by decide +kernel
theorem dX8_thrown_0 : decode cX8_thrown 0 = .ok (.aload_n 0, 1) := by decide +kernel
theorem dX8_thrown_1 : decode cX8_thrown 1 = .ok (.getfield 22, 3) := by decide +kernel
theorem dX8_thrown_4 : decode cX8_thrown 4 = .ok (.ireturn, 1) := by decide +kernel
theorem dX8_in_0 : decode cX8_in 0 = .ok (.lload_n 0, 1) := by decide +kernel
theorem dX8_in_1 : decode cX8_in 1 = .ok (.lload_n 2, 1) := by decide +kernel
theorem dX8_in_2 : decode cX8_in 2 = .ok (.lcmp, 1) := by decide +kernel
theorem dX8_in_3 : decode cX8_in 3 = .ok (.ifCond .lt 14, 3) := by decide +kernel
theorem dX8_in_6 : decode cX8_in 6 = .ok (.lload_n 0, 1) := by decide +kernel
theorem dX8_in_7 : decode cX8_in 7 = .ok (.lload 4, 2) := by decide +kernel
theorem dX8_in_9 : decode cX8_in 9 = .ok (.lcmp, 1) := by decide +kernel
theorem dX8_in_10 : decode cX8_in 10 = .ok (.ifCond .gt 7, 3) := by decide +kernel
theorem dX8_in_13 : decode cX8_in 13 = .ok (.iconst 1, 1) := by decide +kernel
theorem dX8_in_14 : decode cX8_in 14 = .ok (.goto 4, 3) := by decide +kernel
theorem dX8_in_17 : decode cX8_in 17 = .ok (.iconst 0, 1) := by decide +kernel
theorem dX8_in_18 : decode cX8_in 18 = .ok (.ireturn, 1) := by decide +kernel
theorem dX8_throwsAt_0 : decode cX8_throwsAt 0 = .ok (.aload_n 0, 1) := by decide +kernel
theorem dX8_throwsAt_1 : decode cX8_throwsAt 1 = .ok (.iload_n 1, 1) := by decide +kernel
theorem dX8_throwsAt_2 : decode cX8_throwsAt 2 = .ok (.putfield 22, 3) := by decide +kernel
theorem dX8_throwsAt_5 : decode cX8_throwsAt 5 = .ok (.iload_n 1, 1) := by decide +kernel
theorem dX8_throwsAt_6 : decode cX8_throwsAt 6 = .ok (.ifCond .le 7, 3) := by decide +kernel
theorem dX8_throwsAt_9 : decode cX8_throwsAt 9 = .ok (.iconst 1, 1) := by decide +kernel
theorem dX8_throwsAt_10 : decode cX8_throwsAt 10 = .ok (.goto 4, 3) := by decide +kernel
theorem dX8_throwsAt_13 : decode cX8_throwsAt 13 = .ok (.iconst 0, 1) := by decide +kernel
theorem dX8_throwsAt_14 : decode cX8_throwsAt 14 = .ok (.ireturn, 1) := by decide +kernel
theorem dX8_saves_0 : decode cX8_saves 0 = .ok (.aload_n 0, 1) := by decide +kernel
theorem dX8_saves_1 : decode cX8_saves 1 = .ok (.getfield 26, 3) := by decide +kernel
theorem dX8_saves_4 : decode cX8_saves 4 = .ok (.ifCond .eq 4, 3) := by decide +kernel
theorem dX8_saves_7 : decode cX8_saves 7 = .ok (.return_, 1) := by decide +kernel
theorem dX8_saves_8 : decode cX8_saves 8 = .ok (.aload_n 0, 1) := by decide +kernel
theorem dX8_saves_9 : decode cX8_saves 9 = .ok (.getfield 30, 3) := by decide +kernel
theorem dX8_saves_12 : decode cX8_saves 12 = .ok (.iconst 4, 1) := by decide +kernel
theorem dX8_saves_13 : decode cX8_saves 13 = .ok (.if_icmp .ne 44, 3) := by decide +kernel
theorem dX8_saves_16 : decode cX8_saves 16 = .ok (.iconst 0, 1) := by decide +kernel
theorem dX8_saves_17 : decode cX8_saves 17 = .ok (.istore_n 1, 1) := by decide +kernel
theorem dX8_saves_18 : decode cX8_saves 18 = .ok (.iload_n 1, 1) := by decide +kernel
theorem dX8_saves_19 : decode cX8_saves 19 = .ok (.sipush 642, 3) := by decide +kernel
theorem dX8_saves_22 : decode cX8_saves 22 = .ok (.if_icmp .ge 25, 3) := by decide +kernel
theorem dX8_saves_25 : decode cX8_saves 25 = .ok (.aload_n 0, 1) := by decide +kernel
theorem dX8_saves_26 : decode cX8_saves 26 = .ok (.getfield 13, 3) := by decide +kernel
theorem dX8_saves_29 : decode cX8_saves 29 = .ok (.iload_n 1, 1) := by decide +kernel
theorem dX8_saves_30 : decode cX8_saves 30 = .ok (.aload_n 0, 1) := by decide +kernel
theorem dX8_saves_31 : decode cX8_saves 31 = .ok (.getfield 13, 3) := by decide +kernel
theorem dX8_saves_34 : decode cX8_saves 34 = .ok (.iload_n 1, 1) := by decide +kernel
theorem dX8_saves_35 : decode cX8_saves 35 = .ok (.sipush 214, 3) := by decide +kernel
theorem dX8_saves_38 : decode cX8_saves 38 = .ok (.iadd, 1) := by decide +kernel
theorem dX8_saves_39 : decode cX8_saves 39 = .ok (.iaload, 1) := by decide +kernel
theorem dX8_saves_40 : decode cX8_saves 40 = .ok (.iastore, 1) := by decide +kernel
theorem dX8_saves_41 : decode cX8_saves 41 = .ok (.iinc 1 1, 3) := by decide +kernel
theorem dX8_saves_44 : decode cX8_saves 44 = .ok (.goto (-26), 3) := by decide +kernel
theorem dX8_saves_47 : decode cX8_saves 47 = .ok (.aload_n 0, 1) := by decide +kernel
theorem dX8_saves_48 : decode cX8_saves 48 = .ok (.dup, 1) := by decide +kernel
theorem dX8_saves_49 : decode cX8_saves 49 = .ok (.getfield 30, 3) := by decide +kernel
theorem dX8_saves_52 : decode cX8_saves 52 = .ok (.iconst 1, 1) := by decide +kernel
theorem dX8_saves_53 : decode cX8_saves 53 = .ok (.isub, 1) := by decide +kernel
theorem dX8_saves_54 : decode cX8_saves 54 = .ok (.putfield 30, 3) := by decide +kernel
theorem dX8_saves_57 : decode cX8_saves 57 = .ok (.iconst 0, 1) := by decide +kernel
theorem dX8_saves_58 : decode cX8_saves 58 = .ok (.istore_n 1, 1) := by decide +kernel
theorem dX8_saves_59 : decode cX8_saves 59 = .ok (.iload_n 1, 1) := by decide +kernel
theorem dX8_saves_60 : decode cX8_saves 60 = .ok (.sipush 214, 3) := by decide +kernel
theorem dX8_saves_63 : decode cX8_saves 63 = .ok (.if_icmp .ge 30, 3) := by decide +kernel
theorem dX8_saves_66 : decode cX8_saves 66 = .ok (.aload_n 0, 1) := by decide +kernel
theorem dX8_saves_67 : decode cX8_saves 67 = .ok (.getfield 13, 3) := by decide +kernel
theorem dX8_saves_70 : decode cX8_saves 70 = .ok (.sipush 214, 3) := by decide +kernel
theorem dX8_saves_73 : decode cX8_saves 73 = .ok (.aload_n 0, 1) := by decide +kernel
theorem dX8_saves_74 : decode cX8_saves 74 = .ok (.getfield 30, 3) := by decide +kernel
theorem dX8_saves_77 : decode cX8_saves 77 = .ok (.imul, 1) := by decide +kernel
theorem dX8_saves_78 : decode cX8_saves 78 = .ok (.iload_n 1, 1) := by decide +kernel
theorem dX8_saves_79 : decode cX8_saves 79 = .ok (.iadd, 1) := by decide +kernel
theorem dX8_saves_80 : decode cX8_saves 80 = .ok (.aload_n 0, 1) := by decide +kernel
theorem dX8_saves_81 : decode cX8_saves 81 = .ok (.getfield 7, 3) := by decide +kernel
theorem dX8_saves_84 : decode cX8_saves 84 = .ok (.iload_n 1, 1) := by decide +kernel
theorem dX8_saves_85 : decode cX8_saves 85 = .ok (.iaload, 1) := by decide +kernel
theorem dX8_saves_86 : decode cX8_saves 86 = .ok (.iastore, 1) := by decide +kernel
theorem dX8_saves_87 : decode cX8_saves 87 = .ok (.iinc 1 1, 3) := by decide +kernel
theorem dX8_saves_90 : decode cX8_saves 90 = .ok (.goto (-31), 3) := by decide +kernel
theorem dX8_saves_93 : decode cX8_saves 93 = .ok (.aload_n 0, 1) := by decide +kernel
theorem dX8_saves_94 : decode cX8_saves 94 = .ok (.dup, 1) := by decide +kernel
theorem dX8_saves_95 : decode cX8_saves 95 = .ok (.getfield 30, 3) := by decide +kernel
theorem dX8_saves_98 : decode cX8_saves 98 = .ok (.iconst 1, 1) := by decide +kernel
theorem dX8_saves_99 : decode cX8_saves 99 = .ok (.iadd, 1) := by decide +kernel
theorem dX8_saves_100 : decode cX8_saves 100 = .ok (.putfield 30, 3) := by decide +kernel
theorem dX8_saves_103 : decode cX8_saves 103 = .ok (.return_, 1) := by decide +kernel
theorem dX8_isWire_0 : decode cX8_isWire 0 = .ok (.iload_n 1, 1) := by decide +kernel
theorem dX8_isWire_1 : decode cX8_isWire 1 = .ok (.ifCond .lt 17, 3) := by decide +kernel
theorem dX8_isWire_4 : decode cX8_isWire 4 = .ok (.iload_n 1, 1) := by decide +kernel
theorem dX8_isWire_5 : decode cX8_isWire 5 = .ok (.aload_n 0, 1) := by decide +kernel
theorem dX8_isWire_6 : decode cX8_isWire 6 = .ok (.getfield 7, 3) := by decide +kernel
theorem dX8_isWire_9 : decode cX8_isWire 9 = .ok (.iconst 3, 1) := by decide +kernel
theorem dX8_isWire_10 : decode cX8_isWire 10 = .ok (.iaload, 1) := by decide +kernel
theorem dX8_isWire_11 : decode cX8_isWire 11 = .ok (.if_icmp .ge 7, 3) := by decide +kernel
theorem dX8_isWire_14 : decode cX8_isWire 14 = .ok (.iconst 1, 1) := by decide +kernel
theorem dX8_isWire_15 : decode cX8_isWire 15 = .ok (.goto 4, 3) := by decide +kernel
theorem dX8_isWire_18 : decode cX8_isWire 18 = .ok (.iconst 0, 1) := by decide +kernel
theorem dX8_isWire_19 : decode cX8_isWire 19 = .ok (.ireturn, 1) := by decide +kernel
theorem dX8_isJoin_0 : decode cX8_isJoin 0 = .ok (.iload_n 1, 1) := by decide +kernel
theorem dX8_isJoin_1 : decode cX8_isJoin 1 = .ok (.ifCond .lt 17, 3) := by decide +kernel
theorem dX8_isJoin_4 : decode cX8_isJoin 4 = .ok (.iload_n 1, 1) := by decide +kernel
theorem dX8_isJoin_5 : decode cX8_isJoin 5 = .ok (.aload_n 0, 1) := by decide +kernel
theorem dX8_isJoin_6 : decode cX8_isJoin 6 = .ok (.getfield 7, 3) := by decide +kernel
theorem dX8_isJoin_9 : decode cX8_isJoin 9 = .ok (.iconst 4, 1) := by decide +kernel
theorem dX8_isJoin_10 : decode cX8_isJoin 10 = .ok (.iaload, 1) := by decide +kernel
theorem dX8_isJoin_11 : decode cX8_isJoin 11 = .ok (.if_icmp .ge 7, 3) := by decide +kernel
theorem dX8_isJoin_14 : decode cX8_isJoin 14 = .ok (.iconst 1, 1) := by decide +kernel
theorem dX8_isJoin_15 : decode cX8_isJoin 15 = .ok (.goto 4, 3) := by decide +kernel
theorem dX8_isJoin_18 : decode cX8_isJoin 18 = .ok (.iconst 0, 1) := by decide +kernel
theorem dX8_isJoin_19 : decode cX8_isJoin 19 = .ok (.ireturn, 1) := by decide +kernel
theorem dX8_isTraverse_0 : decode cX8_isTraverse 0 = .ok (.iload_n 1, 1) := by decide +kernel
theorem dX8_isTraverse_1 : decode cX8_isTraverse 1 = .ok (.ifCond .lt 17, 3) := by decide +kernel
theorem dX8_isTraverse_4 : decode cX8_isTraverse 4 = .ok (.iload_n 1, 1) := by decide +kernel
theorem dX8_isTraverse_5 : decode cX8_isTraverse 5 = .ok (.aload_n 0, 1) := by decide +kernel
theorem dX8_isTraverse_6 : decode cX8_isTraverse 6 = .ok (.getfield 7, 3) := by decide +kernel
theorem dX8_isTraverse_9 : decode cX8_isTraverse 9 = .ok (.iconst 5, 1) := by decide +kernel
theorem dX8_isTraverse_10 : decode cX8_isTraverse 10 = .ok (.iaload, 1) := by decide +kernel
theorem dX8_isTraverse_11 : decode cX8_isTraverse 11 = .ok (.if_icmp .ge 7, 3) := by decide +kernel
theorem dX8_isTraverse_14 : decode cX8_isTraverse 14 = .ok (.iconst 1, 1) := by decide +kernel
theorem dX8_isTraverse_15 : decode cX8_isTraverse 15 = .ok (.goto 4, 3) := by decide +kernel
theorem dX8_isTraverse_18 : decode cX8_isTraverse 18 = .ok (.iconst 0, 1) := by decide +kernel
theorem dX8_isTraverse_19 : decode cX8_isTraverse 19 = .ok (.ireturn, 1) := by decide +kernel
theorem dX8_ofWire_0 : decode cX8_ofWire 0 = .ok (.aload_n 0, 1) := by decide +kernel
theorem dX8_ofWire_1 : decode cX8_ofWire 1 = .ok (.getfield 7, 3) := by decide +kernel
theorem dX8_ofWire_4 : decode cX8_ofWire 4 = .ok (.bipush 6, 2) := by decide +kernel
theorem dX8_ofWire_6 : decode cX8_ofWire 6 = .ok (.bipush 12, 2) := by decide +kernel
theorem dX8_ofWire_8 : decode cX8_ofWire 8 = .ok (.iload_n 1, 1) := by decide +kernel
theorem dX8_ofWire_9 : decode cX8_ofWire 9 = .ok (.imul, 1) := by decide +kernel
theorem dX8_ofWire_10 : decode cX8_ofWire 10 = .ok (.iadd, 1) := by decide +kernel
theorem dX8_ofWire_11 : decode cX8_ofWire 11 = .ok (.iload_n 2, 1) := by decide +kernel
theorem dX8_ofWire_12 : decode cX8_ofWire 12 = .ok (.iadd, 1) := by decide +kernel
theorem dX8_ofWire_13 : decode cX8_ofWire 13 = .ok (.iaload, 1) := by decide +kernel
theorem dX8_ofWire_14 : decode cX8_ofWire 14 = .ok (.ireturn, 1) := by decide +kernel
theorem dX8_ofJoin_0 : decode cX8_ofJoin 0 = .ok (.aload_n 0, 1) := by decide +kernel
theorem dX8_ofJoin_1 : decode cX8_ofJoin 1 = .ok (.getfield 7, 3) := by decide +kernel
theorem dX8_ofJoin_4 : decode cX8_ofJoin 4 = .ok (.bipush 78, 2) := by decide +kernel
theorem dX8_ofJoin_6 : decode cX8_ofJoin 6 = .ok (.bipush 6, 2) := by decide +kernel
theorem dX8_ofJoin_8 : decode cX8_ofJoin 8 = .ok (.iload_n 1, 1) := by decide +kernel
theorem dX8_ofJoin_9 : decode cX8_ofJoin 9 = .ok (.imul, 1) := by decide +kernel
theorem dX8_ofJoin_10 : decode cX8_ofJoin 10 = .ok (.iadd, 1) := by decide +kernel
theorem dX8_ofJoin_11 : decode cX8_ofJoin 11 = .ok (.iload_n 2, 1) := by decide +kernel
theorem dX8_ofJoin_12 : decode cX8_ofJoin 12 = .ok (.iadd, 1) := by decide +kernel
theorem dX8_ofJoin_13 : decode cX8_ofJoin 13 = .ok (.iaload, 1) := by decide +kernel
theorem dX8_ofJoin_14 : decode cX8_ofJoin 14 = .ok (.ireturn, 1) := by decide +kernel
theorem dX8_of_0 : decode cX8_of 0 = .ok (.aload_n 0, 1) := by decide +kernel
theorem dX8_of_1 : decode cX8_of 1 = .ok (.getfield 7, 3) := by decide +kernel
theorem dX8_of_4 : decode cX8_of 4 = .ok (.bipush 102, 2) := by decide +kernel
theorem dX8_of_6 : decode cX8_of 6 = .ok (.bipush 28, 2) := by decide +kernel
theorem dX8_of_8 : decode cX8_of 8 = .ok (.iload_n 1, 1) := by decide +kernel
theorem dX8_of_9 : decode cX8_of 9 = .ok (.imul, 1) := by decide +kernel
theorem dX8_of_10 : decode cX8_of 10 = .ok (.iadd, 1) := by decide +kernel
theorem dX8_of_11 : decode cX8_of 11 = .ok (.iload_n 2, 1) := by decide +kernel
theorem dX8_of_12 : decode cX8_of 12 = .ok (.iadd, 1) := by decide +kernel
theorem dX8_of_13 : decode cX8_of 13 = .ok (.iaload, 1) := by decide +kernel
theorem dX8_of_14 : decode cX8_of 14 = .ok (.ireturn, 1) := by decide +kernel
theorem dX8_legs_0 : decode cX8_legs 0 = .ok (.aload_n 0, 1) := by decide +kernel
theorem dX8_legs_1 : decode cX8_legs 1 = .ok (.iload_n 1, 1) := by decide +kernel
theorem dX8_legs_2 : decode cX8_legs 2 = .ok (.iconst 1, 1) := by decide +kernel
theorem dX8_legs_3 : decode cX8_legs 3 = .ok (.invokevirtual 33, 3) := by decide +kernel
theorem dX8_legs_6 : decode cX8_legs 6 = .ok (.ireturn, 1) := by decide +kernel
theorem dX8_isClosed_0 : decode cX8_isClosed 0 = .ok (.aload_n 0, 1) := by decide +kernel
theorem dX8_isClosed_1 : decode cX8_isClosed 1 = .ok (.iload_n 1, 1) := by decide +kernel
theorem dX8_isClosed_2 : decode cX8_isClosed 2 = .ok (.iconst 2, 1) := by decide +kernel
theorem dX8_isClosed_3 : decode cX8_isClosed 3 = .ok (.invokevirtual 33, 3) := by decide +kernel
theorem dX8_isClosed_6 : decode cX8_isClosed 6 = .ok (.ifCond .lt 7, 3) := by decide +kernel
theorem dX8_isClosed_9 : decode cX8_isClosed 9 = .ok (.iconst 1, 1) := by decide +kernel
theorem dX8_isClosed_10 : decode cX8_isClosed 10 = .ok (.goto 4, 3) := by decide +kernel
theorem dX8_isClosed_13 : decode cX8_isClosed 13 = .ok (.iconst 0, 1) := by decide +kernel
theorem dX8_isClosed_14 : decode cX8_isClosed 14 = .ok (.ireturn, 1) := by decide +kernel
theorem dX8_angle_0 : decode cX8_angle 0 = .ok (.aload_n 0, 1) := by decide +kernel
theorem dX8_angle_1 : decode cX8_angle 1 = .ok (.iload_n 1, 1) := by decide +kernel
theorem dX8_angle_2 : decode cX8_angle 2 = .ok (.iconst 4, 1) := by decide +kernel
theorem dX8_angle_3 : decode cX8_angle 3 = .ok (.iconst 2, 1) := by decide +kernel
theorem dX8_angle_4 : decode cX8_angle 4 = .ok (.iload_n 2, 1) := by decide +kernel
theorem dX8_angle_5 : decode cX8_angle 5 = .ok (.imul, 1) := by decide +kernel
theorem dX8_angle_6 : decode cX8_angle 6 = .ok (.iadd, 1) := by decide +kernel
theorem dX8_angle_7 : decode cX8_angle 7 = .ok (.invokevirtual 33, 3) := by decide +kernel
theorem dX8_angle_10 : decode cX8_angle 10 = .ok (.ireturn, 1) := by decide +kernel
theorem dX8_length_0 : decode cX8_length 0 = .ok (.aload_n 0, 1) := by decide +kernel
theorem dX8_length_1 : decode cX8_length 1 = .ok (.iload_n 1, 1) := by decide +kernel
theorem dX8_length_2 : decode cX8_length 2 = .ok (.iconst 5, 1) := by decide +kernel
theorem dX8_length_3 : decode cX8_length 3 = .ok (.iconst 2, 1) := by decide +kernel
theorem dX8_length_4 : decode cX8_length 4 = .ok (.iload_n 2, 1) := by decide +kernel
theorem dX8_length_5 : decode cX8_length 5 = .ok (.imul, 1) := by decide +kernel
theorem dX8_length_6 : decode cX8_length 6 = .ok (.iadd, 1) := by decide +kernel
theorem dX8_length_7 : decode cX8_length 7 = .ok (.invokevirtual 33, 3) := by decide +kernel
theorem dX8_length_10 : decode cX8_length 10 = .ok (.ireturn, 1) := by decide +kernel
theorem dX8_normed_0 : decode cX8_normed 0 = .ok (.lload_n 0, 1) := by decide +kernel
theorem dX8_normed_1 : decode cX8_normed 1 = .ok (.ldc2_w 37, 3) := by decide +kernel
theorem dX8_normed_4 : decode cX8_normed 4 = .ok (.lrem, 1) := by decide +kernel
theorem dX8_normed_5 : decode cX8_normed 5 = .ok (.lstore_n 2, 1) := by decide +kernel
theorem dX8_normed_6 : decode cX8_normed 6 = .ok (.lload_n 2, 1) := by decide +kernel
theorem dX8_normed_7 : decode cX8_normed 7 = .ok (.lconst 0, 1) := by decide +kernel
theorem dX8_normed_8 : decode cX8_normed 8 = .ok (.lcmp, 1) := by decide +kernel
theorem dX8_normed_9 : decode cX8_normed 9 = .ok (.ifCond .ge 11, 3) := by decide +kernel
theorem dX8_normed_12 : decode cX8_normed 12 = .ok (.lload_n 2, 1) := by decide +kernel
theorem dX8_normed_13 : decode cX8_normed 13 = .ok (.ldc2_w 37, 3) := by decide +kernel
theorem dX8_normed_16 : decode cX8_normed 16 = .ok (.ladd, 1) := by decide +kernel
theorem dX8_normed_17 : decode cX8_normed 17 = .ok (.goto 4, 3) := by decide +kernel
theorem dX8_normed_20 : decode cX8_normed 20 = .ok (.lload_n 2, 1) := by decide +kernel
theorem dX8_normed_21 : decode cX8_normed 21 = .ok (.l2i, 1) := by decide +kernel
theorem dX8_normed_22 : decode cX8_normed 22 = .ok (.ireturn, 1) := by decide +kernel
theorem dX8_centred_0 : decode cX8_centred 0 = .ok (.lload_n 0, 1) := by decide +kernel
theorem dX8_centred_1 : decode cX8_centred 1 = .ok (.invokestatic 39, 3) := by decide +kernel
theorem dX8_centred_4 : decode cX8_centred 4 = .ok (.istore_n 2, 1) := by decide +kernel
theorem dX8_centred_5 : decode cX8_centred 5 = .ok (.iload_n 2, 1) := by decide +kernel
theorem dX8_centred_6 : decode cX8_centred 6 = .ok (.ldc 43, 2) := by decide +kernel
theorem dX8_centred_8 : decode cX8_centred 8 = .ok (.if_icmp .ge 7, 3) := by decide +kernel
theorem dX8_centred_11 : decode cX8_centred 11 = .ok (.iload_n 2, 1) := by decide +kernel
theorem dX8_centred_12 : decode cX8_centred 12 = .ok (.goto 7, 3) := by decide +kernel
theorem dX8_centred_15 : decode cX8_centred 15 = .ok (.iload_n 2, 1) := by decide +kernel
theorem dX8_centred_16 : decode cX8_centred 16 = .ok (.ldc 44, 2) := by decide +kernel
theorem dX8_centred_18 : decode cX8_centred 18 = .ok (.isub, 1) := by decide +kernel
theorem dX8_centred_19 : decode cX8_centred 19 = .ok (.ireturn, 1) := by decide +kernel
theorem dX8_sineOf_0 : decode cX8_sineOf 0 = .ok (.lload_n 0, 1) := by decide +kernel
theorem dX8_sineOf_1 : decode cX8_sineOf 1 = .ok (.invokestatic 39, 3) := by decide +kernel
theorem dX8_sineOf_4 : decode cX8_sineOf 4 = .ok (.i2l, 1) := by decide +kernel
theorem dX8_sineOf_5 : decode cX8_sineOf 5 = .ok (.lstore_n 2, 1) := by decide +kernel
theorem dX8_sineOf_6 : decode cX8_sineOf 6 = .ok (.lload_n 2, 1) := by decide +kernel
theorem dX8_sineOf_7 : decode cX8_sineOf 7 = .ok (.ldc2_w 45, 3) := by decide +kernel
theorem dX8_sineOf_10 : decode cX8_sineOf 10 = .ok (.lcmp, 1) := by decide +kernel
theorem dX8_sineOf_11 : decode cX8_sineOf 11 = .ok (.ifCond .ge 7, 3) := by decide +kernel
theorem dX8_sineOf_14 : decode cX8_sineOf 14 = .ok (.lload_n 2, 1) := by decide +kernel
theorem dX8_sineOf_15 : decode cX8_sineOf 15 = .ok (.goto 8, 3) := by decide +kernel
theorem dX8_sineOf_18 : decode cX8_sineOf 18 = .ok (.lload_n 2, 1) := by decide +kernel
theorem dX8_sineOf_19 : decode cX8_sineOf 19 = .ok (.ldc2_w 45, 3) := by decide +kernel
theorem dX8_sineOf_22 : decode cX8_sineOf 22 = .ok (.lsub, 1) := by decide +kernel
theorem dX8_sineOf_23 : decode cX8_sineOf 23 = .ok (.lstore 4, 2) := by decide +kernel
theorem dX8_sineOf_25 : decode cX8_sineOf 25 = .ok (.lload 4, 2) := by decide +kernel
theorem dX8_sineOf_27 : decode cX8_sineOf 27 = .ok (.ldc2_w 45, 3) := by decide +kernel
theorem dX8_sineOf_30 : decode cX8_sineOf 30 = .ok (.lload 4, 2) := by decide +kernel
theorem dX8_sineOf_32 : decode cX8_sineOf 32 = .ok (.lsub, 1) := by decide +kernel
theorem dX8_sineOf_33 : decode cX8_sineOf 33 = .ok (.lmul, 1) := by decide +kernel
theorem dX8_sineOf_34 : decode cX8_sineOf 34 = .ok (.lstore 6, 2) := by decide +kernel
theorem dX8_sineOf_36 : decode cX8_sineOf 36 = .ok (.ldc2_w 47, 3) := by decide +kernel
theorem dX8_sineOf_39 : decode cX8_sineOf 39 = .ok (.lload 6, 2) := by decide +kernel
theorem dX8_sineOf_41 : decode cX8_sineOf 41 = .ok (.lmul, 1) := by decide +kernel
theorem dX8_sineOf_42 : decode cX8_sineOf 42 = .ok (.ldc2_w 49, 3) := by decide +kernel
theorem dX8_sineOf_45 : decode cX8_sineOf 45 = .ok (.lload 6, 2) := by decide +kernel
theorem dX8_sineOf_47 : decode cX8_sineOf 47 = .ok (.lsub, 1) := by decide +kernel
theorem dX8_sineOf_48 : decode cX8_sineOf 48 = .ok (.ldiv, 1) := by decide +kernel
theorem dX8_sineOf_49 : decode cX8_sineOf 49 = .ok (.l2i, 1) := by decide +kernel
theorem dX8_sineOf_50 : decode cX8_sineOf 50 = .ok (.istore 8, 2) := by decide +kernel
theorem dX8_sineOf_52 : decode cX8_sineOf 52 = .ok (.lload_n 2, 1) := by decide +kernel
theorem dX8_sineOf_53 : decode cX8_sineOf 53 = .ok (.ldc2_w 45, 3) := by decide +kernel
theorem dX8_sineOf_56 : decode cX8_sineOf 56 = .ok (.lcmp, 1) := by decide +kernel
theorem dX8_sineOf_57 : decode cX8_sineOf 57 = .ok (.ifCond .ge 8, 3) := by decide +kernel
theorem dX8_sineOf_60 : decode cX8_sineOf 60 = .ok (.iload 8, 2) := by decide +kernel
theorem dX8_sineOf_62 : decode cX8_sineOf 62 = .ok (.goto 6, 3) := by decide +kernel
theorem dX8_sineOf_65 : decode cX8_sineOf 65 = .ok (.iload 8, 2) := by decide +kernel
theorem dX8_sineOf_67 : decode cX8_sineOf 67 = .ok (.ineg, 1) := by decide +kernel
theorem dX8_sineOf_68 : decode cX8_sineOf 68 = .ok (.ireturn, 1) := by decide +kernel
theorem dX8_cosineOf_0 : decode cX8_cosineOf 0 = .ok (.lload_n 0, 1) := by decide +kernel
theorem dX8_cosineOf_1 : decode cX8_cosineOf 1 = .ok (.ldc2_w 51, 3) := by decide +kernel
theorem dX8_cosineOf_4 : decode cX8_cosineOf 4 = .ok (.ladd, 1) := by decide +kernel
theorem dX8_cosineOf_5 : decode cX8_cosineOf 5 = .ok (.invokestatic 53, 3) := by decide +kernel
theorem dX8_cosineOf_8 : decode cX8_cosineOf 8 = .ok (.ireturn, 1) := by decide +kernel
theorem dX8_root_0 : decode cX8_root 0 = .ok (.lconst 0, 1) := by decide +kernel
theorem dX8_root_1 : decode cX8_root 1 = .ok (.lstore_n 2, 1) := by decide +kernel
theorem dX8_root_2 : decode cX8_root 2 = .ok (.ldc2_w 56, 3) := by decide +kernel
theorem dX8_root_5 : decode cX8_root 5 = .ok (.lstore 4, 2) := by decide +kernel
theorem dX8_root_7 : decode cX8_root 7 = .ok (.lload_n 2, 1) := by decide +kernel
theorem dX8_root_8 : decode cX8_root 8 = .ok (.lload 4, 2) := by decide +kernel
theorem dX8_root_10 : decode cX8_root 10 = .ok (.lcmp, 1) := by decide +kernel
theorem dX8_root_11 : decode cX8_root 11 = .ok (.ifCond .ge 56, 3) := by decide +kernel
theorem dX8_root_14 : decode cX8_root 14 = .ok (.lload_n 2, 1) := by decide +kernel
theorem dX8_root_15 : decode cX8_root 15 = .ok (.lload 4, 2) := by decide +kernel
theorem dX8_root_17 : decode cX8_root 17 = .ok (.ladd, 1) := by decide +kernel
theorem dX8_root_18 : decode cX8_root 18 = .ok (.lconst 1, 1) := by decide +kernel
theorem dX8_root_19 : decode cX8_root 19 = .ok (.ladd, 1) := by decide +kernel
theorem dX8_root_20 : decode cX8_root 20 = .ok (.ldc2_w 58, 3) := by decide +kernel
theorem dX8_root_23 : decode cX8_root 23 = .ok (.ldiv, 1) := by decide +kernel
theorem dX8_root_24 : decode cX8_root 24 = .ok (.lstore 6, 2) := by decide +kernel
theorem dX8_root_26 : decode cX8_root 26 = .ok (.lload 6, 2) := by decide +kernel
theorem dX8_root_28 : decode cX8_root 28 = .ok (.lload 6, 2) := by decide +kernel
theorem dX8_root_30 : decode cX8_root 30 = .ok (.lmul, 1) := by decide +kernel
theorem dX8_root_31 : decode cX8_root 31 = .ok (.lload_n 0, 1) := by decide +kernel
theorem dX8_root_32 : decode cX8_root 32 = .ok (.lcmp, 1) := by decide +kernel
theorem dX8_root_33 : decode cX8_root 33 = .ok (.ifCond .gt 8, 3) := by decide +kernel
theorem dX8_root_36 : decode cX8_root 36 = .ok (.lload 6, 2) := by decide +kernel
theorem dX8_root_38 : decode cX8_root 38 = .ok (.goto 4, 3) := by decide +kernel
theorem dX8_root_41 : decode cX8_root 41 = .ok (.lload_n 2, 1) := by decide +kernel
theorem dX8_root_42 : decode cX8_root 42 = .ok (.lstore_n 2, 1) := by decide +kernel
theorem dX8_root_43 : decode cX8_root 43 = .ok (.lload 6, 2) := by decide +kernel
theorem dX8_root_45 : decode cX8_root 45 = .ok (.lload 6, 2) := by decide +kernel
theorem dX8_root_47 : decode cX8_root 47 = .ok (.lmul, 1) := by decide +kernel
theorem dX8_root_48 : decode cX8_root 48 = .ok (.lload_n 0, 1) := by decide +kernel
theorem dX8_root_49 : decode cX8_root 49 = .ok (.lcmp, 1) := by decide +kernel
theorem dX8_root_50 : decode cX8_root 50 = .ok (.ifCond .gt 8, 3) := by decide +kernel
theorem dX8_root_53 : decode cX8_root 53 = .ok (.lload 4, 2) := by decide +kernel
theorem dX8_root_55 : decode cX8_root 55 = .ok (.goto 7, 3) := by decide +kernel
theorem dX8_root_58 : decode cX8_root 58 = .ok (.lload 6, 2) := by decide +kernel
theorem dX8_root_60 : decode cX8_root 60 = .ok (.lconst 1, 1) := by decide +kernel
theorem dX8_root_61 : decode cX8_root 61 = .ok (.lsub, 1) := by decide +kernel
theorem dX8_root_62 : decode cX8_root 62 = .ok (.lstore 4, 2) := by decide +kernel
theorem dX8_root_64 : decode cX8_root 64 = .ok (.goto (-57), 3) := by decide +kernel
theorem dX8_root_67 : decode cX8_root 67 = .ok (.lload_n 2, 1) := by decide +kernel
theorem dX8_root_68 : decode cX8_root 68 = .ok (.l2i, 1) := by decide +kernel
theorem dX8_root_69 : decode cX8_root 69 = .ok (.ireturn, 1) := by decide +kernel
theorem dX8_size_0 : decode cX8_size 0 = .ok (.iload_n 0, 1) := by decide +kernel
theorem dX8_size_1 : decode cX8_size 1 = .ok (.ifCond .ge 8, 3) := by decide +kernel
theorem dX8_size_4 : decode cX8_size 4 = .ok (.iload_n 0, 1) := by decide +kernel
theorem dX8_size_5 : decode cX8_size 5 = .ok (.ineg, 1) := by decide +kernel
theorem dX8_size_6 : decode cX8_size 6 = .ok (.goto 4, 3) := by decide +kernel
theorem dX8_size_9 : decode cX8_size 9 = .ok (.iload_n 0, 1) := by decide +kernel
theorem dX8_size_10 : decode cX8_size 10 = .ok (.ireturn, 1) := by decide +kernel
theorem dX8_set_0 : decode cX8_set 0 = .ok (.iload_n 1, 1) := by decide +kernel
theorem dX8_set_1 : decode cX8_set 1 = .ok (.ifCond .ne 15, 3) := by decide +kernel
theorem dX8_set_4 : decode cX8_set 4 = .ok (.iload_n 2, 1) := by decide +kernel
theorem dX8_set_5 : decode cX8_set 5 = .ok (.i2l, 1) := by decide +kernel
theorem dX8_set_6 : decode cX8_set 6 = .ok (.lconst 0, 1) := by decide +kernel
theorem dX8_set_7 : decode cX8_set 7 = .ok (.ldc2_w 60, 3) := by decide +kernel
theorem dX8_set_10 : decode cX8_set 10 = .ok (.invokestatic 62, 3) := by decide +kernel
theorem dX8_set_13 : decode cX8_set 13 = .ok (.goto 42, 3) := by decide +kernel
theorem dX8_set_16 : decode cX8_set 16 = .ok (.iload_n 1, 1) := by decide +kernel
theorem dX8_set_17 : decode cX8_set 17 = .ok (.iconst 1, 1) := by decide +kernel
theorem dX8_set_18 : decode cX8_set 18 = .ok (.if_icmp .ne 15, 3) := by decide +kernel
theorem dX8_set_21 : decode cX8_set 21 = .ok (.iload_n 2, 1) := by decide +kernel
theorem dX8_set_22 : decode cX8_set 22 = .ok (.i2l, 1) := by decide +kernel
theorem dX8_set_23 : decode cX8_set 23 = .ok (.lconst 1, 1) := by decide +kernel
theorem dX8_set_24 : decode cX8_set 24 = .ok (.ldc2_w 66, 3) := by decide +kernel
theorem dX8_set_27 : decode cX8_set 27 = .ok (.invokestatic 62, 3) := by decide +kernel
theorem dX8_set_30 : decode cX8_set 30 = .ok (.goto 25, 3) := by decide +kernel
theorem dX8_set_33 : decode cX8_set 33 = .ok (.iload_n 1, 1) := by decide +kernel
theorem dX8_set_34 : decode cX8_set 34 = .ok (.iconst 2, 1) := by decide +kernel
theorem dX8_set_35 : decode cX8_set 35 = .ok (.if_icmp .ne 19, 3) := by decide +kernel
theorem dX8_set_38 : decode cX8_set 38 = .ok (.iload_n 2, 1) := by decide +kernel
theorem dX8_set_39 : decode cX8_set 39 = .ok (.i2l, 1) := by decide +kernel
theorem dX8_set_40 : decode cX8_set 40 = .ok (.lconst 0, 1) := by decide +kernel
theorem dX8_set_41 : decode cX8_set 41 = .ok (.ldc2_w 68, 3) := by decide +kernel
theorem dX8_set_44 : decode cX8_set 44 = .ok (.invokestatic 62, 3) := by decide +kernel
theorem dX8_set_47 : decode cX8_set 47 = .ok (.ifCond .eq 7, 3) := by decide +kernel
theorem dX8_set_50 : decode cX8_set 50 = .ok (.iconst 1, 1) := by decide +kernel
theorem dX8_set_51 : decode cX8_set 51 = .ok (.goto 4, 3) := by decide +kernel
theorem dX8_set_54 : decode cX8_set 54 = .ok (.iconst 0, 1) := by decide +kernel
theorem dX8_set_55 : decode cX8_set 55 = .ok (.istore_n 3, 1) := by decide +kernel
theorem dX8_set_56 : decode cX8_set 56 = .ok (.aload_n 0, 1) := by decide +kernel
theorem dX8_set_57 : decode cX8_set 57 = .ok (.iload_n 3, 1) := by decide +kernel
theorem dX8_set_58 : decode cX8_set 58 = .ok (.ifCond .eq 7, 3) := by decide +kernel
theorem dX8_set_61 : decode cX8_set 61 = .ok (.iconst 0, 1) := by decide +kernel
theorem dX8_set_62 : decode cX8_set 62 = .ok (.goto 4, 3) := by decide +kernel
theorem dX8_set_65 : decode cX8_set 65 = .ok (.iconst 1, 1) := by decide +kernel
theorem dX8_set_66 : decode cX8_set 66 = .ok (.invokevirtual 70, 3) := by decide +kernel
theorem dX8_set_69 : decode cX8_set 69 = .ok (.ifCond .eq 5, 3) := by decide +kernel
theorem dX8_set_72 : decode cX8_set 72 = .ok (.iconst 0, 1) := by decide +kernel
theorem dX8_set_73 : decode cX8_set 73 = .ok (.ireturn, 1) := by decide +kernel
theorem dX8_set_74 : decode cX8_set 74 = .ok (.aload_n 0, 1) := by decide +kernel
theorem dX8_set_75 : decode cX8_set 75 = .ok (.invokevirtual 74, 3) := by decide +kernel
theorem dX8_set_78 : decode cX8_set 78 = .ok (.aload_n 0, 1) := by decide +kernel
theorem dX8_set_79 : decode cX8_set 79 = .ok (.getfield 7, 3) := by decide +kernel
theorem dX8_set_82 : decode cX8_set 82 = .ok (.iload_n 1, 1) := by decide +kernel
theorem dX8_set_83 : decode cX8_set 83 = .ok (.iaload, 1) := by decide +kernel
theorem dX8_set_84 : decode cX8_set 84 = .ok (.istore 4, 2) := by decide +kernel
theorem dX8_set_86 : decode cX8_set 86 = .ok (.aload_n 0, 1) := by decide +kernel
theorem dX8_set_87 : decode cX8_set 87 = .ok (.getfield 7, 3) := by decide +kernel
theorem dX8_set_90 : decode cX8_set 90 = .ok (.iload_n 1, 1) := by decide +kernel
theorem dX8_set_91 : decode cX8_set 91 = .ok (.iload_n 2, 1) := by decide +kernel
theorem dX8_set_92 : decode cX8_set 92 = .ok (.iastore, 1) := by decide +kernel
theorem dX8_set_93 : decode cX8_set 93 = .ok (.iload 4, 2) := by decide +kernel
theorem dX8_set_95 : decode cX8_set 95 = .ok (.ireturn, 1) := by decide +kernel
theorem dX8_infoOf_0 : decode cX8_infoOf 0 = .ok (.iconst 0, 1) := by decide +kernel
theorem dX8_infoOf_1 : decode cX8_infoOf 1 = .ok (.istore_n 2, 1) := by decide +kernel
theorem dX8_infoOf_2 : decode cX8_infoOf 2 = .ok (.iconst 0, 1) := by decide +kernel
theorem dX8_infoOf_3 : decode cX8_infoOf 3 = .ok (.istore_n 3, 1) := by decide +kernel
theorem dX8_infoOf_4 : decode cX8_infoOf 4 = .ok (.iload_n 3, 1) := by decide +kernel
theorem dX8_infoOf_5 : decode cX8_infoOf 5 = .ok (.aload_n 0, 1) := by decide +kernel
theorem dX8_infoOf_6 : decode cX8_infoOf 6 = .ok (.getfield 7, 3) := by decide +kernel
theorem dX8_infoOf_9 : decode cX8_infoOf 9 = .ok (.iconst 5, 1) := by decide +kernel
theorem dX8_infoOf_10 : decode cX8_infoOf 10 = .ok (.iaload, 1) := by decide +kernel
theorem dX8_infoOf_11 : decode cX8_infoOf 11 = .ok (.if_icmp .ge 23, 3) := by decide +kernel
theorem dX8_infoOf_14 : decode cX8_infoOf 14 = .ok (.iload_n 1, 1) := by decide +kernel
theorem dX8_infoOf_15 : decode cX8_infoOf 15 = .ok (.bipush 6, 2) := by decide +kernel
theorem dX8_infoOf_17 : decode cX8_infoOf 17 = .ok (.if_icmp .ne 17, 3) := by decide +kernel
theorem dX8_infoOf_20 : decode cX8_infoOf 20 = .ok (.iload_n 2, 1) := by decide +kernel
theorem dX8_infoOf_21 : decode cX8_infoOf 21 = .ok (.aload_n 0, 1) := by decide +kernel
theorem dX8_infoOf_22 : decode cX8_infoOf 22 = .ok (.iload_n 3, 1) := by decide +kernel
theorem dX8_infoOf_23 : decode cX8_infoOf 23 = .ok (.invokevirtual 77, 3) := by decide +kernel
theorem dX8_infoOf_26 : decode cX8_infoOf 26 = .ok (.iadd, 1) := by decide +kernel
theorem dX8_infoOf_27 : decode cX8_infoOf 27 = .ok (.istore_n 2, 1) := by decide +kernel
theorem dX8_infoOf_28 : decode cX8_infoOf 28 = .ok (.iinc 3 1, 3) := by decide +kernel
theorem dX8_infoOf_31 : decode cX8_infoOf 31 = .ok (.goto (-27), 3) := by decide +kernel
theorem dX8_infoOf_34 : decode cX8_infoOf 34 = .ok (.iconst 0, 1) := by decide +kernel
theorem dX8_infoOf_35 : decode cX8_infoOf 35 = .ok (.istore_n 3, 1) := by decide +kernel
theorem dX8_infoOf_36 : decode cX8_infoOf 36 = .ok (.iload_n 3, 1) := by decide +kernel
theorem dX8_infoOf_37 : decode cX8_infoOf 37 = .ok (.aload_n 0, 1) := by decide +kernel
theorem dX8_infoOf_38 : decode cX8_infoOf 38 = .ok (.getfield 7, 3) := by decide +kernel
theorem dX8_infoOf_41 : decode cX8_infoOf 41 = .ok (.iconst 3, 1) := by decide +kernel
theorem dX8_infoOf_42 : decode cX8_infoOf 42 = .ok (.iaload, 1) := by decide +kernel
theorem dX8_infoOf_43 : decode cX8_infoOf 43 = .ok (.if_icmp .ge 24, 3) := by decide +kernel
theorem dX8_infoOf_46 : decode cX8_infoOf 46 = .ok (.iload_n 1, 1) := by decide +kernel
theorem dX8_infoOf_47 : decode cX8_infoOf 47 = .ok (.bipush 7, 2) := by decide +kernel
theorem dX8_infoOf_49 : decode cX8_infoOf 49 = .ok (.if_icmp .ne 18, 3) := by decide +kernel
theorem dX8_infoOf_52 : decode cX8_infoOf 52 = .ok (.iload_n 2, 1) := by decide +kernel
theorem dX8_infoOf_53 : decode cX8_infoOf 53 = .ok (.aload_n 0, 1) := by decide +kernel
theorem dX8_infoOf_54 : decode cX8_infoOf 54 = .ok (.iload_n 3, 1) := by decide +kernel
theorem dX8_infoOf_55 : decode cX8_infoOf 55 = .ok (.iconst 2, 1) := by decide +kernel
theorem dX8_infoOf_56 : decode cX8_infoOf 56 = .ok (.invokevirtual 81, 3) := by decide +kernel
theorem dX8_infoOf_59 : decode cX8_infoOf 59 = .ok (.iadd, 1) := by decide +kernel
theorem dX8_infoOf_60 : decode cX8_infoOf 60 = .ok (.istore_n 2, 1) := by decide +kernel
theorem dX8_infoOf_61 : decode cX8_infoOf 61 = .ok (.iinc 3 1, 3) := by decide +kernel
theorem dX8_infoOf_64 : decode cX8_infoOf 64 = .ok (.goto (-28), 3) := by decide +kernel
theorem dX8_infoOf_67 : decode cX8_infoOf 67 = .ok (.iload_n 1, 1) := by decide +kernel
theorem dX8_infoOf_68 : decode cX8_infoOf 68 = .ok (.bipush 6, 2) := by decide +kernel
theorem dX8_infoOf_70 : decode cX8_infoOf 70 = .ok (.if_icmp .ge 12, 3) := by decide +kernel
theorem dX8_infoOf_73 : decode cX8_infoOf 73 = .ok (.aload_n 0, 1) := by decide +kernel
theorem dX8_infoOf_74 : decode cX8_infoOf 74 = .ok (.getfield 7, 3) := by decide +kernel
theorem dX8_infoOf_77 : decode cX8_infoOf 77 = .ok (.iload_n 1, 1) := by decide +kernel
theorem dX8_infoOf_78 : decode cX8_infoOf 78 = .ok (.iaload, 1) := by decide +kernel
theorem dX8_infoOf_79 : decode cX8_infoOf 79 = .ok (.goto 4, 3) := by decide +kernel
theorem dX8_infoOf_82 : decode cX8_infoOf 82 = .ok (.iload_n 2, 1) := by decide +kernel
theorem dX8_infoOf_83 : decode cX8_infoOf 83 = .ok (.ireturn, 1) := by decide +kernel
theorem dX8_info_0 : decode cX8_info 0 = .ok (.aload_n 0, 1) := by decide +kernel
theorem dX8_info_1 : decode cX8_info 1 = .ok (.iload_n 1, 1) := by decide +kernel
theorem dX8_info_2 : decode cX8_info 2 = .ok (.i2l, 1) := by decide +kernel
theorem dX8_info_3 : decode cX8_info 3 = .ok (.lconst 0, 1) := by decide +kernel
theorem dX8_info_4 : decode cX8_info 4 = .ok (.ldc2_w 84, 3) := by decide +kernel
theorem dX8_info_7 : decode cX8_info 7 = .ok (.invokestatic 62, 3) := by decide +kernel
theorem dX8_info_10 : decode cX8_info 10 = .ok (.ifCond .eq 7, 3) := by decide +kernel
theorem dX8_info_13 : decode cX8_info 13 = .ok (.iconst 0, 1) := by decide +kernel
theorem dX8_info_14 : decode cX8_info 14 = .ok (.goto 4, 3) := by decide +kernel
theorem dX8_info_17 : decode cX8_info 17 = .ok (.iconst 1, 1) := by decide +kernel
theorem dX8_info_18 : decode cX8_info 18 = .ok (.invokevirtual 70, 3) := by decide +kernel
theorem dX8_info_21 : decode cX8_info 21 = .ok (.ifCond .eq 7, 3) := by decide +kernel
theorem dX8_info_24 : decode cX8_info 24 = .ok (.iconst 0, 1) := by decide +kernel
theorem dX8_info_25 : decode cX8_info 25 = .ok (.goto 8, 3) := by decide +kernel
theorem dX8_info_28 : decode cX8_info 28 = .ok (.aload_n 0, 1) := by decide +kernel
theorem dX8_info_29 : decode cX8_info 29 = .ok (.iload_n 1, 1) := by decide +kernel
theorem dX8_info_30 : decode cX8_info 30 = .ok (.invokevirtual 86, 3) := by decide +kernel
theorem dX8_info_33 : decode cX8_info 33 = .ok (.ireturn, 1) := by decide +kernel
theorem dX8_isFar_0 : decode cX8_isFar 0 = .ok (.iload_n 0, 1) := by decide +kernel
theorem dX8_isFar_1 : decode cX8_isFar 1 = .ok (.i2l, 1) := by decide +kernel
theorem dX8_isFar_2 : decode cX8_isFar 2 = .ok (.ldc2_w 89, 3) := by decide +kernel
theorem dX8_isFar_5 : decode cX8_isFar 5 = .ok (.ldc2_w 91, 3) := by decide +kernel
theorem dX8_isFar_8 : decode cX8_isFar 8 = .ok (.invokestatic 62, 3) := by decide +kernel
theorem dX8_isFar_11 : decode cX8_isFar 11 = .ok (.ireturn, 1) := by decide +kernel
theorem dX8_hang_0 : decode cX8_hang 0 = .ok (.aload_n 0, 1) := by decide +kernel
theorem dX8_hang_1 : decode cX8_hang 1 = .ok (.iload_n 1, 1) := by decide +kernel
theorem dX8_hang_2 : decode cX8_hang 2 = .ok (.invokestatic 93, 3) := by decide +kernel
theorem dX8_hang_5 : decode cX8_hang 5 = .ok (.ifCond .eq 10, 3) := by decide +kernel
theorem dX8_hang_8 : decode cX8_hang 8 = .ok (.iload_n 2, 1) := by decide +kernel
theorem dX8_hang_9 : decode cX8_hang 9 = .ok (.invokestatic 93, 3) := by decide +kernel
theorem dX8_hang_12 : decode cX8_hang 12 = .ok (.ifCond .ne 7, 3) := by decide +kernel
theorem dX8_hang_15 : decode cX8_hang 15 = .ok (.iconst 1, 1) := by decide +kernel
theorem dX8_hang_16 : decode cX8_hang 16 = .ok (.goto 19, 3) := by decide +kernel
theorem dX8_hang_19 : decode cX8_hang 19 = .ok (.aload_n 0, 1) := by decide +kernel
theorem dX8_hang_20 : decode cX8_hang 20 = .ok (.getfield 7, 3) := by decide +kernel
theorem dX8_hang_23 : decode cX8_hang 23 = .ok (.iconst 3, 1) := by decide +kernel
theorem dX8_hang_24 : decode cX8_hang 24 = .ok (.iaload, 1) := by decide +kernel
theorem dX8_hang_25 : decode cX8_hang 25 = .ok (.bipush 6, 2) := by decide +kernel
theorem dX8_hang_27 : decode cX8_hang 27 = .ok (.if_icmp .ne 7, 3) := by decide +kernel
theorem dX8_hang_30 : decode cX8_hang 30 = .ok (.iconst 2, 1) := by decide +kernel
theorem dX8_hang_31 : decode cX8_hang 31 = .ok (.goto 4, 3) := by decide +kernel
theorem dX8_hang_34 : decode cX8_hang 34 = .ok (.iconst 0, 1) := by decide +kernel
theorem dX8_hang_35 : decode cX8_hang 35 = .ok (.invokevirtual 70, 3) := by decide +kernel
theorem dX8_hang_38 : decode cX8_hang 38 = .ok (.ifCond .eq 5, 3) := by decide +kernel
theorem dX8_hang_41 : decode cX8_hang 41 = .ok (.iconst 0, 1) := by decide +kernel
theorem dX8_hang_42 : decode cX8_hang 42 = .ok (.ireturn, 1) := by decide +kernel
theorem dX8_hang_43 : decode cX8_hang 43 = .ok (.aload_n 0, 1) := by decide +kernel
theorem dX8_hang_44 : decode cX8_hang 44 = .ok (.invokevirtual 74, 3) := by decide +kernel
theorem dX8_hang_47 : decode cX8_hang 47 = .ok (.bipush 6, 2) := by decide +kernel
theorem dX8_hang_49 : decode cX8_hang 49 = .ok (.bipush 12, 2) := by decide +kernel
theorem dX8_hang_51 : decode cX8_hang 51 = .ok (.aload_n 0, 1) := by decide +kernel
theorem dX8_hang_52 : decode cX8_hang 52 = .ok (.getfield 7, 3) := by decide +kernel
theorem dX8_hang_55 : decode cX8_hang 55 = .ok (.iconst 3, 1) := by decide +kernel
theorem dX8_hang_56 : decode cX8_hang 56 = .ok (.iaload, 1) := by decide +kernel
theorem dX8_hang_57 : decode cX8_hang 57 = .ok (.imul, 1) := by decide +kernel
theorem dX8_hang_58 : decode cX8_hang 58 = .ok (.iadd, 1) := by decide +kernel
theorem dX8_hang_59 : decode cX8_hang 59 = .ok (.istore_n 3, 1) := by decide +kernel
theorem dX8_hang_60 : decode cX8_hang 60 = .ok (.aload_n 0, 1) := by decide +kernel
theorem dX8_hang_61 : decode cX8_hang 61 = .ok (.getfield 7, 3) := by decide +kernel
theorem dX8_hang_64 : decode cX8_hang 64 = .ok (.iload_n 3, 1) := by decide +kernel
theorem dX8_hang_65 : decode cX8_hang 65 = .ok (.iload_n 1, 1) := by decide +kernel
theorem dX8_hang_66 : decode cX8_hang 66 = .ok (.iastore, 1) := by decide +kernel
theorem dX8_hang_67 : decode cX8_hang 67 = .ok (.aload_n 0, 1) := by decide +kernel
theorem dX8_hang_68 : decode cX8_hang 68 = .ok (.getfield 7, 3) := by decide +kernel
theorem dX8_hang_71 : decode cX8_hang 71 = .ok (.iload_n 3, 1) := by decide +kernel
theorem dX8_hang_72 : decode cX8_hang 72 = .ok (.iconst 1, 1) := by decide +kernel
theorem dX8_hang_73 : decode cX8_hang 73 = .ok (.iadd, 1) := by decide +kernel
theorem dX8_hang_74 : decode cX8_hang 74 = .ok (.iload_n 2, 1) := by decide +kernel
theorem dX8_hang_75 : decode cX8_hang 75 = .ok (.iastore, 1) := by decide +kernel
theorem dX8_hang_76 : decode cX8_hang 76 = .ok (.aload_n 0, 1) := by decide +kernel
theorem dX8_hang_77 : decode cX8_hang 77 = .ok (.getfield 7, 3) := by decide +kernel
theorem dX8_hang_80 : decode cX8_hang 80 = .ok (.iload_n 3, 1) := by decide +kernel
theorem dX8_hang_81 : decode cX8_hang 81 = .ok (.iconst 2, 1) := by decide +kernel
theorem dX8_hang_82 : decode cX8_hang 82 = .ok (.iadd, 1) := by decide +kernel
theorem dX8_hang_83 : decode cX8_hang 83 = .ok (.iconst 0, 1) := by decide +kernel
theorem dX8_hang_84 : decode cX8_hang 84 = .ok (.iastore, 1) := by decide +kernel
theorem dX8_hang_85 : decode cX8_hang 85 = .ok (.aload_n 0, 1) := by decide +kernel
theorem dX8_hang_86 : decode cX8_hang 86 = .ok (.getfield 7, 3) := by decide +kernel
theorem dX8_hang_89 : decode cX8_hang 89 = .ok (.iconst 3, 1) := by decide +kernel
theorem dX8_hang_90 : decode cX8_hang 90 = .ok (.dup2, 1) := by decide +kernel
theorem dX8_hang_91 : decode cX8_hang 91 = .ok (.iaload, 1) := by decide +kernel
theorem dX8_hang_92 : decode cX8_hang 92 = .ok (.iconst 1, 1) := by decide +kernel
theorem dX8_hang_93 : decode cX8_hang 93 = .ok (.iadd, 1) := by decide +kernel
theorem dX8_hang_94 : decode cX8_hang 94 = .ok (.iastore, 1) := by decide +kernel
theorem dX8_hang_95 : decode cX8_hang 95 = .ok (.aload_n 0, 1) := by decide +kernel
theorem dX8_hang_96 : decode cX8_hang 96 = .ok (.getfield 7, 3) := by decide +kernel
theorem dX8_hang_99 : decode cX8_hang 99 = .ok (.iconst 3, 1) := by decide +kernel
theorem dX8_hang_100 : decode cX8_hang 100 = .ok (.iaload, 1) := by decide +kernel
theorem dX8_hang_101 : decode cX8_hang 101 = .ok (.iconst 1, 1) := by decide +kernel
theorem dX8_hang_102 : decode cX8_hang 102 = .ok (.isub, 1) := by decide +kernel
theorem dX8_hang_103 : decode cX8_hang 103 = .ok (.ireturn, 1) := by decide +kernel
theorem dX8_swing_0 : decode cX8_swing 0 = .ok (.aload_n 0, 1) := by decide +kernel
theorem dX8_swing_1 : decode cX8_swing 1 = .ok (.aload_n 0, 1) := by decide +kernel
theorem dX8_swing_2 : decode cX8_swing 2 = .ok (.iload_n 1, 1) := by decide +kernel
theorem dX8_swing_3 : decode cX8_swing 3 = .ok (.invokevirtual 96, 3) := by decide +kernel
theorem dX8_swing_6 : decode cX8_swing 6 = .ok (.ifCond .ne 7, 3) := by decide +kernel
theorem dX8_swing_9 : decode cX8_swing 9 = .ok (.iconst 1, 1) := by decide +kernel
theorem dX8_swing_10 : decode cX8_swing 10 = .ok (.goto 35, 3) := by decide +kernel
theorem dX8_swing_13 : decode cX8_swing 13 = .ok (.iload_n 2, 1) := by decide +kernel
theorem dX8_swing_14 : decode cX8_swing 14 = .ok (.i2l, 1) := by decide +kernel
theorem dX8_swing_15 : decode cX8_swing 15 = .ok (.lconst 0, 1) := by decide +kernel
theorem dX8_swing_16 : decode cX8_swing 16 = .ok (.ldc2_w 60, 3) := by decide +kernel
theorem dX8_swing_19 : decode cX8_swing 19 = .ok (.invokestatic 62, 3) := by decide +kernel
theorem dX8_swing_22 : decode cX8_swing 22 = .ok (.ifCond .ne 7, 3) := by decide +kernel
theorem dX8_swing_25 : decode cX8_swing 25 = .ok (.iconst 2, 1) := by decide +kernel
theorem dX8_swing_26 : decode cX8_swing 26 = .ok (.goto 19, 3) := by decide +kernel
theorem dX8_swing_29 : decode cX8_swing 29 = .ok (.aload_n 0, 1) := by decide +kernel
theorem dX8_swing_30 : decode cX8_swing 30 = .ok (.iload_n 1, 1) := by decide +kernel
theorem dX8_swing_31 : decode cX8_swing 31 = .ok (.iconst 2, 1) := by decide +kernel
theorem dX8_swing_32 : decode cX8_swing 32 = .ok (.invokevirtual 81, 3) := by decide +kernel
theorem dX8_swing_35 : decode cX8_swing 35 = .ok (.bipush 9, 2) := by decide +kernel
theorem dX8_swing_37 : decode cX8_swing 37 = .ok (.if_icmp .ne 7, 3) := by decide +kernel
theorem dX8_swing_40 : decode cX8_swing 40 = .ok (.iconst 3, 1) := by decide +kernel
theorem dX8_swing_41 : decode cX8_swing 41 = .ok (.goto 4, 3) := by decide +kernel
theorem dX8_swing_44 : decode cX8_swing 44 = .ok (.iconst 0, 1) := by decide +kernel
theorem dX8_swing_45 : decode cX8_swing 45 = .ok (.invokevirtual 70, 3) := by decide +kernel
theorem dX8_swing_48 : decode cX8_swing 48 = .ok (.ifCond .eq 5, 3) := by decide +kernel
theorem dX8_swing_51 : decode cX8_swing 51 = .ok (.iconst 0, 1) := by decide +kernel
theorem dX8_swing_52 : decode cX8_swing 52 = .ok (.ireturn, 1) := by decide +kernel
theorem dX8_swing_53 : decode cX8_swing 53 = .ok (.aload_n 0, 1) := by decide +kernel
theorem dX8_swing_54 : decode cX8_swing 54 = .ok (.invokevirtual 74, 3) := by decide +kernel
theorem dX8_swing_57 : decode cX8_swing 57 = .ok (.bipush 6, 2) := by decide +kernel
theorem dX8_swing_59 : decode cX8_swing 59 = .ok (.bipush 12, 2) := by decide +kernel
theorem dX8_swing_61 : decode cX8_swing 61 = .ok (.iload_n 1, 1) := by decide +kernel
theorem dX8_swing_62 : decode cX8_swing 62 = .ok (.imul, 1) := by decide +kernel
theorem dX8_swing_63 : decode cX8_swing 63 = .ok (.iadd, 1) := by decide +kernel
theorem dX8_swing_64 : decode cX8_swing 64 = .ok (.istore_n 3, 1) := by decide +kernel
theorem dX8_swing_65 : decode cX8_swing 65 = .ok (.aload_n 0, 1) := by decide +kernel
theorem dX8_swing_66 : decode cX8_swing 66 = .ok (.getfield 7, 3) := by decide +kernel
theorem dX8_swing_69 : decode cX8_swing 69 = .ok (.iload_n 3, 1) := by decide +kernel
theorem dX8_swing_70 : decode cX8_swing 70 = .ok (.iconst 3, 1) := by decide +kernel
theorem dX8_swing_71 : decode cX8_swing 71 = .ok (.iadd, 1) := by decide +kernel
theorem dX8_swing_72 : decode cX8_swing 72 = .ok (.aload_n 0, 1) := by decide +kernel
theorem dX8_swing_73 : decode cX8_swing 73 = .ok (.getfield 7, 3) := by decide +kernel
theorem dX8_swing_76 : decode cX8_swing 76 = .ok (.iload_n 3, 1) := by decide +kernel
theorem dX8_swing_77 : decode cX8_swing 77 = .ok (.iconst 2, 1) := by decide +kernel
theorem dX8_swing_78 : decode cX8_swing 78 = .ok (.iadd, 1) := by decide +kernel
theorem dX8_swing_79 : decode cX8_swing 79 = .ok (.iaload, 1) := by decide +kernel
theorem dX8_swing_80 : decode cX8_swing 80 = .ok (.iadd, 1) := by decide +kernel
theorem dX8_swing_81 : decode cX8_swing 81 = .ok (.iload_n 2, 1) := by decide +kernel
theorem dX8_swing_82 : decode cX8_swing 82 = .ok (.iastore, 1) := by decide +kernel
theorem dX8_swing_83 : decode cX8_swing 83 = .ok (.aload_n 0, 1) := by decide +kernel
theorem dX8_swing_84 : decode cX8_swing 84 = .ok (.getfield 7, 3) := by decide +kernel
theorem dX8_swing_87 : decode cX8_swing 87 = .ok (.iload_n 3, 1) := by decide +kernel
theorem dX8_swing_88 : decode cX8_swing 88 = .ok (.iconst 2, 1) := by decide +kernel
theorem dX8_swing_89 : decode cX8_swing 89 = .ok (.iadd, 1) := by decide +kernel
theorem dX8_swing_90 : decode cX8_swing 90 = .ok (.dup2, 1) := by decide +kernel
theorem dX8_swing_91 : decode cX8_swing 91 = .ok (.iaload, 1) := by decide +kernel
theorem dX8_swing_92 : decode cX8_swing 92 = .ok (.iconst 1, 1) := by decide +kernel
theorem dX8_swing_93 : decode cX8_swing 93 = .ok (.iadd, 1) := by decide +kernel
theorem dX8_swing_94 : decode cX8_swing 94 = .ok (.iastore, 1) := by decide +kernel
theorem dX8_swing_95 : decode cX8_swing 95 = .ok (.aload_n 0, 1) := by decide +kernel
theorem dX8_swing_96 : decode cX8_swing 96 = .ok (.getfield 7, 3) := by decide +kernel
theorem dX8_swing_99 : decode cX8_swing 99 = .ok (.iload_n 3, 1) := by decide +kernel
theorem dX8_swing_100 : decode cX8_swing 100 = .ok (.iconst 2, 1) := by decide +kernel
theorem dX8_swing_101 : decode cX8_swing 101 = .ok (.iadd, 1) := by decide +kernel
theorem dX8_swing_102 : decode cX8_swing 102 = .ok (.iaload, 1) := by decide +kernel
theorem dX8_swing_103 : decode cX8_swing 103 = .ok (.ireturn, 1) := by decide +kernel
theorem dX8_still_0 : decode cX8_still 0 = .ok (.aload_n 0, 1) := by decide +kernel
theorem dX8_still_1 : decode cX8_still 1 = .ok (.aload_n 0, 1) := by decide +kernel
theorem dX8_still_2 : decode cX8_still 2 = .ok (.iload_n 1, 1) := by decide +kernel
theorem dX8_still_3 : decode cX8_still 3 = .ok (.invokevirtual 96, 3) := by decide +kernel
theorem dX8_still_6 : decode cX8_still 6 = .ok (.ifCond .eq 7, 3) := by decide +kernel
theorem dX8_still_9 : decode cX8_still 9 = .ok (.iconst 0, 1) := by decide +kernel
theorem dX8_still_10 : decode cX8_still 10 = .ok (.goto 4, 3) := by decide +kernel
theorem dX8_still_13 : decode cX8_still 13 = .ok (.iconst 1, 1) := by decide +kernel
theorem dX8_still_14 : decode cX8_still 14 = .ok (.invokevirtual 70, 3) := by decide +kernel
theorem dX8_still_17 : decode cX8_still 17 = .ok (.ifCond .eq 5, 3) := by decide +kernel
theorem dX8_still_20 : decode cX8_still 20 = .ok (.iconst 0, 1) := by decide +kernel
theorem dX8_still_21 : decode cX8_still 21 = .ok (.ireturn, 1) := by decide +kernel
theorem dX8_still_22 : decode cX8_still 22 = .ok (.aload_n 0, 1) := by decide +kernel
theorem dX8_still_23 : decode cX8_still 23 = .ok (.invokevirtual 74, 3) := by decide +kernel
theorem dX8_still_26 : decode cX8_still 26 = .ok (.aload_n 0, 1) := by decide +kernel
theorem dX8_still_27 : decode cX8_still 27 = .ok (.iload_n 1, 1) := by decide +kernel
theorem dX8_still_28 : decode cX8_still 28 = .ok (.iconst 2, 1) := by decide +kernel
theorem dX8_still_29 : decode cX8_still 29 = .ok (.invokevirtual 81, 3) := by decide +kernel
theorem dX8_still_32 : decode cX8_still 32 = .ok (.istore_n 2, 1) := by decide +kernel
theorem dX8_still_33 : decode cX8_still 33 = .ok (.aload_n 0, 1) := by decide +kernel
theorem dX8_still_34 : decode cX8_still 34 = .ok (.getfield 7, 3) := by decide +kernel
theorem dX8_still_37 : decode cX8_still 37 = .ok (.bipush 6, 2) := by decide +kernel
theorem dX8_still_39 : decode cX8_still 39 = .ok (.bipush 12, 2) := by decide +kernel
theorem dX8_still_41 : decode cX8_still 41 = .ok (.iload_n 1, 1) := by decide +kernel
theorem dX8_still_42 : decode cX8_still 42 = .ok (.imul, 1) := by decide +kernel
theorem dX8_still_43 : decode cX8_still 43 = .ok (.iadd, 1) := by decide +kernel
theorem dX8_still_44 : decode cX8_still 44 = .ok (.iconst 2, 1) := by decide +kernel
theorem dX8_still_45 : decode cX8_still 45 = .ok (.iadd, 1) := by decide +kernel
theorem dX8_still_46 : decode cX8_still 46 = .ok (.iconst 0, 1) := by decide +kernel
theorem dX8_still_47 : decode cX8_still 47 = .ok (.iastore, 1) := by decide +kernel
theorem dX8_still_48 : decode cX8_still 48 = .ok (.iload_n 2, 1) := by decide +kernel
theorem dX8_still_49 : decode cX8_still 49 = .ok (.ireturn, 1) := by decide +kernel
theorem dX8_driftOf_0 : decode cX8_driftOf 0 = .ok (.iconst 0, 1) := by decide +kernel
theorem dX8_driftOf_1 : decode cX8_driftOf 1 = .ok (.istore_n 2, 1) := by decide +kernel
theorem dX8_driftOf_2 : decode cX8_driftOf 2 = .ok (.iconst 2, 1) := by decide +kernel
theorem dX8_driftOf_3 : decode cX8_driftOf 3 = .ok (.istore_n 3, 1) := by decide +kernel
theorem dX8_driftOf_4 : decode cX8_driftOf 4 = .ok (.iload_n 3, 1) := by decide +kernel
theorem dX8_driftOf_5 : decode cX8_driftOf 5 = .ok (.aload_n 0, 1) := by decide +kernel
theorem dX8_driftOf_6 : decode cX8_driftOf 6 = .ok (.iload_n 1, 1) := by decide +kernel
theorem dX8_driftOf_7 : decode cX8_driftOf 7 = .ok (.iconst 2, 1) := by decide +kernel
theorem dX8_driftOf_8 : decode cX8_driftOf 8 = .ok (.invokevirtual 81, 3) := by decide +kernel
theorem dX8_driftOf_11 : decode cX8_driftOf 11 = .ok (.if_icmp .ge 44, 3) := by decide +kernel
theorem dX8_driftOf_14 : decode cX8_driftOf 14 = .ok (.aload_n 0, 1) := by decide +kernel
theorem dX8_driftOf_15 : decode cX8_driftOf 15 = .ok (.iload_n 1, 1) := by decide +kernel
theorem dX8_driftOf_16 : decode cX8_driftOf 16 = .ok (.iconst 3, 1) := by decide +kernel
theorem dX8_driftOf_17 : decode cX8_driftOf 17 = .ok (.iload_n 3, 1) := by decide +kernel
theorem dX8_driftOf_18 : decode cX8_driftOf 18 = .ok (.iadd, 1) := by decide +kernel
theorem dX8_driftOf_19 : decode cX8_driftOf 19 = .ok (.invokevirtual 81, 3) := by decide +kernel
theorem dX8_driftOf_22 : decode cX8_driftOf 22 = .ok (.aload_n 0, 1) := by decide +kernel
theorem dX8_driftOf_23 : decode cX8_driftOf 23 = .ok (.iload_n 1, 1) := by decide +kernel
theorem dX8_driftOf_24 : decode cX8_driftOf 24 = .ok (.iconst 1, 1) := by decide +kernel
theorem dX8_driftOf_25 : decode cX8_driftOf 25 = .ok (.iload_n 3, 1) := by decide +kernel
theorem dX8_driftOf_26 : decode cX8_driftOf 26 = .ok (.iadd, 1) := by decide +kernel
theorem dX8_driftOf_27 : decode cX8_driftOf 27 = .ok (.invokevirtual 81, 3) := by decide +kernel
theorem dX8_driftOf_30 : decode cX8_driftOf 30 = .ok (.isub, 1) := by decide +kernel
theorem dX8_driftOf_31 : decode cX8_driftOf 31 = .ok (.invokestatic 99, 3) := by decide +kernel
theorem dX8_driftOf_34 : decode cX8_driftOf 34 = .ok (.istore 4, 2) := by decide +kernel
theorem dX8_driftOf_36 : decode cX8_driftOf 36 = .ok (.iload 4, 2) := by decide +kernel
theorem dX8_driftOf_38 : decode cX8_driftOf 38 = .ok (.iload_n 2, 1) := by decide +kernel
theorem dX8_driftOf_39 : decode cX8_driftOf 39 = .ok (.if_icmp .le 8, 3) := by decide +kernel
theorem dX8_driftOf_42 : decode cX8_driftOf 42 = .ok (.iload 4, 2) := by decide +kernel
theorem dX8_driftOf_44 : decode cX8_driftOf 44 = .ok (.goto 4, 3) := by decide +kernel
theorem dX8_driftOf_47 : decode cX8_driftOf 47 = .ok (.iload_n 2, 1) := by decide +kernel
theorem dX8_driftOf_48 : decode cX8_driftOf 48 = .ok (.istore_n 2, 1) := by decide +kernel
theorem dX8_driftOf_49 : decode cX8_driftOf 49 = .ok (.iinc 3 1, 3) := by decide +kernel
theorem dX8_driftOf_52 : decode cX8_driftOf 52 = .ok (.goto (-48), 3) := by decide +kernel
theorem dX8_driftOf_55 : decode cX8_driftOf 55 = .ok (.iload_n 2, 1) := by decide +kernel
theorem dX8_driftOf_56 : decode cX8_driftOf 56 = .ok (.ireturn, 1) := by decide +kernel
theorem dX8_troubleOfWire_0 : decode cX8_troubleOfWire 0 = .ok (.aload_n 0, 1) := by decide +kernel
theorem dX8_troubleOfWire_1 : decode cX8_troubleOfWire 1 = .ok (.iload_n 1, 1) := by decide +kernel
theorem dX8_troubleOfWire_2 : decode cX8_troubleOfWire 2 = .ok (.iconst 2, 1) := by decide +kernel
theorem dX8_troubleOfWire_3 : decode cX8_troubleOfWire 3 = .ok (.invokevirtual 81, 3) := by decide +kernel
theorem dX8_troubleOfWire_6 : decode cX8_troubleOfWire 6 = .ok (.iconst 3, 1) := by decide +kernel
theorem dX8_troubleOfWire_7 : decode cX8_troubleOfWire 7 = .ok (.if_icmp .ge 7, 3) := by decide +kernel
theorem dX8_troubleOfWire_10 : decode cX8_troubleOfWire 10 = .ok (.iconst 1, 1) := by decide +kernel
theorem dX8_troubleOfWire_11 : decode cX8_troubleOfWire 11 = .ok (.goto 22, 3) := by decide +kernel
theorem dX8_troubleOfWire_14 : decode cX8_troubleOfWire 14 = .ok (.aload_n 0, 1) := by decide +kernel
theorem dX8_troubleOfWire_15 : decode cX8_troubleOfWire 15 = .ok (.iload_n 1, 1) := by decide +kernel
theorem dX8_troubleOfWire_16 : decode cX8_troubleOfWire 16 = .ok (.invokevirtual 102, 3) := by decide +kernel
theorem dX8_troubleOfWire_19 : decode cX8_troubleOfWire 19 = .ok (.aload_n 0, 1) := by decide +kernel
theorem dX8_troubleOfWire_20 : decode cX8_troubleOfWire 20 = .ok (.getfield 7, 3) := by decide +kernel
theorem dX8_troubleOfWire_23 : decode cX8_troubleOfWire 23 = .ok (.iconst 0, 1) := by decide +kernel
theorem dX8_troubleOfWire_24 : decode cX8_troubleOfWire 24 = .ok (.iaload, 1) := by decide +kernel
theorem dX8_troubleOfWire_25 : decode cX8_troubleOfWire 25 = .ok (.if_icmp .le 7, 3) := by decide +kernel
theorem dX8_troubleOfWire_28 : decode cX8_troubleOfWire 28 = .ok (.iconst 2, 1) := by decide +kernel
theorem dX8_troubleOfWire_29 : decode cX8_troubleOfWire 29 = .ok (.goto 4, 3) := by decide +kernel
theorem dX8_troubleOfWire_32 : decode cX8_troubleOfWire 32 = .ok (.iconst 0, 1) := by decide +kernel
theorem dX8_troubleOfWire_33 : decode cX8_troubleOfWire 33 = .ok (.ireturn, 1) := by decide +kernel
theorem dX8_restOf_0 : decode cX8_restOf 0 = .ok (.aload_n 0, 1) := by decide +kernel
theorem dX8_restOf_1 : decode cX8_restOf 1 = .ok (.iload_n 1, 1) := by decide +kernel
theorem dX8_restOf_2 : decode cX8_restOf 2 = .ok (.iconst 2, 1) := by decide +kernel
theorem dX8_restOf_3 : decode cX8_restOf 3 = .ok (.invokevirtual 81, 3) := by decide +kernel
theorem dX8_restOf_6 : decode cX8_restOf 6 = .ok (.istore_n 2, 1) := by decide +kernel
theorem dX8_restOf_7 : decode cX8_restOf 7 = .ok (.iconst 0, 1) := by decide +kernel
theorem dX8_restOf_8 : decode cX8_restOf 8 = .ok (.istore_n 3, 1) := by decide +kernel
theorem dX8_restOf_9 : decode cX8_restOf 9 = .ok (.iconst 0, 1) := by decide +kernel
theorem dX8_restOf_10 : decode cX8_restOf 10 = .ok (.istore 4, 2) := by decide +kernel
theorem dX8_restOf_12 : decode cX8_restOf 12 = .ok (.iload 4, 2) := by decide +kernel
theorem dX8_restOf_14 : decode cX8_restOf 14 = .ok (.iload_n 2, 1) := by decide +kernel
theorem dX8_restOf_15 : decode cX8_restOf 15 = .ok (.if_icmp .ge 40, 3) := by decide +kernel
theorem dX8_restOf_18 : decode cX8_restOf 18 = .ok (.iload_n 3, 1) := by decide +kernel
theorem dX8_restOf_19 : decode cX8_restOf 19 = .ok (.aload_n 0, 1) := by decide +kernel
theorem dX8_restOf_20 : decode cX8_restOf 20 = .ok (.iload_n 1, 1) := by decide +kernel
theorem dX8_restOf_21 : decode cX8_restOf 21 = .ok (.iconst 3, 1) := by decide +kernel
theorem dX8_restOf_22 : decode cX8_restOf 22 = .ok (.iload 4, 2) := by decide +kernel
theorem dX8_restOf_24 : decode cX8_restOf 24 = .ok (.iadd, 1) := by decide +kernel
theorem dX8_restOf_25 : decode cX8_restOf 25 = .ok (.invokevirtual 81, 3) := by decide +kernel
theorem dX8_restOf_28 : decode cX8_restOf 28 = .ok (.iload 4, 2) := by decide +kernel
theorem dX8_restOf_30 : decode cX8_restOf 30 = .ok (.ifCond .eq 11, 3) := by decide +kernel
theorem dX8_restOf_33 : decode cX8_restOf 33 = .ok (.iload 4, 2) := by decide +kernel
theorem dX8_restOf_35 : decode cX8_restOf 35 = .ok (.iload_n 2, 1) := by decide +kernel
theorem dX8_restOf_36 : decode cX8_restOf 36 = .ok (.iconst 1, 1) := by decide +kernel
theorem dX8_restOf_37 : decode cX8_restOf 37 = .ok (.isub, 1) := by decide +kernel
theorem dX8_restOf_38 : decode cX8_restOf 38 = .ok (.if_icmp .ne 7, 3) := by decide +kernel
theorem dX8_restOf_41 : decode cX8_restOf 41 = .ok (.iconst 1, 1) := by decide +kernel
theorem dX8_restOf_42 : decode cX8_restOf 42 = .ok (.goto 4, 3) := by decide +kernel
theorem dX8_restOf_45 : decode cX8_restOf 45 = .ok (.iconst 2, 1) := by decide +kernel
theorem dX8_restOf_46 : decode cX8_restOf 46 = .ok (.imul, 1) := by decide +kernel
theorem dX8_restOf_47 : decode cX8_restOf 47 = .ok (.iadd, 1) := by decide +kernel
theorem dX8_restOf_48 : decode cX8_restOf 48 = .ok (.istore_n 3, 1) := by decide +kernel
theorem dX8_restOf_49 : decode cX8_restOf 49 = .ok (.iinc 4 1, 3) := by decide +kernel
theorem dX8_restOf_52 : decode cX8_restOf 52 = .ok (.goto (-40), 3) := by decide +kernel
theorem dX8_restOf_55 : decode cX8_restOf 55 = .ok (.iload_n 2, 1) := by decide +kernel
theorem dX8_restOf_56 : decode cX8_restOf 56 = .ok (.iconst 3, 1) := by decide +kernel
theorem dX8_restOf_57 : decode cX8_restOf 57 = .ok (.if_icmp .ge 8, 3) := by decide +kernel
theorem dX8_restOf_60 : decode cX8_restOf 60 = .ok (.ldc 105, 2) := by decide +kernel
theorem dX8_restOf_62 : decode cX8_restOf 62 = .ok (.goto 10, 3) := by decide +kernel
theorem dX8_restOf_65 : decode cX8_restOf 65 = .ok (.iload_n 3, 1) := by decide +kernel
theorem dX8_restOf_66 : decode cX8_restOf 66 = .ok (.iconst 2, 1) := by decide +kernel
theorem dX8_restOf_67 : decode cX8_restOf 67 = .ok (.iload_n 2, 1) := by decide +kernel
theorem dX8_restOf_68 : decode cX8_restOf 68 = .ok (.iconst 1, 1) := by decide +kernel
theorem dX8_restOf_69 : decode cX8_restOf 69 = .ok (.isub, 1) := by decide +kernel
theorem dX8_restOf_70 : decode cX8_restOf 70 = .ok (.imul, 1) := by decide +kernel
theorem dX8_restOf_71 : decode cX8_restOf 71 = .ok (.idiv, 1) := by decide +kernel
theorem dX8_restOf_72 : decode cX8_restOf 72 = .ok (.ireturn, 1) := by decide +kernel
theorem dX8_wireOf_0 : decode cX8_wireOf 0 = .ok (.iload_n 2, 1) := by decide +kernel
theorem dX8_wireOf_1 : decode cX8_wireOf 1 = .ok (.iconst 3, 1) := by decide +kernel
theorem dX8_wireOf_2 : decode cX8_wireOf 2 = .ok (.if_icmp .ge 12, 3) := by decide +kernel
theorem dX8_wireOf_5 : decode cX8_wireOf 5 = .ok (.aload_n 0, 1) := by decide +kernel
theorem dX8_wireOf_6 : decode cX8_wireOf 6 = .ok (.iload_n 1, 1) := by decide +kernel
theorem dX8_wireOf_7 : decode cX8_wireOf 7 = .ok (.iload_n 2, 1) := by decide +kernel
theorem dX8_wireOf_8 : decode cX8_wireOf 8 = .ok (.invokevirtual 81, 3) := by decide +kernel
theorem dX8_wireOf_11 : decode cX8_wireOf 11 = .ok (.goto 34, 3) := by decide +kernel
theorem dX8_wireOf_14 : decode cX8_wireOf 14 = .ok (.iload_n 2, 1) := by decide +kernel
theorem dX8_wireOf_15 : decode cX8_wireOf 15 = .ok (.iconst 3, 1) := by decide +kernel
theorem dX8_wireOf_16 : decode cX8_wireOf 16 = .ok (.if_icmp .ne 11, 3) := by decide +kernel
theorem dX8_wireOf_19 : decode cX8_wireOf 19 = .ok (.aload_n 0, 1) := by decide +kernel
theorem dX8_wireOf_20 : decode cX8_wireOf 20 = .ok (.iload_n 1, 1) := by decide +kernel
theorem dX8_wireOf_21 : decode cX8_wireOf 21 = .ok (.invokevirtual 106, 3) := by decide +kernel
theorem dX8_wireOf_24 : decode cX8_wireOf 24 = .ok (.goto 21, 3) := by decide +kernel
theorem dX8_wireOf_27 : decode cX8_wireOf 27 = .ok (.iload_n 2, 1) := by decide +kernel
theorem dX8_wireOf_28 : decode cX8_wireOf 28 = .ok (.iconst 4, 1) := by decide +kernel
theorem dX8_wireOf_29 : decode cX8_wireOf 29 = .ok (.if_icmp .ne 11, 3) := by decide +kernel
theorem dX8_wireOf_32 : decode cX8_wireOf 32 = .ok (.aload_n 0, 1) := by decide +kernel
theorem dX8_wireOf_33 : decode cX8_wireOf 33 = .ok (.iload_n 1, 1) := by decide +kernel
theorem dX8_wireOf_34 : decode cX8_wireOf 34 = .ok (.invokevirtual 109, 3) := by decide +kernel
theorem dX8_wireOf_37 : decode cX8_wireOf 37 = .ok (.goto 8, 3) := by decide +kernel
theorem dX8_wireOf_40 : decode cX8_wireOf 40 = .ok (.aload_n 0, 1) := by decide +kernel
theorem dX8_wireOf_41 : decode cX8_wireOf 41 = .ok (.iload_n 1, 1) := by decide +kernel
theorem dX8_wireOf_42 : decode cX8_wireOf 42 = .ok (.invokevirtual 102, 3) := by decide +kernel
theorem dX8_wireOf_45 : decode cX8_wireOf 45 = .ok (.ireturn, 1) := by decide +kernel
theorem dX8_wire_0 : decode cX8_wire 0 = .ok (.aload_n 0, 1) := by decide +kernel
theorem dX8_wire_1 : decode cX8_wire 1 = .ok (.aload_n 0, 1) := by decide +kernel
theorem dX8_wire_2 : decode cX8_wire 2 = .ok (.iload_n 1, 1) := by decide +kernel
theorem dX8_wire_3 : decode cX8_wire 3 = .ok (.invokevirtual 96, 3) := by decide +kernel
theorem dX8_wire_6 : decode cX8_wire 6 = .ok (.ifCond .ne 7, 3) := by decide +kernel
theorem dX8_wire_9 : decode cX8_wire 9 = .ok (.iconst 1, 1) := by decide +kernel
theorem dX8_wire_10 : decode cX8_wire 10 = .ok (.goto 20, 3) := by decide +kernel
theorem dX8_wire_13 : decode cX8_wire 13 = .ok (.iload_n 2, 1) := by decide +kernel
theorem dX8_wire_14 : decode cX8_wire 14 = .ok (.i2l, 1) := by decide +kernel
theorem dX8_wire_15 : decode cX8_wire 15 = .ok (.lconst 0, 1) := by decide +kernel
theorem dX8_wire_16 : decode cX8_wire 16 = .ok (.ldc2_w 112, 3) := by decide +kernel
theorem dX8_wire_19 : decode cX8_wire 19 = .ok (.invokestatic 62, 3) := by decide +kernel
theorem dX8_wire_22 : decode cX8_wire 22 = .ok (.ifCond .eq 7, 3) := by decide +kernel
theorem dX8_wire_25 : decode cX8_wire 25 = .ok (.iconst 0, 1) := by decide +kernel
theorem dX8_wire_26 : decode cX8_wire 26 = .ok (.goto 4, 3) := by decide +kernel
theorem dX8_wire_29 : decode cX8_wire 29 = .ok (.iconst 2, 1) := by decide +kernel
theorem dX8_wire_30 : decode cX8_wire 30 = .ok (.invokevirtual 70, 3) := by decide +kernel
theorem dX8_wire_33 : decode cX8_wire 33 = .ok (.ifCond .eq 7, 3) := by decide +kernel
theorem dX8_wire_36 : decode cX8_wire 36 = .ok (.iconst 0, 1) := by decide +kernel
theorem dX8_wire_37 : decode cX8_wire 37 = .ok (.goto 9, 3) := by decide +kernel
theorem dX8_wire_40 : decode cX8_wire 40 = .ok (.aload_n 0, 1) := by decide +kernel
theorem dX8_wire_41 : decode cX8_wire 41 = .ok (.iload_n 1, 1) := by decide +kernel
theorem dX8_wire_42 : decode cX8_wire 42 = .ok (.iload_n 2, 1) := by decide +kernel
theorem dX8_wire_43 : decode cX8_wire 43 = .ok (.invokevirtual 114, 3) := by decide +kernel
theorem dX8_wire_46 : decode cX8_wire 46 = .ok (.ireturn, 1) := by decide +kernel
theorem dX8_isAngle_0 : decode cX8_isAngle 0 = .ok (.iload_n 0, 1) := by decide +kernel
theorem dX8_isAngle_1 : decode cX8_isAngle 1 = .ok (.i2l, 1) := by decide +kernel
theorem dX8_isAngle_2 : decode cX8_isAngle 2 = .ok (.lconst 0, 1) := by decide +kernel
theorem dX8_isAngle_3 : decode cX8_isAngle 3 = .ok (.ldc2_w 117, 3) := by decide +kernel
theorem dX8_isAngle_6 : decode cX8_isAngle 6 = .ok (.invokestatic 62, 3) := by decide +kernel
theorem dX8_isAngle_9 : decode cX8_isAngle 9 = .ok (.ireturn, 1) := by decide +kernel
theorem dX8_isSmall_0 : decode cX8_isSmall 0 = .ok (.iload_n 0, 1) := by decide +kernel
theorem dX8_isSmall_1 : decode cX8_isSmall 1 = .ok (.i2l, 1) := by decide +kernel
theorem dX8_isSmall_2 : decode cX8_isSmall 2 = .ok (.ldc2_w 119, 3) := by decide +kernel
theorem dX8_isSmall_5 : decode cX8_isSmall 5 = .ok (.ldc2_w 121, 3) := by decide +kernel
theorem dX8_isSmall_8 : decode cX8_isSmall 8 = .ok (.invokestatic 62, 3) := by decide +kernel
theorem dX8_isSmall_11 : decode cX8_isSmall 11 = .ok (.ireturn, 1) := by decide +kernel
theorem dX8_join_0 : decode cX8_join 0 = .ok (.iload_n 1, 1) := by decide +kernel
theorem dX8_join_1 : decode cX8_join 1 = .ok (.iload_n 2, 1) := by decide +kernel
theorem dX8_join_2 : decode cX8_join 2 = .ok (.if_icmp .eq 52, 3) := by decide +kernel
theorem dX8_join_5 : decode cX8_join 5 = .ok (.iload_n 3, 1) := by decide +kernel
theorem dX8_join_6 : decode cX8_join 6 = .ok (.invokestatic 123, 3) := by decide +kernel
theorem dX8_join_9 : decode cX8_join 9 = .ok (.ifCond .eq 45, 3) := by decide +kernel
theorem dX8_join_12 : decode cX8_join 12 = .ok (.iload 4, 2) := by decide +kernel
theorem dX8_join_14 : decode cX8_join 14 = .ok (.i2l, 1) := by decide +kernel
theorem dX8_join_15 : decode cX8_join 15 = .ok (.ldc2_w 126, 3) := by decide +kernel
theorem dX8_join_18 : decode cX8_join 18 = .ok (.ldc2_w 128, 3) := by decide +kernel
theorem dX8_join_21 : decode cX8_join 21 = .ok (.invokestatic 62, 3) := by decide +kernel
theorem dX8_join_24 : decode cX8_join 24 = .ok (.ifCond .eq 30, 3) := by decide +kernel
theorem dX8_join_27 : decode cX8_join 27 = .ok (.iload 5, 2) := by decide +kernel
theorem dX8_join_29 : decode cX8_join 29 = .ok (.i2l, 1) := by decide +kernel
theorem dX8_join_30 : decode cX8_join 30 = .ok (.ldc2_w 126, 3) := by decide +kernel
theorem dX8_join_33 : decode cX8_join 33 = .ok (.ldc2_w 130, 3) := by decide +kernel
theorem dX8_join_36 : decode cX8_join 36 = .ok (.invokestatic 62, 3) := by decide +kernel
theorem dX8_join_39 : decode cX8_join 39 = .ok (.ifCond .eq 15, 3) := by decide +kernel
theorem dX8_join_42 : decode cX8_join 42 = .ok (.iload 6, 2) := by decide +kernel
theorem dX8_join_44 : decode cX8_join 44 = .ok (.invokestatic 132, 3) := by decide +kernel
theorem dX8_join_47 : decode cX8_join 47 = .ok (.ifCond .eq 7, 3) := by decide +kernel
theorem dX8_join_50 : decode cX8_join 50 = .ok (.iconst 1, 1) := by decide +kernel
theorem dX8_join_51 : decode cX8_join 51 = .ok (.goto 4, 3) := by decide +kernel
theorem dX8_join_54 : decode cX8_join 54 = .ok (.iconst 0, 1) := by decide +kernel
theorem dX8_join_55 : decode cX8_join 55 = .ok (.istore 7, 2) := by decide +kernel
theorem dX8_join_57 : decode cX8_join 57 = .ok (.aload_n 0, 1) := by decide +kernel
theorem dX8_join_58 : decode cX8_join 58 = .ok (.aload_n 0, 1) := by decide +kernel
theorem dX8_join_59 : decode cX8_join 59 = .ok (.iload_n 1, 1) := by decide +kernel
theorem dX8_join_60 : decode cX8_join 60 = .ok (.invokevirtual 96, 3) := by decide +kernel
theorem dX8_join_63 : decode cX8_join 63 = .ok (.ifCond .eq 11, 3) := by decide +kernel
theorem dX8_join_66 : decode cX8_join 66 = .ok (.aload_n 0, 1) := by decide +kernel
theorem dX8_join_67 : decode cX8_join 67 = .ok (.iload_n 2, 1) := by decide +kernel
theorem dX8_join_68 : decode cX8_join 68 = .ok (.invokevirtual 96, 3) := by decide +kernel
theorem dX8_join_71 : decode cX8_join 71 = .ok (.ifCond .ne 7, 3) := by decide +kernel
theorem dX8_join_74 : decode cX8_join 74 = .ok (.iconst 1, 1) := by decide +kernel
theorem dX8_join_75 : decode cX8_join 75 = .ok (.goto 27, 3) := by decide +kernel
theorem dX8_join_78 : decode cX8_join 78 = .ok (.iload 7, 2) := by decide +kernel
theorem dX8_join_80 : decode cX8_join 80 = .ok (.ifCond .ne 7, 3) := by decide +kernel
theorem dX8_join_83 : decode cX8_join 83 = .ok (.iconst 2, 1) := by decide +kernel
theorem dX8_join_84 : decode cX8_join 84 = .ok (.goto 18, 3) := by decide +kernel
theorem dX8_join_87 : decode cX8_join 87 = .ok (.aload_n 0, 1) := by decide +kernel
theorem dX8_join_88 : decode cX8_join 88 = .ok (.getfield 7, 3) := by decide +kernel
theorem dX8_join_91 : decode cX8_join 91 = .ok (.iconst 4, 1) := by decide +kernel
theorem dX8_join_92 : decode cX8_join 92 = .ok (.iaload, 1) := by decide +kernel
theorem dX8_join_93 : decode cX8_join 93 = .ok (.iconst 4, 1) := by decide +kernel
theorem dX8_join_94 : decode cX8_join 94 = .ok (.if_icmp .ne 7, 3) := by decide +kernel
theorem dX8_join_97 : decode cX8_join 97 = .ok (.iconst 3, 1) := by decide +kernel
theorem dX8_join_98 : decode cX8_join 98 = .ok (.goto 4, 3) := by decide +kernel
theorem dX8_join_101 : decode cX8_join 101 = .ok (.iconst 0, 1) := by decide +kernel
theorem dX8_join_102 : decode cX8_join 102 = .ok (.invokevirtual 70, 3) := by decide +kernel
theorem dX8_join_105 : decode cX8_join 105 = .ok (.ifCond .eq 5, 3) := by decide +kernel
theorem dX8_join_108 : decode cX8_join 108 = .ok (.iconst 0, 1) := by decide +kernel
theorem dX8_join_109 : decode cX8_join 109 = .ok (.ireturn, 1) := by decide +kernel
theorem dX8_join_110 : decode cX8_join 110 = .ok (.aload_n 0, 1) := by decide +kernel
theorem dX8_join_111 : decode cX8_join 111 = .ok (.invokevirtual 74, 3) := by decide +kernel
theorem dX8_join_114 : decode cX8_join 114 = .ok (.bipush 78, 2) := by decide +kernel
theorem dX8_join_116 : decode cX8_join 116 = .ok (.bipush 6, 2) := by decide +kernel
theorem dX8_join_118 : decode cX8_join 118 = .ok (.aload_n 0, 1) := by decide +kernel
theorem dX8_join_119 : decode cX8_join 119 = .ok (.getfield 7, 3) := by decide +kernel
theorem dX8_join_122 : decode cX8_join 122 = .ok (.iconst 4, 1) := by decide +kernel
theorem dX8_join_123 : decode cX8_join 123 = .ok (.iaload, 1) := by decide +kernel
theorem dX8_join_124 : decode cX8_join 124 = .ok (.imul, 1) := by decide +kernel
theorem dX8_join_125 : decode cX8_join 125 = .ok (.iadd, 1) := by decide +kernel
theorem dX8_join_126 : decode cX8_join 126 = .ok (.istore 8, 2) := by decide +kernel
theorem dX8_join_128 : decode cX8_join 128 = .ok (.aload_n 0, 1) := by decide +kernel
theorem dX8_join_129 : decode cX8_join 129 = .ok (.getfield 7, 3) := by decide +kernel
theorem dX8_join_132 : decode cX8_join 132 = .ok (.iload 8, 2) := by decide +kernel
theorem dX8_join_134 : decode cX8_join 134 = .ok (.iload_n 1, 1) := by decide +kernel
theorem dX8_join_135 : decode cX8_join 135 = .ok (.iastore, 1) := by decide +kernel
theorem dX8_join_136 : decode cX8_join 136 = .ok (.aload_n 0, 1) := by decide +kernel
theorem dX8_join_137 : decode cX8_join 137 = .ok (.getfield 7, 3) := by decide +kernel
theorem dX8_join_140 : decode cX8_join 140 = .ok (.iload 8, 2) := by decide +kernel
theorem dX8_join_142 : decode cX8_join 142 = .ok (.iconst 1, 1) := by decide +kernel
theorem dX8_join_143 : decode cX8_join 143 = .ok (.iadd, 1) := by decide +kernel
theorem dX8_join_144 : decode cX8_join 144 = .ok (.iload_n 2, 1) := by decide +kernel
theorem dX8_join_145 : decode cX8_join 145 = .ok (.iastore, 1) := by decide +kernel
theorem dX8_join_146 : decode cX8_join 146 = .ok (.aload_n 0, 1) := by decide +kernel
theorem dX8_join_147 : decode cX8_join 147 = .ok (.getfield 7, 3) := by decide +kernel
theorem dX8_join_150 : decode cX8_join 150 = .ok (.iload 8, 2) := by decide +kernel
theorem dX8_join_152 : decode cX8_join 152 = .ok (.iconst 2, 1) := by decide +kernel
theorem dX8_join_153 : decode cX8_join 153 = .ok (.iadd, 1) := by decide +kernel
theorem dX8_join_154 : decode cX8_join 154 = .ok (.iload_n 3, 1) := by decide +kernel
theorem dX8_join_155 : decode cX8_join 155 = .ok (.iastore, 1) := by decide +kernel
theorem dX8_join_156 : decode cX8_join 156 = .ok (.aload_n 0, 1) := by decide +kernel
theorem dX8_join_157 : decode cX8_join 157 = .ok (.getfield 7, 3) := by decide +kernel
theorem dX8_join_160 : decode cX8_join 160 = .ok (.iload 8, 2) := by decide +kernel
theorem dX8_join_162 : decode cX8_join 162 = .ok (.iconst 3, 1) := by decide +kernel
theorem dX8_join_163 : decode cX8_join 163 = .ok (.iadd, 1) := by decide +kernel
theorem dX8_join_164 : decode cX8_join 164 = .ok (.iload 4, 2) := by decide +kernel
theorem dX8_join_166 : decode cX8_join 166 = .ok (.iastore, 1) := by decide +kernel
theorem dX8_join_167 : decode cX8_join 167 = .ok (.aload_n 0, 1) := by decide +kernel
theorem dX8_join_168 : decode cX8_join 168 = .ok (.getfield 7, 3) := by decide +kernel
theorem dX8_join_171 : decode cX8_join 171 = .ok (.iload 8, 2) := by decide +kernel
theorem dX8_join_173 : decode cX8_join 173 = .ok (.iconst 4, 1) := by decide +kernel
theorem dX8_join_174 : decode cX8_join 174 = .ok (.iadd, 1) := by decide +kernel
theorem dX8_join_175 : decode cX8_join 175 = .ok (.iload 5, 2) := by decide +kernel
theorem dX8_join_177 : decode cX8_join 177 = .ok (.iastore, 1) := by decide +kernel
theorem dX8_join_178 : decode cX8_join 178 = .ok (.aload_n 0, 1) := by decide +kernel
theorem dX8_join_179 : decode cX8_join 179 = .ok (.getfield 7, 3) := by decide +kernel
theorem dX8_join_182 : decode cX8_join 182 = .ok (.iload 8, 2) := by decide +kernel
theorem dX8_join_184 : decode cX8_join 184 = .ok (.iconst 5, 1) := by decide +kernel
theorem dX8_join_185 : decode cX8_join 185 = .ok (.iadd, 1) := by decide +kernel
theorem dX8_join_186 : decode cX8_join 186 = .ok (.iload 6, 2) := by decide +kernel
theorem dX8_join_188 : decode cX8_join 188 = .ok (.iastore, 1) := by decide +kernel
theorem dX8_join_189 : decode cX8_join 189 = .ok (.aload_n 0, 1) := by decide +kernel
theorem dX8_join_190 : decode cX8_join 190 = .ok (.getfield 7, 3) := by decide +kernel
theorem dX8_join_193 : decode cX8_join 193 = .ok (.iconst 4, 1) := by decide +kernel
theorem dX8_join_194 : decode cX8_join 194 = .ok (.dup2, 1) := by decide +kernel
theorem dX8_join_195 : decode cX8_join 195 = .ok (.iaload, 1) := by decide +kernel
theorem dX8_join_196 : decode cX8_join 196 = .ok (.iconst 1, 1) := by decide +kernel
theorem dX8_join_197 : decode cX8_join 197 = .ok (.iadd, 1) := by decide +kernel
theorem dX8_join_198 : decode cX8_join 198 = .ok (.iastore, 1) := by decide +kernel
theorem dX8_join_199 : decode cX8_join 199 = .ok (.aload_n 0, 1) := by decide +kernel
theorem dX8_join_200 : decode cX8_join 200 = .ok (.getfield 7, 3) := by decide +kernel
theorem dX8_join_203 : decode cX8_join 203 = .ok (.iconst 4, 1) := by decide +kernel
theorem dX8_join_204 : decode cX8_join 204 = .ok (.iaload, 1) := by decide +kernel
theorem dX8_join_205 : decode cX8_join 205 = .ok (.iconst 1, 1) := by decide +kernel
theorem dX8_join_206 : decode cX8_join 206 = .ok (.isub, 1) := by decide +kernel
theorem dX8_join_207 : decode cX8_join 207 = .ok (.ireturn, 1) := by decide +kernel
theorem dX8_measure_0 : decode cX8_measure 0 = .ok (.aload_n 0, 1) := by decide +kernel
theorem dX8_measure_1 : decode cX8_measure 1 = .ok (.aload_n 0, 1) := by decide +kernel
theorem dX8_measure_2 : decode cX8_measure 2 = .ok (.iload_n 1, 1) := by decide +kernel
theorem dX8_measure_3 : decode cX8_measure 3 = .ok (.invokevirtual 135, 3) := by decide +kernel
theorem dX8_measure_6 : decode cX8_measure 6 = .ok (.ifCond .ne 7, 3) := by decide +kernel
theorem dX8_measure_9 : decode cX8_measure 9 = .ok (.iconst 1, 1) := by decide +kernel
theorem dX8_measure_10 : decode cX8_measure 10 = .ok (.goto 15, 3) := by decide +kernel
theorem dX8_measure_13 : decode cX8_measure 13 = .ok (.iload_n 2, 1) := by decide +kernel
theorem dX8_measure_14 : decode cX8_measure 14 = .ok (.invokestatic 132, 3) := by decide +kernel
theorem dX8_measure_17 : decode cX8_measure 17 = .ok (.ifCond .eq 7, 3) := by decide +kernel
theorem dX8_measure_20 : decode cX8_measure 20 = .ok (.iconst 0, 1) := by decide +kernel
theorem dX8_measure_21 : decode cX8_measure 21 = .ok (.goto 4, 3) := by decide +kernel
theorem dX8_measure_24 : decode cX8_measure 24 = .ok (.iconst 2, 1) := by decide +kernel
theorem dX8_measure_25 : decode cX8_measure 25 = .ok (.invokevirtual 70, 3) := by decide +kernel
theorem dX8_measure_28 : decode cX8_measure 28 = .ok (.ifCond .eq 5, 3) := by decide +kernel
theorem dX8_measure_31 : decode cX8_measure 31 = .ok (.iconst 0, 1) := by decide +kernel
theorem dX8_measure_32 : decode cX8_measure 32 = .ok (.ireturn, 1) := by decide +kernel
theorem dX8_measure_33 : decode cX8_measure 33 = .ok (.aload_n 0, 1) := by decide +kernel
theorem dX8_measure_34 : decode cX8_measure 34 = .ok (.invokevirtual 74, 3) := by decide +kernel
theorem dX8_measure_37 : decode cX8_measure 37 = .ok (.aload_n 0, 1) := by decide +kernel
theorem dX8_measure_38 : decode cX8_measure 38 = .ok (.iload_n 1, 1) := by decide +kernel
theorem dX8_measure_39 : decode cX8_measure 39 = .ok (.iconst 5, 1) := by decide +kernel
theorem dX8_measure_40 : decode cX8_measure 40 = .ok (.invokevirtual 138, 3) := by decide +kernel
theorem dX8_measure_43 : decode cX8_measure 43 = .ok (.istore_n 3, 1) := by decide +kernel
theorem dX8_measure_44 : decode cX8_measure 44 = .ok (.aload_n 0, 1) := by decide +kernel
theorem dX8_measure_45 : decode cX8_measure 45 = .ok (.getfield 7, 3) := by decide +kernel
theorem dX8_measure_48 : decode cX8_measure 48 = .ok (.bipush 78, 2) := by decide +kernel
theorem dX8_measure_50 : decode cX8_measure 50 = .ok (.bipush 6, 2) := by decide +kernel
theorem dX8_measure_52 : decode cX8_measure 52 = .ok (.iload_n 1, 1) := by decide +kernel
theorem dX8_measure_53 : decode cX8_measure 53 = .ok (.imul, 1) := by decide +kernel
theorem dX8_measure_54 : decode cX8_measure 54 = .ok (.iadd, 1) := by decide +kernel
theorem dX8_measure_55 : decode cX8_measure 55 = .ok (.iconst 5, 1) := by decide +kernel
theorem dX8_measure_56 : decode cX8_measure 56 = .ok (.iadd, 1) := by decide +kernel
theorem dX8_measure_57 : decode cX8_measure 57 = .ok (.iload_n 2, 1) := by decide +kernel
theorem dX8_measure_58 : decode cX8_measure 58 = .ok (.iastore, 1) := by decide +kernel
theorem dX8_measure_59 : decode cX8_measure 59 = .ok (.iload_n 3, 1) := by decide +kernel
theorem dX8_measure_60 : decode cX8_measure 60 = .ok (.ireturn, 1) := by decide +kernel
theorem dX8_wiresOf_0 : decode cX8_wiresOf 0 = .ok (.aload_n 0, 1) := by decide +kernel
theorem dX8_wiresOf_1 : decode cX8_wiresOf 1 = .ok (.aload_n 0, 1) := by decide +kernel
theorem dX8_wiresOf_2 : decode cX8_wiresOf 2 = .ok (.iload_n 1, 1) := by decide +kernel
theorem dX8_wiresOf_3 : decode cX8_wiresOf 3 = .ok (.iconst 0, 1) := by decide +kernel
theorem dX8_wiresOf_4 : decode cX8_wiresOf 4 = .ok (.invokevirtual 138, 3) := by decide +kernel
theorem dX8_wiresOf_7 : decode cX8_wiresOf 7 = .ok (.invokevirtual 109, 3) := by decide +kernel
theorem dX8_wiresOf_10 : decode cX8_wiresOf 10 = .ok (.istore_n 2, 1) := by decide +kernel
theorem dX8_wiresOf_11 : decode cX8_wiresOf 11 = .ok (.iload_n 2, 1) := by decide +kernel
theorem dX8_wiresOf_12 : decode cX8_wiresOf 12 = .ok (.ifCond .le 7, 3) := by decide +kernel
theorem dX8_wiresOf_15 : decode cX8_wiresOf 15 = .ok (.iload_n 2, 1) := by decide +kernel
theorem dX8_wiresOf_16 : decode cX8_wiresOf 16 = .ok (.goto 13, 3) := by decide +kernel
theorem dX8_wiresOf_19 : decode cX8_wiresOf 19 = .ok (.aload_n 0, 1) := by decide +kernel
theorem dX8_wiresOf_20 : decode cX8_wiresOf 20 = .ok (.aload_n 0, 1) := by decide +kernel
theorem dX8_wiresOf_21 : decode cX8_wiresOf 21 = .ok (.iload_n 1, 1) := by decide +kernel
theorem dX8_wiresOf_22 : decode cX8_wiresOf 22 = .ok (.iconst 1, 1) := by decide +kernel
theorem dX8_wiresOf_23 : decode cX8_wiresOf 23 = .ok (.invokevirtual 138, 3) := by decide +kernel
theorem dX8_wiresOf_26 : decode cX8_wiresOf 26 = .ok (.invokevirtual 109, 3) := by decide +kernel
theorem dX8_wiresOf_29 : decode cX8_wiresOf 29 = .ok (.ireturn, 1) := by decide +kernel
theorem dX8_troubleOfJoin_0 : decode cX8_troubleOfJoin 0 = .ok (.aload_n 0, 1) := by decide +kernel
theorem dX8_troubleOfJoin_1 : decode cX8_troubleOfJoin 1 = .ok (.iload_n 1, 1) := by decide +kernel
theorem dX8_troubleOfJoin_2 : decode cX8_troubleOfJoin 2 = .ok (.invokevirtual 141, 3) := by decide +kernel
theorem dX8_troubleOfJoin_5 : decode cX8_troubleOfJoin 5 = .ok (.ifCond .le 7, 3) := by decide +kernel
theorem dX8_troubleOfJoin_8 : decode cX8_troubleOfJoin 8 = .ok (.iconst 3, 1) := by decide +kernel
theorem dX8_troubleOfJoin_9 : decode cX8_troubleOfJoin 9 = .ok (.goto 25, 3) := by decide +kernel
theorem dX8_troubleOfJoin_12 : decode cX8_troubleOfJoin 12 = .ok (.aload_n 0, 1) := by decide +kernel
theorem dX8_troubleOfJoin_13 : decode cX8_troubleOfJoin 13 = .ok (.iload_n 1, 1) := by decide +kernel
theorem dX8_troubleOfJoin_14 : decode cX8_troubleOfJoin 14 = .ok (.iconst 4, 1) := by decide +kernel
theorem dX8_troubleOfJoin_15 : decode cX8_troubleOfJoin 15 = .ok (.invokevirtual 138, 3) := by decide +kernel
theorem dX8_troubleOfJoin_18 : decode cX8_troubleOfJoin 18 = .ok (.iconst 3, 1) := by decide +kernel
theorem dX8_troubleOfJoin_19 : decode cX8_troubleOfJoin 19 = .ok (.aload_n 0, 1) := by decide +kernel
theorem dX8_troubleOfJoin_20 : decode cX8_troubleOfJoin 20 = .ok (.iload_n 1, 1) := by decide +kernel
theorem dX8_troubleOfJoin_21 : decode cX8_troubleOfJoin 21 = .ok (.iconst 3, 1) := by decide +kernel
theorem dX8_troubleOfJoin_22 : decode cX8_troubleOfJoin 22 = .ok (.invokevirtual 138, 3) := by decide +kernel
theorem dX8_troubleOfJoin_25 : decode cX8_troubleOfJoin 25 = .ok (.imul, 1) := by decide +kernel
theorem dX8_troubleOfJoin_26 : decode cX8_troubleOfJoin 26 = .ok (.if_icmp .le 7, 3) := by decide +kernel
theorem dX8_troubleOfJoin_29 : decode cX8_troubleOfJoin 29 = .ok (.iconst 4, 1) := by decide +kernel
theorem dX8_troubleOfJoin_30 : decode cX8_troubleOfJoin 30 = .ok (.goto 4, 3) := by decide +kernel
theorem dX8_troubleOfJoin_33 : decode cX8_troubleOfJoin 33 = .ok (.iconst 0, 1) := by decide +kernel
theorem dX8_troubleOfJoin_34 : decode cX8_troubleOfJoin 34 = .ok (.ireturn, 1) := by decide +kernel
theorem dX8_startOf_0 : decode cX8_startOf 0 = .ok (.aload_n 0, 1) := by decide +kernel
theorem dX8_startOf_1 : decode cX8_startOf 1 = .ok (.iload_n 1, 1) := by decide +kernel
theorem dX8_startOf_2 : decode cX8_startOf 2 = .ok (.iconst 3, 1) := by decide +kernel
theorem dX8_startOf_3 : decode cX8_startOf 3 = .ok (.invokevirtual 138, 3) := by decide +kernel
theorem dX8_startOf_6 : decode cX8_startOf 6 = .ok (.istore_n 2, 1) := by decide +kernel
theorem dX8_startOf_7 : decode cX8_startOf 7 = .ok (.aload_n 0, 1) := by decide +kernel
theorem dX8_startOf_8 : decode cX8_startOf 8 = .ok (.aload_n 0, 1) := by decide +kernel
theorem dX8_startOf_9 : decode cX8_startOf 9 = .ok (.iload_n 1, 1) := by decide +kernel
theorem dX8_startOf_10 : decode cX8_startOf 10 = .ok (.iconst 1, 1) := by decide +kernel
theorem dX8_startOf_11 : decode cX8_startOf 11 = .ok (.invokevirtual 138, 3) := by decide +kernel
theorem dX8_startOf_14 : decode cX8_startOf 14 = .ok (.invokevirtual 106, 3) := by decide +kernel
theorem dX8_startOf_17 : decode cX8_startOf 17 = .ok (.aload_n 0, 1) := by decide +kernel
theorem dX8_startOf_18 : decode cX8_startOf 18 = .ok (.aload_n 0, 1) := by decide +kernel
theorem dX8_startOf_19 : decode cX8_startOf 19 = .ok (.iload_n 1, 1) := by decide +kernel
theorem dX8_startOf_20 : decode cX8_startOf 20 = .ok (.iconst 0, 1) := by decide +kernel
theorem dX8_startOf_21 : decode cX8_startOf 21 = .ok (.invokevirtual 138, 3) := by decide +kernel
theorem dX8_startOf_24 : decode cX8_startOf 24 = .ok (.invokevirtual 106, 3) := by decide +kernel
theorem dX8_startOf_27 : decode cX8_startOf 27 = .ok (.isub, 1) := by decide +kernel
theorem dX8_startOf_28 : decode cX8_startOf 28 = .ok (.istore_n 3, 1) := by decide +kernel
theorem dX8_startOf_29 : decode cX8_startOf 29 = .ok (.aload_n 0, 1) := by decide +kernel
theorem dX8_startOf_30 : decode cX8_startOf 30 = .ok (.iload_n 1, 1) := by decide +kernel
theorem dX8_startOf_31 : decode cX8_startOf 31 = .ok (.iconst 2, 1) := by decide +kernel
theorem dX8_startOf_32 : decode cX8_startOf 32 = .ok (.invokevirtual 138, 3) := by decide +kernel
theorem dX8_startOf_35 : decode cX8_startOf 35 = .ok (.i2l, 1) := by decide +kernel
theorem dX8_startOf_36 : decode cX8_startOf 36 = .ok (.aload_n 0, 1) := by decide +kernel
theorem dX8_startOf_37 : decode cX8_startOf 37 = .ok (.iload_n 1, 1) := by decide +kernel
theorem dX8_startOf_38 : decode cX8_startOf 38 = .ok (.iconst 5, 1) := by decide +kernel
theorem dX8_startOf_39 : decode cX8_startOf 39 = .ok (.invokevirtual 138, 3) := by decide +kernel
theorem dX8_startOf_42 : decode cX8_startOf 42 = .ok (.aload_n 0, 1) := by decide +kernel
theorem dX8_startOf_43 : decode cX8_startOf 43 = .ok (.iload_n 1, 1) := by decide +kernel
theorem dX8_startOf_44 : decode cX8_startOf 44 = .ok (.iconst 4, 1) := by decide +kernel
theorem dX8_startOf_45 : decode cX8_startOf 45 = .ok (.invokevirtual 138, 3) := by decide +kernel
theorem dX8_startOf_48 : decode cX8_startOf 48 = .ok (.imul, 1) := by decide +kernel
theorem dX8_startOf_49 : decode cX8_startOf 49 = .ok (.iload_n 2, 1) := by decide +kernel
theorem dX8_startOf_50 : decode cX8_startOf 50 = .ok (.idiv, 1) := by decide +kernel
theorem dX8_startOf_51 : decode cX8_startOf 51 = .ok (.i2l, 1) := by decide +kernel
theorem dX8_startOf_52 : decode cX8_startOf 52 = .ok (.ladd, 1) := by decide +kernel
theorem dX8_startOf_53 : decode cX8_startOf 53 = .ok (.iload_n 3, 1) := by decide +kernel
theorem dX8_startOf_54 : decode cX8_startOf 54 = .ok (.sipush 20626, 3) := by decide +kernel
theorem dX8_startOf_57 : decode cX8_startOf 57 = .ok (.imul, 1) := by decide +kernel
theorem dX8_startOf_58 : decode cX8_startOf 58 = .ok (.iload_n 2, 1) := by decide +kernel
theorem dX8_startOf_59 : decode cX8_startOf 59 = .ok (.idiv, 1) := by decide +kernel
theorem dX8_startOf_60 : decode cX8_startOf 60 = .ok (.i2l, 1) := by decide +kernel
theorem dX8_startOf_61 : decode cX8_startOf 61 = .ok (.ladd, 1) := by decide +kernel
theorem dX8_startOf_62 : decode cX8_startOf 62 = .ok (.invokestatic 39, 3) := by decide +kernel
theorem dX8_startOf_65 : decode cX8_startOf 65 = .ok (.ireturn, 1) := by decide +kernel
theorem dX8_joinTold_0 : decode cX8_joinTold 0 = .ok (.aload_n 0, 1) := by decide +kernel
theorem dX8_joinTold_1 : decode cX8_joinTold 1 = .ok (.iload_n 1, 1) := by decide +kernel
theorem dX8_joinTold_2 : decode cX8_joinTold 2 = .ok (.invokevirtual 144, 3) := by decide +kernel
theorem dX8_joinTold_5 : decode cX8_joinTold 5 = .ok (.istore_n 3, 1) := by decide +kernel
theorem dX8_joinTold_6 : decode cX8_joinTold 6 = .ok (.iload_n 2, 1) := by decide +kernel
theorem dX8_joinTold_7 : decode cX8_joinTold 7 = .ok (.bipush 6, 2) := by decide +kernel
theorem dX8_joinTold_9 : decode cX8_joinTold 9 = .ok (.if_icmp .ge 12, 3) := by decide +kernel
theorem dX8_joinTold_12 : decode cX8_joinTold 12 = .ok (.aload_n 0, 1) := by decide +kernel
theorem dX8_joinTold_13 : decode cX8_joinTold 13 = .ok (.iload_n 1, 1) := by decide +kernel
theorem dX8_joinTold_14 : decode cX8_joinTold 14 = .ok (.iload_n 2, 1) := by decide +kernel
theorem dX8_joinTold_15 : decode cX8_joinTold 15 = .ok (.invokevirtual 138, 3) := by decide +kernel
theorem dX8_joinTold_18 : decode cX8_joinTold 18 = .ok (.goto 27, 3) := by decide +kernel
theorem dX8_joinTold_21 : decode cX8_joinTold 21 = .ok (.iload_n 2, 1) := by decide +kernel
theorem dX8_joinTold_22 : decode cX8_joinTold 22 = .ok (.bipush 6, 2) := by decide +kernel
theorem dX8_joinTold_24 : decode cX8_joinTold 24 = .ok (.if_icmp .ne 7, 3) := by decide +kernel
theorem dX8_joinTold_27 : decode cX8_joinTold 27 = .ok (.iload_n 3, 1) := by decide +kernel
theorem dX8_joinTold_28 : decode cX8_joinTold 28 = .ok (.goto 17, 3) := by decide +kernel
theorem dX8_joinTold_31 : decode cX8_joinTold 31 = .ok (.iload_n 3, 1) := by decide +kernel
theorem dX8_joinTold_32 : decode cX8_joinTold 32 = .ok (.ifCond .le 8, 3) := by decide +kernel
theorem dX8_joinTold_35 : decode cX8_joinTold 35 = .ok (.ldc 105, 2) := by decide +kernel
theorem dX8_joinTold_37 : decode cX8_joinTold 37 = .ok (.goto 8, 3) := by decide +kernel
theorem dX8_joinTold_40 : decode cX8_joinTold 40 = .ok (.aload_n 0, 1) := by decide +kernel
theorem dX8_joinTold_41 : decode cX8_joinTold 41 = .ok (.iload_n 1, 1) := by decide +kernel
theorem dX8_joinTold_42 : decode cX8_joinTold 42 = .ok (.invokevirtual 147, 3) := by decide +kernel
theorem dX8_joinTold_45 : decode cX8_joinTold 45 = .ok (.ireturn, 1) := by decide +kernel
theorem dX8_joinOf_0 : decode cX8_joinOf 0 = .ok (.aload_n 0, 1) := by decide +kernel
theorem dX8_joinOf_1 : decode cX8_joinOf 1 = .ok (.aload_n 0, 1) := by decide +kernel
theorem dX8_joinOf_2 : decode cX8_joinOf 2 = .ok (.iload_n 1, 1) := by decide +kernel
theorem dX8_joinOf_3 : decode cX8_joinOf 3 = .ok (.invokevirtual 135, 3) := by decide +kernel
theorem dX8_joinOf_6 : decode cX8_joinOf 6 = .ok (.ifCond .ne 7, 3) := by decide +kernel
theorem dX8_joinOf_9 : decode cX8_joinOf 9 = .ok (.iconst 1, 1) := by decide +kernel
theorem dX8_joinOf_10 : decode cX8_joinOf 10 = .ok (.goto 20, 3) := by decide +kernel
theorem dX8_joinOf_13 : decode cX8_joinOf 13 = .ok (.iload_n 2, 1) := by decide +kernel
theorem dX8_joinOf_14 : decode cX8_joinOf 14 = .ok (.i2l, 1) := by decide +kernel
theorem dX8_joinOf_15 : decode cX8_joinOf 15 = .ok (.lconst 0, 1) := by decide +kernel
theorem dX8_joinOf_16 : decode cX8_joinOf 16 = .ok (.ldc2_w 84, 3) := by decide +kernel
theorem dX8_joinOf_19 : decode cX8_joinOf 19 = .ok (.invokestatic 62, 3) := by decide +kernel
theorem dX8_joinOf_22 : decode cX8_joinOf 22 = .ok (.ifCond .eq 7, 3) := by decide +kernel
theorem dX8_joinOf_25 : decode cX8_joinOf 25 = .ok (.iconst 0, 1) := by decide +kernel
theorem dX8_joinOf_26 : decode cX8_joinOf 26 = .ok (.goto 4, 3) := by decide +kernel
theorem dX8_joinOf_29 : decode cX8_joinOf 29 = .ok (.iconst 2, 1) := by decide +kernel
theorem dX8_joinOf_30 : decode cX8_joinOf 30 = .ok (.invokevirtual 70, 3) := by decide +kernel
theorem dX8_joinOf_33 : decode cX8_joinOf 33 = .ok (.ifCond .eq 7, 3) := by decide +kernel
theorem dX8_joinOf_36 : decode cX8_joinOf 36 = .ok (.iconst 0, 1) := by decide +kernel
theorem dX8_joinOf_37 : decode cX8_joinOf 37 = .ok (.goto 9, 3) := by decide +kernel
theorem dX8_joinOf_40 : decode cX8_joinOf 40 = .ok (.aload_n 0, 1) := by decide +kernel
theorem dX8_joinOf_41 : decode cX8_joinOf 41 = .ok (.iload_n 1, 1) := by decide +kernel
theorem dX8_joinOf_42 : decode cX8_joinOf 42 = .ok (.iload_n 2, 1) := by decide +kernel
theorem dX8_joinOf_43 : decode cX8_joinOf 43 = .ok (.invokevirtual 150, 3) := by decide +kernel
theorem dX8_joinOf_46 : decode cX8_joinOf 46 = .ok (.ireturn, 1) := by decide +kernel
theorem dX8_begin_0 : decode cX8_begin 0 = .ok (.aload_n 0, 1) := by decide +kernel
theorem dX8_begin_1 : decode cX8_begin 1 = .ok (.aload_n 0, 1) := by decide +kernel
theorem dX8_begin_2 : decode cX8_begin 2 = .ok (.iload_n 1, 1) := by decide +kernel
theorem dX8_begin_3 : decode cX8_begin 3 = .ok (.invokevirtual 135, 3) := by decide +kernel
theorem dX8_begin_6 : decode cX8_begin 6 = .ok (.ifCond .ne 7, 3) := by decide +kernel
theorem dX8_begin_9 : decode cX8_begin 9 = .ok (.iconst 1, 1) := by decide +kernel
theorem dX8_begin_10 : decode cX8_begin 10 = .ok (.goto 18, 3) := by decide +kernel
theorem dX8_begin_13 : decode cX8_begin 13 = .ok (.aload_n 0, 1) := by decide +kernel
theorem dX8_begin_14 : decode cX8_begin 14 = .ok (.getfield 7, 3) := by decide +kernel
theorem dX8_begin_17 : decode cX8_begin 17 = .ok (.iconst 5, 1) := by decide +kernel
theorem dX8_begin_18 : decode cX8_begin 18 = .ok (.iaload, 1) := by decide +kernel
theorem dX8_begin_19 : decode cX8_begin 19 = .ok (.iconst 4, 1) := by decide +kernel
theorem dX8_begin_20 : decode cX8_begin 20 = .ok (.if_icmp .ne 7, 3) := by decide +kernel
theorem dX8_begin_23 : decode cX8_begin 23 = .ok (.iconst 2, 1) := by decide +kernel
theorem dX8_begin_24 : decode cX8_begin 24 = .ok (.goto 4, 3) := by decide +kernel
theorem dX8_begin_27 : decode cX8_begin 27 = .ok (.iconst 0, 1) := by decide +kernel
theorem dX8_begin_28 : decode cX8_begin 28 = .ok (.invokevirtual 70, 3) := by decide +kernel
theorem dX8_begin_31 : decode cX8_begin 31 = .ok (.ifCond .eq 5, 3) := by decide +kernel
theorem dX8_begin_34 : decode cX8_begin 34 = .ok (.iconst 0, 1) := by decide +kernel
theorem dX8_begin_35 : decode cX8_begin 35 = .ok (.ireturn, 1) := by decide +kernel
theorem dX8_begin_36 : decode cX8_begin 36 = .ok (.aload_n 0, 1) := by decide +kernel
theorem dX8_begin_37 : decode cX8_begin 37 = .ok (.invokevirtual 74, 3) := by decide +kernel
theorem dX8_begin_40 : decode cX8_begin 40 = .ok (.bipush 102, 2) := by decide +kernel
theorem dX8_begin_42 : decode cX8_begin 42 = .ok (.bipush 28, 2) := by decide +kernel
theorem dX8_begin_44 : decode cX8_begin 44 = .ok (.aload_n 0, 1) := by decide +kernel
theorem dX8_begin_45 : decode cX8_begin 45 = .ok (.getfield 7, 3) := by decide +kernel
theorem dX8_begin_48 : decode cX8_begin 48 = .ok (.iconst 5, 1) := by decide +kernel
theorem dX8_begin_49 : decode cX8_begin 49 = .ok (.iaload, 1) := by decide +kernel
theorem dX8_begin_50 : decode cX8_begin 50 = .ok (.imul, 1) := by decide +kernel
theorem dX8_begin_51 : decode cX8_begin 51 = .ok (.iadd, 1) := by decide +kernel
theorem dX8_begin_52 : decode cX8_begin 52 = .ok (.istore_n 2, 1) := by decide +kernel
theorem dX8_begin_53 : decode cX8_begin 53 = .ok (.aload_n 0, 1) := by decide +kernel
theorem dX8_begin_54 : decode cX8_begin 54 = .ok (.getfield 7, 3) := by decide +kernel
theorem dX8_begin_57 : decode cX8_begin 57 = .ok (.iload_n 2, 1) := by decide +kernel
theorem dX8_begin_58 : decode cX8_begin 58 = .ok (.iload_n 1, 1) := by decide +kernel
theorem dX8_begin_59 : decode cX8_begin 59 = .ok (.iastore, 1) := by decide +kernel
theorem dX8_begin_60 : decode cX8_begin 60 = .ok (.aload_n 0, 1) := by decide +kernel
theorem dX8_begin_61 : decode cX8_begin 61 = .ok (.getfield 7, 3) := by decide +kernel
theorem dX8_begin_64 : decode cX8_begin 64 = .ok (.iload_n 2, 1) := by decide +kernel
theorem dX8_begin_65 : decode cX8_begin 65 = .ok (.iconst 1, 1) := by decide +kernel
theorem dX8_begin_66 : decode cX8_begin 66 = .ok (.iadd, 1) := by decide +kernel
theorem dX8_begin_67 : decode cX8_begin 67 = .ok (.iconst 0, 1) := by decide +kernel
theorem dX8_begin_68 : decode cX8_begin 68 = .ok (.iastore, 1) := by decide +kernel
theorem dX8_begin_69 : decode cX8_begin 69 = .ok (.aload_n 0, 1) := by decide +kernel
theorem dX8_begin_70 : decode cX8_begin 70 = .ok (.getfield 7, 3) := by decide +kernel
theorem dX8_begin_73 : decode cX8_begin 73 = .ok (.iload_n 2, 1) := by decide +kernel
theorem dX8_begin_74 : decode cX8_begin 74 = .ok (.iconst 2, 1) := by decide +kernel
theorem dX8_begin_75 : decode cX8_begin 75 = .ok (.iadd, 1) := by decide +kernel
theorem dX8_begin_76 : decode cX8_begin 76 = .ok (.iconst (-1), 1) := by decide +kernel
theorem dX8_begin_77 : decode cX8_begin 77 = .ok (.iastore, 1) := by decide +kernel
theorem dX8_begin_78 : decode cX8_begin 78 = .ok (.aload_n 0, 1) := by decide +kernel
theorem dX8_begin_79 : decode cX8_begin 79 = .ok (.getfield 7, 3) := by decide +kernel
theorem dX8_begin_82 : decode cX8_begin 82 = .ok (.iconst 5, 1) := by decide +kernel
theorem dX8_begin_83 : decode cX8_begin 83 = .ok (.dup2, 1) := by decide +kernel
theorem dX8_begin_84 : decode cX8_begin 84 = .ok (.iaload, 1) := by decide +kernel
theorem dX8_begin_85 : decode cX8_begin 85 = .ok (.iconst 1, 1) := by decide +kernel
theorem dX8_begin_86 : decode cX8_begin 86 = .ok (.iadd, 1) := by decide +kernel
theorem dX8_begin_87 : decode cX8_begin 87 = .ok (.iastore, 1) := by decide +kernel
theorem dX8_begin_88 : decode cX8_begin 88 = .ok (.aload_n 0, 1) := by decide +kernel
theorem dX8_begin_89 : decode cX8_begin 89 = .ok (.getfield 7, 3) := by decide +kernel
theorem dX8_begin_92 : decode cX8_begin 92 = .ok (.iconst 5, 1) := by decide +kernel
theorem dX8_begin_93 : decode cX8_begin 93 = .ok (.iaload, 1) := by decide +kernel
theorem dX8_begin_94 : decode cX8_begin 94 = .ok (.iconst 1, 1) := by decide +kernel
theorem dX8_begin_95 : decode cX8_begin 95 = .ok (.isub, 1) := by decide +kernel
theorem dX8_begin_96 : decode cX8_begin 96 = .ok (.ireturn, 1) := by decide +kernel
theorem dX8_addLeg_0 : decode cX8_addLeg 0 = .ok (.iload_n 2, 1) := by decide +kernel
theorem dX8_addLeg_1 : decode cX8_addLeg 1 = .ok (.invokestatic 123, 3) := by decide +kernel
theorem dX8_addLeg_4 : decode cX8_addLeg 4 = .ok (.ifCond .eq 19, 3) := by decide +kernel
theorem dX8_addLeg_7 : decode cX8_addLeg 7 = .ok (.iload_n 3, 1) := by decide +kernel
theorem dX8_addLeg_8 : decode cX8_addLeg 8 = .ok (.i2l, 1) := by decide +kernel
theorem dX8_addLeg_9 : decode cX8_addLeg 9 = .ok (.lconst 1, 1) := by decide +kernel
theorem dX8_addLeg_10 : decode cX8_addLeg 10 = .ok (.ldc2_w 153, 3) := by decide +kernel
theorem dX8_addLeg_13 : decode cX8_addLeg 13 = .ok (.invokestatic 62, 3) := by decide +kernel
theorem dX8_addLeg_16 : decode cX8_addLeg 16 = .ok (.ifCond .eq 7, 3) := by decide +kernel
theorem dX8_addLeg_19 : decode cX8_addLeg 19 = .ok (.iconst 1, 1) := by decide +kernel
theorem dX8_addLeg_20 : decode cX8_addLeg 20 = .ok (.goto 4, 3) := by decide +kernel
theorem dX8_addLeg_23 : decode cX8_addLeg 23 = .ok (.iconst 0, 1) := by decide +kernel
theorem dX8_addLeg_24 : decode cX8_addLeg 24 = .ok (.istore 4, 2) := by decide +kernel
theorem dX8_addLeg_26 : decode cX8_addLeg 26 = .ok (.aload_n 0, 1) := by decide +kernel
theorem dX8_addLeg_27 : decode cX8_addLeg 27 = .ok (.aload_n 0, 1) := by decide +kernel
theorem dX8_addLeg_28 : decode cX8_addLeg 28 = .ok (.iload_n 1, 1) := by decide +kernel
theorem dX8_addLeg_29 : decode cX8_addLeg 29 = .ok (.invokevirtual 155, 3) := by decide +kernel
theorem dX8_addLeg_32 : decode cX8_addLeg 32 = .ok (.ifCond .ne 7, 3) := by decide +kernel
theorem dX8_addLeg_35 : decode cX8_addLeg 35 = .ok (.iconst 1, 1) := by decide +kernel
theorem dX8_addLeg_36 : decode cX8_addLeg 36 = .ok (.goto 35, 3) := by decide +kernel
theorem dX8_addLeg_39 : decode cX8_addLeg 39 = .ok (.iload 4, 2) := by decide +kernel
theorem dX8_addLeg_41 : decode cX8_addLeg 41 = .ok (.ifCond .ne 7, 3) := by decide +kernel
theorem dX8_addLeg_44 : decode cX8_addLeg 44 = .ok (.iconst 2, 1) := by decide +kernel
theorem dX8_addLeg_45 : decode cX8_addLeg 45 = .ok (.goto 26, 3) := by decide +kernel
theorem dX8_addLeg_48 : decode cX8_addLeg 48 = .ok (.aload_n 0, 1) := by decide +kernel
theorem dX8_addLeg_49 : decode cX8_addLeg 49 = .ok (.iload_n 1, 1) := by decide +kernel
theorem dX8_addLeg_50 : decode cX8_addLeg 50 = .ok (.invokevirtual 158, 3) := by decide +kernel
theorem dX8_addLeg_53 : decode cX8_addLeg 53 = .ok (.ifCond .ne 13, 3) := by decide +kernel
theorem dX8_addLeg_56 : decode cX8_addLeg 56 = .ok (.aload_n 0, 1) := by decide +kernel
theorem dX8_addLeg_57 : decode cX8_addLeg 57 = .ok (.iload_n 1, 1) := by decide +kernel
theorem dX8_addLeg_58 : decode cX8_addLeg 58 = .ok (.invokevirtual 77, 3) := by decide +kernel
theorem dX8_addLeg_61 : decode cX8_addLeg 61 = .ok (.bipush 12, 2) := by decide +kernel
theorem dX8_addLeg_63 : decode cX8_addLeg 63 = .ok (.if_icmp .ne 7, 3) := by decide +kernel
theorem dX8_addLeg_66 : decode cX8_addLeg 66 = .ok (.iconst 3, 1) := by decide +kernel
theorem dX8_addLeg_67 : decode cX8_addLeg 67 = .ok (.goto 4, 3) := by decide +kernel
theorem dX8_addLeg_70 : decode cX8_addLeg 70 = .ok (.iconst 0, 1) := by decide +kernel
theorem dX8_addLeg_71 : decode cX8_addLeg 71 = .ok (.invokevirtual 70, 3) := by decide +kernel
theorem dX8_addLeg_74 : decode cX8_addLeg 74 = .ok (.ifCond .eq 5, 3) := by decide +kernel
theorem dX8_addLeg_77 : decode cX8_addLeg 77 = .ok (.iconst 0, 1) := by decide +kernel
theorem dX8_addLeg_78 : decode cX8_addLeg 78 = .ok (.ireturn, 1) := by decide +kernel
theorem dX8_addLeg_79 : decode cX8_addLeg 79 = .ok (.aload_n 0, 1) := by decide +kernel
theorem dX8_addLeg_80 : decode cX8_addLeg 80 = .ok (.invokevirtual 74, 3) := by decide +kernel
theorem dX8_addLeg_83 : decode cX8_addLeg 83 = .ok (.bipush 102, 2) := by decide +kernel
theorem dX8_addLeg_85 : decode cX8_addLeg 85 = .ok (.bipush 28, 2) := by decide +kernel
theorem dX8_addLeg_87 : decode cX8_addLeg 87 = .ok (.iload_n 1, 1) := by decide +kernel
theorem dX8_addLeg_88 : decode cX8_addLeg 88 = .ok (.imul, 1) := by decide +kernel
theorem dX8_addLeg_89 : decode cX8_addLeg 89 = .ok (.iadd, 1) := by decide +kernel
theorem dX8_addLeg_90 : decode cX8_addLeg 90 = .ok (.istore 5, 2) := by decide +kernel
theorem dX8_addLeg_92 : decode cX8_addLeg 92 = .ok (.aload_n 0, 1) := by decide +kernel
theorem dX8_addLeg_93 : decode cX8_addLeg 93 = .ok (.getfield 7, 3) := by decide +kernel
theorem dX8_addLeg_96 : decode cX8_addLeg 96 = .ok (.iload 5, 2) := by decide +kernel
theorem dX8_addLeg_98 : decode cX8_addLeg 98 = .ok (.iconst 4, 1) := by decide +kernel
theorem dX8_addLeg_99 : decode cX8_addLeg 99 = .ok (.iadd, 1) := by decide +kernel
theorem dX8_addLeg_100 : decode cX8_addLeg 100 = .ok (.iconst 2, 1) := by decide +kernel
theorem dX8_addLeg_101 : decode cX8_addLeg 101 = .ok (.aload_n 0, 1) := by decide +kernel
theorem dX8_addLeg_102 : decode cX8_addLeg 102 = .ok (.getfield 7, 3) := by decide +kernel
theorem dX8_addLeg_105 : decode cX8_addLeg 105 = .ok (.iload 5, 2) := by decide +kernel
theorem dX8_addLeg_107 : decode cX8_addLeg 107 = .ok (.iconst 1, 1) := by decide +kernel
theorem dX8_addLeg_108 : decode cX8_addLeg 108 = .ok (.iadd, 1) := by decide +kernel
theorem dX8_addLeg_109 : decode cX8_addLeg 109 = .ok (.iaload, 1) := by decide +kernel
theorem dX8_addLeg_110 : decode cX8_addLeg 110 = .ok (.imul, 1) := by decide +kernel
theorem dX8_addLeg_111 : decode cX8_addLeg 111 = .ok (.iadd, 1) := by decide +kernel
theorem dX8_addLeg_112 : decode cX8_addLeg 112 = .ok (.iload_n 2, 1) := by decide +kernel
theorem dX8_addLeg_113 : decode cX8_addLeg 113 = .ok (.iastore, 1) := by decide +kernel
theorem dX8_addLeg_114 : decode cX8_addLeg 114 = .ok (.aload_n 0, 1) := by decide +kernel
theorem dX8_addLeg_115 : decode cX8_addLeg 115 = .ok (.getfield 7, 3) := by decide +kernel
theorem dX8_addLeg_118 : decode cX8_addLeg 118 = .ok (.iload 5, 2) := by decide +kernel
theorem dX8_addLeg_120 : decode cX8_addLeg 120 = .ok (.iconst 5, 1) := by decide +kernel
theorem dX8_addLeg_121 : decode cX8_addLeg 121 = .ok (.iadd, 1) := by decide +kernel
theorem dX8_addLeg_122 : decode cX8_addLeg 122 = .ok (.iconst 2, 1) := by decide +kernel
theorem dX8_addLeg_123 : decode cX8_addLeg 123 = .ok (.aload_n 0, 1) := by decide +kernel
theorem dX8_addLeg_124 : decode cX8_addLeg 124 = .ok (.getfield 7, 3) := by decide +kernel
theorem dX8_addLeg_127 : decode cX8_addLeg 127 = .ok (.iload 5, 2) := by decide +kernel
theorem dX8_addLeg_129 : decode cX8_addLeg 129 = .ok (.iconst 1, 1) := by decide +kernel
theorem dX8_addLeg_130 : decode cX8_addLeg 130 = .ok (.iadd, 1) := by decide +kernel
theorem dX8_addLeg_131 : decode cX8_addLeg 131 = .ok (.iaload, 1) := by decide +kernel
theorem dX8_addLeg_132 : decode cX8_addLeg 132 = .ok (.imul, 1) := by decide +kernel
theorem dX8_addLeg_133 : decode cX8_addLeg 133 = .ok (.iadd, 1) := by decide +kernel
theorem dX8_addLeg_134 : decode cX8_addLeg 134 = .ok (.iload_n 3, 1) := by decide +kernel
theorem dX8_addLeg_135 : decode cX8_addLeg 135 = .ok (.iastore, 1) := by decide +kernel
theorem dX8_addLeg_136 : decode cX8_addLeg 136 = .ok (.aload_n 0, 1) := by decide +kernel
theorem dX8_addLeg_137 : decode cX8_addLeg 137 = .ok (.getfield 7, 3) := by decide +kernel
theorem dX8_addLeg_140 : decode cX8_addLeg 140 = .ok (.iload 5, 2) := by decide +kernel
theorem dX8_addLeg_142 : decode cX8_addLeg 142 = .ok (.iconst 1, 1) := by decide +kernel
theorem dX8_addLeg_143 : decode cX8_addLeg 143 = .ok (.iadd, 1) := by decide +kernel
theorem dX8_addLeg_144 : decode cX8_addLeg 144 = .ok (.dup2, 1) := by decide +kernel
theorem dX8_addLeg_145 : decode cX8_addLeg 145 = .ok (.iaload, 1) := by decide +kernel
theorem dX8_addLeg_146 : decode cX8_addLeg 146 = .ok (.iconst 1, 1) := by decide +kernel
theorem dX8_addLeg_147 : decode cX8_addLeg 147 = .ok (.iadd, 1) := by decide +kernel
theorem dX8_addLeg_148 : decode cX8_addLeg 148 = .ok (.iastore, 1) := by decide +kernel
theorem dX8_addLeg_149 : decode cX8_addLeg 149 = .ok (.aload_n 0, 1) := by decide +kernel
theorem dX8_addLeg_150 : decode cX8_addLeg 150 = .ok (.getfield 7, 3) := by decide +kernel
theorem dX8_addLeg_153 : decode cX8_addLeg 153 = .ok (.iload 5, 2) := by decide +kernel
theorem dX8_addLeg_155 : decode cX8_addLeg 155 = .ok (.iconst 1, 1) := by decide +kernel
theorem dX8_addLeg_156 : decode cX8_addLeg 156 = .ok (.iadd, 1) := by decide +kernel
theorem dX8_addLeg_157 : decode cX8_addLeg 157 = .ok (.iaload, 1) := by decide +kernel
theorem dX8_addLeg_158 : decode cX8_addLeg 158 = .ok (.iconst 1, 1) := by decide +kernel
theorem dX8_addLeg_159 : decode cX8_addLeg 159 = .ok (.isub, 1) := by decide +kernel
theorem dX8_addLeg_160 : decode cX8_addLeg 160 = .ok (.ireturn, 1) := by decide +kernel
theorem dX8_dropLeg_0 : decode cX8_dropLeg 0 = .ok (.aload_n 0, 1) := by decide +kernel
theorem dX8_dropLeg_1 : decode cX8_dropLeg 1 = .ok (.aload_n 0, 1) := by decide +kernel
theorem dX8_dropLeg_2 : decode cX8_dropLeg 2 = .ok (.iload_n 1, 1) := by decide +kernel
theorem dX8_dropLeg_3 : decode cX8_dropLeg 3 = .ok (.invokevirtual 155, 3) := by decide +kernel
theorem dX8_dropLeg_6 : decode cX8_dropLeg 6 = .ok (.ifCond .ne 7, 3) := by decide +kernel
theorem dX8_dropLeg_9 : decode cX8_dropLeg 9 = .ok (.iconst 1, 1) := by decide +kernel
theorem dX8_dropLeg_10 : decode cX8_dropLeg 10 = .ok (.goto 16, 3) := by decide +kernel
theorem dX8_dropLeg_13 : decode cX8_dropLeg 13 = .ok (.aload_n 0, 1) := by decide +kernel
theorem dX8_dropLeg_14 : decode cX8_dropLeg 14 = .ok (.iload_n 1, 1) := by decide +kernel
theorem dX8_dropLeg_15 : decode cX8_dropLeg 15 = .ok (.invokevirtual 77, 3) := by decide +kernel
theorem dX8_dropLeg_18 : decode cX8_dropLeg 18 = .ok (.ifCond .ne 7, 3) := by decide +kernel
theorem dX8_dropLeg_21 : decode cX8_dropLeg 21 = .ok (.iconst 2, 1) := by decide +kernel
theorem dX8_dropLeg_22 : decode cX8_dropLeg 22 = .ok (.goto 4, 3) := by decide +kernel
theorem dX8_dropLeg_25 : decode cX8_dropLeg 25 = .ok (.iconst 0, 1) := by decide +kernel
theorem dX8_dropLeg_26 : decode cX8_dropLeg 26 = .ok (.invokevirtual 70, 3) := by decide +kernel
theorem dX8_dropLeg_29 : decode cX8_dropLeg 29 = .ok (.ifCond .eq 5, 3) := by decide +kernel
theorem dX8_dropLeg_32 : decode cX8_dropLeg 32 = .ok (.iconst 0, 1) := by decide +kernel
theorem dX8_dropLeg_33 : decode cX8_dropLeg 33 = .ok (.ireturn, 1) := by decide +kernel
theorem dX8_dropLeg_34 : decode cX8_dropLeg 34 = .ok (.aload_n 0, 1) := by decide +kernel
theorem dX8_dropLeg_35 : decode cX8_dropLeg 35 = .ok (.invokevirtual 74, 3) := by decide +kernel
theorem dX8_dropLeg_38 : decode cX8_dropLeg 38 = .ok (.bipush 102, 2) := by decide +kernel
theorem dX8_dropLeg_40 : decode cX8_dropLeg 40 = .ok (.bipush 28, 2) := by decide +kernel
theorem dX8_dropLeg_42 : decode cX8_dropLeg 42 = .ok (.iload_n 1, 1) := by decide +kernel
theorem dX8_dropLeg_43 : decode cX8_dropLeg 43 = .ok (.imul, 1) := by decide +kernel
theorem dX8_dropLeg_44 : decode cX8_dropLeg 44 = .ok (.iadd, 1) := by decide +kernel
theorem dX8_dropLeg_45 : decode cX8_dropLeg 45 = .ok (.istore_n 2, 1) := by decide +kernel
theorem dX8_dropLeg_46 : decode cX8_dropLeg 46 = .ok (.aload_n 0, 1) := by decide +kernel
theorem dX8_dropLeg_47 : decode cX8_dropLeg 47 = .ok (.getfield 7, 3) := by decide +kernel
theorem dX8_dropLeg_50 : decode cX8_dropLeg 50 = .ok (.iload_n 2, 1) := by decide +kernel
theorem dX8_dropLeg_51 : decode cX8_dropLeg 51 = .ok (.iconst 1, 1) := by decide +kernel
theorem dX8_dropLeg_52 : decode cX8_dropLeg 52 = .ok (.iadd, 1) := by decide +kernel
theorem dX8_dropLeg_53 : decode cX8_dropLeg 53 = .ok (.dup2, 1) := by decide +kernel
theorem dX8_dropLeg_54 : decode cX8_dropLeg 54 = .ok (.iaload, 1) := by decide +kernel
theorem dX8_dropLeg_55 : decode cX8_dropLeg 55 = .ok (.iconst 1, 1) := by decide +kernel
theorem dX8_dropLeg_56 : decode cX8_dropLeg 56 = .ok (.isub, 1) := by decide +kernel
theorem dX8_dropLeg_57 : decode cX8_dropLeg 57 = .ok (.iastore, 1) := by decide +kernel
theorem dX8_dropLeg_58 : decode cX8_dropLeg 58 = .ok (.aload_n 0, 1) := by decide +kernel
theorem dX8_dropLeg_59 : decode cX8_dropLeg 59 = .ok (.getfield 7, 3) := by decide +kernel
theorem dX8_dropLeg_62 : decode cX8_dropLeg 62 = .ok (.iload_n 2, 1) := by decide +kernel
theorem dX8_dropLeg_63 : decode cX8_dropLeg 63 = .ok (.iconst 2, 1) := by decide +kernel
theorem dX8_dropLeg_64 : decode cX8_dropLeg 64 = .ok (.iadd, 1) := by decide +kernel
theorem dX8_dropLeg_65 : decode cX8_dropLeg 65 = .ok (.iconst (-1), 1) := by decide +kernel
theorem dX8_dropLeg_66 : decode cX8_dropLeg 66 = .ok (.iastore, 1) := by decide +kernel
theorem dX8_dropLeg_67 : decode cX8_dropLeg 67 = .ok (.aload_n 0, 1) := by decide +kernel
theorem dX8_dropLeg_68 : decode cX8_dropLeg 68 = .ok (.getfield 7, 3) := by decide +kernel
theorem dX8_dropLeg_71 : decode cX8_dropLeg 71 = .ok (.iload_n 2, 1) := by decide +kernel
theorem dX8_dropLeg_72 : decode cX8_dropLeg 72 = .ok (.iconst 1, 1) := by decide +kernel
theorem dX8_dropLeg_73 : decode cX8_dropLeg 73 = .ok (.iadd, 1) := by decide +kernel
theorem dX8_dropLeg_74 : decode cX8_dropLeg 74 = .ok (.iaload, 1) := by decide +kernel
theorem dX8_dropLeg_75 : decode cX8_dropLeg 75 = .ok (.ireturn, 1) := by decide +kernel
theorem dX8_bearing_0 : decode cX8_bearing 0 = .ok (.aload_n 0, 1) := by decide +kernel
theorem dX8_bearing_1 : decode cX8_bearing 1 = .ok (.aload_n 0, 1) := by decide +kernel
theorem dX8_bearing_2 : decode cX8_bearing 2 = .ok (.iload_n 1, 1) := by decide +kernel
theorem dX8_bearing_3 : decode cX8_bearing 3 = .ok (.iconst 0, 1) := by decide +kernel
theorem dX8_bearing_4 : decode cX8_bearing 4 = .ok (.invokevirtual 33, 3) := by decide +kernel
theorem dX8_bearing_7 : decode cX8_bearing 7 = .ok (.invokevirtual 147, 3) := by decide +kernel
theorem dX8_bearing_10 : decode cX8_bearing 10 = .ok (.i2l, 1) := by decide +kernel
theorem dX8_bearing_11 : decode cX8_bearing 11 = .ok (.lstore_n 3, 1) := by decide +kernel
theorem dX8_bearing_12 : decode cX8_bearing 12 = .ok (.iconst 0, 1) := by decide +kernel
theorem dX8_bearing_13 : decode cX8_bearing 13 = .ok (.istore 5, 2) := by decide +kernel
theorem dX8_bearing_15 : decode cX8_bearing 15 = .ok (.iload 5, 2) := by decide +kernel
theorem dX8_bearing_17 : decode cX8_bearing 17 = .ok (.iload_n 2, 1) := by decide +kernel
theorem dX8_bearing_18 : decode cX8_bearing 18 = .ok (.if_icmp .gt 56, 3) := by decide +kernel
theorem dX8_bearing_21 : decode cX8_bearing 21 = .ok (.lload_n 3, 1) := by decide +kernel
theorem dX8_bearing_22 : decode cX8_bearing 22 = .ok (.iload 5, 2) := by decide +kernel
theorem dX8_bearing_24 : decode cX8_bearing 24 = .ok (.aload_n 0, 1) := by decide +kernel
theorem dX8_bearing_25 : decode cX8_bearing 25 = .ok (.iload_n 1, 1) := by decide +kernel
theorem dX8_bearing_26 : decode cX8_bearing 26 = .ok (.invokevirtual 77, 3) := by decide +kernel
theorem dX8_bearing_29 : decode cX8_bearing 29 = .ok (.if_icmp .ne 12, 3) := by decide +kernel
theorem dX8_bearing_32 : decode cX8_bearing 32 = .ok (.aload_n 0, 1) := by decide +kernel
theorem dX8_bearing_33 : decode cX8_bearing 33 = .ok (.iload_n 1, 1) := by decide +kernel
theorem dX8_bearing_34 : decode cX8_bearing 34 = .ok (.iconst 3, 1) := by decide +kernel
theorem dX8_bearing_35 : decode cX8_bearing 35 = .ok (.invokevirtual 33, 3) := by decide +kernel
theorem dX8_bearing_38 : decode cX8_bearing 38 = .ok (.goto 10, 3) := by decide +kernel
theorem dX8_bearing_41 : decode cX8_bearing 41 = .ok (.aload_n 0, 1) := by decide +kernel
theorem dX8_bearing_42 : decode cX8_bearing 42 = .ok (.iload_n 1, 1) := by decide +kernel
theorem dX8_bearing_43 : decode cX8_bearing 43 = .ok (.iload 5, 2) := by decide +kernel
theorem dX8_bearing_45 : decode cX8_bearing 45 = .ok (.invokevirtual 161, 3) := by decide +kernel
theorem dX8_bearing_48 : decode cX8_bearing 48 = .ok (.i2l, 1) := by decide +kernel
theorem dX8_bearing_49 : decode cX8_bearing 49 = .ok (.ladd, 1) := by decide +kernel
theorem dX8_bearing_50 : decode cX8_bearing 50 = .ok (.iload 5, 2) := by decide +kernel
theorem dX8_bearing_52 : decode cX8_bearing 52 = .ok (.ifCond .ne 7, 3) := by decide +kernel
theorem dX8_bearing_55 : decode cX8_bearing 55 = .ok (.lconst 0, 1) := by decide +kernel
theorem dX8_bearing_56 : decode cX8_bearing 56 = .ok (.goto 6, 3) := by decide +kernel
theorem dX8_bearing_59 : decode cX8_bearing 59 = .ok (.ldc2_w 45, 3) := by decide +kernel
theorem dX8_bearing_62 : decode cX8_bearing 62 = .ok (.ladd, 1) := by decide +kernel
theorem dX8_bearing_63 : decode cX8_bearing 63 = .ok (.invokestatic 39, 3) := by decide +kernel
theorem dX8_bearing_66 : decode cX8_bearing 66 = .ok (.i2l, 1) := by decide +kernel
theorem dX8_bearing_67 : decode cX8_bearing 67 = .ok (.lstore_n 3, 1) := by decide +kernel
theorem dX8_bearing_68 : decode cX8_bearing 68 = .ok (.iinc 5 1, 3) := by decide +kernel
theorem dX8_bearing_71 : decode cX8_bearing 71 = .ok (.goto (-56), 3) := by decide +kernel
theorem dX8_bearing_74 : decode cX8_bearing 74 = .ok (.lload_n 3, 1) := by decide +kernel
theorem dX8_bearing_75 : decode cX8_bearing 75 = .ok (.l2i, 1) := by decide +kernel
theorem dX8_bearing_76 : decode cX8_bearing 76 = .ok (.ireturn, 1) := by decide +kernel
theorem dX8_gap_0 : decode cX8_gap 0 = .ok (.aload_n 0, 1) := by decide +kernel
theorem dX8_gap_1 : decode cX8_gap 1 = .ok (.iload_n 1, 1) := by decide +kernel
theorem dX8_gap_2 : decode cX8_gap 2 = .ok (.aload_n 0, 1) := by decide +kernel
theorem dX8_gap_3 : decode cX8_gap 3 = .ok (.iload_n 1, 1) := by decide +kernel
theorem dX8_gap_4 : decode cX8_gap 4 = .ok (.invokevirtual 77, 3) := by decide +kernel
theorem dX8_gap_7 : decode cX8_gap 7 = .ok (.invokevirtual 164, 3) := by decide +kernel
theorem dX8_gap_10 : decode cX8_gap 10 = .ok (.i2l, 1) := by decide +kernel
theorem dX8_gap_11 : decode cX8_gap 11 = .ok (.aload_n 0, 1) := by decide +kernel
theorem dX8_gap_12 : decode cX8_gap 12 = .ok (.aload_n 0, 1) := by decide +kernel
theorem dX8_gap_13 : decode cX8_gap 13 = .ok (.iload_n 1, 1) := by decide +kernel
theorem dX8_gap_14 : decode cX8_gap 14 = .ok (.iconst 2, 1) := by decide +kernel
theorem dX8_gap_15 : decode cX8_gap 15 = .ok (.invokevirtual 33, 3) := by decide +kernel
theorem dX8_gap_18 : decode cX8_gap 18 = .ok (.invokevirtual 147, 3) := by decide +kernel
theorem dX8_gap_21 : decode cX8_gap 21 = .ok (.i2l, 1) := by decide +kernel
theorem dX8_gap_22 : decode cX8_gap 22 = .ok (.lsub, 1) := by decide +kernel
theorem dX8_gap_23 : decode cX8_gap 23 = .ok (.invokestatic 167, 3) := by decide +kernel
theorem dX8_gap_26 : decode cX8_gap 26 = .ok (.ireturn, 1) := by decide +kernel
theorem dX8_troubleOf_0 : decode cX8_troubleOf 0 = .ok (.aload_n 0, 1) := by decide +kernel
theorem dX8_troubleOf_1 : decode cX8_troubleOf 1 = .ok (.iload_n 1, 1) := by decide +kernel
theorem dX8_troubleOf_2 : decode cX8_troubleOf 2 = .ok (.invokevirtual 77, 3) := by decide +kernel
theorem dX8_troubleOf_5 : decode cX8_troubleOf 5 = .ok (.ifCond .ne 5, 3) := by decide +kernel
theorem dX8_troubleOf_8 : decode cX8_troubleOf 8 = .ok (.iconst 5, 1) := by decide +kernel
theorem dX8_troubleOf_9 : decode cX8_troubleOf 9 = .ok (.ireturn, 1) := by decide +kernel
theorem dX8_troubleOf_10 : decode cX8_troubleOf 10 = .ok (.aload_n 0, 1) := by decide +kernel
theorem dX8_troubleOf_11 : decode cX8_troubleOf 11 = .ok (.aload_n 0, 1) := by decide +kernel
theorem dX8_troubleOf_12 : decode cX8_troubleOf 12 = .ok (.iload_n 1, 1) := by decide +kernel
theorem dX8_troubleOf_13 : decode cX8_troubleOf 13 = .ok (.iconst 0, 1) := by decide +kernel
theorem dX8_troubleOf_14 : decode cX8_troubleOf 14 = .ok (.invokevirtual 33, 3) := by decide +kernel
theorem dX8_troubleOf_17 : decode cX8_troubleOf 17 = .ok (.invokevirtual 144, 3) := by decide +kernel
theorem dX8_troubleOf_20 : decode cX8_troubleOf 20 = .ok (.ifCond .le 6, 3) := by decide +kernel
theorem dX8_troubleOf_23 : decode cX8_troubleOf 23 = .ok (.bipush 6, 2) := by decide +kernel
theorem dX8_troubleOf_25 : decode cX8_troubleOf 25 = .ok (.ireturn, 1) := by decide +kernel
theorem dX8_troubleOf_26 : decode cX8_troubleOf 26 = .ok (.aload_n 0, 1) := by decide +kernel
theorem dX8_troubleOf_27 : decode cX8_troubleOf 27 = .ok (.iload_n 1, 1) := by decide +kernel
theorem dX8_troubleOf_28 : decode cX8_troubleOf 28 = .ok (.invokevirtual 158, 3) := by decide +kernel
theorem dX8_troubleOf_31 : decode cX8_troubleOf 31 = .ok (.ifCond .ne 5, 3) := by decide +kernel
theorem dX8_troubleOf_34 : decode cX8_troubleOf 34 = .ok (.iconst 0, 1) := by decide +kernel
theorem dX8_troubleOf_35 : decode cX8_troubleOf 35 = .ok (.ireturn, 1) := by decide +kernel
theorem dX8_troubleOf_36 : decode cX8_troubleOf 36 = .ok (.aload_n 0, 1) := by decide +kernel
theorem dX8_troubleOf_37 : decode cX8_troubleOf 37 = .ok (.aload_n 0, 1) := by decide +kernel
theorem dX8_troubleOf_38 : decode cX8_troubleOf 38 = .ok (.iload_n 1, 1) := by decide +kernel
theorem dX8_troubleOf_39 : decode cX8_troubleOf 39 = .ok (.iconst 2, 1) := by decide +kernel
theorem dX8_troubleOf_40 : decode cX8_troubleOf 40 = .ok (.invokevirtual 33, 3) := by decide +kernel
theorem dX8_troubleOf_43 : decode cX8_troubleOf 43 = .ok (.invokevirtual 144, 3) := by decide +kernel
theorem dX8_troubleOf_46 : decode cX8_troubleOf 46 = .ok (.ifCond .le 8, 3) := by decide +kernel
theorem dX8_troubleOf_49 : decode cX8_troubleOf 49 = .ok (.bipush 7, 2) := by decide +kernel
theorem dX8_troubleOf_51 : decode cX8_troubleOf 51 = .ok (.goto 38, 3) := by decide +kernel
theorem dX8_troubleOf_54 : decode cX8_troubleOf 54 = .ok (.aload_n 0, 1) := by decide +kernel
theorem dX8_troubleOf_55 : decode cX8_troubleOf 55 = .ok (.iload_n 1, 1) := by decide +kernel
theorem dX8_troubleOf_56 : decode cX8_troubleOf 56 = .ok (.invokevirtual 170, 3) := by decide +kernel
theorem dX8_troubleOf_59 : decode cX8_troubleOf 59 = .ok (.invokestatic 99, 3) := by decide +kernel
theorem dX8_troubleOf_62 : decode cX8_troubleOf 62 = .ok (.aload_n 0, 1) := by decide +kernel
theorem dX8_troubleOf_63 : decode cX8_troubleOf 63 = .ok (.getfield 7, 3) := by decide +kernel
theorem dX8_troubleOf_66 : decode cX8_troubleOf 66 = .ok (.iconst 1, 1) := by decide +kernel
theorem dX8_troubleOf_67 : decode cX8_troubleOf 67 = .ok (.iaload, 1) := by decide +kernel
theorem dX8_troubleOf_68 : decode cX8_troubleOf 68 = .ok (.aload_n 0, 1) := by decide +kernel
theorem dX8_troubleOf_69 : decode cX8_troubleOf 69 = .ok (.iload_n 1, 1) := by decide +kernel
theorem dX8_troubleOf_70 : decode cX8_troubleOf 70 = .ok (.invokevirtual 77, 3) := by decide +kernel
theorem dX8_troubleOf_73 : decode cX8_troubleOf 73 = .ok (.iconst 1, 1) := by decide +kernel
theorem dX8_troubleOf_74 : decode cX8_troubleOf 74 = .ok (.iadd, 1) := by decide +kernel
theorem dX8_troubleOf_75 : decode cX8_troubleOf 75 = .ok (.i2l, 1) := by decide +kernel
theorem dX8_troubleOf_76 : decode cX8_troubleOf 76 = .ok (.invokestatic 173, 3) := by decide +kernel
theorem dX8_troubleOf_79 : decode cX8_troubleOf 79 = .ok (.imul, 1) := by decide +kernel
theorem dX8_troubleOf_80 : decode cX8_troubleOf 80 = .ok (.if_icmp .le 8, 3) := by decide +kernel
theorem dX8_troubleOf_83 : decode cX8_troubleOf 83 = .ok (.bipush 8, 2) := by decide +kernel
theorem dX8_troubleOf_85 : decode cX8_troubleOf 85 = .ok (.goto 4, 3) := by decide +kernel
theorem dX8_troubleOf_88 : decode cX8_troubleOf 88 = .ok (.iconst 0, 1) := by decide +kernel
theorem dX8_troubleOf_89 : decode cX8_troubleOf 89 = .ok (.ireturn, 1) := by decide +kernel
theorem dX8_close_0 : decode cX8_close 0 = .ok (.aload_n 0, 1) := by decide +kernel
theorem dX8_close_1 : decode cX8_close 1 = .ok (.iload_n 1, 1) := by decide +kernel
theorem dX8_close_2 : decode cX8_close 2 = .ok (.invokevirtual 155, 3) := by decide +kernel
theorem dX8_close_5 : decode cX8_close 5 = .ok (.ifCond .eq 15, 3) := by decide +kernel
theorem dX8_close_8 : decode cX8_close 8 = .ok (.aload_n 0, 1) := by decide +kernel
theorem dX8_close_9 : decode cX8_close 9 = .ok (.iload_n 2, 1) := by decide +kernel
theorem dX8_close_10 : decode cX8_close 10 = .ok (.invokevirtual 135, 3) := by decide +kernel
theorem dX8_close_13 : decode cX8_close 13 = .ok (.ifCond .eq 7, 3) := by decide +kernel
theorem dX8_close_16 : decode cX8_close 16 = .ok (.iconst 1, 1) := by decide +kernel
theorem dX8_close_17 : decode cX8_close 17 = .ok (.goto 4, 3) := by decide +kernel
theorem dX8_close_20 : decode cX8_close 20 = .ok (.iconst 0, 1) := by decide +kernel
theorem dX8_close_21 : decode cX8_close 21 = .ok (.istore 4, 2) := by decide +kernel
theorem dX8_close_23 : decode cX8_close 23 = .ok (.aload_n 0, 1) := by decide +kernel
theorem dX8_close_24 : decode cX8_close 24 = .ok (.iload 4, 2) := by decide +kernel
theorem dX8_close_26 : decode cX8_close 26 = .ok (.ifCond .ne 7, 3) := by decide +kernel
theorem dX8_close_29 : decode cX8_close 29 = .ok (.iconst 1, 1) := by decide +kernel
theorem dX8_close_30 : decode cX8_close 30 = .ok (.goto 37, 3) := by decide +kernel
theorem dX8_close_33 : decode cX8_close 33 = .ok (.iload_n 2, 1) := by decide +kernel
theorem dX8_close_34 : decode cX8_close 34 = .ok (.aload_n 0, 1) := by decide +kernel
theorem dX8_close_35 : decode cX8_close 35 = .ok (.iload_n 1, 1) := by decide +kernel
theorem dX8_close_36 : decode cX8_close 36 = .ok (.iconst 0, 1) := by decide +kernel
theorem dX8_close_37 : decode cX8_close 37 = .ok (.invokevirtual 33, 3) := by decide +kernel
theorem dX8_close_40 : decode cX8_close 40 = .ok (.if_icmp .eq 10, 3) := by decide +kernel
theorem dX8_close_43 : decode cX8_close 43 = .ok (.iload_n 3, 1) := by decide +kernel
theorem dX8_close_44 : decode cX8_close 44 = .ok (.invokestatic 123, 3) := by decide +kernel
theorem dX8_close_47 : decode cX8_close 47 = .ok (.ifCond .ne 7, 3) := by decide +kernel
theorem dX8_close_50 : decode cX8_close 50 = .ok (.iconst 2, 1) := by decide +kernel
theorem dX8_close_51 : decode cX8_close 51 = .ok (.goto 16, 3) := by decide +kernel
theorem dX8_close_54 : decode cX8_close 54 = .ok (.aload_n 0, 1) := by decide +kernel
theorem dX8_close_55 : decode cX8_close 55 = .ok (.iload_n 1, 1) := by decide +kernel
theorem dX8_close_56 : decode cX8_close 56 = .ok (.invokevirtual 77, 3) := by decide +kernel
theorem dX8_close_59 : decode cX8_close 59 = .ok (.ifCond .ne 7, 3) := by decide +kernel
theorem dX8_close_62 : decode cX8_close 62 = .ok (.iconst 3, 1) := by decide +kernel
theorem dX8_close_63 : decode cX8_close 63 = .ok (.goto 4, 3) := by decide +kernel
theorem dX8_close_66 : decode cX8_close 66 = .ok (.iconst 0, 1) := by decide +kernel
theorem dX8_close_67 : decode cX8_close 67 = .ok (.invokevirtual 70, 3) := by decide +kernel
theorem dX8_close_70 : decode cX8_close 70 = .ok (.ifCond .eq 5, 3) := by decide +kernel
theorem dX8_close_73 : decode cX8_close 73 = .ok (.iconst 0, 1) := by decide +kernel
theorem dX8_close_74 : decode cX8_close 74 = .ok (.ireturn, 1) := by decide +kernel
theorem dX8_close_75 : decode cX8_close 75 = .ok (.aload_n 0, 1) := by decide +kernel
theorem dX8_close_76 : decode cX8_close 76 = .ok (.invokevirtual 74, 3) := by decide +kernel
theorem dX8_close_79 : decode cX8_close 79 = .ok (.aload_n 0, 1) := by decide +kernel
theorem dX8_close_80 : decode cX8_close 80 = .ok (.getfield 7, 3) := by decide +kernel
theorem dX8_close_83 : decode cX8_close 83 = .ok (.bipush 102, 2) := by decide +kernel
theorem dX8_close_85 : decode cX8_close 85 = .ok (.bipush 28, 2) := by decide +kernel
theorem dX8_close_87 : decode cX8_close 87 = .ok (.iload_n 1, 1) := by decide +kernel
theorem dX8_close_88 : decode cX8_close 88 = .ok (.imul, 1) := by decide +kernel
theorem dX8_close_89 : decode cX8_close 89 = .ok (.iadd, 1) := by decide +kernel
theorem dX8_close_90 : decode cX8_close 90 = .ok (.iconst 2, 1) := by decide +kernel
theorem dX8_close_91 : decode cX8_close 91 = .ok (.iadd, 1) := by decide +kernel
theorem dX8_close_92 : decode cX8_close 92 = .ok (.iload_n 2, 1) := by decide +kernel
theorem dX8_close_93 : decode cX8_close 93 = .ok (.iastore, 1) := by decide +kernel
theorem dX8_close_94 : decode cX8_close 94 = .ok (.aload_n 0, 1) := by decide +kernel
theorem dX8_close_95 : decode cX8_close 95 = .ok (.getfield 7, 3) := by decide +kernel
theorem dX8_close_98 : decode cX8_close 98 = .ok (.bipush 102, 2) := by decide +kernel
theorem dX8_close_100 : decode cX8_close 100 = .ok (.bipush 28, 2) := by decide +kernel
theorem dX8_close_102 : decode cX8_close 102 = .ok (.iload_n 1, 1) := by decide +kernel
theorem dX8_close_103 : decode cX8_close 103 = .ok (.imul, 1) := by decide +kernel
theorem dX8_close_104 : decode cX8_close 104 = .ok (.iadd, 1) := by decide +kernel
theorem dX8_close_105 : decode cX8_close 105 = .ok (.iconst 3, 1) := by decide +kernel
theorem dX8_close_106 : decode cX8_close 106 = .ok (.iadd, 1) := by decide +kernel
theorem dX8_close_107 : decode cX8_close 107 = .ok (.iload_n 3, 1) := by decide +kernel
theorem dX8_close_108 : decode cX8_close 108 = .ok (.iastore, 1) := by decide +kernel
theorem dX8_close_109 : decode cX8_close 109 = .ok (.aload_n 0, 1) := by decide +kernel
theorem dX8_close_110 : decode cX8_close 110 = .ok (.iload_n 1, 1) := by decide +kernel
theorem dX8_close_111 : decode cX8_close 111 = .ok (.invokevirtual 176, 3) := by decide +kernel
theorem dX8_close_114 : decode cX8_close 114 = .ok (.ireturn, 1) := by decide +kernel
theorem dX8_turns_0 : decode cX8_turns 0 = .ok (.aload_n 0, 1) := by decide +kernel
theorem dX8_turns_1 : decode cX8_turns 1 = .ok (.getfield 7, 3) := by decide +kernel
theorem dX8_turns_4 : decode cX8_turns 4 = .ok (.iload_n 1, 1) := by decide +kernel
theorem dX8_turns_5 : decode cX8_turns 5 = .ok (.aload_n 0, 1) := by decide +kernel
theorem dX8_turns_6 : decode cX8_turns 6 = .ok (.getfield 7, 3) := by decide +kernel
theorem dX8_turns_9 : decode cX8_turns 9 = .ok (.iload_n 1, 1) := by decide +kernel
theorem dX8_turns_10 : decode cX8_turns 10 = .ok (.iaload, 1) := by decide +kernel
theorem dX8_turns_11 : decode cX8_turns 11 = .ok (.i2l, 1) := by decide +kernel
theorem dX8_turns_12 : decode cX8_turns 12 = .ok (.iload_n 2, 1) := by decide +kernel
theorem dX8_turns_13 : decode cX8_turns 13 = .ok (.i2l, 1) := by decide +kernel
theorem dX8_turns_14 : decode cX8_turns 14 = .ok (.lsub, 1) := by decide +kernel
theorem dX8_turns_15 : decode cX8_turns 15 = .ok (.invokestatic 39, 3) := by decide +kernel
theorem dX8_turns_18 : decode cX8_turns 18 = .ok (.iastore, 1) := by decide +kernel
theorem dX8_turns_19 : decode cX8_turns 19 = .ok (.return_, 1) := by decide +kernel
theorem dX8_adjust_0 : decode cX8_adjust 0 = .ok (.aload_n 0, 1) := by decide +kernel
theorem dX8_adjust_1 : decode cX8_adjust 1 = .ok (.aload_n 0, 1) := by decide +kernel
theorem dX8_adjust_2 : decode cX8_adjust 2 = .ok (.iload_n 1, 1) := by decide +kernel
theorem dX8_adjust_3 : decode cX8_adjust 3 = .ok (.invokevirtual 155, 3) := by decide +kernel
theorem dX8_adjust_6 : decode cX8_adjust 6 = .ok (.ifCond .ne 7, 3) := by decide +kernel
theorem dX8_adjust_9 : decode cX8_adjust 9 = .ok (.iconst 1, 1) := by decide +kernel
theorem dX8_adjust_10 : decode cX8_adjust 10 = .ok (.goto 24, 3) := by decide +kernel
theorem dX8_adjust_13 : decode cX8_adjust 13 = .ok (.aload_n 0, 1) := by decide +kernel
theorem dX8_adjust_14 : decode cX8_adjust 14 = .ok (.iload_n 1, 1) := by decide +kernel
theorem dX8_adjust_15 : decode cX8_adjust 15 = .ok (.invokevirtual 158, 3) := by decide +kernel
theorem dX8_adjust_18 : decode cX8_adjust 18 = .ok (.ifCond .eq 11, 3) := by decide +kernel
theorem dX8_adjust_21 : decode cX8_adjust 21 = .ok (.aload_n 0, 1) := by decide +kernel
theorem dX8_adjust_22 : decode cX8_adjust 22 = .ok (.iload_n 1, 1) := by decide +kernel
theorem dX8_adjust_23 : decode cX8_adjust 23 = .ok (.invokevirtual 176, 3) := by decide +kernel
theorem dX8_adjust_26 : decode cX8_adjust 26 = .ok (.ifCond .le 7, 3) := by decide +kernel
theorem dX8_adjust_29 : decode cX8_adjust 29 = .ok (.iconst 2, 1) := by decide +kernel
theorem dX8_adjust_30 : decode cX8_adjust 30 = .ok (.goto 4, 3) := by decide +kernel
theorem dX8_adjust_33 : decode cX8_adjust 33 = .ok (.iconst 0, 1) := by decide +kernel
theorem dX8_adjust_34 : decode cX8_adjust 34 = .ok (.invokevirtual 70, 3) := by decide +kernel
theorem dX8_adjust_37 : decode cX8_adjust 37 = .ok (.ifCond .eq 5, 3) := by decide +kernel
theorem dX8_adjust_40 : decode cX8_adjust 40 = .ok (.iconst 0, 1) := by decide +kernel
theorem dX8_adjust_41 : decode cX8_adjust 41 = .ok (.ireturn, 1) := by decide +kernel
theorem dX8_adjust_42 : decode cX8_adjust 42 = .ok (.aload_n 0, 1) := by decide +kernel
theorem dX8_adjust_43 : decode cX8_adjust 43 = .ok (.invokevirtual 74, 3) := by decide +kernel
theorem dX8_adjust_46 : decode cX8_adjust 46 = .ok (.bipush 102, 2) := by decide +kernel
theorem dX8_adjust_48 : decode cX8_adjust 48 = .ok (.bipush 28, 2) := by decide +kernel
theorem dX8_adjust_50 : decode cX8_adjust 50 = .ok (.iload_n 1, 1) := by decide +kernel
theorem dX8_adjust_51 : decode cX8_adjust 51 = .ok (.imul, 1) := by decide +kernel
theorem dX8_adjust_52 : decode cX8_adjust 52 = .ok (.iadd, 1) := by decide +kernel
theorem dX8_adjust_53 : decode cX8_adjust 53 = .ok (.istore_n 2, 1) := by decide +kernel
theorem dX8_adjust_54 : decode cX8_adjust 54 = .ok (.aload_n 0, 1) := by decide +kernel
theorem dX8_adjust_55 : decode cX8_adjust 55 = .ok (.iload_n 1, 1) := by decide +kernel
theorem dX8_adjust_56 : decode cX8_adjust 56 = .ok (.invokevirtual 170, 3) := by decide +kernel
theorem dX8_adjust_59 : decode cX8_adjust 59 = .ok (.istore_n 3, 1) := by decide +kernel
theorem dX8_adjust_60 : decode cX8_adjust 60 = .ok (.aload_n 0, 1) := by decide +kernel
theorem dX8_adjust_61 : decode cX8_adjust 61 = .ok (.iload_n 1, 1) := by decide +kernel
theorem dX8_adjust_62 : decode cX8_adjust 62 = .ok (.invokevirtual 77, 3) := by decide +kernel
theorem dX8_adjust_65 : decode cX8_adjust 65 = .ok (.istore 4, 2) := by decide +kernel
theorem dX8_adjust_67 : decode cX8_adjust 67 = .ok (.iload_n 3, 1) := by decide +kernel
theorem dX8_adjust_68 : decode cX8_adjust 68 = .ok (.iload 4, 2) := by decide +kernel
theorem dX8_adjust_70 : decode cX8_adjust 70 = .ok (.iconst 1, 1) := by decide +kernel
theorem dX8_adjust_71 : decode cX8_adjust 71 = .ok (.iadd, 1) := by decide +kernel
theorem dX8_adjust_72 : decode cX8_adjust 72 = .ok (.idiv, 1) := by decide +kernel
theorem dX8_adjust_73 : decode cX8_adjust 73 = .ok (.istore 5, 2) := by decide +kernel
theorem dX8_adjust_75 : decode cX8_adjust 75 = .ok (.iload_n 3, 1) := by decide +kernel
theorem dX8_adjust_76 : decode cX8_adjust 76 = .ok (.iload 5, 2) := by decide +kernel
theorem dX8_adjust_78 : decode cX8_adjust 78 = .ok (.iload 4, 2) := by decide +kernel
theorem dX8_adjust_80 : decode cX8_adjust 80 = .ok (.iconst 1, 1) := by decide +kernel
theorem dX8_adjust_81 : decode cX8_adjust 81 = .ok (.iadd, 1) := by decide +kernel
theorem dX8_adjust_82 : decode cX8_adjust 82 = .ok (.imul, 1) := by decide +kernel
theorem dX8_adjust_83 : decode cX8_adjust 83 = .ok (.isub, 1) := by decide +kernel
theorem dX8_adjust_84 : decode cX8_adjust 84 = .ok (.istore 6, 2) := by decide +kernel
theorem dX8_adjust_86 : decode cX8_adjust 86 = .ok (.aload_n 0, 1) := by decide +kernel
theorem dX8_adjust_87 : decode cX8_adjust 87 = .ok (.iload_n 2, 1) := by decide +kernel
theorem dX8_adjust_88 : decode cX8_adjust 88 = .ok (.iconst 3, 1) := by decide +kernel
theorem dX8_adjust_89 : decode cX8_adjust 89 = .ok (.iadd, 1) := by decide +kernel
theorem dX8_adjust_90 : decode cX8_adjust 90 = .ok (.iload 5, 2) := by decide +kernel
theorem dX8_adjust_92 : decode cX8_adjust 92 = .ok (.invokevirtual 179, 3) := by decide +kernel
theorem dX8_adjust_95 : decode cX8_adjust 95 = .ok (.iconst 0, 1) := by decide +kernel
theorem dX8_adjust_96 : decode cX8_adjust 96 = .ok (.istore 7, 2) := by decide +kernel
theorem dX8_adjust_98 : decode cX8_adjust 98 = .ok (.iload 7, 2) := by decide +kernel
theorem dX8_adjust_100 : decode cX8_adjust 100 = .ok (.iload 4, 2) := by decide +kernel
theorem dX8_adjust_102 : decode cX8_adjust 102 = .ok (.if_icmp .ge 130, 3) := by decide +kernel
theorem dX8_adjust_105 : decode cX8_adjust 105 = .ok (.iconst 0, 1) := by decide +kernel
theorem dX8_adjust_106 : decode cX8_adjust 106 = .ok (.istore 8, 2) := by decide +kernel
theorem dX8_adjust_108 : decode cX8_adjust 108 = .ok (.iconst 0, 1) := by decide +kernel
theorem dX8_adjust_109 : decode cX8_adjust 109 = .ok (.istore 9, 2) := by decide +kernel
theorem dX8_adjust_111 : decode cX8_adjust 111 = .ok (.iload 9, 2) := by decide +kernel
theorem dX8_adjust_113 : decode cX8_adjust 113 = .ok (.iload 4, 2) := by decide +kernel
theorem dX8_adjust_115 : decode cX8_adjust 115 = .ok (.if_icmp .ge 72, 3) := by decide +kernel
theorem dX8_adjust_118 : decode cX8_adjust 118 = .ok (.aload_n 0, 1) := by decide +kernel
theorem dX8_adjust_119 : decode cX8_adjust 119 = .ok (.iload_n 1, 1) := by decide +kernel
theorem dX8_adjust_120 : decode cX8_adjust 120 = .ok (.iload 9, 2) := by decide +kernel
theorem dX8_adjust_122 : decode cX8_adjust 122 = .ok (.invokevirtual 183, 3) := by decide +kernel
theorem dX8_adjust_125 : decode cX8_adjust 125 = .ok (.aload_n 0, 1) := by decide +kernel
theorem dX8_adjust_126 : decode cX8_adjust 126 = .ok (.iload_n 1, 1) := by decide +kernel
theorem dX8_adjust_127 : decode cX8_adjust 127 = .ok (.iload 7, 2) := by decide +kernel
theorem dX8_adjust_129 : decode cX8_adjust 129 = .ok (.invokevirtual 183, 3) := by decide +kernel
theorem dX8_adjust_132 : decode cX8_adjust 132 = .ok (.if_icmp .gt 27, 3) := by decide +kernel
theorem dX8_adjust_135 : decode cX8_adjust 135 = .ok (.iload 9, 2) := by decide +kernel
theorem dX8_adjust_137 : decode cX8_adjust 137 = .ok (.iload 7, 2) := by decide +kernel
theorem dX8_adjust_139 : decode cX8_adjust 139 = .ok (.if_icmp .ge 24, 3) := by decide +kernel
theorem dX8_adjust_142 : decode cX8_adjust 142 = .ok (.aload_n 0, 1) := by decide +kernel
theorem dX8_adjust_143 : decode cX8_adjust 143 = .ok (.iload_n 1, 1) := by decide +kernel
theorem dX8_adjust_144 : decode cX8_adjust 144 = .ok (.iload 9, 2) := by decide +kernel
theorem dX8_adjust_146 : decode cX8_adjust 146 = .ok (.invokevirtual 183, 3) := by decide +kernel
theorem dX8_adjust_149 : decode cX8_adjust 149 = .ok (.aload_n 0, 1) := by decide +kernel
theorem dX8_adjust_150 : decode cX8_adjust 150 = .ok (.iload_n 1, 1) := by decide +kernel
theorem dX8_adjust_151 : decode cX8_adjust 151 = .ok (.iload 7, 2) := by decide +kernel
theorem dX8_adjust_153 : decode cX8_adjust 153 = .ok (.invokevirtual 183, 3) := by decide +kernel
theorem dX8_adjust_156 : decode cX8_adjust 156 = .ok (.if_icmp .ne 7, 3) := by decide +kernel
theorem dX8_adjust_159 : decode cX8_adjust 159 = .ok (.iconst 1, 1) := by decide +kernel
theorem dX8_adjust_160 : decode cX8_adjust 160 = .ok (.goto 4, 3) := by decide +kernel
theorem dX8_adjust_163 : decode cX8_adjust 163 = .ok (.iconst 0, 1) := by decide +kernel
theorem dX8_adjust_164 : decode cX8_adjust 164 = .ok (.istore 10, 2) := by decide +kernel
theorem dX8_adjust_166 : decode cX8_adjust 166 = .ok (.iload 8, 2) := by decide +kernel
theorem dX8_adjust_168 : decode cX8_adjust 168 = .ok (.iload 10, 2) := by decide +kernel
theorem dX8_adjust_170 : decode cX8_adjust 170 = .ok (.ifCond .eq 7, 3) := by decide +kernel
theorem dX8_adjust_173 : decode cX8_adjust 173 = .ok (.iconst 1, 1) := by decide +kernel
theorem dX8_adjust_174 : decode cX8_adjust 174 = .ok (.goto 4, 3) := by decide +kernel
theorem dX8_adjust_177 : decode cX8_adjust 177 = .ok (.iconst 0, 1) := by decide +kernel
theorem dX8_adjust_178 : decode cX8_adjust 178 = .ok (.iadd, 1) := by decide +kernel
theorem dX8_adjust_179 : decode cX8_adjust 179 = .ok (.istore 8, 2) := by decide +kernel
theorem dX8_adjust_181 : decode cX8_adjust 181 = .ok (.iinc 9 1, 3) := by decide +kernel
theorem dX8_adjust_184 : decode cX8_adjust 184 = .ok (.goto (-73), 3) := by decide +kernel
theorem dX8_adjust_187 : decode cX8_adjust 187 = .ok (.aload_n 0, 1) := by decide +kernel
theorem dX8_adjust_188 : decode cX8_adjust 188 = .ok (.iload_n 2, 1) := by decide +kernel
theorem dX8_adjust_189 : decode cX8_adjust 189 = .ok (.iconst 4, 1) := by decide +kernel
theorem dX8_adjust_190 : decode cX8_adjust 190 = .ok (.iadd, 1) := by decide +kernel
theorem dX8_adjust_191 : decode cX8_adjust 191 = .ok (.iconst 2, 1) := by decide +kernel
theorem dX8_adjust_192 : decode cX8_adjust 192 = .ok (.iload 7, 2) := by decide +kernel
theorem dX8_adjust_194 : decode cX8_adjust 194 = .ok (.imul, 1) := by decide +kernel
theorem dX8_adjust_195 : decode cX8_adjust 195 = .ok (.iadd, 1) := by decide +kernel
theorem dX8_adjust_196 : decode cX8_adjust 196 = .ok (.iload 5, 2) := by decide +kernel
theorem dX8_adjust_198 : decode cX8_adjust 198 = .ok (.iload 8, 2) := by decide +kernel
theorem dX8_adjust_200 : decode cX8_adjust 200 = .ok (.iload 6, 2) := by decide +kernel
theorem dX8_adjust_202 : decode cX8_adjust 202 = .ok (.invokestatic 99, 3) := by decide +kernel
theorem dX8_adjust_205 : decode cX8_adjust 205 = .ok (.if_icmp .ge 16, 3) := by decide +kernel
theorem dX8_adjust_208 : decode cX8_adjust 208 = .ok (.iload 6, 2) := by decide +kernel
theorem dX8_adjust_210 : decode cX8_adjust 210 = .ok (.ifCond .le 7, 3) := by decide +kernel
theorem dX8_adjust_213 : decode cX8_adjust 213 = .ok (.iconst 1, 1) := by decide +kernel
theorem dX8_adjust_214 : decode cX8_adjust 214 = .ok (.goto 8, 3) := by decide +kernel
theorem dX8_adjust_217 : decode cX8_adjust 217 = .ok (.iconst (-1), 1) := by decide +kernel
theorem dX8_adjust_218 : decode cX8_adjust 218 = .ok (.goto 4, 3) := by decide +kernel
theorem dX8_adjust_221 : decode cX8_adjust 221 = .ok (.iconst 0, 1) := by decide +kernel
theorem dX8_adjust_222 : decode cX8_adjust 222 = .ok (.iadd, 1) := by decide +kernel
theorem dX8_adjust_223 : decode cX8_adjust 223 = .ok (.invokevirtual 179, 3) := by decide +kernel
theorem dX8_adjust_226 : decode cX8_adjust 226 = .ok (.iinc 7 1, 3) := by decide +kernel
theorem dX8_adjust_229 : decode cX8_adjust 229 = .ok (.goto (-131), 3) := by decide +kernel
theorem dX8_adjust_232 : decode cX8_adjust 232 = .ok (.iload_n 3, 1) := by decide +kernel
theorem dX8_adjust_233 : decode cX8_adjust 233 = .ok (.ireturn, 1) := by decide +kernel
theorem dX8_end_0 : decode cX8_end 0 = .ok (.aload_n 0, 1) := by decide +kernel
theorem dX8_end_1 : decode cX8_end 1 = .ok (.aload_n 0, 1) := by decide +kernel
theorem dX8_end_2 : decode cX8_end 2 = .ok (.aload_n 0, 1) := by decide +kernel
theorem dX8_end_3 : decode cX8_end 3 = .ok (.iload_n 1, 1) := by decide +kernel
theorem dX8_end_4 : decode cX8_end 4 = .ok (.iconst 0, 1) := by decide +kernel
theorem dX8_end_5 : decode cX8_end 5 = .ok (.invokevirtual 33, 3) := by decide +kernel
theorem dX8_end_8 : decode cX8_end 8 = .ok (.iconst 0, 1) := by decide +kernel
theorem dX8_end_9 : decode cX8_end 9 = .ok (.invokevirtual 138, 3) := by decide +kernel
theorem dX8_end_12 : decode cX8_end 12 = .ok (.iload_n 3, 1) := by decide +kernel
theorem dX8_end_13 : decode cX8_end 13 = .ok (.ifCond .eq 7, 3) := by decide +kernel
theorem dX8_end_16 : decode cX8_end 16 = .ok (.iconst 0, 1) := by decide +kernel
theorem dX8_end_17 : decode cX8_end 17 = .ok (.goto 4, 3) := by decide +kernel
theorem dX8_end_20 : decode cX8_end 20 = .ok (.iconst 1, 1) := by decide +kernel
theorem dX8_end_21 : decode cX8_end 21 = .ok (.invokevirtual 81, 3) := by decide +kernel
theorem dX8_end_24 : decode cX8_end 24 = .ok (.istore 4, 2) := by decide +kernel
theorem dX8_end_26 : decode cX8_end 26 = .ok (.iconst 0, 1) := by decide +kernel
theorem dX8_end_27 : decode cX8_end 27 = .ok (.istore 5, 2) := by decide +kernel
theorem dX8_end_29 : decode cX8_end 29 = .ok (.iload 5, 2) := by decide +kernel
theorem dX8_end_31 : decode cX8_end 31 = .ok (.iload_n 2, 1) := by decide +kernel
theorem dX8_end_32 : decode cX8_end 32 = .ok (.if_icmp .gt 57, 3) := by decide +kernel
theorem dX8_end_35 : decode cX8_end 35 = .ok (.aload_n 0, 1) := by decide +kernel
theorem dX8_end_36 : decode cX8_end 36 = .ok (.iload_n 1, 1) := by decide +kernel
theorem dX8_end_37 : decode cX8_end 37 = .ok (.iload 5, 2) := by decide +kernel
theorem dX8_end_39 : decode cX8_end 39 = .ok (.invokevirtual 164, 3) := by decide +kernel
theorem dX8_end_42 : decode cX8_end 42 = .ok (.istore 6, 2) := by decide +kernel
theorem dX8_end_44 : decode cX8_end 44 = .ok (.iload 4, 2) := by decide +kernel
theorem dX8_end_46 : decode cX8_end 46 = .ok (.aload_n 0, 1) := by decide +kernel
theorem dX8_end_47 : decode cX8_end 47 = .ok (.iload_n 1, 1) := by decide +kernel
theorem dX8_end_48 : decode cX8_end 48 = .ok (.iload 5, 2) := by decide +kernel
theorem dX8_end_50 : decode cX8_end 50 = .ok (.invokevirtual 183, 3) := by decide +kernel
theorem dX8_end_53 : decode cX8_end 53 = .ok (.i2l, 1) := by decide +kernel
theorem dX8_end_54 : decode cX8_end 54 = .ok (.iload_n 3, 1) := by decide +kernel
theorem dX8_end_55 : decode cX8_end 55 = .ok (.ifCond .eq 12, 3) := by decide +kernel
theorem dX8_end_58 : decode cX8_end 58 = .ok (.iload 6, 2) := by decide +kernel
theorem dX8_end_60 : decode cX8_end 60 = .ok (.i2l, 1) := by decide +kernel
theorem dX8_end_61 : decode cX8_end 61 = .ok (.invokestatic 53, 3) := by decide +kernel
theorem dX8_end_64 : decode cX8_end 64 = .ok (.goto 9, 3) := by decide +kernel
theorem dX8_end_67 : decode cX8_end 67 = .ok (.iload 6, 2) := by decide +kernel
theorem dX8_end_69 : decode cX8_end 69 = .ok (.i2l, 1) := by decide +kernel
theorem dX8_end_70 : decode cX8_end 70 = .ok (.invokestatic 186, 3) := by decide +kernel
theorem dX8_end_73 : decode cX8_end 73 = .ok (.i2l, 1) := by decide +kernel
theorem dX8_end_74 : decode cX8_end 74 = .ok (.lmul, 1) := by decide +kernel
theorem dX8_end_75 : decode cX8_end 75 = .ok (.ldc2_w 189, 3) := by decide +kernel
theorem dX8_end_78 : decode cX8_end 78 = .ok (.ldiv, 1) := by decide +kernel
theorem dX8_end_79 : decode cX8_end 79 = .ok (.l2i, 1) := by decide +kernel
theorem dX8_end_80 : decode cX8_end 80 = .ok (.iadd, 1) := by decide +kernel
theorem dX8_end_81 : decode cX8_end 81 = .ok (.istore 4, 2) := by decide +kernel
theorem dX8_end_83 : decode cX8_end 83 = .ok (.iinc 5 1, 3) := by decide +kernel
theorem dX8_end_86 : decode cX8_end 86 = .ok (.goto (-57), 3) := by decide +kernel
theorem dX8_end_89 : decode cX8_end 89 = .ok (.iload 4, 2) := by decide +kernel
theorem dX8_end_91 : decode cX8_end 91 = .ok (.ireturn, 1) := by decide +kernel
theorem dX8_miss_0 : decode cX8_miss 0 = .ok (.aload_n 0, 1) := by decide +kernel
theorem dX8_miss_1 : decode cX8_miss 1 = .ok (.iload_n 1, 1) := by decide +kernel
theorem dX8_miss_2 : decode cX8_miss 2 = .ok (.aload_n 0, 1) := by decide +kernel
theorem dX8_miss_3 : decode cX8_miss 3 = .ok (.iload_n 1, 1) := by decide +kernel
theorem dX8_miss_4 : decode cX8_miss 4 = .ok (.invokevirtual 77, 3) := by decide +kernel
theorem dX8_miss_7 : decode cX8_miss 7 = .ok (.iconst 1, 1) := by decide +kernel
theorem dX8_miss_8 : decode cX8_miss 8 = .ok (.isub, 1) := by decide +kernel
theorem dX8_miss_9 : decode cX8_miss 9 = .ok (.iload_n 2, 1) := by decide +kernel
theorem dX8_miss_10 : decode cX8_miss 10 = .ok (.invokevirtual 191, 3) := by decide +kernel
theorem dX8_miss_13 : decode cX8_miss 13 = .ok (.aload_n 0, 1) := by decide +kernel
theorem dX8_miss_14 : decode cX8_miss 14 = .ok (.aload_n 0, 1) := by decide +kernel
theorem dX8_miss_15 : decode cX8_miss 15 = .ok (.aload_n 0, 1) := by decide +kernel
theorem dX8_miss_16 : decode cX8_miss 16 = .ok (.iload_n 1, 1) := by decide +kernel
theorem dX8_miss_17 : decode cX8_miss 17 = .ok (.iconst 2, 1) := by decide +kernel
theorem dX8_miss_18 : decode cX8_miss 18 = .ok (.invokevirtual 33, 3) := by decide +kernel
theorem dX8_miss_21 : decode cX8_miss 21 = .ok (.iconst 0, 1) := by decide +kernel
theorem dX8_miss_22 : decode cX8_miss 22 = .ok (.invokevirtual 138, 3) := by decide +kernel
theorem dX8_miss_25 : decode cX8_miss 25 = .ok (.iload_n 2, 1) := by decide +kernel
theorem dX8_miss_26 : decode cX8_miss 26 = .ok (.ifCond .eq 7, 3) := by decide +kernel
theorem dX8_miss_29 : decode cX8_miss 29 = .ok (.iconst 0, 1) := by decide +kernel
theorem dX8_miss_30 : decode cX8_miss 30 = .ok (.goto 4, 3) := by decide +kernel
theorem dX8_miss_33 : decode cX8_miss 33 = .ok (.iconst 1, 1) := by decide +kernel
theorem dX8_miss_34 : decode cX8_miss 34 = .ok (.invokevirtual 81, 3) := by decide +kernel
theorem dX8_miss_37 : decode cX8_miss 37 = .ok (.isub, 1) := by decide +kernel
theorem dX8_miss_38 : decode cX8_miss 38 = .ok (.ireturn, 1) := by decide +kernel
theorem dX8_isWhole_0 : decode cX8_isWhole 0 = .ok (.aload_n 0, 1) := by decide +kernel
theorem dX8_isWhole_1 : decode cX8_isWhole 1 = .ok (.iload_n 1, 1) := by decide +kernel
theorem dX8_isWhole_2 : decode cX8_isWhole 2 = .ok (.invokevirtual 158, 3) := by decide +kernel
theorem dX8_isWhole_5 : decode cX8_isWhole 5 = .ok (.ifCond .eq 25, 3) := by decide +kernel
theorem dX8_isWhole_8 : decode cX8_isWhole 8 = .ok (.aload_n 0, 1) := by decide +kernel
theorem dX8_isWhole_9 : decode cX8_isWhole 9 = .ok (.iload_n 1, 1) := by decide +kernel
theorem dX8_isWhole_10 : decode cX8_isWhole 10 = .ok (.invokevirtual 176, 3) := by decide +kernel
theorem dX8_isWhole_13 : decode cX8_isWhole 13 = .ok (.ifCond .eq 13, 3) := by decide +kernel
theorem dX8_isWhole_16 : decode cX8_isWhole 16 = .ok (.aload_n 0, 1) := by decide +kernel
theorem dX8_isWhole_17 : decode cX8_isWhole 17 = .ok (.iload_n 1, 1) := by decide +kernel
theorem dX8_isWhole_18 : decode cX8_isWhole 18 = .ok (.invokevirtual 176, 3) := by decide +kernel
theorem dX8_isWhole_21 : decode cX8_isWhole 21 = .ok (.bipush 8, 2) := by decide +kernel
theorem dX8_isWhole_23 : decode cX8_isWhole 23 = .ok (.if_icmp .ne 7, 3) := by decide +kernel
theorem dX8_isWhole_26 : decode cX8_isWhole 26 = .ok (.iconst 1, 1) := by decide +kernel
theorem dX8_isWhole_27 : decode cX8_isWhole 27 = .ok (.goto 4, 3) := by decide +kernel
theorem dX8_isWhole_30 : decode cX8_isWhole 30 = .ok (.iconst 0, 1) := by decide +kernel
theorem dX8_isWhole_31 : decode cX8_isWhole 31 = .ok (.ireturn, 1) := by decide +kernel
theorem dX8_far_0 : decode cX8_far 0 = .ok (.lload_n 0, 1) := by decide +kernel
theorem dX8_far_1 : decode cX8_far 1 = .ok (.lload_n 0, 1) := by decide +kernel
theorem dX8_far_2 : decode cX8_far 2 = .ok (.lmul, 1) := by decide +kernel
theorem dX8_far_3 : decode cX8_far 3 = .ok (.lload_n 2, 1) := by decide +kernel
theorem dX8_far_4 : decode cX8_far 4 = .ok (.lload_n 2, 1) := by decide +kernel
theorem dX8_far_5 : decode cX8_far 5 = .ok (.lmul, 1) := by decide +kernel
theorem dX8_far_6 : decode cX8_far 6 = .ok (.ladd, 1) := by decide +kernel
theorem dX8_far_7 : decode cX8_far 7 = .ok (.invokestatic 173, 3) := by decide +kernel
theorem dX8_far_10 : decode cX8_far 10 = .ok (.ireturn, 1) := by decide +kernel
theorem dX8_traverseOf_0 : decode cX8_traverseOf 0 = .ok (.iload_n 2, 1) := by decide +kernel
theorem dX8_traverseOf_1 : decode cX8_traverseOf 1 = .ok (.tableswitch 166 0 8 #[51, 51, 58, 58, 78, 84, 103, 136, 136], 51) := by decide +kernel
theorem dX8_traverseOf_52 : decode cX8_traverseOf 52 = .ok (.aload_n 0, 1) := by decide +kernel
theorem dX8_traverseOf_53 : decode cX8_traverseOf 53 = .ok (.iload_n 1, 1) := by decide +kernel
theorem dX8_traverseOf_54 : decode cX8_traverseOf 54 = .ok (.iload_n 2, 1) := by decide +kernel
theorem dX8_traverseOf_55 : decode cX8_traverseOf 55 = .ok (.invokevirtual 33, 3) := by decide +kernel
theorem dX8_traverseOf_58 : decode cX8_traverseOf 58 = .ok (.ireturn, 1) := by decide +kernel
theorem dX8_traverseOf_59 : decode cX8_traverseOf 59 = .ok (.aload_n 0, 1) := by decide +kernel
theorem dX8_traverseOf_60 : decode cX8_traverseOf 60 = .ok (.iload_n 1, 1) := by decide +kernel
theorem dX8_traverseOf_61 : decode cX8_traverseOf 61 = .ok (.invokevirtual 158, 3) := by decide +kernel
theorem dX8_traverseOf_64 : decode cX8_traverseOf 64 = .ok (.ifCond .eq 12, 3) := by decide +kernel
theorem dX8_traverseOf_67 : decode cX8_traverseOf 67 = .ok (.aload_n 0, 1) := by decide +kernel
theorem dX8_traverseOf_68 : decode cX8_traverseOf 68 = .ok (.iload_n 1, 1) := by decide +kernel
theorem dX8_traverseOf_69 : decode cX8_traverseOf 69 = .ok (.iload_n 2, 1) := by decide +kernel
theorem dX8_traverseOf_70 : decode cX8_traverseOf 70 = .ok (.invokevirtual 33, 3) := by decide +kernel
theorem dX8_traverseOf_73 : decode cX8_traverseOf 73 = .ok (.goto 5, 3) := by decide +kernel
theorem dX8_traverseOf_76 : decode cX8_traverseOf 76 = .ok (.ldc 105, 2) := by decide +kernel
theorem dX8_traverseOf_78 : decode cX8_traverseOf 78 = .ok (.ireturn, 1) := by decide +kernel
theorem dX8_traverseOf_79 : decode cX8_traverseOf 79 = .ok (.aload_n 0, 1) := by decide +kernel
theorem dX8_traverseOf_80 : decode cX8_traverseOf 80 = .ok (.iload_n 1, 1) := by decide +kernel
theorem dX8_traverseOf_81 : decode cX8_traverseOf 81 = .ok (.invokevirtual 176, 3) := by decide +kernel
theorem dX8_traverseOf_84 : decode cX8_traverseOf 84 = .ok (.ireturn, 1) := by decide +kernel
theorem dX8_traverseOf_85 : decode cX8_traverseOf 85 = .ok (.aload_n 0, 1) := by decide +kernel
theorem dX8_traverseOf_86 : decode cX8_traverseOf 86 = .ok (.iload_n 1, 1) := by decide +kernel
theorem dX8_traverseOf_87 : decode cX8_traverseOf 87 = .ok (.invokevirtual 195, 3) := by decide +kernel
theorem dX8_traverseOf_90 : decode cX8_traverseOf 90 = .ok (.ifCond .eq 11, 3) := by decide +kernel
theorem dX8_traverseOf_93 : decode cX8_traverseOf 93 = .ok (.aload_n 0, 1) := by decide +kernel
theorem dX8_traverseOf_94 : decode cX8_traverseOf 94 = .ok (.iload_n 1, 1) := by decide +kernel
theorem dX8_traverseOf_95 : decode cX8_traverseOf 95 = .ok (.invokevirtual 170, 3) := by decide +kernel
theorem dX8_traverseOf_98 : decode cX8_traverseOf 98 = .ok (.goto 5, 3) := by decide +kernel
theorem dX8_traverseOf_101 : decode cX8_traverseOf 101 = .ok (.ldc 105, 2) := by decide +kernel
theorem dX8_traverseOf_103 : decode cX8_traverseOf 103 = .ok (.ireturn, 1) := by decide +kernel
theorem dX8_traverseOf_104 : decode cX8_traverseOf 104 = .ok (.iconst 0, 1) := by decide +kernel
theorem dX8_traverseOf_105 : decode cX8_traverseOf 105 = .ok (.istore_n 3, 1) := by decide +kernel
theorem dX8_traverseOf_106 : decode cX8_traverseOf 106 = .ok (.iconst 0, 1) := by decide +kernel
theorem dX8_traverseOf_107 : decode cX8_traverseOf 107 = .ok (.istore 4, 2) := by decide +kernel
theorem dX8_traverseOf_109 : decode cX8_traverseOf 109 = .ok (.iload 4, 2) := by decide +kernel
theorem dX8_traverseOf_111 : decode cX8_traverseOf 111 = .ok (.aload_n 0, 1) := by decide +kernel
theorem dX8_traverseOf_112 : decode cX8_traverseOf 112 = .ok (.iload_n 1, 1) := by decide +kernel
theorem dX8_traverseOf_113 : decode cX8_traverseOf 113 = .ok (.invokevirtual 77, 3) := by decide +kernel
theorem dX8_traverseOf_116 : decode cX8_traverseOf 116 = .ok (.if_icmp .ge 19, 3) := by decide +kernel
theorem dX8_traverseOf_119 : decode cX8_traverseOf 119 = .ok (.iload_n 3, 1) := by decide +kernel
theorem dX8_traverseOf_120 : decode cX8_traverseOf 120 = .ok (.aload_n 0, 1) := by decide +kernel
theorem dX8_traverseOf_121 : decode cX8_traverseOf 121 = .ok (.iload_n 1, 1) := by decide +kernel
theorem dX8_traverseOf_122 : decode cX8_traverseOf 122 = .ok (.iload 4, 2) := by decide +kernel
theorem dX8_traverseOf_124 : decode cX8_traverseOf 124 = .ok (.invokevirtual 183, 3) := by decide +kernel
theorem dX8_traverseOf_127 : decode cX8_traverseOf 127 = .ok (.iadd, 1) := by decide +kernel
theorem dX8_traverseOf_128 : decode cX8_traverseOf 128 = .ok (.istore_n 3, 1) := by decide +kernel
theorem dX8_traverseOf_129 : decode cX8_traverseOf 129 = .ok (.iinc 4 1, 3) := by decide +kernel
theorem dX8_traverseOf_132 : decode cX8_traverseOf 132 = .ok (.goto (-23), 3) := by decide +kernel
theorem dX8_traverseOf_135 : decode cX8_traverseOf 135 = .ok (.iload_n 3, 1) := by decide +kernel
theorem dX8_traverseOf_136 : decode cX8_traverseOf 136 = .ok (.ireturn, 1) := by decide +kernel
theorem dX8_traverseOf_137 : decode cX8_traverseOf 137 = .ok (.aload_n 0, 1) := by decide +kernel
theorem dX8_traverseOf_138 : decode cX8_traverseOf 138 = .ok (.iload_n 1, 1) := by decide +kernel
theorem dX8_traverseOf_139 : decode cX8_traverseOf 139 = .ok (.invokevirtual 195, 3) := by decide +kernel
theorem dX8_traverseOf_142 : decode cX8_traverseOf 142 = .ok (.ifCond .eq 22, 3) := by decide +kernel
theorem dX8_traverseOf_145 : decode cX8_traverseOf 145 = .ok (.aload_n 0, 1) := by decide +kernel
theorem dX8_traverseOf_146 : decode cX8_traverseOf 146 = .ok (.iload_n 1, 1) := by decide +kernel
theorem dX8_traverseOf_147 : decode cX8_traverseOf 147 = .ok (.iload_n 2, 1) := by decide +kernel
theorem dX8_traverseOf_148 : decode cX8_traverseOf 148 = .ok (.bipush 7, 2) := by decide +kernel
theorem dX8_traverseOf_150 : decode cX8_traverseOf 150 = .ok (.if_icmp .ne 7, 3) := by decide +kernel
theorem dX8_traverseOf_153 : decode cX8_traverseOf 153 = .ok (.iconst 1, 1) := by decide +kernel
theorem dX8_traverseOf_154 : decode cX8_traverseOf 154 = .ok (.goto 4, 3) := by decide +kernel
theorem dX8_traverseOf_157 : decode cX8_traverseOf 157 = .ok (.iconst 0, 1) := by decide +kernel
theorem dX8_traverseOf_158 : decode cX8_traverseOf 158 = .ok (.invokevirtual 198, 3) := by decide +kernel
theorem dX8_traverseOf_161 : decode cX8_traverseOf 161 = .ok (.goto 5, 3) := by decide +kernel
theorem dX8_traverseOf_164 : decode cX8_traverseOf 164 = .ok (.ldc 105, 2) := by decide +kernel
theorem dX8_traverseOf_166 : decode cX8_traverseOf 166 = .ok (.ireturn, 1) := by decide +kernel
theorem dX8_traverseOf_167 : decode cX8_traverseOf 167 = .ok (.aload_n 0, 1) := by decide +kernel
theorem dX8_traverseOf_168 : decode cX8_traverseOf 168 = .ok (.iload_n 1, 1) := by decide +kernel
theorem dX8_traverseOf_169 : decode cX8_traverseOf 169 = .ok (.invokevirtual 195, 3) := by decide +kernel
theorem dX8_traverseOf_172 : decode cX8_traverseOf 172 = .ok (.ifCond .eq 23, 3) := by decide +kernel
theorem dX8_traverseOf_175 : decode cX8_traverseOf 175 = .ok (.aload_n 0, 1) := by decide +kernel
theorem dX8_traverseOf_176 : decode cX8_traverseOf 176 = .ok (.iload_n 1, 1) := by decide +kernel
theorem dX8_traverseOf_177 : decode cX8_traverseOf 177 = .ok (.iconst 1, 1) := by decide +kernel
theorem dX8_traverseOf_178 : decode cX8_traverseOf 178 = .ok (.invokevirtual 198, 3) := by decide +kernel
theorem dX8_traverseOf_181 : decode cX8_traverseOf 181 = .ok (.i2l, 1) := by decide +kernel
theorem dX8_traverseOf_182 : decode cX8_traverseOf 182 = .ok (.aload_n 0, 1) := by decide +kernel
theorem dX8_traverseOf_183 : decode cX8_traverseOf 183 = .ok (.iload_n 1, 1) := by decide +kernel
theorem dX8_traverseOf_184 : decode cX8_traverseOf 184 = .ok (.iconst 0, 1) := by decide +kernel
theorem dX8_traverseOf_185 : decode cX8_traverseOf 185 = .ok (.invokevirtual 198, 3) := by decide +kernel
theorem dX8_traverseOf_188 : decode cX8_traverseOf 188 = .ok (.i2l, 1) := by decide +kernel
theorem dX8_traverseOf_189 : decode cX8_traverseOf 189 = .ok (.invokestatic 202, 3) := by decide +kernel
theorem dX8_traverseOf_192 : decode cX8_traverseOf 192 = .ok (.goto 5, 3) := by decide +kernel
theorem dX8_traverseOf_195 : decode cX8_traverseOf 195 = .ok (.ldc 105, 2) := by decide +kernel
theorem dX8_traverseOf_197 : decode cX8_traverseOf 197 = .ok (.ireturn, 1) := by decide +kernel
theorem dX8_traverse_0 : decode cX8_traverse 0 = .ok (.aload_n 0, 1) := by decide +kernel
theorem dX8_traverse_1 : decode cX8_traverse 1 = .ok (.aload_n 0, 1) := by decide +kernel
theorem dX8_traverse_2 : decode cX8_traverse 2 = .ok (.iload_n 1, 1) := by decide +kernel
theorem dX8_traverse_3 : decode cX8_traverse 3 = .ok (.invokevirtual 155, 3) := by decide +kernel
theorem dX8_traverse_6 : decode cX8_traverse 6 = .ok (.ifCond .ne 7, 3) := by decide +kernel
theorem dX8_traverse_9 : decode cX8_traverse 9 = .ok (.iconst 1, 1) := by decide +kernel
theorem dX8_traverse_10 : decode cX8_traverse 10 = .ok (.goto 20, 3) := by decide +kernel
theorem dX8_traverse_13 : decode cX8_traverse 13 = .ok (.iload_n 2, 1) := by decide +kernel
theorem dX8_traverse_14 : decode cX8_traverse 14 = .ok (.i2l, 1) := by decide +kernel
theorem dX8_traverse_15 : decode cX8_traverse 15 = .ok (.lconst 0, 1) := by decide +kernel
theorem dX8_traverse_16 : decode cX8_traverse 16 = .ok (.ldc2_w 206, 3) := by decide +kernel
theorem dX8_traverse_19 : decode cX8_traverse 19 = .ok (.invokestatic 62, 3) := by decide +kernel
theorem dX8_traverse_22 : decode cX8_traverse 22 = .ok (.ifCond .eq 7, 3) := by decide +kernel
theorem dX8_traverse_25 : decode cX8_traverse 25 = .ok (.iconst 0, 1) := by decide +kernel
theorem dX8_traverse_26 : decode cX8_traverse 26 = .ok (.goto 4, 3) := by decide +kernel
theorem dX8_traverse_29 : decode cX8_traverse 29 = .ok (.iconst 2, 1) := by decide +kernel
theorem dX8_traverse_30 : decode cX8_traverse 30 = .ok (.invokevirtual 70, 3) := by decide +kernel
theorem dX8_traverse_33 : decode cX8_traverse 33 = .ok (.ifCond .eq 7, 3) := by decide +kernel
theorem dX8_traverse_36 : decode cX8_traverse 36 = .ok (.iconst 0, 1) := by decide +kernel
theorem dX8_traverse_37 : decode cX8_traverse 37 = .ok (.goto 9, 3) := by decide +kernel
theorem dX8_traverse_40 : decode cX8_traverse 40 = .ok (.aload_n 0, 1) := by decide +kernel
theorem dX8_traverse_41 : decode cX8_traverse 41 = .ok (.iload_n 1, 1) := by decide +kernel
theorem dX8_traverse_42 : decode cX8_traverse 42 = .ok (.iload_n 2, 1) := by decide +kernel
theorem dX8_traverse_43 : decode cX8_traverse 43 = .ok (.invokevirtual 208, 3) := by decide +kernel
theorem dX8_traverse_46 : decode cX8_traverse 46 = .ok (.ireturn, 1) := by decide +kernel
theorem dX8_legOf_0 : decode cX8_legOf 0 = .ok (.iload_n 3, 1) := by decide +kernel
theorem dX8_legOf_1 : decode cX8_legOf 1 = .ok (.iconst 2, 1) := by decide +kernel
theorem dX8_legOf_2 : decode cX8_legOf 2 = .ok (.if_icmp .ge 23, 3) := by decide +kernel
theorem dX8_legOf_5 : decode cX8_legOf 5 = .ok (.iload_n 3, 1) := by decide +kernel
theorem dX8_legOf_6 : decode cX8_legOf 6 = .ok (.ifCond .ne 12, 3) := by decide +kernel
theorem dX8_legOf_9 : decode cX8_legOf 9 = .ok (.aload_n 0, 1) := by decide +kernel
theorem dX8_legOf_10 : decode cX8_legOf 10 = .ok (.iload_n 1, 1) := by decide +kernel
theorem dX8_legOf_11 : decode cX8_legOf 11 = .ok (.iload_n 2, 1) := by decide +kernel
theorem dX8_legOf_12 : decode cX8_legOf 12 = .ok (.invokevirtual 161, 3) := by decide +kernel
theorem dX8_legOf_15 : decode cX8_legOf 15 = .ok (.goto 9, 3) := by decide +kernel
theorem dX8_legOf_18 : decode cX8_legOf 18 = .ok (.aload_n 0, 1) := by decide +kernel
theorem dX8_legOf_19 : decode cX8_legOf 19 = .ok (.iload_n 1, 1) := by decide +kernel
theorem dX8_legOf_20 : decode cX8_legOf 20 = .ok (.iload_n 2, 1) := by decide +kernel
theorem dX8_legOf_21 : decode cX8_legOf 21 = .ok (.invokevirtual 183, 3) := by decide +kernel
theorem dX8_legOf_24 : decode cX8_legOf 24 = .ok (.ireturn, 1) := by decide +kernel
theorem dX8_legOf_25 : decode cX8_legOf 25 = .ok (.aload_n 0, 1) := by decide +kernel
theorem dX8_legOf_26 : decode cX8_legOf 26 = .ok (.aload_n 0, 1) := by decide +kernel
theorem dX8_legOf_27 : decode cX8_legOf 27 = .ok (.iload_n 1, 1) := by decide +kernel
theorem dX8_legOf_28 : decode cX8_legOf 28 = .ok (.iconst 0, 1) := by decide +kernel
theorem dX8_legOf_29 : decode cX8_legOf 29 = .ok (.invokevirtual 33, 3) := by decide +kernel
theorem dX8_legOf_32 : decode cX8_legOf 32 = .ok (.invokevirtual 144, 3) := by decide +kernel
theorem dX8_legOf_35 : decode cX8_legOf 35 = .ok (.ifCond .le 6, 3) := by decide +kernel
theorem dX8_legOf_38 : decode cX8_legOf 38 = .ok (.ldc 105, 2) := by decide +kernel
theorem dX8_legOf_40 : decode cX8_legOf 40 = .ok (.ireturn, 1) := by decide +kernel
theorem dX8_legOf_41 : decode cX8_legOf 41 = .ok (.iload_n 3, 1) := by decide +kernel
theorem dX8_legOf_42 : decode cX8_legOf 42 = .ok (.iconst 2, 1) := by decide +kernel
theorem dX8_legOf_43 : decode cX8_legOf 43 = .ok (.if_icmp .ne 12, 3) := by decide +kernel
theorem dX8_legOf_46 : decode cX8_legOf 46 = .ok (.aload_n 0, 1) := by decide +kernel
theorem dX8_legOf_47 : decode cX8_legOf 47 = .ok (.iload_n 1, 1) := by decide +kernel
theorem dX8_legOf_48 : decode cX8_legOf 48 = .ok (.iload_n 2, 1) := by decide +kernel
theorem dX8_legOf_49 : decode cX8_legOf 49 = .ok (.invokevirtual 164, 3) := by decide +kernel
theorem dX8_legOf_52 : decode cX8_legOf 52 = .ok (.goto 19, 3) := by decide +kernel
theorem dX8_legOf_55 : decode cX8_legOf 55 = .ok (.aload_n 0, 1) := by decide +kernel
theorem dX8_legOf_56 : decode cX8_legOf 56 = .ok (.iload_n 1, 1) := by decide +kernel
theorem dX8_legOf_57 : decode cX8_legOf 57 = .ok (.iload_n 2, 1) := by decide +kernel
theorem dX8_legOf_58 : decode cX8_legOf 58 = .ok (.iload_n 3, 1) := by decide +kernel
theorem dX8_legOf_59 : decode cX8_legOf 59 = .ok (.iconst 3, 1) := by decide +kernel
theorem dX8_legOf_60 : decode cX8_legOf 60 = .ok (.if_icmp .ne 7, 3) := by decide +kernel
theorem dX8_legOf_63 : decode cX8_legOf 63 = .ok (.iconst 1, 1) := by decide +kernel
theorem dX8_legOf_64 : decode cX8_legOf 64 = .ok (.goto 4, 3) := by decide +kernel
theorem dX8_legOf_67 : decode cX8_legOf 67 = .ok (.iconst 0, 1) := by decide +kernel
theorem dX8_legOf_68 : decode cX8_legOf 68 = .ok (.invokevirtual 191, 3) := by decide +kernel
theorem dX8_legOf_71 : decode cX8_legOf 71 = .ok (.ireturn, 1) := by decide +kernel
theorem dX8_leg_0 : decode cX8_leg 0 = .ok (.aload_n 0, 1) := by decide +kernel
theorem dX8_leg_1 : decode cX8_leg 1 = .ok (.iload_n 1, 1) := by decide +kernel
theorem dX8_leg_2 : decode cX8_leg 2 = .ok (.invokevirtual 155, 3) := by decide +kernel
theorem dX8_leg_5 : decode cX8_leg 5 = .ok (.ifCond .eq 20, 3) := by decide +kernel
theorem dX8_leg_8 : decode cX8_leg 8 = .ok (.iload_n 2, 1) := by decide +kernel
theorem dX8_leg_9 : decode cX8_leg 9 = .ok (.ifCond .lt 16, 3) := by decide +kernel
theorem dX8_leg_12 : decode cX8_leg 12 = .ok (.iload_n 2, 1) := by decide +kernel
theorem dX8_leg_13 : decode cX8_leg 13 = .ok (.aload_n 0, 1) := by decide +kernel
theorem dX8_leg_14 : decode cX8_leg 14 = .ok (.iload_n 1, 1) := by decide +kernel
theorem dX8_leg_15 : decode cX8_leg 15 = .ok (.invokevirtual 77, 3) := by decide +kernel
theorem dX8_leg_18 : decode cX8_leg 18 = .ok (.if_icmp .ge 7, 3) := by decide +kernel
theorem dX8_leg_21 : decode cX8_leg 21 = .ok (.iconst 1, 1) := by decide +kernel
theorem dX8_leg_22 : decode cX8_leg 22 = .ok (.goto 4, 3) := by decide +kernel
theorem dX8_leg_25 : decode cX8_leg 25 = .ok (.iconst 0, 1) := by decide +kernel
theorem dX8_leg_26 : decode cX8_leg 26 = .ok (.istore 4, 2) := by decide +kernel
theorem dX8_leg_28 : decode cX8_leg 28 = .ok (.aload_n 0, 1) := by decide +kernel
theorem dX8_leg_29 : decode cX8_leg 29 = .ok (.iload 4, 2) := by decide +kernel
theorem dX8_leg_31 : decode cX8_leg 31 = .ok (.ifCond .ne 7, 3) := by decide +kernel
theorem dX8_leg_34 : decode cX8_leg 34 = .ok (.iconst 1, 1) := by decide +kernel
theorem dX8_leg_35 : decode cX8_leg 35 = .ok (.goto 20, 3) := by decide +kernel
theorem dX8_leg_38 : decode cX8_leg 38 = .ok (.iload_n 3, 1) := by decide +kernel
theorem dX8_leg_39 : decode cX8_leg 39 = .ok (.i2l, 1) := by decide +kernel
theorem dX8_leg_40 : decode cX8_leg 40 = .ok (.lconst 0, 1) := by decide +kernel
theorem dX8_leg_41 : decode cX8_leg 41 = .ok (.ldc2_w 211, 3) := by decide +kernel
theorem dX8_leg_44 : decode cX8_leg 44 = .ok (.invokestatic 62, 3) := by decide +kernel
theorem dX8_leg_47 : decode cX8_leg 47 = .ok (.ifCond .eq 7, 3) := by decide +kernel
theorem dX8_leg_50 : decode cX8_leg 50 = .ok (.iconst 0, 1) := by decide +kernel
theorem dX8_leg_51 : decode cX8_leg 51 = .ok (.goto 4, 3) := by decide +kernel
theorem dX8_leg_54 : decode cX8_leg 54 = .ok (.iconst 2, 1) := by decide +kernel
theorem dX8_leg_55 : decode cX8_leg 55 = .ok (.invokevirtual 70, 3) := by decide +kernel
theorem dX8_leg_58 : decode cX8_leg 58 = .ok (.ifCond .eq 7, 3) := by decide +kernel
theorem dX8_leg_61 : decode cX8_leg 61 = .ok (.iconst 0, 1) := by decide +kernel
theorem dX8_leg_62 : decode cX8_leg 62 = .ok (.goto 10, 3) := by decide +kernel
theorem dX8_leg_65 : decode cX8_leg 65 = .ok (.aload_n 0, 1) := by decide +kernel
theorem dX8_leg_66 : decode cX8_leg 66 = .ok (.iload_n 1, 1) := by decide +kernel
theorem dX8_leg_67 : decode cX8_leg 67 = .ok (.iload_n 2, 1) := by decide +kernel
theorem dX8_leg_68 : decode cX8_leg 68 = .ok (.iload_n 3, 1) := by decide +kernel
theorem dX8_leg_69 : decode cX8_leg 69 = .ok (.invokevirtual 213, 3) := by decide +kernel
theorem dX8_leg_72 : decode cX8_leg 72 = .ok (.ireturn, 1) := by decide +kernel
theorem dX8_troubleAt_0 : decode cX8_troubleAt 0 = .ok (.aload_n 0, 1) := by decide +kernel
theorem dX8_troubleAt_1 : decode cX8_troubleAt 1 = .ok (.iload_n 1, 1) := by decide +kernel
theorem dX8_troubleAt_2 : decode cX8_troubleAt 2 = .ok (.invokevirtual 176, 3) := by decide +kernel
theorem dX8_troubleAt_5 : decode cX8_troubleAt 5 = .ok (.istore_n 3, 1) := by decide +kernel
theorem dX8_troubleAt_6 : decode cX8_troubleAt 6 = .ok (.iload_n 3, 1) := by decide +kernel
theorem dX8_troubleAt_7 : decode cX8_troubleAt 7 = .ok (.bipush 6, 2) := by decide +kernel
theorem dX8_troubleAt_9 : decode cX8_troubleAt 9 = .ok (.if_icmp .ne 12, 3) := by decide +kernel
theorem dX8_troubleAt_12 : decode cX8_troubleAt 12 = .ok (.aload_n 0, 1) := by decide +kernel
theorem dX8_troubleAt_13 : decode cX8_troubleAt 13 = .ok (.iload_n 1, 1) := by decide +kernel
theorem dX8_troubleAt_14 : decode cX8_troubleAt 14 = .ok (.iconst 0, 1) := by decide +kernel
theorem dX8_troubleAt_15 : decode cX8_troubleAt 15 = .ok (.invokevirtual 33, 3) := by decide +kernel
theorem dX8_troubleAt_18 : decode cX8_troubleAt 18 = .ok (.goto 20, 3) := by decide +kernel
theorem dX8_troubleAt_21 : decode cX8_troubleAt 21 = .ok (.iload_n 3, 1) := by decide +kernel
theorem dX8_troubleAt_22 : decode cX8_troubleAt 22 = .ok (.bipush 7, 2) := by decide +kernel
theorem dX8_troubleAt_24 : decode cX8_troubleAt 24 = .ok (.if_icmp .ne 12, 3) := by decide +kernel
theorem dX8_troubleAt_27 : decode cX8_troubleAt 27 = .ok (.aload_n 0, 1) := by decide +kernel
theorem dX8_troubleAt_28 : decode cX8_troubleAt 28 = .ok (.iload_n 1, 1) := by decide +kernel
theorem dX8_troubleAt_29 : decode cX8_troubleAt 29 = .ok (.iconst 2, 1) := by decide +kernel
theorem dX8_troubleAt_30 : decode cX8_troubleAt 30 = .ok (.invokevirtual 33, 3) := by decide +kernel
theorem dX8_troubleAt_33 : decode cX8_troubleAt 33 = .ok (.goto 5, 3) := by decide +kernel
theorem dX8_troubleAt_36 : decode cX8_troubleAt 36 = .ok (.ldc 105, 2) := by decide +kernel
theorem dX8_troubleAt_38 : decode cX8_troubleAt 38 = .ok (.istore 4, 2) := by decide +kernel
theorem dX8_troubleAt_40 : decode cX8_troubleAt 40 = .ok (.iload 4, 2) := by decide +kernel
theorem dX8_troubleAt_42 : decode cX8_troubleAt 42 = .ok (.ifCond .ge 7, 3) := by decide +kernel
theorem dX8_troubleAt_45 : decode cX8_troubleAt 45 = .ok (.iconst 0, 1) := by decide +kernel
theorem dX8_troubleAt_46 : decode cX8_troubleAt 46 = .ok (.goto 9, 3) := by decide +kernel
theorem dX8_troubleAt_49 : decode cX8_troubleAt 49 = .ok (.aload_n 0, 1) := by decide +kernel
theorem dX8_troubleAt_50 : decode cX8_troubleAt 50 = .ok (.iload 4, 2) := by decide +kernel
theorem dX8_troubleAt_52 : decode cX8_troubleAt 52 = .ok (.invokevirtual 144, 3) := by decide +kernel
theorem dX8_troubleAt_55 : decode cX8_troubleAt 55 = .ok (.istore 5, 2) := by decide +kernel
theorem dX8_troubleAt_57 : decode cX8_troubleAt 57 = .ok (.iload 5, 2) := by decide +kernel
theorem dX8_troubleAt_59 : decode cX8_troubleAt 59 = .ok (.iconst 3, 1) := by decide +kernel
theorem dX8_troubleAt_60 : decode cX8_troubleAt 60 = .ok (.if_icmp .ne 12, 3) := by decide +kernel
theorem dX8_troubleAt_63 : decode cX8_troubleAt 63 = .ok (.aload_n 0, 1) := by decide +kernel
theorem dX8_troubleAt_64 : decode cX8_troubleAt 64 = .ok (.iload 4, 2) := by decide +kernel
theorem dX8_troubleAt_66 : decode cX8_troubleAt 66 = .ok (.invokevirtual 141, 3) := by decide +kernel
theorem dX8_troubleAt_69 : decode cX8_troubleAt 69 = .ok (.goto 4, 3) := by decide +kernel
theorem dX8_troubleAt_72 : decode cX8_troubleAt 72 = .ok (.iconst 0, 1) := by decide +kernel
theorem dX8_troubleAt_73 : decode cX8_troubleAt 73 = .ok (.istore 6, 2) := by decide +kernel
theorem dX8_troubleAt_75 : decode cX8_troubleAt 75 = .ok (.iload_n 2, 1) := by decide +kernel
theorem dX8_troubleAt_76 : decode cX8_troubleAt 76 = .ok (.ifCond .ne 7, 3) := by decide +kernel
theorem dX8_troubleAt_79 : decode cX8_troubleAt 79 = .ok (.iload_n 3, 1) := by decide +kernel
theorem dX8_troubleAt_80 : decode cX8_troubleAt 80 = .ok (.goto 24, 3) := by decide +kernel
theorem dX8_troubleAt_83 : decode cX8_troubleAt 83 = .ok (.iload_n 2, 1) := by decide +kernel
theorem dX8_troubleAt_84 : decode cX8_troubleAt 84 = .ok (.iconst 1, 1) := by decide +kernel
theorem dX8_troubleAt_85 : decode cX8_troubleAt 85 = .ok (.if_icmp .ne 8, 3) := by decide +kernel
theorem dX8_troubleAt_88 : decode cX8_troubleAt 88 = .ok (.iload 5, 2) := by decide +kernel
theorem dX8_troubleAt_90 : decode cX8_troubleAt 90 = .ok (.goto 14, 3) := by decide +kernel
theorem dX8_troubleAt_93 : decode cX8_troubleAt 93 = .ok (.iload_n 2, 1) := by decide +kernel
theorem dX8_troubleAt_94 : decode cX8_troubleAt 94 = .ok (.iconst 2, 1) := by decide +kernel
theorem dX8_troubleAt_95 : decode cX8_troubleAt 95 = .ok (.if_icmp .ne 8, 3) := by decide +kernel
theorem dX8_troubleAt_98 : decode cX8_troubleAt 98 = .ok (.iload 6, 2) := by decide +kernel
theorem dX8_troubleAt_100 : decode cX8_troubleAt 100 = .ok (.goto 4, 3) := by decide +kernel
theorem dX8_troubleAt_103 : decode cX8_troubleAt 103 = .ok (.iconst 0, 1) := by decide +kernel
theorem dX8_troubleAt_104 : decode cX8_troubleAt 104 = .ok (.istore 7, 2) := by decide +kernel
theorem dX8_troubleAt_106 : decode cX8_troubleAt 106 = .ok (.iload 7, 2) := by decide +kernel
theorem dX8_troubleAt_108 : decode cX8_troubleAt 108 = .ok (.ifCond .ne 8, 3) := by decide +kernel
theorem dX8_troubleAt_111 : decode cX8_troubleAt 111 = .ok (.ldc 105, 2) := by decide +kernel
theorem dX8_troubleAt_113 : decode cX8_troubleAt 113 = .ok (.goto 5, 3) := by decide +kernel
theorem dX8_troubleAt_116 : decode cX8_troubleAt 116 = .ok (.iload 7, 2) := by decide +kernel
theorem dX8_troubleAt_118 : decode cX8_troubleAt 118 = .ok (.ireturn, 1) := by decide +kernel
theorem dX8_trouble_0 : decode cX8_trouble 0 = .ok (.aload_n 0, 1) := by decide +kernel
theorem dX8_trouble_1 : decode cX8_trouble 1 = .ok (.aload_n 0, 1) := by decide +kernel
theorem dX8_trouble_2 : decode cX8_trouble 2 = .ok (.iload_n 1, 1) := by decide +kernel
theorem dX8_trouble_3 : decode cX8_trouble 3 = .ok (.invokevirtual 155, 3) := by decide +kernel
theorem dX8_trouble_6 : decode cX8_trouble 6 = .ok (.ifCond .eq 7, 3) := by decide +kernel
theorem dX8_trouble_9 : decode cX8_trouble 9 = .ok (.iconst 0, 1) := by decide +kernel
theorem dX8_trouble_10 : decode cX8_trouble 10 = .ok (.goto 4, 3) := by decide +kernel
theorem dX8_trouble_13 : decode cX8_trouble 13 = .ok (.iconst 1, 1) := by decide +kernel
theorem dX8_trouble_14 : decode cX8_trouble 14 = .ok (.invokevirtual 70, 3) := by decide +kernel
theorem dX8_trouble_17 : decode cX8_trouble 17 = .ok (.ifCond .eq 7, 3) := by decide +kernel
theorem dX8_trouble_20 : decode cX8_trouble 20 = .ok (.iconst 0, 1) := by decide +kernel
theorem dX8_trouble_21 : decode cX8_trouble 21 = .ok (.goto 9, 3) := by decide +kernel
theorem dX8_trouble_24 : decode cX8_trouble 24 = .ok (.aload_n 0, 1) := by decide +kernel
theorem dX8_trouble_25 : decode cX8_trouble 25 = .ok (.iload_n 1, 1) := by decide +kernel
theorem dX8_trouble_26 : decode cX8_trouble 26 = .ok (.iload_n 2, 1) := by decide +kernel
theorem dX8_trouble_27 : decode cX8_trouble 27 = .ok (.invokevirtual 217, 3) := by decide +kernel
theorem dX8_trouble_30 : decode cX8_trouble 30 = .ok (.ireturn, 1) := by decide +kernel
theorem dX8_hasEnd_0 : decode cX8_hasEnd 0 = .ok (.aload_n 0, 1) := by decide +kernel
theorem dX8_hasEnd_1 : decode cX8_hasEnd 1 = .ok (.iload_n 1, 1) := by decide +kernel
theorem dX8_hasEnd_2 : decode cX8_hasEnd 2 = .ok (.invokevirtual 176, 3) := by decide +kernel
theorem dX8_hasEnd_5 : decode cX8_hasEnd 5 = .ok (.iconst 5, 1) := by decide +kernel
theorem dX8_hasEnd_6 : decode cX8_hasEnd 6 = .ok (.if_icmp .eq 17, 3) := by decide +kernel
theorem dX8_hasEnd_9 : decode cX8_hasEnd 9 = .ok (.aload_n 0, 1) := by decide +kernel
theorem dX8_hasEnd_10 : decode cX8_hasEnd 10 = .ok (.iload_n 1, 1) := by decide +kernel
theorem dX8_hasEnd_11 : decode cX8_hasEnd 11 = .ok (.invokevirtual 176, 3) := by decide +kernel
theorem dX8_hasEnd_14 : decode cX8_hasEnd 14 = .ok (.bipush 6, 2) := by decide +kernel
theorem dX8_hasEnd_16 : decode cX8_hasEnd 16 = .ok (.if_icmp .eq 7, 3) := by decide +kernel
theorem dX8_hasEnd_19 : decode cX8_hasEnd 19 = .ok (.iconst 1, 1) := by decide +kernel
theorem dX8_hasEnd_20 : decode cX8_hasEnd 20 = .ok (.goto 4, 3) := by decide +kernel
theorem dX8_hasEnd_23 : decode cX8_hasEnd 23 = .ok (.iconst 0, 1) := by decide +kernel
theorem dX8_hasEnd_24 : decode cX8_hasEnd 24 = .ok (.ireturn, 1) := by decide +kernel
theorem dX8_between_0 : decode cX8_between 0 = .ok (.aload_n 0, 1) := by decide +kernel
theorem dX8_between_1 : decode cX8_between 1 = .ok (.iload_n 1, 1) := by decide +kernel
theorem dX8_between_2 : decode cX8_between 2 = .ok (.invokevirtual 220, 3) := by decide +kernel
theorem dX8_between_5 : decode cX8_between 5 = .ok (.ifCond .eq 11, 3) := by decide +kernel
theorem dX8_between_8 : decode cX8_between 8 = .ok (.aload_n 0, 1) := by decide +kernel
theorem dX8_between_9 : decode cX8_between 9 = .ok (.iload_n 2, 1) := by decide +kernel
theorem dX8_between_10 : decode cX8_between 10 = .ok (.invokevirtual 220, 3) := by decide +kernel
theorem dX8_between_13 : decode cX8_between 13 = .ok (.ifCond .ne 6, 3) := by decide +kernel
theorem dX8_between_16 : decode cX8_between 16 = .ok (.ldc 105, 2) := by decide +kernel
theorem dX8_between_18 : decode cX8_between 18 = .ok (.ireturn, 1) := by decide +kernel
theorem dX8_between_19 : decode cX8_between 19 = .ok (.aload_n 0, 1) := by decide +kernel
theorem dX8_between_20 : decode cX8_between 20 = .ok (.iload_n 1, 1) := by decide +kernel
theorem dX8_between_21 : decode cX8_between 21 = .ok (.aload_n 0, 1) := by decide +kernel
theorem dX8_between_22 : decode cX8_between 22 = .ok (.iload_n 1, 1) := by decide +kernel
theorem dX8_between_23 : decode cX8_between 23 = .ok (.invokevirtual 77, 3) := by decide +kernel
theorem dX8_between_26 : decode cX8_between 26 = .ok (.iconst 1, 1) := by decide +kernel
theorem dX8_between_27 : decode cX8_between 27 = .ok (.isub, 1) := by decide +kernel
theorem dX8_between_28 : decode cX8_between 28 = .ok (.iconst 1, 1) := by decide +kernel
theorem dX8_between_29 : decode cX8_between 29 = .ok (.invokevirtual 191, 3) := by decide +kernel
theorem dX8_between_32 : decode cX8_between 32 = .ok (.aload_n 0, 1) := by decide +kernel
theorem dX8_between_33 : decode cX8_between 33 = .ok (.iload_n 2, 1) := by decide +kernel
theorem dX8_between_34 : decode cX8_between 34 = .ok (.aload_n 0, 1) := by decide +kernel
theorem dX8_between_35 : decode cX8_between 35 = .ok (.iload_n 2, 1) := by decide +kernel
theorem dX8_between_36 : decode cX8_between 36 = .ok (.invokevirtual 77, 3) := by decide +kernel
theorem dX8_between_39 : decode cX8_between 39 = .ok (.iconst 1, 1) := by decide +kernel
theorem dX8_between_40 : decode cX8_between 40 = .ok (.isub, 1) := by decide +kernel
theorem dX8_between_41 : decode cX8_between 41 = .ok (.iconst 1, 1) := by decide +kernel
theorem dX8_between_42 : decode cX8_between 42 = .ok (.invokevirtual 191, 3) := by decide +kernel
theorem dX8_between_45 : decode cX8_between 45 = .ok (.isub, 1) := by decide +kernel
theorem dX8_between_46 : decode cX8_between 46 = .ok (.istore_n 3, 1) := by decide +kernel
theorem dX8_between_47 : decode cX8_between 47 = .ok (.iload_n 3, 1) := by decide +kernel
theorem dX8_between_48 : decode cX8_between 48 = .ok (.i2l, 1) := by decide +kernel
theorem dX8_between_49 : decode cX8_between 49 = .ok (.aload_n 0, 1) := by decide +kernel
theorem dX8_between_50 : decode cX8_between 50 = .ok (.iload_n 1, 1) := by decide +kernel
theorem dX8_between_51 : decode cX8_between 51 = .ok (.aload_n 0, 1) := by decide +kernel
theorem dX8_between_52 : decode cX8_between 52 = .ok (.iload_n 1, 1) := by decide +kernel
theorem dX8_between_53 : decode cX8_between 53 = .ok (.invokevirtual 77, 3) := by decide +kernel
theorem dX8_between_56 : decode cX8_between 56 = .ok (.iconst 1, 1) := by decide +kernel
theorem dX8_between_57 : decode cX8_between 57 = .ok (.isub, 1) := by decide +kernel
theorem dX8_between_58 : decode cX8_between 58 = .ok (.iconst 0, 1) := by decide +kernel
theorem dX8_between_59 : decode cX8_between 59 = .ok (.invokevirtual 191, 3) := by decide +kernel
theorem dX8_between_62 : decode cX8_between 62 = .ok (.aload_n 0, 1) := by decide +kernel
theorem dX8_between_63 : decode cX8_between 63 = .ok (.iload_n 2, 1) := by decide +kernel
theorem dX8_between_64 : decode cX8_between 64 = .ok (.aload_n 0, 1) := by decide +kernel
theorem dX8_between_65 : decode cX8_between 65 = .ok (.iload_n 2, 1) := by decide +kernel
theorem dX8_between_66 : decode cX8_between 66 = .ok (.invokevirtual 77, 3) := by decide +kernel
theorem dX8_between_69 : decode cX8_between 69 = .ok (.iconst 1, 1) := by decide +kernel
theorem dX8_between_70 : decode cX8_between 70 = .ok (.isub, 1) := by decide +kernel
theorem dX8_between_71 : decode cX8_between 71 = .ok (.iconst 0, 1) := by decide +kernel
theorem dX8_between_72 : decode cX8_between 72 = .ok (.invokevirtual 191, 3) := by decide +kernel
theorem dX8_between_75 : decode cX8_between 75 = .ok (.isub, 1) := by decide +kernel
theorem dX8_between_76 : decode cX8_between 76 = .ok (.i2l, 1) := by decide +kernel
theorem dX8_between_77 : decode cX8_between 77 = .ok (.invokestatic 202, 3) := by decide +kernel
theorem dX8_between_80 : decode cX8_between 80 = .ok (.ireturn, 1) := by decide +kernel
theorem dX8_apart_0 : decode cX8_apart 0 = .ok (.aload_n 0, 1) := by decide +kernel
theorem dX8_apart_1 : decode cX8_apart 1 = .ok (.aload_n 0, 1) := by decide +kernel
theorem dX8_apart_2 : decode cX8_apart 2 = .ok (.iload_n 1, 1) := by decide +kernel
theorem dX8_apart_3 : decode cX8_apart 3 = .ok (.invokevirtual 155, 3) := by decide +kernel
theorem dX8_apart_6 : decode cX8_apart 6 = .ok (.ifCond .eq 15, 3) := by decide +kernel
theorem dX8_apart_9 : decode cX8_apart 9 = .ok (.aload_n 0, 1) := by decide +kernel
theorem dX8_apart_10 : decode cX8_apart 10 = .ok (.iload_n 2, 1) := by decide +kernel
theorem dX8_apart_11 : decode cX8_apart 11 = .ok (.invokevirtual 155, 3) := by decide +kernel
theorem dX8_apart_14 : decode cX8_apart 14 = .ok (.ifCond .eq 7, 3) := by decide +kernel
theorem dX8_apart_17 : decode cX8_apart 17 = .ok (.iconst 0, 1) := by decide +kernel
theorem dX8_apart_18 : decode cX8_apart 18 = .ok (.goto 4, 3) := by decide +kernel
theorem dX8_apart_21 : decode cX8_apart 21 = .ok (.iconst 1, 1) := by decide +kernel
theorem dX8_apart_22 : decode cX8_apart 22 = .ok (.invokevirtual 70, 3) := by decide +kernel
theorem dX8_apart_25 : decode cX8_apart 25 = .ok (.ifCond .eq 7, 3) := by decide +kernel
theorem dX8_apart_28 : decode cX8_apart 28 = .ok (.iconst 0, 1) := by decide +kernel
theorem dX8_apart_29 : decode cX8_apart 29 = .ok (.goto 9, 3) := by decide +kernel
theorem dX8_apart_32 : decode cX8_apart 32 = .ok (.aload_n 0, 1) := by decide +kernel
theorem dX8_apart_33 : decode cX8_apart 33 = .ok (.iload_n 1, 1) := by decide +kernel
theorem dX8_apart_34 : decode cX8_apart 34 = .ok (.iload_n 2, 1) := by decide +kernel
theorem dX8_apart_35 : decode cX8_apart 35 = .ok (.invokevirtual 223, 3) := by decide +kernel
theorem dX8_apart_38 : decode cX8_apart 38 = .ok (.ireturn, 1) := by decide +kernel
theorem dX8_meets_0 : decode cX8_meets 0 = .ok (.aload_n 0, 1) := by decide +kernel
theorem dX8_meets_1 : decode cX8_meets 1 = .ok (.aload_n 0, 1) := by decide +kernel
theorem dX8_meets_2 : decode cX8_meets 2 = .ok (.iload_n 1, 1) := by decide +kernel
theorem dX8_meets_3 : decode cX8_meets 3 = .ok (.invokevirtual 155, 3) := by decide +kernel
theorem dX8_meets_6 : decode cX8_meets 6 = .ok (.ifCond .eq 15, 3) := by decide +kernel
theorem dX8_meets_9 : decode cX8_meets 9 = .ok (.aload_n 0, 1) := by decide +kernel
theorem dX8_meets_10 : decode cX8_meets 10 = .ok (.iload_n 2, 1) := by decide +kernel
theorem dX8_meets_11 : decode cX8_meets 11 = .ok (.invokevirtual 155, 3) := by decide +kernel
theorem dX8_meets_14 : decode cX8_meets 14 = .ok (.ifCond .eq 7, 3) := by decide +kernel
theorem dX8_meets_17 : decode cX8_meets 17 = .ok (.iconst 0, 1) := by decide +kernel
theorem dX8_meets_18 : decode cX8_meets 18 = .ok (.goto 4, 3) := by decide +kernel
theorem dX8_meets_21 : decode cX8_meets 21 = .ok (.iconst 1, 1) := by decide +kernel
theorem dX8_meets_22 : decode cX8_meets 22 = .ok (.invokevirtual 70, 3) := by decide +kernel
theorem dX8_meets_25 : decode cX8_meets 25 = .ok (.ifCond .eq 5, 3) := by decide +kernel
theorem dX8_meets_28 : decode cX8_meets 28 = .ok (.iconst 0, 1) := by decide +kernel
theorem dX8_meets_29 : decode cX8_meets 29 = .ok (.ireturn, 1) := by decide +kernel
theorem dX8_meets_30 : decode cX8_meets 30 = .ok (.aload_n 0, 1) := by decide +kernel
theorem dX8_meets_31 : decode cX8_meets 31 = .ok (.iload_n 1, 1) := by decide +kernel
theorem dX8_meets_32 : decode cX8_meets 32 = .ok (.iload_n 2, 1) := by decide +kernel
theorem dX8_meets_33 : decode cX8_meets 33 = .ok (.invokevirtual 223, 3) := by decide +kernel
theorem dX8_meets_36 : decode cX8_meets 36 = .ok (.ldc 105, 2) := by decide +kernel
theorem dX8_meets_38 : decode cX8_meets 38 = .ok (.if_icmp .eq 22, 3) := by decide +kernel
theorem dX8_meets_41 : decode cX8_meets 41 = .ok (.aload_n 0, 1) := by decide +kernel
theorem dX8_meets_42 : decode cX8_meets 42 = .ok (.iload_n 1, 1) := by decide +kernel
theorem dX8_meets_43 : decode cX8_meets 43 = .ok (.iload_n 2, 1) := by decide +kernel
theorem dX8_meets_44 : decode cX8_meets 44 = .ok (.invokevirtual 223, 3) := by decide +kernel
theorem dX8_meets_47 : decode cX8_meets 47 = .ok (.aload_n 0, 1) := by decide +kernel
theorem dX8_meets_48 : decode cX8_meets 48 = .ok (.getfield 7, 3) := by decide +kernel
theorem dX8_meets_51 : decode cX8_meets 51 = .ok (.iconst 2, 1) := by decide +kernel
theorem dX8_meets_52 : decode cX8_meets 52 = .ok (.iaload, 1) := by decide +kernel
theorem dX8_meets_53 : decode cX8_meets 53 = .ok (.if_icmp .gt 7, 3) := by decide +kernel
theorem dX8_meets_56 : decode cX8_meets 56 = .ok (.iconst 1, 1) := by decide +kernel
theorem dX8_meets_57 : decode cX8_meets 57 = .ok (.goto 4, 3) := by decide +kernel
theorem dX8_meets_60 : decode cX8_meets 60 = .ok (.iconst 0, 1) := by decide +kernel
theorem dX8_meets_61 : decode cX8_meets 61 = .ok (.ireturn, 1) := by decide +kernel
theorem dX8_sine_0 : decode cX8_sine 0 = .ok (.aload_n 0, 1) := by decide +kernel
theorem dX8_sine_1 : decode cX8_sine 1 = .ok (.iload_n 1, 1) := by decide +kernel
theorem dX8_sine_2 : decode cX8_sine 2 = .ok (.i2l, 1) := by decide +kernel
theorem dX8_sine_3 : decode cX8_sine 3 = .ok (.ldc2_w 226, 3) := by decide +kernel
theorem dX8_sine_6 : decode cX8_sine 6 = .ok (.ldc2_w 228, 3) := by decide +kernel
theorem dX8_sine_9 : decode cX8_sine 9 = .ok (.invokestatic 62, 3) := by decide +kernel
theorem dX8_sine_12 : decode cX8_sine 12 = .ok (.ifCond .eq 7, 3) := by decide +kernel
theorem dX8_sine_15 : decode cX8_sine 15 = .ok (.iconst 0, 1) := by decide +kernel
theorem dX8_sine_16 : decode cX8_sine 16 = .ok (.goto 4, 3) := by decide +kernel
theorem dX8_sine_19 : decode cX8_sine 19 = .ok (.iconst 1, 1) := by decide +kernel
theorem dX8_sine_20 : decode cX8_sine 20 = .ok (.invokevirtual 70, 3) := by decide +kernel
theorem dX8_sine_23 : decode cX8_sine 23 = .ok (.ifCond .eq 7, 3) := by decide +kernel
theorem dX8_sine_26 : decode cX8_sine 26 = .ok (.iconst 0, 1) := by decide +kernel
theorem dX8_sine_27 : decode cX8_sine 27 = .ok (.goto 8, 3) := by decide +kernel
theorem dX8_sine_30 : decode cX8_sine 30 = .ok (.iload_n 1, 1) := by decide +kernel
theorem dX8_sine_31 : decode cX8_sine 31 = .ok (.i2l, 1) := by decide +kernel
theorem dX8_sine_32 : decode cX8_sine 32 = .ok (.invokestatic 53, 3) := by decide +kernel
theorem dX8_sine_35 : decode cX8_sine 35 = .ok (.ireturn, 1) := by decide +kernel
theorem dX8_suspectOf_0 : decode cX8_suspectOf 0 = .ok (.aload_n 0, 1) := by decide +kernel
theorem dX8_suspectOf_1 : decode cX8_suspectOf 1 = .ok (.iload_n 1, 1) := by decide +kernel
theorem dX8_suspectOf_2 : decode cX8_suspectOf 2 = .ok (.invokevirtual 195, 3) := by decide +kernel
theorem dX8_suspectOf_5 : decode cX8_suspectOf 5 = .ok (.ifCond .ne 6, 3) := by decide +kernel
theorem dX8_suspectOf_8 : decode cX8_suspectOf 8 = .ok (.ldc 105, 2) := by decide +kernel
theorem dX8_suspectOf_10 : decode cX8_suspectOf 10 = .ok (.ireturn, 1) := by decide +kernel
theorem dX8_suspectOf_11 : decode cX8_suspectOf 11 = .ok (.aload_n 0, 1) := by decide +kernel
theorem dX8_suspectOf_12 : decode cX8_suspectOf 12 = .ok (.iload_n 1, 1) := by decide +kernel
theorem dX8_suspectOf_13 : decode cX8_suspectOf 13 = .ok (.iconst 1, 1) := by decide +kernel
theorem dX8_suspectOf_14 : decode cX8_suspectOf 14 = .ok (.invokevirtual 198, 3) := by decide +kernel
theorem dX8_suspectOf_17 : decode cX8_suspectOf 17 = .ok (.i2l, 1) := by decide +kernel
theorem dX8_suspectOf_18 : decode cX8_suspectOf 18 = .ok (.lstore_n 2, 1) := by decide +kernel
theorem dX8_suspectOf_19 : decode cX8_suspectOf 19 = .ok (.aload_n 0, 1) := by decide +kernel
theorem dX8_suspectOf_20 : decode cX8_suspectOf 20 = .ok (.iload_n 1, 1) := by decide +kernel
theorem dX8_suspectOf_21 : decode cX8_suspectOf 21 = .ok (.iconst 0, 1) := by decide +kernel
theorem dX8_suspectOf_22 : decode cX8_suspectOf 22 = .ok (.invokevirtual 198, 3) := by decide +kernel
theorem dX8_suspectOf_25 : decode cX8_suspectOf 25 = .ok (.i2l, 1) := by decide +kernel
theorem dX8_suspectOf_26 : decode cX8_suspectOf 26 = .ok (.lstore 4, 2) := by decide +kernel
theorem dX8_suspectOf_28 : decode cX8_suspectOf 28 = .ok (.iconst 0, 1) := by decide +kernel
theorem dX8_suspectOf_29 : decode cX8_suspectOf 29 = .ok (.istore 6, 2) := by decide +kernel
theorem dX8_suspectOf_31 : decode cX8_suspectOf 31 = .ok (.ldc2_w 230, 3) := by decide +kernel
theorem dX8_suspectOf_34 : decode cX8_suspectOf 34 = .ok (.lstore 7, 2) := by decide +kernel
theorem dX8_suspectOf_36 : decode cX8_suspectOf 36 = .ok (.iconst 0, 1) := by decide +kernel
theorem dX8_suspectOf_37 : decode cX8_suspectOf 37 = .ok (.istore 9, 2) := by decide +kernel
theorem dX8_suspectOf_39 : decode cX8_suspectOf 39 = .ok (.iload 9, 2) := by decide +kernel
theorem dX8_suspectOf_41 : decode cX8_suspectOf 41 = .ok (.aload_n 0, 1) := by decide +kernel
theorem dX8_suspectOf_42 : decode cX8_suspectOf 42 = .ok (.iload_n 1, 1) := by decide +kernel
theorem dX8_suspectOf_43 : decode cX8_suspectOf 43 = .ok (.invokevirtual 77, 3) := by decide +kernel
theorem dX8_suspectOf_46 : decode cX8_suspectOf 46 = .ok (.if_icmp .ge 106, 3) := by decide +kernel
theorem dX8_suspectOf_49 : decode cX8_suspectOf 49 = .ok (.lload_n 2, 1) := by decide +kernel
theorem dX8_suspectOf_50 : decode cX8_suspectOf 50 = .ok (.aload_n 0, 1) := by decide +kernel
theorem dX8_suspectOf_51 : decode cX8_suspectOf 51 = .ok (.iload_n 1, 1) := by decide +kernel
theorem dX8_suspectOf_52 : decode cX8_suspectOf 52 = .ok (.iload 9, 2) := by decide +kernel
theorem dX8_suspectOf_54 : decode cX8_suspectOf 54 = .ok (.invokevirtual 164, 3) := by decide +kernel
theorem dX8_suspectOf_57 : decode cX8_suspectOf 57 = .ok (.i2l, 1) := by decide +kernel
theorem dX8_suspectOf_58 : decode cX8_suspectOf 58 = .ok (.invokestatic 186, 3) := by decide +kernel
theorem dX8_suspectOf_61 : decode cX8_suspectOf 61 = .ok (.i2l, 1) := by decide +kernel
theorem dX8_suspectOf_62 : decode cX8_suspectOf 62 = .ok (.lmul, 1) := by decide +kernel
theorem dX8_suspectOf_63 : decode cX8_suspectOf 63 = .ok (.lload 4, 2) := by decide +kernel
theorem dX8_suspectOf_65 : decode cX8_suspectOf 65 = .ok (.aload_n 0, 1) := by decide +kernel
theorem dX8_suspectOf_66 : decode cX8_suspectOf 66 = .ok (.iload_n 1, 1) := by decide +kernel
theorem dX8_suspectOf_67 : decode cX8_suspectOf 67 = .ok (.iload 9, 2) := by decide +kernel
theorem dX8_suspectOf_69 : decode cX8_suspectOf 69 = .ok (.invokevirtual 164, 3) := by decide +kernel
theorem dX8_suspectOf_72 : decode cX8_suspectOf 72 = .ok (.i2l, 1) := by decide +kernel
theorem dX8_suspectOf_73 : decode cX8_suspectOf 73 = .ok (.invokestatic 53, 3) := by decide +kernel
theorem dX8_suspectOf_76 : decode cX8_suspectOf 76 = .ok (.i2l, 1) := by decide +kernel
theorem dX8_suspectOf_77 : decode cX8_suspectOf 77 = .ok (.lmul, 1) := by decide +kernel
theorem dX8_suspectOf_78 : decode cX8_suspectOf 78 = .ok (.lsub, 1) := by decide +kernel
theorem dX8_suspectOf_79 : decode cX8_suspectOf 79 = .ok (.lstore 10, 2) := by decide +kernel
theorem dX8_suspectOf_81 : decode cX8_suspectOf 81 = .ok (.lload 10, 2) := by decide +kernel
theorem dX8_suspectOf_83 : decode cX8_suspectOf 83 = .ok (.lconst 0, 1) := by decide +kernel
theorem dX8_suspectOf_84 : decode cX8_suspectOf 84 = .ok (.lcmp, 1) := by decide +kernel
theorem dX8_suspectOf_85 : decode cX8_suspectOf 85 = .ok (.ifCond .ge 9, 3) := by decide +kernel
theorem dX8_suspectOf_88 : decode cX8_suspectOf 88 = .ok (.lload 10, 2) := by decide +kernel
theorem dX8_suspectOf_90 : decode cX8_suspectOf 90 = .ok (.lneg, 1) := by decide +kernel
theorem dX8_suspectOf_91 : decode cX8_suspectOf 91 = .ok (.goto 5, 3) := by decide +kernel
theorem dX8_suspectOf_94 : decode cX8_suspectOf 94 = .ok (.lload 10, 2) := by decide +kernel
theorem dX8_suspectOf_96 : decode cX8_suspectOf 96 = .ok (.lstore 10, 2) := by decide +kernel
theorem dX8_suspectOf_98 : decode cX8_suspectOf 98 = .ok (.lload 7, 2) := by decide +kernel
theorem dX8_suspectOf_100 : decode cX8_suspectOf 100 = .ok (.lconst 0, 1) := by decide +kernel
theorem dX8_suspectOf_101 : decode cX8_suspectOf 101 = .ok (.lcmp, 1) := by decide +kernel
theorem dX8_suspectOf_102 : decode cX8_suspectOf 102 = .ok (.ifCond .lt 11, 3) := by decide +kernel
theorem dX8_suspectOf_105 : decode cX8_suspectOf 105 = .ok (.lload 10, 2) := by decide +kernel
theorem dX8_suspectOf_107 : decode cX8_suspectOf 107 = .ok (.lload 7, 2) := by decide +kernel
theorem dX8_suspectOf_109 : decode cX8_suspectOf 109 = .ok (.lcmp, 1) := by decide +kernel
theorem dX8_suspectOf_110 : decode cX8_suspectOf 110 = .ok (.ifCond .ge 8, 3) := by decide +kernel
theorem dX8_suspectOf_113 : decode cX8_suspectOf 113 = .ok (.iload 9, 2) := by decide +kernel
theorem dX8_suspectOf_115 : decode cX8_suspectOf 115 = .ok (.goto 5, 3) := by decide +kernel
theorem dX8_suspectOf_118 : decode cX8_suspectOf 118 = .ok (.iload 6, 2) := by decide +kernel
theorem dX8_suspectOf_120 : decode cX8_suspectOf 120 = .ok (.istore 6, 2) := by decide +kernel
theorem dX8_suspectOf_122 : decode cX8_suspectOf 122 = .ok (.lload 7, 2) := by decide +kernel
theorem dX8_suspectOf_124 : decode cX8_suspectOf 124 = .ok (.lconst 0, 1) := by decide +kernel
theorem dX8_suspectOf_125 : decode cX8_suspectOf 125 = .ok (.lcmp, 1) := by decide +kernel
theorem dX8_suspectOf_126 : decode cX8_suspectOf 126 = .ok (.ifCond .lt 11, 3) := by decide +kernel
theorem dX8_suspectOf_129 : decode cX8_suspectOf 129 = .ok (.lload 10, 2) := by decide +kernel
theorem dX8_suspectOf_131 : decode cX8_suspectOf 131 = .ok (.lload 7, 2) := by decide +kernel
theorem dX8_suspectOf_133 : decode cX8_suspectOf 133 = .ok (.lcmp, 1) := by decide +kernel
theorem dX8_suspectOf_134 : decode cX8_suspectOf 134 = .ok (.ifCond .ge 8, 3) := by decide +kernel
theorem dX8_suspectOf_137 : decode cX8_suspectOf 137 = .ok (.lload 10, 2) := by decide +kernel
theorem dX8_suspectOf_139 : decode cX8_suspectOf 139 = .ok (.goto 5, 3) := by decide +kernel
theorem dX8_suspectOf_142 : decode cX8_suspectOf 142 = .ok (.lload 7, 2) := by decide +kernel
theorem dX8_suspectOf_144 : decode cX8_suspectOf 144 = .ok (.lstore 7, 2) := by decide +kernel
theorem dX8_suspectOf_146 : decode cX8_suspectOf 146 = .ok (.iinc 9 1, 3) := by decide +kernel
theorem dX8_suspectOf_149 : decode cX8_suspectOf 149 = .ok (.goto (-110), 3) := by decide +kernel
theorem dX8_suspectOf_152 : decode cX8_suspectOf 152 = .ok (.iload 6, 2) := by decide +kernel
theorem dX8_suspectOf_154 : decode cX8_suspectOf 154 = .ok (.ireturn, 1) := by decide +kernel
theorem dX8_suspect_0 : decode cX8_suspect 0 = .ok (.aload_n 0, 1) := by decide +kernel
theorem dX8_suspect_1 : decode cX8_suspect 1 = .ok (.aload_n 0, 1) := by decide +kernel
theorem dX8_suspect_2 : decode cX8_suspect 2 = .ok (.iload_n 1, 1) := by decide +kernel
theorem dX8_suspect_3 : decode cX8_suspect 3 = .ok (.invokevirtual 155, 3) := by decide +kernel
theorem dX8_suspect_6 : decode cX8_suspect 6 = .ok (.ifCond .eq 7, 3) := by decide +kernel
theorem dX8_suspect_9 : decode cX8_suspect 9 = .ok (.iconst 0, 1) := by decide +kernel
theorem dX8_suspect_10 : decode cX8_suspect 10 = .ok (.goto 4, 3) := by decide +kernel
theorem dX8_suspect_13 : decode cX8_suspect 13 = .ok (.iconst 1, 1) := by decide +kernel
theorem dX8_suspect_14 : decode cX8_suspect 14 = .ok (.invokevirtual 70, 3) := by decide +kernel
theorem dX8_suspect_17 : decode cX8_suspect 17 = .ok (.ifCond .eq 7, 3) := by decide +kernel
theorem dX8_suspect_20 : decode cX8_suspect 20 = .ok (.iconst 0, 1) := by decide +kernel
theorem dX8_suspect_21 : decode cX8_suspect 21 = .ok (.goto 8, 3) := by decide +kernel
theorem dX8_suspect_24 : decode cX8_suspect 24 = .ok (.aload_n 0, 1) := by decide +kernel
theorem dX8_suspect_25 : decode cX8_suspect 25 = .ok (.iload_n 1, 1) := by decide +kernel
theorem dX8_suspect_26 : decode cX8_suspect 26 = .ok (.invokevirtual 232, 3) := by decide +kernel
theorem dX8_suspect_29 : decode cX8_suspect 29 = .ok (.ireturn, 1) := by decide +kernel
theorem dX8_angleFor_0 : decode cX8_angleFor 0 = .ok (.aload_n 0, 1) := by decide +kernel
theorem dX8_angleFor_1 : decode cX8_angleFor 1 = .ok (.aload_n 0, 1) := by decide +kernel
theorem dX8_angleFor_2 : decode cX8_angleFor 2 = .ok (.iload_n 1, 1) := by decide +kernel
theorem dX8_angleFor_3 : decode cX8_angleFor 3 = .ok (.invokevirtual 155, 3) := by decide +kernel
theorem dX8_angleFor_6 : decode cX8_angleFor 6 = .ok (.ifCond .eq 11, 3) := by decide +kernel
theorem dX8_angleFor_9 : decode cX8_angleFor 9 = .ok (.aload_n 0, 1) := by decide +kernel
theorem dX8_angleFor_10 : decode cX8_angleFor 10 = .ok (.iload_n 2, 1) := by decide +kernel
theorem dX8_angleFor_11 : decode cX8_angleFor 11 = .ok (.invokevirtual 135, 3) := by decide +kernel
theorem dX8_angleFor_14 : decode cX8_angleFor 14 = .ok (.ifCond .ne 7, 3) := by decide +kernel
theorem dX8_angleFor_17 : decode cX8_angleFor 17 = .ok (.iconst 1, 1) := by decide +kernel
theorem dX8_angleFor_18 : decode cX8_angleFor 18 = .ok (.goto 20, 3) := by decide +kernel
theorem dX8_angleFor_21 : decode cX8_angleFor 21 = .ok (.iload_n 3, 1) := by decide +kernel
theorem dX8_angleFor_22 : decode cX8_angleFor 22 = .ok (.i2l, 1) := by decide +kernel
theorem dX8_angleFor_23 : decode cX8_angleFor 23 = .ok (.lconst 0, 1) := by decide +kernel
theorem dX8_angleFor_24 : decode cX8_angleFor 24 = .ok (.ldc2_w 121, 3) := by decide +kernel
theorem dX8_angleFor_27 : decode cX8_angleFor 27 = .ok (.invokestatic 62, 3) := by decide +kernel
theorem dX8_angleFor_30 : decode cX8_angleFor 30 = .ok (.ifCond .eq 7, 3) := by decide +kernel
theorem dX8_angleFor_33 : decode cX8_angleFor 33 = .ok (.iconst 0, 1) := by decide +kernel
theorem dX8_angleFor_34 : decode cX8_angleFor 34 = .ok (.goto 4, 3) := by decide +kernel
theorem dX8_angleFor_37 : decode cX8_angleFor 37 = .ok (.iconst 2, 1) := by decide +kernel
theorem dX8_angleFor_38 : decode cX8_angleFor 38 = .ok (.invokevirtual 70, 3) := by decide +kernel
theorem dX8_angleFor_41 : decode cX8_angleFor 41 = .ok (.ifCond .eq 5, 3) := by decide +kernel
theorem dX8_angleFor_44 : decode cX8_angleFor 44 = .ok (.iconst 0, 1) := by decide +kernel
theorem dX8_angleFor_45 : decode cX8_angleFor 45 = .ok (.ireturn, 1) := by decide +kernel
theorem dX8_angleFor_46 : decode cX8_angleFor 46 = .ok (.bipush 78, 2) := by decide +kernel
theorem dX8_angleFor_48 : decode cX8_angleFor 48 = .ok (.bipush 6, 2) := by decide +kernel
theorem dX8_angleFor_50 : decode cX8_angleFor 50 = .ok (.iload_n 2, 1) := by decide +kernel
theorem dX8_angleFor_51 : decode cX8_angleFor 51 = .ok (.imul, 1) := by decide +kernel
theorem dX8_angleFor_52 : decode cX8_angleFor 52 = .ok (.iadd, 1) := by decide +kernel
theorem dX8_angleFor_53 : decode cX8_angleFor 53 = .ok (.iconst 5, 1) := by decide +kernel
theorem dX8_angleFor_54 : decode cX8_angleFor 54 = .ok (.iadd, 1) := by decide +kernel
theorem dX8_angleFor_55 : decode cX8_angleFor 55 = .ok (.istore 4, 2) := by decide +kernel
theorem dX8_angleFor_57 : decode cX8_angleFor 57 = .ok (.aload_n 0, 1) := by decide +kernel
theorem dX8_angleFor_58 : decode cX8_angleFor 58 = .ok (.getfield 7, 3) := by decide +kernel
theorem dX8_angleFor_61 : decode cX8_angleFor 61 = .ok (.iload 4, 2) := by decide +kernel
theorem dX8_angleFor_63 : decode cX8_angleFor 63 = .ok (.iaload, 1) := by decide +kernel
theorem dX8_angleFor_64 : decode cX8_angleFor 64 = .ok (.istore 5, 2) := by decide +kernel
theorem dX8_angleFor_66 : decode cX8_angleFor 66 = .ok (.ldc 105, 2) := by decide +kernel
theorem dX8_angleFor_68 : decode cX8_angleFor 68 = .ok (.istore 6, 2) := by decide +kernel
theorem dX8_angleFor_70 : decode cX8_angleFor 70 = .ok (.sipush (-3600), 3) := by decide +kernel
theorem dX8_angleFor_73 : decode cX8_angleFor 73 = .ok (.istore 7, 2) := by decide +kernel
theorem dX8_angleFor_75 : decode cX8_angleFor 75 = .ok (.iload 7, 2) := by decide +kernel
theorem dX8_angleFor_77 : decode cX8_angleFor 77 = .ok (.sipush 3600, 3) := by decide +kernel
theorem dX8_angleFor_80 : decode cX8_angleFor 80 = .ok (.if_icmp .gt 54, 3) := by decide +kernel
theorem dX8_angleFor_83 : decode cX8_angleFor 83 = .ok (.iload 6, 2) := by decide +kernel
theorem dX8_angleFor_85 : decode cX8_angleFor 85 = .ok (.ldc 105, 2) := by decide +kernel
theorem dX8_angleFor_87 : decode cX8_angleFor 87 = .ok (.if_icmp .ne 47, 3) := by decide +kernel
theorem dX8_angleFor_90 : decode cX8_angleFor 90 = .ok (.aload_n 0, 1) := by decide +kernel
theorem dX8_angleFor_91 : decode cX8_angleFor 91 = .ok (.iload_n 1, 1) := by decide +kernel
theorem dX8_angleFor_92 : decode cX8_angleFor 92 = .ok (.invokevirtual 195, 3) := by decide +kernel
theorem dX8_angleFor_95 : decode cX8_angleFor 95 = .ok (.ifCond .eq 39, 3) := by decide +kernel
theorem dX8_angleFor_98 : decode cX8_angleFor 98 = .ok (.aload_n 0, 1) := by decide +kernel
theorem dX8_angleFor_99 : decode cX8_angleFor 99 = .ok (.getfield 7, 3) := by decide +kernel
theorem dX8_angleFor_102 : decode cX8_angleFor 102 = .ok (.iload 4, 2) := by decide +kernel
theorem dX8_angleFor_104 : decode cX8_angleFor 104 = .ok (.iload 7, 2) := by decide +kernel
theorem dX8_angleFor_106 : decode cX8_angleFor 106 = .ok (.iastore, 1) := by decide +kernel
theorem dX8_angleFor_107 : decode cX8_angleFor 107 = .ok (.aload_n 0, 1) := by decide +kernel
theorem dX8_angleFor_108 : decode cX8_angleFor 108 = .ok (.iload_n 1, 1) := by decide +kernel
theorem dX8_angleFor_109 : decode cX8_angleFor 109 = .ok (.invokevirtual 170, 3) := by decide +kernel
theorem dX8_angleFor_112 : decode cX8_angleFor 112 = .ok (.invokestatic 99, 3) := by decide +kernel
theorem dX8_angleFor_115 : decode cX8_angleFor 115 = .ok (.iload_n 3, 1) := by decide +kernel
theorem dX8_angleFor_116 : decode cX8_angleFor 116 = .ok (.if_icmp .gt 8, 3) := by decide +kernel
theorem dX8_angleFor_119 : decode cX8_angleFor 119 = .ok (.iload 7, 2) := by decide +kernel
theorem dX8_angleFor_121 : decode cX8_angleFor 121 = .ok (.goto 5, 3) := by decide +kernel
theorem dX8_angleFor_124 : decode cX8_angleFor 124 = .ok (.iload 6, 2) := by decide +kernel
theorem dX8_angleFor_126 : decode cX8_angleFor 126 = .ok (.istore 6, 2) := by decide +kernel
theorem dX8_angleFor_128 : decode cX8_angleFor 128 = .ok (.iinc 7 1, 3) := by decide +kernel
theorem dX8_angleFor_131 : decode cX8_angleFor 131 = .ok (.goto (-56), 3) := by decide +kernel
theorem dX8_angleFor_134 : decode cX8_angleFor 134 = .ok (.aload_n 0, 1) := by decide +kernel
theorem dX8_angleFor_135 : decode cX8_angleFor 135 = .ok (.getfield 7, 3) := by decide +kernel
theorem dX8_angleFor_138 : decode cX8_angleFor 138 = .ok (.iload 4, 2) := by decide +kernel
theorem dX8_angleFor_140 : decode cX8_angleFor 140 = .ok (.iload 5, 2) := by decide +kernel
theorem dX8_angleFor_142 : decode cX8_angleFor 142 = .ok (.iastore, 1) := by decide +kernel
theorem dX8_angleFor_143 : decode cX8_angleFor 143 = .ok (.iload 6, 2) := by decide +kernel
theorem dX8_angleFor_145 : decode cX8_angleFor 145 = .ok (.ireturn, 1) := by decide +kernel
theorem dX8_reachBy_0 : decode cX8_reachBy 0 = .ok (.aload_n 0, 1) := by decide +kernel
theorem dX8_reachBy_1 : decode cX8_reachBy 1 = .ok (.aload_n 0, 1) := by decide +kernel
theorem dX8_reachBy_2 : decode cX8_reachBy 2 = .ok (.iload_n 1, 1) := by decide +kernel
theorem dX8_reachBy_3 : decode cX8_reachBy 3 = .ok (.invokevirtual 155, 3) := by decide +kernel
theorem dX8_reachBy_6 : decode cX8_reachBy 6 = .ok (.ifCond .eq 11, 3) := by decide +kernel
theorem dX8_reachBy_9 : decode cX8_reachBy 9 = .ok (.aload_n 0, 1) := by decide +kernel
theorem dX8_reachBy_10 : decode cX8_reachBy 10 = .ok (.iload_n 2, 1) := by decide +kernel
theorem dX8_reachBy_11 : decode cX8_reachBy 11 = .ok (.invokevirtual 155, 3) := by decide +kernel
theorem dX8_reachBy_14 : decode cX8_reachBy 14 = .ok (.ifCond .ne 7, 3) := by decide +kernel
theorem dX8_reachBy_17 : decode cX8_reachBy 17 = .ok (.iconst 1, 1) := by decide +kernel
theorem dX8_reachBy_18 : decode cX8_reachBy 18 = .ok (.goto 28, 3) := by decide +kernel
theorem dX8_reachBy_21 : decode cX8_reachBy 21 = .ok (.iload_n 3, 1) := by decide +kernel
theorem dX8_reachBy_22 : decode cX8_reachBy 22 = .ok (.invokestatic 123, 3) := by decide +kernel
theorem dX8_reachBy_25 : decode cX8_reachBy 25 = .ok (.ifCond .eq 20, 3) := by decide +kernel
theorem dX8_reachBy_28 : decode cX8_reachBy 28 = .ok (.iload 4, 2) := by decide +kernel
theorem dX8_reachBy_30 : decode cX8_reachBy 30 = .ok (.i2l, 1) := by decide +kernel
theorem dX8_reachBy_31 : decode cX8_reachBy 31 = .ok (.lconst 1, 1) := by decide +kernel
theorem dX8_reachBy_32 : decode cX8_reachBy 32 = .ok (.ldc2_w 235, 3) := by decide +kernel
theorem dX8_reachBy_35 : decode cX8_reachBy 35 = .ok (.invokestatic 62, 3) := by decide +kernel
theorem dX8_reachBy_38 : decode cX8_reachBy 38 = .ok (.ifCond .eq 7, 3) := by decide +kernel
theorem dX8_reachBy_41 : decode cX8_reachBy 41 = .ok (.iconst 0, 1) := by decide +kernel
theorem dX8_reachBy_42 : decode cX8_reachBy 42 = .ok (.goto 4, 3) := by decide +kernel
theorem dX8_reachBy_45 : decode cX8_reachBy 45 = .ok (.iconst 2, 1) := by decide +kernel
theorem dX8_reachBy_46 : decode cX8_reachBy 46 = .ok (.invokevirtual 70, 3) := by decide +kernel
theorem dX8_reachBy_49 : decode cX8_reachBy 49 = .ok (.ifCond .eq 5, 3) := by decide +kernel
theorem dX8_reachBy_52 : decode cX8_reachBy 52 = .ok (.iconst 0, 1) := by decide +kernel
theorem dX8_reachBy_53 : decode cX8_reachBy 53 = .ok (.ireturn, 1) := by decide +kernel
theorem dX8_reachBy_54 : decode cX8_reachBy 54 = .ok (.aload_n 0, 1) := by decide +kernel
theorem dX8_reachBy_55 : decode cX8_reachBy 55 = .ok (.iload_n 1, 1) := by decide +kernel
theorem dX8_reachBy_56 : decode cX8_reachBy 56 = .ok (.iload_n 2, 1) := by decide +kernel
theorem dX8_reachBy_57 : decode cX8_reachBy 57 = .ok (.invokevirtual 223, 3) := by decide +kernel
theorem dX8_reachBy_60 : decode cX8_reachBy 60 = .ok (.ldc 105, 2) := by decide +kernel
theorem dX8_reachBy_62 : decode cX8_reachBy 62 = .ok (.if_icmp .ne 6, 3) := by decide +kernel
theorem dX8_reachBy_65 : decode cX8_reachBy 65 = .ok (.ldc 105, 2) := by decide +kernel
theorem dX8_reachBy_67 : decode cX8_reachBy 67 = .ok (.ireturn, 1) := by decide +kernel
theorem dX8_reachBy_68 : decode cX8_reachBy 68 = .ok (.aload_n 0, 1) := by decide +kernel
theorem dX8_reachBy_69 : decode cX8_reachBy 69 = .ok (.iload_n 1, 1) := by decide +kernel
theorem dX8_reachBy_70 : decode cX8_reachBy 70 = .ok (.aload_n 0, 1) := by decide +kernel
theorem dX8_reachBy_71 : decode cX8_reachBy 71 = .ok (.iload_n 1, 1) := by decide +kernel
theorem dX8_reachBy_72 : decode cX8_reachBy 72 = .ok (.invokevirtual 77, 3) := by decide +kernel
theorem dX8_reachBy_75 : decode cX8_reachBy 75 = .ok (.iconst 1, 1) := by decide +kernel
theorem dX8_reachBy_76 : decode cX8_reachBy 76 = .ok (.isub, 1) := by decide +kernel
theorem dX8_reachBy_77 : decode cX8_reachBy 77 = .ok (.invokevirtual 164, 3) := by decide +kernel
theorem dX8_reachBy_80 : decode cX8_reachBy 80 = .ok (.i2l, 1) := by decide +kernel
theorem dX8_reachBy_81 : decode cX8_reachBy 81 = .ok (.iload_n 3, 1) := by decide +kernel
theorem dX8_reachBy_82 : decode cX8_reachBy 82 = .ok (.i2l, 1) := by decide +kernel
theorem dX8_reachBy_83 : decode cX8_reachBy 83 = .ok (.ladd, 1) := by decide +kernel
theorem dX8_reachBy_84 : decode cX8_reachBy 84 = .ok (.ldc2_w 45, 3) := by decide +kernel
theorem dX8_reachBy_87 : decode cX8_reachBy 87 = .ok (.ladd, 1) := by decide +kernel
theorem dX8_reachBy_88 : decode cX8_reachBy 88 = .ok (.lstore 5, 2) := by decide +kernel
theorem dX8_reachBy_90 : decode cX8_reachBy 90 = .ok (.lload 5, 2) := by decide +kernel
theorem dX8_reachBy_92 : decode cX8_reachBy 92 = .ok (.invokestatic 53, 3) := by decide +kernel
theorem dX8_reachBy_95 : decode cX8_reachBy 95 = .ok (.i2l, 1) := by decide +kernel
theorem dX8_reachBy_96 : decode cX8_reachBy 96 = .ok (.lstore 7, 2) := by decide +kernel
theorem dX8_reachBy_98 : decode cX8_reachBy 98 = .ok (.lload 5, 2) := by decide +kernel
theorem dX8_reachBy_100 : decode cX8_reachBy 100 = .ok (.invokestatic 186, 3) := by decide +kernel
theorem dX8_reachBy_103 : decode cX8_reachBy 103 = .ok (.i2l, 1) := by decide +kernel
theorem dX8_reachBy_104 : decode cX8_reachBy 104 = .ok (.lstore 9, 2) := by decide +kernel
theorem dX8_reachBy_106 : decode cX8_reachBy 106 = .ok (.aload_n 0, 1) := by decide +kernel
theorem dX8_reachBy_107 : decode cX8_reachBy 107 = .ok (.iload_n 1, 1) := by decide +kernel
theorem dX8_reachBy_108 : decode cX8_reachBy 108 = .ok (.aload_n 0, 1) := by decide +kernel
theorem dX8_reachBy_109 : decode cX8_reachBy 109 = .ok (.iload_n 1, 1) := by decide +kernel
theorem dX8_reachBy_110 : decode cX8_reachBy 110 = .ok (.invokevirtual 77, 3) := by decide +kernel
theorem dX8_reachBy_113 : decode cX8_reachBy 113 = .ok (.iconst 1, 1) := by decide +kernel
theorem dX8_reachBy_114 : decode cX8_reachBy 114 = .ok (.isub, 1) := by decide +kernel
theorem dX8_reachBy_115 : decode cX8_reachBy 115 = .ok (.iconst 1, 1) := by decide +kernel
theorem dX8_reachBy_116 : decode cX8_reachBy 116 = .ok (.invokevirtual 191, 3) := by decide +kernel
theorem dX8_reachBy_119 : decode cX8_reachBy 119 = .ok (.i2l, 1) := by decide +kernel
theorem dX8_reachBy_120 : decode cX8_reachBy 120 = .ok (.aload_n 0, 1) := by decide +kernel
theorem dX8_reachBy_121 : decode cX8_reachBy 121 = .ok (.iload_n 2, 1) := by decide +kernel
theorem dX8_reachBy_122 : decode cX8_reachBy 122 = .ok (.aload_n 0, 1) := by decide +kernel
theorem dX8_reachBy_123 : decode cX8_reachBy 123 = .ok (.iload_n 2, 1) := by decide +kernel
theorem dX8_reachBy_124 : decode cX8_reachBy 124 = .ok (.invokevirtual 77, 3) := by decide +kernel
theorem dX8_reachBy_127 : decode cX8_reachBy 127 = .ok (.iconst 1, 1) := by decide +kernel
theorem dX8_reachBy_128 : decode cX8_reachBy 128 = .ok (.isub, 1) := by decide +kernel
theorem dX8_reachBy_129 : decode cX8_reachBy 129 = .ok (.iconst 1, 1) := by decide +kernel
theorem dX8_reachBy_130 : decode cX8_reachBy 130 = .ok (.invokevirtual 191, 3) := by decide +kernel
theorem dX8_reachBy_133 : decode cX8_reachBy 133 = .ok (.i2l, 1) := by decide +kernel
theorem dX8_reachBy_134 : decode cX8_reachBy 134 = .ok (.lsub, 1) := by decide +kernel
theorem dX8_reachBy_135 : decode cX8_reachBy 135 = .ok (.lstore 11, 2) := by decide +kernel
theorem dX8_reachBy_137 : decode cX8_reachBy 137 = .ok (.aload_n 0, 1) := by decide +kernel
theorem dX8_reachBy_138 : decode cX8_reachBy 138 = .ok (.iload_n 1, 1) := by decide +kernel
theorem dX8_reachBy_139 : decode cX8_reachBy 139 = .ok (.aload_n 0, 1) := by decide +kernel
theorem dX8_reachBy_140 : decode cX8_reachBy 140 = .ok (.iload_n 1, 1) := by decide +kernel
theorem dX8_reachBy_141 : decode cX8_reachBy 141 = .ok (.invokevirtual 77, 3) := by decide +kernel
theorem dX8_reachBy_144 : decode cX8_reachBy 144 = .ok (.iconst 1, 1) := by decide +kernel
theorem dX8_reachBy_145 : decode cX8_reachBy 145 = .ok (.isub, 1) := by decide +kernel
theorem dX8_reachBy_146 : decode cX8_reachBy 146 = .ok (.iconst 0, 1) := by decide +kernel
theorem dX8_reachBy_147 : decode cX8_reachBy 147 = .ok (.invokevirtual 191, 3) := by decide +kernel
theorem dX8_reachBy_150 : decode cX8_reachBy 150 = .ok (.i2l, 1) := by decide +kernel
theorem dX8_reachBy_151 : decode cX8_reachBy 151 = .ok (.aload_n 0, 1) := by decide +kernel
theorem dX8_reachBy_152 : decode cX8_reachBy 152 = .ok (.iload_n 2, 1) := by decide +kernel
theorem dX8_reachBy_153 : decode cX8_reachBy 153 = .ok (.aload_n 0, 1) := by decide +kernel
theorem dX8_reachBy_154 : decode cX8_reachBy 154 = .ok (.iload_n 2, 1) := by decide +kernel
theorem dX8_reachBy_155 : decode cX8_reachBy 155 = .ok (.invokevirtual 77, 3) := by decide +kernel
theorem dX8_reachBy_158 : decode cX8_reachBy 158 = .ok (.iconst 1, 1) := by decide +kernel
theorem dX8_reachBy_159 : decode cX8_reachBy 159 = .ok (.isub, 1) := by decide +kernel
theorem dX8_reachBy_160 : decode cX8_reachBy 160 = .ok (.iconst 0, 1) := by decide +kernel
theorem dX8_reachBy_161 : decode cX8_reachBy 161 = .ok (.invokevirtual 191, 3) := by decide +kernel
theorem dX8_reachBy_164 : decode cX8_reachBy 164 = .ok (.i2l, 1) := by decide +kernel
theorem dX8_reachBy_165 : decode cX8_reachBy 165 = .ok (.lsub, 1) := by decide +kernel
theorem dX8_reachBy_166 : decode cX8_reachBy 166 = .ok (.lstore 13, 2) := by decide +kernel
theorem dX8_reachBy_168 : decode cX8_reachBy 168 = .ok (.ldc 105, 2) := by decide +kernel
theorem dX8_reachBy_170 : decode cX8_reachBy 170 = .ok (.istore 15, 2) := by decide +kernel
theorem dX8_reachBy_172 : decode cX8_reachBy 172 = .ok (.iconst 0, 1) := by decide +kernel
theorem dX8_reachBy_173 : decode cX8_reachBy 173 = .ok (.istore 16, 2) := by decide +kernel
theorem dX8_reachBy_175 : decode cX8_reachBy 175 = .ok (.sipush 1000, 3) := by decide +kernel
theorem dX8_reachBy_178 : decode cX8_reachBy 178 = .ok (.istore 17, 2) := by decide +kernel
theorem dX8_reachBy_180 : decode cX8_reachBy 180 = .ok (.iload 17, 2) := by decide +kernel
theorem dX8_reachBy_182 : decode cX8_reachBy 182 = .ok (.sipush 1000, 3) := by decide +kernel
theorem dX8_reachBy_185 : decode cX8_reachBy 185 = .ok (.iload 4, 2) := by decide +kernel
theorem dX8_reachBy_187 : decode cX8_reachBy 187 = .ok (.imul, 1) := by decide +kernel
theorem dX8_reachBy_188 : decode cX8_reachBy 188 = .ok (.if_icmp .gt 92, 3) := by decide +kernel
theorem dX8_reachBy_191 : decode cX8_reachBy 191 = .ok (.lload 11, 2) := by decide +kernel
theorem dX8_reachBy_193 : decode cX8_reachBy 193 = .ok (.iload 17, 2) := by decide +kernel
theorem dX8_reachBy_195 : decode cX8_reachBy 195 = .ok (.i2l, 1) := by decide +kernel
theorem dX8_reachBy_196 : decode cX8_reachBy 196 = .ok (.lload 7, 2) := by decide +kernel
theorem dX8_reachBy_198 : decode cX8_reachBy 198 = .ok (.lmul, 1) := by decide +kernel
theorem dX8_reachBy_199 : decode cX8_reachBy 199 = .ok (.ldc2_w 189, 3) := by decide +kernel
theorem dX8_reachBy_202 : decode cX8_reachBy 202 = .ok (.ldiv, 1) := by decide +kernel
theorem dX8_reachBy_203 : decode cX8_reachBy 203 = .ok (.ladd, 1) := by decide +kernel
theorem dX8_reachBy_204 : decode cX8_reachBy 204 = .ok (.lload 13, 2) := by decide +kernel
theorem dX8_reachBy_206 : decode cX8_reachBy 206 = .ok (.iload 17, 2) := by decide +kernel
theorem dX8_reachBy_208 : decode cX8_reachBy 208 = .ok (.i2l, 1) := by decide +kernel
theorem dX8_reachBy_209 : decode cX8_reachBy 209 = .ok (.lload 9, 2) := by decide +kernel
theorem dX8_reachBy_211 : decode cX8_reachBy 211 = .ok (.lmul, 1) := by decide +kernel
theorem dX8_reachBy_212 : decode cX8_reachBy 212 = .ok (.ldc2_w 189, 3) := by decide +kernel
theorem dX8_reachBy_215 : decode cX8_reachBy 215 = .ok (.ldiv, 1) := by decide +kernel
theorem dX8_reachBy_216 : decode cX8_reachBy 216 = .ok (.ladd, 1) := by decide +kernel
theorem dX8_reachBy_217 : decode cX8_reachBy 217 = .ok (.invokestatic 202, 3) := by decide +kernel
theorem dX8_reachBy_220 : decode cX8_reachBy 220 = .ok (.istore 18, 2) := by decide +kernel
theorem dX8_reachBy_222 : decode cX8_reachBy 222 = .ok (.iload 15, 2) := by decide +kernel
theorem dX8_reachBy_224 : decode cX8_reachBy 224 = .ok (.ldc 105, 2) := by decide +kernel
theorem dX8_reachBy_226 : decode cX8_reachBy 226 = .ok (.if_icmp .eq 10, 3) := by decide +kernel
theorem dX8_reachBy_229 : decode cX8_reachBy 229 = .ok (.iload 18, 2) := by decide +kernel
theorem dX8_reachBy_231 : decode cX8_reachBy 231 = .ok (.iload 16, 2) := by decide +kernel
theorem dX8_reachBy_233 : decode cX8_reachBy 233 = .ok (.if_icmp .ge 7, 3) := by decide +kernel
theorem dX8_reachBy_236 : decode cX8_reachBy 236 = .ok (.iconst 1, 1) := by decide +kernel
theorem dX8_reachBy_237 : decode cX8_reachBy 237 = .ok (.goto 4, 3) := by decide +kernel
theorem dX8_reachBy_240 : decode cX8_reachBy 240 = .ok (.iconst 0, 1) := by decide +kernel
theorem dX8_reachBy_241 : decode cX8_reachBy 241 = .ok (.istore 19, 2) := by decide +kernel
theorem dX8_reachBy_243 : decode cX8_reachBy 243 = .ok (.iload 19, 2) := by decide +kernel
theorem dX8_reachBy_245 : decode cX8_reachBy 245 = .ok (.ifCond .eq 8, 3) := by decide +kernel
theorem dX8_reachBy_248 : decode cX8_reachBy 248 = .ok (.iload 17, 2) := by decide +kernel
theorem dX8_reachBy_250 : decode cX8_reachBy 250 = .ok (.goto 5, 3) := by decide +kernel
theorem dX8_reachBy_253 : decode cX8_reachBy 253 = .ok (.iload 15, 2) := by decide +kernel
theorem dX8_reachBy_255 : decode cX8_reachBy 255 = .ok (.istore 15, 2) := by decide +kernel
theorem dX8_reachBy_257 : decode cX8_reachBy 257 = .ok (.iload 19, 2) := by decide +kernel
theorem dX8_reachBy_259 : decode cX8_reachBy 259 = .ok (.ifCond .eq 8, 3) := by decide +kernel
theorem dX8_reachBy_262 : decode cX8_reachBy 262 = .ok (.iload 18, 2) := by decide +kernel
theorem dX8_reachBy_264 : decode cX8_reachBy 264 = .ok (.goto 5, 3) := by decide +kernel
theorem dX8_reachBy_267 : decode cX8_reachBy 267 = .ok (.iload 16, 2) := by decide +kernel
theorem dX8_reachBy_269 : decode cX8_reachBy 269 = .ok (.istore 16, 2) := by decide +kernel
theorem dX8_reachBy_271 : decode cX8_reachBy 271 = .ok (.iinc 17 1000, 6) := by decide +kernel
theorem dX8_reachBy_277 : decode cX8_reachBy 277 = .ok (.goto (-97), 3) := by decide +kernel
theorem dX8_reachBy_280 : decode cX8_reachBy 280 = .ok (.iload 15, 2) := by decide +kernel
theorem dX8_reachBy_282 : decode cX8_reachBy 282 = .ok (.ireturn, 1) := by decide +kernel
theorem dX8_type_0 : decode cX8_type 0 = .ok (.aload_n 0, 1) := by decide +kernel
theorem dX8_type_1 : decode cX8_type 1 = .ok (.iload_n 1, 1) := by decide +kernel
theorem dX8_type_2 : decode cX8_type 2 = .ok (.i2l, 1) := by decide +kernel
theorem dX8_type_3 : decode cX8_type 3 = .ok (.ldc2_w 237, 3) := by decide +kernel
theorem dX8_type_6 : decode cX8_type 6 = .ok (.ldc2_w 239, 3) := by decide +kernel
theorem dX8_type_9 : decode cX8_type 9 = .ok (.invokestatic 62, 3) := by decide +kernel
theorem dX8_type_12 : decode cX8_type 12 = .ok (.ifCond .ne 7, 3) := by decide +kernel
theorem dX8_type_15 : decode cX8_type 15 = .ok (.iconst 1, 1) := by decide +kernel
theorem dX8_type_16 : decode cX8_type 16 = .ok (.goto 17, 3) := by decide +kernel
theorem dX8_type_19 : decode cX8_type 19 = .ok (.aload_n 0, 1) := by decide +kernel
theorem dX8_type_20 : decode cX8_type 20 = .ok (.getfield 241, 3) := by decide +kernel
theorem dX8_type_23 : decode cX8_type 23 = .ok (.bipush 90, 2) := by decide +kernel
theorem dX8_type_25 : decode cX8_type 25 = .ok (.if_icmp .ne 7, 3) := by decide +kernel
theorem dX8_type_28 : decode cX8_type 28 = .ok (.iconst 2, 1) := by decide +kernel
theorem dX8_type_29 : decode cX8_type 29 = .ok (.goto 4, 3) := by decide +kernel
theorem dX8_type_32 : decode cX8_type 32 = .ok (.iconst 0, 1) := by decide +kernel
theorem dX8_type_33 : decode cX8_type 33 = .ok (.invokevirtual 70, 3) := by decide +kernel
theorem dX8_type_36 : decode cX8_type 36 = .ok (.ifCond .eq 5, 3) := by decide +kernel
theorem dX8_type_39 : decode cX8_type 39 = .ok (.iconst 0, 1) := by decide +kernel
theorem dX8_type_40 : decode cX8_type 40 = .ok (.ireturn, 1) := by decide +kernel
theorem dX8_type_41 : decode cX8_type 41 = .ok (.aload_n 0, 1) := by decide +kernel
theorem dX8_type_42 : decode cX8_type 42 = .ok (.getfield 16, 3) := by decide +kernel
theorem dX8_type_45 : decode cX8_type 45 = .ok (.aload_n 0, 1) := by decide +kernel
theorem dX8_type_46 : decode cX8_type 46 = .ok (.getfield 241, 3) := by decide +kernel
theorem dX8_type_49 : decode cX8_type 49 = .ok (.iload_n 1, 1) := by decide +kernel
theorem dX8_type_50 : decode cX8_type 50 = .ok (.iastore, 1) := by decide +kernel
theorem dX8_type_51 : decode cX8_type 51 = .ok (.aload_n 0, 1) := by decide +kernel
theorem dX8_type_52 : decode cX8_type 52 = .ok (.dup, 1) := by decide +kernel
theorem dX8_type_53 : decode cX8_type 53 = .ok (.getfield 241, 3) := by decide +kernel
theorem dX8_type_56 : decode cX8_type 56 = .ok (.iconst 1, 1) := by decide +kernel
theorem dX8_type_57 : decode cX8_type 57 = .ok (.iadd, 1) := by decide +kernel
theorem dX8_type_58 : decode cX8_type 58 = .ok (.putfield 241, 3) := by decide +kernel
theorem dX8_type_61 : decode cX8_type 61 = .ok (.aload_n 0, 1) := by decide +kernel
theorem dX8_type_62 : decode cX8_type 62 = .ok (.getfield 241, 3) := by decide +kernel
theorem dX8_type_65 : decode cX8_type 65 = .ok (.ireturn, 1) := by decide +kernel
theorem dX8_clearText_0 : decode cX8_clearText 0 = .ok (.aload_n 0, 1) := by decide +kernel
theorem dX8_clearText_1 : decode cX8_clearText 1 = .ok (.iconst 0, 1) := by decide +kernel
theorem dX8_clearText_2 : decode cX8_clearText 2 = .ok (.putfield 22, 3) := by decide +kernel
theorem dX8_clearText_5 : decode cX8_clearText 5 = .ok (.aload_n 0, 1) := by decide +kernel
theorem dX8_clearText_6 : decode cX8_clearText 6 = .ok (.getfield 241, 3) := by decide +kernel
theorem dX8_clearText_9 : decode cX8_clearText 9 = .ok (.istore_n 1, 1) := by decide +kernel
theorem dX8_clearText_10 : decode cX8_clearText 10 = .ok (.aload_n 0, 1) := by decide +kernel
theorem dX8_clearText_11 : decode cX8_clearText 11 = .ok (.iconst 0, 1) := by decide +kernel
theorem dX8_clearText_12 : decode cX8_clearText 12 = .ok (.putfield 241, 3) := by decide +kernel
theorem dX8_clearText_15 : decode cX8_clearText 15 = .ok (.iload_n 1, 1) := by decide +kernel
theorem dX8_clearText_16 : decode cX8_clearText 16 = .ok (.ireturn, 1) := by decide +kernel
theorem dX8_isAt_0 : decode cX8_isAt 0 = .ok (.aload_n 0, 1) := by decide +kernel
theorem dX8_isAt_1 : decode cX8_isAt 1 = .ok (.getfield 244, 3) := by decide +kernel
theorem dX8_isAt_4 : decode cX8_isAt 4 = .ok (.aload_n 0, 1) := by decide +kernel
theorem dX8_isAt_5 : decode cX8_isAt 5 = .ok (.getfield 241, 3) := by decide +kernel
theorem dX8_isAt_8 : decode cX8_isAt 8 = .ok (.if_icmp .ge 27, 3) := by decide +kernel
theorem dX8_isAt_11 : decode cX8_isAt 11 = .ok (.aload_n 0, 1) := by decide +kernel
theorem dX8_isAt_12 : decode cX8_isAt 12 = .ok (.getfield 16, 3) := by decide +kernel
theorem dX8_isAt_15 : decode cX8_isAt 15 = .ok (.aload_n 0, 1) := by decide +kernel
theorem dX8_isAt_16 : decode cX8_isAt 16 = .ok (.getfield 244, 3) := by decide +kernel
theorem dX8_isAt_19 : decode cX8_isAt 19 = .ok (.iaload, 1) := by decide +kernel
theorem dX8_isAt_20 : decode cX8_isAt 20 = .ok (.i2l, 1) := by decide +kernel
theorem dX8_isAt_21 : decode cX8_isAt 21 = .ok (.iload_n 1, 1) := by decide +kernel
theorem dX8_isAt_22 : decode cX8_isAt 22 = .ok (.i2l, 1) := by decide +kernel
theorem dX8_isAt_23 : decode cX8_isAt 23 = .ok (.iload_n 2, 1) := by decide +kernel
theorem dX8_isAt_24 : decode cX8_isAt 24 = .ok (.i2l, 1) := by decide +kernel
theorem dX8_isAt_25 : decode cX8_isAt 25 = .ok (.invokestatic 62, 3) := by decide +kernel
theorem dX8_isAt_28 : decode cX8_isAt 28 = .ok (.ifCond .eq 7, 3) := by decide +kernel
theorem dX8_isAt_31 : decode cX8_isAt 31 = .ok (.iconst 1, 1) := by decide +kernel
theorem dX8_isAt_32 : decode cX8_isAt 32 = .ok (.goto 4, 3) := by decide +kernel
theorem dX8_isAt_35 : decode cX8_isAt 35 = .ok (.iconst 0, 1) := by decide +kernel
theorem dX8_isAt_36 : decode cX8_isAt 36 = .ok (.ireturn, 1) := by decide +kernel
theorem dX8_number_0 : decode cX8_number 0 = .ok (.aload_n 0, 1) := by decide +kernel
theorem dX8_number_1 : decode cX8_number 1 = .ok (.getfield 244, 3) := by decide +kernel
theorem dX8_number_4 : decode cX8_number 4 = .ok (.istore_n 3, 1) := by decide +kernel
theorem dX8_number_5 : decode cX8_number 5 = .ok (.iconst 0, 1) := by decide +kernel
theorem dX8_number_6 : decode cX8_number 6 = .ok (.istore 4, 2) := by decide +kernel
theorem dX8_number_8 : decode cX8_number 8 = .ok (.aload_n 0, 1) := by decide +kernel
theorem dX8_number_9 : decode cX8_number 9 = .ok (.bipush 48, 2) := by decide +kernel
theorem dX8_number_11 : decode cX8_number 11 = .ok (.bipush 57, 2) := by decide +kernel
theorem dX8_number_13 : decode cX8_number 13 = .ok (.invokevirtual 247, 3) := by decide +kernel
theorem dX8_number_16 : decode cX8_number 16 = .ok (.ifCond .eq 47, 3) := by decide +kernel
theorem dX8_number_19 : decode cX8_number 19 = .ok (.aload_n 0, 1) := by decide +kernel
theorem dX8_number_20 : decode cX8_number 20 = .ok (.getfield 244, 3) := by decide +kernel
theorem dX8_number_23 : decode cX8_number 23 = .ok (.iload_n 3, 1) := by decide +kernel
theorem dX8_number_24 : decode cX8_number 24 = .ok (.isub, 1) := by decide +kernel
theorem dX8_number_25 : decode cX8_number 25 = .ok (.bipush 7, 2) := by decide +kernel
theorem dX8_number_27 : decode cX8_number 27 = .ok (.if_icmp .ge 36, 3) := by decide +kernel
theorem dX8_number_30 : decode cX8_number 30 = .ok (.bipush 10, 2) := by decide +kernel
theorem dX8_number_32 : decode cX8_number 32 = .ok (.iload 4, 2) := by decide +kernel
theorem dX8_number_34 : decode cX8_number 34 = .ok (.imul, 1) := by decide +kernel
theorem dX8_number_35 : decode cX8_number 35 = .ok (.aload_n 0, 1) := by decide +kernel
theorem dX8_number_36 : decode cX8_number 36 = .ok (.getfield 16, 3) := by decide +kernel
theorem dX8_number_39 : decode cX8_number 39 = .ok (.aload_n 0, 1) := by decide +kernel
theorem dX8_number_40 : decode cX8_number 40 = .ok (.getfield 244, 3) := by decide +kernel
theorem dX8_number_43 : decode cX8_number 43 = .ok (.iaload, 1) := by decide +kernel
theorem dX8_number_44 : decode cX8_number 44 = .ok (.iadd, 1) := by decide +kernel
theorem dX8_number_45 : decode cX8_number 45 = .ok (.bipush 48, 2) := by decide +kernel
theorem dX8_number_47 : decode cX8_number 47 = .ok (.isub, 1) := by decide +kernel
theorem dX8_number_48 : decode cX8_number 48 = .ok (.istore 4, 2) := by decide +kernel
theorem dX8_number_50 : decode cX8_number 50 = .ok (.aload_n 0, 1) := by decide +kernel
theorem dX8_number_51 : decode cX8_number 51 = .ok (.dup, 1) := by decide +kernel
theorem dX8_number_52 : decode cX8_number 52 = .ok (.getfield 244, 3) := by decide +kernel
theorem dX8_number_55 : decode cX8_number 55 = .ok (.iconst 1, 1) := by decide +kernel
theorem dX8_number_56 : decode cX8_number 56 = .ok (.iadd, 1) := by decide +kernel
theorem dX8_number_57 : decode cX8_number 57 = .ok (.putfield 244, 3) := by decide +kernel
theorem dX8_number_60 : decode cX8_number 60 = .ok (.goto (-52), 3) := by decide +kernel
theorem dX8_number_63 : decode cX8_number 63 = .ok (.aload_n 0, 1) := by decide +kernel
theorem dX8_number_64 : decode cX8_number 64 = .ok (.getfield 19, 3) := by decide +kernel
theorem dX8_number_67 : decode cX8_number 67 = .ok (.iload_n 1, 1) := by decide +kernel
theorem dX8_number_68 : decode cX8_number 68 = .ok (.iload 4, 2) := by decide +kernel
theorem dX8_number_70 : decode cX8_number 70 = .ok (.iastore, 1) := by decide +kernel
theorem dX8_number_71 : decode cX8_number 71 = .ok (.aload_n 0, 1) := by decide +kernel
theorem dX8_number_72 : decode cX8_number 72 = .ok (.getfield 244, 3) := by decide +kernel
theorem dX8_number_75 : decode cX8_number 75 = .ok (.iload_n 3, 1) := by decide +kernel
theorem dX8_number_76 : decode cX8_number 76 = .ok (.if_icmp .eq 12, 3) := by decide +kernel
theorem dX8_number_79 : decode cX8_number 79 = .ok (.aload_n 0, 1) := by decide +kernel
theorem dX8_number_80 : decode cX8_number 80 = .ok (.iload_n 2, 1) := by decide +kernel
theorem dX8_number_81 : decode cX8_number 81 = .ok (.iload_n 2, 1) := by decide +kernel
theorem dX8_number_82 : decode cX8_number 82 = .ok (.invokevirtual 247, 3) := by decide +kernel
theorem dX8_number_85 : decode cX8_number 85 = .ok (.ifCond .ne 5, 3) := by decide +kernel
theorem dX8_number_88 : decode cX8_number 88 = .ok (.iconst 0, 1) := by decide +kernel
theorem dX8_number_89 : decode cX8_number 89 = .ok (.ireturn, 1) := by decide +kernel
theorem dX8_number_90 : decode cX8_number 90 = .ok (.aload_n 0, 1) := by decide +kernel
theorem dX8_number_91 : decode cX8_number 91 = .ok (.dup, 1) := by decide +kernel
theorem dX8_number_92 : decode cX8_number 92 = .ok (.getfield 244, 3) := by decide +kernel
theorem dX8_number_95 : decode cX8_number 95 = .ok (.iconst 1, 1) := by decide +kernel
theorem dX8_number_96 : decode cX8_number 96 = .ok (.iadd, 1) := by decide +kernel
theorem dX8_number_97 : decode cX8_number 97 = .ok (.putfield 244, 3) := by decide +kernel
theorem dX8_number_100 : decode cX8_number 100 = .ok (.iconst 1, 1) := by decide +kernel
theorem dX8_number_101 : decode cX8_number 101 = .ok (.ireturn, 1) := by decide +kernel
theorem dX8_numbers_0 : decode cX8_numbers 0 = .ok (.iload_n 0, 1) := by decide +kernel
theorem dX8_numbers_1 : decode cX8_numbers 1 = .ok (.bipush 116, 2) := by decide +kernel
theorem dX8_numbers_3 : decode cX8_numbers 3 = .ok (.if_icmp .ne 7, 3) := by decide +kernel
theorem dX8_numbers_6 : decode cX8_numbers 6 = .ok (.iconst 2, 1) := by decide +kernel
theorem dX8_numbers_7 : decode cX8_numbers 7 = .ok (.goto 30, 3) := by decide +kernel
theorem dX8_numbers_10 : decode cX8_numbers 10 = .ok (.iload_n 0, 1) := by decide +kernel
theorem dX8_numbers_11 : decode cX8_numbers 11 = .ok (.bipush 108, 2) := by decide +kernel
theorem dX8_numbers_13 : decode cX8_numbers 13 = .ok (.if_icmp .ne 7, 3) := by decide +kernel
theorem dX8_numbers_16 : decode cX8_numbers 16 = .ok (.iconst 3, 1) := by decide +kernel
theorem dX8_numbers_17 : decode cX8_numbers 17 = .ok (.goto 20, 3) := by decide +kernel
theorem dX8_numbers_20 : decode cX8_numbers 20 = .ok (.iload_n 0, 1) := by decide +kernel
theorem dX8_numbers_21 : decode cX8_numbers 21 = .ok (.bipush 107, 2) := by decide +kernel
theorem dX8_numbers_23 : decode cX8_numbers 23 = .ok (.if_icmp .eq 9, 3) := by decide +kernel
theorem dX8_numbers_26 : decode cX8_numbers 26 = .ok (.iload_n 0, 1) := by decide +kernel
theorem dX8_numbers_27 : decode cX8_numbers 27 = .ok (.bipush 97, 2) := by decide +kernel
theorem dX8_numbers_29 : decode cX8_numbers 29 = .ok (.if_icmp .ne 7, 3) := by decide +kernel
theorem dX8_numbers_32 : decode cX8_numbers 32 = .ok (.iconst 1, 1) := by decide +kernel
theorem dX8_numbers_33 : decode cX8_numbers 33 = .ok (.goto 4, 3) := by decide +kernel
theorem dX8_numbers_36 : decode cX8_numbers 36 = .ok (.iconst 0, 1) := by decide +kernel
theorem dX8_numbers_37 : decode cX8_numbers 37 = .ok (.ireturn, 1) := by decide +kernel
theorem dX8_reads_0 : decode cX8_reads 0 = .ok (.aload_n 0, 1) := by decide +kernel
theorem dX8_reads_1 : decode cX8_reads 1 = .ok (.getfield 16, 3) := by decide +kernel
theorem dX8_reads_4 : decode cX8_reads 4 = .ok (.aload_n 0, 1) := by decide +kernel
theorem dX8_reads_5 : decode cX8_reads 5 = .ok (.getfield 244, 3) := by decide +kernel
theorem dX8_reads_8 : decode cX8_reads 8 = .ok (.iaload, 1) := by decide +kernel
theorem dX8_reads_9 : decode cX8_reads 9 = .ok (.invokestatic 251, 3) := by decide +kernel
theorem dX8_reads_12 : decode cX8_reads 12 = .ok (.istore_n 1, 1) := by decide +kernel
theorem dX8_reads_13 : decode cX8_reads 13 = .ok (.iload_n 1, 1) := by decide +kernel
theorem dX8_reads_14 : decode cX8_reads 14 = .ok (.ifCond .ne 5, 3) := by decide +kernel
theorem dX8_reads_17 : decode cX8_reads 17 = .ok (.iconst 0, 1) := by decide +kernel
theorem dX8_reads_18 : decode cX8_reads 18 = .ok (.ireturn, 1) := by decide +kernel
theorem dX8_reads_19 : decode cX8_reads 19 = .ok (.aload_n 0, 1) := by decide +kernel
theorem dX8_reads_20 : decode cX8_reads 20 = .ok (.dup, 1) := by decide +kernel
theorem dX8_reads_21 : decode cX8_reads 21 = .ok (.getfield 244, 3) := by decide +kernel
theorem dX8_reads_24 : decode cX8_reads 24 = .ok (.iconst 1, 1) := by decide +kernel
theorem dX8_reads_25 : decode cX8_reads 25 = .ok (.iadd, 1) := by decide +kernel
theorem dX8_reads_26 : decode cX8_reads 26 = .ok (.putfield 244, 3) := by decide +kernel
theorem dX8_reads_29 : decode cX8_reads 29 = .ok (.iconst 1, 1) := by decide +kernel
theorem dX8_reads_30 : decode cX8_reads 30 = .ok (.istore_n 2, 1) := by decide +kernel
theorem dX8_reads_31 : decode cX8_reads 31 = .ok (.iconst 0, 1) := by decide +kernel
theorem dX8_reads_32 : decode cX8_reads 32 = .ok (.istore_n 3, 1) := by decide +kernel
theorem dX8_reads_33 : decode cX8_reads 33 = .ok (.iload_n 3, 1) := by decide +kernel
theorem dX8_reads_34 : decode cX8_reads 34 = .ok (.iload_n 1, 1) := by decide +kernel
theorem dX8_reads_35 : decode cX8_reads 35 = .ok (.if_icmp .ge 33, 3) := by decide +kernel
theorem dX8_reads_38 : decode cX8_reads 38 = .ok (.iload_n 2, 1) := by decide +kernel
theorem dX8_reads_39 : decode cX8_reads 39 = .ok (.ifCond .eq 29, 3) := by decide +kernel
theorem dX8_reads_42 : decode cX8_reads 42 = .ok (.aload_n 0, 1) := by decide +kernel
theorem dX8_reads_43 : decode cX8_reads 43 = .ok (.iload_n 3, 1) := by decide +kernel
theorem dX8_reads_44 : decode cX8_reads 44 = .ok (.iload_n 3, 1) := by decide +kernel
theorem dX8_reads_45 : decode cX8_reads 45 = .ok (.iload_n 1, 1) := by decide +kernel
theorem dX8_reads_46 : decode cX8_reads 46 = .ok (.iconst 1, 1) := by decide +kernel
theorem dX8_reads_47 : decode cX8_reads 47 = .ok (.isub, 1) := by decide +kernel
theorem dX8_reads_48 : decode cX8_reads 48 = .ok (.if_icmp .ne 8, 3) := by decide +kernel
theorem dX8_reads_51 : decode cX8_reads 51 = .ok (.bipush 59, 2) := by decide +kernel
theorem dX8_reads_53 : decode cX8_reads 53 = .ok (.goto 5, 3) := by decide +kernel
theorem dX8_reads_56 : decode cX8_reads 56 = .ok (.bipush 44, 2) := by decide +kernel
theorem dX8_reads_58 : decode cX8_reads 58 = .ok (.invokevirtual 254, 3) := by decide +kernel
theorem dX8_reads_61 : decode cX8_reads 61 = .ok (.istore_n 2, 1) := by decide +kernel
theorem dX8_reads_62 : decode cX8_reads 62 = .ok (.iinc 3 1, 3) := by decide +kernel
theorem dX8_reads_65 : decode cX8_reads 65 = .ok (.goto (-32), 3) := by decide +kernel
theorem dX8_reads_68 : decode cX8_reads 68 = .ok (.iload_n 2, 1) := by decide +kernel
theorem dX8_reads_69 : decode cX8_reads 69 = .ok (.ireturn, 1) := by decide +kernel
theorem dX8_faultAt_0 : decode cX8_faultAt 0 = .ok (.aload_n 0, 1) := by decide +kernel
theorem dX8_faultAt_1 : decode cX8_faultAt 1 = .ok (.iconst 0, 1) := by decide +kernel
theorem dX8_faultAt_2 : decode cX8_faultAt 2 = .ok (.putfield 244, 3) := by decide +kernel
theorem dX8_faultAt_5 : decode cX8_faultAt 5 = .ok (.iconst 1, 1) := by decide +kernel
theorem dX8_faultAt_6 : decode cX8_faultAt 6 = .ok (.istore_n 1, 1) := by decide +kernel
theorem dX8_faultAt_7 : decode cX8_faultAt 7 = .ok (.iload_n 1, 1) := by decide +kernel
theorem dX8_faultAt_8 : decode cX8_faultAt 8 = .ok (.ifCond .eq 22, 3) := by decide +kernel
theorem dX8_faultAt_11 : decode cX8_faultAt 11 = .ok (.aload_n 0, 1) := by decide +kernel
theorem dX8_faultAt_12 : decode cX8_faultAt 12 = .ok (.getfield 244, 3) := by decide +kernel
theorem dX8_faultAt_15 : decode cX8_faultAt 15 = .ok (.aload_n 0, 1) := by decide +kernel
theorem dX8_faultAt_16 : decode cX8_faultAt 16 = .ok (.getfield 241, 3) := by decide +kernel
theorem dX8_faultAt_19 : decode cX8_faultAt 19 = .ok (.if_icmp .ge 11, 3) := by decide +kernel
theorem dX8_faultAt_22 : decode cX8_faultAt 22 = .ok (.aload_n 0, 1) := by decide +kernel
theorem dX8_faultAt_23 : decode cX8_faultAt 23 = .ok (.invokevirtual 257, 3) := by decide +kernel
theorem dX8_faultAt_26 : decode cX8_faultAt 26 = .ok (.istore_n 1, 1) := by decide +kernel
theorem dX8_faultAt_27 : decode cX8_faultAt 27 = .ok (.goto (-20), 3) := by decide +kernel
theorem dX8_faultAt_30 : decode cX8_faultAt 30 = .ok (.iload_n 1, 1) := by decide +kernel
theorem dX8_faultAt_31 : decode cX8_faultAt 31 = .ok (.ifCond .eq 8, 3) := by decide +kernel
theorem dX8_faultAt_34 : decode cX8_faultAt 34 = .ok (.ldc 105, 2) := by decide +kernel
theorem dX8_faultAt_36 : decode cX8_faultAt 36 = .ok (.goto 7, 3) := by decide +kernel
theorem dX8_faultAt_39 : decode cX8_faultAt 39 = .ok (.aload_n 0, 1) := by decide +kernel
theorem dX8_faultAt_40 : decode cX8_faultAt 40 = .ok (.getfield 244, 3) := by decide +kernel
theorem dX8_faultAt_43 : decode cX8_faultAt 43 = .ok (.ireturn, 1) := by decide +kernel
theorem dX8_fault_0 : decode cX8_fault 0 = .ok (.aload_n 0, 1) := by decide +kernel
theorem dX8_fault_1 : decode cX8_fault 1 = .ok (.iconst 0, 1) := by decide +kernel
theorem dX8_fault_2 : decode cX8_fault 2 = .ok (.putfield 22, 3) := by decide +kernel
theorem dX8_fault_5 : decode cX8_fault 5 = .ok (.aload_n 0, 1) := by decide +kernel
theorem dX8_fault_6 : decode cX8_fault 6 = .ok (.invokevirtual 261, 3) := by decide +kernel
theorem dX8_fault_9 : decode cX8_fault 9 = .ok (.ireturn, 1) := by decide +kernel
theorem dX8_does_0 : decode cX8_does 0 = .ok (.iload_n 1, 1) := by decide +kernel
theorem dX8_does_1 : decode cX8_does 1 = .ok (.lookupswitch 95 #[(107, 81), (108, 55), (116, 35)], 35) := by decide +kernel
theorem dX8_does_36 : decode cX8_does 36 = .ok (.aload_n 0, 1) := by decide +kernel
theorem dX8_does_37 : decode cX8_does 37 = .ok (.aload_n 0, 1) := by decide +kernel
theorem dX8_does_38 : decode cX8_does 38 = .ok (.getfield 19, 3) := by decide +kernel
theorem dX8_does_41 : decode cX8_does 41 = .ok (.iconst 0, 1) := by decide +kernel
theorem dX8_does_42 : decode cX8_does 42 = .ok (.iaload, 1) := by decide +kernel
theorem dX8_does_43 : decode cX8_does 43 = .ok (.aload_n 0, 1) := by decide +kernel
theorem dX8_does_44 : decode cX8_does 44 = .ok (.getfield 19, 3) := by decide +kernel
theorem dX8_does_47 : decode cX8_does 47 = .ok (.iconst 1, 1) := by decide +kernel
theorem dX8_does_48 : decode cX8_does 48 = .ok (.iaload, 1) := by decide +kernel
theorem dX8_does_49 : decode cX8_does 49 = .ok (.invokevirtual 265, 3) := by decide +kernel
theorem dX8_does_52 : decode cX8_does 52 = .ok (.pop, 1) := by decide +kernel
theorem dX8_does_53 : decode cX8_does 53 = .ok (.goto 54, 3) := by decide +kernel
theorem dX8_does_56 : decode cX8_does 56 = .ok (.aload_n 0, 1) := by decide +kernel
theorem dX8_does_57 : decode cX8_does 57 = .ok (.aload_n 0, 1) := by decide +kernel
theorem dX8_does_58 : decode cX8_does 58 = .ok (.getfield 19, 3) := by decide +kernel
theorem dX8_does_61 : decode cX8_does 61 = .ok (.iconst 0, 1) := by decide +kernel
theorem dX8_does_62 : decode cX8_does 62 = .ok (.iaload, 1) := by decide +kernel
theorem dX8_does_63 : decode cX8_does 63 = .ok (.aload_n 0, 1) := by decide +kernel
theorem dX8_does_64 : decode cX8_does 64 = .ok (.getfield 19, 3) := by decide +kernel
theorem dX8_does_67 : decode cX8_does 67 = .ok (.iconst 1, 1) := by decide +kernel
theorem dX8_does_68 : decode cX8_does 68 = .ok (.iaload, 1) := by decide +kernel
theorem dX8_does_69 : decode cX8_does 69 = .ok (.aload_n 0, 1) := by decide +kernel
theorem dX8_does_70 : decode cX8_does 70 = .ok (.getfield 19, 3) := by decide +kernel
theorem dX8_does_73 : decode cX8_does 73 = .ok (.iconst 2, 1) := by decide +kernel
theorem dX8_does_74 : decode cX8_does 74 = .ok (.iaload, 1) := by decide +kernel
theorem dX8_does_75 : decode cX8_does 75 = .ok (.invokevirtual 268, 3) := by decide +kernel
theorem dX8_does_78 : decode cX8_does 78 = .ok (.pop, 1) := by decide +kernel
theorem dX8_does_79 : decode cX8_does 79 = .ok (.goto 28, 3) := by decide +kernel
theorem dX8_does_82 : decode cX8_does 82 = .ok (.aload_n 0, 1) := by decide +kernel
theorem dX8_does_83 : decode cX8_does 83 = .ok (.aload_n 0, 1) := by decide +kernel
theorem dX8_does_84 : decode cX8_does 84 = .ok (.getfield 19, 3) := by decide +kernel
theorem dX8_does_87 : decode cX8_does 87 = .ok (.iconst 0, 1) := by decide +kernel
theorem dX8_does_88 : decode cX8_does 88 = .ok (.iaload, 1) := by decide +kernel
theorem dX8_does_89 : decode cX8_does 89 = .ok (.invokevirtual 271, 3) := by decide +kernel
theorem dX8_does_92 : decode cX8_does 92 = .ok (.pop, 1) := by decide +kernel
theorem dX8_does_93 : decode cX8_does 93 = .ok (.goto 14, 3) := by decide +kernel
theorem dX8_does_96 : decode cX8_does 96 = .ok (.aload_n 0, 1) := by decide +kernel
theorem dX8_does_97 : decode cX8_does 97 = .ok (.aload_n 0, 1) := by decide +kernel
theorem dX8_does_98 : decode cX8_does 98 = .ok (.getfield 19, 3) := by decide +kernel
theorem dX8_does_101 : decode cX8_does 101 = .ok (.iconst 0, 1) := by decide +kernel
theorem dX8_does_102 : decode cX8_does 102 = .ok (.iaload, 1) := by decide +kernel
theorem dX8_does_103 : decode cX8_does 103 = .ok (.invokevirtual 274, 3) := by decide +kernel
theorem dX8_does_106 : decode cX8_does 106 = .ok (.pop, 1) := by decide +kernel
theorem dX8_does_107 : decode cX8_does 107 = .ok (.return_, 1) := by decide +kernel
theorem dX8_run_0 : decode cX8_run 0 = .ok (.aload_n 0, 1) := by decide +kernel
theorem dX8_run_1 : decode cX8_run 1 = .ok (.aload_n 0, 1) := by decide +kernel
theorem dX8_run_2 : decode cX8_run 2 = .ok (.invokevirtual 261, 3) := by decide +kernel
theorem dX8_run_5 : decode cX8_run 5 = .ok (.ldc 105, 2) := by decide +kernel
theorem dX8_run_7 : decode cX8_run 7 = .ok (.if_icmp .ne 7, 3) := by decide +kernel
theorem dX8_run_10 : decode cX8_run 10 = .ok (.iconst 0, 1) := by decide +kernel
theorem dX8_run_11 : decode cX8_run 11 = .ok (.goto 4, 3) := by decide +kernel
theorem dX8_run_14 : decode cX8_run 14 = .ok (.iconst 1, 1) := by decide +kernel
theorem dX8_run_15 : decode cX8_run 15 = .ok (.invokevirtual 70, 3) := by decide +kernel
theorem dX8_run_18 : decode cX8_run 18 = .ok (.ifCond .eq 5, 3) := by decide +kernel
theorem dX8_run_21 : decode cX8_run 21 = .ok (.iconst 0, 1) := by decide +kernel
theorem dX8_run_22 : decode cX8_run 22 = .ok (.ireturn, 1) := by decide +kernel
theorem dX8_run_23 : decode cX8_run 23 = .ok (.aload_n 0, 1) := by decide +kernel
theorem dX8_run_24 : decode cX8_run 24 = .ok (.invokevirtual 74, 3) := by decide +kernel
theorem dX8_run_27 : decode cX8_run 27 = .ok (.aload_n 0, 1) := by decide +kernel
theorem dX8_run_28 : decode cX8_run 28 = .ok (.iconst 1, 1) := by decide +kernel
theorem dX8_run_29 : decode cX8_run 29 = .ok (.putfield 26, 3) := by decide +kernel
theorem dX8_run_32 : decode cX8_run 32 = .ok (.iconst 0, 1) := by decide +kernel
theorem dX8_run_33 : decode cX8_run 33 = .ok (.istore_n 1, 1) := by decide +kernel
theorem dX8_run_34 : decode cX8_run 34 = .ok (.aload_n 0, 1) := by decide +kernel
theorem dX8_run_35 : decode cX8_run 35 = .ok (.iconst 0, 1) := by decide +kernel
theorem dX8_run_36 : decode cX8_run 36 = .ok (.putfield 244, 3) := by decide +kernel
theorem dX8_run_39 : decode cX8_run 39 = .ok (.iconst 1, 1) := by decide +kernel
theorem dX8_run_40 : decode cX8_run 40 = .ok (.istore_n 2, 1) := by decide +kernel
theorem dX8_run_41 : decode cX8_run 41 = .ok (.iload_n 2, 1) := by decide +kernel
theorem dX8_run_42 : decode cX8_run 42 = .ok (.ifCond .eq 52, 3) := by decide +kernel
theorem dX8_run_45 : decode cX8_run 45 = .ok (.aload_n 0, 1) := by decide +kernel
theorem dX8_run_46 : decode cX8_run 46 = .ok (.getfield 244, 3) := by decide +kernel
theorem dX8_run_49 : decode cX8_run 49 = .ok (.aload_n 0, 1) := by decide +kernel
theorem dX8_run_50 : decode cX8_run 50 = .ok (.getfield 241, 3) := by decide +kernel
theorem dX8_run_53 : decode cX8_run 53 = .ok (.if_icmp .ge 41, 3) := by decide +kernel
theorem dX8_run_56 : decode cX8_run 56 = .ok (.aload_n 0, 1) := by decide +kernel
theorem dX8_run_57 : decode cX8_run 57 = .ok (.getfield 16, 3) := by decide +kernel
theorem dX8_run_60 : decode cX8_run 60 = .ok (.aload_n 0, 1) := by decide +kernel
theorem dX8_run_61 : decode cX8_run 61 = .ok (.getfield 244, 3) := by decide +kernel
theorem dX8_run_64 : decode cX8_run 64 = .ok (.iaload, 1) := by decide +kernel
theorem dX8_run_65 : decode cX8_run 65 = .ok (.istore_n 3, 1) := by decide +kernel
theorem dX8_run_66 : decode cX8_run 66 = .ok (.aload_n 0, 1) := by decide +kernel
theorem dX8_run_67 : decode cX8_run 67 = .ok (.invokevirtual 257, 3) := by decide +kernel
theorem dX8_run_70 : decode cX8_run 70 = .ok (.istore_n 2, 1) := by decide +kernel
theorem dX8_run_71 : decode cX8_run 71 = .ok (.aload_n 0, 1) := by decide +kernel
theorem dX8_run_72 : decode cX8_run 72 = .ok (.iload_n 3, 1) := by decide +kernel
theorem dX8_run_73 : decode cX8_run 73 = .ok (.invokevirtual 277, 3) := by decide +kernel
theorem dX8_run_76 : decode cX8_run 76 = .ok (.iload_n 1, 1) := by decide +kernel
theorem dX8_run_77 : decode cX8_run 77 = .ok (.aload_n 0, 1) := by decide +kernel
theorem dX8_run_78 : decode cX8_run 78 = .ok (.getfield 22, 3) := by decide +kernel
theorem dX8_run_81 : decode cX8_run 81 = .ok (.ifCond .ne 7, 3) := by decide +kernel
theorem dX8_run_84 : decode cX8_run 84 = .ok (.iconst 1, 1) := by decide +kernel
theorem dX8_run_85 : decode cX8_run 85 = .ok (.goto 4, 3) := by decide +kernel
theorem dX8_run_88 : decode cX8_run 88 = .ok (.iconst 0, 1) := by decide +kernel
theorem dX8_run_89 : decode cX8_run 89 = .ok (.iadd, 1) := by decide +kernel
theorem dX8_run_90 : decode cX8_run 90 = .ok (.istore_n 1, 1) := by decide +kernel
theorem dX8_run_91 : decode cX8_run 91 = .ok (.goto (-50), 3) := by decide +kernel
theorem dX8_run_94 : decode cX8_run 94 = .ok (.aload_n 0, 1) := by decide +kernel
theorem dX8_run_95 : decode cX8_run 95 = .ok (.iconst 0, 1) := by decide +kernel
theorem dX8_run_96 : decode cX8_run 96 = .ok (.putfield 26, 3) := by decide +kernel
theorem dX8_run_99 : decode cX8_run 99 = .ok (.aload_n 0, 1) := by decide +kernel
theorem dX8_run_100 : decode cX8_run 100 = .ok (.iconst 0, 1) := by decide +kernel
theorem dX8_run_101 : decode cX8_run 101 = .ok (.putfield 22, 3) := by decide +kernel
theorem dX8_run_104 : decode cX8_run 104 = .ok (.iload_n 1, 1) := by decide +kernel
theorem dX8_run_105 : decode cX8_run 105 = .ok (.ireturn, 1) := by decide +kernel
theorem dX8_undo_0 : decode cX8_undo 0 = .ok (.aload_n 0, 1) := by decide +kernel
theorem dX8_undo_1 : decode cX8_undo 1 = .ok (.aload_n 0, 1) := by decide +kernel
theorem dX8_undo_2 : decode cX8_undo 2 = .ok (.getfield 30, 3) := by decide +kernel
theorem dX8_undo_5 : decode cX8_undo 5 = .ok (.ifCond .ne 7, 3) := by decide +kernel
theorem dX8_undo_8 : decode cX8_undo 8 = .ok (.iconst 1, 1) := by decide +kernel
theorem dX8_undo_9 : decode cX8_undo 9 = .ok (.goto 4, 3) := by decide +kernel
theorem dX8_undo_12 : decode cX8_undo 12 = .ok (.iconst 0, 1) := by decide +kernel
theorem dX8_undo_13 : decode cX8_undo 13 = .ok (.invokevirtual 70, 3) := by decide +kernel
theorem dX8_undo_16 : decode cX8_undo 16 = .ok (.ifCond .eq 5, 3) := by decide +kernel
theorem dX8_undo_19 : decode cX8_undo 19 = .ok (.iconst 0, 1) := by decide +kernel
theorem dX8_undo_20 : decode cX8_undo 20 = .ok (.ireturn, 1) := by decide +kernel
theorem dX8_undo_21 : decode cX8_undo 21 = .ok (.aload_n 0, 1) := by decide +kernel
theorem dX8_undo_22 : decode cX8_undo 22 = .ok (.dup, 1) := by decide +kernel
theorem dX8_undo_23 : decode cX8_undo 23 = .ok (.getfield 30, 3) := by decide +kernel
theorem dX8_undo_26 : decode cX8_undo 26 = .ok (.iconst 1, 1) := by decide +kernel
theorem dX8_undo_27 : decode cX8_undo 27 = .ok (.isub, 1) := by decide +kernel
theorem dX8_undo_28 : decode cX8_undo 28 = .ok (.putfield 30, 3) := by decide +kernel
theorem dX8_undo_31 : decode cX8_undo 31 = .ok (.iconst 0, 1) := by decide +kernel
theorem dX8_undo_32 : decode cX8_undo 32 = .ok (.istore_n 1, 1) := by decide +kernel
theorem dX8_undo_33 : decode cX8_undo 33 = .ok (.iload_n 1, 1) := by decide +kernel
theorem dX8_undo_34 : decode cX8_undo 34 = .ok (.sipush 214, 3) := by decide +kernel
theorem dX8_undo_37 : decode cX8_undo 37 = .ok (.if_icmp .ge 30, 3) := by decide +kernel
theorem dX8_undo_40 : decode cX8_undo 40 = .ok (.aload_n 0, 1) := by decide +kernel
theorem dX8_undo_41 : decode cX8_undo 41 = .ok (.getfield 7, 3) := by decide +kernel
theorem dX8_undo_44 : decode cX8_undo 44 = .ok (.iload_n 1, 1) := by decide +kernel
theorem dX8_undo_45 : decode cX8_undo 45 = .ok (.aload_n 0, 1) := by decide +kernel
theorem dX8_undo_46 : decode cX8_undo 46 = .ok (.getfield 13, 3) := by decide +kernel
theorem dX8_undo_49 : decode cX8_undo 49 = .ok (.sipush 214, 3) := by decide +kernel
theorem dX8_undo_52 : decode cX8_undo 52 = .ok (.aload_n 0, 1) := by decide +kernel
theorem dX8_undo_53 : decode cX8_undo 53 = .ok (.getfield 30, 3) := by decide +kernel
theorem dX8_undo_56 : decode cX8_undo 56 = .ok (.imul, 1) := by decide +kernel
theorem dX8_undo_57 : decode cX8_undo 57 = .ok (.iload_n 1, 1) := by decide +kernel
theorem dX8_undo_58 : decode cX8_undo 58 = .ok (.iadd, 1) := by decide +kernel
theorem dX8_undo_59 : decode cX8_undo 59 = .ok (.iaload, 1) := by decide +kernel
theorem dX8_undo_60 : decode cX8_undo 60 = .ok (.iastore, 1) := by decide +kernel
theorem dX8_undo_61 : decode cX8_undo 61 = .ok (.iinc 1 1, 3) := by decide +kernel
theorem dX8_undo_64 : decode cX8_undo 64 = .ok (.goto (-31), 3) := by decide +kernel
theorem dX8_undo_67 : decode cX8_undo 67 = .ok (.aload_n 0, 1) := by decide +kernel
theorem dX8_undo_68 : decode cX8_undo 68 = .ok (.getfield 30, 3) := by decide +kernel
theorem dX8_undo_71 : decode cX8_undo 71 = .ok (.ireturn, 1) := by decide +kernel
theorem dX8_say_0 : decode cX8_say 0 = .ok (.aload_n 0, 1) := by decide +kernel
theorem dX8_say_1 : decode cX8_say 1 = .ok (.ldc2_w 281, 3) := by decide +kernel
theorem dX8_say_4 : decode cX8_say 4 = .ok (.aload_n 0, 1) := by decide +kernel
theorem dX8_say_5 : decode cX8_say 5 = .ok (.getfield 283, 3) := by decide +kernel
theorem dX8_say_8 : decode cX8_say 8 = .ok (.lmul, 1) := by decide +kernel
theorem dX8_say_9 : decode cX8_say 9 = .ok (.lload_n 1, 1) := by decide +kernel
theorem dX8_say_10 : decode cX8_say 10 = .ok (.ladd, 1) := by decide +kernel
theorem dX8_say_11 : decode cX8_say 11 = .ok (.putfield 283, 3) := by decide +kernel
theorem dX8_say_14 : decode cX8_say 14 = .ok (.return_, 1) := by decide +kernel
theorem dX8_checksum_0 : decode cX8_checksum 0 = .ok (.aload_n 0, 1) := by decide +kernel
theorem dX8_checksum_1 : decode cX8_checksum 1 = .ok (.iconst 0, 1) := by decide +kernel
theorem dX8_checksum_2 : decode cX8_checksum 2 = .ok (.putfield 22, 3) := by decide +kernel
theorem dX8_checksum_5 : decode cX8_checksum 5 = .ok (.aload_n 0, 1) := by decide +kernel
theorem dX8_checksum_6 : decode cX8_checksum 6 = .ok (.ldc2_w 287, 3) := by decide +kernel
theorem dX8_checksum_9 : decode cX8_checksum 9 = .ok (.putfield 283, 3) := by decide +kernel
theorem dX8_checksum_12 : decode cX8_checksum 12 = .ok (.iconst 0, 1) := by decide +kernel
theorem dX8_checksum_13 : decode cX8_checksum 13 = .ok (.istore_n 1, 1) := by decide +kernel
theorem dX8_checksum_14 : decode cX8_checksum 14 = .ok (.iload_n 1, 1) := by decide +kernel
theorem dX8_checksum_15 : decode cX8_checksum 15 = .ok (.bipush 8, 2) := by decide +kernel
theorem dX8_checksum_17 : decode cX8_checksum 17 = .ok (.if_icmp .ge 19, 3) := by decide +kernel
theorem dX8_checksum_20 : decode cX8_checksum 20 = .ok (.aload_n 0, 1) := by decide +kernel
theorem dX8_checksum_21 : decode cX8_checksum 21 = .ok (.aload_n 0, 1) := by decide +kernel
theorem dX8_checksum_22 : decode cX8_checksum 22 = .ok (.iload_n 1, 1) := by decide +kernel
theorem dX8_checksum_23 : decode cX8_checksum 23 = .ok (.invokevirtual 86, 3) := by decide +kernel
theorem dX8_checksum_26 : decode cX8_checksum 26 = .ok (.i2l, 1) := by decide +kernel
theorem dX8_checksum_27 : decode cX8_checksum 27 = .ok (.invokevirtual 289, 3) := by decide +kernel
theorem dX8_checksum_30 : decode cX8_checksum 30 = .ok (.iinc 1 1, 3) := by decide +kernel
theorem dX8_checksum_33 : decode cX8_checksum 33 = .ok (.goto (-19), 3) := by decide +kernel
theorem dX8_checksum_36 : decode cX8_checksum 36 = .ok (.iconst 0, 1) := by decide +kernel
theorem dX8_checksum_37 : decode cX8_checksum 37 = .ok (.istore_n 1, 1) := by decide +kernel
theorem dX8_checksum_38 : decode cX8_checksum 38 = .ok (.iload_n 1, 1) := by decide +kernel
theorem dX8_checksum_39 : decode cX8_checksum 39 = .ok (.bipush 6, 2) := by decide +kernel
theorem dX8_checksum_41 : decode cX8_checksum 41 = .ok (.aload_n 0, 1) := by decide +kernel
theorem dX8_checksum_42 : decode cX8_checksum 42 = .ok (.getfield 7, 3) := by decide +kernel
theorem dX8_checksum_45 : decode cX8_checksum 45 = .ok (.iconst 3, 1) := by decide +kernel
theorem dX8_checksum_46 : decode cX8_checksum 46 = .ok (.iaload, 1) := by decide +kernel
theorem dX8_checksum_47 : decode cX8_checksum 47 = .ok (.imul, 1) := by decide +kernel
theorem dX8_checksum_48 : decode cX8_checksum 48 = .ok (.if_icmp .ge 26, 3) := by decide +kernel
theorem dX8_checksum_51 : decode cX8_checksum 51 = .ok (.aload_n 0, 1) := by decide +kernel
theorem dX8_checksum_52 : decode cX8_checksum 52 = .ok (.aload_n 0, 1) := by decide +kernel
theorem dX8_checksum_53 : decode cX8_checksum 53 = .ok (.iload_n 1, 1) := by decide +kernel
theorem dX8_checksum_54 : decode cX8_checksum 54 = .ok (.bipush 6, 2) := by decide +kernel
theorem dX8_checksum_56 : decode cX8_checksum 56 = .ok (.idiv, 1) := by decide +kernel
theorem dX8_checksum_57 : decode cX8_checksum 57 = .ok (.iload_n 1, 1) := by decide +kernel
theorem dX8_checksum_58 : decode cX8_checksum 58 = .ok (.bipush 6, 2) := by decide +kernel
theorem dX8_checksum_60 : decode cX8_checksum 60 = .ok (.irem, 1) := by decide +kernel
theorem dX8_checksum_61 : decode cX8_checksum 61 = .ok (.invokevirtual 114, 3) := by decide +kernel
theorem dX8_checksum_64 : decode cX8_checksum 64 = .ok (.i2l, 1) := by decide +kernel
theorem dX8_checksum_65 : decode cX8_checksum 65 = .ok (.invokevirtual 289, 3) := by decide +kernel
theorem dX8_checksum_68 : decode cX8_checksum 68 = .ok (.iinc 1 1, 3) := by decide +kernel
theorem dX8_checksum_71 : decode cX8_checksum 71 = .ok (.goto (-33), 3) := by decide +kernel
theorem dX8_checksum_74 : decode cX8_checksum 74 = .ok (.iconst 0, 1) := by decide +kernel
theorem dX8_checksum_75 : decode cX8_checksum 75 = .ok (.istore_n 1, 1) := by decide +kernel
theorem dX8_checksum_76 : decode cX8_checksum 76 = .ok (.iload_n 1, 1) := by decide +kernel
theorem dX8_checksum_77 : decode cX8_checksum 77 = .ok (.bipush 8, 2) := by decide +kernel
theorem dX8_checksum_79 : decode cX8_checksum 79 = .ok (.aload_n 0, 1) := by decide +kernel
theorem dX8_checksum_80 : decode cX8_checksum 80 = .ok (.getfield 7, 3) := by decide +kernel
theorem dX8_checksum_83 : decode cX8_checksum 83 = .ok (.iconst 4, 1) := by decide +kernel
theorem dX8_checksum_84 : decode cX8_checksum 84 = .ok (.iaload, 1) := by decide +kernel
theorem dX8_checksum_85 : decode cX8_checksum 85 = .ok (.imul, 1) := by decide +kernel
theorem dX8_checksum_86 : decode cX8_checksum 86 = .ok (.if_icmp .ge 26, 3) := by decide +kernel
theorem dX8_checksum_89 : decode cX8_checksum 89 = .ok (.aload_n 0, 1) := by decide +kernel
theorem dX8_checksum_90 : decode cX8_checksum 90 = .ok (.aload_n 0, 1) := by decide +kernel
theorem dX8_checksum_91 : decode cX8_checksum 91 = .ok (.iload_n 1, 1) := by decide +kernel
theorem dX8_checksum_92 : decode cX8_checksum 92 = .ok (.bipush 8, 2) := by decide +kernel
theorem dX8_checksum_94 : decode cX8_checksum 94 = .ok (.idiv, 1) := by decide +kernel
theorem dX8_checksum_95 : decode cX8_checksum 95 = .ok (.iload_n 1, 1) := by decide +kernel
theorem dX8_checksum_96 : decode cX8_checksum 96 = .ok (.bipush 8, 2) := by decide +kernel
theorem dX8_checksum_98 : decode cX8_checksum 98 = .ok (.irem, 1) := by decide +kernel
theorem dX8_checksum_99 : decode cX8_checksum 99 = .ok (.invokevirtual 150, 3) := by decide +kernel
theorem dX8_checksum_102 : decode cX8_checksum 102 = .ok (.i2l, 1) := by decide +kernel
theorem dX8_checksum_103 : decode cX8_checksum 103 = .ok (.invokevirtual 289, 3) := by decide +kernel
theorem dX8_checksum_106 : decode cX8_checksum 106 = .ok (.iinc 1 1, 3) := by decide +kernel
theorem dX8_checksum_109 : decode cX8_checksum 109 = .ok (.goto (-33), 3) := by decide +kernel
theorem dX8_checksum_112 : decode cX8_checksum 112 = .ok (.iconst 0, 1) := by decide +kernel
theorem dX8_checksum_113 : decode cX8_checksum 113 = .ok (.istore_n 1, 1) := by decide +kernel
theorem dX8_checksum_114 : decode cX8_checksum 114 = .ok (.iload_n 1, 1) := by decide +kernel
theorem dX8_checksum_115 : decode cX8_checksum 115 = .ok (.aload_n 0, 1) := by decide +kernel
theorem dX8_checksum_116 : decode cX8_checksum 116 = .ok (.getfield 7, 3) := by decide +kernel
theorem dX8_checksum_119 : decode cX8_checksum 119 = .ok (.iconst 5, 1) := by decide +kernel
theorem dX8_checksum_120 : decode cX8_checksum 120 = .ok (.iaload, 1) := by decide +kernel
theorem dX8_checksum_121 : decode cX8_checksum 121 = .ok (.if_icmp .ge 103, 3) := by decide +kernel
theorem dX8_checksum_124 : decode cX8_checksum 124 = .ok (.iconst 0, 1) := by decide +kernel
theorem dX8_checksum_125 : decode cX8_checksum 125 = .ok (.istore_n 2, 1) := by decide +kernel
theorem dX8_checksum_126 : decode cX8_checksum 126 = .ok (.iload_n 2, 1) := by decide +kernel
theorem dX8_checksum_127 : decode cX8_checksum 127 = .ok (.bipush 10, 2) := by decide +kernel
theorem dX8_checksum_129 : decode cX8_checksum 129 = .ok (.if_icmp .ge 20, 3) := by decide +kernel
theorem dX8_checksum_132 : decode cX8_checksum 132 = .ok (.aload_n 0, 1) := by decide +kernel
theorem dX8_checksum_133 : decode cX8_checksum 133 = .ok (.aload_n 0, 1) := by decide +kernel
theorem dX8_checksum_134 : decode cX8_checksum 134 = .ok (.iload_n 1, 1) := by decide +kernel
theorem dX8_checksum_135 : decode cX8_checksum 135 = .ok (.iload_n 2, 1) := by decide +kernel
theorem dX8_checksum_136 : decode cX8_checksum 136 = .ok (.invokevirtual 208, 3) := by decide +kernel
theorem dX8_checksum_139 : decode cX8_checksum 139 = .ok (.i2l, 1) := by decide +kernel
theorem dX8_checksum_140 : decode cX8_checksum 140 = .ok (.invokevirtual 289, 3) := by decide +kernel
theorem dX8_checksum_143 : decode cX8_checksum 143 = .ok (.iinc 2 1, 3) := by decide +kernel
theorem dX8_checksum_146 : decode cX8_checksum 146 = .ok (.goto (-20), 3) := by decide +kernel
theorem dX8_checksum_149 : decode cX8_checksum 149 = .ok (.iconst 0, 1) := by decide +kernel
theorem dX8_checksum_150 : decode cX8_checksum 150 = .ok (.istore_n 2, 1) := by decide +kernel
theorem dX8_checksum_151 : decode cX8_checksum 151 = .ok (.iload_n 2, 1) := by decide +kernel
theorem dX8_checksum_152 : decode cX8_checksum 152 = .ok (.iconst 5, 1) := by decide +kernel
theorem dX8_checksum_153 : decode cX8_checksum 153 = .ok (.aload_n 0, 1) := by decide +kernel
theorem dX8_checksum_154 : decode cX8_checksum 154 = .ok (.iload_n 1, 1) := by decide +kernel
theorem dX8_checksum_155 : decode cX8_checksum 155 = .ok (.invokevirtual 77, 3) := by decide +kernel
theorem dX8_checksum_158 : decode cX8_checksum 158 = .ok (.imul, 1) := by decide +kernel
theorem dX8_checksum_159 : decode cX8_checksum 159 = .ok (.if_icmp .ge 25, 3) := by decide +kernel
theorem dX8_checksum_162 : decode cX8_checksum 162 = .ok (.aload_n 0, 1) := by decide +kernel
theorem dX8_checksum_163 : decode cX8_checksum 163 = .ok (.aload_n 0, 1) := by decide +kernel
theorem dX8_checksum_164 : decode cX8_checksum 164 = .ok (.iload_n 1, 1) := by decide +kernel
theorem dX8_checksum_165 : decode cX8_checksum 165 = .ok (.iload_n 2, 1) := by decide +kernel
theorem dX8_checksum_166 : decode cX8_checksum 166 = .ok (.iconst 5, 1) := by decide +kernel
theorem dX8_checksum_167 : decode cX8_checksum 167 = .ok (.idiv, 1) := by decide +kernel
theorem dX8_checksum_168 : decode cX8_checksum 168 = .ok (.iload_n 2, 1) := by decide +kernel
theorem dX8_checksum_169 : decode cX8_checksum 169 = .ok (.iconst 5, 1) := by decide +kernel
theorem dX8_checksum_170 : decode cX8_checksum 170 = .ok (.irem, 1) := by decide +kernel
theorem dX8_checksum_171 : decode cX8_checksum 171 = .ok (.invokevirtual 213, 3) := by decide +kernel
theorem dX8_checksum_174 : decode cX8_checksum 174 = .ok (.i2l, 1) := by decide +kernel
theorem dX8_checksum_175 : decode cX8_checksum 175 = .ok (.invokevirtual 289, 3) := by decide +kernel
theorem dX8_checksum_178 : decode cX8_checksum 178 = .ok (.iinc 2 1, 3) := by decide +kernel
theorem dX8_checksum_181 : decode cX8_checksum 181 = .ok (.goto (-30), 3) := by decide +kernel
theorem dX8_checksum_184 : decode cX8_checksum 184 = .ok (.aload_n 0, 1) := by decide +kernel
theorem dX8_checksum_185 : decode cX8_checksum 185 = .ok (.aload_n 0, 1) := by decide +kernel
theorem dX8_checksum_186 : decode cX8_checksum 186 = .ok (.iload_n 1, 1) := by decide +kernel
theorem dX8_checksum_187 : decode cX8_checksum 187 = .ok (.invokevirtual 232, 3) := by decide +kernel
theorem dX8_checksum_190 : decode cX8_checksum 190 = .ok (.i2l, 1) := by decide +kernel
theorem dX8_checksum_191 : decode cX8_checksum 191 = .ok (.invokevirtual 289, 3) := by decide +kernel
theorem dX8_checksum_194 : decode cX8_checksum 194 = .ok (.iconst 0, 1) := by decide +kernel
theorem dX8_checksum_195 : decode cX8_checksum 195 = .ok (.istore_n 2, 1) := by decide +kernel
theorem dX8_checksum_196 : decode cX8_checksum 196 = .ok (.iload_n 2, 1) := by decide +kernel
theorem dX8_checksum_197 : decode cX8_checksum 197 = .ok (.iconst 3, 1) := by decide +kernel
theorem dX8_checksum_198 : decode cX8_checksum 198 = .ok (.if_icmp .ge 20, 3) := by decide +kernel
theorem dX8_checksum_201 : decode cX8_checksum 201 = .ok (.aload_n 0, 1) := by decide +kernel
theorem dX8_checksum_202 : decode cX8_checksum 202 = .ok (.aload_n 0, 1) := by decide +kernel
theorem dX8_checksum_203 : decode cX8_checksum 203 = .ok (.iload_n 1, 1) := by decide +kernel
theorem dX8_checksum_204 : decode cX8_checksum 204 = .ok (.iload_n 2, 1) := by decide +kernel
theorem dX8_checksum_205 : decode cX8_checksum 205 = .ok (.invokevirtual 217, 3) := by decide +kernel
theorem dX8_checksum_208 : decode cX8_checksum 208 = .ok (.i2l, 1) := by decide +kernel
theorem dX8_checksum_209 : decode cX8_checksum 209 = .ok (.invokevirtual 289, 3) := by decide +kernel
theorem dX8_checksum_212 : decode cX8_checksum 212 = .ok (.iinc 2 1, 3) := by decide +kernel
theorem dX8_checksum_215 : decode cX8_checksum 215 = .ok (.goto (-19), 3) := by decide +kernel
theorem dX8_checksum_218 : decode cX8_checksum 218 = .ok (.iinc 1 1, 3) := by decide +kernel
theorem dX8_checksum_221 : decode cX8_checksum 221 = .ok (.goto (-107), 3) := by decide +kernel
theorem dX8_checksum_224 : decode cX8_checksum 224 = .ok (.aload_n 0, 1) := by decide +kernel
theorem dX8_checksum_225 : decode cX8_checksum 225 = .ok (.aload_n 0, 1) := by decide +kernel
theorem dX8_checksum_226 : decode cX8_checksum 226 = .ok (.getfield 241, 3) := by decide +kernel
theorem dX8_checksum_229 : decode cX8_checksum 229 = .ok (.i2l, 1) := by decide +kernel
theorem dX8_checksum_230 : decode cX8_checksum 230 = .ok (.invokevirtual 289, 3) := by decide +kernel
theorem dX8_checksum_233 : decode cX8_checksum 233 = .ok (.aload_n 0, 1) := by decide +kernel
theorem dX8_checksum_234 : decode cX8_checksum 234 = .ok (.aload_n 0, 1) := by decide +kernel
theorem dX8_checksum_235 : decode cX8_checksum 235 = .ok (.getfield 30, 3) := by decide +kernel
theorem dX8_checksum_238 : decode cX8_checksum 238 = .ok (.i2l, 1) := by decide +kernel
theorem dX8_checksum_239 : decode cX8_checksum 239 = .ok (.invokevirtual 289, 3) := by decide +kernel
theorem dX8_checksum_242 : decode cX8_checksum 242 = .ok (.aload_n 0, 1) := by decide +kernel
theorem dX8_checksum_243 : decode cX8_checksum 243 = .ok (.getfield 283, 3) := by decide +kernel
theorem dX8_checksum_246 : decode cX8_checksum 246 = .ok (.lreturn, 1) := by decide +kernel
theorem dL_set_0 : decode cL_set 0 = .ok (.aload_n 3, 1) := by decide +kernel
theorem dL_set_1 : decode cL_set 1 = .ok (.iconst 0, 1) := by decide +kernel
theorem dL_set_2 : decode cL_set 2 = .ok (.aload_n 0, 1) := by decide +kernel
theorem dL_set_3 : decode cL_set 3 = .ok (.iload_n 1, 1) := by decide +kernel
theorem dL_set_4 : decode cL_set 4 = .ok (.iload_n 2, 1) := by decide +kernel
theorem dL_set_5 : decode cL_set 5 = .ok (.invokevirtual 7, 3) := by decide +kernel
theorem dL_set_8 : decode cL_set 8 = .ok (.i2l, 1) := by decide +kernel
theorem dL_set_9 : decode cL_set 9 = .ok (.lastore, 1) := by decide +kernel
theorem dL_set_10 : decode cL_set 10 = .ok (.goto 7, 3) := by decide +kernel
theorem dL_set_13 : decode cL_set 13 = .ok (.astore 4, 2) := by decide +kernel
theorem dL_set_15 : decode cL_set 15 = .ok (.iconst 1, 1) := by decide +kernel
theorem dL_set_16 : decode cL_set 16 = .ok (.ireturn, 1) := by decide +kernel
theorem dL_set_17 : decode cL_set 17 = .ok (.iconst 0, 1) := by decide +kernel
theorem dL_set_18 : decode cL_set 18 = .ok (.ireturn, 1) := by decide +kernel
theorem dL_info_0 : decode cL_info 0 = .ok (.aload_n 2, 1) := by decide +kernel
theorem dL_info_1 : decode cL_info 1 = .ok (.iconst 0, 1) := by decide +kernel
theorem dL_info_2 : decode cL_info 2 = .ok (.aload_n 0, 1) := by decide +kernel
theorem dL_info_3 : decode cL_info 3 = .ok (.iload_n 1, 1) := by decide +kernel
theorem dL_info_4 : decode cL_info 4 = .ok (.invokevirtual 15, 3) := by decide +kernel
theorem dL_info_7 : decode cL_info 7 = .ok (.i2l, 1) := by decide +kernel
theorem dL_info_8 : decode cL_info 8 = .ok (.lastore, 1) := by decide +kernel
theorem dL_info_9 : decode cL_info 9 = .ok (.goto 6, 3) := by decide +kernel
theorem dL_info_12 : decode cL_info 12 = .ok (.astore_n 3, 1) := by decide +kernel
theorem dL_info_13 : decode cL_info 13 = .ok (.iconst 1, 1) := by decide +kernel
theorem dL_info_14 : decode cL_info 14 = .ok (.ireturn, 1) := by decide +kernel
theorem dL_info_15 : decode cL_info 15 = .ok (.iconst 0, 1) := by decide +kernel
theorem dL_info_16 : decode cL_info 16 = .ok (.ireturn, 1) := by decide +kernel
theorem dL_hang_0 : decode cL_hang 0 = .ok (.aload_n 3, 1) := by decide +kernel
theorem dL_hang_1 : decode cL_hang 1 = .ok (.iconst 0, 1) := by decide +kernel
theorem dL_hang_2 : decode cL_hang 2 = .ok (.aload_n 0, 1) := by decide +kernel
theorem dL_hang_3 : decode cL_hang 3 = .ok (.iload_n 1, 1) := by decide +kernel
theorem dL_hang_4 : decode cL_hang 4 = .ok (.iload_n 2, 1) := by decide +kernel
theorem dL_hang_5 : decode cL_hang 5 = .ok (.invokevirtual 19, 3) := by decide +kernel
theorem dL_hang_8 : decode cL_hang 8 = .ok (.i2l, 1) := by decide +kernel
theorem dL_hang_9 : decode cL_hang 9 = .ok (.lastore, 1) := by decide +kernel
theorem dL_hang_10 : decode cL_hang 10 = .ok (.goto 11, 3) := by decide +kernel
theorem dL_hang_13 : decode cL_hang 13 = .ok (.astore 4, 2) := by decide +kernel
theorem dL_hang_15 : decode cL_hang 15 = .ok (.iconst 1, 1) := by decide +kernel
theorem dL_hang_16 : decode cL_hang 16 = .ok (.ireturn, 1) := by decide +kernel
theorem dL_hang_17 : decode cL_hang 17 = .ok (.astore 4, 2) := by decide +kernel
theorem dL_hang_19 : decode cL_hang 19 = .ok (.iconst 2, 1) := by decide +kernel
theorem dL_hang_20 : decode cL_hang 20 = .ok (.ireturn, 1) := by decide +kernel
theorem dL_hang_21 : decode cL_hang 21 = .ok (.iconst 0, 1) := by decide +kernel
theorem dL_hang_22 : decode cL_hang 22 = .ok (.ireturn, 1) := by decide +kernel
theorem dL_swing_0 : decode cL_swing 0 = .ok (.aload_n 3, 1) := by decide +kernel
theorem dL_swing_1 : decode cL_swing 1 = .ok (.iconst 0, 1) := by decide +kernel
theorem dL_swing_2 : decode cL_swing 2 = .ok (.aload_n 0, 1) := by decide +kernel
theorem dL_swing_3 : decode cL_swing 3 = .ok (.iload_n 1, 1) := by decide +kernel
theorem dL_swing_4 : decode cL_swing 4 = .ok (.iload_n 2, 1) := by decide +kernel
theorem dL_swing_5 : decode cL_swing 5 = .ok (.invokevirtual 24, 3) := by decide +kernel
theorem dL_swing_8 : decode cL_swing 8 = .ok (.i2l, 1) := by decide +kernel
theorem dL_swing_9 : decode cL_swing 9 = .ok (.lastore, 1) := by decide +kernel
theorem dL_swing_10 : decode cL_swing 10 = .ok (.goto 15, 3) := by decide +kernel
theorem dL_swing_13 : decode cL_swing 13 = .ok (.astore 4, 2) := by decide +kernel
theorem dL_swing_15 : decode cL_swing 15 = .ok (.iconst 1, 1) := by decide +kernel
theorem dL_swing_16 : decode cL_swing 16 = .ok (.ireturn, 1) := by decide +kernel
theorem dL_swing_17 : decode cL_swing 17 = .ok (.astore 4, 2) := by decide +kernel
theorem dL_swing_19 : decode cL_swing 19 = .ok (.iconst 2, 1) := by decide +kernel
theorem dL_swing_20 : decode cL_swing 20 = .ok (.ireturn, 1) := by decide +kernel
theorem dL_swing_21 : decode cL_swing 21 = .ok (.astore 4, 2) := by decide +kernel
theorem dL_swing_23 : decode cL_swing 23 = .ok (.iconst 3, 1) := by decide +kernel
theorem dL_swing_24 : decode cL_swing 24 = .ok (.ireturn, 1) := by decide +kernel
theorem dL_swing_25 : decode cL_swing 25 = .ok (.iconst 0, 1) := by decide +kernel
theorem dL_swing_26 : decode cL_swing 26 = .ok (.ireturn, 1) := by decide +kernel
theorem dL_still_0 : decode cL_still 0 = .ok (.aload_n 2, 1) := by decide +kernel
theorem dL_still_1 : decode cL_still 1 = .ok (.iconst 0, 1) := by decide +kernel
theorem dL_still_2 : decode cL_still 2 = .ok (.aload_n 0, 1) := by decide +kernel
theorem dL_still_3 : decode cL_still 3 = .ok (.iload_n 1, 1) := by decide +kernel
theorem dL_still_4 : decode cL_still 4 = .ok (.invokevirtual 29, 3) := by decide +kernel
theorem dL_still_7 : decode cL_still 7 = .ok (.i2l, 1) := by decide +kernel
theorem dL_still_8 : decode cL_still 8 = .ok (.lastore, 1) := by decide +kernel
theorem dL_still_9 : decode cL_still 9 = .ok (.goto 6, 3) := by decide +kernel
theorem dL_still_12 : decode cL_still 12 = .ok (.astore_n 3, 1) := by decide +kernel
theorem dL_still_13 : decode cL_still 13 = .ok (.iconst 1, 1) := by decide +kernel
theorem dL_still_14 : decode cL_still 14 = .ok (.ireturn, 1) := by decide +kernel
theorem dL_still_15 : decode cL_still 15 = .ok (.iconst 0, 1) := by decide +kernel
theorem dL_still_16 : decode cL_still 16 = .ok (.ireturn, 1) := by decide +kernel
theorem dL_wire_0 : decode cL_wire 0 = .ok (.aload_n 3, 1) := by decide +kernel
theorem dL_wire_1 : decode cL_wire 1 = .ok (.iconst 0, 1) := by decide +kernel
theorem dL_wire_2 : decode cL_wire 2 = .ok (.aload_n 0, 1) := by decide +kernel
theorem dL_wire_3 : decode cL_wire 3 = .ok (.iload_n 1, 1) := by decide +kernel
theorem dL_wire_4 : decode cL_wire 4 = .ok (.iload_n 2, 1) := by decide +kernel
theorem dL_wire_5 : decode cL_wire 5 = .ok (.invokevirtual 32, 3) := by decide +kernel
theorem dL_wire_8 : decode cL_wire 8 = .ok (.i2l, 1) := by decide +kernel
theorem dL_wire_9 : decode cL_wire 9 = .ok (.lastore, 1) := by decide +kernel
theorem dL_wire_10 : decode cL_wire 10 = .ok (.goto 11, 3) := by decide +kernel
theorem dL_wire_13 : decode cL_wire 13 = .ok (.astore 4, 2) := by decide +kernel
theorem dL_wire_15 : decode cL_wire 15 = .ok (.iconst 1, 1) := by decide +kernel
theorem dL_wire_16 : decode cL_wire 16 = .ok (.ireturn, 1) := by decide +kernel
theorem dL_wire_17 : decode cL_wire 17 = .ok (.astore 4, 2) := by decide +kernel
theorem dL_wire_19 : decode cL_wire 19 = .ok (.iconst 2, 1) := by decide +kernel
theorem dL_wire_20 : decode cL_wire 20 = .ok (.ireturn, 1) := by decide +kernel
theorem dL_wire_21 : decode cL_wire 21 = .ok (.iconst 0, 1) := by decide +kernel
theorem dL_wire_22 : decode cL_wire 22 = .ok (.ireturn, 1) := by decide +kernel
theorem dL_join_0 : decode cL_join 0 = .ok (.aload 7, 2) := by decide +kernel
theorem dL_join_2 : decode cL_join 2 = .ok (.iconst 0, 1) := by decide +kernel
theorem dL_join_3 : decode cL_join 3 = .ok (.aload_n 0, 1) := by decide +kernel
theorem dL_join_4 : decode cL_join 4 = .ok (.iload_n 1, 1) := by decide +kernel
theorem dL_join_5 : decode cL_join 5 = .ok (.iload_n 2, 1) := by decide +kernel
theorem dL_join_6 : decode cL_join 6 = .ok (.iload_n 3, 1) := by decide +kernel
theorem dL_join_7 : decode cL_join 7 = .ok (.iload 4, 2) := by decide +kernel
theorem dL_join_9 : decode cL_join 9 = .ok (.iload 5, 2) := by decide +kernel
theorem dL_join_11 : decode cL_join 11 = .ok (.iload 6, 2) := by decide +kernel
theorem dL_join_13 : decode cL_join 13 = .ok (.invokevirtual 35, 3) := by decide +kernel
theorem dL_join_16 : decode cL_join 16 = .ok (.i2l, 1) := by decide +kernel
theorem dL_join_17 : decode cL_join 17 = .ok (.lastore, 1) := by decide +kernel
theorem dL_join_18 : decode cL_join 18 = .ok (.goto 15, 3) := by decide +kernel
theorem dL_join_21 : decode cL_join 21 = .ok (.astore 8, 2) := by decide +kernel
theorem dL_join_23 : decode cL_join 23 = .ok (.iconst 1, 1) := by decide +kernel
theorem dL_join_24 : decode cL_join 24 = .ok (.ireturn, 1) := by decide +kernel
theorem dL_join_25 : decode cL_join 25 = .ok (.astore 8, 2) := by decide +kernel
theorem dL_join_27 : decode cL_join 27 = .ok (.iconst 2, 1) := by decide +kernel
theorem dL_join_28 : decode cL_join 28 = .ok (.ireturn, 1) := by decide +kernel
theorem dL_join_29 : decode cL_join 29 = .ok (.astore 8, 2) := by decide +kernel
theorem dL_join_31 : decode cL_join 31 = .ok (.iconst 3, 1) := by decide +kernel
theorem dL_join_32 : decode cL_join 32 = .ok (.ireturn, 1) := by decide +kernel
theorem dL_join_33 : decode cL_join 33 = .ok (.iconst 0, 1) := by decide +kernel
theorem dL_join_34 : decode cL_join 34 = .ok (.ireturn, 1) := by decide +kernel
theorem dL_measure_0 : decode cL_measure 0 = .ok (.aload_n 3, 1) := by decide +kernel
theorem dL_measure_1 : decode cL_measure 1 = .ok (.iconst 0, 1) := by decide +kernel
theorem dL_measure_2 : decode cL_measure 2 = .ok (.aload_n 0, 1) := by decide +kernel
theorem dL_measure_3 : decode cL_measure 3 = .ok (.iload_n 1, 1) := by decide +kernel
theorem dL_measure_4 : decode cL_measure 4 = .ok (.iload_n 2, 1) := by decide +kernel
theorem dL_measure_5 : decode cL_measure 5 = .ok (.invokevirtual 39, 3) := by decide +kernel
theorem dL_measure_8 : decode cL_measure 8 = .ok (.i2l, 1) := by decide +kernel
theorem dL_measure_9 : decode cL_measure 9 = .ok (.lastore, 1) := by decide +kernel
theorem dL_measure_10 : decode cL_measure 10 = .ok (.goto 11, 3) := by decide +kernel
theorem dL_measure_13 : decode cL_measure 13 = .ok (.astore 4, 2) := by decide +kernel
theorem dL_measure_15 : decode cL_measure 15 = .ok (.iconst 1, 1) := by decide +kernel
theorem dL_measure_16 : decode cL_measure 16 = .ok (.ireturn, 1) := by decide +kernel
theorem dL_measure_17 : decode cL_measure 17 = .ok (.astore 4, 2) := by decide +kernel
theorem dL_measure_19 : decode cL_measure 19 = .ok (.iconst 2, 1) := by decide +kernel
theorem dL_measure_20 : decode cL_measure 20 = .ok (.ireturn, 1) := by decide +kernel
theorem dL_measure_21 : decode cL_measure 21 = .ok (.iconst 0, 1) := by decide +kernel
theorem dL_measure_22 : decode cL_measure 22 = .ok (.ireturn, 1) := by decide +kernel
theorem dL_joinOf_0 : decode cL_joinOf 0 = .ok (.aload_n 3, 1) := by decide +kernel
theorem dL_joinOf_1 : decode cL_joinOf 1 = .ok (.iconst 0, 1) := by decide +kernel
theorem dL_joinOf_2 : decode cL_joinOf 2 = .ok (.aload_n 0, 1) := by decide +kernel
theorem dL_joinOf_3 : decode cL_joinOf 3 = .ok (.iload_n 1, 1) := by decide +kernel
theorem dL_joinOf_4 : decode cL_joinOf 4 = .ok (.iload_n 2, 1) := by decide +kernel
theorem dL_joinOf_5 : decode cL_joinOf 5 = .ok (.invokevirtual 42, 3) := by decide +kernel
theorem dL_joinOf_8 : decode cL_joinOf 8 = .ok (.i2l, 1) := by decide +kernel
theorem dL_joinOf_9 : decode cL_joinOf 9 = .ok (.lastore, 1) := by decide +kernel
theorem dL_joinOf_10 : decode cL_joinOf 10 = .ok (.goto 11, 3) := by decide +kernel
theorem dL_joinOf_13 : decode cL_joinOf 13 = .ok (.astore 4, 2) := by decide +kernel
theorem dL_joinOf_15 : decode cL_joinOf 15 = .ok (.iconst 1, 1) := by decide +kernel
theorem dL_joinOf_16 : decode cL_joinOf 16 = .ok (.ireturn, 1) := by decide +kernel
theorem dL_joinOf_17 : decode cL_joinOf 17 = .ok (.astore 4, 2) := by decide +kernel
theorem dL_joinOf_19 : decode cL_joinOf 19 = .ok (.iconst 2, 1) := by decide +kernel
theorem dL_joinOf_20 : decode cL_joinOf 20 = .ok (.ireturn, 1) := by decide +kernel
theorem dL_joinOf_21 : decode cL_joinOf 21 = .ok (.iconst 0, 1) := by decide +kernel
theorem dL_joinOf_22 : decode cL_joinOf 22 = .ok (.ireturn, 1) := by decide +kernel
theorem dL_begin_0 : decode cL_begin 0 = .ok (.aload_n 2, 1) := by decide +kernel
theorem dL_begin_1 : decode cL_begin 1 = .ok (.iconst 0, 1) := by decide +kernel
theorem dL_begin_2 : decode cL_begin 2 = .ok (.aload_n 0, 1) := by decide +kernel
theorem dL_begin_3 : decode cL_begin 3 = .ok (.iload_n 1, 1) := by decide +kernel
theorem dL_begin_4 : decode cL_begin 4 = .ok (.invokevirtual 45, 3) := by decide +kernel
theorem dL_begin_7 : decode cL_begin 7 = .ok (.i2l, 1) := by decide +kernel
theorem dL_begin_8 : decode cL_begin 8 = .ok (.lastore, 1) := by decide +kernel
theorem dL_begin_9 : decode cL_begin 9 = .ok (.goto 9, 3) := by decide +kernel
theorem dL_begin_12 : decode cL_begin 12 = .ok (.astore_n 3, 1) := by decide +kernel
theorem dL_begin_13 : decode cL_begin 13 = .ok (.iconst 1, 1) := by decide +kernel
theorem dL_begin_14 : decode cL_begin 14 = .ok (.ireturn, 1) := by decide +kernel
theorem dL_begin_15 : decode cL_begin 15 = .ok (.astore_n 3, 1) := by decide +kernel
theorem dL_begin_16 : decode cL_begin 16 = .ok (.iconst 2, 1) := by decide +kernel
theorem dL_begin_17 : decode cL_begin 17 = .ok (.ireturn, 1) := by decide +kernel
theorem dL_begin_18 : decode cL_begin 18 = .ok (.iconst 0, 1) := by decide +kernel
theorem dL_begin_19 : decode cL_begin 19 = .ok (.ireturn, 1) := by decide +kernel
theorem dL_addLeg_0 : decode cL_addLeg 0 = .ok (.aload 4, 2) := by decide +kernel
theorem dL_addLeg_2 : decode cL_addLeg 2 = .ok (.iconst 0, 1) := by decide +kernel
theorem dL_addLeg_3 : decode cL_addLeg 3 = .ok (.aload_n 0, 1) := by decide +kernel
theorem dL_addLeg_4 : decode cL_addLeg 4 = .ok (.iload_n 1, 1) := by decide +kernel
theorem dL_addLeg_5 : decode cL_addLeg 5 = .ok (.iload_n 2, 1) := by decide +kernel
theorem dL_addLeg_6 : decode cL_addLeg 6 = .ok (.iload_n 3, 1) := by decide +kernel
theorem dL_addLeg_7 : decode cL_addLeg 7 = .ok (.invokevirtual 48, 3) := by decide +kernel
theorem dL_addLeg_10 : decode cL_addLeg 10 = .ok (.i2l, 1) := by decide +kernel
theorem dL_addLeg_11 : decode cL_addLeg 11 = .ok (.lastore, 1) := by decide +kernel
theorem dL_addLeg_12 : decode cL_addLeg 12 = .ok (.goto 15, 3) := by decide +kernel
theorem dL_addLeg_15 : decode cL_addLeg 15 = .ok (.astore 5, 2) := by decide +kernel
theorem dL_addLeg_17 : decode cL_addLeg 17 = .ok (.iconst 1, 1) := by decide +kernel
theorem dL_addLeg_18 : decode cL_addLeg 18 = .ok (.ireturn, 1) := by decide +kernel
theorem dL_addLeg_19 : decode cL_addLeg 19 = .ok (.astore 5, 2) := by decide +kernel
theorem dL_addLeg_21 : decode cL_addLeg 21 = .ok (.iconst 2, 1) := by decide +kernel
theorem dL_addLeg_22 : decode cL_addLeg 22 = .ok (.ireturn, 1) := by decide +kernel
theorem dL_addLeg_23 : decode cL_addLeg 23 = .ok (.astore 5, 2) := by decide +kernel
theorem dL_addLeg_25 : decode cL_addLeg 25 = .ok (.iconst 3, 1) := by decide +kernel
theorem dL_addLeg_26 : decode cL_addLeg 26 = .ok (.ireturn, 1) := by decide +kernel
theorem dL_addLeg_27 : decode cL_addLeg 27 = .ok (.iconst 0, 1) := by decide +kernel
theorem dL_addLeg_28 : decode cL_addLeg 28 = .ok (.ireturn, 1) := by decide +kernel
theorem dL_dropLeg_0 : decode cL_dropLeg 0 = .ok (.aload_n 2, 1) := by decide +kernel
theorem dL_dropLeg_1 : decode cL_dropLeg 1 = .ok (.iconst 0, 1) := by decide +kernel
theorem dL_dropLeg_2 : decode cL_dropLeg 2 = .ok (.aload_n 0, 1) := by decide +kernel
theorem dL_dropLeg_3 : decode cL_dropLeg 3 = .ok (.iload_n 1, 1) := by decide +kernel
theorem dL_dropLeg_4 : decode cL_dropLeg 4 = .ok (.invokevirtual 52, 3) := by decide +kernel
theorem dL_dropLeg_7 : decode cL_dropLeg 7 = .ok (.i2l, 1) := by decide +kernel
theorem dL_dropLeg_8 : decode cL_dropLeg 8 = .ok (.lastore, 1) := by decide +kernel
theorem dL_dropLeg_9 : decode cL_dropLeg 9 = .ok (.goto 9, 3) := by decide +kernel
theorem dL_dropLeg_12 : decode cL_dropLeg 12 = .ok (.astore_n 3, 1) := by decide +kernel
theorem dL_dropLeg_13 : decode cL_dropLeg 13 = .ok (.iconst 1, 1) := by decide +kernel
theorem dL_dropLeg_14 : decode cL_dropLeg 14 = .ok (.ireturn, 1) := by decide +kernel
theorem dL_dropLeg_15 : decode cL_dropLeg 15 = .ok (.astore_n 3, 1) := by decide +kernel
theorem dL_dropLeg_16 : decode cL_dropLeg 16 = .ok (.iconst 2, 1) := by decide +kernel
theorem dL_dropLeg_17 : decode cL_dropLeg 17 = .ok (.ireturn, 1) := by decide +kernel
theorem dL_dropLeg_18 : decode cL_dropLeg 18 = .ok (.iconst 0, 1) := by decide +kernel
theorem dL_dropLeg_19 : decode cL_dropLeg 19 = .ok (.ireturn, 1) := by decide +kernel
theorem dL_close_0 : decode cL_close 0 = .ok (.aload 4, 2) := by decide +kernel
theorem dL_close_2 : decode cL_close 2 = .ok (.iconst 0, 1) := by decide +kernel
theorem dL_close_3 : decode cL_close 3 = .ok (.aload_n 0, 1) := by decide +kernel
theorem dL_close_4 : decode cL_close 4 = .ok (.iload_n 1, 1) := by decide +kernel
theorem dL_close_5 : decode cL_close 5 = .ok (.iload_n 2, 1) := by decide +kernel
theorem dL_close_6 : decode cL_close 6 = .ok (.iload_n 3, 1) := by decide +kernel
theorem dL_close_7 : decode cL_close 7 = .ok (.invokevirtual 55, 3) := by decide +kernel
theorem dL_close_10 : decode cL_close 10 = .ok (.i2l, 1) := by decide +kernel
theorem dL_close_11 : decode cL_close 11 = .ok (.lastore, 1) := by decide +kernel
theorem dL_close_12 : decode cL_close 12 = .ok (.goto 15, 3) := by decide +kernel
theorem dL_close_15 : decode cL_close 15 = .ok (.astore 5, 2) := by decide +kernel
theorem dL_close_17 : decode cL_close 17 = .ok (.iconst 1, 1) := by decide +kernel
theorem dL_close_18 : decode cL_close 18 = .ok (.ireturn, 1) := by decide +kernel
theorem dL_close_19 : decode cL_close 19 = .ok (.astore 5, 2) := by decide +kernel
theorem dL_close_21 : decode cL_close 21 = .ok (.iconst 2, 1) := by decide +kernel
theorem dL_close_22 : decode cL_close 22 = .ok (.ireturn, 1) := by decide +kernel
theorem dL_close_23 : decode cL_close 23 = .ok (.astore 5, 2) := by decide +kernel
theorem dL_close_25 : decode cL_close 25 = .ok (.iconst 3, 1) := by decide +kernel
theorem dL_close_26 : decode cL_close 26 = .ok (.ireturn, 1) := by decide +kernel
theorem dL_close_27 : decode cL_close 27 = .ok (.iconst 0, 1) := by decide +kernel
theorem dL_close_28 : decode cL_close 28 = .ok (.ireturn, 1) := by decide +kernel
theorem dL_adjust_0 : decode cL_adjust 0 = .ok (.aload_n 2, 1) := by decide +kernel
theorem dL_adjust_1 : decode cL_adjust 1 = .ok (.iconst 0, 1) := by decide +kernel
theorem dL_adjust_2 : decode cL_adjust 2 = .ok (.aload_n 0, 1) := by decide +kernel
theorem dL_adjust_3 : decode cL_adjust 3 = .ok (.iload_n 1, 1) := by decide +kernel
theorem dL_adjust_4 : decode cL_adjust 4 = .ok (.invokevirtual 58, 3) := by decide +kernel
theorem dL_adjust_7 : decode cL_adjust 7 = .ok (.i2l, 1) := by decide +kernel
theorem dL_adjust_8 : decode cL_adjust 8 = .ok (.lastore, 1) := by decide +kernel
theorem dL_adjust_9 : decode cL_adjust 9 = .ok (.goto 9, 3) := by decide +kernel
theorem dL_adjust_12 : decode cL_adjust 12 = .ok (.astore_n 3, 1) := by decide +kernel
theorem dL_adjust_13 : decode cL_adjust 13 = .ok (.iconst 1, 1) := by decide +kernel
theorem dL_adjust_14 : decode cL_adjust 14 = .ok (.ireturn, 1) := by decide +kernel
theorem dL_adjust_15 : decode cL_adjust 15 = .ok (.astore_n 3, 1) := by decide +kernel
theorem dL_adjust_16 : decode cL_adjust 16 = .ok (.iconst 2, 1) := by decide +kernel
theorem dL_adjust_17 : decode cL_adjust 17 = .ok (.ireturn, 1) := by decide +kernel
theorem dL_adjust_18 : decode cL_adjust 18 = .ok (.iconst 0, 1) := by decide +kernel
theorem dL_adjust_19 : decode cL_adjust 19 = .ok (.ireturn, 1) := by decide +kernel
theorem dL_traverse_0 : decode cL_traverse 0 = .ok (.aload_n 3, 1) := by decide +kernel
theorem dL_traverse_1 : decode cL_traverse 1 = .ok (.iconst 0, 1) := by decide +kernel
theorem dL_traverse_2 : decode cL_traverse 2 = .ok (.aload_n 0, 1) := by decide +kernel
theorem dL_traverse_3 : decode cL_traverse 3 = .ok (.iload_n 1, 1) := by decide +kernel
theorem dL_traverse_4 : decode cL_traverse 4 = .ok (.iload_n 2, 1) := by decide +kernel
theorem dL_traverse_5 : decode cL_traverse 5 = .ok (.invokevirtual 61, 3) := by decide +kernel
theorem dL_traverse_8 : decode cL_traverse 8 = .ok (.i2l, 1) := by decide +kernel
theorem dL_traverse_9 : decode cL_traverse 9 = .ok (.lastore, 1) := by decide +kernel
theorem dL_traverse_10 : decode cL_traverse 10 = .ok (.goto 11, 3) := by decide +kernel
theorem dL_traverse_13 : decode cL_traverse 13 = .ok (.astore 4, 2) := by decide +kernel
theorem dL_traverse_15 : decode cL_traverse 15 = .ok (.iconst 1, 1) := by decide +kernel
theorem dL_traverse_16 : decode cL_traverse 16 = .ok (.ireturn, 1) := by decide +kernel
theorem dL_traverse_17 : decode cL_traverse 17 = .ok (.astore 4, 2) := by decide +kernel
theorem dL_traverse_19 : decode cL_traverse 19 = .ok (.iconst 2, 1) := by decide +kernel
theorem dL_traverse_20 : decode cL_traverse 20 = .ok (.ireturn, 1) := by decide +kernel
theorem dL_traverse_21 : decode cL_traverse 21 = .ok (.iconst 0, 1) := by decide +kernel
theorem dL_traverse_22 : decode cL_traverse 22 = .ok (.ireturn, 1) := by decide +kernel
theorem dL_leg_0 : decode cL_leg 0 = .ok (.aload 4, 2) := by decide +kernel
theorem dL_leg_2 : decode cL_leg 2 = .ok (.iconst 0, 1) := by decide +kernel
theorem dL_leg_3 : decode cL_leg 3 = .ok (.aload_n 0, 1) := by decide +kernel
theorem dL_leg_4 : decode cL_leg 4 = .ok (.iload_n 1, 1) := by decide +kernel
theorem dL_leg_5 : decode cL_leg 5 = .ok (.iload_n 2, 1) := by decide +kernel
theorem dL_leg_6 : decode cL_leg 6 = .ok (.iload_n 3, 1) := by decide +kernel
theorem dL_leg_7 : decode cL_leg 7 = .ok (.invokevirtual 64, 3) := by decide +kernel
theorem dL_leg_10 : decode cL_leg 10 = .ok (.i2l, 1) := by decide +kernel
theorem dL_leg_11 : decode cL_leg 11 = .ok (.lastore, 1) := by decide +kernel
theorem dL_leg_12 : decode cL_leg 12 = .ok (.goto 11, 3) := by decide +kernel
theorem dL_leg_15 : decode cL_leg 15 = .ok (.astore 5, 2) := by decide +kernel
theorem dL_leg_17 : decode cL_leg 17 = .ok (.iconst 1, 1) := by decide +kernel
theorem dL_leg_18 : decode cL_leg 18 = .ok (.ireturn, 1) := by decide +kernel
theorem dL_leg_19 : decode cL_leg 19 = .ok (.astore 5, 2) := by decide +kernel
theorem dL_leg_21 : decode cL_leg 21 = .ok (.iconst 2, 1) := by decide +kernel
theorem dL_leg_22 : decode cL_leg 22 = .ok (.ireturn, 1) := by decide +kernel
theorem dL_leg_23 : decode cL_leg 23 = .ok (.iconst 0, 1) := by decide +kernel
theorem dL_leg_24 : decode cL_leg 24 = .ok (.ireturn, 1) := by decide +kernel
theorem dL_trouble_0 : decode cL_trouble 0 = .ok (.aload_n 3, 1) := by decide +kernel
theorem dL_trouble_1 : decode cL_trouble 1 = .ok (.iconst 0, 1) := by decide +kernel
theorem dL_trouble_2 : decode cL_trouble 2 = .ok (.aload_n 0, 1) := by decide +kernel
theorem dL_trouble_3 : decode cL_trouble 3 = .ok (.iload_n 1, 1) := by decide +kernel
theorem dL_trouble_4 : decode cL_trouble 4 = .ok (.iload_n 2, 1) := by decide +kernel
theorem dL_trouble_5 : decode cL_trouble 5 = .ok (.invokevirtual 67, 3) := by decide +kernel
theorem dL_trouble_8 : decode cL_trouble 8 = .ok (.i2l, 1) := by decide +kernel
theorem dL_trouble_9 : decode cL_trouble 9 = .ok (.lastore, 1) := by decide +kernel
theorem dL_trouble_10 : decode cL_trouble 10 = .ok (.goto 7, 3) := by decide +kernel
theorem dL_trouble_13 : decode cL_trouble 13 = .ok (.astore 4, 2) := by decide +kernel
theorem dL_trouble_15 : decode cL_trouble 15 = .ok (.iconst 1, 1) := by decide +kernel
theorem dL_trouble_16 : decode cL_trouble 16 = .ok (.ireturn, 1) := by decide +kernel
theorem dL_trouble_17 : decode cL_trouble 17 = .ok (.iconst 0, 1) := by decide +kernel
theorem dL_trouble_18 : decode cL_trouble 18 = .ok (.ireturn, 1) := by decide +kernel
theorem dL_apart_0 : decode cL_apart 0 = .ok (.aload_n 3, 1) := by decide +kernel
theorem dL_apart_1 : decode cL_apart 1 = .ok (.iconst 0, 1) := by decide +kernel
theorem dL_apart_2 : decode cL_apart 2 = .ok (.aload_n 0, 1) := by decide +kernel
theorem dL_apart_3 : decode cL_apart 3 = .ok (.iload_n 1, 1) := by decide +kernel
theorem dL_apart_4 : decode cL_apart 4 = .ok (.iload_n 2, 1) := by decide +kernel
theorem dL_apart_5 : decode cL_apart 5 = .ok (.invokevirtual 70, 3) := by decide +kernel
theorem dL_apart_8 : decode cL_apart 8 = .ok (.i2l, 1) := by decide +kernel
theorem dL_apart_9 : decode cL_apart 9 = .ok (.lastore, 1) := by decide +kernel
theorem dL_apart_10 : decode cL_apart 10 = .ok (.goto 7, 3) := by decide +kernel
theorem dL_apart_13 : decode cL_apart 13 = .ok (.astore 4, 2) := by decide +kernel
theorem dL_apart_15 : decode cL_apart 15 = .ok (.iconst 1, 1) := by decide +kernel
theorem dL_apart_16 : decode cL_apart 16 = .ok (.ireturn, 1) := by decide +kernel
theorem dL_apart_17 : decode cL_apart 17 = .ok (.iconst 0, 1) := by decide +kernel
theorem dL_apart_18 : decode cL_apart 18 = .ok (.ireturn, 1) := by decide +kernel
theorem dL_meets_0 : decode cL_meets 0 = .ok (.aload_n 3, 1) := by decide +kernel
theorem dL_meets_1 : decode cL_meets 1 = .ok (.iconst 0, 1) := by decide +kernel
theorem dL_meets_2 : decode cL_meets 2 = .ok (.aload_n 0, 1) := by decide +kernel
theorem dL_meets_3 : decode cL_meets 3 = .ok (.iload_n 1, 1) := by decide +kernel
theorem dL_meets_4 : decode cL_meets 4 = .ok (.iload_n 2, 1) := by decide +kernel
theorem dL_meets_5 : decode cL_meets 5 = .ok (.invokevirtual 73, 3) := by decide +kernel
theorem dL_meets_8 : decode cL_meets 8 = .ok (.ifCond .eq 7, 3) := by decide +kernel
theorem dL_meets_11 : decode cL_meets 11 = .ok (.lconst 1, 1) := by decide +kernel
theorem dL_meets_12 : decode cL_meets 12 = .ok (.goto 4, 3) := by decide +kernel
theorem dL_meets_15 : decode cL_meets 15 = .ok (.lconst 0, 1) := by decide +kernel
theorem dL_meets_16 : decode cL_meets 16 = .ok (.lastore, 1) := by decide +kernel
theorem dL_meets_17 : decode cL_meets 17 = .ok (.goto 7, 3) := by decide +kernel
theorem dL_meets_20 : decode cL_meets 20 = .ok (.astore 4, 2) := by decide +kernel
theorem dL_meets_22 : decode cL_meets 22 = .ok (.iconst 1, 1) := by decide +kernel
theorem dL_meets_23 : decode cL_meets 23 = .ok (.ireturn, 1) := by decide +kernel
theorem dL_meets_24 : decode cL_meets 24 = .ok (.iconst 0, 1) := by decide +kernel
theorem dL_meets_25 : decode cL_meets 25 = .ok (.ireturn, 1) := by decide +kernel
theorem dL_sine_0 : decode cL_sine 0 = .ok (.aload_n 2, 1) := by decide +kernel
theorem dL_sine_1 : decode cL_sine 1 = .ok (.iconst 0, 1) := by decide +kernel
theorem dL_sine_2 : decode cL_sine 2 = .ok (.aload_n 0, 1) := by decide +kernel
theorem dL_sine_3 : decode cL_sine 3 = .ok (.iload_n 1, 1) := by decide +kernel
theorem dL_sine_4 : decode cL_sine 4 = .ok (.invokevirtual 77, 3) := by decide +kernel
theorem dL_sine_7 : decode cL_sine 7 = .ok (.i2l, 1) := by decide +kernel
theorem dL_sine_8 : decode cL_sine 8 = .ok (.lastore, 1) := by decide +kernel
theorem dL_sine_9 : decode cL_sine 9 = .ok (.goto 6, 3) := by decide +kernel
theorem dL_sine_12 : decode cL_sine 12 = .ok (.astore_n 3, 1) := by decide +kernel
theorem dL_sine_13 : decode cL_sine 13 = .ok (.iconst 1, 1) := by decide +kernel
theorem dL_sine_14 : decode cL_sine 14 = .ok (.ireturn, 1) := by decide +kernel
theorem dL_sine_15 : decode cL_sine 15 = .ok (.iconst 0, 1) := by decide +kernel
theorem dL_sine_16 : decode cL_sine 16 = .ok (.ireturn, 1) := by decide +kernel
theorem dL_suspect_0 : decode cL_suspect 0 = .ok (.aload_n 2, 1) := by decide +kernel
theorem dL_suspect_1 : decode cL_suspect 1 = .ok (.iconst 0, 1) := by decide +kernel
theorem dL_suspect_2 : decode cL_suspect 2 = .ok (.aload_n 0, 1) := by decide +kernel
theorem dL_suspect_3 : decode cL_suspect 3 = .ok (.iload_n 1, 1) := by decide +kernel
theorem dL_suspect_4 : decode cL_suspect 4 = .ok (.invokevirtual 80, 3) := by decide +kernel
theorem dL_suspect_7 : decode cL_suspect 7 = .ok (.i2l, 1) := by decide +kernel
theorem dL_suspect_8 : decode cL_suspect 8 = .ok (.lastore, 1) := by decide +kernel
theorem dL_suspect_9 : decode cL_suspect 9 = .ok (.goto 6, 3) := by decide +kernel
theorem dL_suspect_12 : decode cL_suspect 12 = .ok (.astore_n 3, 1) := by decide +kernel
theorem dL_suspect_13 : decode cL_suspect 13 = .ok (.iconst 1, 1) := by decide +kernel
theorem dL_suspect_14 : decode cL_suspect 14 = .ok (.ireturn, 1) := by decide +kernel
theorem dL_suspect_15 : decode cL_suspect 15 = .ok (.iconst 0, 1) := by decide +kernel
theorem dL_suspect_16 : decode cL_suspect 16 = .ok (.ireturn, 1) := by decide +kernel
theorem dL_angleFor_0 : decode cL_angleFor 0 = .ok (.aload 4, 2) := by decide +kernel
theorem dL_angleFor_2 : decode cL_angleFor 2 = .ok (.iconst 0, 1) := by decide +kernel
theorem dL_angleFor_3 : decode cL_angleFor 3 = .ok (.aload_n 0, 1) := by decide +kernel
theorem dL_angleFor_4 : decode cL_angleFor 4 = .ok (.iload_n 1, 1) := by decide +kernel
theorem dL_angleFor_5 : decode cL_angleFor 5 = .ok (.iload_n 2, 1) := by decide +kernel
theorem dL_angleFor_6 : decode cL_angleFor 6 = .ok (.iload_n 3, 1) := by decide +kernel
theorem dL_angleFor_7 : decode cL_angleFor 7 = .ok (.invokevirtual 83, 3) := by decide +kernel
theorem dL_angleFor_10 : decode cL_angleFor 10 = .ok (.i2l, 1) := by decide +kernel
theorem dL_angleFor_11 : decode cL_angleFor 11 = .ok (.lastore, 1) := by decide +kernel
theorem dL_angleFor_12 : decode cL_angleFor 12 = .ok (.goto 11, 3) := by decide +kernel
theorem dL_angleFor_15 : decode cL_angleFor 15 = .ok (.astore 5, 2) := by decide +kernel
theorem dL_angleFor_17 : decode cL_angleFor 17 = .ok (.iconst 1, 1) := by decide +kernel
theorem dL_angleFor_18 : decode cL_angleFor 18 = .ok (.ireturn, 1) := by decide +kernel
theorem dL_angleFor_19 : decode cL_angleFor 19 = .ok (.astore 5, 2) := by decide +kernel
theorem dL_angleFor_21 : decode cL_angleFor 21 = .ok (.iconst 2, 1) := by decide +kernel
theorem dL_angleFor_22 : decode cL_angleFor 22 = .ok (.ireturn, 1) := by decide +kernel
theorem dL_angleFor_23 : decode cL_angleFor 23 = .ok (.iconst 0, 1) := by decide +kernel
theorem dL_angleFor_24 : decode cL_angleFor 24 = .ok (.ireturn, 1) := by decide +kernel
theorem dL_reachBy_0 : decode cL_reachBy 0 = .ok (.aload 5, 2) := by decide +kernel
theorem dL_reachBy_2 : decode cL_reachBy 2 = .ok (.iconst 0, 1) := by decide +kernel
theorem dL_reachBy_3 : decode cL_reachBy 3 = .ok (.aload_n 0, 1) := by decide +kernel
theorem dL_reachBy_4 : decode cL_reachBy 4 = .ok (.iload_n 1, 1) := by decide +kernel
theorem dL_reachBy_5 : decode cL_reachBy 5 = .ok (.iload_n 2, 1) := by decide +kernel
theorem dL_reachBy_6 : decode cL_reachBy 6 = .ok (.iload_n 3, 1) := by decide +kernel
theorem dL_reachBy_7 : decode cL_reachBy 7 = .ok (.iload 4, 2) := by decide +kernel
theorem dL_reachBy_9 : decode cL_reachBy 9 = .ok (.invokevirtual 86, 3) := by decide +kernel
theorem dL_reachBy_12 : decode cL_reachBy 12 = .ok (.i2l, 1) := by decide +kernel
theorem dL_reachBy_13 : decode cL_reachBy 13 = .ok (.lastore, 1) := by decide +kernel
theorem dL_reachBy_14 : decode cL_reachBy 14 = .ok (.goto 11, 3) := by decide +kernel
theorem dL_reachBy_17 : decode cL_reachBy 17 = .ok (.astore 6, 2) := by decide +kernel
theorem dL_reachBy_19 : decode cL_reachBy 19 = .ok (.iconst 1, 1) := by decide +kernel
theorem dL_reachBy_20 : decode cL_reachBy 20 = .ok (.ireturn, 1) := by decide +kernel
theorem dL_reachBy_21 : decode cL_reachBy 21 = .ok (.astore 6, 2) := by decide +kernel
theorem dL_reachBy_23 : decode cL_reachBy 23 = .ok (.iconst 2, 1) := by decide +kernel
theorem dL_reachBy_24 : decode cL_reachBy 24 = .ok (.ireturn, 1) := by decide +kernel
theorem dL_reachBy_25 : decode cL_reachBy 25 = .ok (.iconst 0, 1) := by decide +kernel
theorem dL_reachBy_26 : decode cL_reachBy 26 = .ok (.ireturn, 1) := by decide +kernel
theorem dL_type_0 : decode cL_type 0 = .ok (.aload_n 2, 1) := by decide +kernel
theorem dL_type_1 : decode cL_type 1 = .ok (.iconst 0, 1) := by decide +kernel
theorem dL_type_2 : decode cL_type 2 = .ok (.aload_n 0, 1) := by decide +kernel
theorem dL_type_3 : decode cL_type 3 = .ok (.iload_n 1, 1) := by decide +kernel
theorem dL_type_4 : decode cL_type 4 = .ok (.invokevirtual 90, 3) := by decide +kernel
theorem dL_type_7 : decode cL_type 7 = .ok (.i2l, 1) := by decide +kernel
theorem dL_type_8 : decode cL_type 8 = .ok (.lastore, 1) := by decide +kernel
theorem dL_type_9 : decode cL_type 9 = .ok (.goto 9, 3) := by decide +kernel
theorem dL_type_12 : decode cL_type 12 = .ok (.astore_n 3, 1) := by decide +kernel
theorem dL_type_13 : decode cL_type 13 = .ok (.iconst 1, 1) := by decide +kernel
theorem dL_type_14 : decode cL_type 14 = .ok (.ireturn, 1) := by decide +kernel
theorem dL_type_15 : decode cL_type 15 = .ok (.astore_n 3, 1) := by decide +kernel
theorem dL_type_16 : decode cL_type 16 = .ok (.iconst 2, 1) := by decide +kernel
theorem dL_type_17 : decode cL_type 17 = .ok (.ireturn, 1) := by decide +kernel
theorem dL_type_18 : decode cL_type 18 = .ok (.iconst 0, 1) := by decide +kernel
theorem dL_type_19 : decode cL_type 19 = .ok (.ireturn, 1) := by decide +kernel
theorem dL_run_0 : decode cL_run 0 = .ok (.aload_n 1, 1) := by decide +kernel
theorem dL_run_1 : decode cL_run 1 = .ok (.iconst 0, 1) := by decide +kernel
theorem dL_run_2 : decode cL_run 2 = .ok (.aload_n 0, 1) := by decide +kernel
theorem dL_run_3 : decode cL_run 3 = .ok (.invokevirtual 93, 3) := by decide +kernel
theorem dL_run_6 : decode cL_run 6 = .ok (.i2l, 1) := by decide +kernel
theorem dL_run_7 : decode cL_run 7 = .ok (.lastore, 1) := by decide +kernel
theorem dL_run_8 : decode cL_run 8 = .ok (.goto 6, 3) := by decide +kernel
theorem dL_run_11 : decode cL_run 11 = .ok (.astore_n 2, 1) := by decide +kernel
theorem dL_run_12 : decode cL_run 12 = .ok (.iconst 1, 1) := by decide +kernel
theorem dL_run_13 : decode cL_run 13 = .ok (.ireturn, 1) := by decide +kernel
theorem dL_run_14 : decode cL_run 14 = .ok (.iconst 0, 1) := by decide +kernel
theorem dL_run_15 : decode cL_run 15 = .ok (.ireturn, 1) := by decide +kernel
theorem dL_undo_0 : decode cL_undo 0 = .ok (.aload_n 1, 1) := by decide +kernel
theorem dL_undo_1 : decode cL_undo 1 = .ok (.iconst 0, 1) := by decide +kernel
theorem dL_undo_2 : decode cL_undo 2 = .ok (.aload_n 0, 1) := by decide +kernel
theorem dL_undo_3 : decode cL_undo 3 = .ok (.invokevirtual 97, 3) := by decide +kernel
theorem dL_undo_6 : decode cL_undo 6 = .ok (.i2l, 1) := by decide +kernel
theorem dL_undo_7 : decode cL_undo 7 = .ok (.lastore, 1) := by decide +kernel
theorem dL_undo_8 : decode cL_undo 8 = .ok (.goto 6, 3) := by decide +kernel
theorem dL_undo_11 : decode cL_undo 11 = .ok (.astore_n 2, 1) := by decide +kernel
theorem dL_undo_12 : decode cL_undo 12 = .ok (.iconst 1, 1) := by decide +kernel
theorem dL_undo_13 : decode cL_undo 13 = .ok (.ireturn, 1) := by decide +kernel
theorem dL_undo_14 : decode cL_undo 14 = .ok (.iconst 0, 1) := by decide +kernel
theorem dL_undo_15 : decode cL_undo 15 = .ok (.ireturn, 1) := by decide +kernel
theorem dL_law_0 : decode cL_law 0 = .ok (.new 8, 3) := by decide +kernel
theorem dL_law_3 : decode cL_law 3 = .ok (.dup, 1) := by decide +kernel
theorem dL_law_4 : decode cL_law 4 = .ok (.invokespecial 100, 3) := by decide +kernel
theorem dL_law_7 : decode cL_law 7 = .ok (.astore_n 1, 1) := by decide +kernel
theorem dL_law_8 : decode cL_law 8 = .ok (.new 101, 3) := by decide +kernel
theorem dL_law_11 : decode cL_law 11 = .ok (.dup, 1) := by decide +kernel
theorem dL_law_12 : decode cL_law 12 = .ok (.invokespecial 103, 3) := by decide +kernel
theorem dL_law_15 : decode cL_law 15 = .ok (.astore_n 2, 1) := by decide +kernel
theorem dL_law_16 : decode cL_law 16 = .ok (.iconst 1, 1) := by decide +kernel
theorem dL_law_17 : decode cL_law 17 = .ok (.newarray .long, 2) := by decide +kernel
theorem dL_law_19 : decode cL_law 19 = .ok (.astore_n 3, 1) := by decide +kernel
theorem dL_law_20 : decode cL_law 20 = .ok (.iconst 0, 1) := by decide +kernel
theorem dL_law_21 : decode cL_law 21 = .ok (.istore 4, 2) := by decide +kernel
theorem dL_law_23 : decode cL_law 23 = .ok (.iload 4, 2) := by decide +kernel
theorem dL_law_25 : decode cL_law 25 = .ok (.aload_n 0, 1) := by decide +kernel
theorem dL_law_26 : decode cL_law 26 = .ok (.arraylength, 1) := by decide +kernel
theorem dL_law_27 : decode cL_law 27 = .ok (.bipush 7, 2) := by decide +kernel
theorem dL_law_29 : decode cL_law 29 = .ok (.isub, 1) := by decide +kernel
theorem dL_law_30 : decode cL_law 30 = .ok (.if_icmp .gt 1941, 3) := by decide +kernel
theorem dL_law_33 : decode cL_law 33 = .ok (.aload_n 0, 1) := by decide +kernel
theorem dL_law_34 : decode cL_law 34 = .ok (.iload 4, 2) := by decide +kernel
theorem dL_law_36 : decode cL_law 36 = .ok (.iaload, 1) := by decide +kernel
theorem dL_law_37 : decode cL_law 37 = .ok (.bipush 31, 2) := by decide +kernel

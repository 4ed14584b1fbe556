theorem dM_init_0 : decode cM_init 0 = .ok (.aload_n 0, 1) := by decide +kernel
theorem dM_init_1 : decode cM_init 1 = .ok (.invokespecial 1, 3) := by decide +kernel
theorem dM_init_4 : decode cM_init 4 = .ok (.aload_n 0, 1) := by decide +kernel
theorem dM_init_5 : decode cM_init 5 = .ok (.bipush 10, 2) := by decide +kernel
theorem dM_init_7 : decode cM_init 7 = .ok (.putfield 7, 3) := by decide +kernel
theorem dM_init_10 : decode cM_init 10 = .ok (.aload_n 0, 1) := by decide +kernel
theorem dM_init_11 : decode cM_init 11 = .ok (.iconst 1, 1) := by decide +kernel
theorem dM_init_12 : decode cM_init 12 = .ok (.putfield 13, 3) := by decide +kernel
theorem dM_init_15 : decode cM_init 15 = .ok (.aload_n 0, 1) := by decide +kernel
theorem dM_init_16 : decode cM_init 16 = .ok (.iload_n 1, 1) := by decide +kernel
theorem dM_init_17 : decode cM_init 17 = .ok (.ldc 17, 2) := by decide +kernel
theorem dM_init_19 : decode cM_init 19 = .ok (.iand, 1) := by decide +kernel
theorem dM_init_20 : decode cM_init 20 = .ok (.putfield 18, 3) := by decide +kernel
theorem dM_init_23 : decode cM_init 23 = .ok (.aload_n 0, 1) := by decide +kernel
theorem dM_init_24 : decode cM_init 24 = .ok (.iload_n 2, 1) := by decide +kernel
theorem dM_init_25 : decode cM_init 25 = .ok (.putfield 21, 3) := by decide +kernel
theorem dM_init_28 : decode cM_init 28 = .ok (.aload_n 0, 1) := by decide +kernel
theorem dM_init_29 : decode cM_init 29 = .ok (.iload_n 3, 1) := by decide +kernel
theorem dM_init_30 : decode cM_init 30 = .ok (.iconst 1, 1) := by decide +kernel
theorem dM_init_31 : decode cM_init 31 = .ok (.if_icmp .lt 9, 3) := by decide +kernel
theorem dM_init_34 : decode cM_init 34 = .ok (.iload_n 3, 1) := by decide +kernel
theorem dM_init_35 : decode cM_init 35 = .ok (.bipush 7, 2) := by decide +kernel
theorem dM_init_37 : decode cM_init 37 = .ok (.if_icmp .le 7, 3) := by decide +kernel
theorem dM_init_40 : decode cM_init 40 = .ok (.iconst 3, 1) := by decide +kernel
theorem dM_init_41 : decode cM_init 41 = .ok (.goto 4, 3) := by decide +kernel
theorem dM_init_44 : decode cM_init 44 = .ok (.iload_n 3, 1) := by decide +kernel
theorem dM_init_45 : decode cM_init 45 = .ok (.putfield 24, 3) := by decide +kernel
theorem dM_init_48 : decode cM_init 48 = .ok (.aload_n 0, 1) := by decide +kernel
theorem dM_init_49 : decode cM_init 49 = .ok (.iload 4, 2) := by decide +kernel
theorem dM_init_51 : decode cM_init 51 = .ok (.iconst 1, 1) := by decide +kernel
theorem dM_init_52 : decode cM_init 52 = .ok (.if_icmp .lt 10, 3) := by decide +kernel
theorem dM_init_55 : decode cM_init 55 = .ok (.iload 4, 2) := by decide +kernel
theorem dM_init_57 : decode cM_init 57 = .ok (.bipush 7, 2) := by decide +kernel
theorem dM_init_59 : decode cM_init 59 = .ok (.if_icmp .le 7, 3) := by decide +kernel
theorem dM_init_62 : decode cM_init 62 = .ok (.iconst 5, 1) := by decide +kernel
theorem dM_init_63 : decode cM_init 63 = .ok (.goto 5, 3) := by decide +kernel
theorem dM_init_66 : decode cM_init 66 = .ok (.iload 4, 2) := by decide +kernel
theorem dM_init_68 : decode cM_init 68 = .ok (.putfield 27, 3) := by decide +kernel
theorem dM_init_71 : decode cM_init 71 = .ok (.return_, 1) := by decide +kernel
theorem dM_verify_0 : decode cM_verify 0 = .ok (.aload_n 0, 1) := by decide +kernel
theorem dM_verify_1 : decode cM_verify 1 = .ok (.iload_n 1, 1) := by decide +kernel
theorem dM_verify_2 : decode cM_verify 2 = .ok (.invokevirtual 79, 3) := by decide +kernel
theorem dM_verify_5 : decode cM_verify 5 = .ok (.istore_n 2, 1) := by decide +kernel
theorem dM_verify_6 : decode cM_verify 6 = .ok (.aload_n 0, 1) := by decide +kernel
theorem dM_verify_7 : decode cM_verify 7 = .ok (.aload_n 0, 1) := by decide +kernel
theorem dM_verify_8 : decode cM_verify 8 = .ok (.getfield 36, 3) := by decide +kernel
theorem dM_verify_11 : decode cM_verify 11 = .ok (.ifCond .ne 8, 3) := by decide +kernel
theorem dM_verify_14 : decode cM_verify 14 = .ok (.iload_n 2, 1) := by decide +kernel
theorem dM_verify_15 : decode cM_verify 15 = .ok (.iconst 1, 1) := by decide +kernel
theorem dM_verify_16 : decode cM_verify 16 = .ok (.if_icmp .ne 7, 3) := by decide +kernel
theorem dM_verify_19 : decode cM_verify 19 = .ok (.iconst 1, 1) := by decide +kernel
theorem dM_verify_20 : decode cM_verify 20 = .ok (.goto 4, 3) := by decide +kernel
theorem dM_verify_23 : decode cM_verify 23 = .ok (.iconst 0, 1) := by decide +kernel
theorem dM_verify_24 : decode cM_verify 24 = .ok (.putfield 36, 3) := by decide +kernel
theorem dM_verify_27 : decode cM_verify 27 = .ok (.iload_n 2, 1) := by decide +kernel
theorem dM_verify_28 : decode cM_verify 28 = .ok (.ireturn, 1) := by decide +kernel
theorem dM_attempt_0 : decode cM_attempt 0 = .ok (.aload_n 0, 1) := by decide +kernel
theorem dM_attempt_1 : decode cM_attempt 1 = .ok (.getfield 13, 3) := by decide +kernel
theorem dM_attempt_4 : decode cM_attempt 4 = .ok (.ifCond .ne 5, 3) := by decide +kernel
theorem dM_attempt_7 : decode cM_attempt 7 = .ok (.iconst (-1), 1) := by decide +kernel
theorem dM_attempt_8 : decode cM_attempt 8 = .ok (.ireturn, 1) := by decide +kernel
theorem dM_attempt_9 : decode cM_attempt 9 = .ok (.aload_n 0, 1) := by decide +kernel
theorem dM_attempt_10 : decode cM_attempt 10 = .ok (.getfield 65, 3) := by decide +kernel
theorem dM_attempt_13 : decode cM_attempt 13 = .ok (.aload_n 0, 1) := by decide +kernel
theorem dM_attempt_14 : decode cM_attempt 14 = .ok (.getfield 24, 3) := by decide +kernel
theorem dM_attempt_17 : decode cM_attempt 17 = .ok (.if_icmp .lt 6, 3) := by decide +kernel
theorem dM_attempt_20 : decode cM_attempt 20 = .ok (.bipush (-2), 2) := by decide +kernel
theorem dM_attempt_22 : decode cM_attempt 22 = .ok (.ireturn, 1) := by decide +kernel
theorem dM_attempt_23 : decode cM_attempt 23 = .ok (.aload_n 0, 1) := by decide +kernel
theorem dM_attempt_24 : decode cM_attempt 24 = .ok (.iconst 0, 1) := by decide +kernel
theorem dM_attempt_25 : decode cM_attempt 25 = .ok (.putfield 36, 3) := by decide +kernel
theorem dM_attempt_28 : decode cM_attempt 28 = .ok (.aload_n 0, 1) := by decide +kernel
theorem dM_attempt_29 : decode cM_attempt 29 = .ok (.iconst 0, 1) := by decide +kernel
theorem dM_attempt_30 : decode cM_attempt 30 = .ok (.invokevirtual 75, 3) := by decide +kernel
theorem dM_attempt_33 : decode cM_attempt 33 = .ok (.ifCond .ne 6, 3) := by decide +kernel
theorem dM_attempt_36 : decode cM_attempt 36 = .ok (.bipush (-3), 2) := by decide +kernel
theorem dM_attempt_38 : decode cM_attempt 38 = .ok (.ireturn, 1) := by decide +kernel
theorem dM_attempt_39 : decode cM_attempt 39 = .ok (.iload_n 1, 1) := by decide +kernel
theorem dM_attempt_40 : decode cM_attempt 40 = .ok (.ldc 17, 2) := by decide +kernel
theorem dM_attempt_42 : decode cM_attempt 42 = .ok (.iand, 1) := by decide +kernel
theorem dM_attempt_43 : decode cM_attempt 43 = .ok (.aload_n 0, 1) := by decide +kernel
theorem dM_attempt_44 : decode cM_attempt 44 = .ok (.getfield 18, 3) := by decide +kernel
theorem dM_attempt_47 : decode cM_attempt 47 = .ok (.if_icmp .eq 5, 3) := by decide +kernel
theorem dM_attempt_50 : decode cM_attempt 50 = .ok (.iconst 0, 1) := by decide +kernel
theorem dM_attempt_51 : decode cM_attempt 51 = .ok (.ireturn, 1) := by decide +kernel
theorem dM_attempt_52 : decode cM_attempt 52 = .ok (.aload_n 0, 1) := by decide +kernel
theorem dM_attempt_53 : decode cM_attempt 53 = .ok (.invokevirtual 45, 3) := by decide +kernel
theorem dM_attempt_56 : decode cM_attempt 56 = .ok (.istore_n 2, 1) := by decide +kernel
theorem dM_attempt_57 : decode cM_attempt 57 = .ok (.aload_n 0, 1) := by decide +kernel
theorem dM_attempt_58 : decode cM_attempt 58 = .ok (.iload_n 2, 1) := by decide +kernel
theorem dM_attempt_59 : decode cM_attempt 59 = .ok (.iconst 2, 1) := by decide +kernel
theorem dM_attempt_60 : decode cM_attempt 60 = .ok (.invokestatic 58, 3) := by decide +kernel
theorem dM_attempt_63 : decode cM_attempt 63 = .ok (.ifCond .eq 7, 3) := by decide +kernel
theorem dM_attempt_66 : decode cM_attempt 66 = .ok (.iconst 0, 1) := by decide +kernel
theorem dM_attempt_67 : decode cM_attempt 67 = .ok (.goto 7, 3) := by decide +kernel
theorem dM_attempt_70 : decode cM_attempt 70 = .ok (.aload_n 0, 1) := by decide +kernel
theorem dM_attempt_71 : decode cM_attempt 71 = .ok (.getfield 65, 3) := by decide +kernel
theorem dM_attempt_74 : decode cM_attempt 74 = .ok (.putfield 65, 3) := by decide +kernel
theorem dM_attempt_77 : decode cM_attempt 77 = .ok (.iload_n 2, 1) := by decide +kernel
theorem dM_attempt_78 : decode cM_attempt 78 = .ok (.ifCond .ge 7, 3) := by decide +kernel
theorem dM_attempt_81 : decode cM_attempt 81 = .ok (.iconst 1, 1) := by decide +kernel
theorem dM_attempt_82 : decode cM_attempt 82 = .ok (.goto 5, 3) := by decide +kernel
theorem dM_attempt_85 : decode cM_attempt 85 = .ok (.bipush (-3), 2) := by decide +kernel
theorem dM_attempt_87 : decode cM_attempt 87 = .ok (.ireturn, 1) := by decide +kernel
theorem dM_mark_0 : decode cM_mark 0 = .ok (.aload_n 0, 1) := by decide +kernel
theorem dM_mark_1 : decode cM_mark 1 = .ok (.getfield 7, 3) := by decide +kernel
theorem dM_mark_4 : decode cM_mark 4 = .ok (.ifCond .ne 24, 3) := by decide +kernel
theorem dM_mark_7 : decode cM_mark 7 = .ok (.aload_n 0, 1) := by decide +kernel
theorem dM_mark_8 : decode cM_mark 8 = .ok (.aload_n 0, 1) := by decide +kernel
theorem dM_mark_9 : decode cM_mark 9 = .ok (.getfield 18, 3) := by decide +kernel
theorem dM_mark_12 : decode cM_mark 12 = .ok (.aload_n 0, 1) := by decide +kernel
theorem dM_mark_13 : decode cM_mark 13 = .ok (.getfield 65, 3) := by decide +kernel
theorem dM_mark_16 : decode cM_mark 16 = .ok (.aload_n 0, 1) := by decide +kernel
theorem dM_mark_17 : decode cM_mark 17 = .ok (.getfield 68, 3) := by decide +kernel
theorem dM_mark_20 : decode cM_mark 20 = .ok (.invokevirtual 71, 3) := by decide +kernel
theorem dM_mark_23 : decode cM_mark 23 = .ok (.ifCond .ne 5, 3) := by decide +kernel
theorem dM_mark_26 : decode cM_mark 26 = .ok (.iconst 0, 1) := by decide +kernel
theorem dM_mark_27 : decode cM_mark 27 = .ok (.ireturn, 1) := by decide +kernel
theorem dM_mark_28 : decode cM_mark 28 = .ok (.aload_n 0, 1) := by decide +kernel
theorem dM_mark_29 : decode cM_mark 29 = .ok (.invokevirtual 45, 3) := by decide +kernel
theorem dM_mark_32 : decode cM_mark 32 = .ok (.istore_n 2, 1) := by decide +kernel
theorem dM_mark_33 : decode cM_mark 33 = .ok (.iload_n 2, 1) := by decide +kernel
theorem dM_mark_34 : decode cM_mark 34 = .ok (.iload_n 1, 1) := by decide +kernel
theorem dM_mark_35 : decode cM_mark 35 = .ok (.ifCond .eq 8, 3) := by decide +kernel
theorem dM_mark_38 : decode cM_mark 38 = .ok (.bipush 16, 2) := by decide +kernel
theorem dM_mark_40 : decode cM_mark 40 = .ok (.goto 4, 3) := by decide +kernel
theorem dM_mark_43 : decode cM_mark 43 = .ok (.iconst 1, 1) := by decide +kernel
theorem dM_mark_44 : decode cM_mark 44 = .ok (.invokestatic 58, 3) := by decide +kernel
theorem dM_mark_47 : decode cM_mark 47 = .ok (.ifCond .eq 55, 3) := by decide +kernel
theorem dM_mark_50 : decode cM_mark 50 = .ok (.aload_n 0, 1) := by decide +kernel
theorem dM_mark_51 : decode cM_mark 51 = .ok (.dup, 1) := by decide +kernel
theorem dM_mark_52 : decode cM_mark 52 = .ok (.getfield 7, 3) := by decide +kernel
theorem dM_mark_55 : decode cM_mark 55 = .ok (.iconst 1, 1) := by decide +kernel
theorem dM_mark_56 : decode cM_mark 56 = .ok (.isub, 1) := by decide +kernel
theorem dM_mark_57 : decode cM_mark 57 = .ok (.putfield 7, 3) := by decide +kernel
theorem dM_mark_60 : decode cM_mark 60 = .ok (.aload_n 0, 1) := by decide +kernel
theorem dM_mark_61 : decode cM_mark 61 = .ok (.iload_n 1, 1) := by decide +kernel
theorem dM_mark_62 : decode cM_mark 62 = .ok (.ifCond .eq 10, 3) := by decide +kernel
theorem dM_mark_65 : decode cM_mark 65 = .ok (.aload_n 0, 1) := by decide +kernel
theorem dM_mark_66 : decode cM_mark 66 = .ok (.getfield 65, 3) := by decide +kernel
theorem dM_mark_69 : decode cM_mark 69 = .ok (.goto 9, 3) := by decide +kernel
theorem dM_mark_72 : decode cM_mark 72 = .ok (.aload_n 0, 1) := by decide +kernel
theorem dM_mark_73 : decode cM_mark 73 = .ok (.getfield 65, 3) := by decide +kernel
theorem dM_mark_76 : decode cM_mark 76 = .ok (.iconst 1, 1) := by decide +kernel
theorem dM_mark_77 : decode cM_mark 77 = .ok (.iadd, 1) := by decide +kernel
theorem dM_mark_78 : decode cM_mark 78 = .ok (.putfield 65, 3) := by decide +kernel
theorem dM_mark_81 : decode cM_mark 81 = .ok (.aload_n 0, 1) := by decide +kernel
theorem dM_mark_82 : decode cM_mark 82 = .ok (.iload_n 1, 1) := by decide +kernel
theorem dM_mark_83 : decode cM_mark 83 = .ok (.ifCond .eq 12, 3) := by decide +kernel
theorem dM_mark_86 : decode cM_mark 86 = .ok (.aload_n 0, 1) := by decide +kernel
theorem dM_mark_87 : decode cM_mark 87 = .ok (.getfield 68, 3) := by decide +kernel
theorem dM_mark_90 : decode cM_mark 90 = .ok (.iconst 1, 1) := by decide +kernel
theorem dM_mark_91 : decode cM_mark 91 = .ok (.iadd, 1) := by decide +kernel
theorem dM_mark_92 : decode cM_mark 92 = .ok (.goto 7, 3) := by decide +kernel
theorem dM_mark_95 : decode cM_mark 95 = .ok (.aload_n 0, 1) := by decide +kernel
theorem dM_mark_96 : decode cM_mark 96 = .ok (.getfield 68, 3) := by decide +kernel
theorem dM_mark_99 : decode cM_mark 99 = .ok (.putfield 68, 3) := by decide +kernel
theorem dM_mark_102 : decode cM_mark 102 = .ok (.iload_n 2, 1) := by decide +kernel
theorem dM_mark_103 : decode cM_mark 103 = .ok (.ifCond .ge 7, 3) := by decide +kernel
theorem dM_mark_106 : decode cM_mark 106 = .ok (.iconst 1, 1) := by decide +kernel
theorem dM_mark_107 : decode cM_mark 107 = .ok (.goto 4, 3) := by decide +kernel
theorem dM_mark_110 : decode cM_mark 110 = .ok (.iconst 0, 1) := by decide +kernel
theorem dM_mark_111 : decode cM_mark 111 = .ok (.ireturn, 1) := by decide +kernel
theorem dM_turn_0 : decode cM_turn 0 = .ok (.aload_n 0, 1) := by decide +kernel
theorem dM_turn_1 : decode cM_turn 1 = .ok (.getfield 42, 3) := by decide +kernel
theorem dM_turn_4 : decode cM_turn 4 = .ok (.ifCond .eq 38, 3) := by decide +kernel
theorem dM_turn_7 : decode cM_turn 7 = .ok (.aload_n 0, 1) := by decide +kernel
theorem dM_turn_8 : decode cM_turn 8 = .ok (.invokevirtual 45, 3) := by decide +kernel
theorem dM_turn_11 : decode cM_turn 11 = .ok (.istore 4, 2) := by decide +kernel
theorem dM_turn_13 : decode cM_turn 13 = .ok (.aload_n 0, 1) := by decide +kernel
theorem dM_turn_14 : decode cM_turn 14 = .ok (.iload 4, 2) := by decide +kernel
theorem dM_turn_16 : decode cM_turn 16 = .ok (.ifCond .lt 15, 3) := by decide +kernel
theorem dM_turn_19 : decode cM_turn 19 = .ok (.iload 4, 2) := by decide +kernel
theorem dM_turn_21 : decode cM_turn 21 = .ok (.bipush 90, 2) := by decide +kernel
theorem dM_turn_23 : decode cM_turn 23 = .ok (.iand, 1) := by decide +kernel
theorem dM_turn_24 : decode cM_turn 24 = .ok (.ifCond .ne 7, 3) := by decide +kernel
theorem dM_turn_27 : decode cM_turn 27 = .ok (.iconst 1, 1) := by decide +kernel
theorem dM_turn_28 : decode cM_turn 28 = .ok (.goto 4, 3) := by decide +kernel
theorem dM_turn_31 : decode cM_turn 31 = .ok (.iconst 0, 1) := by decide +kernel
theorem dM_turn_32 : decode cM_turn 32 = .ok (.putfield 42, 3) := by decide +kernel
theorem dM_turn_35 : decode cM_turn 35 = .ok (.iload 4, 2) := by decide +kernel
theorem dM_turn_37 : decode cM_turn 37 = .ok (.ifCond .lt 5, 3) := by decide +kernel
theorem dM_turn_40 : decode cM_turn 40 = .ok (.iconst 0, 1) := by decide +kernel
theorem dM_turn_41 : decode cM_turn 41 = .ok (.ireturn, 1) := by decide +kernel
theorem dM_turn_42 : decode cM_turn 42 = .ok (.aload_n 0, 1) := by decide +kernel
theorem dM_turn_43 : decode cM_turn 43 = .ok (.getfield 49, 3) := by decide +kernel
theorem dM_turn_46 : decode cM_turn 46 = .ok (.ifCond .ne 16, 3) := by decide +kernel
theorem dM_turn_49 : decode cM_turn 49 = .ok (.aload_n 0, 1) := by decide +kernel
theorem dM_turn_50 : decode cM_turn 50 = .ok (.dup, 1) := by decide +kernel
theorem dM_turn_51 : decode cM_turn 51 = .ok (.getfield 52, 3) := by decide +kernel
theorem dM_turn_54 : decode cM_turn 54 = .ok (.iconst 1, 1) := by decide +kernel
theorem dM_turn_55 : decode cM_turn 55 = .ok (.iadd, 1) := by decide +kernel
theorem dM_turn_56 : decode cM_turn 56 = .ok (.putfield 52, 3) := by decide +kernel
theorem dM_turn_59 : decode cM_turn 59 = .ok (.goto 13, 3) := by decide +kernel
theorem dM_turn_62 : decode cM_turn 62 = .ok (.aload_n 0, 1) := by decide +kernel
theorem dM_turn_63 : decode cM_turn 63 = .ok (.dup, 1) := by decide +kernel
theorem dM_turn_64 : decode cM_turn 64 = .ok (.getfield 55, 3) := by decide +kernel
theorem dM_turn_67 : decode cM_turn 67 = .ok (.iconst 1, 1) := by decide +kernel
theorem dM_turn_68 : decode cM_turn 68 = .ok (.iadd, 1) := by decide +kernel
theorem dM_turn_69 : decode cM_turn 69 = .ok (.putfield 55, 3) := by decide +kernel
theorem dM_turn_72 : decode cM_turn 72 = .ok (.iconst 0, 1) := by decide +kernel
theorem dM_turn_73 : decode cM_turn 73 = .ok (.istore 4, 2) := by decide +kernel
theorem dM_turn_75 : decode cM_turn 75 = .ok (.iload 4, 2) := by decide +kernel
theorem dM_turn_77 : decode cM_turn 77 = .ok (.bipush 6, 2) := by decide +kernel
theorem dM_turn_79 : decode cM_turn 79 = .ok (.if_icmp .ge 18, 3) := by decide +kernel
theorem dM_turn_82 : decode cM_turn 82 = .ok (.aload_n 0, 1) := by decide +kernel
theorem dM_turn_83 : decode cM_turn 83 = .ok (.invokevirtual 45, 3) := by decide +kernel
theorem dM_turn_86 : decode cM_turn 86 = .ok (.ifCond .lt 5, 3) := by decide +kernel
theorem dM_turn_89 : decode cM_turn 89 = .ok (.iconst 0, 1) := by decide +kernel
theorem dM_turn_90 : decode cM_turn 90 = .ok (.ireturn, 1) := by decide +kernel
theorem dM_turn_91 : decode cM_turn 91 = .ok (.iinc 4 1, 3) := by decide +kernel
theorem dM_turn_94 : decode cM_turn 94 = .ok (.goto (-19), 3) := by decide +kernel
theorem dM_turn_97 : decode cM_turn 97 = .ok (.aload_n 0, 1) := by decide +kernel
theorem dM_turn_98 : decode cM_turn 98 = .ok (.invokevirtual 45, 3) := by decide +kernel
theorem dM_turn_101 : decode cM_turn 101 = .ok (.istore 4, 2) := by decide +kernel
theorem dM_turn_103 : decode cM_turn 103 = .ok (.iload 4, 2) := by decide +kernel
theorem dM_turn_105 : decode cM_turn 105 = .ok (.sipush 165, 3) := by decide +kernel
theorem dM_turn_108 : decode cM_turn 108 = .ok (.invokestatic 58, 3) := by decide +kernel
theorem dM_turn_111 : decode cM_turn 111 = .ok (.ifCond .eq 53, 3) := by decide +kernel
theorem dM_turn_114 : decode cM_turn 114 = .ok (.aload_n 0, 1) := by decide +kernel
theorem dM_turn_115 : decode cM_turn 115 = .ok (.iconst 1, 1) := by decide +kernel
theorem dM_turn_116 : decode cM_turn 116 = .ok (.aload_n 0, 1) := by decide +kernel
theorem dM_turn_117 : decode cM_turn 117 = .ok (.getfield 49, 3) := by decide +kernel
theorem dM_turn_120 : decode cM_turn 120 = .ok (.isub, 1) := by decide +kernel
theorem dM_turn_121 : decode cM_turn 121 = .ok (.putfield 49, 3) := by decide +kernel
theorem dM_turn_124 : decode cM_turn 124 = .ok (.aload_n 0, 1) := by decide +kernel
theorem dM_turn_125 : decode cM_turn 125 = .ok (.aload_n 0, 1) := by decide +kernel
theorem dM_turn_126 : decode cM_turn 126 = .ok (.getfield 62, 3) := by decide +kernel
theorem dM_turn_129 : decode cM_turn 129 = .ok (.iconst 1, 1) := by decide +kernel
theorem dM_turn_130 : decode cM_turn 130 = .ok (.iadd, 1) := by decide +kernel
theorem dM_turn_131 : decode cM_turn 131 = .ok (.sipush 256, 3) := by decide +kernel
theorem dM_turn_134 : decode cM_turn 134 = .ok (.irem, 1) := by decide +kernel
theorem dM_turn_135 : decode cM_turn 135 = .ok (.putfield 62, 3) := by decide +kernel
theorem dM_turn_138 : decode cM_turn 138 = .ok (.aload_n 0, 1) := by decide +kernel
theorem dM_turn_139 : decode cM_turn 139 = .ok (.iload_n 1, 1) := by decide +kernel
theorem dM_turn_140 : decode cM_turn 140 = .ok (.putfield 18, 3) := by decide +kernel
theorem dM_turn_143 : decode cM_turn 143 = .ok (.aload_n 0, 1) := by decide +kernel
theorem dM_turn_144 : decode cM_turn 144 = .ok (.iload_n 2, 1) := by decide +kernel
theorem dM_turn_145 : decode cM_turn 145 = .ok (.putfield 65, 3) := by decide +kernel
theorem dM_turn_148 : decode cM_turn 148 = .ok (.aload_n 0, 1) := by decide +kernel
theorem dM_turn_149 : decode cM_turn 149 = .ok (.iload_n 3, 1) := by decide +kernel
theorem dM_turn_150 : decode cM_turn 150 = .ok (.putfield 68, 3) := by decide +kernel
theorem dM_turn_153 : decode cM_turn 153 = .ok (.aload_n 0, 1) := by decide +kernel
theorem dM_turn_154 : decode cM_turn 154 = .ok (.bipush 10, 2) := by decide +kernel
theorem dM_turn_156 : decode cM_turn 156 = .ok (.putfield 7, 3) := by decide +kernel
theorem dM_turn_159 : decode cM_turn 159 = .ok (.aload_n 0, 1) := by decide +kernel

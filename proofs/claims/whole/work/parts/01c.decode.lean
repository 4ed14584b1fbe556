theorem dX1_pukTriesUsed_30 : decode cX1_pukTriesUsed 30 = .ok (.invokevirtual 23, 3) := by decide +kernel
theorem dX1_pukTriesUsed_33 : decode cX1_pukTriesUsed 33 = .ok (.bipush 16, 2) := by decide +kernel
theorem dX1_pukTriesUsed_35 : decode cX1_pukTriesUsed 35 = .ok (.iand, 1) := by decide +kernel
theorem dX1_pukTriesUsed_36 : decode cX1_pukTriesUsed 36 = .ok (.ifCond .ne 6, 3) := by decide +kernel
theorem dX1_pukTriesUsed_39 : decode cX1_pukTriesUsed 39 = .ok (.iinc 2 1, 3) := by decide +kernel
theorem dX1_pukTriesUsed_42 : decode cX1_pukTriesUsed 42 = .ok (.iinc 3 1, 3) := by decide +kernel
theorem dX1_pukTriesUsed_45 : decode cX1_pukTriesUsed 45 = .ok (.goto (-27), 3) := by decide +kernel
theorem dX1_pukTriesUsed_48 : decode cX1_pukTriesUsed 48 = .ok (.iload_n 2, 1) := by decide +kernel
theorem dX1_pukTriesUsed_49 : decode cX1_pukTriesUsed 49 = .ok (.ireturn, 1) := by decide +kernel
theorem dX1_freeEntries_0 : decode cX1_freeEntries 0 = .ok (.aload_n 0, 1) := by decide +kernel
theorem dX1_freeEntries_1 : decode cX1_freeEntries 1 = .ok (.invokevirtual 31, 3) := by decide +kernel
theorem dX1_freeEntries_4 : decode cX1_freeEntries 4 = .ok (.istore_n 1, 1) := by decide +kernel
theorem dX1_freeEntries_5 : decode cX1_freeEntries 5 = .ok (.iconst 0, 1) := by decide +kernel
theorem dX1_freeEntries_6 : decode cX1_freeEntries 6 = .ok (.istore_n 2, 1) := by decide +kernel
theorem dX1_freeEntries_7 : decode cX1_freeEntries 7 = .ok (.bipush 6, 2) := by decide +kernel
theorem dX1_freeEntries_9 : decode cX1_freeEntries 9 = .ok (.istore_n 3, 1) := by decide +kernel
theorem dX1_freeEntries_10 : decode cX1_freeEntries 10 = .ok (.iload_n 3, 1) := by decide +kernel
theorem dX1_freeEntries_11 : decode cX1_freeEntries 11 = .ok (.bipush 16, 2) := by decide +kernel
theorem dX1_freeEntries_13 : decode cX1_freeEntries 13 = .ok (.if_icmp .ge 27, 3) := by decide +kernel
theorem dX1_freeEntries_16 : decode cX1_freeEntries 16 = .ok (.aload_n 0, 1) := by decide +kernel
theorem dX1_freeEntries_17 : decode cX1_freeEntries 17 = .ok (.getfield 7, 3) := by decide +kernel
theorem dX1_freeEntries_20 : decode cX1_freeEntries 20 = .ok (.iload_n 1, 1) := by decide +kernel
theorem dX1_freeEntries_21 : decode cX1_freeEntries 21 = .ok (.iload_n 3, 1) := by decide +kernel
theorem dX1_freeEntries_22 : decode cX1_freeEntries 22 = .ok (.invokevirtual 23, 3) := by decide +kernel
theorem dX1_freeEntries_25 : decode cX1_freeEntries 25 = .ok (.sipush 255, 3) := by decide +kernel
theorem dX1_freeEntries_28 : decode cX1_freeEntries 28 = .ok (.if_icmp .ne 6, 3) := by decide +kernel
theorem dX1_freeEntries_31 : decode cX1_freeEntries 31 = .ok (.iinc 2 1, 3) := by decide +kernel
theorem dX1_freeEntries_34 : decode cX1_freeEntries 34 = .ok (.iinc 3 1, 3) := by decide +kernel
theorem dX1_freeEntries_37 : decode cX1_freeEntries 37 = .ok (.goto (-27), 3) := by decide +kernel
theorem dX1_freeEntries_40 : decode cX1_freeEntries 40 = .ok (.iload_n 2, 1) := by decide +kernel
theorem dX1_freeEntries_41 : decode cX1_freeEntries 41 = .ok (.ireturn, 1) := by decide +kernel
theorem dX1_mark_0 : decode cX1_mark 0 = .ok (.aload_n 0, 1) := by decide +kernel
theorem dX1_mark_1 : decode cX1_mark 1 = .ok (.invokevirtual 35, 3) := by decide +kernel
theorem dX1_mark_4 : decode cX1_mark 4 = .ok (.iconst (-1), 1) := by decide +kernel
theorem dX1_mark_5 : decode cX1_mark 5 = .ok (.if_icmp .ne 24, 3) := by decide +kernel
theorem dX1_mark_8 : decode cX1_mark 8 = .ok (.aload_n 0, 1) := by decide +kernel
theorem dX1_mark_9 : decode cX1_mark 9 = .ok (.aload_n 0, 1) := by decide +kernel
theorem dX1_mark_10 : decode cX1_mark 10 = .ok (.invokevirtual 38, 3) := by decide +kernel
theorem dX1_mark_13 : decode cX1_mark 13 = .ok (.aload_n 0, 1) := by decide +kernel
theorem dX1_mark_14 : decode cX1_mark 14 = .ok (.invokevirtual 41, 3) := by decide +kernel
theorem dX1_mark_17 : decode cX1_mark 17 = .ok (.aload_n 0, 1) := by decide +kernel
theorem dX1_mark_18 : decode cX1_mark 18 = .ok (.invokevirtual 44, 3) := by decide +kernel
theorem dX1_mark_21 : decode cX1_mark 21 = .ok (.invokevirtual 47, 3) := by decide +kernel
theorem dX1_mark_24 : decode cX1_mark 24 = .ok (.ifCond .ne 5, 3) := by decide +kernel
theorem dX1_mark_27 : decode cX1_mark 27 = .ok (.iconst (-1), 1) := by decide +kernel
theorem dX1_mark_28 : decode cX1_mark 28 = .ok (.ireturn, 1) := by decide +kernel
theorem dX1_mark_29 : decode cX1_mark 29 = .ok (.aload_n 0, 1) := by decide +kernel
theorem dX1_mark_30 : decode cX1_mark 30 = .ok (.invokevirtual 35, 3) := by decide +kernel
theorem dX1_mark_33 : decode cX1_mark 33 = .ok (.istore_n 2, 1) := by decide +kernel
theorem dX1_mark_34 : decode cX1_mark 34 = .ok (.iload_n 2, 1) := by decide +kernel
theorem dX1_mark_35 : decode cX1_mark 35 = .ok (.iconst (-1), 1) := by decide +kernel
theorem dX1_mark_36 : decode cX1_mark 36 = .ok (.if_icmp .eq 23, 3) := by decide +kernel
theorem dX1_mark_39 : decode cX1_mark 39 = .ok (.aload_n 0, 1) := by decide +kernel
theorem dX1_mark_40 : decode cX1_mark 40 = .ok (.getfield 7, 3) := by decide +kernel
theorem dX1_mark_43 : decode cX1_mark 43 = .ok (.aload_n 0, 1) := by decide +kernel
theorem dX1_mark_44 : decode cX1_mark 44 = .ok (.invokevirtual 31, 3) := by decide +kernel
theorem dX1_mark_47 : decode cX1_mark 47 = .ok (.iload_n 2, 1) := by decide +kernel
theorem dX1_mark_48 : decode cX1_mark 48 = .ok (.iload_n 1, 1) := by decide +kernel
theorem dX1_mark_49 : decode cX1_mark 49 = .ok (.invokevirtual 51, 3) := by decide +kernel
theorem dX1_mark_52 : decode cX1_mark 52 = .ok (.ifCond .eq 7, 3) := by decide +kernel
theorem dX1_mark_55 : decode cX1_mark 55 = .ok (.iload_n 2, 1) := by decide +kernel
theorem dX1_mark_56 : decode cX1_mark 56 = .ok (.goto 4, 3) := by decide +kernel
theorem dX1_mark_59 : decode cX1_mark 59 = .ok (.iconst (-1), 1) := by decide +kernel
theorem dX1_mark_60 : decode cX1_mark 60 = .ok (.ireturn, 1) := by decide +kernel
theorem dX1_remark_0 : decode cX1_remark 0 = .ok (.aload_n 0, 1) := by decide +kernel
theorem dX1_remark_1 : decode cX1_remark 1 = .ok (.getfield 7, 3) := by decide +kernel
theorem dX1_remark_4 : decode cX1_remark 4 = .ok (.aload_n 0, 1) := by decide +kernel
theorem dX1_remark_5 : decode cX1_remark 5 = .ok (.invokevirtual 31, 3) := by decide +kernel
theorem dX1_remark_8 : decode cX1_remark 8 = .ok (.iload_n 1, 1) := by decide +kernel
theorem dX1_remark_9 : decode cX1_remark 9 = .ok (.iload_n 2, 1) := by decide +kernel
theorem dX1_remark_10 : decode cX1_remark 10 = .ok (.invokevirtual 51, 3) := by decide +kernel
theorem dX1_remark_13 : decode cX1_remark 13 = .ok (.ireturn, 1) := by decide +kernel
theorem dX1_turn_0 : decode cX1_turn 0 = .ok (.aload_n 0, 1) := by decide +kernel
theorem dX1_turn_1 : decode cX1_turn 1 = .ok (.invokevirtual 31, 3) := by decide +kernel
theorem dX1_turn_4 : decode cX1_turn 4 = .ok (.istore 4, 2) := by decide +kernel
theorem dX1_turn_6 : decode cX1_turn 6 = .ok (.iconst 1, 1) := by decide +kernel
theorem dX1_turn_7 : decode cX1_turn 7 = .ok (.iload 4, 2) := by decide +kernel
theorem dX1_turn_9 : decode cX1_turn 9 = .ok (.isub, 1) := by decide +kernel
theorem dX1_turn_10 : decode cX1_turn 10 = .ok (.istore 5, 2) := by decide +kernel
theorem dX1_turn_12 : decode cX1_turn 12 = .ok (.aload_n 0, 1) := by decide +kernel
theorem dX1_turn_13 : decode cX1_turn 13 = .ok (.iload 5, 2) := by decide +kernel
theorem dX1_turn_15 : decode cX1_turn 15 = .ok (.invokevirtual 19, 3) := by decide +kernel
theorem dX1_turn_18 : decode cX1_turn 18 = .ok (.ifCond .eq 19, 3) := by decide +kernel
theorem dX1_turn_21 : decode cX1_turn 21 = .ok (.aload_n 0, 1) := by decide +kernel
theorem dX1_turn_22 : decode cX1_turn 22 = .ok (.getfield 7, 3) := by decide +kernel
theorem dX1_turn_25 : decode cX1_turn 25 = .ok (.iload 5, 2) := by decide +kernel
theorem dX1_turn_27 : decode cX1_turn 27 = .ok (.iconst 0, 1) := by decide +kernel
theorem dX1_turn_28 : decode cX1_turn 28 = .ok (.iconst 0, 1) := by decide +kernel
theorem dX1_turn_29 : decode cX1_turn 29 = .ok (.invokevirtual 51, 3) := by decide +kernel
theorem dX1_turn_32 : decode cX1_turn 32 = .ok (.ifCond .ne 5, 3) := by decide +kernel
theorem dX1_turn_35 : decode cX1_turn 35 = .ok (.iconst 0, 1) := by decide +kernel
theorem dX1_turn_36 : decode cX1_turn 36 = .ok (.ireturn, 1) := by decide +kernel
theorem dX1_turn_37 : decode cX1_turn 37 = .ok (.aload_n 0, 1) := by decide +kernel
theorem dX1_turn_38 : decode cX1_turn 38 = .ok (.getfield 7, 3) := by decide +kernel
theorem dX1_turn_41 : decode cX1_turn 41 = .ok (.iload 5, 2) := by decide +kernel
theorem dX1_turn_43 : decode cX1_turn 43 = .ok (.invokevirtual 54, 3) := by decide +kernel
theorem dX1_turn_46 : decode cX1_turn 46 = .ok (.ifCond .eq 104, 3) := by decide +kernel
theorem dX1_turn_49 : decode cX1_turn 49 = .ok (.aload_n 0, 1) := by decide +kernel
theorem dX1_turn_50 : decode cX1_turn 50 = .ok (.getfield 7, 3) := by decide +kernel
theorem dX1_turn_53 : decode cX1_turn 53 = .ok (.iload 5, 2) := by decide +kernel
theorem dX1_turn_55 : decode cX1_turn 55 = .ok (.iconst 1, 1) := by decide +kernel
theorem dX1_turn_56 : decode cX1_turn 56 = .ok (.aload_n 0, 1) := by decide +kernel
theorem dX1_turn_57 : decode cX1_turn 57 = .ok (.iload 4, 2) := by decide +kernel
theorem dX1_turn_59 : decode cX1_turn 59 = .ok (.invokevirtual 27, 3) := by decide +kernel
theorem dX1_turn_62 : decode cX1_turn 62 = .ok (.invokevirtual 51, 3) := by decide +kernel
theorem dX1_turn_65 : decode cX1_turn 65 = .ok (.ifCond .eq 85, 3) := by decide +kernel
theorem dX1_turn_68 : decode cX1_turn 68 = .ok (.aload_n 0, 1) := by decide +kernel
theorem dX1_turn_69 : decode cX1_turn 69 = .ok (.getfield 7, 3) := by decide +kernel
theorem dX1_turn_72 : decode cX1_turn 72 = .ok (.iload 5, 2) := by decide +kernel
theorem dX1_turn_74 : decode cX1_turn 74 = .ok (.iconst 2, 1) := by decide +kernel
theorem dX1_turn_75 : decode cX1_turn 75 = .ok (.iload_n 1, 1) := by decide +kernel
theorem dX1_turn_76 : decode cX1_turn 76 = .ok (.bipush 8, 2) := by decide +kernel
theorem dX1_turn_78 : decode cX1_turn 78 = .ok (.ishr, 1) := by decide +kernel
theorem dX1_turn_79 : decode cX1_turn 79 = .ok (.invokevirtual 51, 3) := by decide +kernel
theorem dX1_turn_82 : decode cX1_turn 82 = .ok (.ifCond .eq 68, 3) := by decide +kernel
theorem dX1_turn_85 : decode cX1_turn 85 = .ok (.aload_n 0, 1) := by decide +kernel
theorem dX1_turn_86 : decode cX1_turn 86 = .ok (.getfield 7, 3) := by decide +kernel
theorem dX1_turn_89 : decode cX1_turn 89 = .ok (.iload 5, 2) := by decide +kernel
theorem dX1_turn_91 : decode cX1_turn 91 = .ok (.iconst 3, 1) := by decide +kernel
theorem dX1_turn_92 : decode cX1_turn 92 = .ok (.iload_n 1, 1) := by decide +kernel
theorem dX1_turn_93 : decode cX1_turn 93 = .ok (.sipush 255, 3) := by decide +kernel
theorem dX1_turn_96 : decode cX1_turn 96 = .ok (.iand, 1) := by decide +kernel
theorem dX1_turn_97 : decode cX1_turn 97 = .ok (.invokevirtual 51, 3) := by decide +kernel
theorem dX1_turn_100 : decode cX1_turn 100 = .ok (.ifCond .eq 50, 3) := by decide +kernel
theorem dX1_turn_103 : decode cX1_turn 103 = .ok (.aload_n 0, 1) := by decide +kernel
theorem dX1_turn_104 : decode cX1_turn 104 = .ok (.getfield 7, 3) := by decide +kernel
theorem dX1_turn_107 : decode cX1_turn 107 = .ok (.iload 5, 2) := by decide +kernel
theorem dX1_turn_109 : decode cX1_turn 109 = .ok (.iconst 4, 1) := by decide +kernel
theorem dX1_turn_110 : decode cX1_turn 110 = .ok (.iload_n 2, 1) := by decide +kernel
theorem dX1_turn_111 : decode cX1_turn 111 = .ok (.invokevirtual 51, 3) := by decide +kernel
theorem dX1_turn_114 : decode cX1_turn 114 = .ok (.ifCond .eq 36, 3) := by decide +kernel
theorem dX1_turn_117 : decode cX1_turn 117 = .ok (.aload_n 0, 1) := by decide +kernel
theorem dX1_turn_118 : decode cX1_turn 118 = .ok (.getfield 7, 3) := by decide +kernel
theorem dX1_turn_121 : decode cX1_turn 121 = .ok (.iload 5, 2) := by decide +kernel
theorem dX1_turn_123 : decode cX1_turn 123 = .ok (.iconst 5, 1) := by decide +kernel
theorem dX1_turn_124 : decode cX1_turn 124 = .ok (.iload_n 3, 1) := by decide +kernel
theorem dX1_turn_125 : decode cX1_turn 125 = .ok (.invokevirtual 51, 3) := by decide +kernel
theorem dX1_turn_128 : decode cX1_turn 128 = .ok (.ifCond .eq 22, 3) := by decide +kernel
theorem dX1_turn_131 : decode cX1_turn 131 = .ok (.aload_n 0, 1) := by decide +kernel
theorem dX1_turn_132 : decode cX1_turn 132 = .ok (.getfield 7, 3) := by decide +kernel
theorem dX1_turn_135 : decode cX1_turn 135 = .ok (.iload 5, 2) := by decide +kernel
theorem dX1_turn_137 : decode cX1_turn 137 = .ok (.iconst 0, 1) := by decide +kernel
theorem dX1_turn_138 : decode cX1_turn 138 = .ok (.bipush 90, 2) := by decide +kernel
theorem dX1_turn_140 : decode cX1_turn 140 = .ok (.invokevirtual 51, 3) := by decide +kernel
theorem dX1_turn_143 : decode cX1_turn 143 = .ok (.ifCond .eq 7, 3) := by decide +kernel
theorem dX1_turn_146 : decode cX1_turn 146 = .ok (.iconst 1, 1) := by decide +kernel
theorem dX1_turn_147 : decode cX1_turn 147 = .ok (.goto 4, 3) := by decide +kernel
theorem dX1_turn_150 : decode cX1_turn 150 = .ok (.iconst 0, 1) := by decide +kernel
theorem dX1_turn_151 : decode cX1_turn 151 = .ok (.ireturn, 1) := by decide +kernel
theorem dX1_isGood_0 : decode cX1_isGood 0 = .ok (.aload_n 0, 1) := by decide +kernel
theorem dX1_isGood_1 : decode cX1_isGood 1 = .ok (.getfield 7, 3) := by decide +kernel
theorem dX1_isGood_4 : decode cX1_isGood 4 = .ok (.iload_n 1, 1) := by decide +kernel
theorem dX1_isGood_5 : decode cX1_isGood 5 = .ok (.iconst 0, 1) := by decide +kernel
theorem dX1_isGood_6 : decode cX1_isGood 6 = .ok (.invokevirtual 23, 3) := by decide +kernel
theorem dX1_isGood_9 : decode cX1_isGood 9 = .ok (.bipush 90, 2) := by decide +kernel
theorem dX1_isGood_11 : decode cX1_isGood 11 = .ok (.if_icmp .ne 7, 3) := by decide +kernel
theorem dX1_isGood_14 : decode cX1_isGood 14 = .ok (.iconst 1, 1) := by decide +kernel
theorem dX1_isGood_15 : decode cX1_isGood 15 = .ok (.goto 4, 3) := by decide +kernel
theorem dX1_isGood_18 : decode cX1_isGood 18 = .ok (.iconst 0, 1) := by decide +kernel
theorem dX1_isGood_19 : decode cX1_isGood 19 = .ok (.ireturn, 1) := by decide +kernel
theorem dX1_generationAfter_0 : decode cX1_generationAfter 0 = .ok (.aload_n 0, 1) := by decide +kernel
theorem dX1_generationAfter_1 : decode cX1_generationAfter 1 = .ok (.getfield 7, 3) := by decide +kernel
theorem dX1_generationAfter_4 : decode cX1_generationAfter 4 = .ok (.iload_n 1, 1) := by decide +kernel
theorem dX1_generationAfter_5 : decode cX1_generationAfter 5 = .ok (.iconst 1, 1) := by decide +kernel
theorem dX1_generationAfter_6 : decode cX1_generationAfter 6 = .ok (.invokevirtual 23, 3) := by decide +kernel
theorem dX1_generationAfter_9 : decode cX1_generationAfter 9 = .ok (.iconst 1, 1) := by decide +kernel
theorem dX1_generationAfter_10 : decode cX1_generationAfter 10 = .ok (.iadd, 1) := by decide +kernel
theorem dX1_generationAfter_11 : decode cX1_generationAfter 11 = .ok (.sipush 255, 3) := by decide +kernel
theorem dX1_generationAfter_14 : decode cX1_generationAfter 14 = .ok (.iand, 1) := by decide +kernel
theorem dX1_generationAfter_15 : decode cX1_generationAfter 15 = .ok (.ireturn, 1) := by decide +kernel
theorem dX1_firstFreeEntry_0 : decode cX1_firstFreeEntry 0 = .ok (.aload_n 0, 1) := by decide +kernel
theorem dX1_firstFreeEntry_1 : decode cX1_firstFreeEntry 1 = .ok (.invokevirtual 31, 3) := by decide +kernel
theorem dX1_firstFreeEntry_4 : decode cX1_firstFreeEntry 4 = .ok (.istore_n 1, 1) := by decide +kernel
theorem dX1_firstFreeEntry_5 : decode cX1_firstFreeEntry 5 = .ok (.bipush 6, 2) := by decide +kernel
theorem dX1_firstFreeEntry_7 : decode cX1_firstFreeEntry 7 = .ok (.istore_n 2, 1) := by decide +kernel
theorem dX1_firstFreeEntry_8 : decode cX1_firstFreeEntry 8 = .ok (.iload_n 2, 1) := by decide +kernel
theorem dX1_firstFreeEntry_9 : decode cX1_firstFreeEntry 9 = .ok (.bipush 16, 2) := by decide +kernel
theorem dX1_firstFreeEntry_11 : decode cX1_firstFreeEntry 11 = .ok (.if_icmp .ge 26, 3) := by decide +kernel
theorem dX1_firstFreeEntry_14 : decode cX1_firstFreeEntry 14 = .ok (.aload_n 0, 1) := by decide +kernel
theorem dX1_firstFreeEntry_15 : decode cX1_firstFreeEntry 15 = .ok (.getfield 7, 3) := by decide +kernel
theorem dX1_firstFreeEntry_18 : decode cX1_firstFreeEntry 18 = .ok (.iload_n 1, 1) := by decide +kernel
theorem dX1_firstFreeEntry_19 : decode cX1_firstFreeEntry 19 = .ok (.iload_n 2, 1) := by decide +kernel
theorem dX1_firstFreeEntry_20 : decode cX1_firstFreeEntry 20 = .ok (.invokevirtual 23, 3) := by decide +kernel
theorem dX1_firstFreeEntry_23 : decode cX1_firstFreeEntry 23 = .ok (.sipush 255, 3) := by decide +kernel
theorem dX1_firstFreeEntry_26 : decode cX1_firstFreeEntry 26 = .ok (.if_icmp .ne 5, 3) := by decide +kernel
theorem dX1_firstFreeEntry_29 : decode cX1_firstFreeEntry 29 = .ok (.iload_n 2, 1) := by decide +kernel
theorem dX1_firstFreeEntry_30 : decode cX1_firstFreeEntry 30 = .ok (.ireturn, 1) := by decide +kernel
theorem dX1_firstFreeEntry_31 : decode cX1_firstFreeEntry 31 = .ok (.iinc 2 1, 3) := by decide +kernel
theorem dX1_firstFreeEntry_34 : decode cX1_firstFreeEntry 34 = .ok (.goto (-26), 3) := by decide +kernel
theorem dX1_firstFreeEntry_37 : decode cX1_firstFreeEntry 37 = .ok (.iconst (-1), 1) := by decide +kernel
theorem dX1_firstFreeEntry_38 : decode cX1_firstFreeEntry 38 = .ok (.ireturn, 1) := by decide +kernel
theorem dX2_init_0 : decode cX2_init 0 = .ok (.aload_n 0, 1) := by decide +kernel
theorem dX2_init_1 : decode cX2_init 1 = .ok (.invokespecial 1, 3) := by decide +kernel
theorem dX2_init_4 : decode cX2_init 4 = .ok (.aload_n 0, 1) := by decide +kernel
theorem dX2_init_5 : decode cX2_init 5 = .ok (.new 7, 3) := by decide +kernel
theorem dX2_init_8 : decode cX2_init 8 = .ok (.dup, 1) := by decide +kernel
theorem dX2_init_9 : decode cX2_init 9 = .ok (.invokespecial 9, 3) := by decide +kernel
theorem dX2_init_12 : decode cX2_init 12 = .ok (.putfield 10, 3) := by decide +kernel
theorem dX2_init_15 : decode cX2_init 15 = .ok (.aload_n 0, 1) := by decide +kernel
theorem dX2_init_16 : decode cX2_init 16 = .ok (.new 16, 3) := by decide +kernel
theorem dX2_init_19 : decode cX2_init 19 = .ok (.dup, 1) := by decide +kernel
theorem dX2_init_20 : decode cX2_init 20 = .ok (.aload_n 0, 1) := by decide +kernel
theorem dX2_init_21 : decode cX2_init 21 = .ok (.getfield 10, 3) := by decide +kernel
theorem dX2_init_24 : decode cX2_init 24 = .ok (.iload_n 1, 1) := by decide +kernel
theorem dX2_init_25 : decode cX2_init 25 = .ok (.ldc 18, 2) := by decide +kernel
theorem dX2_init_27 : decode cX2_init 27 = .ok (.iand, 1) := by decide +kernel
theorem dX2_init_28 : decode cX2_init 28 = .ok (.invokespecial 19, 3) := by decide +kernel
theorem dX2_init_31 : decode cX2_init 31 = .ok (.putfield 22, 3) := by decide +kernel
theorem dX2_init_34 : decode cX2_init 34 = .ok (.aload_n 0, 1) := by decide +kernel
theorem dX2_init_35 : decode cX2_init 35 = .ok (.iload_n 2, 1) := by decide +kernel
theorem dX2_init_36 : decode cX2_init 36 = .ok (.putfield 26, 3) := by decide +kernel
theorem dX2_init_39 : decode cX2_init 39 = .ok (.aload_n 0, 1) := by decide +kernel
theorem dX2_init_40 : decode cX2_init 40 = .ok (.iload_n 3, 1) := by decide +kernel
theorem dX2_init_41 : decode cX2_init 41 = .ok (.iconst 3, 1) := by decide +kernel
theorem dX2_init_42 : decode cX2_init 42 = .ok (.invokestatic 30, 3) := by decide +kernel
theorem dX2_init_45 : decode cX2_init 45 = .ok (.putfield 34, 3) := by decide +kernel
theorem dX2_init_48 : decode cX2_init 48 = .ok (.aload_n 0, 1) := by decide +kernel
theorem dX2_init_49 : decode cX2_init 49 = .ok (.iload 4, 2) := by decide +kernel
theorem dX2_init_51 : decode cX2_init 51 = .ok (.iconst 5, 1) := by decide +kernel
theorem dX2_init_52 : decode cX2_init 52 = .ok (.invokestatic 30, 3) := by decide +kernel
theorem dX2_init_55 : decode cX2_init 55 = .ok (.putfield 37, 3) := by decide +kernel
theorem dX2_init_58 : decode cX2_init 58 = .ok (.aload_n 0, 1) := by decide +kernel
theorem dX2_init_59 : decode cX2_init 59 = .ok (.iconst 1, 1) := by decide +kernel
theorem dX2_init_60 : decode cX2_init 60 = .ok (.putfield 40, 3) := by decide +kernel
theorem dX2_init_63 : decode cX2_init 63 = .ok (.aload_n 0, 1) := by decide +kernel
theorem dX2_init_64 : decode cX2_init 64 = .ok (.iconst 0, 1) := by decide +kernel
theorem dX2_init_65 : decode cX2_init 65 = .ok (.putfield 44, 3) := by decide +kernel
theorem dX2_init_68 : decode cX2_init 68 = .ok (.aload_n 0, 1) := by decide +kernel
theorem dX2_init_69 : decode cX2_init 69 = .ok (.iconst 0, 1) := by decide +kernel
theorem dX2_init_70 : decode cX2_init 70 = .ok (.putfield 47, 3) := by decide +kernel
theorem dX2_init_73 : decode cX2_init 73 = .ok (.return_, 1) := by decide +kernel
theorem dX2_verify_0 : decode cX2_verify 0 = .ok (.aload_n 0, 1) := by decide +kernel
theorem dX2_verify_1 : decode cX2_verify 1 = .ok (.iload_n 1, 1) := by decide +kernel
theorem dX2_verify_2 : decode cX2_verify 2 = .ok (.ldc 18, 2) := by decide +kernel
theorem dX2_verify_4 : decode cX2_verify 4 = .ok (.iand, 1) := by decide +kernel
theorem dX2_verify_5 : decode cX2_verify 5 = .ok (.invokevirtual 50, 3) := by decide +kernel
theorem dX2_verify_8 : decode cX2_verify 8 = .ok (.istore_n 2, 1) := by decide +kernel
theorem dX2_verify_9 : decode cX2_verify 9 = .ok (.iload_n 2, 1) := by decide +kernel
theorem dX2_verify_10 : decode cX2_verify 10 = .ok (.iconst 1, 1) := by decide +kernel
theorem dX2_verify_11 : decode cX2_verify 11 = .ok (.if_icmp .ne 8, 3) := by decide +kernel
theorem dX2_verify_14 : decode cX2_verify 14 = .ok (.aload_n 0, 1) := by decide +kernel
theorem dX2_verify_15 : decode cX2_verify 15 = .ok (.iconst 1, 1) := by decide +kernel
theorem dX2_verify_16 : decode cX2_verify 16 = .ok (.putfield 44, 3) := by decide +kernel
theorem dX2_verify_19 : decode cX2_verify 19 = .ok (.iload_n 2, 1) := by decide +kernel
theorem dX2_verify_20 : decode cX2_verify 20 = .ok (.ireturn, 1) := by decide +kernel
theorem dX2_change_0 : decode cX2_change 0 = .ok (.aload_n 0, 1) := by decide +kernel
theorem dX2_change_1 : decode cX2_change 1 = .ok (.iload_n 1, 1) := by decide +kernel
theorem dX2_change_2 : decode cX2_change 2 = .ok (.ldc 18, 2) := by decide +kernel
theorem dX2_change_4 : decode cX2_change 4 = .ok (.iand, 1) := by decide +kernel
theorem dX2_change_5 : decode cX2_change 5 = .ok (.invokevirtual 50, 3) := by decide +kernel
theorem dX2_change_8 : decode cX2_change 8 = .ok (.istore_n 3, 1) := by decide +kernel
theorem dX2_change_9 : decode cX2_change 9 = .ok (.iload_n 3, 1) := by decide +kernel
theorem dX2_change_10 : decode cX2_change 10 = .ok (.iconst 1, 1) := by decide +kernel
theorem dX2_change_11 : decode cX2_change 11 = .ok (.if_icmp .eq 5, 3) := by decide +kernel
theorem dX2_change_14 : decode cX2_change 14 = .ok (.iload_n 3, 1) := by decide +kernel
theorem dX2_change_15 : decode cX2_change 15 = .ok (.ireturn, 1) := by decide +kernel
theorem dX2_change_16 : decode cX2_change 16 = .ok (.aload_n 0, 1) := by decide +kernel
theorem dX2_change_17 : decode cX2_change 17 = .ok (.getfield 22, 3) := by decide +kernel
theorem dX2_change_20 : decode cX2_change 20 = .ok (.iload_n 2, 1) := by decide +kernel
theorem dX2_change_21 : decode cX2_change 21 = .ok (.ldc 18, 2) := by decide +kernel
theorem dX2_change_23 : decode cX2_change 23 = .ok (.iand, 1) := by decide +kernel
theorem dX2_change_24 : decode cX2_change 24 = .ok (.iconst 0, 1) := by decide +kernel
theorem dX2_change_25 : decode cX2_change 25 = .ok (.aload_n 0, 1) := by decide +kernel
theorem dX2_change_26 : decode cX2_change 26 = .ok (.getfield 22, 3) := by decide +kernel
theorem dX2_change_29 : decode cX2_change 29 = .ok (.invokevirtual 54, 3) := by decide +kernel
theorem dX2_change_32 : decode cX2_change 32 = .ok (.invokevirtual 58, 3) := by decide +kernel
theorem dX2_change_35 : decode cX2_change 35 = .ok (.ifCond .ne 8, 3) := by decide +kernel
theorem dX2_change_38 : decode cX2_change 38 = .ok (.aload_n 0, 1) := by decide +kernel
theorem dX2_change_39 : decode cX2_change 39 = .ok (.invokevirtual 62, 3) := by decide +kernel
theorem dX2_change_42 : decode cX2_change 42 = .ok (.ireturn, 1) := by decide +kernel
theorem dX2_change_43 : decode cX2_change 43 = .ok (.aload_n 0, 1) := by decide +kernel
theorem dX2_change_44 : decode cX2_change 44 = .ok (.iconst 1, 1) := by decide +kernel
theorem dX2_change_45 : decode cX2_change 45 = .ok (.putfield 44, 3) := by decide +kernel
theorem dX2_change_48 : decode cX2_change 48 = .ok (.iconst 1, 1) := by decide +kernel
theorem dX2_change_49 : decode cX2_change 49 = .ok (.ireturn, 1) := by decide +kernel
theorem dX2_unblock_0 : decode cX2_unblock 0 = .ok (.aload_n 0, 1) := by decide +kernel
theorem dX2_unblock_1 : decode cX2_unblock 1 = .ok (.getfield 40, 3) := by decide +kernel
theorem dX2_unblock_4 : decode cX2_unblock 4 = .ok (.ifCond .ne 5, 3) := by decide +kernel
theorem dX2_unblock_7 : decode cX2_unblock 7 = .ok (.iconst (-1), 1) := by decide +kernel
theorem dX2_unblock_8 : decode cX2_unblock 8 = .ok (.ireturn, 1) := by decide +kernel
theorem dX2_unblock_9 : decode cX2_unblock 9 = .ok (.aload_n 0, 1) := by decide +kernel
theorem dX2_unblock_10 : decode cX2_unblock 10 = .ok (.getfield 22, 3) := by decide +kernel
theorem dX2_unblock_13 : decode cX2_unblock 13 = .ok (.invokevirtual 54, 3) := by decide +kernel
theorem dX2_unblock_16 : decode cX2_unblock 16 = .ok (.aload_n 0, 1) := by decide +kernel
theorem dX2_unblock_17 : decode cX2_unblock 17 = .ok (.getfield 37, 3) := by decide +kernel
theorem dX2_unblock_20 : decode cX2_unblock 20 = .ok (.if_icmp .lt 6, 3) := by decide +kernel
theorem dX2_unblock_23 : decode cX2_unblock 23 = .ok (.bipush (-2), 2) := by decide +kernel
theorem dX2_unblock_25 : decode cX2_unblock 25 = .ok (.ireturn, 1) := by decide +kernel
theorem dX2_unblock_26 : decode cX2_unblock 26 = .ok (.aload_n 0, 1) := by decide +kernel
theorem dX2_unblock_27 : decode cX2_unblock 27 = .ok (.iconst 0, 1) := by decide +kernel
theorem dX2_unblock_28 : decode cX2_unblock 28 = .ok (.putfield 44, 3) := by decide +kernel
theorem dX2_unblock_31 : decode cX2_unblock 31 = .ok (.aload_n 0, 1) := by decide +kernel
theorem dX2_unblock_32 : decode cX2_unblock 32 = .ok (.getfield 22, 3) := by decide +kernel
theorem dX2_unblock_35 : decode cX2_unblock 35 = .ok (.sipush 239, 3) := by decide +kernel
theorem dX2_unblock_38 : decode cX2_unblock 38 = .ok (.invokevirtual 65, 3) := by decide +kernel
theorem dX2_unblock_41 : decode cX2_unblock 41 = .ok (.iconst (-1), 1) := by decide +kernel
theorem dX2_unblock_42 : decode cX2_unblock 42 = .ok (.if_icmp .ne 8, 3) := by decide +kernel
theorem dX2_unblock_45 : decode cX2_unblock 45 = .ok (.aload_n 0, 1) := by decide +kernel
theorem dX2_unblock_46 : decode cX2_unblock 46 = .ok (.invokevirtual 62, 3) := by decide +kernel
theorem dX2_unblock_49 : decode cX2_unblock 49 = .ok (.ireturn, 1) := by decide +kernel
theorem dX2_unblock_50 : decode cX2_unblock 50 = .ok (.iload_n 1, 1) := by decide +kernel
theorem dX2_unblock_51 : decode cX2_unblock 51 = .ok (.aload_n 0, 1) := by decide +kernel
theorem dX2_unblock_52 : decode cX2_unblock 52 = .ok (.getfield 26, 3) := by decide +kernel
theorem dX2_unblock_55 : decode cX2_unblock 55 = .ok (.if_icmp .eq 5, 3) := by decide +kernel
theorem dX2_unblock_58 : decode cX2_unblock 58 = .ok (.iconst 0, 1) := by decide +kernel
theorem dX2_unblock_59 : decode cX2_unblock 59 = .ok (.ireturn, 1) := by decide +kernel
theorem dX2_unblock_60 : decode cX2_unblock 60 = .ok (.aload_n 0, 1) := by decide +kernel
theorem dX2_unblock_61 : decode cX2_unblock 61 = .ok (.getfield 22, 3) := by decide +kernel
theorem dX2_unblock_64 : decode cX2_unblock 64 = .ok (.iload_n 2, 1) := by decide +kernel
theorem dX2_unblock_65 : decode cX2_unblock 65 = .ok (.ldc 18, 2) := by decide +kernel
theorem dX2_unblock_67 : decode cX2_unblock 67 = .ok (.iand, 1) := by decide +kernel
theorem dX2_unblock_68 : decode cX2_unblock 68 = .ok (.iconst 0, 1) := by decide +kernel
theorem dX2_unblock_69 : decode cX2_unblock 69 = .ok (.iconst 0, 1) := by decide +kernel
theorem dX2_unblock_70 : decode cX2_unblock 70 = .ok (.invokevirtual 58, 3) := by decide +kernel
theorem dX2_unblock_73 : decode cX2_unblock 73 = .ok (.ifCond .eq 7, 3) := by decide +kernel
theorem dX2_unblock_76 : decode cX2_unblock 76 = .ok (.iconst 1, 1) := by decide +kernel
theorem dX2_unblock_77 : decode cX2_unblock 77 = .ok (.goto 7, 3) := by decide +kernel
theorem dX2_unblock_80 : decode cX2_unblock 80 = .ok (.aload_n 0, 1) := by decide +kernel
theorem dX2_unblock_81 : decode cX2_unblock 81 = .ok (.invokevirtual 62, 3) := by decide +kernel
theorem dX2_unblock_84 : decode cX2_unblock 84 = .ok (.ireturn, 1) := by decide +kernel
theorem dX2_arm_0 : decode cX2_arm 0 = .ok (.iload_n 1, 1) := by decide +kernel
theorem dX2_arm_1 : decode cX2_arm 1 = .ok (.ifCond .lt 20, 3) := by decide +kernel
theorem dX2_arm_4 : decode cX2_arm 4 = .ok (.iload_n 1, 1) := by decide +kernel
theorem dX2_arm_5 : decode cX2_arm 5 = .ok (.bipush 30, 2) := by decide +kernel
theorem dX2_arm_7 : decode cX2_arm 7 = .ok (.if_icmp .gt 14, 3) := by decide +kernel
theorem dX2_arm_10 : decode cX2_arm 10 = .ok (.iload_n 2, 1) := by decide +kernel
theorem dX2_arm_11 : decode cX2_arm 11 = .ok (.ifCond .lt 10, 3) := by decide +kernel
theorem dX2_arm_14 : decode cX2_arm 14 = .ok (.iload_n 2, 1) := by decide +kernel
theorem dX2_arm_15 : decode cX2_arm 15 = .ok (.sipush 255, 3) := by decide +kernel
theorem dX2_arm_18 : decode cX2_arm 18 = .ok (.if_icmp .le 5, 3) := by decide +kernel
theorem dX2_arm_21 : decode cX2_arm 21 = .ok (.iconst 0, 1) := by decide +kernel
theorem dX2_arm_22 : decode cX2_arm 22 = .ok (.ireturn, 1) := by decide +kernel
theorem dX2_arm_23 : decode cX2_arm 23 = .ok (.iload_n 1, 1) := by decide +kernel
theorem dX2_arm_24 : decode cX2_arm 24 = .ok (.ifCond .le 24, 3) := by decide +kernel
theorem dX2_arm_27 : decode cX2_arm 27 = .ok (.aload_n 0, 1) := by decide +kernel
theorem dX2_arm_28 : decode cX2_arm 28 = .ok (.getfield 47, 3) := by decide +kernel
theorem dX2_arm_31 : decode cX2_arm 31 = .ok (.bipush 40, 2) := by decide +kernel
theorem dX2_arm_33 : decode cX2_arm 33 = .ok (.if_icmp .lt 5, 3) := by decide +kernel
theorem dX2_arm_36 : decode cX2_arm 36 = .ok (.iconst 0, 1) := by decide +kernel
theorem dX2_arm_37 : decode cX2_arm 37 = .ok (.ireturn, 1) := by decide +kernel
theorem dX2_arm_38 : decode cX2_arm 38 = .ok (.aload_n 0, 1) := by decide +kernel
theorem dX2_arm_39 : decode cX2_arm 39 = .ok (.dup, 1) := by decide +kernel
theorem dX2_arm_40 : decode cX2_arm 40 = .ok (.getfield 47, 3) := by decide +kernel
theorem dX2_arm_43 : decode cX2_arm 43 = .ok (.iconst 1, 1) := by decide +kernel
theorem dX2_arm_44 : decode cX2_arm 44 = .ok (.iadd, 1) := by decide +kernel
theorem dX2_arm_45 : decode cX2_arm 45 = .ok (.putfield 47, 3) := by decide +kernel
theorem dX2_arm_48 : decode cX2_arm 48 = .ok (.aload_n 0, 1) := by decide +kernel
theorem dX2_arm_49 : decode cX2_arm 49 = .ok (.getfield 10, 3) := by decide +kernel
theorem dX2_arm_52 : decode cX2_arm 52 = .ok (.iload_n 1, 1) := by decide +kernel
theorem dX2_arm_53 : decode cX2_arm 53 = .ok (.iload_n 2, 1) := by decide +kernel
theorem dX2_arm_54 : decode cX2_arm 54 = .ok (.invokevirtual 68, 3) := by decide +kernel
theorem dX2_arm_57 : decode cX2_arm 57 = .ok (.iconst 1, 1) := by decide +kernel
theorem dX2_arm_58 : decode cX2_arm 58 = .ok (.ireturn, 1) := by decide +kernel
theorem dX2_cut_0 : decode cX2_cut 0 = .ok (.aload_n 0, 1) := by decide +kernel
theorem dX2_cut_1 : decode cX2_cut 1 = .ok (.getfield 40, 3) := by decide +kernel
theorem dX2_cut_4 : decode cX2_cut 4 = .ok (.ifCond .ne 5, 3) := by decide +kernel
theorem dX2_cut_7 : decode cX2_cut 7 = .ok (.iconst 0, 1) := by decide +kernel
theorem dX2_cut_8 : decode cX2_cut 8 = .ok (.ireturn, 1) := by decide +kernel
theorem dX2_cut_9 : decode cX2_cut 9 = .ok (.aload_n 0, 1) := by decide +kernel
theorem dX2_cut_10 : decode cX2_cut 10 = .ok (.invokevirtual 62, 3) := by decide +kernel
theorem dX2_cut_13 : decode cX2_cut 13 = .ok (.pop, 1) := by decide +kernel
theorem dX2_cut_14 : decode cX2_cut 14 = .ok (.iconst 1, 1) := by decide +kernel
theorem dX2_cut_15 : decode cX2_cut 15 = .ok (.ireturn, 1) := by decide +kernel
theorem dX2_start_0 : decode cX2_start 0 = .ok (.aload_n 0, 1) := by decide +kernel

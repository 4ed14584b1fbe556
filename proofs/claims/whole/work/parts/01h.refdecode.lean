theorem dM_turn_160 : decode cM_turn 160 = .ok (.iconst 1, 1) := by decide +kernel
theorem dM_turn_161 : decode cM_turn 161 = .ok (.putfield 42, 3) := by decide +kernel
theorem dM_turn_164 : decode cM_turn 164 = .ok (.iload 4, 2) := by decide +kernel
theorem dM_turn_166 : decode cM_turn 166 = .ok (.ifCond .ge 7, 3) := by decide +kernel
theorem dM_turn_169 : decode cM_turn 169 = .ok (.iconst 1, 1) := by decide +kernel
theorem dM_turn_170 : decode cM_turn 170 = .ok (.goto 4, 3) := by decide +kernel
theorem dM_turn_173 : decode cM_turn 173 = .ok (.iconst 0, 1) := by decide +kernel
theorem dM_turn_174 : decode cM_turn 174 = .ok (.ireturn, 1) := by decide +kernel
theorem dM_operate_0 : decode cM_operate 0 = .ok (.aload_n 0, 1) := by decide +kernel
theorem dM_operate_1 : decode cM_operate 1 = .ok (.dup, 1) := by decide +kernel
theorem dM_operate_2 : decode cM_operate 2 = .ok (.getfield 30, 3) := by decide +kernel
theorem dM_operate_5 : decode cM_operate 5 = .ok (.iconst 1, 1) := by decide +kernel
theorem dM_operate_6 : decode cM_operate 6 = .ok (.iadd, 1) := by decide +kernel
theorem dM_operate_7 : decode cM_operate 7 = .ok (.putfield 30, 3) := by decide +kernel
theorem dM_operate_10 : decode cM_operate 10 = .ok (.aload_n 0, 1) := by decide +kernel
theorem dM_operate_11 : decode cM_operate 11 = .ok (.getfield 33, 3) := by decide +kernel
theorem dM_operate_14 : decode cM_operate 14 = .ok (.iconst 1, 1) := by decide +kernel
theorem dM_operate_15 : decode cM_operate 15 = .ok (.if_icmp .ne 7, 3) := by decide +kernel
theorem dM_operate_18 : decode cM_operate 18 = .ok (.iconst 1, 1) := by decide +kernel
theorem dM_operate_19 : decode cM_operate 19 = .ok (.goto 4, 3) := by decide +kernel
theorem dM_operate_22 : decode cM_operate 22 = .ok (.iconst 0, 1) := by decide +kernel
theorem dM_operate_23 : decode cM_operate 23 = .ok (.istore_n 1, 1) := by decide +kernel
theorem dM_operate_24 : decode cM_operate 24 = .ok (.aload_n 0, 1) := by decide +kernel
theorem dM_operate_25 : decode cM_operate 25 = .ok (.aload_n 0, 1) := by decide +kernel
theorem dM_operate_26 : decode cM_operate 26 = .ok (.getfield 33, 3) := by decide +kernel
theorem dM_operate_29 : decode cM_operate 29 = .ok (.ifCond .le 12, 3) := by decide +kernel
theorem dM_operate_32 : decode cM_operate 32 = .ok (.aload_n 0, 1) := by decide +kernel
theorem dM_operate_33 : decode cM_operate 33 = .ok (.getfield 33, 3) := by decide +kernel
theorem dM_operate_36 : decode cM_operate 36 = .ok (.iconst 1, 1) := by decide +kernel
theorem dM_operate_37 : decode cM_operate 37 = .ok (.isub, 1) := by decide +kernel
theorem dM_operate_38 : decode cM_operate 38 = .ok (.goto 4, 3) := by decide +kernel
theorem dM_operate_41 : decode cM_operate 41 = .ok (.iconst 0, 1) := by decide +kernel
theorem dM_operate_42 : decode cM_operate 42 = .ok (.putfield 33, 3) := by decide +kernel
theorem dM_operate_45 : decode cM_operate 45 = .ok (.iload_n 1, 1) := by decide +kernel
theorem dM_operate_46 : decode cM_operate 46 = .ok (.ifCond .ne 5, 3) := by decide +kernel
theorem dM_operate_49 : decode cM_operate 49 = .ok (.iconst (-1), 1) := by decide +kernel
theorem dM_operate_50 : decode cM_operate 50 = .ok (.ireturn, 1) := by decide +kernel
theorem dM_operate_51 : decode cM_operate 51 = .ok (.aload_n 0, 1) := by decide +kernel
theorem dM_operate_52 : decode cM_operate 52 = .ok (.iconst 0, 1) := by decide +kernel
theorem dM_operate_53 : decode cM_operate 53 = .ok (.putfield 13, 3) := by decide +kernel
theorem dM_operate_56 : decode cM_operate 56 = .ok (.aload_n 0, 1) := by decide +kernel
theorem dM_operate_57 : decode cM_operate 57 = .ok (.iconst 0, 1) := by decide +kernel
theorem dM_operate_58 : decode cM_operate 58 = .ok (.putfield 36, 3) := by decide +kernel
theorem dM_operate_61 : decode cM_operate 61 = .ok (.aload_n 0, 1) := by decide +kernel
theorem dM_operate_62 : decode cM_operate 62 = .ok (.getfield 39, 3) := by decide +kernel
theorem dM_operate_65 : decode cM_operate 65 = .ok (.ireturn, 1) := by decide +kernel
theorem dM_all_0 : decode cM_all 0 = .ok (.iload_n 0, 1) := by decide +kernel
theorem dM_all_1 : decode cM_all 1 = .ok (.ifCond .lt 10, 3) := by decide +kernel
theorem dM_all_4 : decode cM_all 4 = .ok (.iload_n 0, 1) := by decide +kernel
theorem dM_all_5 : decode cM_all 5 = .ok (.iload_n 1, 1) := by decide +kernel
theorem dM_all_6 : decode cM_all 6 = .ok (.iand, 1) := by decide +kernel
theorem dM_all_7 : decode cM_all 7 = .ok (.iload_n 1, 1) := by decide +kernel
theorem dM_all_8 : decode cM_all 8 = .ok (.if_icmp .ne 7, 3) := by decide +kernel
theorem dM_all_11 : decode cM_all 11 = .ok (.iconst 1, 1) := by decide +kernel
theorem dM_all_12 : decode cM_all 12 = .ok (.goto 4, 3) := by decide +kernel
theorem dM_all_15 : decode cM_all 15 = .ok (.iconst 0, 1) := by decide +kernel
theorem dM_all_16 : decode cM_all 16 = .ok (.ireturn, 1) := by decide +kernel
theorem dM_change_0 : decode cM_change 0 = .ok (.aload_n 0, 1) := by decide +kernel
theorem dM_change_1 : decode cM_change 1 = .ok (.iload_n 1, 1) := by decide +kernel
theorem dM_change_2 : decode cM_change 2 = .ok (.invokevirtual 79, 3) := by decide +kernel
theorem dM_change_5 : decode cM_change 5 = .ok (.istore_n 3, 1) := by decide +kernel
theorem dM_change_6 : decode cM_change 6 = .ok (.iload_n 3, 1) := by decide +kernel
theorem dM_change_7 : decode cM_change 7 = .ok (.iconst 1, 1) := by decide +kernel
theorem dM_change_8 : decode cM_change 8 = .ok (.if_icmp .ne 22, 3) := by decide +kernel
theorem dM_change_11 : decode cM_change 11 = .ok (.aload_n 0, 1) := by decide +kernel
theorem dM_change_12 : decode cM_change 12 = .ok (.iload_n 2, 1) := by decide +kernel
theorem dM_change_13 : decode cM_change 13 = .ok (.ldc 17, 2) := by decide +kernel
theorem dM_change_15 : decode cM_change 15 = .ok (.iand, 1) := by decide +kernel
theorem dM_change_16 : decode cM_change 16 = .ok (.iconst 0, 1) := by decide +kernel
theorem dM_change_17 : decode cM_change 17 = .ok (.aload_n 0, 1) := by decide +kernel
theorem dM_change_18 : decode cM_change 18 = .ok (.getfield 68, 3) := by decide +kernel
theorem dM_change_21 : decode cM_change 21 = .ok (.invokevirtual 71, 3) := by decide +kernel
theorem dM_change_24 : decode cM_change 24 = .ok (.ifCond .ne 6, 3) := by decide +kernel
theorem dM_change_27 : decode cM_change 27 = .ok (.bipush (-3), 2) := by decide +kernel
theorem dM_change_29 : decode cM_change 29 = .ok (.istore_n 3, 1) := by decide +kernel
theorem dM_change_30 : decode cM_change 30 = .ok (.aload_n 0, 1) := by decide +kernel
theorem dM_change_31 : decode cM_change 31 = .ok (.aload_n 0, 1) := by decide +kernel
theorem dM_change_32 : decode cM_change 32 = .ok (.getfield 36, 3) := by decide +kernel
theorem dM_change_35 : decode cM_change 35 = .ok (.ifCond .ne 8, 3) := by decide +kernel
theorem dM_change_38 : decode cM_change 38 = .ok (.iload_n 3, 1) := by decide +kernel
theorem dM_change_39 : decode cM_change 39 = .ok (.iconst 1, 1) := by decide +kernel
theorem dM_change_40 : decode cM_change 40 = .ok (.if_icmp .ne 7, 3) := by decide +kernel
theorem dM_change_43 : decode cM_change 43 = .ok (.iconst 1, 1) := by decide +kernel
theorem dM_change_44 : decode cM_change 44 = .ok (.goto 4, 3) := by decide +kernel
theorem dM_change_47 : decode cM_change 47 = .ok (.iconst 0, 1) := by decide +kernel
theorem dM_change_48 : decode cM_change 48 = .ok (.putfield 36, 3) := by decide +kernel
theorem dM_change_51 : decode cM_change 51 = .ok (.iload_n 3, 1) := by decide +kernel
theorem dM_change_52 : decode cM_change 52 = .ok (.ireturn, 1) := by decide +kernel
theorem dM_unblock_0 : decode cM_unblock 0 = .ok (.aload_n 0, 1) := by decide +kernel
theorem dM_unblock_1 : decode cM_unblock 1 = .ok (.getfield 13, 3) := by decide +kernel
theorem dM_unblock_4 : decode cM_unblock 4 = .ok (.ifCond .ne 5, 3) := by decide +kernel
theorem dM_unblock_7 : decode cM_unblock 7 = .ok (.iconst (-1), 1) := by decide +kernel
theorem dM_unblock_8 : decode cM_unblock 8 = .ok (.ireturn, 1) := by decide +kernel
theorem dM_unblock_9 : decode cM_unblock 9 = .ok (.aload_n 0, 1) := by decide +kernel
theorem dM_unblock_10 : decode cM_unblock 10 = .ok (.getfield 68, 3) := by decide +kernel
theorem dM_unblock_13 : decode cM_unblock 13 = .ok (.aload_n 0, 1) := by decide +kernel
theorem dM_unblock_14 : decode cM_unblock 14 = .ok (.getfield 27, 3) := by decide +kernel
theorem dM_unblock_17 : decode cM_unblock 17 = .ok (.if_icmp .lt 6, 3) := by decide +kernel
theorem dM_unblock_20 : decode cM_unblock 20 = .ok (.bipush (-2), 2) := by decide +kernel
theorem dM_unblock_22 : decode cM_unblock 22 = .ok (.ireturn, 1) := by decide +kernel
theorem dM_unblock_23 : decode cM_unblock 23 = .ok (.aload_n 0, 1) := by decide +kernel
theorem dM_unblock_24 : decode cM_unblock 24 = .ok (.iconst 0, 1) := by decide +kernel
theorem dM_unblock_25 : decode cM_unblock 25 = .ok (.putfield 36, 3) := by decide +kernel
theorem dM_unblock_28 : decode cM_unblock 28 = .ok (.aload_n 0, 1) := by decide +kernel
theorem dM_unblock_29 : decode cM_unblock 29 = .ok (.iconst 1, 1) := by decide +kernel
theorem dM_unblock_30 : decode cM_unblock 30 = .ok (.invokevirtual 75, 3) := by decide +kernel
theorem dM_unblock_33 : decode cM_unblock 33 = .ok (.ifCond .ne 6, 3) := by decide +kernel
theorem dM_unblock_36 : decode cM_unblock 36 = .ok (.bipush (-3), 2) := by decide +kernel
theorem dM_unblock_38 : decode cM_unblock 38 = .ok (.ireturn, 1) := by decide +kernel
theorem dM_unblock_39 : decode cM_unblock 39 = .ok (.iload_n 1, 1) := by decide +kernel
theorem dM_unblock_40 : decode cM_unblock 40 = .ok (.aload_n 0, 1) := by decide +kernel
theorem dM_unblock_41 : decode cM_unblock 41 = .ok (.getfield 21, 3) := by decide +kernel
theorem dM_unblock_44 : decode cM_unblock 44 = .ok (.if_icmp .eq 5, 3) := by decide +kernel
theorem dM_unblock_47 : decode cM_unblock 47 = .ok (.iconst 0, 1) := by decide +kernel
theorem dM_unblock_48 : decode cM_unblock 48 = .ok (.ireturn, 1) := by decide +kernel
theorem dM_unblock_49 : decode cM_unblock 49 = .ok (.aload_n 0, 1) := by decide +kernel
theorem dM_unblock_50 : decode cM_unblock 50 = .ok (.iload_n 2, 1) := by decide +kernel
theorem dM_unblock_51 : decode cM_unblock 51 = .ok (.ldc 17, 2) := by decide +kernel
theorem dM_unblock_53 : decode cM_unblock 53 = .ok (.iand, 1) := by decide +kernel
theorem dM_unblock_54 : decode cM_unblock 54 = .ok (.iconst 0, 1) := by decide +kernel
theorem dM_unblock_55 : decode cM_unblock 55 = .ok (.iconst 0, 1) := by decide +kernel
theorem dM_unblock_56 : decode cM_unblock 56 = .ok (.invokevirtual 71, 3) := by decide +kernel
theorem dM_unblock_59 : decode cM_unblock 59 = .ok (.ifCond .eq 7, 3) := by decide +kernel
theorem dM_unblock_62 : decode cM_unblock 62 = .ok (.iconst 1, 1) := by decide +kernel
theorem dM_unblock_63 : decode cM_unblock 63 = .ok (.goto 5, 3) := by decide +kernel
theorem dM_unblock_66 : decode cM_unblock 66 = .ok (.bipush (-3), 2) := by decide +kernel
theorem dM_unblock_68 : decode cM_unblock 68 = .ok (.ireturn, 1) := by decide +kernel
theorem dM_arm_0 : decode cM_arm 0 = .ok (.iload_n 1, 1) := by decide +kernel
theorem dM_arm_1 : decode cM_arm 1 = .ok (.ifCond .lt 33, 3) := by decide +kernel
theorem dM_arm_4 : decode cM_arm 4 = .ok (.iload_n 1, 1) := by decide +kernel
theorem dM_arm_5 : decode cM_arm 5 = .ok (.bipush 30, 2) := by decide +kernel
theorem dM_arm_7 : decode cM_arm 7 = .ok (.if_icmp .gt 27, 3) := by decide +kernel
theorem dM_arm_10 : decode cM_arm 10 = .ok (.iload_n 2, 1) := by decide +kernel
theorem dM_arm_11 : decode cM_arm 11 = .ok (.ifCond .lt 23, 3) := by decide +kernel
theorem dM_arm_14 : decode cM_arm 14 = .ok (.iload_n 2, 1) := by decide +kernel
theorem dM_arm_15 : decode cM_arm 15 = .ok (.sipush 255, 3) := by decide +kernel
theorem dM_arm_18 : decode cM_arm 18 = .ok (.if_icmp .gt 16, 3) := by decide +kernel
theorem dM_arm_21 : decode cM_arm 21 = .ok (.iload_n 1, 1) := by decide +kernel
theorem dM_arm_22 : decode cM_arm 22 = .ok (.ifCond .eq 14, 3) := by decide +kernel
theorem dM_arm_25 : decode cM_arm 25 = .ok (.aload_n 0, 1) := by decide +kernel
theorem dM_arm_26 : decode cM_arm 26 = .ok (.getfield 83, 3) := by decide +kernel
theorem dM_arm_29 : decode cM_arm 29 = .ok (.bipush 40, 2) := by decide +kernel
theorem dM_arm_31 : decode cM_arm 31 = .ok (.if_icmp .ne 5, 3) := by decide +kernel
theorem dM_arm_34 : decode cM_arm 34 = .ok (.iconst 0, 1) := by decide +kernel
theorem dM_arm_35 : decode cM_arm 35 = .ok (.ireturn, 1) := by decide +kernel
theorem dM_arm_36 : decode cM_arm 36 = .ok (.aload_n 0, 1) := by decide +kernel
theorem dM_arm_37 : decode cM_arm 37 = .ok (.iload_n 1, 1) := by decide +kernel
theorem dM_arm_38 : decode cM_arm 38 = .ok (.ifCond .ne 10, 3) := by decide +kernel
theorem dM_arm_41 : decode cM_arm 41 = .ok (.aload_n 0, 1) := by decide +kernel
theorem dM_arm_42 : decode cM_arm 42 = .ok (.getfield 83, 3) := by decide +kernel
theorem dM_arm_45 : decode cM_arm 45 = .ok (.goto 9, 3) := by decide +kernel
theorem dM_arm_48 : decode cM_arm 48 = .ok (.aload_n 0, 1) := by decide +kernel
theorem dM_arm_49 : decode cM_arm 49 = .ok (.getfield 83, 3) := by decide +kernel
theorem dM_arm_52 : decode cM_arm 52 = .ok (.iconst 1, 1) := by decide +kernel
theorem dM_arm_53 : decode cM_arm 53 = .ok (.iadd, 1) := by decide +kernel
theorem dM_arm_54 : decode cM_arm 54 = .ok (.putfield 83, 3) := by decide +kernel
theorem dM_arm_57 : decode cM_arm 57 = .ok (.aload_n 0, 1) := by decide +kernel
theorem dM_arm_58 : decode cM_arm 58 = .ok (.iload_n 1, 1) := by decide +kernel
theorem dM_arm_59 : decode cM_arm 59 = .ok (.putfield 33, 3) := by decide +kernel
theorem dM_arm_62 : decode cM_arm 62 = .ok (.aload_n 0, 1) := by decide +kernel
theorem dM_arm_63 : decode cM_arm 63 = .ok (.iload_n 2, 1) := by decide +kernel
theorem dM_arm_64 : decode cM_arm 64 = .ok (.putfield 39, 3) := by decide +kernel
theorem dM_arm_67 : decode cM_arm 67 = .ok (.iconst 1, 1) := by decide +kernel
theorem dM_arm_68 : decode cM_arm 68 = .ok (.ireturn, 1) := by decide +kernel
theorem dM_cut_0 : decode cM_cut 0 = .ok (.aload_n 0, 1) := by decide +kernel
theorem dM_cut_1 : decode cM_cut 1 = .ok (.getfield 13, 3) := by decide +kernel
theorem dM_cut_4 : decode cM_cut 4 = .ok (.istore_n 1, 1) := by decide +kernel
theorem dM_cut_5 : decode cM_cut 5 = .ok (.aload_n 0, 1) := by decide +kernel
theorem dM_cut_6 : decode cM_cut 6 = .ok (.iconst 0, 1) := by decide +kernel
theorem dM_cut_7 : decode cM_cut 7 = .ok (.putfield 13, 3) := by decide +kernel
theorem dM_cut_10 : decode cM_cut 10 = .ok (.aload_n 0, 1) := by decide +kernel
theorem dM_cut_11 : decode cM_cut 11 = .ok (.iconst 0, 1) := by decide +kernel
theorem dM_cut_12 : decode cM_cut 12 = .ok (.putfield 36, 3) := by decide +kernel
theorem dM_cut_15 : decode cM_cut 15 = .ok (.iload_n 1, 1) := by decide +kernel
theorem dM_cut_16 : decode cM_cut 16 = .ok (.ireturn, 1) := by decide +kernel
theorem dM_start_0 : decode cM_start 0 = .ok (.aload_n 0, 1) := by decide +kernel
theorem dM_start_1 : decode cM_start 1 = .ok (.getfield 13, 3) := by decide +kernel
theorem dM_start_4 : decode cM_start 4 = .ok (.istore_n 1, 1) := by decide +kernel
theorem dM_start_5 : decode cM_start 5 = .ok (.aload_n 0, 1) := by decide +kernel
theorem dM_start_6 : decode cM_start 6 = .ok (.iconst 1, 1) := by decide +kernel
theorem dM_start_7 : decode cM_start 7 = .ok (.putfield 13, 3) := by decide +kernel
theorem dM_start_10 : decode cM_start 10 = .ok (.iload_n 1, 1) := by decide +kernel
theorem dM_start_11 : decode cM_start 11 = .ok (.ifCond .ne 7, 3) := by decide +kernel
theorem dM_start_14 : decode cM_start 14 = .ok (.iconst 1, 1) := by decide +kernel
theorem dM_start_15 : decode cM_start 15 = .ok (.goto 4, 3) := by decide +kernel
theorem dM_start_18 : decode cM_start 18 = .ok (.iconst 0, 1) := by decide +kernel
theorem dM_start_19 : decode cM_start 19 = .ok (.ireturn, 1) := by decide +kernel
theorem dM_in_0 : decode cM_in 0 = .ok (.aload_n 0, 1) := by decide +kernel
theorem dM_in_1 : decode cM_in 1 = .ok (.getfield 36, 3) := by decide +kernel
theorem dM_in_4 : decode cM_in 4 = .ok (.ireturn, 1) := by decide +kernel
theorem dM_up_0 : decode cM_up 0 = .ok (.aload_n 0, 1) := by decide +kernel
theorem dM_up_1 : decode cM_up 1 = .ok (.getfield 13, 3) := by decide +kernel
theorem dM_up_4 : decode cM_up 4 = .ok (.ireturn, 1) := by decide +kernel
theorem dM_tries_0 : decode cM_tries 0 = .ok (.aload_n 0, 1) := by decide +kernel
theorem dM_tries_1 : decode cM_tries 1 = .ok (.getfield 65, 3) := by decide +kernel
theorem dM_tries_4 : decode cM_tries 4 = .ok (.aload_n 0, 1) := by decide +kernel
theorem dM_tries_5 : decode cM_tries 5 = .ok (.getfield 24, 3) := by decide +kernel
theorem dM_tries_8 : decode cM_tries 8 = .ok (.if_icmp .ge 15, 3) := by decide +kernel
theorem dM_tries_11 : decode cM_tries 11 = .ok (.aload_n 0, 1) := by decide +kernel
theorem dM_tries_12 : decode cM_tries 12 = .ok (.getfield 24, 3) := by decide +kernel
theorem dM_tries_15 : decode cM_tries 15 = .ok (.aload_n 0, 1) := by decide +kernel
theorem dM_tries_16 : decode cM_tries 16 = .ok (.getfield 65, 3) := by decide +kernel
theorem dM_tries_19 : decode cM_tries 19 = .ok (.isub, 1) := by decide +kernel
theorem dM_tries_20 : decode cM_tries 20 = .ok (.goto 4, 3) := by decide +kernel
theorem dM_tries_23 : decode cM_tries 23 = .ok (.iconst 0, 1) := by decide +kernel
theorem dM_tries_24 : decode cM_tries 24 = .ok (.ireturn, 1) := by decide +kernel
theorem dM_puks_0 : decode cM_puks 0 = .ok (.aload_n 0, 1) := by decide +kernel
theorem dM_puks_1 : decode cM_puks 1 = .ok (.getfield 68, 3) := by decide +kernel
theorem dM_puks_4 : decode cM_puks 4 = .ok (.aload_n 0, 1) := by decide +kernel
theorem dM_puks_5 : decode cM_puks 5 = .ok (.getfield 27, 3) := by decide +kernel
theorem dM_puks_8 : decode cM_puks 8 = .ok (.if_icmp .ge 15, 3) := by decide +kernel
theorem dM_puks_11 : decode cM_puks 11 = .ok (.aload_n 0, 1) := by decide +kernel
theorem dM_puks_12 : decode cM_puks 12 = .ok (.getfield 27, 3) := by decide +kernel
theorem dM_puks_15 : decode cM_puks 15 = .ok (.aload_n 0, 1) := by decide +kernel
theorem dM_puks_16 : decode cM_puks 16 = .ok (.getfield 68, 3) := by decide +kernel
theorem dM_puks_19 : decode cM_puks 19 = .ok (.isub, 1) := by decide +kernel
theorem dM_puks_20 : decode cM_puks 20 = .ok (.goto 4, 3) := by decide +kernel
theorem dM_puks_23 : decode cM_puks 23 = .ok (.iconst 0, 1) := by decide +kernel
theorem dM_puks_24 : decode cM_puks 24 = .ok (.ireturn, 1) := by decide +kernel
theorem dM_page_0 : decode cM_page 0 = .ok (.aload_n 0, 1) := by decide +kernel
theorem dM_page_1 : decode cM_page 1 = .ok (.getfield 49, 3) := by decide +kernel
theorem dM_page_4 : decode cM_page 4 = .ok (.ireturn, 1) := by decide +kernel
theorem dM_generation_0 : decode cM_generation 0 = .ok (.aload_n 0, 1) := by decide +kernel
theorem dM_generation_1 : decode cM_generation 1 = .ok (.getfield 62, 3) := by decide +kernel
theorem dM_generation_4 : decode cM_generation 4 = .ok (.ireturn, 1) := by decide +kernel
theorem dM_free_0 : decode cM_free 0 = .ok (.aload_n 0, 1) := by decide +kernel
theorem dM_free_1 : decode cM_free 1 = .ok (.getfield 7, 3) := by decide +kernel
theorem dM_free_4 : decode cM_free 4 = .ok (.ireturn, 1) := by decide +kernel
theorem dM_operations_0 : decode cM_operations 0 = .ok (.aload_n 0, 1) := by decide +kernel
theorem dM_operations_1 : decode cM_operations 1 = .ok (.getfield 30, 3) := by decide +kernel
theorem dM_operations_4 : decode cM_operations 4 = .ok (.ireturn, 1) := by decide +kernel
theorem dM_erased_0 : decode cM_erased 0 = .ok (.iload_n 1, 1) := by decide +kernel
theorem dM_erased_1 : decode cM_erased 1 = .ok (.ifCond .ne 10, 3) := by decide +kernel
theorem dM_erased_4 : decode cM_erased 4 = .ok (.aload_n 0, 1) := by decide +kernel
theorem dM_erased_5 : decode cM_erased 5 = .ok (.getfield 55, 3) := by decide +kernel
theorem dM_erased_8 : decode cM_erased 8 = .ok (.goto 16, 3) := by decide +kernel
theorem dM_erased_11 : decode cM_erased 11 = .ok (.iload_n 1, 1) := by decide +kernel
theorem dM_erased_12 : decode cM_erased 12 = .ok (.iconst 1, 1) := by decide +kernel
theorem dM_erased_13 : decode cM_erased 13 = .ok (.if_icmp .ne 10, 3) := by decide +kernel
theorem dM_erased_16 : decode cM_erased 16 = .ok (.aload_n 0, 1) := by decide +kernel
theorem dM_erased_17 : decode cM_erased 17 = .ok (.getfield 52, 3) := by decide +kernel
theorem dM_erased_20 : decode cM_erased 20 = .ok (.goto 4, 3) := by decide +kernel
theorem dM_erased_23 : decode cM_erased 23 = .ok (.iconst 0, 1) := by decide +kernel
theorem dM_erased_24 : decode cM_erased 24 = .ok (.ireturn, 1) := by decide +kernel

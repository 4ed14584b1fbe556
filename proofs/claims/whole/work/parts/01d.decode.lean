theorem dX2_start_1 : decode cX2_start 1 = .ok (.getfield 40, 3) := by decide +kernel
theorem dX2_start_4 : decode cX2_start 4 = .ok (.ifCond .eq 5, 3) := by decide +kernel
theorem dX2_start_7 : decode cX2_start 7 = .ok (.iconst 0, 1) := by decide +kernel
theorem dX2_start_8 : decode cX2_start 8 = .ok (.ireturn, 1) := by decide +kernel
theorem dX2_start_9 : decode cX2_start 9 = .ok (.aload_n 0, 1) := by decide +kernel
theorem dX2_start_10 : decode cX2_start 10 = .ok (.iconst 1, 1) := by decide +kernel
theorem dX2_start_11 : decode cX2_start 11 = .ok (.putfield 40, 3) := by decide +kernel
theorem dX2_start_14 : decode cX2_start 14 = .ok (.iconst 1, 1) := by decide +kernel
theorem dX2_start_15 : decode cX2_start 15 = .ok (.ireturn, 1) := by decide +kernel
theorem dX2_in_0 : decode cX2_in 0 = .ok (.aload_n 0, 1) := by decide +kernel
theorem dX2_in_1 : decode cX2_in 1 = .ok (.getfield 44, 3) := by decide +kernel
theorem dX2_in_4 : decode cX2_in 4 = .ok (.ireturn, 1) := by decide +kernel
theorem dX2_up_0 : decode cX2_up 0 = .ok (.aload_n 0, 1) := by decide +kernel
theorem dX2_up_1 : decode cX2_up 1 = .ok (.getfield 40, 3) := by decide +kernel
theorem dX2_up_4 : decode cX2_up 4 = .ok (.ireturn, 1) := by decide +kernel
theorem dX2_tries_0 : decode cX2_tries 0 = .ok (.iconst 0, 1) := by decide +kernel
theorem dX2_tries_1 : decode cX2_tries 1 = .ok (.aload_n 0, 1) := by decide +kernel
theorem dX2_tries_2 : decode cX2_tries 2 = .ok (.getfield 34, 3) := by decide +kernel
theorem dX2_tries_5 : decode cX2_tries 5 = .ok (.aload_n 0, 1) := by decide +kernel
theorem dX2_tries_6 : decode cX2_tries 6 = .ok (.getfield 22, 3) := by decide +kernel
theorem dX2_tries_9 : decode cX2_tries 9 = .ok (.invokevirtual 72, 3) := by decide +kernel
theorem dX2_tries_12 : decode cX2_tries 12 = .ok (.isub, 1) := by decide +kernel
theorem dX2_tries_13 : decode cX2_tries 13 = .ok (.invokestatic 75, 3) := by decide +kernel
theorem dX2_tries_16 : decode cX2_tries 16 = .ok (.ireturn, 1) := by decide +kernel
theorem dX2_puks_0 : decode cX2_puks 0 = .ok (.iconst 0, 1) := by decide +kernel
theorem dX2_puks_1 : decode cX2_puks 1 = .ok (.aload_n 0, 1) := by decide +kernel
theorem dX2_puks_2 : decode cX2_puks 2 = .ok (.getfield 37, 3) := by decide +kernel
theorem dX2_puks_5 : decode cX2_puks 5 = .ok (.aload_n 0, 1) := by decide +kernel
theorem dX2_puks_6 : decode cX2_puks 6 = .ok (.getfield 22, 3) := by decide +kernel
theorem dX2_puks_9 : decode cX2_puks 9 = .ok (.invokevirtual 54, 3) := by decide +kernel
theorem dX2_puks_12 : decode cX2_puks 12 = .ok (.isub, 1) := by decide +kernel
theorem dX2_puks_13 : decode cX2_puks 13 = .ok (.invokestatic 75, 3) := by decide +kernel
theorem dX2_puks_16 : decode cX2_puks 16 = .ok (.ireturn, 1) := by decide +kernel
theorem dX2_page_0 : decode cX2_page 0 = .ok (.aload_n 0, 1) := by decide +kernel
theorem dX2_page_1 : decode cX2_page 1 = .ok (.getfield 22, 3) := by decide +kernel
theorem dX2_page_4 : decode cX2_page 4 = .ok (.invokevirtual 80, 3) := by decide +kernel
theorem dX2_page_7 : decode cX2_page 7 = .ok (.ireturn, 1) := by decide +kernel
theorem dX2_generation_0 : decode cX2_generation 0 = .ok (.aload_n 0, 1) := by decide +kernel
theorem dX2_generation_1 : decode cX2_generation 1 = .ok (.getfield 22, 3) := by decide +kernel
theorem dX2_generation_4 : decode cX2_generation 4 = .ok (.invokevirtual 83, 3) := by decide +kernel
theorem dX2_generation_7 : decode cX2_generation 7 = .ok (.ireturn, 1) := by decide +kernel
theorem dX2_free_0 : decode cX2_free 0 = .ok (.aload_n 0, 1) := by decide +kernel
theorem dX2_free_1 : decode cX2_free 1 = .ok (.getfield 22, 3) := by decide +kernel
theorem dX2_free_4 : decode cX2_free 4 = .ok (.invokevirtual 86, 3) := by decide +kernel
theorem dX2_free_7 : decode cX2_free 7 = .ok (.ireturn, 1) := by decide +kernel
theorem dX2_operations_0 : decode cX2_operations 0 = .ok (.aload_n 0, 1) := by decide +kernel
theorem dX2_operations_1 : decode cX2_operations 1 = .ok (.getfield 10, 3) := by decide +kernel
theorem dX2_operations_4 : decode cX2_operations 4 = .ok (.invokevirtual 89, 3) := by decide +kernel
theorem dX2_operations_7 : decode cX2_operations 7 = .ok (.ireturn, 1) := by decide +kernel
theorem dX2_erased_0 : decode cX2_erased 0 = .ok (.aload_n 0, 1) := by decide +kernel
theorem dX2_erased_1 : decode cX2_erased 1 = .ok (.getfield 10, 3) := by decide +kernel
theorem dX2_erased_4 : decode cX2_erased 4 = .ok (.iload_n 1, 1) := by decide +kernel
theorem dX2_erased_5 : decode cX2_erased 5 = .ok (.invokevirtual 92, 3) := by decide +kernel
theorem dX2_erased_8 : decode cX2_erased 8 = .ok (.ireturn, 1) := by decide +kernel
theorem dX2_limitOr_0 : decode cX2_limitOr 0 = .ok (.iload_n 0, 1) := by decide +kernel
theorem dX2_limitOr_1 : decode cX2_limitOr 1 = .ok (.iconst 1, 1) := by decide +kernel
theorem dX2_limitOr_2 : decode cX2_limitOr 2 = .ok (.if_icmp .lt 13, 3) := by decide +kernel
theorem dX2_limitOr_5 : decode cX2_limitOr 5 = .ok (.iload_n 0, 1) := by decide +kernel
theorem dX2_limitOr_6 : decode cX2_limitOr 6 = .ok (.bipush 7, 2) := by decide +kernel
theorem dX2_limitOr_8 : decode cX2_limitOr 8 = .ok (.if_icmp .gt 7, 3) := by decide +kernel
theorem dX2_limitOr_11 : decode cX2_limitOr 11 = .ok (.iload_n 0, 1) := by decide +kernel
theorem dX2_limitOr_12 : decode cX2_limitOr 12 = .ok (.goto 4, 3) := by decide +kernel
theorem dX2_limitOr_15 : decode cX2_limitOr 15 = .ok (.iload_n 1, 1) := by decide +kernel
theorem dX2_limitOr_16 : decode cX2_limitOr 16 = .ok (.ireturn, 1) := by decide +kernel
theorem dX2_tryNumber_0 : decode cX2_tryNumber 0 = .ok (.aload_n 0, 1) := by decide +kernel
theorem dX2_tryNumber_1 : decode cX2_tryNumber 1 = .ok (.getfield 40, 3) := by decide +kernel
theorem dX2_tryNumber_4 : decode cX2_tryNumber 4 = .ok (.ifCond .ne 5, 3) := by decide +kernel
theorem dX2_tryNumber_7 : decode cX2_tryNumber 7 = .ok (.iconst (-1), 1) := by decide +kernel
theorem dX2_tryNumber_8 : decode cX2_tryNumber 8 = .ok (.ireturn, 1) := by decide +kernel
theorem dX2_tryNumber_9 : decode cX2_tryNumber 9 = .ok (.aload_n 0, 1) := by decide +kernel
theorem dX2_tryNumber_10 : decode cX2_tryNumber 10 = .ok (.getfield 22, 3) := by decide +kernel
theorem dX2_tryNumber_13 : decode cX2_tryNumber 13 = .ok (.invokevirtual 72, 3) := by decide +kernel
theorem dX2_tryNumber_16 : decode cX2_tryNumber 16 = .ok (.aload_n 0, 1) := by decide +kernel
theorem dX2_tryNumber_17 : decode cX2_tryNumber 17 = .ok (.getfield 34, 3) := by decide +kernel
theorem dX2_tryNumber_20 : decode cX2_tryNumber 20 = .ok (.if_icmp .lt 6, 3) := by decide +kernel
theorem dX2_tryNumber_23 : decode cX2_tryNumber 23 = .ok (.bipush (-2), 2) := by decide +kernel
theorem dX2_tryNumber_25 : decode cX2_tryNumber 25 = .ok (.ireturn, 1) := by decide +kernel
theorem dX2_tryNumber_26 : decode cX2_tryNumber 26 = .ok (.aload_n 0, 1) := by decide +kernel
theorem dX2_tryNumber_27 : decode cX2_tryNumber 27 = .ok (.iconst 0, 1) := by decide +kernel
theorem dX2_tryNumber_28 : decode cX2_tryNumber 28 = .ok (.putfield 44, 3) := by decide +kernel
theorem dX2_tryNumber_31 : decode cX2_tryNumber 31 = .ok (.aload_n 0, 1) := by decide +kernel
theorem dX2_tryNumber_32 : decode cX2_tryNumber 32 = .ok (.getfield 22, 3) := by decide +kernel
theorem dX2_tryNumber_35 : decode cX2_tryNumber 35 = .ok (.sipush 254, 3) := by decide +kernel
theorem dX2_tryNumber_38 : decode cX2_tryNumber 38 = .ok (.invokevirtual 65, 3) := by decide +kernel
theorem dX2_tryNumber_41 : decode cX2_tryNumber 41 = .ok (.istore_n 2, 1) := by decide +kernel
theorem dX2_tryNumber_42 : decode cX2_tryNumber 42 = .ok (.iload_n 2, 1) := by decide +kernel
theorem dX2_tryNumber_43 : decode cX2_tryNumber 43 = .ok (.iconst (-1), 1) := by decide +kernel
theorem dX2_tryNumber_44 : decode cX2_tryNumber 44 = .ok (.if_icmp .ne 8, 3) := by decide +kernel
theorem dX2_tryNumber_47 : decode cX2_tryNumber 47 = .ok (.aload_n 0, 1) := by decide +kernel
theorem dX2_tryNumber_48 : decode cX2_tryNumber 48 = .ok (.invokevirtual 62, 3) := by decide +kernel
theorem dX2_tryNumber_51 : decode cX2_tryNumber 51 = .ok (.ireturn, 1) := by decide +kernel
theorem dX2_tryNumber_52 : decode cX2_tryNumber 52 = .ok (.iload_n 1, 1) := by decide +kernel
theorem dX2_tryNumber_53 : decode cX2_tryNumber 53 = .ok (.aload_n 0, 1) := by decide +kernel
theorem dX2_tryNumber_54 : decode cX2_tryNumber 54 = .ok (.getfield 22, 3) := by decide +kernel
theorem dX2_tryNumber_57 : decode cX2_tryNumber 57 = .ok (.invokevirtual 95, 3) := by decide +kernel
theorem dX2_tryNumber_60 : decode cX2_tryNumber 60 = .ok (.if_icmp .eq 5, 3) := by decide +kernel
theorem dX2_tryNumber_63 : decode cX2_tryNumber 63 = .ok (.iconst 0, 1) := by decide +kernel
theorem dX2_tryNumber_64 : decode cX2_tryNumber 64 = .ok (.ireturn, 1) := by decide +kernel
theorem dX2_tryNumber_65 : decode cX2_tryNumber 65 = .ok (.aload_n 0, 1) := by decide +kernel
theorem dX2_tryNumber_66 : decode cX2_tryNumber 66 = .ok (.getfield 22, 3) := by decide +kernel
theorem dX2_tryNumber_69 : decode cX2_tryNumber 69 = .ok (.iload_n 2, 1) := by decide +kernel
theorem dX2_tryNumber_70 : decode cX2_tryNumber 70 = .ok (.sipush 253, 3) := by decide +kernel
theorem dX2_tryNumber_73 : decode cX2_tryNumber 73 = .ok (.invokevirtual 98, 3) := by decide +kernel
theorem dX2_tryNumber_76 : decode cX2_tryNumber 76 = .ok (.ifCond .eq 7, 3) := by decide +kernel
theorem dX2_tryNumber_79 : decode cX2_tryNumber 79 = .ok (.iconst 1, 1) := by decide +kernel
theorem dX2_tryNumber_80 : decode cX2_tryNumber 80 = .ok (.goto 7, 3) := by decide +kernel
theorem dX2_tryNumber_83 : decode cX2_tryNumber 83 = .ok (.aload_n 0, 1) := by decide +kernel
theorem dX2_tryNumber_84 : decode cX2_tryNumber 84 = .ok (.invokevirtual 62, 3) := by decide +kernel
theorem dX2_tryNumber_87 : decode cX2_tryNumber 87 = .ok (.ireturn, 1) := by decide +kernel
theorem dX2_losePower_0 : decode cX2_losePower 0 = .ok (.aload_n 0, 1) := by decide +kernel
theorem dX2_losePower_1 : decode cX2_losePower 1 = .ok (.iconst 0, 1) := by decide +kernel
theorem dX2_losePower_2 : decode cX2_losePower 2 = .ok (.putfield 40, 3) := by decide +kernel
theorem dX2_losePower_5 : decode cX2_losePower 5 = .ok (.aload_n 0, 1) := by decide +kernel
theorem dX2_losePower_6 : decode cX2_losePower 6 = .ok (.iconst 0, 1) := by decide +kernel
theorem dX2_losePower_7 : decode cX2_losePower 7 = .ok (.putfield 44, 3) := by decide +kernel
theorem dX2_losePower_10 : decode cX2_losePower 10 = .ok (.bipush (-3), 2) := by decide +kernel
theorem dX2_losePower_12 : decode cX2_losePower 12 = .ok (.ireturn, 1) := by decide +kernel
theorem dL_cell_0 : decode cL_cell 0 = .ok (.iload_n 1, 1) := by decide +kernel
theorem dL_cell_1 : decode cL_cell 1 = .ok (.aload_n 0, 1) := by decide +kernel
theorem dL_cell_2 : decode cL_cell 2 = .ok (.arraylength, 1) := by decide +kernel
theorem dL_cell_3 : decode cL_cell 3 = .ok (.if_icmp .ge 9, 3) := by decide +kernel
theorem dL_cell_6 : decode cL_cell 6 = .ok (.aload_n 0, 1) := by decide +kernel
theorem dL_cell_7 : decode cL_cell 7 = .ok (.iload_n 1, 1) := by decide +kernel
theorem dL_cell_8 : decode cL_cell 8 = .ok (.iaload, 1) := by decide +kernel
theorem dL_cell_9 : decode cL_cell 9 = .ok (.goto 4, 3) := by decide +kernel
theorem dL_cell_12 : decode cL_cell 12 = .ok (.iconst 0, 1) := by decide +kernel
theorem dL_cell_13 : decode cL_cell 13 = .ok (.ireturn, 1) := by decide +kernel
theorem dL_law_0 : decode cL_law 0 = .ok (.new 7, 3) := by decide +kernel
theorem dL_law_3 : decode cL_law 3 = .ok (.dup, 1) := by decide +kernel
theorem dL_law_4 : decode cL_law 4 = .ok (.aload_n 0, 1) := by decide +kernel
theorem dL_law_5 : decode cL_law 5 = .ok (.iconst 0, 1) := by decide +kernel
theorem dL_law_6 : decode cL_law 6 = .ok (.invokestatic 9, 3) := by decide +kernel
theorem dL_law_9 : decode cL_law 9 = .ok (.aload_n 0, 1) := by decide +kernel
theorem dL_law_10 : decode cL_law 10 = .ok (.iconst 1, 1) := by decide +kernel
theorem dL_law_11 : decode cL_law 11 = .ok (.invokestatic 9, 3) := by decide +kernel
theorem dL_law_14 : decode cL_law 14 = .ok (.aload_n 0, 1) := by decide +kernel
theorem dL_law_15 : decode cL_law 15 = .ok (.iconst 2, 1) := by decide +kernel
theorem dL_law_16 : decode cL_law 16 = .ok (.invokestatic 9, 3) := by decide +kernel
theorem dL_law_19 : decode cL_law 19 = .ok (.aload_n 0, 1) := by decide +kernel
theorem dL_law_20 : decode cL_law 20 = .ok (.iconst 3, 1) := by decide +kernel
theorem dL_law_21 : decode cL_law 21 = .ok (.invokestatic 9, 3) := by decide +kernel
theorem dL_law_24 : decode cL_law 24 = .ok (.invokespecial 15, 3) := by decide +kernel
theorem dL_law_27 : decode cL_law 27 = .ok (.astore_n 1, 1) := by decide +kernel
theorem dL_law_28 : decode cL_law 28 = .ok (.new 18, 3) := by decide +kernel
theorem dL_law_31 : decode cL_law 31 = .ok (.dup, 1) := by decide +kernel
theorem dL_law_32 : decode cL_law 32 = .ok (.aload_n 0, 1) := by decide +kernel
theorem dL_law_33 : decode cL_law 33 = .ok (.iconst 0, 1) := by decide +kernel
theorem dL_law_34 : decode cL_law 34 = .ok (.invokestatic 9, 3) := by decide +kernel
theorem dL_law_37 : decode cL_law 37 = .ok (.aload_n 0, 1) := by decide +kernel
theorem dL_law_38 : decode cL_law 38 = .ok (.iconst 1, 1) := by decide +kernel
theorem dL_law_39 : decode cL_law 39 = .ok (.invokestatic 9, 3) := by decide +kernel
theorem dL_law_42 : decode cL_law 42 = .ok (.aload_n 0, 1) := by decide +kernel
theorem dL_law_43 : decode cL_law 43 = .ok (.iconst 2, 1) := by decide +kernel
theorem dL_law_44 : decode cL_law 44 = .ok (.invokestatic 9, 3) := by decide +kernel
theorem dL_law_47 : decode cL_law 47 = .ok (.aload_n 0, 1) := by decide +kernel
theorem dL_law_48 : decode cL_law 48 = .ok (.iconst 3, 1) := by decide +kernel
theorem dL_law_49 : decode cL_law 49 = .ok (.invokestatic 9, 3) := by decide +kernel
theorem dL_law_52 : decode cL_law 52 = .ok (.invokespecial 20, 3) := by decide +kernel
theorem dL_law_55 : decode cL_law 55 = .ok (.astore_n 2, 1) := by decide +kernel
theorem dL_law_56 : decode cL_law 56 = .ok (.iconst 4, 1) := by decide +kernel
theorem dL_law_57 : decode cL_law 57 = .ok (.istore_n 3, 1) := by decide +kernel
theorem dL_law_58 : decode cL_law 58 = .ok (.iload_n 3, 1) := by decide +kernel
theorem dL_law_59 : decode cL_law 59 = .ok (.aload_n 0, 1) := by decide +kernel
theorem dL_law_60 : decode cL_law 60 = .ok (.arraylength, 1) := by decide +kernel
theorem dL_law_61 : decode cL_law 61 = .ok (.iconst 3, 1) := by decide +kernel
theorem dL_law_62 : decode cL_law 62 = .ok (.isub, 1) := by decide +kernel
theorem dL_law_63 : decode cL_law 63 = .ok (.if_icmp .gt 366, 3) := by decide +kernel
theorem dL_law_66 : decode cL_law 66 = .ok (.aload_n 0, 1) := by decide +kernel
theorem dL_law_67 : decode cL_law 67 = .ok (.iload_n 3, 1) := by decide +kernel
theorem dL_law_68 : decode cL_law 68 = .ok (.iaload, 1) := by decide +kernel
theorem dL_law_69 : decode cL_law 69 = .ok (.bipush 15, 2) := by decide +kernel
theorem dL_law_71 : decode cL_law 71 = .ok (.iand, 1) := by decide +kernel
theorem dL_law_72 : decode cL_law 72 = .ok (.tableswitch 351 0 14 #[76, 99, 132, 165, 198, 211, 224, 237, 250, 263, 276, 289, 302, 315, 328], 76) := by decide +kernel
theorem dL_law_148 : decode cL_law 148 = .ok (.aload_n 1, 1) := by decide +kernel
theorem dL_law_149 : decode cL_law 149 = .ok (.aload_n 0, 1) := by decide +kernel
theorem dL_law_150 : decode cL_law 150 = .ok (.iload_n 3, 1) := by decide +kernel
theorem dL_law_151 : decode cL_law 151 = .ok (.iconst 1, 1) := by decide +kernel
theorem dL_law_152 : decode cL_law 152 = .ok (.iadd, 1) := by decide +kernel
theorem dL_law_153 : decode cL_law 153 = .ok (.iaload, 1) := by decide +kernel
theorem dL_law_154 : decode cL_law 154 = .ok (.invokevirtual 21, 3) := by decide +kernel
theorem dL_law_157 : decode cL_law 157 = .ok (.aload_n 2, 1) := by decide +kernel
theorem dL_law_158 : decode cL_law 158 = .ok (.aload_n 0, 1) := by decide +kernel
theorem dL_law_159 : decode cL_law 159 = .ok (.iload_n 3, 1) := by decide +kernel
theorem dL_law_160 : decode cL_law 160 = .ok (.iconst 1, 1) := by decide +kernel
theorem dL_law_161 : decode cL_law 161 = .ok (.iadd, 1) := by decide +kernel
theorem dL_law_162 : decode cL_law 162 = .ok (.iaload, 1) := by decide +kernel
theorem dL_law_163 : decode cL_law 163 = .ok (.invokevirtual 25, 3) := by decide +kernel
theorem dL_law_166 : decode cL_law 166 = .ok (.if_icmp .eq 257, 3) := by decide +kernel
theorem dL_law_169 : decode cL_law 169 = .ok (.iconst 0, 1) := by decide +kernel
theorem dL_law_170 : decode cL_law 170 = .ok (.ireturn, 1) := by decide +kernel
theorem dL_law_171 : decode cL_law 171 = .ok (.aload_n 1, 1) := by decide +kernel
theorem dL_law_172 : decode cL_law 172 = .ok (.aload_n 0, 1) := by decide +kernel
theorem dL_law_173 : decode cL_law 173 = .ok (.iload_n 3, 1) := by decide +kernel
theorem dL_law_174 : decode cL_law 174 = .ok (.iconst 1, 1) := by decide +kernel
theorem dL_law_175 : decode cL_law 175 = .ok (.iadd, 1) := by decide +kernel
theorem dL_law_176 : decode cL_law 176 = .ok (.iaload, 1) := by decide +kernel
theorem dL_law_177 : decode cL_law 177 = .ok (.aload_n 0, 1) := by decide +kernel
theorem dL_law_178 : decode cL_law 178 = .ok (.iload_n 3, 1) := by decide +kernel
theorem dL_law_179 : decode cL_law 179 = .ok (.iconst 2, 1) := by decide +kernel
theorem dL_law_180 : decode cL_law 180 = .ok (.iadd, 1) := by decide +kernel
theorem dL_law_181 : decode cL_law 181 = .ok (.iaload, 1) := by decide +kernel
theorem dL_law_182 : decode cL_law 182 = .ok (.invokevirtual 26, 3) := by decide +kernel
theorem dL_law_185 : decode cL_law 185 = .ok (.aload_n 2, 1) := by decide +kernel
theorem dL_law_186 : decode cL_law 186 = .ok (.aload_n 0, 1) := by decide +kernel
theorem dL_law_187 : decode cL_law 187 = .ok (.iload_n 3, 1) := by decide +kernel
theorem dL_law_188 : decode cL_law 188 = .ok (.iconst 1, 1) := by decide +kernel
theorem dL_law_189 : decode cL_law 189 = .ok (.iadd, 1) := by decide +kernel
theorem dL_law_190 : decode cL_law 190 = .ok (.iaload, 1) := by decide +kernel
theorem dL_law_191 : decode cL_law 191 = .ok (.aload_n 0, 1) := by decide +kernel
theorem dL_law_192 : decode cL_law 192 = .ok (.iload_n 3, 1) := by decide +kernel
theorem dL_law_193 : decode cL_law 193 = .ok (.iconst 2, 1) := by decide +kernel
theorem dL_law_194 : decode cL_law 194 = .ok (.iadd, 1) := by decide +kernel
theorem dL_law_195 : decode cL_law 195 = .ok (.iaload, 1) := by decide +kernel
theorem dL_law_196 : decode cL_law 196 = .ok (.invokevirtual 30, 3) := by decide +kernel
theorem dL_law_199 : decode cL_law 199 = .ok (.if_icmp .eq 224, 3) := by decide +kernel
theorem dL_law_202 : decode cL_law 202 = .ok (.iconst 0, 1) := by decide +kernel
theorem dL_law_203 : decode cL_law 203 = .ok (.ireturn, 1) := by decide +kernel
theorem dL_law_204 : decode cL_law 204 = .ok (.aload_n 1, 1) := by decide +kernel
theorem dL_law_205 : decode cL_law 205 = .ok (.aload_n 0, 1) := by decide +kernel
theorem dL_law_206 : decode cL_law 206 = .ok (.iload_n 3, 1) := by decide +kernel
theorem dL_law_207 : decode cL_law 207 = .ok (.iconst 1, 1) := by decide +kernel
theorem dL_law_208 : decode cL_law 208 = .ok (.iadd, 1) := by decide +kernel
theorem dL_law_209 : decode cL_law 209 = .ok (.iaload, 1) := by decide +kernel
theorem dL_law_210 : decode cL_law 210 = .ok (.aload_n 0, 1) := by decide +kernel
theorem dL_law_211 : decode cL_law 211 = .ok (.iload_n 3, 1) := by decide +kernel
theorem dL_law_212 : decode cL_law 212 = .ok (.iconst 2, 1) := by decide +kernel
theorem dL_law_213 : decode cL_law 213 = .ok (.iadd, 1) := by decide +kernel
theorem dL_law_214 : decode cL_law 214 = .ok (.iaload, 1) := by decide +kernel
theorem dL_law_215 : decode cL_law 215 = .ok (.invokevirtual 31, 3) := by decide +kernel
theorem dL_law_218 : decode cL_law 218 = .ok (.aload_n 2, 1) := by decide +kernel
theorem dL_law_219 : decode cL_law 219 = .ok (.aload_n 0, 1) := by decide +kernel
theorem dL_law_220 : decode cL_law 220 = .ok (.iload_n 3, 1) := by decide +kernel
theorem dL_law_221 : decode cL_law 221 = .ok (.iconst 1, 1) := by decide +kernel
theorem dL_law_222 : decode cL_law 222 = .ok (.iadd, 1) := by decide +kernel
theorem dL_law_223 : decode cL_law 223 = .ok (.iaload, 1) := by decide +kernel
theorem dL_law_224 : decode cL_law 224 = .ok (.aload_n 0, 1) := by decide +kernel
theorem dL_law_225 : decode cL_law 225 = .ok (.iload_n 3, 1) := by decide +kernel
theorem dL_law_226 : decode cL_law 226 = .ok (.iconst 2, 1) := by decide +kernel
theorem dL_law_227 : decode cL_law 227 = .ok (.iadd, 1) := by decide +kernel
theorem dL_law_228 : decode cL_law 228 = .ok (.iaload, 1) := by decide +kernel
theorem dL_law_229 : decode cL_law 229 = .ok (.invokevirtual 34, 3) := by decide +kernel
theorem dL_law_232 : decode cL_law 232 = .ok (.if_icmp .eq 191, 3) := by decide +kernel
theorem dL_law_235 : decode cL_law 235 = .ok (.iconst 0, 1) := by decide +kernel
theorem dL_law_236 : decode cL_law 236 = .ok (.ireturn, 1) := by decide +kernel
theorem dL_law_237 : decode cL_law 237 = .ok (.aload_n 1, 1) := by decide +kernel
theorem dL_law_238 : decode cL_law 238 = .ok (.aload_n 0, 1) := by decide +kernel
theorem dL_law_239 : decode cL_law 239 = .ok (.iload_n 3, 1) := by decide +kernel
theorem dL_law_240 : decode cL_law 240 = .ok (.iconst 1, 1) := by decide +kernel
theorem dL_law_241 : decode cL_law 241 = .ok (.iadd, 1) := by decide +kernel
theorem dL_law_242 : decode cL_law 242 = .ok (.iaload, 1) := by decide +kernel
theorem dL_law_243 : decode cL_law 243 = .ok (.aload_n 0, 1) := by decide +kernel
theorem dL_law_244 : decode cL_law 244 = .ok (.iload_n 3, 1) := by decide +kernel
theorem dL_law_245 : decode cL_law 245 = .ok (.iconst 2, 1) := by decide +kernel
theorem dL_law_246 : decode cL_law 246 = .ok (.iadd, 1) := by decide +kernel
theorem dL_law_247 : decode cL_law 247 = .ok (.iaload, 1) := by decide +kernel
theorem dL_law_248 : decode cL_law 248 = .ok (.invokevirtual 35, 3) := by decide +kernel
theorem dL_law_251 : decode cL_law 251 = .ok (.aload_n 2, 1) := by decide +kernel
theorem dL_law_252 : decode cL_law 252 = .ok (.aload_n 0, 1) := by decide +kernel
theorem dL_law_253 : decode cL_law 253 = .ok (.iload_n 3, 1) := by decide +kernel
theorem dL_law_254 : decode cL_law 254 = .ok (.iconst 1, 1) := by decide +kernel
theorem dL_law_255 : decode cL_law 255 = .ok (.iadd, 1) := by decide +kernel
theorem dL_law_256 : decode cL_law 256 = .ok (.iaload, 1) := by decide +kernel
theorem dL_law_257 : decode cL_law 257 = .ok (.aload_n 0, 1) := by decide +kernel
theorem dL_law_258 : decode cL_law 258 = .ok (.iload_n 3, 1) := by decide +kernel
theorem dL_law_259 : decode cL_law 259 = .ok (.iconst 2, 1) := by decide +kernel
theorem dL_law_260 : decode cL_law 260 = .ok (.iadd, 1) := by decide +kernel
theorem dL_law_261 : decode cL_law 261 = .ok (.iaload, 1) := by decide +kernel
theorem dL_law_262 : decode cL_law 262 = .ok (.invokevirtual 39, 3) := by decide +kernel
theorem dL_law_265 : decode cL_law 265 = .ok (.if_icmp .eq 158, 3) := by decide +kernel
theorem dL_law_268 : decode cL_law 268 = .ok (.iconst 0, 1) := by decide +kernel
theorem dL_law_269 : decode cL_law 269 = .ok (.ireturn, 1) := by decide +kernel
theorem dL_law_270 : decode cL_law 270 = .ok (.aload_n 1, 1) := by decide +kernel
theorem dL_law_271 : decode cL_law 271 = .ok (.invokevirtual 40, 3) := by decide +kernel
theorem dL_law_274 : decode cL_law 274 = .ok (.aload_n 2, 1) := by decide +kernel
theorem dL_law_275 : decode cL_law 275 = .ok (.invokevirtual 44, 3) := by decide +kernel
theorem dL_law_278 : decode cL_law 278 = .ok (.if_icmp .eq 145, 3) := by decide +kernel
theorem dL_law_281 : decode cL_law 281 = .ok (.iconst 0, 1) := by decide +kernel
theorem dL_law_282 : decode cL_law 282 = .ok (.ireturn, 1) := by decide +kernel
theorem dL_law_283 : decode cL_law 283 = .ok (.aload_n 1, 1) := by decide +kernel
theorem dL_law_284 : decode cL_law 284 = .ok (.invokevirtual 45, 3) := by decide +kernel
theorem dL_law_287 : decode cL_law 287 = .ok (.aload_n 2, 1) := by decide +kernel
theorem dL_law_288 : decode cL_law 288 = .ok (.invokevirtual 48, 3) := by decide +kernel
theorem dL_law_291 : decode cL_law 291 = .ok (.if_icmp .eq 132, 3) := by decide +kernel
theorem dL_law_294 : decode cL_law 294 = .ok (.iconst 0, 1) := by decide +kernel
theorem dL_law_295 : decode cL_law 295 = .ok (.ireturn, 1) := by decide +kernel
theorem dL_law_296 : decode cL_law 296 = .ok (.aload_n 1, 1) := by decide +kernel
theorem dL_law_297 : decode cL_law 297 = .ok (.invokevirtual 49, 3) := by decide +kernel
theorem dL_law_300 : decode cL_law 300 = .ok (.aload_n 2, 1) := by decide +kernel
theorem dL_law_301 : decode cL_law 301 = .ok (.invokevirtual 52, 3) := by decide +kernel
theorem dL_law_304 : decode cL_law 304 = .ok (.if_icmp .eq 119, 3) := by decide +kernel
theorem dL_law_307 : decode cL_law 307 = .ok (.iconst 0, 1) := by decide +kernel
theorem dL_law_308 : decode cL_law 308 = .ok (.ireturn, 1) := by decide +kernel
theorem dL_law_309 : decode cL_law 309 = .ok (.aload_n 1, 1) := by decide +kernel
theorem dL_law_310 : decode cL_law 310 = .ok (.invokevirtual 53, 3) := by decide +kernel
theorem dL_law_313 : decode cL_law 313 = .ok (.aload_n 2, 1) := by decide +kernel
theorem dL_law_314 : decode cL_law 314 = .ok (.invokevirtual 56, 3) := by decide +kernel
theorem dL_law_317 : decode cL_law 317 = .ok (.if_icmp .eq 106, 3) := by decide +kernel
theorem dL_law_320 : decode cL_law 320 = .ok (.iconst 0, 1) := by decide +kernel
theorem dL_law_321 : decode cL_law 321 = .ok (.ireturn, 1) := by decide +kernel
theorem dL_law_322 : decode cL_law 322 = .ok (.aload_n 1, 1) := by decide +kernel
theorem dL_law_323 : decode cL_law 323 = .ok (.invokevirtual 57, 3) := by decide +kernel
theorem dL_law_326 : decode cL_law 326 = .ok (.aload_n 2, 1) := by decide +kernel
theorem dL_law_327 : decode cL_law 327 = .ok (.invokevirtual 61, 3) := by decide +kernel
theorem dL_law_330 : decode cL_law 330 = .ok (.if_icmp .eq 93, 3) := by decide +kernel
theorem dL_law_333 : decode cL_law 333 = .ok (.iconst 0, 1) := by decide +kernel
theorem dL_law_334 : decode cL_law 334 = .ok (.ireturn, 1) := by decide +kernel
theorem dL_law_335 : decode cL_law 335 = .ok (.aload_n 1, 1) := by decide +kernel
theorem dL_law_336 : decode cL_law 336 = .ok (.invokevirtual 62, 3) := by decide +kernel
theorem dL_law_339 : decode cL_law 339 = .ok (.aload_n 2, 1) := by decide +kernel
theorem dL_law_340 : decode cL_law 340 = .ok (.invokevirtual 65, 3) := by decide +kernel
theorem dL_law_343 : decode cL_law 343 = .ok (.if_icmp .eq 80, 3) := by decide +kernel
theorem dL_law_346 : decode cL_law 346 = .ok (.iconst 0, 1) := by decide +kernel
theorem dL_law_347 : decode cL_law 347 = .ok (.ireturn, 1) := by decide +kernel
theorem dL_law_348 : decode cL_law 348 = .ok (.aload_n 1, 1) := by decide +kernel
theorem dL_law_349 : decode cL_law 349 = .ok (.invokevirtual 66, 3) := by decide +kernel
theorem dL_law_352 : decode cL_law 352 = .ok (.aload_n 2, 1) := by decide +kernel
theorem dL_law_353 : decode cL_law 353 = .ok (.invokevirtual 69, 3) := by decide +kernel
theorem dL_law_356 : decode cL_law 356 = .ok (.if_icmp .eq 67, 3) := by decide +kernel
theorem dL_law_359 : decode cL_law 359 = .ok (.iconst 0, 1) := by decide +kernel
theorem dL_law_360 : decode cL_law 360 = .ok (.ireturn, 1) := by decide +kernel
theorem dL_law_361 : decode cL_law 361 = .ok (.aload_n 1, 1) := by decide +kernel
theorem dL_law_362 : decode cL_law 362 = .ok (.invokevirtual 70, 3) := by decide +kernel
theorem dL_law_365 : decode cL_law 365 = .ok (.aload_n 2, 1) := by decide +kernel
theorem dL_law_366 : decode cL_law 366 = .ok (.invokevirtual 73, 3) := by decide +kernel
theorem dL_law_369 : decode cL_law 369 = .ok (.if_icmp .eq 54, 3) := by decide +kernel
theorem dL_law_372 : decode cL_law 372 = .ok (.iconst 0, 1) := by decide +kernel
theorem dL_law_373 : decode cL_law 373 = .ok (.ireturn, 1) := by decide +kernel
theorem dL_law_374 : decode cL_law 374 = .ok (.aload_n 1, 1) := by decide +kernel
theorem dL_law_375 : decode cL_law 375 = .ok (.invokevirtual 74, 3) := by decide +kernel
theorem dL_law_378 : decode cL_law 378 = .ok (.aload_n 2, 1) := by decide +kernel
theorem dL_law_379 : decode cL_law 379 = .ok (.invokevirtual 77, 3) := by decide +kernel
theorem dL_law_382 : decode cL_law 382 = .ok (.if_icmp .eq 41, 3) := by decide +kernel
theorem dL_law_385 : decode cL_law 385 = .ok (.iconst 0, 1) := by decide +kernel
theorem dL_law_386 : decode cL_law 386 = .ok (.ireturn, 1) := by decide +kernel
theorem dL_law_387 : decode cL_law 387 = .ok (.aload_n 1, 1) := by decide +kernel
theorem dL_law_388 : decode cL_law 388 = .ok (.invokevirtual 78, 3) := by decide +kernel
theorem dL_law_391 : decode cL_law 391 = .ok (.aload_n 2, 1) := by decide +kernel
theorem dL_law_392 : decode cL_law 392 = .ok (.invokevirtual 81, 3) := by decide +kernel
theorem dL_law_395 : decode cL_law 395 = .ok (.if_icmp .eq 28, 3) := by decide +kernel
theorem dL_law_398 : decode cL_law 398 = .ok (.iconst 0, 1) := by decide +kernel
theorem dL_law_399 : decode cL_law 399 = .ok (.ireturn, 1) := by decide +kernel
theorem dL_law_400 : decode cL_law 400 = .ok (.aload_n 1, 1) := by decide +kernel
theorem dL_law_401 : decode cL_law 401 = .ok (.aload_n 0, 1) := by decide +kernel
theorem dL_law_402 : decode cL_law 402 = .ok (.iload_n 3, 1) := by decide +kernel
theorem dL_law_403 : decode cL_law 403 = .ok (.iconst 1, 1) := by decide +kernel
theorem dL_law_404 : decode cL_law 404 = .ok (.iadd, 1) := by decide +kernel
theorem dL_law_405 : decode cL_law 405 = .ok (.iaload, 1) := by decide +kernel
theorem dL_law_406 : decode cL_law 406 = .ok (.invokevirtual 82, 3) := by decide +kernel
theorem dL_law_409 : decode cL_law 409 = .ok (.aload_n 2, 1) := by decide +kernel
theorem dL_law_410 : decode cL_law 410 = .ok (.aload_n 0, 1) := by decide +kernel
theorem dL_law_411 : decode cL_law 411 = .ok (.iload_n 3, 1) := by decide +kernel
theorem dL_law_412 : decode cL_law 412 = .ok (.iconst 1, 1) := by decide +kernel
theorem dL_law_413 : decode cL_law 413 = .ok (.iadd, 1) := by decide +kernel
theorem dL_law_414 : decode cL_law 414 = .ok (.iaload, 1) := by decide +kernel
theorem dL_law_415 : decode cL_law 415 = .ok (.invokevirtual 85, 3) := by decide +kernel
theorem dL_law_418 : decode cL_law 418 = .ok (.if_icmp .eq 5, 3) := by decide +kernel
theorem dL_law_421 : decode cL_law 421 = .ok (.iconst 0, 1) := by decide +kernel
theorem dL_law_422 : decode cL_law 422 = .ok (.ireturn, 1) := by decide +kernel
theorem dL_law_423 : decode cL_law 423 = .ok (.iinc 3 3, 3) := by decide +kernel
theorem dL_law_426 : decode cL_law 426 = .ok (.goto (-368), 3) := by decide +kernel
theorem dL_law_429 : decode cL_law 429 = .ok (.iconst 1, 1) := by decide +kernel
theorem dL_law_430 : decode cL_law 430 = .ok (.ireturn, 1) := by decide +kernel

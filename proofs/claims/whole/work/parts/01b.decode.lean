theorem dX0_init_0 : decode cX0_init 0 = .ok (.aload_n 0, 1) := by decide +kernel
theorem dX0_init_1 : decode cX0_init 1 = .ok (.invokespecial 1, 3) := by decide +kernel
theorem dX0_init_4 : decode cX0_init 4 = .ok (.aload_n 0, 1) := by decide +kernel
theorem dX0_init_5 : decode cX0_init 5 = .ok (.bipush 32, 2) := by decide +kernel
theorem dX0_init_7 : decode cX0_init 7 = .ok (.newarray .int, 2) := by decide +kernel
theorem dX0_init_9 : decode cX0_init 9 = .ok (.putfield 9, 3) := by decide +kernel
theorem dX0_init_12 : decode cX0_init 12 = .ok (.aload_n 0, 1) := by decide +kernel
theorem dX0_init_13 : decode cX0_init 13 = .ok (.iconst 2, 1) := by decide +kernel
theorem dX0_init_14 : decode cX0_init 14 = .ok (.newarray .int, 2) := by decide +kernel
theorem dX0_init_16 : decode cX0_init 16 = .ok (.putfield 13, 3) := by decide +kernel
theorem dX0_init_19 : decode cX0_init 19 = .ok (.iconst 0, 1) := by decide +kernel
theorem dX0_init_20 : decode cX0_init 20 = .ok (.istore_n 1, 1) := by decide +kernel
theorem dX0_init_21 : decode cX0_init 21 = .ok (.iload_n 1, 1) := by decide +kernel
theorem dX0_init_22 : decode cX0_init 22 = .ok (.aload_n 0, 1) := by decide +kernel
theorem dX0_init_23 : decode cX0_init 23 = .ok (.getfield 9, 3) := by decide +kernel
theorem dX0_init_26 : decode cX0_init 26 = .ok (.arraylength, 1) := by decide +kernel
theorem dX0_init_27 : decode cX0_init 27 = .ok (.if_icmp .ge 18, 3) := by decide +kernel
theorem dX0_init_30 : decode cX0_init 30 = .ok (.aload_n 0, 1) := by decide +kernel
theorem dX0_init_31 : decode cX0_init 31 = .ok (.getfield 9, 3) := by decide +kernel
theorem dX0_init_34 : decode cX0_init 34 = .ok (.iload_n 1, 1) := by decide +kernel
theorem dX0_init_35 : decode cX0_init 35 = .ok (.sipush 255, 3) := by decide +kernel
theorem dX0_init_38 : decode cX0_init 38 = .ok (.iastore, 1) := by decide +kernel
theorem dX0_init_39 : decode cX0_init 39 = .ok (.iinc 1 1, 3) := by decide +kernel
theorem dX0_init_42 : decode cX0_init 42 = .ok (.goto (-21), 3) := by decide +kernel
theorem dX0_init_45 : decode cX0_init 45 = .ok (.aload_n 0, 1) := by decide +kernel
theorem dX0_init_46 : decode cX0_init 46 = .ok (.iconst 0, 1) := by decide +kernel
theorem dX0_init_47 : decode cX0_init 47 = .ok (.putfield 16, 3) := by decide +kernel
theorem dX0_init_50 : decode cX0_init 50 = .ok (.aload_n 0, 1) := by decide +kernel
theorem dX0_init_51 : decode cX0_init 51 = .ok (.iconst 0, 1) := by decide +kernel
theorem dX0_init_52 : decode cX0_init 52 = .ok (.putfield 20, 3) := by decide +kernel
theorem dX0_init_55 : decode cX0_init 55 = .ok (.aload_n 0, 1) := by decide +kernel
theorem dX0_init_56 : decode cX0_init 56 = .ok (.iconst 0, 1) := by decide +kernel
theorem dX0_init_57 : decode cX0_init 57 = .ok (.putfield 23, 3) := by decide +kernel
theorem dX0_init_60 : decode cX0_init 60 = .ok (.return_, 1) := by decide +kernel
theorem dX0_read_0 : decode cX0_read 0 = .ok (.iload_n 1, 1) := by decide +kernel
theorem dX0_read_1 : decode cX0_read 1 = .ok (.bipush 16, 2) := by decide +kernel
theorem dX0_read_3 : decode cX0_read 3 = .ok (.imul, 1) := by decide +kernel
theorem dX0_read_4 : decode cX0_read 4 = .ok (.iload_n 2, 1) := by decide +kernel
theorem dX0_read_5 : decode cX0_read 5 = .ok (.iadd, 1) := by decide +kernel
theorem dX0_read_6 : decode cX0_read 6 = .ok (.istore_n 3, 1) := by decide +kernel
theorem dX0_read_7 : decode cX0_read 7 = .ok (.iload_n 3, 1) := by decide +kernel
theorem dX0_read_8 : decode cX0_read 8 = .ok (.ifCond .lt 21, 3) := by decide +kernel
theorem dX0_read_11 : decode cX0_read 11 = .ok (.iload_n 3, 1) := by decide +kernel
theorem dX0_read_12 : decode cX0_read 12 = .ok (.aload_n 0, 1) := by decide +kernel
theorem dX0_read_13 : decode cX0_read 13 = .ok (.getfield 9, 3) := by decide +kernel
theorem dX0_read_16 : decode cX0_read 16 = .ok (.arraylength, 1) := by decide +kernel
theorem dX0_read_17 : decode cX0_read 17 = .ok (.if_icmp .ge 12, 3) := by decide +kernel
theorem dX0_read_20 : decode cX0_read 20 = .ok (.aload_n 0, 1) := by decide +kernel
theorem dX0_read_21 : decode cX0_read 21 = .ok (.getfield 9, 3) := by decide +kernel
theorem dX0_read_24 : decode cX0_read 24 = .ok (.iload_n 3, 1) := by decide +kernel
theorem dX0_read_25 : decode cX0_read 25 = .ok (.iaload, 1) := by decide +kernel
theorem dX0_read_26 : decode cX0_read 26 = .ok (.goto 6, 3) := by decide +kernel
theorem dX0_read_29 : decode cX0_read 29 = .ok (.sipush 255, 3) := by decide +kernel
theorem dX0_read_32 : decode cX0_read 32 = .ok (.ireturn, 1) := by decide +kernel
theorem dX0_preset_0 : decode cX0_preset 0 = .ok (.iload_n 1, 1) := by decide +kernel
theorem dX0_preset_1 : decode cX0_preset 1 = .ok (.bipush 16, 2) := by decide +kernel
theorem dX0_preset_3 : decode cX0_preset 3 = .ok (.imul, 1) := by decide +kernel
theorem dX0_preset_4 : decode cX0_preset 4 = .ok (.iload_n 2, 1) := by decide +kernel
theorem dX0_preset_5 : decode cX0_preset 5 = .ok (.iadd, 1) := by decide +kernel
theorem dX0_preset_6 : decode cX0_preset 6 = .ok (.istore 4, 2) := by decide +kernel
theorem dX0_preset_8 : decode cX0_preset 8 = .ok (.iload 4, 2) := by decide +kernel
theorem dX0_preset_10 : decode cX0_preset 10 = .ok (.ifCond .lt 21, 3) := by decide +kernel
theorem dX0_preset_13 : decode cX0_preset 13 = .ok (.iload 4, 2) := by decide +kernel
theorem dX0_preset_15 : decode cX0_preset 15 = .ok (.aload_n 0, 1) := by decide +kernel
theorem dX0_preset_16 : decode cX0_preset 16 = .ok (.getfield 9, 3) := by decide +kernel
theorem dX0_preset_19 : decode cX0_preset 19 = .ok (.arraylength, 1) := by decide +kernel
theorem dX0_preset_20 : decode cX0_preset 20 = .ok (.if_icmp .ge 11, 3) := by decide +kernel
theorem dX0_preset_23 : decode cX0_preset 23 = .ok (.aload_n 0, 1) := by decide +kernel
theorem dX0_preset_24 : decode cX0_preset 24 = .ok (.getfield 9, 3) := by decide +kernel
theorem dX0_preset_27 : decode cX0_preset 27 = .ok (.iload 4, 2) := by decide +kernel
theorem dX0_preset_29 : decode cX0_preset 29 = .ok (.iload_n 3, 1) := by decide +kernel
theorem dX0_preset_30 : decode cX0_preset 30 = .ok (.iastore, 1) := by decide +kernel
theorem dX0_preset_31 : decode cX0_preset 31 = .ok (.return_, 1) := by decide +kernel
theorem dX0_program_0 : decode cX0_program 0 = .ok (.aload_n 0, 1) := by decide +kernel
theorem dX0_program_1 : decode cX0_program 1 = .ok (.invokevirtual 26, 3) := by decide +kernel
theorem dX0_program_4 : decode cX0_program 4 = .ok (.istore 4, 2) := by decide +kernel
theorem dX0_program_6 : decode cX0_program 6 = .ok (.iload 4, 2) := by decide +kernel
theorem dX0_program_8 : decode cX0_program 8 = .ok (.ifCond .eq 10, 3) := by decide +kernel
theorem dX0_program_11 : decode cX0_program 11 = .ok (.aload_n 0, 1) := by decide +kernel
theorem dX0_program_12 : decode cX0_program 12 = .ok (.getfield 23, 3) := by decide +kernel
theorem dX0_program_15 : decode cX0_program 15 = .ok (.goto 6, 3) := by decide +kernel
theorem dX0_program_18 : decode cX0_program 18 = .ok (.sipush 255, 3) := by decide +kernel
theorem dX0_program_21 : decode cX0_program 21 = .ok (.istore 5, 2) := by decide +kernel
theorem dX0_program_23 : decode cX0_program 23 = .ok (.iload_n 1, 1) := by decide +kernel
theorem dX0_program_24 : decode cX0_program 24 = .ok (.bipush 16, 2) := by decide +kernel
theorem dX0_program_26 : decode cX0_program 26 = .ok (.imul, 1) := by decide +kernel
theorem dX0_program_27 : decode cX0_program 27 = .ok (.iload_n 2, 1) := by decide +kernel
theorem dX0_program_28 : decode cX0_program 28 = .ok (.iadd, 1) := by decide +kernel
theorem dX0_program_29 : decode cX0_program 29 = .ok (.istore 6, 2) := by decide +kernel
theorem dX0_program_31 : decode cX0_program 31 = .ok (.iload 6, 2) := by decide +kernel
theorem dX0_program_33 : decode cX0_program 33 = .ok (.ifCond .lt 29, 3) := by decide +kernel
theorem dX0_program_36 : decode cX0_program 36 = .ok (.iload 6, 2) := by decide +kernel
theorem dX0_program_38 : decode cX0_program 38 = .ok (.aload_n 0, 1) := by decide +kernel
theorem dX0_program_39 : decode cX0_program 39 = .ok (.getfield 9, 3) := by decide +kernel
theorem dX0_program_42 : decode cX0_program 42 = .ok (.arraylength, 1) := by decide +kernel
theorem dX0_program_43 : decode cX0_program 43 = .ok (.if_icmp .ge 19, 3) := by decide +kernel
theorem dX0_program_46 : decode cX0_program 46 = .ok (.aload_n 0, 1) := by decide +kernel
theorem dX0_program_47 : decode cX0_program 47 = .ok (.getfield 9, 3) := by decide +kernel
theorem dX0_program_50 : decode cX0_program 50 = .ok (.iload 6, 2) := by decide +kernel
theorem dX0_program_52 : decode cX0_program 52 = .ok (.dup2, 1) := by decide +kernel
theorem dX0_program_53 : decode cX0_program 53 = .ok (.iaload, 1) := by decide +kernel
theorem dX0_program_54 : decode cX0_program 54 = .ok (.iload_n 3, 1) := by decide +kernel
theorem dX0_program_55 : decode cX0_program 55 = .ok (.iload 5, 2) := by decide +kernel
theorem dX0_program_57 : decode cX0_program 57 = .ok (.iconst (-1), 1) := by decide +kernel
theorem dX0_program_58 : decode cX0_program 58 = .ok (.ixor, 1) := by decide +kernel
theorem dX0_program_59 : decode cX0_program 59 = .ok (.ior, 1) := by decide +kernel
theorem dX0_program_60 : decode cX0_program 60 = .ok (.iand, 1) := by decide +kernel
theorem dX0_program_61 : decode cX0_program 61 = .ok (.iastore, 1) := by decide +kernel
theorem dX0_program_62 : decode cX0_program 62 = .ok (.iload 4, 2) := by decide +kernel
theorem dX0_program_64 : decode cX0_program 64 = .ok (.ifCond .ne 7, 3) := by decide +kernel
theorem dX0_program_67 : decode cX0_program 67 = .ok (.iconst 1, 1) := by decide +kernel
theorem dX0_program_68 : decode cX0_program 68 = .ok (.goto 4, 3) := by decide +kernel
theorem dX0_program_71 : decode cX0_program 71 = .ok (.iconst 0, 1) := by decide +kernel
theorem dX0_program_72 : decode cX0_program 72 = .ok (.ireturn, 1) := by decide +kernel
theorem dX0_erase_0 : decode cX0_erase 0 = .ok (.aload_n 0, 1) := by decide +kernel
theorem dX0_erase_1 : decode cX0_erase 1 = .ok (.invokevirtual 26, 3) := by decide +kernel
theorem dX0_erase_4 : decode cX0_erase 4 = .ok (.istore_n 2, 1) := by decide +kernel
theorem dX0_erase_5 : decode cX0_erase 5 = .ok (.iload_n 2, 1) := by decide +kernel
theorem dX0_erase_6 : decode cX0_erase 6 = .ok (.ifCond .eq 10, 3) := by decide +kernel
theorem dX0_erase_9 : decode cX0_erase 9 = .ok (.aload_n 0, 1) := by decide +kernel
theorem dX0_erase_10 : decode cX0_erase 10 = .ok (.getfield 23, 3) := by decide +kernel
theorem dX0_erase_13 : decode cX0_erase 13 = .ok (.goto 6, 3) := by decide +kernel
theorem dX0_erase_16 : decode cX0_erase 16 = .ok (.sipush 255, 3) := by decide +kernel
theorem dX0_erase_19 : decode cX0_erase 19 = .ok (.istore_n 3, 1) := by decide +kernel
theorem dX0_erase_20 : decode cX0_erase 20 = .ok (.iload_n 1, 1) := by decide +kernel
theorem dX0_erase_21 : decode cX0_erase 21 = .ok (.invokestatic 30, 3) := by decide +kernel
theorem dX0_erase_24 : decode cX0_erase 24 = .ok (.ifCond .eq 57, 3) := by decide +kernel
theorem dX0_erase_27 : decode cX0_erase 27 = .ok (.aload_n 0, 1) := by decide +kernel
theorem dX0_erase_28 : decode cX0_erase 28 = .ok (.getfield 13, 3) := by decide +kernel
theorem dX0_erase_31 : decode cX0_erase 31 = .ok (.iload_n 1, 1) := by decide +kernel
theorem dX0_erase_32 : decode cX0_erase 32 = .ok (.dup2, 1) := by decide +kernel
theorem dX0_erase_33 : decode cX0_erase 33 = .ok (.iaload, 1) := by decide +kernel
theorem dX0_erase_34 : decode cX0_erase 34 = .ok (.iconst 1, 1) := by decide +kernel
theorem dX0_erase_35 : decode cX0_erase 35 = .ok (.iadd, 1) := by decide +kernel
theorem dX0_erase_36 : decode cX0_erase 36 = .ok (.iastore, 1) := by decide +kernel
theorem dX0_erase_37 : decode cX0_erase 37 = .ok (.iconst 0, 1) := by decide +kernel
theorem dX0_erase_38 : decode cX0_erase 38 = .ok (.istore 4, 2) := by decide +kernel
theorem dX0_erase_40 : decode cX0_erase 40 = .ok (.iload 4, 2) := by decide +kernel
theorem dX0_erase_42 : decode cX0_erase 42 = .ok (.bipush 16, 2) := by decide +kernel
theorem dX0_erase_44 : decode cX0_erase 44 = .ok (.if_icmp .ge 37, 3) := by decide +kernel
theorem dX0_erase_47 : decode cX0_erase 47 = .ok (.iload_n 3, 1) := by decide +kernel
theorem dX0_erase_48 : decode cX0_erase 48 = .ok (.iload 4, 2) := by decide +kernel
theorem dX0_erase_50 : decode cX0_erase 50 = .ok (.bipush 7, 2) := by decide +kernel
theorem dX0_erase_52 : decode cX0_erase 52 = .ok (.iand, 1) := by decide +kernel
theorem dX0_erase_53 : decode cX0_erase 53 = .ok (.ishr, 1) := by decide +kernel
theorem dX0_erase_54 : decode cX0_erase 54 = .ok (.iconst 1, 1) := by decide +kernel
theorem dX0_erase_55 : decode cX0_erase 55 = .ok (.iand, 1) := by decide +kernel
theorem dX0_erase_56 : decode cX0_erase 56 = .ok (.iconst 1, 1) := by decide +kernel
theorem dX0_erase_57 : decode cX0_erase 57 = .ok (.if_icmp .ne 18, 3) := by decide +kernel
theorem dX0_erase_60 : decode cX0_erase 60 = .ok (.aload_n 0, 1) := by decide +kernel
theorem dX0_erase_61 : decode cX0_erase 61 = .ok (.getfield 9, 3) := by decide +kernel
theorem dX0_erase_64 : decode cX0_erase 64 = .ok (.iload_n 1, 1) := by decide +kernel
theorem dX0_erase_65 : decode cX0_erase 65 = .ok (.bipush 16, 2) := by decide +kernel
theorem dX0_erase_67 : decode cX0_erase 67 = .ok (.imul, 1) := by decide +kernel
theorem dX0_erase_68 : decode cX0_erase 68 = .ok (.iload 4, 2) := by decide +kernel
theorem dX0_erase_70 : decode cX0_erase 70 = .ok (.iadd, 1) := by decide +kernel
theorem dX0_erase_71 : decode cX0_erase 71 = .ok (.sipush 255, 3) := by decide +kernel
theorem dX0_erase_74 : decode cX0_erase 74 = .ok (.iastore, 1) := by decide +kernel
theorem dX0_erase_75 : decode cX0_erase 75 = .ok (.iinc 4 1, 3) := by decide +kernel
theorem dX0_erase_78 : decode cX0_erase 78 = .ok (.goto (-38), 3) := by decide +kernel
theorem dX0_erase_81 : decode cX0_erase 81 = .ok (.iload_n 2, 1) := by decide +kernel
theorem dX0_erase_82 : decode cX0_erase 82 = .ok (.ifCond .ne 7, 3) := by decide +kernel
theorem dX0_erase_85 : decode cX0_erase 85 = .ok (.iconst 1, 1) := by decide +kernel
theorem dX0_erase_86 : decode cX0_erase 86 = .ok (.goto 4, 3) := by decide +kernel
theorem dX0_erase_89 : decode cX0_erase 89 = .ok (.iconst 0, 1) := by decide +kernel
theorem dX0_erase_90 : decode cX0_erase 90 = .ok (.ireturn, 1) := by decide +kernel
theorem dX0_tearLater_0 : decode cX0_tearLater 0 = .ok (.aload_n 0, 1) := by decide +kernel
theorem dX0_tearLater_1 : decode cX0_tearLater 1 = .ok (.iload_n 1, 1) := by decide +kernel
theorem dX0_tearLater_2 : decode cX0_tearLater 2 = .ok (.putfield 20, 3) := by decide +kernel
theorem dX0_tearLater_5 : decode cX0_tearLater 5 = .ok (.aload_n 0, 1) := by decide +kernel
theorem dX0_tearLater_6 : decode cX0_tearLater 6 = .ok (.iload_n 2, 1) := by decide +kernel
theorem dX0_tearLater_7 : decode cX0_tearLater 7 = .ok (.putfield 23, 3) := by decide +kernel
theorem dX0_tearLater_10 : decode cX0_tearLater 10 = .ok (.return_, 1) := by decide +kernel
theorem dX0_operationCount_0 : decode cX0_operationCount 0 = .ok (.aload_n 0, 1) := by decide +kernel
theorem dX0_operationCount_1 : decode cX0_operationCount 1 = .ok (.getfield 16, 3) := by decide +kernel
theorem dX0_operationCount_4 : decode cX0_operationCount 4 = .ok (.ireturn, 1) := by decide +kernel
theorem dX0_eraseCount_0 : decode cX0_eraseCount 0 = .ok (.iload_n 1, 1) := by decide +kernel
theorem dX0_eraseCount_1 : decode cX0_eraseCount 1 = .ok (.invokestatic 30, 3) := by decide +kernel
theorem dX0_eraseCount_4 : decode cX0_eraseCount 4 = .ok (.ifCond .eq 12, 3) := by decide +kernel
theorem dX0_eraseCount_7 : decode cX0_eraseCount 7 = .ok (.aload_n 0, 1) := by decide +kernel
theorem dX0_eraseCount_8 : decode cX0_eraseCount 8 = .ok (.getfield 13, 3) := by decide +kernel
theorem dX0_eraseCount_11 : decode cX0_eraseCount 11 = .ok (.iload_n 1, 1) := by decide +kernel
theorem dX0_eraseCount_12 : decode cX0_eraseCount 12 = .ok (.iaload, 1) := by decide +kernel
theorem dX0_eraseCount_13 : decode cX0_eraseCount 13 = .ok (.goto 4, 3) := by decide +kernel
theorem dX0_eraseCount_16 : decode cX0_eraseCount 16 = .ok (.iconst 0, 1) := by decide +kernel
theorem dX0_eraseCount_17 : decode cX0_eraseCount 17 = .ok (.ireturn, 1) := by decide +kernel
theorem dX0_countOperation_0 : decode cX0_countOperation 0 = .ok (.aload_n 0, 1) := by decide +kernel
theorem dX0_countOperation_1 : decode cX0_countOperation 1 = .ok (.dup, 1) := by decide +kernel
theorem dX0_countOperation_2 : decode cX0_countOperation 2 = .ok (.getfield 16, 3) := by decide +kernel
theorem dX0_countOperation_5 : decode cX0_countOperation 5 = .ok (.iconst 1, 1) := by decide +kernel
theorem dX0_countOperation_6 : decode cX0_countOperation 6 = .ok (.iadd, 1) := by decide +kernel
theorem dX0_countOperation_7 : decode cX0_countOperation 7 = .ok (.putfield 16, 3) := by decide +kernel
theorem dX0_countOperation_10 : decode cX0_countOperation 10 = .ok (.aload_n 0, 1) := by decide +kernel
theorem dX0_countOperation_11 : decode cX0_countOperation 11 = .ok (.getfield 20, 3) := by decide +kernel
theorem dX0_countOperation_14 : decode cX0_countOperation 14 = .ok (.ifCond .ne 5, 3) := by decide +kernel
theorem dX0_countOperation_17 : decode cX0_countOperation 17 = .ok (.iconst 0, 1) := by decide +kernel
theorem dX0_countOperation_18 : decode cX0_countOperation 18 = .ok (.ireturn, 1) := by decide +kernel
theorem dX0_countOperation_19 : decode cX0_countOperation 19 = .ok (.aload_n 0, 1) := by decide +kernel
theorem dX0_countOperation_20 : decode cX0_countOperation 20 = .ok (.dup, 1) := by decide +kernel
theorem dX0_countOperation_21 : decode cX0_countOperation 21 = .ok (.getfield 20, 3) := by decide +kernel
theorem dX0_countOperation_24 : decode cX0_countOperation 24 = .ok (.iconst 1, 1) := by decide +kernel
theorem dX0_countOperation_25 : decode cX0_countOperation 25 = .ok (.isub, 1) := by decide +kernel
theorem dX0_countOperation_26 : decode cX0_countOperation 26 = .ok (.putfield 20, 3) := by decide +kernel
theorem dX0_countOperation_29 : decode cX0_countOperation 29 = .ok (.aload_n 0, 1) := by decide +kernel
theorem dX0_countOperation_30 : decode cX0_countOperation 30 = .ok (.getfield 20, 3) := by decide +kernel
theorem dX0_countOperation_33 : decode cX0_countOperation 33 = .ok (.ifCond .ne 7, 3) := by decide +kernel
theorem dX0_countOperation_36 : decode cX0_countOperation 36 = .ok (.iconst 1, 1) := by decide +kernel
theorem dX0_countOperation_37 : decode cX0_countOperation 37 = .ok (.goto 4, 3) := by decide +kernel
theorem dX0_countOperation_40 : decode cX0_countOperation 40 = .ok (.iconst 0, 1) := by decide +kernel
theorem dX0_countOperation_41 : decode cX0_countOperation 41 = .ok (.ireturn, 1) := by decide +kernel
theorem dX0_isPage_0 : decode cX0_isPage 0 = .ok (.iload_n 0, 1) := by decide +kernel
theorem dX0_isPage_1 : decode cX0_isPage 1 = .ok (.ifCond .lt 12, 3) := by decide +kernel
theorem dX0_isPage_4 : decode cX0_isPage 4 = .ok (.iload_n 0, 1) := by decide +kernel
theorem dX0_isPage_5 : decode cX0_isPage 5 = .ok (.iconst 2, 1) := by decide +kernel
theorem dX0_isPage_6 : decode cX0_isPage 6 = .ok (.if_icmp .ge 7, 3) := by decide +kernel
theorem dX0_isPage_9 : decode cX0_isPage 9 = .ok (.iconst 1, 1) := by decide +kernel
theorem dX0_isPage_10 : decode cX0_isPage 10 = .ok (.goto 4, 3) := by decide +kernel
theorem dX0_isPage_13 : decode cX0_isPage 13 = .ok (.iconst 0, 1) := by decide +kernel
theorem dX0_isPage_14 : decode cX0_isPage 14 = .ok (.ireturn, 1) := by decide +kernel
theorem dX1_init_0 : decode cX1_init 0 = .ok (.aload_n 0, 1) := by decide +kernel
theorem dX1_init_1 : decode cX1_init 1 = .ok (.invokespecial 1, 3) := by decide +kernel
theorem dX1_init_4 : decode cX1_init 4 = .ok (.aload_n 0, 1) := by decide +kernel
theorem dX1_init_5 : decode cX1_init 5 = .ok (.aload_n 1, 1) := by decide +kernel
theorem dX1_init_6 : decode cX1_init 6 = .ok (.putfield 7, 3) := by decide +kernel
theorem dX1_init_9 : decode cX1_init 9 = .ok (.aload_n 1, 1) := by decide +kernel
theorem dX1_init_10 : decode cX1_init 10 = .ok (.iconst 0, 1) := by decide +kernel
theorem dX1_init_11 : decode cX1_init 11 = .ok (.iconst 0, 1) := by decide +kernel
theorem dX1_init_12 : decode cX1_init 12 = .ok (.bipush 90, 2) := by decide +kernel
theorem dX1_init_14 : decode cX1_init 14 = .ok (.invokevirtual 13, 3) := by decide +kernel
theorem dX1_init_17 : decode cX1_init 17 = .ok (.aload_n 1, 1) := by decide +kernel
theorem dX1_init_18 : decode cX1_init 18 = .ok (.iconst 0, 1) := by decide +kernel
theorem dX1_init_19 : decode cX1_init 19 = .ok (.iconst 1, 1) := by decide +kernel
theorem dX1_init_20 : decode cX1_init 20 = .ok (.iconst 0, 1) := by decide +kernel
theorem dX1_init_21 : decode cX1_init 21 = .ok (.invokevirtual 13, 3) := by decide +kernel
theorem dX1_init_24 : decode cX1_init 24 = .ok (.aload_n 1, 1) := by decide +kernel
theorem dX1_init_25 : decode cX1_init 25 = .ok (.iconst 0, 1) := by decide +kernel
theorem dX1_init_26 : decode cX1_init 26 = .ok (.iconst 2, 1) := by decide +kernel
theorem dX1_init_27 : decode cX1_init 27 = .ok (.iload_n 2, 1) := by decide +kernel
theorem dX1_init_28 : decode cX1_init 28 = .ok (.bipush 8, 2) := by decide +kernel
theorem dX1_init_30 : decode cX1_init 30 = .ok (.ishr, 1) := by decide +kernel
theorem dX1_init_31 : decode cX1_init 31 = .ok (.invokevirtual 13, 3) := by decide +kernel
theorem dX1_init_34 : decode cX1_init 34 = .ok (.aload_n 1, 1) := by decide +kernel
theorem dX1_init_35 : decode cX1_init 35 = .ok (.iconst 0, 1) := by decide +kernel
theorem dX1_init_36 : decode cX1_init 36 = .ok (.iconst 3, 1) := by decide +kernel
theorem dX1_init_37 : decode cX1_init 37 = .ok (.iload_n 2, 1) := by decide +kernel
theorem dX1_init_38 : decode cX1_init 38 = .ok (.sipush 255, 3) := by decide +kernel
theorem dX1_init_41 : decode cX1_init 41 = .ok (.iand, 1) := by decide +kernel
theorem dX1_init_42 : decode cX1_init 42 = .ok (.invokevirtual 13, 3) := by decide +kernel
theorem dX1_init_45 : decode cX1_init 45 = .ok (.aload_n 1, 1) := by decide +kernel
theorem dX1_init_46 : decode cX1_init 46 = .ok (.iconst 0, 1) := by decide +kernel
theorem dX1_init_47 : decode cX1_init 47 = .ok (.iconst 4, 1) := by decide +kernel
theorem dX1_init_48 : decode cX1_init 48 = .ok (.iconst 0, 1) := by decide +kernel
theorem dX1_init_49 : decode cX1_init 49 = .ok (.invokevirtual 13, 3) := by decide +kernel
theorem dX1_init_52 : decode cX1_init 52 = .ok (.aload_n 1, 1) := by decide +kernel
theorem dX1_init_53 : decode cX1_init 53 = .ok (.iconst 0, 1) := by decide +kernel
theorem dX1_init_54 : decode cX1_init 54 = .ok (.iconst 5, 1) := by decide +kernel
theorem dX1_init_55 : decode cX1_init 55 = .ok (.iconst 0, 1) := by decide +kernel
theorem dX1_init_56 : decode cX1_init 56 = .ok (.invokevirtual 13, 3) := by decide +kernel
theorem dX1_init_59 : decode cX1_init 59 = .ok (.return_, 1) := by decide +kernel
theorem dX1_active_0 : decode cX1_active 0 = .ok (.aload_n 0, 1) := by decide +kernel
theorem dX1_active_1 : decode cX1_active 1 = .ok (.iconst 1, 1) := by decide +kernel
theorem dX1_active_2 : decode cX1_active 2 = .ok (.invokevirtual 19, 3) := by decide +kernel
theorem dX1_active_5 : decode cX1_active 5 = .ok (.ifCond .ne 5, 3) := by decide +kernel
theorem dX1_active_8 : decode cX1_active 8 = .ok (.iconst 0, 1) := by decide +kernel
theorem dX1_active_9 : decode cX1_active 9 = .ok (.ireturn, 1) := by decide +kernel
theorem dX1_active_10 : decode cX1_active 10 = .ok (.aload_n 0, 1) := by decide +kernel
theorem dX1_active_11 : decode cX1_active 11 = .ok (.iconst 0, 1) := by decide +kernel
theorem dX1_active_12 : decode cX1_active 12 = .ok (.invokevirtual 19, 3) := by decide +kernel
theorem dX1_active_15 : decode cX1_active 15 = .ok (.ifCond .ne 5, 3) := by decide +kernel
theorem dX1_active_18 : decode cX1_active 18 = .ok (.iconst 1, 1) := by decide +kernel
theorem dX1_active_19 : decode cX1_active 19 = .ok (.ireturn, 1) := by decide +kernel
theorem dX1_active_20 : decode cX1_active 20 = .ok (.aload_n 0, 1) := by decide +kernel
theorem dX1_active_21 : decode cX1_active 21 = .ok (.getfield 7, 3) := by decide +kernel
theorem dX1_active_24 : decode cX1_active 24 = .ok (.iconst 1, 1) := by decide +kernel
theorem dX1_active_25 : decode cX1_active 25 = .ok (.iconst 1, 1) := by decide +kernel
theorem dX1_active_26 : decode cX1_active 26 = .ok (.invokevirtual 23, 3) := by decide +kernel
theorem dX1_active_29 : decode cX1_active 29 = .ok (.aload_n 0, 1) := by decide +kernel
theorem dX1_active_30 : decode cX1_active 30 = .ok (.iconst 0, 1) := by decide +kernel
theorem dX1_active_31 : decode cX1_active 31 = .ok (.invokevirtual 27, 3) := by decide +kernel
theorem dX1_active_34 : decode cX1_active 34 = .ok (.if_icmp .ne 7, 3) := by decide +kernel
theorem dX1_active_37 : decode cX1_active 37 = .ok (.iconst 1, 1) := by decide +kernel
theorem dX1_active_38 : decode cX1_active 38 = .ok (.goto 4, 3) := by decide +kernel
theorem dX1_active_41 : decode cX1_active 41 = .ok (.iconst 0, 1) := by decide +kernel
theorem dX1_active_42 : decode cX1_active 42 = .ok (.ireturn, 1) := by decide +kernel
theorem dX1_activeGeneration_0 : decode cX1_activeGeneration 0 = .ok (.aload_n 0, 1) := by decide +kernel
theorem dX1_activeGeneration_1 : decode cX1_activeGeneration 1 = .ok (.getfield 7, 3) := by decide +kernel
theorem dX1_activeGeneration_4 : decode cX1_activeGeneration 4 = .ok (.aload_n 0, 1) := by decide +kernel
theorem dX1_activeGeneration_5 : decode cX1_activeGeneration 5 = .ok (.invokevirtual 31, 3) := by decide +kernel
theorem dX1_activeGeneration_8 : decode cX1_activeGeneration 8 = .ok (.iconst 1, 1) := by decide +kernel
theorem dX1_activeGeneration_9 : decode cX1_activeGeneration 9 = .ok (.invokevirtual 23, 3) := by decide +kernel
theorem dX1_activeGeneration_12 : decode cX1_activeGeneration 12 = .ok (.ireturn, 1) := by decide +kernel
theorem dX1_pin_0 : decode cX1_pin 0 = .ok (.aload_n 0, 1) := by decide +kernel
theorem dX1_pin_1 : decode cX1_pin 1 = .ok (.invokevirtual 31, 3) := by decide +kernel
theorem dX1_pin_4 : decode cX1_pin 4 = .ok (.istore_n 1, 1) := by decide +kernel
theorem dX1_pin_5 : decode cX1_pin 5 = .ok (.aload_n 0, 1) := by decide +kernel
theorem dX1_pin_6 : decode cX1_pin 6 = .ok (.getfield 7, 3) := by decide +kernel
theorem dX1_pin_9 : decode cX1_pin 9 = .ok (.iload_n 1, 1) := by decide +kernel
theorem dX1_pin_10 : decode cX1_pin 10 = .ok (.iconst 2, 1) := by decide +kernel
theorem dX1_pin_11 : decode cX1_pin 11 = .ok (.invokevirtual 23, 3) := by decide +kernel
theorem dX1_pin_14 : decode cX1_pin 14 = .ok (.bipush 8, 2) := by decide +kernel
theorem dX1_pin_16 : decode cX1_pin 16 = .ok (.ishl, 1) := by decide +kernel
theorem dX1_pin_17 : decode cX1_pin 17 = .ok (.aload_n 0, 1) := by decide +kernel
theorem dX1_pin_18 : decode cX1_pin 18 = .ok (.getfield 7, 3) := by decide +kernel
theorem dX1_pin_21 : decode cX1_pin 21 = .ok (.iload_n 1, 1) := by decide +kernel
theorem dX1_pin_22 : decode cX1_pin 22 = .ok (.iconst 3, 1) := by decide +kernel
theorem dX1_pin_23 : decode cX1_pin 23 = .ok (.invokevirtual 23, 3) := by decide +kernel
theorem dX1_pin_26 : decode cX1_pin 26 = .ok (.ior, 1) := by decide +kernel
theorem dX1_pin_27 : decode cX1_pin 27 = .ok (.ireturn, 1) := by decide +kernel
theorem dX1_pinTriesUsed_0 : decode cX1_pinTriesUsed 0 = .ok (.aload_n 0, 1) := by decide +kernel
theorem dX1_pinTriesUsed_1 : decode cX1_pinTriesUsed 1 = .ok (.invokevirtual 31, 3) := by decide +kernel
theorem dX1_pinTriesUsed_4 : decode cX1_pinTriesUsed 4 = .ok (.istore_n 1, 1) := by decide +kernel
theorem dX1_pinTriesUsed_5 : decode cX1_pinTriesUsed 5 = .ok (.aload_n 0, 1) := by decide +kernel
theorem dX1_pinTriesUsed_6 : decode cX1_pinTriesUsed 6 = .ok (.getfield 7, 3) := by decide +kernel
theorem dX1_pinTriesUsed_9 : decode cX1_pinTriesUsed 9 = .ok (.iload_n 1, 1) := by decide +kernel
theorem dX1_pinTriesUsed_10 : decode cX1_pinTriesUsed 10 = .ok (.iconst 4, 1) := by decide +kernel
theorem dX1_pinTriesUsed_11 : decode cX1_pinTriesUsed 11 = .ok (.invokevirtual 23, 3) := by decide +kernel
theorem dX1_pinTriesUsed_14 : decode cX1_pinTriesUsed 14 = .ok (.istore_n 2, 1) := by decide +kernel
theorem dX1_pinTriesUsed_15 : decode cX1_pinTriesUsed 15 = .ok (.bipush 6, 2) := by decide +kernel
theorem dX1_pinTriesUsed_17 : decode cX1_pinTriesUsed 17 = .ok (.istore_n 3, 1) := by decide +kernel
theorem dX1_pinTriesUsed_18 : decode cX1_pinTriesUsed 18 = .ok (.iload_n 3, 1) := by decide +kernel
theorem dX1_pinTriesUsed_19 : decode cX1_pinTriesUsed 19 = .ok (.bipush 16, 2) := by decide +kernel
theorem dX1_pinTriesUsed_21 : decode cX1_pinTriesUsed 21 = .ok (.if_icmp .ge 42, 3) := by decide +kernel
theorem dX1_pinTriesUsed_24 : decode cX1_pinTriesUsed 24 = .ok (.aload_n 0, 1) := by decide +kernel
theorem dX1_pinTriesUsed_25 : decode cX1_pinTriesUsed 25 = .ok (.getfield 7, 3) := by decide +kernel
theorem dX1_pinTriesUsed_28 : decode cX1_pinTriesUsed 28 = .ok (.iload_n 1, 1) := by decide +kernel
theorem dX1_pinTriesUsed_29 : decode cX1_pinTriesUsed 29 = .ok (.iload_n 3, 1) := by decide +kernel
theorem dX1_pinTriesUsed_30 : decode cX1_pinTriesUsed 30 = .ok (.invokevirtual 23, 3) := by decide +kernel
theorem dX1_pinTriesUsed_33 : decode cX1_pinTriesUsed 33 = .ok (.istore 4, 2) := by decide +kernel
theorem dX1_pinTriesUsed_35 : decode cX1_pinTriesUsed 35 = .ok (.iload 4, 2) := by decide +kernel
theorem dX1_pinTriesUsed_37 : decode cX1_pinTriesUsed 37 = .ok (.iconst 1, 1) := by decide +kernel
theorem dX1_pinTriesUsed_38 : decode cX1_pinTriesUsed 38 = .ok (.iand, 1) := by decide +kernel
theorem dX1_pinTriesUsed_39 : decode cX1_pinTriesUsed 39 = .ok (.ifCond .ne 18, 3) := by decide +kernel
theorem dX1_pinTriesUsed_42 : decode cX1_pinTriesUsed 42 = .ok (.iload 4, 2) := by decide +kernel
theorem dX1_pinTriesUsed_44 : decode cX1_pinTriesUsed 44 = .ok (.iconst 2, 1) := by decide +kernel
theorem dX1_pinTriesUsed_45 : decode cX1_pinTriesUsed 45 = .ok (.iand, 1) := by decide +kernel
theorem dX1_pinTriesUsed_46 : decode cX1_pinTriesUsed 46 = .ok (.ifCond .ne 7, 3) := by decide +kernel
theorem dX1_pinTriesUsed_49 : decode cX1_pinTriesUsed 49 = .ok (.iconst 0, 1) := by decide +kernel
theorem dX1_pinTriesUsed_50 : decode cX1_pinTriesUsed 50 = .ok (.goto 6, 3) := by decide +kernel
theorem dX1_pinTriesUsed_53 : decode cX1_pinTriesUsed 53 = .ok (.iload_n 2, 1) := by decide +kernel
theorem dX1_pinTriesUsed_54 : decode cX1_pinTriesUsed 54 = .ok (.iconst 1, 1) := by decide +kernel
theorem dX1_pinTriesUsed_55 : decode cX1_pinTriesUsed 55 = .ok (.iadd, 1) := by decide +kernel
theorem dX1_pinTriesUsed_56 : decode cX1_pinTriesUsed 56 = .ok (.istore_n 2, 1) := by decide +kernel
theorem dX1_pinTriesUsed_57 : decode cX1_pinTriesUsed 57 = .ok (.iinc 3 1, 3) := by decide +kernel
theorem dX1_pinTriesUsed_60 : decode cX1_pinTriesUsed 60 = .ok (.goto (-42), 3) := by decide +kernel
theorem dX1_pinTriesUsed_63 : decode cX1_pinTriesUsed 63 = .ok (.iload_n 2, 1) := by decide +kernel
theorem dX1_pinTriesUsed_64 : decode cX1_pinTriesUsed 64 = .ok (.ireturn, 1) := by decide +kernel
theorem dX1_pukTriesUsed_0 : decode cX1_pukTriesUsed 0 = .ok (.aload_n 0, 1) := by decide +kernel
theorem dX1_pukTriesUsed_1 : decode cX1_pukTriesUsed 1 = .ok (.invokevirtual 31, 3) := by decide +kernel
theorem dX1_pukTriesUsed_4 : decode cX1_pukTriesUsed 4 = .ok (.istore_n 1, 1) := by decide +kernel
theorem dX1_pukTriesUsed_5 : decode cX1_pukTriesUsed 5 = .ok (.aload_n 0, 1) := by decide +kernel
theorem dX1_pukTriesUsed_6 : decode cX1_pukTriesUsed 6 = .ok (.getfield 7, 3) := by decide +kernel
theorem dX1_pukTriesUsed_9 : decode cX1_pukTriesUsed 9 = .ok (.iload_n 1, 1) := by decide +kernel
theorem dX1_pukTriesUsed_10 : decode cX1_pukTriesUsed 10 = .ok (.iconst 5, 1) := by decide +kernel
theorem dX1_pukTriesUsed_11 : decode cX1_pukTriesUsed 11 = .ok (.invokevirtual 23, 3) := by decide +kernel
theorem dX1_pukTriesUsed_14 : decode cX1_pukTriesUsed 14 = .ok (.istore_n 2, 1) := by decide +kernel
theorem dX1_pukTriesUsed_15 : decode cX1_pukTriesUsed 15 = .ok (.bipush 6, 2) := by decide +kernel
theorem dX1_pukTriesUsed_17 : decode cX1_pukTriesUsed 17 = .ok (.istore_n 3, 1) := by decide +kernel
theorem dX1_pukTriesUsed_18 : decode cX1_pukTriesUsed 18 = .ok (.iload_n 3, 1) := by decide +kernel
theorem dX1_pukTriesUsed_19 : decode cX1_pukTriesUsed 19 = .ok (.bipush 16, 2) := by decide +kernel
theorem dX1_pukTriesUsed_21 : decode cX1_pukTriesUsed 21 = .ok (.if_icmp .ge 27, 3) := by decide +kernel
theorem dX1_pukTriesUsed_24 : decode cX1_pukTriesUsed 24 = .ok (.aload_n 0, 1) := by decide +kernel
theorem dX1_pukTriesUsed_25 : decode cX1_pukTriesUsed 25 = .ok (.getfield 7, 3) := by decide +kernel
theorem dX1_pukTriesUsed_28 : decode cX1_pukTriesUsed 28 = .ok (.iload_n 1, 1) := by decide +kernel
theorem dX1_pukTriesUsed_29 : decode cX1_pukTriesUsed 29 = .ok (.iload_n 3, 1) := by decide +kernel

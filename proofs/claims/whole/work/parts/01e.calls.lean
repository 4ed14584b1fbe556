set_option maxRecDepth 20000 in
theorem ggX0_program_X0_countOperation : GoodIn wsX0_program wsX0_countOperation := goodIn_r _ [7, 8, 9, 10, 11, 12, 13, 14] (by decide +kernel) (by decide +kernel)
set_option maxRecDepth 20000 in
theorem gX0_program_X0_countOperation : GoodIn wsX0_program (wsV RX0 26 RX0 yX0_countOperation wsX0_countOperation) := goodIn_app (goodIn_of _ (by decide +kernel)) ggX0_program_X0_countOperation
set_option maxRecDepth 20000 in
theorem ggX0_erase_X0_countOperation : GoodIn wsX0_erase wsX0_countOperation := goodIn_r _ [8, 9, 10, 14, 15, 16, 17, 18] (by decide +kernel) (by decide +kernel)
set_option maxRecDepth 20000 in
theorem gX0_erase_X0_countOperation : GoodIn wsX0_erase (wsV RX0 26 RX0 yX0_countOperation wsX0_countOperation) := goodIn_app (goodIn_of _ (by decide +kernel)) ggX0_erase_X0_countOperation
set_option maxRecDepth 20000 in
theorem ggX0_erase_X0_isPage : GoodIn wsX0_erase wsX0_isPage := goodIn_r _ [13] (by decide +kernel) (by decide +kernel)
set_option maxRecDepth 20000 in
theorem gX0_erase_X0_isPage : GoodIn wsX0_erase (va_wsS RX0 30 yX0_isPage wsX0_isPage) := goodIn_app (goodIn_of _ (by decide +kernel)) ggX0_erase_X0_isPage
set_option maxRecDepth 20000 in
theorem ggX0_eraseCount_X0_isPage : GoodIn wsX0_eraseCount wsX0_isPage := goodIn_r _ [5] (by decide +kernel) (by decide +kernel)
set_option maxRecDepth 20000 in
theorem gX0_eraseCount_X0_isPage : GoodIn wsX0_eraseCount (va_wsS RX0 30 yX0_isPage wsX0_isPage) := goodIn_app (goodIn_of _ (by decide +kernel)) ggX0_eraseCount_X0_isPage
set_option maxRecDepth 20000 in
theorem ggX1_init_X0_preset : GoodIn wsX1_init wsX0_preset := goodIn_r _ [9, 10, 12, 13, 14, 15, 16] (by decide +kernel) (by decide +kernel)
set_option maxRecDepth 20000 in
theorem gX1_init_X0_preset : GoodIn wsX1_init (wsV RX1 13 RX0 yX0_preset wsX0_preset) := goodIn_app (goodIn_of _ (by decide +kernel)) ggX1_init_X0_preset
set_option maxRecDepth 20000 in
theorem ggX1_active_X1_isGood : GoodIn wsX1_active wsX1_isGood := goodIn_r _ [6, 1, 7, 8, 9, 10, 11, 12, 17, 18, 19, 20, 21, 22] (by decide +kernel) (by decide +kernel)
set_option maxRecDepth 20000 in
theorem gX1_active_X1_isGood : GoodIn wsX1_active (wsV RX1 19 RX1 yX1_isGood wsX1_isGood) := goodIn_app (goodIn_of _ (by decide +kernel)) ggX1_active_X1_isGood
set_option maxRecDepth 20000 in
theorem ggX1_active_X0_read : GoodIn wsX1_active wsX0_read := goodIn_r _ [11, 12, 18, 19, 20, 21, 22] (by decide +kernel) (by decide +kernel)
set_option maxRecDepth 20000 in
theorem gX1_active_X0_read : GoodIn wsX1_active (wsV RX1 23 RX0 yX0_read wsX0_read) := goodIn_app (goodIn_of _ (by decide +kernel)) ggX1_active_X0_read
set_option maxRecDepth 20000 in
theorem ggX1_active_X1_generationAfter : GoodIn wsX1_active wsX1_generationAfter := goodIn_r _ [16, 1, 7, 8, 9, 10, 11, 12, 17, 18, 19, 20, 21, 22] (by decide +kernel) (by decide +kernel)
set_option maxRecDepth 20000 in
theorem gX1_active_X1_generationAfter : GoodIn wsX1_active (wsV RX1 27 RX1 yX1_generationAfter wsX1_generationAfter) := goodIn_app (goodIn_of _ (by decide +kernel)) ggX1_active_X1_generationAfter
set_option maxRecDepth 20000 in
theorem ggX1_activeGeneration_X1_active : GoodIn wsX1_activeGeneration wsX1_active := goodIn_r _ [6, 1, 7, 8, 9, 5, 10, 11, 12, 13, 14, 15, 16, 17, 18, 19, 20, 21, 22, 23, 24, 25, 26] (by decide +kernel) (by decide +kernel)
set_option maxRecDepth 20000 in
theorem gX1_activeGeneration_X1_active : GoodIn wsX1_activeGeneration (wsV RX1 31 RX1 yX1_active wsX1_active) := goodIn_app (goodIn_of _ (by decide +kernel)) ggX1_activeGeneration_X1_active
set_option maxRecDepth 20000 in
theorem ggX1_activeGeneration_X0_read : GoodIn wsX1_activeGeneration wsX0_read := goodIn_r _ [15, 16, 22, 23, 24, 25, 26] (by decide +kernel) (by decide +kernel)
set_option maxRecDepth 20000 in
theorem gX1_activeGeneration_X0_read : GoodIn wsX1_activeGeneration (wsV RX1 23 RX0 yX0_read wsX0_read) := goodIn_app (goodIn_of _ (by decide +kernel)) ggX1_activeGeneration_X0_read
set_option maxRecDepth 20000 in
theorem ggX1_pin_X1_active : GoodIn wsX1_pin wsX1_active := goodIn_r _ [6, 1, 7, 8, 9, 5, 10, 11, 12, 13, 14, 15, 16, 17, 18, 19, 20, 21, 22, 23, 24, 25, 26] (by decide +kernel) (by decide +kernel)
set_option maxRecDepth 20000 in
theorem gX1_pin_X1_active : GoodIn wsX1_pin (wsV RX1 31 RX1 yX1_active wsX1_active) := goodIn_app (goodIn_of _ (by decide +kernel)) ggX1_pin_X1_active
set_option maxRecDepth 20000 in
theorem ggX1_pin_X0_read : GoodIn wsX1_pin wsX0_read := goodIn_r _ [15, 16, 22, 23, 24, 25, 26] (by decide +kernel) (by decide +kernel)
set_option maxRecDepth 20000 in
theorem gX1_pin_X0_read : GoodIn wsX1_pin (wsV RX1 23 RX0 yX0_read wsX0_read) := goodIn_app (goodIn_of _ (by decide +kernel)) ggX1_pin_X0_read
set_option maxRecDepth 20000 in
theorem ggX1_pinTriesUsed_X1_active : GoodIn wsX1_pinTriesUsed wsX1_active := goodIn_r _ [6, 1, 7, 8, 9, 5, 10, 11, 12, 13, 14, 15, 16, 17, 18, 19, 20, 21, 22, 23, 24, 25, 26] (by decide +kernel) (by decide +kernel)
set_option maxRecDepth 20000 in
theorem gX1_pinTriesUsed_X1_active : GoodIn wsX1_pinTriesUsed (wsV RX1 31 RX1 yX1_active wsX1_active) := goodIn_app (goodIn_of _ (by decide +kernel)) ggX1_pinTriesUsed_X1_active
set_option maxRecDepth 20000 in
theorem ggX1_pinTriesUsed_X0_read : GoodIn wsX1_pinTriesUsed wsX0_read := goodIn_r _ [15, 16, 22, 23, 24, 25, 26] (by decide +kernel) (by decide +kernel)
set_option maxRecDepth 20000 in
theorem gX1_pinTriesUsed_X0_read : GoodIn wsX1_pinTriesUsed (wsV RX1 23 RX0 yX0_read wsX0_read) := goodIn_app (goodIn_of _ (by decide +kernel)) ggX1_pinTriesUsed_X0_read
set_option maxRecDepth 20000 in
theorem ggX1_pukTriesUsed_X1_active : GoodIn wsX1_pukTriesUsed wsX1_active := goodIn_r _ [6, 1, 7, 8, 9, 5, 10, 11, 12, 13, 14, 15, 16, 17, 18, 19, 20, 21, 22, 23, 24, 25, 26] (by decide +kernel) (by decide +kernel)
set_option maxRecDepth 20000 in
theorem gX1_pukTriesUsed_X1_active : GoodIn wsX1_pukTriesUsed (wsV RX1 31 RX1 yX1_active wsX1_active) := goodIn_app (goodIn_of _ (by decide +kernel)) ggX1_pukTriesUsed_X1_active
set_option maxRecDepth 20000 in
theorem ggX1_pukTriesUsed_X0_read : GoodIn wsX1_pukTriesUsed wsX0_read := goodIn_r _ [15, 16, 22, 23, 24, 25, 26] (by decide +kernel) (by decide +kernel)
set_option maxRecDepth 20000 in
theorem gX1_pukTriesUsed_X0_read : GoodIn wsX1_pukTriesUsed (wsV RX1 23 RX0 yX0_read wsX0_read) := goodIn_app (goodIn_of _ (by decide +kernel)) ggX1_pukTriesUsed_X0_read
set_option maxRecDepth 20000 in
theorem ggX1_freeEntries_X1_active : GoodIn wsX1_freeEntries wsX1_active := goodIn_r _ [6, 1, 7, 8, 9, 5, 10, 11, 12, 13, 14, 15, 16, 17, 18, 19, 20, 21, 22, 23, 24, 25, 26] (by decide +kernel) (by decide +kernel)
set_option maxRecDepth 20000 in
theorem gX1_freeEntries_X1_active : GoodIn wsX1_freeEntries (wsV RX1 31 RX1 yX1_active wsX1_active) := goodIn_app (goodIn_of _ (by decide +kernel)) ggX1_freeEntries_X1_active
set_option maxRecDepth 20000 in
theorem ggX1_freeEntries_X0_read : GoodIn wsX1_freeEntries wsX0_read := goodIn_r _ [15, 16, 22, 23, 24, 25, 26] (by decide +kernel) (by decide +kernel)
set_option maxRecDepth 20000 in
theorem gX1_freeEntries_X0_read : GoodIn wsX1_freeEntries (wsV RX1 23 RX0 yX0_read wsX0_read) := goodIn_app (goodIn_of _ (by decide +kernel)) ggX1_freeEntries_X0_read
set_option maxRecDepth 20000 in
theorem ggX1_mark_X1_firstFreeEntry : GoodIn wsX1_mark wsX1_firstFreeEntry := goodIn_r _ [6, 1, 7, 8, 9, 5, 10, 11, 12, 13, 14, 15, 16, 17, 18, 19, 20, 21, 22, 23, 24, 60, 61, 62, 63, 64, 65] (by decide +kernel) (by decide +kernel)
set_option maxRecDepth 20000 in
theorem gX1_mark_X1_firstFreeEntry : GoodIn wsX1_mark (wsV RX1 35 RX1 yX1_firstFreeEntry wsX1_firstFreeEntry) := goodIn_app (goodIn_of _ (by decide +kernel)) ggX1_mark_X1_firstFreeEntry
set_option maxRecDepth 20000 in
theorem ggX1_mark_X1_pin : GoodIn wsX1_mark wsX1_pin := goodIn_r _ [28, 1, 7, 8, 9, 5, 10, 11, 12, 13, 14, 15, 16, 17, 18, 19, 20, 21, 22, 23, 24, 60, 61, 62, 63, 64, 65] (by decide +kernel) (by decide +kernel)
set_option maxRecDepth 20000 in
theorem gX1_mark_X1_pin : GoodIn wsX1_mark (wsV RX1 38 RX1 yX1_pin wsX1_pin) := goodIn_app (goodIn_of _ (by decide +kernel)) ggX1_mark_X1_pin
set_option maxRecDepth 20000 in
theorem ggX1_mark_X1_pinTriesUsed : GoodIn wsX1_mark wsX1_pinTriesUsed := goodIn_r _ [32, 1, 7, 8, 9, 5, 10, 11, 12, 13, 14, 15, 16, 17, 18, 19, 20, 21, 22, 23, 24, 60, 61, 62, 63, 64, 65] (by decide +kernel) (by decide +kernel)
set_option maxRecDepth 20000 in
theorem gX1_mark_X1_pinTriesUsed : GoodIn wsX1_mark (wsV RX1 41 RX1 yX1_pinTriesUsed wsX1_pinTriesUsed) := goodIn_app (goodIn_of _ (by decide +kernel)) ggX1_mark_X1_pinTriesUsed
set_option maxRecDepth 20000 in
theorem ggX1_mark_X1_pukTriesUsed : GoodIn wsX1_mark wsX1_pukTriesUsed := goodIn_r _ [36, 1, 7, 8, 9, 5, 10, 11, 12, 13, 14, 15, 16, 17, 18, 19, 20, 21, 22, 23, 24, 60, 61, 62, 63, 64, 65] (by decide +kernel) (by decide +kernel)
set_option maxRecDepth 20000 in
theorem gX1_mark_X1_pukTriesUsed : GoodIn wsX1_mark (wsV RX1 44 RX1 yX1_pukTriesUsed wsX1_pukTriesUsed) := goodIn_app (goodIn_of _ (by decide +kernel)) ggX1_mark_X1_pukTriesUsed
set_option maxRecDepth 20000 in
theorem ggX1_mark_X1_turn : GoodIn wsX1_mark wsX1_turn := goodIn_r _ [40, 1, 7, 8, 9, 5, 10, 11, 12, 13, 14, 15, 16, 17, 18, 19, 20, 21, 22, 23, 24, 41, 42, 43, 44, 45, 46, 47, 48, 49, 50, 51, 52, 53, 54, 55, 56, 57, 58, 59, 60, 61, 62, 63, 64, 65] (by decide +kernel) (by decide +kernel)
set_option maxRecDepth 20000 in
theorem gX1_mark_X1_turn : GoodIn wsX1_mark (wsV RX1 47 RX1 yX1_turn wsX1_turn) := goodIn_app (goodIn_of _ (by decide +kernel)) ggX1_mark_X1_turn
set_option maxRecDepth 20000 in
theorem ggX1_mark_X1_active : GoodIn wsX1_mark wsX1_active := goodIn_r _ [10, 1, 11, 12, 13, 5, 14, 15, 16, 17, 18, 19, 20, 21, 22, 23, 24, 60, 61, 62, 63, 64, 65] (by decide +kernel) (by decide +kernel)
set_option maxRecDepth 20000 in
theorem gX1_mark_X1_active : GoodIn wsX1_mark (wsV RX1 31 RX1 yX1_active wsX1_active) := goodIn_app (goodIn_of _ (by decide +kernel)) ggX1_mark_X1_active
set_option maxRecDepth 20000 in
theorem ggX1_mark_X0_program : GoodIn wsX1_mark wsX0_program := goodIn_r _ [44, 45, 20, 46, 47, 48, 18, 49, 50, 51, 61, 62, 63, 64, 65] (by decide +kernel) (by decide +kernel)
set_option maxRecDepth 20000 in
theorem gX1_mark_X0_program : GoodIn wsX1_mark (wsV RX1 51 RX0 yX0_program wsX0_program) := goodIn_app (goodIn_of _ (by decide +kernel)) ggX1_mark_X0_program
set_option maxRecDepth 20000 in
theorem ggX1_remark_X1_active : GoodIn wsX1_remark wsX1_active := goodIn_r _ [6, 1, 7, 8, 9, 5, 10, 11, 12, 13, 14, 15, 16, 17, 18, 19, 20, 32, 33, 34, 35, 36, 37] (by decide +kernel) (by decide +kernel)
set_option maxRecDepth 20000 in
theorem gX1_remark_X1_active : GoodIn wsX1_remark (wsV RX1 31 RX1 yX1_active wsX1_active) := goodIn_app (goodIn_of _ (by decide +kernel)) ggX1_remark_X1_active
set_option maxRecDepth 20000 in
theorem ggX1_remark_X0_program : GoodIn wsX1_remark wsX0_program := goodIn_r _ [24, 25, 16, 26, 27, 28, 14, 29, 30, 31, 33, 34, 35, 36, 37] (by decide +kernel) (by decide +kernel)
set_option maxRecDepth 20000 in
theorem gX1_remark_X0_program : GoodIn wsX1_remark (wsV RX1 51 RX0 yX0_program wsX0_program) := goodIn_app (goodIn_of _ (by decide +kernel)) ggX1_remark_X0_program
set_option maxRecDepth 20000 in
theorem ggX1_turn_X1_active : GoodIn wsX1_turn wsX1_active := goodIn_r _ [6, 1, 7, 8, 9, 5, 10, 11, 12, 13, 14, 15, 16, 17, 18, 19, 20, 40, 41, 42, 43, 44, 45] (by decide +kernel) (by decide +kernel)
set_option maxRecDepth 20000 in
theorem gX1_turn_X1_active : GoodIn wsX1_turn (wsV RX1 31 RX1 yX1_active wsX1_active) := goodIn_app (goodIn_of _ (by decide +kernel)) ggX1_turn_X1_active
set_option maxRecDepth 20000 in
theorem ggX1_turn_X1_isGood : GoodIn wsX1_turn wsX1_isGood := goodIn_r _ [10, 1, 11, 12, 13, 14, 15, 16, 40, 41, 42, 43, 44, 45] (by decide +kernel) (by decide +kernel)
set_option maxRecDepth 20000 in
theorem gX1_turn_X1_isGood : GoodIn wsX1_turn (wsV RX1 19 RX1 yX1_isGood wsX1_isGood) := goodIn_app (goodIn_of _ (by decide +kernel)) ggX1_turn_X1_isGood
set_option maxRecDepth 20000 in
theorem ggX1_turn_X0_program : GoodIn wsX1_turn wsX0_program := goodIn_r _ [24, 25, 16, 26, 27, 28, 14, 29, 30, 31, 41, 42, 43, 44, 45] (by decide +kernel) (by decide +kernel)
set_option maxRecDepth 20000 in
theorem gX1_turn_X0_program : GoodIn wsX1_turn (wsV RX1 51 RX0 yX0_program wsX0_program) := goodIn_app (goodIn_of _ (by decide +kernel)) ggX1_turn_X0_program
set_option maxRecDepth 20000 in
theorem ggX1_turn_X0_erase : GoodIn wsX1_turn wsX0_erase := goodIn_r _ [35, 25, 36, 16, 26, 27, 28, 14, 29, 30, 31, 37, 38, 39, 41, 42, 43, 44, 45] (by decide +kernel) (by decide +kernel)
set_option maxRecDepth 20000 in
theorem gX1_turn_X0_erase : GoodIn wsX1_turn (wsV RX1 54 RX0 yX0_erase wsX0_erase) := goodIn_app (goodIn_of _ (by decide +kernel)) ggX1_turn_X0_erase
set_option maxRecDepth 20000 in
theorem ggX1_turn_X1_generationAfter : GoodIn wsX1_turn wsX1_generationAfter := goodIn_r _ [20, 1, 11, 12, 13, 14, 15, 16, 40, 41, 42, 43, 44, 45] (by decide +kernel) (by decide +kernel)
set_option maxRecDepth 20000 in
theorem gX1_turn_X1_generationAfter : GoodIn wsX1_turn (wsV RX1 27 RX1 yX1_generationAfter wsX1_generationAfter) := goodIn_app (goodIn_of _ (by decide +kernel)) ggX1_turn_X1_generationAfter
set_option maxRecDepth 20000 in
theorem ggX1_isGood_X0_read : GoodIn wsX1_isGood wsX0_read := goodIn_r _ [6, 7, 9, 10, 11, 12, 13] (by decide +kernel) (by decide +kernel)
set_option maxRecDepth 20000 in
theorem gX1_isGood_X0_read : GoodIn wsX1_isGood (wsV RX1 23 RX0 yX0_read wsX0_read) := goodIn_app (goodIn_of _ (by decide +kernel)) ggX1_isGood_X0_read
set_option maxRecDepth 20000 in
theorem ggX1_generationAfter_X0_read : GoodIn wsX1_generationAfter wsX0_read := goodIn_r _ [6, 7, 9, 10, 11, 12, 13] (by decide +kernel) (by decide +kernel)
set_option maxRecDepth 20000 in
theorem gX1_generationAfter_X0_read : GoodIn wsX1_generationAfter (wsV RX1 23 RX0 yX0_read wsX0_read) := goodIn_app (goodIn_of _ (by decide +kernel)) ggX1_generationAfter_X0_read
set_option maxRecDepth 20000 in
theorem ggX1_firstFreeEntry_X1_active : GoodIn wsX1_firstFreeEntry wsX1_active := goodIn_r _ [6, 1, 7, 8, 9, 5, 10, 11, 12, 13, 14, 15, 16, 17, 18, 19, 20, 21, 22, 23, 24, 25, 26] (by decide +kernel) (by decide +kernel)
set_option maxRecDepth 20000 in
theorem gX1_firstFreeEntry_X1_active : GoodIn wsX1_firstFreeEntry (wsV RX1 31 RX1 yX1_active wsX1_active) := goodIn_app (goodIn_of _ (by decide +kernel)) ggX1_firstFreeEntry_X1_active
set_option maxRecDepth 20000 in
theorem ggX1_firstFreeEntry_X0_read : GoodIn wsX1_firstFreeEntry wsX0_read := goodIn_r _ [15, 16, 22, 23, 24, 25, 26] (by decide +kernel) (by decide +kernel)
set_option maxRecDepth 20000 in
theorem gX1_firstFreeEntry_X0_read : GoodIn wsX1_firstFreeEntry (wsV RX1 23 RX0 yX0_read wsX0_read) := goodIn_app (goodIn_of _ (by decide +kernel)) ggX1_firstFreeEntry_X0_read
set_option maxRecDepth 20000 in
theorem ggX2_init_X0_init : GoodIn wsX2_init wsX0_init := goodIn_r _ [21, 22, 2, 3, 23, 24, 25, 26, 27, 28, 42, 43, 44, 45, 46] (by decide +kernel) (by decide +kernel)
set_option maxRecDepth 20000 in
theorem gX2_init_X0_init : GoodIn wsX2_init (wsX0_init) := ggX2_init_X0_init
set_option maxRecDepth 20000 in
theorem ggX2_init_X1_init : GoodIn wsX2_init wsX1_init := goodIn_r _ [31, 32, 2, 3, 33, 34, 35, 36, 6, 37, 24, 55, 42, 43, 44, 45, 46] (by decide +kernel) (by decide +kernel)
set_option maxRecDepth 20000 in
theorem gX2_init_X1_init : GoodIn wsX2_init (wsX1_init) := ggX2_init_X1_init
set_option maxRecDepth 20000 in
theorem ggX2_init_X2_limitOr : GoodIn wsX2_init wsX2_limitOr := goodIn_r _ [41] (by decide +kernel) (by decide +kernel)
set_option maxRecDepth 20000 in
theorem gX2_init_X2_limitOr : GoodIn wsX2_init (va_wsS RX2 30 yX2_limitOr wsX2_limitOr) := goodIn_app (goodIn_of _ (by decide +kernel)) ggX2_init_X2_limitOr
set_option maxRecDepth 20000 in
theorem ggX2_verify_X2_tryNumber : GoodIn wsX2_verify wsX2_tryNumber := goodIn_r _ [7, 8, 9, 10, 2, 11, 12, 13, 14, 15, 16, 17, 18, 19, 20, 21, 22, 23, 24, 25, 26, 27, 28, 29, 30, 31, 32, 33, 34, 35, 36, 37, 38, 39, 40, 41, 42, 43, 44, 45, 46, 47, 48, 49, 50, 51, 52, 53, 54, 55, 56, 57, 58, 59, 60, 61, 62, 63, 64, 65, 66, 67, 68, 69, 70, 71, 72, 73, 74, 75, 76, 77, 6, 78, 79, 80, 81, 82, 83, 84, 85, 86, 87, 88, 89, 90, 91, 92, 93, 94, 95, 96, 97] (by decide +kernel) (by decide +kernel)
set_option maxRecDepth 20000 in
theorem gX2_verify_X2_tryNumber : GoodIn wsX2_verify (wsV RX2 50 RX2 yX2_tryNumber wsX2_tryNumber) := goodIn_app (goodIn_of _ (by decide +kernel)) ggX2_verify_X2_tryNumber
set_option maxRecDepth 20000 in
theorem ggX2_change_X2_tryNumber : GoodIn wsX2_change wsX2_tryNumber := goodIn_r _ [8, 9, 2, 10, 3, 11, 12, 13, 14, 15, 16, 17, 18, 19, 20, 21, 22, 23, 24, 25, 26, 27, 28, 29, 30, 31, 32, 33, 34, 35, 36, 37, 38, 39, 40, 41, 42, 43, 44, 45, 46, 47, 48, 49, 50, 51, 52, 53, 54, 55, 56, 57, 58, 59, 60, 61, 62, 63, 64, 65, 66, 67, 68, 69, 70, 71, 72, 73, 74, 75, 76, 77, 7, 78, 79, 80, 81, 82, 83, 86, 87, 88, 89, 90, 91, 92, 93, 94, 95, 96, 97, 98, 99] (by decide +kernel) (by decide +kernel)
set_option maxRecDepth 20000 in
theorem gX2_change_X2_tryNumber : GoodIn wsX2_change (wsV RX2 50 RX2 yX2_tryNumber wsX2_tryNumber) := goodIn_app (goodIn_of _ (by decide +kernel)) ggX2_change_X2_tryNumber
set_option maxRecDepth 20000 in
theorem ggX2_change_X1_pukTriesUsed : GoodIn wsX2_change wsX1_pukTriesUsed := goodIn_r _ [51, 16, 17, 18, 19, 14, 20, 21, 22, 23, 24, 25, 26, 27, 28, 29, 30, 31, 32, 33, 34, 94, 95, 96, 97, 98, 99] (by decide +kernel) (by decide +kernel)
set_option maxRecDepth 20000 in
theorem gX2_change_X1_pukTriesUsed : GoodIn wsX2_change (wsV RX2 54 RX1 yX1_pukTriesUsed wsX1_pukTriesUsed) := goodIn_app (goodIn_of _ (by decide +kernel)) ggX2_change_X1_pukTriesUsed
set_option maxRecDepth 20000 in
theorem ggX2_change_X1_turn : GoodIn wsX2_change wsX1_turn := goodIn_r _ [55, 16, 17, 18, 19, 14, 20, 21, 22, 23, 24, 25, 26, 27, 28, 29, 30, 31, 32, 33, 34, 56, 57, 58, 59, 60, 61, 62, 63, 64, 65, 66, 67, 68, 69, 70, 71, 72, 73, 74, 94, 95, 96, 97, 98, 99] (by decide +kernel) (by decide +kernel)
set_option maxRecDepth 20000 in
theorem gX2_change_X1_turn : GoodIn wsX2_change (wsV RX2 58 RX1 yX1_turn wsX1_turn) := goodIn_app (goodIn_of _ (by decide +kernel)) ggX2_change_X1_turn
set_option maxRecDepth 20000 in
theorem ggX2_change_X2_losePower : GoodIn wsX2_change wsX2_losePower := goodIn_r _ [78, 9, 3, 86, 87, 88, 89, 90, 91, 92, 93] (by decide +kernel) (by decide +kernel)
set_option maxRecDepth 20000 in
theorem gX2_change_X2_losePower : GoodIn wsX2_change (wsV RX2 62 RX2 yX2_losePower wsX2_losePower) := goodIn_app (goodIn_of _ (by decide +kernel)) ggX2_change_X2_losePower
set_option maxRecDepth 20000 in
theorem ggX2_unblock_X1_pukTriesUsed : GoodIn wsX2_unblock wsX1_pukTriesUsed := goodIn_r _ [11, 12, 13, 14, 15, 10, 16, 17, 18, 19, 20, 21, 22, 23, 24, 25, 26, 27, 28, 29, 30, 85, 86, 87, 88, 89, 90] (by decide +kernel) (by decide +kernel)
set_option maxRecDepth 20000 in
theorem gX2_unblock_X1_pukTriesUsed : GoodIn wsX2_unblock (wsV RX2 54 RX1 yX1_pukTriesUsed wsX1_pukTriesUsed) := goodIn_app (goodIn_of _ (by decide +kernel)) ggX2_unblock_X1_pukTriesUsed
set_option maxRecDepth 20000 in
theorem ggX2_unblock_X1_mark : GoodIn wsX2_unblock wsX1_mark := goodIn_r _ [34, 12, 35, 36, 37, 10, 38, 13, 14, 15, 16, 17, 18, 19, 20, 21, 22, 23, 24, 25, 26, 27, 28, 29, 30, 39, 40, 41, 42, 43, 44, 45, 46, 47, 8, 9, 11, 48, 49, 50, 51, 52, 53, 54, 55, 56, 57, 58, 59, 60, 61, 62, 63, 64, 65, 66, 67, 68, 69, 70, 85, 86, 87, 88, 89, 90] (by decide +kernel) (by decide +kernel)
set_option maxRecDepth 20000 in
theorem gX2_unblock_X1_mark : GoodIn wsX2_unblock (wsV RX2 65 RX1 yX1_mark wsX1_mark) := goodIn_app (goodIn_of _ (by decide +kernel)) ggX2_unblock_X1_mark
set_option maxRecDepth 20000 in
theorem ggX2_unblock_X2_losePower : GoodIn wsX2_unblock wsX2_losePower := goodIn_r _ [75, 1, 4, 77, 78, 79, 80, 81, 82, 83, 84] (by decide +kernel) (by decide +kernel)
set_option maxRecDepth 20000 in
theorem gX2_unblock_X2_losePower : GoodIn wsX2_unblock (wsV RX2 62 RX2 yX2_losePower wsX2_losePower) := goodIn_app (goodIn_of _ (by decide +kernel)) ggX2_unblock_X2_losePower
set_option maxRecDepth 20000 in
theorem ggX2_unblock_X1_turn : GoodIn wsX2_unblock wsX1_turn := goodIn_r _ [51, 12, 13, 14, 15, 10, 16, 17, 18, 19, 20, 21, 22, 23, 24, 25, 26, 27, 28, 29, 30, 52, 53, 54, 55, 56, 57, 58, 59, 60, 61, 62, 63, 64, 65, 66, 67, 68, 69, 70, 85, 86, 87, 88, 89, 90] (by decide +kernel) (by decide +kernel)
set_option maxRecDepth 20000 in
theorem gX2_unblock_X1_turn : GoodIn wsX2_unblock (wsV RX2 58 RX1 yX1_turn wsX1_turn) := goodIn_app (goodIn_of _ (by decide +kernel)) ggX2_unblock_X1_turn
set_option maxRecDepth 20000 in
theorem ggX2_arm_X0_tearLater : GoodIn wsX2_arm wsX0_tearLater := goodIn_r _ [7, 8, 9, 18, 19, 20, 21, 22] (by decide +kernel) (by decide +kernel)
set_option maxRecDepth 20000 in
theorem gX2_arm_X0_tearLater : GoodIn wsX2_arm (wsV RX2 68 RX0 yX0_tearLater wsX0_tearLater) := goodIn_app (goodIn_of _ (by decide +kernel)) ggX2_arm_X0_tearLater
set_option maxRecDepth 20000 in
theorem ggX2_cut_X2_losePower : GoodIn wsX2_cut wsX2_losePower := goodIn_r _ [6, 1, 7, 8, 9, 10, 11, 12, 13, 14, 15] (by decide +kernel) (by decide +kernel)
set_option maxRecDepth 20000 in
theorem gX2_cut_X2_losePower : GoodIn wsX2_cut (wsV RX2 62 RX2 yX2_losePower wsX2_losePower) := goodIn_app (goodIn_of _ (by decide +kernel)) ggX2_cut_X2_losePower
set_option maxRecDepth 20000 in
theorem ggX2_tries_X1_pinTriesUsed : GoodIn wsX2_tries wsX1_pinTriesUsed := goodIn_r _ [11, 12, 13, 14, 15, 10, 16, 17, 18, 19, 20, 21, 22, 23, 24, 25, 26, 27, 28, 29, 30, 39, 40, 41, 42, 43, 44] (by decide +kernel) (by decide +kernel)
set_option maxRecDepth 20000 in
theorem gX2_tries_X1_pinTriesUsed : GoodIn wsX2_tries (wsV RX2 72 RX1 yX1_pinTriesUsed wsX1_pinTriesUsed) := goodIn_app (goodIn_of _ (by decide +kernel)) ggX2_tries_X1_pinTriesUsed
set_option maxRecDepth 20000 in
theorem ggX2_puks_X1_pukTriesUsed : GoodIn wsX2_puks wsX1_pukTriesUsed := goodIn_r _ [11, 12, 13, 14, 15, 10, 16, 17, 18, 19, 20, 21, 22, 23, 24, 25, 26, 27, 28, 29, 30, 39, 40, 41, 42, 43, 44] (by decide +kernel) (by decide +kernel)
set_option maxRecDepth 20000 in
theorem gX2_puks_X1_pukTriesUsed : GoodIn wsX2_puks (wsV RX2 54 RX1 yX1_pukTriesUsed wsX1_pukTriesUsed) := goodIn_app (goodIn_of _ (by decide +kernel)) ggX2_puks_X1_pukTriesUsed
set_option maxRecDepth 20000 in
theorem ggX2_page_X1_active : GoodIn wsX2_page wsX1_active := goodIn_r _ [6, 7, 8, 9, 10, 5, 11, 12, 13, 14, 15, 16, 17, 18, 19, 20, 21, 30, 31, 32, 33, 34, 35] (by decide +kernel) (by decide +kernel)
set_option maxRecDepth 20000 in
theorem gX2_page_X1_active : GoodIn wsX2_page (wsV RX2 80 RX1 yX1_active wsX1_active) := goodIn_app (goodIn_of _ (by decide +kernel)) ggX2_page_X1_active
set_option maxRecDepth 20000 in
theorem ggX2_generation_X1_activeGeneration : GoodIn wsX2_generation wsX1_activeGeneration := goodIn_r _ [6, 7, 8, 9, 10, 5, 11, 12, 13, 14, 15, 16, 17, 18, 19, 20, 21, 22, 23, 24, 25, 34, 35, 36, 37, 38, 39] (by decide +kernel) (by decide +kernel)
set_option maxRecDepth 20000 in
theorem gX2_generation_X1_activeGeneration : GoodIn wsX2_generation (wsV RX2 83 RX1 yX1_activeGeneration wsX1_activeGeneration) := goodIn_app (goodIn_of _ (by decide +kernel)) ggX2_generation_X1_activeGeneration
set_option maxRecDepth 20000 in
theorem ggX2_free_X1_freeEntries : GoodIn wsX2_free wsX1_freeEntries := goodIn_r _ [6, 7, 8, 9, 10, 5, 11, 12, 13, 14, 15, 16, 17, 18, 19, 20, 21, 22, 23, 24, 25, 34, 35, 36, 37, 38, 39] (by decide +kernel) (by decide +kernel)
set_option maxRecDepth 20000 in
theorem gX2_free_X1_freeEntries : GoodIn wsX2_free (wsV RX2 86 RX1 yX1_freeEntries wsX1_freeEntries) := goodIn_app (goodIn_of _ (by decide +kernel)) ggX2_free_X1_freeEntries
set_option maxRecDepth 20000 in
theorem ggX2_operations_X0_operationCount : GoodIn wsX2_operations wsX0_operationCount := goodIn_r _ [6, 7, 16, 17, 18, 19, 20] (by decide +kernel) (by decide +kernel)
set_option maxRecDepth 20000 in
theorem gX2_operations_X0_operationCount : GoodIn wsX2_operations (wsV RX2 89 RX0 yX0_operationCount wsX0_operationCount) := goodIn_app (goodIn_of _ (by decide +kernel)) ggX2_operations_X0_operationCount
set_option maxRecDepth 20000 in
theorem ggX2_erased_X0_eraseCount : GoodIn wsX2_erased wsX0_eraseCount := goodIn_r _ [6, 7, 8, 9, 5, 10, 19, 20, 21, 22, 23] (by decide +kernel) (by decide +kernel)
set_option maxRecDepth 20000 in
theorem gX2_erased_X0_eraseCount : GoodIn wsX2_erased (wsV RX2 92 RX0 yX0_eraseCount wsX0_eraseCount) := goodIn_app (goodIn_of _ (by decide +kernel)) ggX2_erased_X0_eraseCount
set_option maxRecDepth 20000 in
theorem ggX2_tryNumber_X1_pinTriesUsed : GoodIn wsX2_tryNumber wsX1_pinTriesUsed := goodIn_r _ [9, 10, 11, 12, 13, 8, 14, 15, 16, 17, 18, 19, 20, 21, 22, 23, 24, 25, 26, 27, 28, 87, 88, 89, 90, 91, 92] (by decide +kernel) (by decide +kernel)
set_option maxRecDepth 20000 in
theorem gX2_tryNumber_X1_pinTriesUsed : GoodIn wsX2_tryNumber (wsV RX2 72 RX1 yX1_pinTriesUsed wsX1_pinTriesUsed) := goodIn_app (goodIn_of _ (by decide +kernel)) ggX2_tryNumber_X1_pinTriesUsed
set_option maxRecDepth 20000 in
theorem ggX2_tryNumber_X1_mark : GoodIn wsX2_tryNumber wsX1_mark := goodIn_r _ [32, 10, 33, 34, 35, 8, 36, 11, 12, 13, 14, 15, 16, 17, 18, 19, 20, 21, 22, 23, 24, 25, 26, 27, 28, 37, 38, 39, 40, 41, 6, 7, 9, 42, 43, 44, 45, 46, 47, 48, 49, 50, 51, 52, 53, 54, 55, 56, 57, 58, 59, 60, 61, 62, 63, 64, 65, 66, 67, 68, 87, 88, 89, 90, 91, 92] (by decide +kernel) (by decide +kernel)
set_option maxRecDepth 20000 in
theorem gX2_tryNumber_X1_mark : GoodIn wsX2_tryNumber (wsV RX2 65 RX1 yX1_mark wsX1_mark) := goodIn_app (goodIn_of _ (by decide +kernel)) ggX2_tryNumber_X1_mark
set_option maxRecDepth 20000 in
theorem ggX2_tryNumber_X2_losePower : GoodIn wsX2_tryNumber wsX2_losePower := goodIn_r _ [73, 1, 4, 79, 80, 81, 82, 83, 84, 85, 86] (by decide +kernel) (by decide +kernel)
set_option maxRecDepth 20000 in
theorem gX2_tryNumber_X2_losePower : GoodIn wsX2_tryNumber (wsV RX2 62 RX2 yX2_losePower wsX2_losePower) := goodIn_app (goodIn_of _ (by decide +kernel)) ggX2_tryNumber_X2_losePower
set_option maxRecDepth 20000 in
theorem ggX2_tryNumber_X1_pin : GoodIn wsX2_tryNumber wsX1_pin := goodIn_r _ [40, 10, 11, 12, 13, 8, 14, 15, 16, 17, 18, 19, 20, 21, 22, 23, 24, 25, 26, 27, 28, 87, 88, 89, 90, 91, 92] (by decide +kernel) (by decide +kernel)
set_option maxRecDepth 20000 in
theorem gX2_tryNumber_X1_pin : GoodIn wsX2_tryNumber (wsV RX2 95 RX1 yX1_pin wsX1_pin) := goodIn_app (goodIn_of _ (by decide +kernel)) ggX2_tryNumber_X1_pin
set_option maxRecDepth 20000 in
theorem ggX2_tryNumber_X1_remark : GoodIn wsX2_tryNumber wsX1_remark := goodIn_r _ [78, 10, 11, 12, 13, 8, 14, 15, 16, 17, 18, 19, 20, 21, 22, 23, 24, 25, 26, 27, 28, 50, 51, 52, 53, 54, 55, 56, 57, 58, 59, 60, 87, 88, 89, 90, 91, 92] (by decide +kernel) (by decide +kernel)
set_option maxRecDepth 20000 in
theorem gX2_tryNumber_X1_remark : GoodIn wsX2_tryNumber (wsV RX2 98 RX1 yX1_remark wsX1_remark) := goodIn_app (goodIn_of _ (by decide +kernel)) ggX2_tryNumber_X1_remark

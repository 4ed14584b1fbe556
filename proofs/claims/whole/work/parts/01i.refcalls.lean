set_option maxRecDepth 20000 in
theorem gM_verify_M_attempt : GoodIn wsM_verify (wsV RM 79 RM yM_attempt wsM_attempt) := goodIn_r _ [1, 2, 3, 4, 5, 6, 7, 8, 9, 10, 11, 12, 4, 13, 14, 15, 16, 17, 18, 19, 20, 21, 22, 23, 24, 25, 26, 27, 28, 29, 30, 31, 32, 33, 34, 35, 36, 37, 38, 39, 40, 41, 42, 43, 44, 45, 46, 47, 48, 49, 50, 51, 52, 53, 54] (by decide +kernel) (by decide +kernel)
set_option maxRecDepth 20000 in
theorem gM_attempt_M_mark : GoodIn wsM_attempt (wsV RM 75 RM yM_mark wsM_mark) := goodIn_r _ [5, 6, 7, 8, 9, 10, 11, 2, 12, 13, 14, 15, 8, 16, 17, 18, 19, 20, 21, 22, 23, 1, 4, 24, 25, 26, 27, 28, 29, 30, 31, 33, 34, 35, 36, 37, 38, 39, 40, 41, 42, 43, 44, 45, 46, 47, 48, 49, 50] (by decide +kernel) (by decide +kernel)
set_option maxRecDepth 20000 in
theorem gM_attempt_M_operate : GoodIn wsM_attempt (wsV RM 45 RM yM_operate wsM_operate) := goodIn_r _ [18, 19, 20, 8, 21, 22, 23, 1, 4, 24, 33, 34, 35, 36, 37, 38, 39, 40, 41, 42, 43, 44, 45, 46, 47, 48, 49, 50] (by decide +kernel) (by decide +kernel)
set_option maxRecDepth 20000 in
theorem gM_attempt_M_all : GoodIn wsM_attempt (va_wsS RM 58 yM_all wsM_all) := goodIn_r _ [28, 29, 8, 30, 33, 34, 35, 36, 37, 38, 39, 40, 41, 42, 43, 44, 45, 46, 47, 48, 49, 50] (by decide +kernel) (by decide +kernel)
set_option maxRecDepth 20000 in
theorem gM_mark_M_turn : GoodIn wsM_mark (wsV RM 71 RM yM_turn wsM_turn) := goodIn_r _ [5, 6, 7, 8, 9, 10, 11, 12, 13, 8, 14, 15, 16, 17, 18, 19, 20, 21, 22, 23, 24, 25, 26, 2, 3, 4, 1, 27, 28, 29, 30, 31, 32, 33, 34, 35, 36, 37, 38, 39, 40, 41, 42, 43, 44] (by decide +kernel) (by decide +kernel)
set_option maxRecDepth 20000 in
theorem gM_mark_M_operate : GoodIn wsM_mark (wsV RM 45 RM yM_operate wsM_operate) := goodIn_r _ [11, 12, 13, 8, 14, 15, 16, 17, 18, 19, 27, 28, 29, 30, 31, 32, 33, 34, 35, 36, 37, 38, 39, 40, 41, 42, 43, 44] (by decide +kernel) (by decide +kernel)
set_option maxRecDepth 20000 in
theorem gM_mark_M_all : GoodIn wsM_mark (va_wsS RM 58 yM_all wsM_all) := goodIn_r _ [23, 24, 8, 25, 27, 28, 29, 30, 31, 32, 33, 34, 35, 36, 37, 38, 39, 40, 41, 42, 43, 44] (by decide +kernel) (by decide +kernel)
set_option maxRecDepth 20000 in
theorem gM_turn_M_operate : GoodIn wsM_turn (wsV RM 45 RM yM_operate wsM_operate) := goodIn_r _ [2, 3, 4, 5, 6, 7, 8, 9, 10, 11, 23, 24, 25, 26, 27, 28, 29, 30, 31, 32, 33, 34, 35, 36, 37, 38, 39, 40] (by decide +kernel) (by decide +kernel)
set_option maxRecDepth 20000 in
theorem gM_turn_M_all : GoodIn wsM_turn (va_wsS RM 58 yM_all wsM_all) := goodIn_r _ [15, 16, 5, 17, 23, 24, 25, 26, 27, 28, 29, 30, 31, 32, 33, 34, 35, 36, 37, 38, 39, 40] (by decide +kernel) (by decide +kernel)
set_option maxRecDepth 20000 in
theorem gM_change_M_attempt : GoodIn wsM_change (wsV RM 79 RM yM_attempt wsM_attempt) := goodIn_r _ [1, 2, 3, 4, 5, 6, 7, 8, 9, 10, 11, 12, 4, 13, 14, 15, 16, 17, 18, 19, 20, 21, 22, 23, 24, 25, 26, 27, 28, 29, 30, 31, 32, 33, 34, 35, 36, 37, 38, 39, 40, 41, 42, 43, 44, 45, 46, 47, 48, 49, 50, 51, 52, 53, 54] (by decide +kernel) (by decide +kernel)
set_option maxRecDepth 20000 in
theorem gM_change_M_turn : GoodIn wsM_change (wsV RM 71 RM yM_turn wsM_turn) := goodIn_r _ [17, 18, 19, 4, 20, 21, 22, 23, 24, 4, 25, 26, 27, 6, 9, 28, 29, 30, 31, 32, 33, 34, 35, 15, 7, 16, 14, 37, 38, 39, 40, 41, 42, 43, 44, 45, 46, 47, 48, 49, 50, 51, 52, 53, 54] (by decide +kernel) (by decide +kernel)
set_option maxRecDepth 20000 in
theorem gM_unblock_M_mark : GoodIn wsM_unblock (wsV RM 75 RM yM_mark wsM_mark) := goodIn_r _ [5, 6, 7, 8, 9, 10, 11, 12, 2, 13, 14, 15, 8, 16, 17, 18, 19, 20, 21, 22, 23, 1, 4, 24, 25, 26, 27, 28, 29, 30, 31, 34, 35, 36, 37, 38, 39, 40, 41, 42, 43, 44, 45, 46, 47, 48, 49, 50, 51] (by decide +kernel) (by decide +kernel)
set_option maxRecDepth 20000 in
theorem gM_unblock_M_turn : GoodIn wsM_unblock (wsV RM 71 RM yM_turn wsM_turn) := goodIn_r _ [13, 14, 15, 8, 16, 17, 18, 19, 20, 8, 21, 22, 23, 1, 4, 24, 25, 26, 27, 28, 29, 30, 31, 11, 12, 2, 10, 34, 35, 36, 37, 38, 39, 40, 41, 42, 43, 44, 45, 46, 47, 48, 49, 50, 51] (by decide +kernel) (by decide +kernel)
set_option maxRecDepth 20000 in
theorem gL_law_L_cell : GoodIn lw_tbl (va_wsS RL 9 yL_cell wsL_cell) := goodIn_r _ [245, 246, 10, 247] (by decide +kernel) (by decide +kernel)
set_option maxRecDepth 20000 in
theorem gL_law_X2_init : GoodIn lw_tbl (wsX2_init) := goodIn_r _ [20, 21, 22, 23, 24, 25, 12, 65, 47, 48, 13, 49, 66, 67, 68, 69, 70, 71, 72, 26, 27, 28, 29, 46, 30, 31, 32, 33, 34, 50, 51, 52, 53, 58, 54, 55, 56, 57, 62, 63, 11, 64, 35, 37, 39, 41, 43, 73, 75, 77, 79, 81, 83, 85, 87, 59] (by decide +kernel) (by decide +kernel)
set_option maxRecDepth 20000 in
theorem gL_law_M_init : GoodIn lw_tbl (wsM_init) := goodIn_r _ [252, 253, 22, 23, 263, 265, 254, 260, 257, 255, 256, 273, 275, 277, 279, 281, 283, 285, 287, 289, 291, 293, 295, 297, 299, 301, 303, 305, 307] (by decide +kernel) (by decide +kernel)
set_option maxRecDepth 20000 in
theorem gL_law_X2_verify : GoodIn lw_tbl (wsV RL 21 RX2 yX2_verify wsX2_verify) := goodIn_r _ [90, 91, 92, 11, 93, 49, 71, 94, 96, 0, 11, 97, 70, 66, 68, 98, 99, 100, 13, 101, 58, 102, 103, 104, 105, 106, 108, 1, 109, 110, 111, 112, 12, 113, 30, 114, 116, 2, 117, 118, 119, 120, 121, 122, 124, 3, 125, 126, 127, 128, 129, 130, 131, 132, 133, 134, 135, 136, 137, 138, 139, 140, 141, 142, 34, 143, 145, 4, 146, 32, 33, 147, 148, 149, 150, 31, 151, 152, 153, 154, 156, 5, 157, 158, 159, 160, 161, 162, 73, 75, 77, 79, 81, 83, 85, 87, 59, 35, 37, 39, 41, 43] (by decide +kernel) (by decide +kernel)
set_option maxRecDepth 20000 in
theorem gL_law_M_verify : GoodIn lw_tbl (wsV RL 25 RM yM_verify wsM_verify) := goodIn_r _ [310, 311, 312, 14, 313, 314, 316, 6, 14, 317, 265, 261, 255, 266, 318, 320, 7, 321, 263, 260, 262, 322, 324, 8, 325, 264, 326, 328, 9, 329, 270, 267, 268, 258, 272, 271, 330, 331, 332, 259, 254, 273, 275, 277, 279, 281, 283, 285, 287, 289, 291, 293, 295, 297, 299, 301, 303, 305, 307] (by decide +kernel) (by decide +kernel)
set_option maxRecDepth 20000 in
theorem gL_law_X2_change : GoodIn lw_tbl (wsV RL 26 RX2 yX2_change wsX2_change) := goodIn_r _ [163, 164, 165, 11, 166, 49, 66, 71, 94, 96, 0, 11, 97, 70, 68, 98, 99, 100, 13, 101, 58, 102, 103, 104, 105, 106, 108, 1, 109, 110, 111, 112, 12, 113, 30, 114, 116, 2, 117, 118, 119, 120, 121, 122, 124, 3, 125, 126, 127, 128, 129, 130, 131, 132, 133, 134, 135, 136, 137, 138, 139, 140, 141, 142, 34, 143, 145, 4, 146, 32, 33, 147, 148, 149, 150, 31, 151, 152, 153, 154, 156, 5, 157, 158, 159, 160, 161, 162, 167, 168, 73, 75, 77, 79, 81, 83, 85, 87, 59, 35, 37, 39, 41, 43] (by decide +kernel) (by decide +kernel)
set_option maxRecDepth 20000 in
theorem gL_law_M_change : GoodIn lw_tbl (wsV RL 30 RM yM_change wsM_change) := goodIn_r _ [333, 334, 335, 14, 336, 314, 316, 6, 14, 317, 265, 261, 255, 266, 318, 320, 7, 321, 263, 260, 262, 322, 324, 8, 325, 264, 326, 328, 9, 329, 270, 267, 268, 258, 272, 271, 330, 331, 332, 259, 254, 273, 275, 277, 279, 281, 283, 285, 287, 289, 291, 293, 295, 297, 299, 301, 303, 305, 307] (by decide +kernel) (by decide +kernel)
set_option maxRecDepth 20000 in
theorem gL_law_X2_unblock : GoodIn lw_tbl (wsV RL 31 RX2 yX2_unblock wsX2_unblock) := goodIn_r _ [169, 170, 171, 11, 172, 70, 66, 69, 71, 67, 49, 167, 132, 133, 13, 134, 58, 102, 103, 104, 105, 106, 108, 1, 109, 110, 111, 112, 12, 113, 30, 114, 116, 2, 117, 118, 119, 120, 121, 122, 124, 3, 125, 126, 127, 128, 129, 130, 99, 100, 101, 131, 135, 136, 137, 138, 139, 140, 141, 142, 34, 143, 145, 4, 146, 32, 33, 147, 148, 149, 150, 31, 151, 152, 153, 154, 156, 5, 11, 157, 168, 73, 75, 77, 79, 81, 83, 85, 87, 59, 35, 37, 39, 41, 43] (by decide +kernel) (by decide +kernel)
set_option maxRecDepth 20000 in
theorem gL_law_M_unblock : GoodIn lw_tbl (wsV RL 34 RM yM_unblock wsM_unblock) := goodIn_r _ [337, 338, 339, 14, 340, 265, 262, 256, 266, 318, 320, 7, 14, 321, 263, 260, 261, 322, 324, 8, 325, 264, 326, 328, 9, 329, 270, 267, 268, 258, 272, 271, 330, 331, 332, 259, 257, 254, 273, 275, 277, 279, 281, 283, 285, 287, 289, 291, 293, 295, 297, 299, 301, 303, 305, 307] (by decide +kernel) (by decide +kernel)
set_option maxRecDepth 20000 in
theorem gL_law_X2_arm : GoodIn lw_tbl (wsV RL 35 RX2 yX2_arm wsX2_arm) := goodIn_r _ [173, 174, 175, 11, 176, 72, 65, 177, 178, 179, 12, 180, 33, 34, 73, 75, 77, 79, 81, 83, 85, 87, 35, 37, 39, 41, 43] (by decide +kernel) (by decide +kernel)
set_option maxRecDepth 20000 in
theorem gL_law_M_arm : GoodIn lw_tbl (wsV RL 39 RM yM_arm wsM_arm) := goodIn_r _ [341, 342, 343, 14, 344, 269, 267, 268, 273, 275, 277, 279, 281, 283, 285, 287, 289, 291, 293, 295, 297, 299, 301, 303, 305, 307] (by decide +kernel) (by decide +kernel)
set_option maxRecDepth 20000 in
theorem gL_law_X2_cut : GoodIn lw_tbl (wsV RL 40 RX2 yX2_cut wsX2_cut) := goodIn_r _ [181, 182, 183, 11, 184, 70, 154, 156, 5, 11, 157, 71, 73, 75, 77, 79, 81, 83, 85, 87] (by decide +kernel) (by decide +kernel)
set_option maxRecDepth 20000 in
theorem gL_law_M_cut : GoodIn lw_tbl (wsV RL 44 RM yM_cut wsM_cut) := goodIn_r _ [345, 346, 347, 14, 348, 265, 266, 273, 275, 277, 279, 281, 283, 285, 287, 289, 291, 293, 295, 297, 299, 301, 303, 305, 307] (by decide +kernel) (by decide +kernel)
set_option maxRecDepth 20000 in
theorem gL_law_X2_start : GoodIn lw_tbl (wsV RL 45 RX2 yX2_start wsX2_start) := goodIn_r _ [185, 186, 187, 11, 188, 70, 73, 75, 77, 79, 81, 83, 85, 87] (by decide +kernel) (by decide +kernel)
set_option maxRecDepth 20000 in
theorem gL_law_M_start : GoodIn lw_tbl (wsV RL 48 RM yM_start wsM_start) := goodIn_r _ [349, 350, 351, 14, 352, 265, 273, 275, 277, 279, 281, 283, 285, 287, 289, 291, 293, 295, 297, 299, 301, 303, 305, 307] (by decide +kernel) (by decide +kernel)
set_option maxRecDepth 20000 in
theorem gL_law_X2_in : GoodIn lw_tbl (wsV RL 49 RX2 yX2_in wsX2_in) := goodIn_r _ [189, 190, 191, 11, 192, 71, 73, 75, 77, 79, 81, 83, 85, 87] (by decide +kernel) (by decide +kernel)
set_option maxRecDepth 20000 in
theorem gL_law_M_in : GoodIn lw_tbl (wsV RL 52 RM yM_in wsM_in) := goodIn_r _ [353, 354, 355, 14, 356, 266, 273, 275, 277, 279, 281, 283, 285, 287, 289, 291, 293, 295, 297, 299, 301, 303, 305, 307] (by decide +kernel) (by decide +kernel)
set_option maxRecDepth 20000 in
theorem gL_law_X2_up : GoodIn lw_tbl (wsV RL 53 RX2 yX2_up wsX2_up) := goodIn_r _ [193, 194, 195, 11, 196, 70, 73, 75, 77, 79, 81, 83, 85, 87] (by decide +kernel) (by decide +kernel)
set_option maxRecDepth 20000 in
theorem gL_law_M_up : GoodIn lw_tbl (wsV RL 56 RM yM_up wsM_up) := goodIn_r _ [357, 358, 359, 14, 360, 265, 273, 275, 277, 279, 281, 283, 285, 287, 289, 291, 293, 295, 297, 299, 301, 303, 305, 307] (by decide +kernel) (by decide +kernel)
set_option maxRecDepth 20000 in
theorem gL_law_X2_tries : GoodIn lw_tbl (wsV RL 57 RX2 yX2_tries wsX2_tries) := goodIn_r _ [197, 198, 199, 11, 200, 68, 66, 201, 202, 15, 203, 98, 99, 100, 13, 101, 58, 102, 103, 104, 105, 106, 108, 1, 109, 110, 111, 112, 12, 113, 30, 114, 116, 2, 117, 73, 75, 77, 79, 81, 83, 85, 87, 59, 35, 37, 39, 41, 43] (by decide +kernel) (by decide +kernel)
set_option maxRecDepth 20000 in
theorem gL_law_M_tries : GoodIn lw_tbl (wsV RL 61 RM yM_tries wsM_tries) := goodIn_r _ [361, 362, 363, 14, 364, 261, 255, 273, 275, 277, 279, 281, 283, 285, 287, 289, 291, 293, 295, 297, 299, 301, 303, 305, 307] (by decide +kernel) (by decide +kernel)
set_option maxRecDepth 20000 in
theorem gL_law_X2_puks : GoodIn lw_tbl (wsV RL 62 RX2 yX2_puks wsX2_puks) := goodIn_r _ [204, 205, 206, 11, 207, 69, 66, 201, 202, 15, 203, 167, 132, 133, 13, 134, 58, 102, 103, 104, 105, 106, 108, 1, 109, 110, 111, 112, 12, 113, 30, 114, 116, 2, 117, 73, 75, 77, 79, 81, 83, 85, 87, 59, 35, 37, 39, 41, 43] (by decide +kernel) (by decide +kernel)
set_option maxRecDepth 20000 in
theorem gL_law_M_puks : GoodIn lw_tbl (wsV RL 65 RM yM_puks wsM_puks) := goodIn_r _ [365, 366, 367, 14, 368, 262, 256, 273, 275, 277, 279, 281, 283, 285, 287, 289, 291, 293, 295, 297, 299, 301, 303, 305, 307] (by decide +kernel) (by decide +kernel)
set_option maxRecDepth 20000 in
theorem gL_law_X2_page : GoodIn lw_tbl (wsV RL 66 RX2 yX2_page wsX2_page) := goodIn_r _ [208, 209, 210, 11, 211, 66, 212, 103, 104, 13, 105, 58, 106, 108, 1, 109, 110, 111, 112, 12, 113, 30, 114, 116, 2, 117, 73, 75, 77, 79, 81, 83, 85, 87, 59, 35, 37, 39, 41, 43] (by decide +kernel) (by decide +kernel)
set_option maxRecDepth 20000 in
theorem gL_law_M_page : GoodIn lw_tbl (wsV RL 69 RM yM_page wsM_page) := goodIn_r _ [369, 370, 371, 14, 372, 258, 273, 275, 277, 279, 281, 283, 285, 287, 289, 291, 293, 295, 297, 299, 301, 303, 305, 307] (by decide +kernel) (by decide +kernel)
set_option maxRecDepth 20000 in
theorem gL_law_X2_generation : GoodIn lw_tbl (wsV RL 70 RX2 yX2_generation wsX2_generation) := goodIn_r _ [213, 214, 215, 11, 216, 66, 217, 218, 219, 13, 220, 58, 102, 103, 104, 105, 106, 108, 1, 109, 110, 111, 112, 12, 113, 30, 114, 116, 2, 117, 73, 75, 77, 79, 81, 83, 85, 87, 59, 35, 37, 39, 41, 43] (by decide +kernel) (by decide +kernel)
set_option maxRecDepth 20000 in
theorem gL_law_M_generation : GoodIn lw_tbl (wsV RL 73 RM yM_generation wsM_generation) := goodIn_r _ [373, 374, 375, 14, 376, 259, 273, 275, 277, 279, 281, 283, 285, 287, 289, 291, 293, 295, 297, 299, 301, 303, 305, 307] (by decide +kernel) (by decide +kernel)
set_option maxRecDepth 20000 in
theorem gL_law_X2_free : GoodIn lw_tbl (wsV RL 74 RX2 yX2_free wsX2_free) := goodIn_r _ [221, 222, 223, 11, 224, 66, 225, 226, 227, 13, 228, 58, 102, 103, 104, 105, 106, 108, 1, 109, 110, 111, 112, 12, 113, 30, 114, 116, 2, 117, 73, 75, 77, 79, 81, 83, 85, 87, 59, 35, 37, 39, 41, 43] (by decide +kernel) (by decide +kernel)
set_option maxRecDepth 20000 in
theorem gL_law_M_free : GoodIn lw_tbl (wsV RL 77 RM yM_free wsM_free) := goodIn_r _ [377, 378, 379, 14, 380, 263, 273, 275, 277, 279, 281, 283, 285, 287, 289, 291, 293, 295, 297, 299, 301, 303, 305, 307] (by decide +kernel) (by decide +kernel)
set_option maxRecDepth 20000 in
theorem gL_law_X2_operations : GoodIn lw_tbl (wsV RL 78 RX2 yX2_operations wsX2_operations) := goodIn_r _ [229, 230, 231, 11, 232, 65, 233, 234, 235, 12, 236, 32, 73, 75, 77, 79, 81, 83, 85, 87, 35, 37, 39, 41, 43] (by decide +kernel) (by decide +kernel)
set_option maxRecDepth 20000 in
theorem gL_law_M_operations : GoodIn lw_tbl (wsV RL 81 RM yM_operations wsM_operations) := goodIn_r _ [381, 382, 383, 14, 384, 270, 273, 275, 277, 279, 281, 283, 285, 287, 289, 291, 293, 295, 297, 299, 301, 303, 305, 307] (by decide +kernel) (by decide +kernel)
set_option maxRecDepth 20000 in
theorem gL_law_X2_erased : GoodIn lw_tbl (wsV RL 82 RX2 yX2_erased wsX2_erased) := goodIn_r _ [237, 238, 239, 11, 240, 65, 241, 242, 243, 12, 244, 31, 151, 152, 153, 73, 75, 77, 79, 81, 83, 85, 87, 35, 37, 39, 41, 43] (by decide +kernel) (by decide +kernel)
set_option maxRecDepth 20000 in
theorem gL_law_M_erased : GoodIn lw_tbl (wsV RL 85 RM yM_erased wsM_erased) := goodIn_r _ [385, 386, 387, 14, 388, 271, 272, 273, 275, 277, 279, 281, 283, 285, 287, 289, 291, 293, 295, 297, 299, 301, 303, 305, 307] (by decide +kernel) (by decide +kernel)
set_option maxRecDepth 20000 in
theorem inX0 : ∀ w ∈ wsX00, w ∈ lw_tbl := fun w h => (goodIn_r wsX00 [35, 37, 39, 41, 43] (by decide +kernel) (by decide +kernel) w h).1
set_option maxRecDepth 20000 in
theorem inX1 : ∀ w ∈ wsX10, w ∈ lw_tbl := fun w h => (goodIn_r wsX10 [59] (by decide +kernel) (by decide +kernel) w h).1
set_option maxRecDepth 20000 in
theorem inX2 : ∀ w ∈ wsX20, w ∈ lw_tbl := fun w h => (goodIn_r wsX20 [73, 75, 77, 79, 81, 83, 85, 87] (by decide +kernel) (by decide +kernel) w h).1
set_option maxRecDepth 20000 in
theorem inM : ∀ w ∈ wsM0, w ∈ lw_tbl := fun w h => (goodIn_r wsM0 [273, 275, 277, 279, 281, 283, 285, 287, 289, 291, 293, 295, 297, 299, 301, 303, 305, 307] (by decide +kernel) (by decide +kernel) w h).1

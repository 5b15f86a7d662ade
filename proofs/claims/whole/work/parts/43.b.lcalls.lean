set_option maxRecDepth 20000 in
theorem ggL_law_X3_init : GoodIn wsL_law wsX3_init := goodIn_r _ [9, 10, 11, 12, 13, 14, 15, 16, 17, 18, 19, 20, 21, 22, 23, 24, 25, 26, 27, 28, 29, 30, 31, 32, 33, 460, 461, 462, 463, 464, 465, 466, 467, 468, 489, 490] rfl (by decide +kernel)
set_option maxRecDepth 20000 in
theorem gL_law_X3_init : GoodIn wsL_law (wsX3_init) := ggL_law_X3_init
set_option maxRecDepth 20000 in
theorem ggL_law_X4_init : GoodIn wsL_law wsX4_init := goodIn_r _ [36, 37, 11, 12, 13, 38, 39, 40, 41, 42, 43, 44, 45, 46, 47, 48, 49, 50, 469, 470, 471, 472, 473, 474, 475, 476, 477, 478, 479, 480, 481, 482, 483, 484, 485, 486, 487, 488] rfl (by decide +kernel)
set_option maxRecDepth 20000 in
theorem gL_law_X4_init : GoodIn wsL_law (wsX4_init) := ggL_law_X4_init
set_option maxRecDepth 20000 in
theorem ggL_law_L_load : GoodIn wsL_law wsL_load := goodIn_ca (goodIn_r _ [54, 55, 56, 57, 58, 2, 59, 60, 61, 14, 62, 63, 64, 460, 461, 462, 463, 464, 465, 466, 467, 468] rfl (by decide +kernel)) (goodIn_sub (fun _ h => List.mem_append_right _ h) (by decide +kernel))
set_option maxRecDepth 20000 in
theorem gL_law_L_load : GoodIn wsL_law (va_wsS RL 37 yL_load wsL_load) := goodIn_app (goodIn_of _ (by decide +kernel)) ggL_law_L_load
set_option maxRecDepth 20000 in
theorem ggL_law_X4_load : GoodIn wsL_law wsX4_load := goodIn_r _ [68, 69, 38, 70, 71, 5, 72, 73, 74, 75, 469, 470, 471, 472, 473, 474, 475, 476, 477, 478, 479, 480, 481, 482, 483, 484, 485, 486, 487, 488] rfl (by decide +kernel)
set_option maxRecDepth 20000 in
theorem gL_law_X4_load : GoodIn wsL_law (wsV RL 42 RX4 yX4_load wsX4_load) := goodIn_app (goodIn_of _ (by decide +kernel)) ggL_law_X4_load
set_option maxRecDepth 20000 in
theorem ggL_law_X4_thrown : GoodIn wsL_law wsX4_thrown := goodIn_r _ [79, 69, 469, 470, 471, 472, 473, 474, 475, 476, 477, 478, 479, 480, 481, 482, 483, 484, 485, 486, 487, 488] rfl (by decide +kernel)
set_option maxRecDepth 20000 in
theorem gL_law_X4_thrown : GoodIn wsL_law (wsV RL 43 RX4 yX4_thrown wsX4_thrown) := goodIn_app (goodIn_of _ (by decide +kernel)) ggL_law_X4_thrown
set_option maxRecDepth 20000 in
theorem ggL_law_L_word : GoodIn wsL_law wsL_word := goodIn_ca (goodIn_r _ [82, 55, 83, 84, 85, 2, 86, 60, 61, 14, 62, 63, 64, 460, 461, 462, 463, 464, 465, 466, 467, 468] rfl (by decide +kernel)) (goodIn_sub (fun _ h => List.mem_append_right _ h) (by decide +kernel))
set_option maxRecDepth 20000 in
theorem gL_law_L_word : GoodIn wsL_law (va_wsS RL 47 yL_word wsL_word) := goodIn_app (goodIn_of _ (by decide +kernel)) ggL_law_L_word
set_option maxRecDepth 20000 in
theorem ggL_law_X4_word : GoodIn wsL_law wsX4_word := goodIn_r _ [90, 69, 38, 70, 71, 5, 72, 73, 74, 75, 91, 92, 93, 94, 469, 470, 471, 472, 473, 474, 475, 476, 477, 478, 479, 480, 481, 482, 483, 484, 485, 486, 487, 488] rfl (by decide +kernel)
set_option maxRecDepth 20000 in
theorem gL_law_X4_word : GoodIn wsL_law (wsV RL 50 RX4 yX4_word wsX4_word) := goodIn_app (goodIn_of _ (by decide +kernel)) ggL_law_X4_word
set_option maxRecDepth 20000 in
theorem ggL_law_L_line : GoodIn wsL_law wsL_line := goodIn_ca (goodIn_r _ [97, 55, 98, 99, 100, 2, 101, 60, 61, 19, 102, 18, 103, 104, 28, 460, 461, 462, 463, 464, 465, 466, 467, 468, 489] rfl (by decide +kernel)) (goodIn_sub (fun _ h => List.mem_append_right _ h) (by decide +kernel))
set_option maxRecDepth 20000 in
theorem gL_law_L_line : GoodIn wsL_law (va_wsS RL 51 yL_line wsL_line) := goodIn_app (goodIn_of _ (by decide +kernel)) ggL_law_L_line
set_option maxRecDepth 20000 in
theorem ggL_law_X4_line : GoodIn wsL_law wsX4_line := goodIn_r _ [108, 69, 40, 73, 74, 5, 75, 469, 470, 471, 472, 473, 474, 475, 476, 477, 478, 479, 480, 481, 482, 483, 484, 485, 486, 487, 488] rfl (by decide +kernel)
set_option maxRecDepth 20000 in
theorem gL_law_X4_line : GoodIn wsL_law (wsV RL 54 RX4 yX4_line wsX4_line) := goodIn_app (goodIn_of _ (by decide +kernel)) ggL_law_X4_line
set_option maxRecDepth 20000 in
theorem ggL_law_X3_filled : GoodIn wsL_law wsX3_filled := goodIn_r _ [112, 113, 460, 461, 462, 463, 464, 465, 466, 467, 468] rfl (by decide +kernel)
set_option maxRecDepth 20000 in
theorem gL_law_X3_filled : GoodIn wsL_law (wsV RL 55 RX3 yX3_filled wsX3_filled) := goodIn_app (goodIn_of _ (by decide +kernel)) ggL_law_X3_filled
set_option maxRecDepth 20000 in
theorem ggL_law_X4_filled : GoodIn wsL_law wsX4_filled := goodIn_r _ [117, 69, 118, 469, 470, 471, 472, 473, 474, 475, 476, 477, 478, 479, 480, 481, 482, 483, 484, 485, 486, 487, 488] rfl (by decide +kernel)
set_option maxRecDepth 20000 in
theorem gL_law_X4_filled : GoodIn wsL_law (wsV RL 59 RX4 yX4_filled wsX4_filled) := goodIn_app (goodIn_of _ (by decide +kernel)) ggL_law_X4_filled
set_option maxRecDepth 20000 in
theorem ggL_law_X3_jump : GoodIn wsL_law wsX3_jump := goodIn_r _ [122, 123, 24, 460, 461, 462, 463, 464, 465, 466, 467, 468] rfl (by decide +kernel)
set_option maxRecDepth 20000 in
theorem gL_law_X3_jump : GoodIn wsL_law (wsV RL 60 RX3 yX3_jump wsX3_jump) := goodIn_app (goodIn_of _ (by decide +kernel)) ggL_law_X3_jump
set_option maxRecDepth 20000 in
theorem ggL_law_X4_jump : GoodIn wsL_law wsX4_jump := goodIn_r _ [127, 69, 128, 129, 130, 469, 470, 471, 472, 473, 474, 475, 476, 477, 478, 479, 480, 481, 482, 483, 484, 485, 486, 487, 488] rfl (by decide +kernel)
set_option maxRecDepth 20000 in
theorem gL_law_X4_jump : GoodIn wsL_law (wsV RL 63 RX4 yX4_jump wsX4_jump) := goodIn_app (goodIn_of _ (by decide +kernel)) ggL_law_X4_jump
set_option maxRecDepth 20000 in
theorem ggL_law_X3_run : GoodIn wsL_law wsX3_run := goodIn_r _ [134, 135, 136, 137, 138, 139, 24, 140, 141, 142, 2, 143, 19, 144, 18, 145, 146, 28, 147, 148, 149, 150, 151, 152, 153, 123, 154, 155, 156, 157, 158, 159, 160, 161, 162, 163, 164, 165, 166, 14, 167, 168, 169, 170, 171, 172, 173, 174, 175, 176, 177, 178, 179, 180, 181, 23, 182, 22, 183, 184, 33, 185, 186, 187, 188, 189, 190, 62, 63, 64, 191, 192, 193, 194, 195, 196, 197, 198, 199, 200, 201, 202, 203, 204, 205, 206, 207, 208, 209, 210, 15, 211, 212, 213, 214, 215, 216, 217, 218, 219, 220, 221, 222, 223, 224, 225, 226, 227, 228, 229, 230, 231, 232, 233, 234, 235, 236, 237, 238, 239, 240, 241, 242, 243, 244, 245, 246, 247, 248, 249, 250, 251, 252, 253, 254, 255, 256, 257, 258, 259, 260, 261, 262, 263, 264, 265, 113, 266, 267, 268, 269, 270, 271, 272, 273, 274, 275, 276, 277, 278, 279, 280, 281, 282, 283, 284, 285, 286, 287, 288, 289, 290, 291, 292, 293, 294, 295, 296, 297, 298, 299, 300, 301, 302, 303, 304, 305, 306, 307, 308, 309, 310, 311, 312, 313, 314, 315, 316, 460, 461, 462, 463, 464, 465, 466, 467, 468, 489, 490] rfl (by decide +kernel)
set_option maxRecDepth 20000 in
theorem gL_law_X3_run : GoodIn wsL_law (wsV RL 64 RX3 yX3_run wsX3_run) := goodIn_app (goodIn_of _ (by decide +kernel)) ggL_law_X3_run
set_option maxRecDepth 20000 in
theorem ggL_law_X4_run : GoodIn wsL_law wsX4_run := goodIn_r _ [320, 69, 321, 129, 322, 323, 324, 5, 325, 40, 130, 326, 128, 327, 328, 329, 330, 331, 332, 333, 334, 335, 336, 337, 338, 339, 340, 341, 38, 342, 39, 343, 344, 345, 346, 347, 348, 349, 350, 351, 352, 353, 354, 355, 50, 356, 357, 358, 359, 360, 361, 362, 46, 48, 47, 49, 73, 74, 75, 363, 364, 365, 366, 367, 368, 369, 370, 371, 372, 373, 374, 375, 376, 377, 378, 379, 380, 381, 382, 383, 384, 118, 385, 386, 387, 388, 389, 390, 391, 392, 44, 393, 394, 395, 396, 397, 398, 399, 400, 401, 402, 403, 404, 405, 406, 407, 408, 409, 410, 411, 412, 413, 414, 415, 416, 417, 418, 469, 470, 471, 472, 473, 474, 475, 476, 477, 478, 479, 480, 481, 482, 483, 484, 485, 486, 487, 488] rfl (by decide +kernel)
set_option maxRecDepth 20000 in
theorem gL_law_X4_run : GoodIn wsL_law (wsV RL 67 RX4 yX4_run wsX4_run) := goodIn_app (goodIn_of _ (by decide +kernel)) ggL_law_X4_run
set_option maxRecDepth 20000 in
theorem ggL_law_X3_state : GoodIn wsL_law wsX3_state := goodIn_r _ [422, 24, 460, 461, 462, 463, 464, 465, 466, 467, 468] rfl (by decide +kernel)
set_option maxRecDepth 20000 in
theorem gL_law_X3_state : GoodIn wsL_law (wsV RL 68 RX3 yX3_state wsX3_state) := goodIn_app (goodIn_of _ (by decide +kernel)) ggL_law_X3_state
set_option maxRecDepth 20000 in
theorem ggL_law_X4_state : GoodIn wsL_law wsX4_state := goodIn_r _ [426, 69, 129, 130, 469, 470, 471, 472, 473, 474, 475, 476, 477, 478, 479, 480, 481, 482, 483, 484, 485, 486, 487, 488] rfl (by decide +kernel)
set_option maxRecDepth 20000 in
theorem gL_law_X4_state : GoodIn wsL_law (wsV RL 71 RX4 yX4_state wsX4_state) := goodIn_app (goodIn_of _ (by decide +kernel)) ggL_law_X4_state
set_option maxRecDepth 20000 in
theorem ggL_law_L_register : GoodIn wsL_law wsL_register := goodIn_ca (goodIn_r _ [429, 55, 430, 431, 432, 2, 433, 60, 61, 123, 232, 15, 460, 461, 462, 463, 464, 465, 466, 467, 468] rfl (by decide +kernel)) (goodIn_sub (fun _ h => List.mem_append_right _ h) (by decide +kernel))
set_option maxRecDepth 20000 in
theorem gL_law_L_register : GoodIn wsL_law (va_wsS RL 72 yL_register wsL_register) := goodIn_app (goodIn_of _ (by decide +kernel)) ggL_law_L_register
set_option maxRecDepth 20000 in
theorem ggL_law_X4_register : GoodIn wsL_law wsX4_register := goodIn_r _ [437, 69, 39, 128, 376, 73, 74, 5, 75, 91, 92, 93, 94, 469, 470, 471, 472, 473, 474, 475, 476, 477, 478, 479, 480, 481, 482, 483, 484, 485, 486, 487, 488] rfl (by decide +kernel)
set_option maxRecDepth 20000 in
theorem gL_law_X4_register : GoodIn wsL_law (wsV RL 74 RX4 yX4_register wsX4_register) := goodIn_app (goodIn_of _ (by decide +kernel)) ggL_law_X4_register
set_option maxRecDepth 20000 in
theorem ggL_law_L_control : GoodIn wsL_law wsL_control := goodIn_ca (goodIn_r _ [440, 55, 441, 442, 443, 2, 444, 60, 61, 19, 160, 18, 161, 162, 28, 460, 461, 462, 463, 464, 465, 466, 467, 468, 489] rfl (by decide +kernel)) (goodIn_sub (fun _ h => List.mem_append_right _ h) (by decide +kernel))
set_option maxRecDepth 20000 in
theorem gL_law_L_control : GoodIn wsL_law (va_wsS RL 75 yL_control wsL_control) := goodIn_app (goodIn_of _ (by decide +kernel)) ggL_law_L_control
set_option maxRecDepth 20000 in
theorem ggL_law_X4_control : GoodIn wsL_law wsX4_control := goodIn_r _ [448, 69, 40, 73, 74, 5, 75, 91, 92, 93, 94, 469, 470, 471, 472, 473, 474, 475, 476, 477, 478, 479, 480, 481, 482, 483, 484, 485, 486, 487, 488] rfl (by decide +kernel)
set_option maxRecDepth 20000 in
theorem gL_law_X4_control : GoodIn wsL_law (wsV RL 77 RX4 yX4_control wsX4_control) := goodIn_app (goodIn_of _ (by decide +kernel)) ggL_law_X4_control
set_option maxRecDepth 20000 in
theorem ggL_law_L_entry : GoodIn wsL_law wsL_entry := goodIn_ca (goodIn_r _ [451, 55, 452, 453, 454, 2, 455, 60, 61, 23, 185, 22, 186, 187, 33, 460, 461, 462, 463, 464, 465, 466, 467, 468, 490] rfl (by decide +kernel)) (goodIn_sub (fun _ h => List.mem_append_right _ h) (by decide +kernel))
set_option maxRecDepth 20000 in
theorem gL_law_L_entry : GoodIn wsL_law (va_wsS RL 78 yL_entry wsL_entry) := goodIn_app (goodIn_of _ (by decide +kernel)) ggL_law_L_entry
set_option maxRecDepth 20000 in
theorem ggL_law_X4_entry : GoodIn wsL_law wsX4_entry := goodIn_r _ [459, 69, 50, 46, 48, 49, 47, 73, 74, 5, 75, 91, 92, 93, 94, 469, 470, 471, 472, 473, 474, 475, 476, 477, 478, 479, 480, 481, 482, 483, 484, 485, 486, 487, 488] rfl (by decide +kernel)
set_option maxRecDepth 20000 in
theorem gL_law_X4_entry : GoodIn wsL_law (wsV RL 81 RX4 yX4_entry wsX4_entry) := goodIn_app (goodIn_of _ (by decide +kernel)) ggL_law_X4_entry

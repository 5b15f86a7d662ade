set_option maxRecDepth 20000 in
theorem ggX3_init_X2_init : GoodIn wsX3_init wsX2_init := goodIn_r _ [17, 18, 2, 3, 4, 19, 34] (by decide +kernel) (by decide +kernel)
set_option maxRecDepth 20000 in
theorem gX3_init_X2_init_n18 : GoodIn wsX3_init (wsX2_init) := ggX3_init_X2_init
set_option maxRecDepth 20000 in
theorem ggX3_init_X0_init : GoodIn wsX3_init wsX0_init := goodIn_r _ [21, 22, 2, 3, 23, 4, 24, 35] (by decide +kernel) (by decide +kernel)
set_option maxRecDepth 20000 in
theorem gX3_init_X0_init_n25 : GoodIn wsX3_init (wsX0_init) := ggX3_init_X0_init
theorem dX3_init_0 : decode cX3_init 0 = .ok (.aload_n 0, 1) := by decide +kernel
theorem dX3_init_1 : decode cX3_init 1 = .ok (.invokespecial 1, 3) := by decide +kernel
theorem dX3_init_4 : decode cX3_init 4 = .ok (.aload_n 0, 1) := by decide +kernel
theorem dX3_init_5 : decode cX3_init 5 = .ok (.sipush 512, 3) := by decide +kernel
theorem dX3_init_8 : decode cX3_init 8 = .ok (.newarray .int, 2) := by decide +kernel
theorem dX3_init_10 : decode cX3_init 10 = .ok (.putfield 9, 3) := by decide +kernel
theorem dX3_init_13 : decode cX3_init 13 = .ok (.aload_n 0, 1) := by decide +kernel
theorem dX3_init_14 : decode cX3_init 14 = .ok (.bipush 8, 2) := by decide +kernel
theorem dX3_init_16 : decode cX3_init 16 = .ok (.newarray .int, 2) := by decide +kernel
theorem dX3_init_18 : decode cX3_init 18 = .ok (.putfield 13, 3) := by decide +kernel
theorem dX3_init_21 : decode cX3_init 21 = .ok (.aload_n 0, 1) := by decide +kernel
theorem dX3_init_22 : decode cX3_init 22 = .ok (.new 16, 3) := by decide +kernel
theorem dX3_init_25 : decode cX3_init 25 = .ok (.dup, 1) := by decide +kernel
theorem dX3_init_26 : decode cX3_init 26 = .ok (.invokespecial 18, 3) := by decide +kernel
theorem dX3_init_29 : decode cX3_init 29 = .ok (.putfield 19, 3) := by decide +kernel
theorem dX3_init_32 : decode cX3_init 32 = .ok (.aload_n 0, 1) := by decide +kernel
theorem dX3_init_33 : decode cX3_init 33 = .ok (.new 23, 3) := by decide +kernel
theorem dX3_init_36 : decode cX3_init 36 = .ok (.dup, 1) := by decide +kernel
theorem dX3_init_37 : decode cX3_init 37 = .ok (.invokespecial 25, 3) := by decide +kernel
theorem dX3_init_40 : decode cX3_init 40 = .ok (.putfield 26, 3) := by decide +kernel
theorem dX3_init_43 : decode cX3_init 43 = .ok (.aload_n 0, 1) := by decide +kernel
theorem dX3_init_44 : decode cX3_init 44 = .ok (.iconst 0, 1) := by decide +kernel
theorem dX3_init_45 : decode cX3_init 45 = .ok (.putfield 30, 3) := by decide +kernel
theorem dX3_init_48 : decode cX3_init 48 = .ok (.return_, 1) := by decide +kernel
set_option maxRecDepth 20000 in
theorem ggX3_load_X3_isInMemory : GoodIn wsX3_load wsX3_isInMemory := goodIn_r _ [7] (by decide +kernel) (by decide +kernel)
set_option maxRecDepth 20000 in
theorem gX3_load_X3_isInMemory : GoodIn wsX3_load (va_wsS RX3 34 yX3_isInMemory wsX3_isInMemory) := goodIn_app (goodIn_of _ (by decide +kernel)) ggX3_load_X3_isInMemory
theorem dX3_load_0 : decode cX3_load 0 = .ok (.iload_n 1, 1) := by decide +kernel
theorem dX3_load_1 : decode cX3_load 1 = .ok (.invokestatic 34, 3) := by decide +kernel
theorem dX3_load_4 : decode cX3_load 4 = .ok (.ifCond .ne 13, 3) := by decide +kernel
theorem dX3_load_7 : decode cX3_load 7 = .ok (.new 38, 3) := by decide +kernel
theorem dX3_load_10 : decode cX3_load 10 = .ok (.dup, 1) := by decide +kernel
theorem dX3_load_11 : decode cX3_load 11 = .ok (.ldc 40, 2) := by decide +kernel
theorem dX3_load_13 : decode cX3_load 13 = .ok (.invokespecial 42, 3) := by decide +kernel
theorem dX3_load_16 : decode cX3_load 16 = .ok (.athrow, 1) := by decide +kernel
theorem dX3_load_17 : decode cX3_load 17 = .ok (.aload_n 0, 1) := by decide +kernel
theorem dX3_load_18 : decode cX3_load 18 = .ok (.getfield 9, 3) := by decide +kernel
theorem dX3_load_21 : decode cX3_load 21 = .ok (.iload_n 1, 1) := by decide +kernel
theorem dX3_load_22 : decode cX3_load 22 = .ok (.iconst 2, 1) := by decide +kernel
theorem dX3_load_23 : decode cX3_load 23 = .ok (.iushr, 1) := by decide +kernel
theorem dX3_load_24 : decode cX3_load 24 = .ok (.iload_n 2, 1) := by decide +kernel
theorem dX3_load_25 : decode cX3_load 25 = .ok (.iastore, 1) := by decide +kernel
theorem dX3_load_26 : decode cX3_load 26 = .ok (.return_, 1) := by decide +kernel
set_option maxRecDepth 20000 in
theorem ggX3_word_X3_isInMemory : GoodIn wsX3_word wsX3_isInMemory := goodIn_r _ [7] (by decide +kernel) (by decide +kernel)
set_option maxRecDepth 20000 in
theorem gX3_word_X3_isInMemory : GoodIn wsX3_word (va_wsS RX3 34 yX3_isInMemory wsX3_isInMemory) := goodIn_app (goodIn_of _ (by decide +kernel)) ggX3_word_X3_isInMemory
theorem dX3_word_0 : decode cX3_word 0 = .ok (.iload_n 1, 1) := by decide +kernel
theorem dX3_word_1 : decode cX3_word 1 = .ok (.invokestatic 34, 3) := by decide +kernel
theorem dX3_word_4 : decode cX3_word 4 = .ok (.ifCond .ne 13, 3) := by decide +kernel
theorem dX3_word_7 : decode cX3_word 7 = .ok (.new 38, 3) := by decide +kernel
theorem dX3_word_10 : decode cX3_word 10 = .ok (.dup, 1) := by decide +kernel
theorem dX3_word_11 : decode cX3_word 11 = .ok (.ldc 40, 2) := by decide +kernel
theorem dX3_word_13 : decode cX3_word 13 = .ok (.invokespecial 42, 3) := by decide +kernel
theorem dX3_word_16 : decode cX3_word 16 = .ok (.athrow, 1) := by decide +kernel
theorem dX3_word_17 : decode cX3_word 17 = .ok (.aload_n 0, 1) := by decide +kernel
theorem dX3_word_18 : decode cX3_word 18 = .ok (.getfield 9, 3) := by decide +kernel
theorem dX3_word_21 : decode cX3_word 21 = .ok (.iload_n 1, 1) := by decide +kernel
theorem dX3_word_22 : decode cX3_word 22 = .ok (.iconst 2, 1) := by decide +kernel
theorem dX3_word_23 : decode cX3_word 23 = .ok (.iushr, 1) := by decide +kernel
theorem dX3_word_24 : decode cX3_word 24 = .ok (.iaload, 1) := by decide +kernel
theorem dX3_word_25 : decode cX3_word 25 = .ok (.ireturn, 1) := by decide +kernel
set_option maxRecDepth 20000 in
theorem ggX3_line_X2_setLine : GoodIn wsX3_line wsX2_setLine := goodIn_r _ [7, 8, 18] (by decide +kernel) (by decide +kernel)
set_option maxRecDepth 20000 in
theorem gX3_line_X2_setLine_n47 : GoodIn wsX3_line (wsX2_setLine) := ggX3_line_X2_setLine
theorem dX3_line_0 : decode cX3_line 0 = .ok (.iload_n 1, 1) := by decide +kernel
theorem dX3_line_1 : decode cX3_line 1 = .ok (.ifCond .lt 8, 3) := by decide +kernel
theorem dX3_line_4 : decode cX3_line 4 = .ok (.iload_n 1, 1) := by decide +kernel
theorem dX3_line_5 : decode cX3_line 5 = .ok (.iconst 3, 1) := by decide +kernel
theorem dX3_line_6 : decode cX3_line 6 = .ok (.if_icmp .le 13, 3) := by decide +kernel
theorem dX3_line_9 : decode cX3_line 9 = .ok (.new 38, 3) := by decide +kernel
theorem dX3_line_12 : decode cX3_line 12 = .ok (.dup, 1) := by decide +kernel
theorem dX3_line_13 : decode cX3_line 13 = .ok (.ldc 45, 2) := by decide +kernel
theorem dX3_line_15 : decode cX3_line 15 = .ok (.invokespecial 42, 3) := by decide +kernel
theorem dX3_line_18 : decode cX3_line 18 = .ok (.athrow, 1) := by decide +kernel
theorem dX3_line_19 : decode cX3_line 19 = .ok (.aload_n 0, 1) := by decide +kernel
theorem dX3_line_20 : decode cX3_line 20 = .ok (.getfield 19, 3) := by decide +kernel
theorem dX3_line_23 : decode cX3_line 23 = .ok (.iload_n 1, 1) := by decide +kernel
theorem dX3_line_24 : decode cX3_line 24 = .ok (.iload_n 2, 1) := by decide +kernel
theorem dX3_line_25 : decode cX3_line 25 = .ok (.invokevirtual 47, 3) := by decide +kernel
theorem dX3_line_28 : decode cX3_line 28 = .ok (.return_, 1) := by decide +kernel
theorem dX3_filled_0 : decode cX3_filled 0 = .ok (.aload_n 0, 1) := by decide +kernel
theorem dX3_filled_1 : decode cX3_filled 1 = .ok (.iload_n 1, 1) := by decide +kernel
theorem dX3_filled_2 : decode cX3_filled 2 = .ok (.iconst 3, 1) := by decide +kernel
theorem dX3_filled_3 : decode cX3_filled 3 = .ok (.iand, 1) := by decide +kernel
theorem dX3_filled_4 : decode cX3_filled 4 = .ok (.putfield 51, 3) := by decide +kernel
theorem dX3_filled_7 : decode cX3_filled 7 = .ok (.return_, 1) := by decide +kernel
theorem dX3_jump_0 : decode cX3_jump 0 = .ok (.aload_n 0, 1) := by decide +kernel
theorem dX3_jump_1 : decode cX3_jump 1 = .ok (.iload_n 1, 1) := by decide +kernel
theorem dX3_jump_2 : decode cX3_jump 2 = .ok (.putfield 54, 3) := by decide +kernel
theorem dX3_jump_5 : decode cX3_jump 5 = .ok (.aload_n 0, 1) := by decide +kernel
theorem dX3_jump_6 : decode cX3_jump 6 = .ok (.iconst 0, 1) := by decide +kernel
theorem dX3_jump_7 : decode cX3_jump 7 = .ok (.putfield 30, 3) := by decide +kernel
theorem dX3_jump_10 : decode cX3_jump 10 = .ok (.return_, 1) := by decide +kernel
set_option maxRecDepth 20000 in
theorem ggX3_run_X3_step : GoodIn wsX3_run wsX3_step := goodIn_r _ [11, 6, 12, 13, 14, 15, 16, 17, 18, 19, 20, 21, 22, 23, 10, 24, 25, 5, 26, 27, 28, 29, 30, 31, 32, 33, 34, 35, 36, 37, 38, 39, 40, 41, 42, 43, 44, 45, 46, 47, 48, 49, 50, 51, 52, 53, 54, 55, 56, 57, 58, 59, 60, 61, 62, 63, 64, 65, 66, 67, 68, 69, 70, 71, 72, 73, 74, 75, 76, 77, 78, 79, 80, 81, 82, 83, 84, 85, 86, 87, 88, 89, 90, 91, 92, 93, 94, 95, 96, 97, 98, 99, 100, 101, 102, 103, 104, 105, 106, 107, 108, 109, 110, 111, 112, 113, 114, 115, 116, 117, 118, 119, 120, 121, 122, 123, 124, 125, 126, 127, 128, 129, 130, 131, 132, 133, 134, 135, 136, 137, 138, 139, 140, 141, 142, 143, 144, 145, 146, 147, 148, 149, 150, 151, 152, 153, 154, 155, 156, 157, 158, 159, 160, 161, 162, 163, 164, 165, 166, 167, 168, 169, 170, 171, 172, 173, 174, 175, 176, 177, 178, 179, 180, 181, 182, 183, 184, 185, 186, 187, 188, 189, 190, 191, 192, 193, 194, 195, 196, 197, 198, 199, 200, 201, 202, 203, 204, 205, 206, 207, 208] (by decide +kernel) (by decide +kernel)
set_option maxRecDepth 20000 in
theorem gX3_run_X3_step : GoodIn wsX3_run (wsV RX3 67 RX3 yX3_step wsX3_step) := goodIn_app (goodIn_of _ (by decide +kernel)) ggX3_run_X3_step
theorem dX3_run_0 : decode cX3_run 0 = .ok (.iload_n 1, 1) := by decide +kernel
theorem dX3_run_1 : decode cX3_run 1 = .ok (.sipush 2000, 3) := by decide +kernel
theorem dX3_run_4 : decode cX3_run 4 = .ok (.invokestatic 57, 3) := by decide +kernel
theorem dX3_run_7 : decode cX3_run 7 = .ok (.istore_n 2, 1) := by decide +kernel
theorem dX3_run_8 : decode cX3_run 8 = .ok (.iconst 0, 1) := by decide +kernel
theorem dX3_run_9 : decode cX3_run 9 = .ok (.istore_n 3, 1) := by decide +kernel
theorem dX3_run_10 : decode cX3_run 10 = .ok (.aload_n 0, 1) := by decide +kernel
theorem dX3_run_11 : decode cX3_run 11 = .ok (.iconst 0, 1) := by decide +kernel
theorem dX3_run_12 : decode cX3_run 12 = .ok (.putfield 63, 3) := by decide +kernel
theorem dX3_run_15 : decode cX3_run 15 = .ok (.iload_n 3, 1) := by decide +kernel
theorem dX3_run_16 : decode cX3_run 16 = .ok (.iload_n 2, 1) := by decide +kernel
theorem dX3_run_17 : decode cX3_run 17 = .ok (.if_icmp .ge 28, 3) := by decide +kernel
theorem dX3_run_20 : decode cX3_run 20 = .ok (.aload_n 0, 1) := by decide +kernel
theorem dX3_run_21 : decode cX3_run 21 = .ok (.getfield 30, 3) := by decide +kernel
theorem dX3_run_24 : decode cX3_run 24 = .ok (.iconst 2, 1) := by decide +kernel
theorem dX3_run_25 : decode cX3_run 25 = .ok (.if_icmp .eq 20, 3) := by decide +kernel
theorem dX3_run_28 : decode cX3_run 28 = .ok (.aload_n 0, 1) := by decide +kernel
theorem dX3_run_29 : decode cX3_run 29 = .ok (.getfield 63, 3) := by decide +kernel
theorem dX3_run_32 : decode cX3_run 32 = .ok (.ifCond .ne 13, 3) := by decide +kernel
theorem dX3_run_35 : decode cX3_run 35 = .ok (.aload_n 0, 1) := by decide +kernel
theorem dX3_run_36 : decode cX3_run 36 = .ok (.invokevirtual 67, 3) := by decide +kernel
theorem dX3_run_39 : decode cX3_run 39 = .ok (.iinc 3 1, 3) := by decide +kernel
theorem dX3_run_42 : decode cX3_run 42 = .ok (.goto (-27), 3) := by decide +kernel
theorem dX3_run_45 : decode cX3_run 45 = .ok (.iload_n 3, 1) := by decide +kernel
theorem dX3_run_46 : decode cX3_run 46 = .ok (.ireturn, 1) := by decide +kernel
theorem dX3_state_0 : decode cX3_state 0 = .ok (.aload_n 0, 1) := by decide +kernel
theorem dX3_state_1 : decode cX3_state 1 = .ok (.getfield 30, 3) := by decide +kernel
theorem dX3_state_4 : decode cX3_state 4 = .ok (.ireturn, 1) := by decide +kernel
theorem dX3_register_0 : decode cX3_register 0 = .ok (.iload_n 1, 1) := by decide +kernel
theorem dX3_register_1 : decode cX3_register 1 = .ok (.ifCond .lt 9, 3) := by decide +kernel
theorem dX3_register_4 : decode cX3_register 4 = .ok (.iload_n 1, 1) := by decide +kernel
theorem dX3_register_5 : decode cX3_register 5 = .ok (.bipush 9, 2) := by decide +kernel
theorem dX3_register_7 : decode cX3_register 7 = .ok (.if_icmp .le 13, 3) := by decide +kernel
theorem dX3_register_10 : decode cX3_register 10 = .ok (.new 38, 3) := by decide +kernel
theorem dX3_register_13 : decode cX3_register 13 = .ok (.dup, 1) := by decide +kernel
theorem dX3_register_14 : decode cX3_register 14 = .ok (.ldc 70, 2) := by decide +kernel
theorem dX3_register_16 : decode cX3_register 16 = .ok (.invokespecial 42, 3) := by decide +kernel
theorem dX3_register_19 : decode cX3_register 19 = .ok (.athrow, 1) := by decide +kernel
theorem dX3_register_20 : decode cX3_register 20 = .ok (.iload_n 1, 1) := by decide +kernel
theorem dX3_register_21 : decode cX3_register 21 = .ok (.bipush 8, 2) := by decide +kernel
theorem dX3_register_23 : decode cX3_register 23 = .ok (.if_icmp .ne 8, 3) := by decide +kernel
theorem dX3_register_26 : decode cX3_register 26 = .ok (.aload_n 0, 1) := by decide +kernel
theorem dX3_register_27 : decode cX3_register 27 = .ok (.getfield 54, 3) := by decide +kernel
theorem dX3_register_30 : decode cX3_register 30 = .ok (.ireturn, 1) := by decide +kernel
theorem dX3_register_31 : decode cX3_register 31 = .ok (.iload_n 1, 1) := by decide +kernel
theorem dX3_register_32 : decode cX3_register 32 = .ok (.bipush 9, 2) := by decide +kernel
theorem dX3_register_34 : decode cX3_register 34 = .ok (.if_icmp .ne 16, 3) := by decide +kernel
theorem dX3_register_37 : decode cX3_register 37 = .ok (.aload_n 0, 1) := by decide +kernel
theorem dX3_register_38 : decode cX3_register 38 = .ok (.getfield 72, 3) := by decide +kernel
theorem dX3_register_41 : decode cX3_register 41 = .ok (.ifCond .eq 7, 3) := by decide +kernel
theorem dX3_register_44 : decode cX3_register 44 = .ok (.iconst 1, 1) := by decide +kernel
theorem dX3_register_45 : decode cX3_register 45 = .ok (.goto 4, 3) := by decide +kernel
theorem dX3_register_48 : decode cX3_register 48 = .ok (.iconst 0, 1) := by decide +kernel
theorem dX3_register_49 : decode cX3_register 49 = .ok (.ireturn, 1) := by decide +kernel
theorem dX3_register_50 : decode cX3_register 50 = .ok (.aload_n 0, 1) := by decide +kernel
theorem dX3_register_51 : decode cX3_register 51 = .ok (.getfield 13, 3) := by decide +kernel
theorem dX3_register_54 : decode cX3_register 54 = .ok (.iload_n 1, 1) := by decide +kernel
theorem dX3_register_55 : decode cX3_register 55 = .ok (.iaload, 1) := by decide +kernel
theorem dX3_register_56 : decode cX3_register 56 = .ok (.ireturn, 1) := by decide +kernel
set_option maxRecDepth 20000 in
theorem ggX3_control_X2_get : GoodIn wsX3_control wsX2_get := goodIn_r _ [7, 8, 18] (by decide +kernel) (by decide +kernel)
set_option maxRecDepth 20000 in
theorem gX3_control_X2_get_n77 : GoodIn wsX3_control (wsX2_get) := ggX3_control_X2_get
theorem dX3_control_0 : decode cX3_control 0 = .ok (.iload_n 1, 1) := by decide +kernel
theorem dX3_control_1 : decode cX3_control 1 = .ok (.ifCond .lt 9, 3) := by decide +kernel
theorem dX3_control_4 : decode cX3_control 4 = .ok (.iload_n 1, 1) := by decide +kernel
theorem dX3_control_5 : decode cX3_control 5 = .ok (.bipush 17, 2) := by decide +kernel
theorem dX3_control_7 : decode cX3_control 7 = .ok (.if_icmp .le 13, 3) := by decide +kernel
theorem dX3_control_10 : decode cX3_control 10 = .ok (.new 38, 3) := by decide +kernel
theorem dX3_control_13 : decode cX3_control 13 = .ok (.dup, 1) := by decide +kernel
theorem dX3_control_14 : decode cX3_control 14 = .ok (.ldc 75, 2) := by decide +kernel
theorem dX3_control_16 : decode cX3_control 16 = .ok (.invokespecial 42, 3) := by decide +kernel
theorem dX3_control_19 : decode cX3_control 19 = .ok (.athrow, 1) := by decide +kernel
theorem dX3_control_20 : decode cX3_control 20 = .ok (.aload_n 0, 1) := by decide +kernel
theorem dX3_control_21 : decode cX3_control 21 = .ok (.getfield 19, 3) := by decide +kernel
theorem dX3_control_24 : decode cX3_control 24 = .ok (.iload_n 1, 1) := by decide +kernel
theorem dX3_control_25 : decode cX3_control 25 = .ok (.invokevirtual 77, 3) := by decide +kernel
theorem dX3_control_28 : decode cX3_control 28 = .ok (.ireturn, 1) := by decide +kernel
set_option maxRecDepth 20000 in
theorem ggX3_entry_X0_get : GoodIn wsX3_entry wsX0_get := goodIn_r _ [7, 8, 18] (by decide +kernel) (by decide +kernel)
set_option maxRecDepth 20000 in
theorem gX3_entry_X0_get_n83 : GoodIn wsX3_entry (wsX0_get) := ggX3_entry_X0_get
theorem dX3_entry_0 : decode cX3_entry 0 = .ok (.iload_n 1, 1) := by decide +kernel
theorem dX3_entry_1 : decode cX3_entry 1 = .ok (.ifCond .lt 17, 3) := by decide +kernel
theorem dX3_entry_4 : decode cX3_entry 4 = .ok (.iload_n 1, 1) := by decide +kernel
theorem dX3_entry_5 : decode cX3_entry 5 = .ok (.iconst 3, 1) := by decide +kernel
theorem dX3_entry_6 : decode cX3_entry 6 = .ok (.if_icmp .gt 12, 3) := by decide +kernel
theorem dX3_entry_9 : decode cX3_entry 9 = .ok (.iload_n 2, 1) := by decide +kernel
theorem dX3_entry_10 : decode cX3_entry 10 = .ok (.ifCond .lt 8, 3) := by decide +kernel
theorem dX3_entry_13 : decode cX3_entry 13 = .ok (.iload_n 2, 1) := by decide +kernel
theorem dX3_entry_14 : decode cX3_entry 14 = .ok (.iconst 5, 1) := by decide +kernel
theorem dX3_entry_15 : decode cX3_entry 15 = .ok (.if_icmp .le 13, 3) := by decide +kernel
theorem dX3_entry_18 : decode cX3_entry 18 = .ok (.new 38, 3) := by decide +kernel
theorem dX3_entry_21 : decode cX3_entry 21 = .ok (.dup, 1) := by decide +kernel
theorem dX3_entry_22 : decode cX3_entry 22 = .ok (.ldc 81, 2) := by decide +kernel
theorem dX3_entry_24 : decode cX3_entry 24 = .ok (.invokespecial 42, 3) := by decide +kernel
theorem dX3_entry_27 : decode cX3_entry 27 = .ok (.athrow, 1) := by decide +kernel
theorem dX3_entry_28 : decode cX3_entry 28 = .ok (.aload_n 0, 1) := by decide +kernel
theorem dX3_entry_29 : decode cX3_entry 29 = .ok (.getfield 26, 3) := by decide +kernel
theorem dX3_entry_32 : decode cX3_entry 32 = .ok (.iload_n 1, 1) := by decide +kernel
theorem dX3_entry_33 : decode cX3_entry 33 = .ok (.iload_n 2, 1) := by decide +kernel
theorem dX3_entry_34 : decode cX3_entry 34 = .ok (.invokevirtual 83, 3) := by decide +kernel
theorem dX3_entry_37 : decode cX3_entry 37 = .ok (.ireturn, 1) := by decide +kernel
theorem dX3_isInMemory_0 : decode cX3_isInMemory 0 = .ok (.iload_n 0, 1) := by decide +kernel
theorem dX3_isInMemory_1 : decode cX3_isInMemory 1 = .ok (.iconst 3, 1) := by decide +kernel
theorem dX3_isInMemory_2 : decode cX3_isInMemory 2 = .ok (.iand, 1) := by decide +kernel
theorem dX3_isInMemory_3 : decode cX3_isInMemory 3 = .ok (.ifCond .ne 16, 3) := by decide +kernel
theorem dX3_isInMemory_6 : decode cX3_isInMemory 6 = .ok (.iload_n 0, 1) := by decide +kernel
theorem dX3_isInMemory_7 : decode cX3_isInMemory 7 = .ok (.iconst 2, 1) := by decide +kernel
theorem dX3_isInMemory_8 : decode cX3_isInMemory 8 = .ok (.iushr, 1) := by decide +kernel
theorem dX3_isInMemory_9 : decode cX3_isInMemory 9 = .ok (.sipush 512, 3) := by decide +kernel
theorem dX3_isInMemory_12 : decode cX3_isInMemory 12 = .ok (.if_icmp .ge 7, 3) := by decide +kernel
theorem dX3_isInMemory_15 : decode cX3_isInMemory 15 = .ok (.iconst 1, 1) := by decide +kernel
theorem dX3_isInMemory_16 : decode cX3_isInMemory 16 = .ok (.goto 4, 3) := by decide +kernel
theorem dX3_isInMemory_19 : decode cX3_isInMemory 19 = .ok (.iconst 0, 1) := by decide +kernel
theorem dX3_isInMemory_20 : decode cX3_isInMemory 20 = .ok (.ireturn, 1) := by decide +kernel
set_option maxRecDepth 20000 in
theorem ggX3_step_X2_isAsked : GoodIn wsX3_step wsX2_isAsked := goodIn_r _ [6, 7, 199] (by decide +kernel) (by decide +kernel)
set_option maxRecDepth 20000 in
theorem gX3_step_X2_isAsked_n85 : GoodIn wsX3_step (wsX2_isAsked) := ggX3_step_X2_isAsked
set_option maxRecDepth 20000 in
theorem ggX3_step_X2_isEnabled : GoodIn wsX3_step wsX2_isEnabled := goodIn_r _ [10, 7, 199] (by decide +kernel) (by decide +kernel)
set_option maxRecDepth 20000 in
theorem gX3_step_X2_isEnabled_n89 : GoodIn wsX3_step (wsX2_isEnabled) := ggX3_step_X2_isEnabled
set_option maxRecDepth 20000 in
theorem ggX3_step_X3_raise : GoodIn wsX3_step wsX3_raise := goodIn_r _ [15, 2, 16, 17, 18, 4, 19, 20, 7, 21, 22, 23, 24, 25, 26, 190, 191, 192, 193, 194, 195, 196, 197, 198, 199] (by decide +kernel) (by decide +kernel)
set_option maxRecDepth 20000 in
theorem gX3_step_X3_raise : GoodIn wsX3_step (wsV RX3 92 RX3 yX3_raise wsX3_raise) := goodIn_app (goodIn_of _ (by decide +kernel)) ggX3_step_X3_raise
set_option maxRecDepth 20000 in
theorem ggX3_step_X3_perform : GoodIn wsX3_step wsX3_perform := goodIn_r _ [30, 16, 31, 32, 33, 34, 14, 35, 2, 36, 37, 4, 38, 39, 7, 40, 41, 42, 43, 44, 45, 46, 47, 24, 25, 26, 48, 49, 50, 51, 52, 53, 54, 55, 56, 57, 58, 59, 60, 61, 62, 63, 64, 65, 1, 66, 67, 68, 11, 12, 13, 15, 17, 18, 19, 20, 21, 22, 23, 69, 70, 71, 72, 73, 74, 75, 76, 77, 78, 79, 80, 81, 82, 83, 84, 85, 86, 87, 88, 89, 90, 91, 92, 93, 94, 95, 96, 97, 98, 99, 100, 101, 102, 103, 104, 105, 106, 107, 108, 109, 110, 111, 112, 113, 114, 115, 116, 117, 118, 119, 120, 121, 122, 123, 124, 125, 126, 127, 128, 129, 130, 131, 132, 133, 134, 135, 136, 137, 138, 139, 140, 141, 142, 143, 144, 145, 146, 147, 148, 149, 150, 151, 152, 153, 154, 155, 156, 157, 158, 159, 160, 161, 162, 163, 164, 165, 166, 167, 168, 169, 170, 171, 172, 173, 174, 175, 176, 177, 178, 179, 180, 181, 182, 183, 184, 185, 186, 190, 191, 192, 193, 194, 195, 196, 197, 198, 199, 200] (by decide +kernel) (by decide +kernel)
set_option maxRecDepth 20000 in
theorem gX3_step_X3_perform : GoodIn wsX3_step (wsV RX3 96 RX3 yX3_perform wsX3_perform) := goodIn_app (goodIn_of _ (by decide +kernel)) ggX3_step_X3_perform
set_option maxRecDepth 20000 in
theorem ggX3_step_X2_tick : GoodIn wsX3_step wsX2_tick := goodIn_r _ [189, 7, 133, 199] (by decide +kernel) (by decide +kernel)
set_option maxRecDepth 20000 in
theorem gX3_step_X2_tick_n99 : GoodIn wsX3_step (wsX2_tick) := ggX3_step_X2_tick
theorem dX3_step_0 : decode cX3_step 0 = .ok (.aload_n 0, 1) := by decide +kernel
theorem dX3_step_1 : decode cX3_step 1 = .ok (.getfield 30, 3) := by decide +kernel
theorem dX3_step_4 : decode cX3_step 4 = .ok (.iconst 1, 1) := by decide +kernel
theorem dX3_step_5 : decode cX3_step 5 = .ok (.if_icmp .ne 21, 3) := by decide +kernel
theorem dX3_step_8 : decode cX3_step 8 = .ok (.aload_n 0, 1) := by decide +kernel
theorem dX3_step_9 : decode cX3_step 9 = .ok (.getfield 19, 3) := by decide +kernel
theorem dX3_step_12 : decode cX3_step 12 = .ok (.invokevirtual 85, 3) := by decide +kernel
theorem dX3_step_15 : decode cX3_step 15 = .ok (.ifCond .eq 43, 3) := by decide +kernel
theorem dX3_step_18 : decode cX3_step 18 = .ok (.aload_n 0, 1) := by decide +kernel
theorem dX3_step_19 : decode cX3_step 19 = .ok (.iconst 0, 1) := by decide +kernel
theorem dX3_step_20 : decode cX3_step 20 = .ok (.putfield 30, 3) := by decide +kernel
theorem dX3_step_23 : decode cX3_step 23 = .ok (.goto 35, 3) := by decide +kernel
theorem dX3_step_26 : decode cX3_step 26 = .ok (.aload_n 0, 1) := by decide +kernel
theorem dX3_step_27 : decode cX3_step 27 = .ok (.getfield 19, 3) := by decide +kernel
theorem dX3_step_30 : decode cX3_step 30 = .ok (.invokevirtual 89, 3) := by decide +kernel
theorem dX3_step_33 : decode cX3_step 33 = .ok (.ifCond .eq 21, 3) := by decide +kernel
theorem dX3_step_36 : decode cX3_step 36 = .ok (.aload_n 0, 1) := by decide +kernel
theorem dX3_step_37 : decode cX3_step 37 = .ok (.getfield 19, 3) := by decide +kernel
theorem dX3_step_40 : decode cX3_step 40 = .ok (.invokevirtual 85, 3) := by decide +kernel
theorem dX3_step_43 : decode cX3_step 43 = .ok (.ifCond .eq 11, 3) := by decide +kernel
theorem dX3_step_46 : decode cX3_step 46 = .ok (.aload_n 0, 1) := by decide +kernel
theorem dX3_step_47 : decode cX3_step 47 = .ok (.iconst 0, 1) := by decide +kernel
theorem dX3_step_48 : decode cX3_step 48 = .ok (.invokevirtual 92, 3) := by decide +kernel
theorem dX3_step_51 : decode cX3_step 51 = .ok (.goto 7, 3) := by decide +kernel
theorem dX3_step_54 : decode cX3_step 54 = .ok (.aload_n 0, 1) := by decide +kernel
theorem dX3_step_55 : decode cX3_step 55 = .ok (.invokevirtual 96, 3) := by decide +kernel
theorem dX3_step_58 : decode cX3_step 58 = .ok (.aload_n 0, 1) := by decide +kernel
theorem dX3_step_59 : decode cX3_step 59 = .ok (.getfield 30, 3) := by decide +kernel
theorem dX3_step_62 : decode cX3_step 62 = .ok (.iconst 2, 1) := by decide +kernel
theorem dX3_step_63 : decode cX3_step 63 = .ok (.if_icmp .eq 10, 3) := by decide +kernel
theorem dX3_step_66 : decode cX3_step 66 = .ok (.aload_n 0, 1) := by decide +kernel
theorem dX3_step_67 : decode cX3_step 67 = .ok (.getfield 19, 3) := by decide +kernel
theorem dX3_step_70 : decode cX3_step 70 = .ok (.invokevirtual 99, 3) := by decide +kernel
theorem dX3_step_73 : decode cX3_step 73 = .ok (.return_, 1) := by decide +kernel
set_option maxRecDepth 20000 in
theorem ggX3_perform_X3_find : GoodIn wsX3_perform wsX3_find := goodIn_r _ [7, 8, 9, 10, 11, 12, 13, 14, 15, 16, 17, 18, 19, 20, 6, 21, 22, 23, 24, 25, 26, 27, 28, 29, 30, 31, 32, 33, 34, 35, 36, 37, 38, 39, 177, 178, 179, 180, 181, 182, 183, 184, 185, 186, 187] (by decide +kernel) (by decide +kernel)
set_option maxRecDepth 20000 in
theorem gX3_perform_X3_find : GoodIn wsX3_perform (wsV RX3 102 RX3 yX3_find wsX3_find) := goodIn_app (goodIn_of _ (by decide +kernel)) ggX3_perform_X3_find
set_option maxRecDepth 20000 in
theorem ggX3_perform_X3_fail : GoodIn wsX3_perform wsX3_fail := goodIn_r _ [43, 44, 8, 45, 11, 46, 47, 14, 48, 49, 50, 6, 51, 1, 52, 53, 54, 55, 56, 57, 58, 23, 24, 25, 177, 178, 179, 180, 181, 182, 183, 184, 185, 186] (by decide +kernel) (by decide +kernel)
set_option maxRecDepth 20000 in
theorem gX3_perform_X3_fail : GoodIn wsX3_perform (wsV RX3 105 RX3 yX3_fail wsX3_fail) := goodIn_app (goodIn_of _ (by decide +kernel)) ggX3_perform_X3_fail
set_option maxRecDepth 20000 in
theorem ggX3_perform_X3_calculate : GoodIn wsX3_perform wsX3_calculate := goodIn_r _ [62, 1, 63, 64, 65, 6, 66, 67, 68, 69, 70, 71, 72, 73, 74, 75, 76, 77, 78, 79, 80, 81, 82, 83, 84, 85, 86, 87, 88, 89, 177, 178, 179, 180, 181, 182, 183, 184, 185] (by decide +kernel) (by decide +kernel)
set_option maxRecDepth 20000 in
theorem gX3_perform_X3_calculate : GoodIn wsX3_perform (wsV RX3 111 RX3 yX3_calculate wsX3_calculate) := goodIn_app (goodIn_of _ (by decide +kernel)) ggX3_perform_X3_calculate
set_option maxRecDepth 20000 in
theorem ggX3_perform_X3_loadWord : GoodIn wsX3_perform wsX3_loadWord := goodIn_r _ [93, 2, 94, 1, 68, 69, 70, 6, 71, 72, 77, 78, 79, 3, 4, 5, 7, 8, 9, 10, 11, 12, 13, 14, 15, 16, 17, 18, 19, 20, 21, 22, 23, 24, 25, 26, 27, 28, 29, 30, 31, 32, 33, 34, 35, 36, 37, 38, 39, 40, 41, 42, 43, 44, 45, 46, 47, 48, 49, 50, 51, 52, 53, 54, 55, 56, 57, 58, 86, 87, 88, 89, 177, 178, 179, 180, 181, 182, 183, 184, 185, 186, 187] (by decide +kernel) (by decide +kernel)
set_option maxRecDepth 20000 in
theorem gX3_perform_X3_loadWord : GoodIn wsX3_perform (wsV RX3 114 RX3 yX3_loadWord wsX3_loadWord) := goodIn_app (goodIn_of _ (by decide +kernel)) ggX3_perform_X3_loadWord
set_option maxRecDepth 20000 in
theorem ggX3_perform_X3_storeWord : GoodIn wsX3_perform wsX3_storeWord := goodIn_r _ [98, 94, 1, 2, 86, 87, 88, 6, 89, 72, 68, 69, 70, 71, 77, 78, 79, 3, 4, 5, 7, 8, 9, 10, 11, 12, 13, 14, 15, 16, 17, 18, 19, 20, 21, 22, 23, 24, 25, 26, 27, 28, 29, 30, 31, 32, 33, 34, 35, 36, 37, 38, 39, 40, 41, 42, 43, 44, 45, 46, 47, 48, 49, 50, 51, 52, 53, 54, 55, 56, 57, 58, 99, 100, 101, 102, 177, 178, 179, 180, 181, 182, 183, 184, 185, 186, 187] (by decide +kernel) (by decide +kernel)
set_option maxRecDepth 20000 in
theorem gX3_perform_X3_storeWord : GoodIn wsX3_perform (wsV RX3 117 RX3 yX3_storeWord wsX3_storeWord) := goodIn_app (goodIn_of _ (by decide +kernel)) ggX3_perform_X3_storeWord
set_option maxRecDepth 20000 in
theorem ggX3_perform_X3_branch : GoodIn wsX3_perform wsX3_branch := goodIn_r _ [106, 1, 68, 69, 70, 6, 71, 72, 77, 78, 79, 86, 87, 88, 89, 99, 100, 101, 102, 107, 108, 109, 177, 178, 179, 180, 181, 182, 183, 184, 185] (by decide +kernel) (by decide +kernel)
set_option maxRecDepth 20000 in
theorem gX3_perform_X3_branch : GoodIn wsX3_perform (wsV RX3 120 RX3 yX3_branch wsX3_branch) := goodIn_app (goodIn_of _ (by decide +kernel)) ggX3_perform_X3_branch
set_option maxRecDepth 20000 in
theorem ggX3_perform_X3_raise : GoodIn wsX3_perform wsX3_raise := goodIn_r _ [51, 8, 1, 52, 53, 11, 54, 55, 14, 56, 57, 58, 23, 24, 25, 177, 178, 179, 180, 181, 182, 183, 184, 185, 186] (by decide +kernel) (by decide +kernel)
set_option maxRecDepth 20000 in
theorem gX3_perform_X3_raise : GoodIn wsX3_perform (wsV RX3 92 RX3 yX3_raise wsX3_raise) := goodIn_app (goodIn_of _ (by decide +kernel)) ggX3_perform_X3_raise
set_option maxRecDepth 20000 in
theorem ggX3_perform_X3_performPrivileged : GoodIn wsX3_perform wsX3_performPrivileged := goodIn_r _ [113, 8, 44, 1, 34, 11, 35, 36, 14, 48, 49, 50, 6, 51, 52, 53, 54, 55, 56, 57, 58, 23, 24, 25, 114, 115, 116, 117, 83, 84, 85, 99, 100, 101, 102, 72, 118, 119, 120, 121, 122, 123, 68, 69, 70, 71, 86, 87, 88, 89, 124, 125, 126, 127, 128, 129, 130, 131, 132, 22, 26, 27, 28, 29, 30, 133, 134, 135, 136, 137, 45, 46, 47, 138, 139, 140, 141, 31, 32, 33, 142, 143, 144, 145, 146, 147, 148, 149, 150, 151, 152, 153, 154, 155, 156, 157, 158, 159, 160, 161, 162, 163, 164, 165, 166, 167, 168, 169, 170, 171, 172, 94, 173, 174, 175, 176, 177, 178, 179, 180, 181, 182, 183, 184, 185, 186, 187] (by decide +kernel) (by decide +kernel)
set_option maxRecDepth 20000 in
theorem gX3_perform_X3_performPrivileged : GoodIn wsX3_perform (wsV RX3 123 RX3 yX3_performPrivileged wsX3_performPrivileged) := goodIn_app (goodIn_of _ (by decide +kernel)) ggX3_perform_X3_performPrivileged
theorem dX3_perform_0 : decode cX3_perform 0 = .ok (.aload_n 0, 1) := by decide +kernel
theorem dX3_perform_1 : decode cX3_perform 1 = .ok (.aload_n 0, 1) := by decide +kernel
theorem dX3_perform_2 : decode cX3_perform 2 = .ok (.getfield 54, 3) := by decide +kernel
theorem dX3_perform_5 : decode cX3_perform 5 = .ok (.iconst 0, 1) := by decide +kernel
theorem dX3_perform_6 : decode cX3_perform 6 = .ok (.invokevirtual 102, 3) := by decide +kernel
theorem dX3_perform_9 : decode cX3_perform 9 = .ok (.istore_n 1, 1) := by decide +kernel
theorem dX3_perform_10 : decode cX3_perform 10 = .ok (.iload_n 1, 1) := by decide +kernel
theorem dX3_perform_11 : decode cX3_perform 11 = .ok (.ifCond .ge 13, 3) := by decide +kernel
theorem dX3_perform_14 : decode cX3_perform 14 = .ok (.aload_n 0, 1) := by decide +kernel
theorem dX3_perform_15 : decode cX3_perform 15 = .ok (.iload_n 1, 1) := by decide +kernel
theorem dX3_perform_16 : decode cX3_perform 16 = .ok (.aload_n 0, 1) := by decide +kernel
theorem dX3_perform_17 : decode cX3_perform 17 = .ok (.getfield 54, 3) := by decide +kernel
theorem dX3_perform_20 : decode cX3_perform 20 = .ok (.invokevirtual 105, 3) := by decide +kernel
theorem dX3_perform_23 : decode cX3_perform 23 = .ok (.return_, 1) := by decide +kernel
theorem dX3_perform_24 : decode cX3_perform 24 = .ok (.aload_n 0, 1) := by decide +kernel
theorem dX3_perform_25 : decode cX3_perform 25 = .ok (.getfield 9, 3) := by decide +kernel
theorem dX3_perform_28 : decode cX3_perform 28 = .ok (.iload_n 1, 1) := by decide +kernel
theorem dX3_perform_29 : decode cX3_perform 29 = .ok (.iaload, 1) := by decide +kernel
theorem dX3_perform_30 : decode cX3_perform 30 = .ok (.istore_n 2, 1) := by decide +kernel
theorem dX3_perform_31 : decode cX3_perform 31 = .ok (.iload_n 2, 1) := by decide +kernel
theorem dX3_perform_32 : decode cX3_perform 32 = .ok (.bipush 24, 2) := by decide +kernel
theorem dX3_perform_34 : decode cX3_perform 34 = .ok (.iushr, 1) := by decide +kernel
theorem dX3_perform_35 : decode cX3_perform 35 = .ok (.istore_n 3, 1) := by decide +kernel
theorem dX3_perform_36 : decode cX3_perform 36 = .ok (.iload_n 3, 1) := by decide +kernel
theorem dX3_perform_37 : decode cX3_perform 37 = .ok (.iconst 1, 1) := by decide +kernel
theorem dX3_perform_38 : decode cX3_perform 38 = .ok (.if_icmp .lt 18, 3) := by decide +kernel
theorem dX3_perform_41 : decode cX3_perform 41 = .ok (.iload_n 3, 1) := by decide +kernel
theorem dX3_perform_42 : decode cX3_perform 42 = .ok (.bipush 7, 2) := by decide +kernel
theorem dX3_perform_44 : decode cX3_perform 44 = .ok (.if_icmp .gt 12, 3) := by decide +kernel
theorem dX3_perform_47 : decode cX3_perform 47 = .ok (.aload_n 0, 1) := by decide +kernel
theorem dX3_perform_48 : decode cX3_perform 48 = .ok (.iload_n 3, 1) := by decide +kernel
theorem dX3_perform_49 : decode cX3_perform 49 = .ok (.iload_n 2, 1) := by decide +kernel
theorem dX3_perform_50 : decode cX3_perform 50 = .ok (.invokevirtual 111, 3) := by decide +kernel
theorem dX3_perform_53 : decode cX3_perform 53 = .ok (.goto 123, 3) := by decide +kernel
theorem dX3_perform_56 : decode cX3_perform 56 = .ok (.iload_n 3, 1) := by decide +kernel
theorem dX3_perform_57 : decode cX3_perform 57 = .ok (.bipush 8, 2) := by decide +kernel
theorem dX3_perform_59 : decode cX3_perform 59 = .ok (.if_icmp .eq 9, 3) := by decide +kernel
theorem dX3_perform_62 : decode cX3_perform 62 = .ok (.iload_n 3, 1) := by decide +kernel
theorem dX3_perform_63 : decode cX3_perform 63 = .ok (.bipush 10, 2) := by decide +kernel
theorem dX3_perform_65 : decode cX3_perform 65 = .ok (.if_icmp .ne 12, 3) := by decide +kernel
theorem dX3_perform_68 : decode cX3_perform 68 = .ok (.aload_n 0, 1) := by decide +kernel
theorem dX3_perform_69 : decode cX3_perform 69 = .ok (.iload_n 3, 1) := by decide +kernel
theorem dX3_perform_70 : decode cX3_perform 70 = .ok (.iload_n 2, 1) := by decide +kernel
theorem dX3_perform_71 : decode cX3_perform 71 = .ok (.invokevirtual 114, 3) := by decide +kernel
theorem dX3_perform_74 : decode cX3_perform 74 = .ok (.goto 102, 3) := by decide +kernel
theorem dX3_perform_77 : decode cX3_perform 77 = .ok (.iload_n 3, 1) := by decide +kernel
theorem dX3_perform_78 : decode cX3_perform 78 = .ok (.bipush 9, 2) := by decide +kernel
theorem dX3_perform_80 : decode cX3_perform 80 = .ok (.if_icmp .eq 9, 3) := by decide +kernel
theorem dX3_perform_83 : decode cX3_perform 83 = .ok (.iload_n 3, 1) := by decide +kernel
theorem dX3_perform_84 : decode cX3_perform 84 = .ok (.bipush 11, 2) := by decide +kernel
theorem dX3_perform_86 : decode cX3_perform 86 = .ok (.if_icmp .ne 12, 3) := by decide +kernel
theorem dX3_perform_89 : decode cX3_perform 89 = .ok (.aload_n 0, 1) := by decide +kernel
theorem dX3_perform_90 : decode cX3_perform 90 = .ok (.iload_n 3, 1) := by decide +kernel
theorem dX3_perform_91 : decode cX3_perform 91 = .ok (.iload_n 2, 1) := by decide +kernel
theorem dX3_perform_92 : decode cX3_perform 92 = .ok (.invokevirtual 117, 3) := by decide +kernel
theorem dX3_perform_95 : decode cX3_perform 95 = .ok (.goto 81, 3) := by decide +kernel
theorem dX3_perform_98 : decode cX3_perform 98 = .ok (.iload_n 3, 1) := by decide +kernel
theorem dX3_perform_99 : decode cX3_perform 99 = .ok (.bipush 12, 2) := by decide +kernel
theorem dX3_perform_101 : decode cX3_perform 101 = .ok (.if_icmp .lt 18, 3) := by decide +kernel
theorem dX3_perform_104 : decode cX3_perform 104 = .ok (.iload_n 3, 1) := by decide +kernel
theorem dX3_perform_105 : decode cX3_perform 105 = .ok (.bipush 15, 2) := by decide +kernel
theorem dX3_perform_107 : decode cX3_perform 107 = .ok (.if_icmp .gt 12, 3) := by decide +kernel
theorem dX3_perform_110 : decode cX3_perform 110 = .ok (.aload_n 0, 1) := by decide +kernel
theorem dX3_perform_111 : decode cX3_perform 111 = .ok (.iload_n 3, 1) := by decide +kernel
theorem dX3_perform_112 : decode cX3_perform 112 = .ok (.iload_n 2, 1) := by decide +kernel
theorem dX3_perform_113 : decode cX3_perform 113 = .ok (.invokevirtual 120, 3) := by decide +kernel
theorem dX3_perform_116 : decode cX3_perform 116 = .ok (.goto 60, 3) := by decide +kernel
theorem dX3_perform_119 : decode cX3_perform 119 = .ok (.iload_n 3, 1) := by decide +kernel
theorem dX3_perform_120 : decode cX3_perform 120 = .ok (.bipush 16, 2) := by decide +kernel
theorem dX3_perform_122 : decode cX3_perform 122 = .ok (.if_icmp .ne 12, 3) := by decide +kernel
theorem dX3_perform_125 : decode cX3_perform 125 = .ok (.aload_n 0, 1) := by decide +kernel
theorem dX3_perform_126 : decode cX3_perform 126 = .ok (.bipush 11, 2) := by decide +kernel
theorem dX3_perform_128 : decode cX3_perform 128 = .ok (.invokevirtual 92, 3) := by decide +kernel
theorem dX3_perform_131 : decode cX3_perform 131 = .ok (.goto 45, 3) := by decide +kernel
theorem dX3_perform_134 : decode cX3_perform 134 = .ok (.iload_n 3, 1) := by decide +kernel
theorem dX3_perform_135 : decode cX3_perform 135 = .ok (.bipush 17, 2) := by decide +kernel
theorem dX3_perform_137 : decode cX3_perform 137 = .ok (.if_icmp .ne 12, 3) := by decide +kernel
theorem dX3_perform_140 : decode cX3_perform 140 = .ok (.aload_n 0, 1) := by decide +kernel
theorem dX3_perform_141 : decode cX3_perform 141 = .ok (.bipush 12, 2) := by decide +kernel
theorem dX3_perform_143 : decode cX3_perform 143 = .ok (.invokevirtual 92, 3) := by decide +kernel
theorem dX3_perform_146 : decode cX3_perform 146 = .ok (.goto 30, 3) := by decide +kernel
theorem dX3_perform_149 : decode cX3_perform 149 = .ok (.iload_n 3, 1) := by decide +kernel
theorem dX3_perform_150 : decode cX3_perform 150 = .ok (.bipush 18, 2) := by decide +kernel
theorem dX3_perform_152 : decode cX3_perform 152 = .ok (.if_icmp .lt 18, 3) := by decide +kernel
theorem dX3_perform_155 : decode cX3_perform 155 = .ok (.iload_n 3, 1) := by decide +kernel
theorem dX3_perform_156 : decode cX3_perform 156 = .ok (.bipush 27, 2) := by decide +kernel
theorem dX3_perform_158 : decode cX3_perform 158 = .ok (.if_icmp .gt 12, 3) := by decide +kernel
theorem dX3_perform_161 : decode cX3_perform 161 = .ok (.aload_n 0, 1) := by decide +kernel
theorem dX3_perform_162 : decode cX3_perform 162 = .ok (.iload_n 3, 1) := by decide +kernel
theorem dX3_perform_163 : decode cX3_perform 163 = .ok (.iload_n 2, 1) := by decide +kernel
theorem dX3_perform_164 : decode cX3_perform 164 = .ok (.invokevirtual 123, 3) := by decide +kernel
theorem dX3_perform_167 : decode cX3_perform 167 = .ok (.goto 9, 3) := by decide +kernel
theorem dX3_perform_170 : decode cX3_perform 170 = .ok (.aload_n 0, 1) := by decide +kernel
theorem dX3_perform_171 : decode cX3_perform 171 = .ok (.bipush 13, 2) := by decide +kernel
theorem dX3_perform_173 : decode cX3_perform 173 = .ok (.invokevirtual 92, 3) := by decide +kernel
theorem dX3_perform_176 : decode cX3_perform 176 = .ok (.return_, 1) := by decide +kernel
set_option maxRecDepth 20000 in
theorem ggX3_performPrivileged_X2_level : GoodIn wsX3_performPrivileged wsX2_level := goodIn_r _ [7, 8, 125] (by decide +kernel) (by decide +kernel)
set_option maxRecDepth 20000 in
theorem gX3_performPrivileged_X2_level_n126 : GoodIn wsX3_performPrivileged (wsX2_level) := ggX3_performPrivileged_X2_level
set_option maxRecDepth 20000 in
theorem ggX3_performPrivileged_X3_raise : GoodIn wsX3_performPrivileged wsX3_raise := goodIn_r _ [13, 1, 3, 14, 15, 5, 16, 17, 8, 18, 19, 20, 21, 22, 23, 116, 117, 118, 119, 120, 121, 122, 123, 124, 125] (by decide +kernel) (by decide +kernel)
set_option maxRecDepth 20000 in
theorem gX3_performPrivileged_X3_raise : GoodIn wsX3_performPrivileged (wsV RX3 92 RX3 yX3_raise wsX3_raise) := goodIn_app (goodIn_of _ (by decide +kernel)) ggX3_performPrivileged_X3_raise
set_option maxRecDepth 20000 in
theorem ggX3_performPrivileged_X3_useControl : GoodIn wsX3_performPrivileged wsX3_useControl := goodIn_r _ [27, 1, 3, 28, 29, 12, 30, 9, 10, 11, 13, 14, 15, 5, 16, 17, 8, 18, 19, 20, 21, 22, 23, 31, 32, 33, 34, 35, 36, 37, 38, 39, 40, 41, 42, 43, 44, 45, 46, 47, 48, 49, 116, 117, 118, 119, 120, 121, 122, 123, 124, 125] (by decide +kernel) (by decide +kernel)
set_option maxRecDepth 20000 in
theorem gX3_performPrivileged_X3_useControl : GoodIn wsX3_performPrivileged (wsV RX3 130 RX3 yX3_useControl wsX3_useControl) := goodIn_app (goodIn_of _ (by decide +kernel)) ggX3_performPrivileged_X3_useControl
set_option maxRecDepth 20000 in
theorem ggX3_performPrivileged_X3_useBuffer : GoodIn wsX3_performPrivileged wsX3_useBuffer := goodIn_r _ [53, 1, 54, 3, 21, 5, 22, 23, 8, 55, 56, 57, 12, 58, 59, 60, 61, 62, 63, 64, 65, 66, 67, 68, 69, 70, 71, 72, 73, 74, 75, 76, 77, 78, 79, 80, 81, 82, 83, 84, 85, 86, 87, 88, 89, 90, 91, 92, 93, 94, 95, 116, 117, 118, 119, 120, 121, 122, 123, 124, 125, 126] (by decide +kernel) (by decide +kernel)
set_option maxRecDepth 20000 in
theorem gX3_performPrivileged_X3_useBuffer : GoodIn wsX3_performPrivileged (wsV RX3 133 RX3 yX3_useBuffer wsX3_useBuffer) := goodIn_app (goodIn_of _ (by decide +kernel)) ggX3_performPrivileged_X3_useBuffer
set_option maxRecDepth 20000 in
theorem ggX3_performPrivileged_X3_emptyEntries : GoodIn wsX3_performPrivileged wsX3_emptyEntries := goodIn_r _ [99, 59, 3, 28, 29, 12, 30, 9, 10, 11, 13, 1, 14, 15, 5, 16, 17, 8, 18, 19, 20, 21, 22, 23, 31, 32, 33, 34, 35, 42, 43, 44, 45, 100, 61, 101, 102, 64, 103, 104, 105, 106, 116, 117, 118, 119, 120, 121, 122, 123, 124, 125, 126] (by decide +kernel) (by decide +kernel)
set_option maxRecDepth 20000 in
theorem gX3_performPrivileged_X3_emptyEntries : GoodIn wsX3_performPrivileged (wsV RX3 136 RX3 yX3_emptyEntries wsX3_emptyEntries) := goodIn_app (goodIn_of _ (by decide +kernel)) ggX3_performPrivileged_X3_emptyEntries
set_option maxRecDepth 20000 in
theorem ggX3_performPrivileged_X3_goBack : GoodIn wsX3_performPrivileged wsX3_goBack := goodIn_r _ [110, 1, 3, 111, 112, 5, 113, 114, 8, 115, 87, 88, 89, 21, 22, 23, 116, 117, 118, 119, 120, 121, 122, 123, 124, 125] (by decide +kernel) (by decide +kernel)
set_option maxRecDepth 20000 in
theorem gX3_performPrivileged_X3_goBack : GoodIn wsX3_performPrivileged (wsV RX3 139 RX3 yX3_goBack wsX3_goBack) := goodIn_app (goodIn_of _ (by decide +kernel)) ggX3_performPrivileged_X3_goBack
theorem dX3_performPrivileged_0 : decode cX3_performPrivileged 0 = .ok (.aload_n 0, 1) := by decide +kernel
theorem dX3_performPrivileged_1 : decode cX3_performPrivileged 1 = .ok (.getfield 19, 3) := by decide +kernel
theorem dX3_performPrivileged_4 : decode cX3_performPrivileged 4 = .ok (.invokevirtual 126, 3) := by decide +kernel
theorem dX3_performPrivileged_7 : decode cX3_performPrivileged 7 = .ok (.ifCond .eq 12, 3) := by decide +kernel
theorem dX3_performPrivileged_10 : decode cX3_performPrivileged 10 = .ok (.aload_n 0, 1) := by decide +kernel
theorem dX3_performPrivileged_11 : decode cX3_performPrivileged 11 = .ok (.bipush 14, 2) := by decide +kernel
theorem dX3_performPrivileged_13 : decode cX3_performPrivileged 13 = .ok (.invokevirtual 92, 3) := by decide +kernel
theorem dX3_performPrivileged_16 : decode cX3_performPrivileged 16 = .ok (.goto 74, 3) := by decide +kernel
theorem dX3_performPrivileged_19 : decode cX3_performPrivileged 19 = .ok (.iload_n 1, 1) := by decide +kernel
theorem dX3_performPrivileged_20 : decode cX3_performPrivileged 20 = .ok (.bipush 20, 2) := by decide +kernel
theorem dX3_performPrivileged_22 : decode cX3_performPrivileged 22 = .ok (.if_icmp .gt 12, 3) := by decide +kernel
theorem dX3_performPrivileged_25 : decode cX3_performPrivileged 25 = .ok (.aload_n 0, 1) := by decide +kernel
theorem dX3_performPrivileged_26 : decode cX3_performPrivileged 26 = .ok (.iload_n 1, 1) := by decide +kernel
theorem dX3_performPrivileged_27 : decode cX3_performPrivileged 27 = .ok (.iload_n 2, 1) := by decide +kernel
theorem dX3_performPrivileged_28 : decode cX3_performPrivileged 28 = .ok (.invokevirtual 130, 3) := by decide +kernel
theorem dX3_performPrivileged_31 : decode cX3_performPrivileged 31 = .ok (.goto 59, 3) := by decide +kernel
theorem dX3_performPrivileged_34 : decode cX3_performPrivileged 34 = .ok (.iload_n 1, 1) := by decide +kernel
theorem dX3_performPrivileged_35 : decode cX3_performPrivileged 35 = .ok (.bipush 24, 2) := by decide +kernel
theorem dX3_performPrivileged_37 : decode cX3_performPrivileged 37 = .ok (.if_icmp .gt 11, 3) := by decide +kernel
theorem dX3_performPrivileged_40 : decode cX3_performPrivileged 40 = .ok (.aload_n 0, 1) := by decide +kernel
theorem dX3_performPrivileged_41 : decode cX3_performPrivileged 41 = .ok (.iload_n 1, 1) := by decide +kernel
theorem dX3_performPrivileged_42 : decode cX3_performPrivileged 42 = .ok (.invokevirtual 133, 3) := by decide +kernel
theorem dX3_performPrivileged_45 : decode cX3_performPrivileged 45 = .ok (.goto 45, 3) := by decide +kernel
theorem dX3_performPrivileged_48 : decode cX3_performPrivileged 48 = .ok (.iload_n 1, 1) := by decide +kernel
theorem dX3_performPrivileged_49 : decode cX3_performPrivileged 49 = .ok (.bipush 25, 2) := by decide +kernel
theorem dX3_performPrivileged_51 : decode cX3_performPrivileged 51 = .ok (.if_icmp .ne 11, 3) := by decide +kernel
theorem dX3_performPrivileged_54 : decode cX3_performPrivileged 54 = .ok (.aload_n 0, 1) := by decide +kernel
theorem dX3_performPrivileged_55 : decode cX3_performPrivileged 55 = .ok (.iload_n 2, 1) := by decide +kernel
theorem dX3_performPrivileged_56 : decode cX3_performPrivileged 56 = .ok (.invokevirtual 136, 3) := by decide +kernel
theorem dX3_performPrivileged_59 : decode cX3_performPrivileged 59 = .ok (.goto 31, 3) := by decide +kernel
theorem dX3_performPrivileged_62 : decode cX3_performPrivileged 62 = .ok (.iload_n 1, 1) := by decide +kernel
theorem dX3_performPrivileged_63 : decode cX3_performPrivileged 63 = .ok (.bipush 26, 2) := by decide +kernel
theorem dX3_performPrivileged_65 : decode cX3_performPrivileged 65 = .ok (.if_icmp .ne 10, 3) := by decide +kernel
theorem dX3_performPrivileged_68 : decode cX3_performPrivileged 68 = .ok (.aload_n 0, 1) := by decide +kernel
theorem dX3_performPrivileged_69 : decode cX3_performPrivileged 69 = .ok (.invokevirtual 139, 3) := by decide +kernel
theorem dX3_performPrivileged_72 : decode cX3_performPrivileged 72 = .ok (.goto 18, 3) := by decide +kernel
theorem dX3_performPrivileged_75 : decode cX3_performPrivileged 75 = .ok (.aload_n 0, 1) := by decide +kernel
theorem dX3_performPrivileged_76 : decode cX3_performPrivileged 76 = .ok (.iconst 1, 1) := by decide +kernel
theorem dX3_performPrivileged_77 : decode cX3_performPrivileged 77 = .ok (.putfield 30, 3) := by decide +kernel
theorem dX3_performPrivileged_80 : decode cX3_performPrivileged 80 = .ok (.aload_n 0, 1) := by decide +kernel
theorem dX3_performPrivileged_81 : decode cX3_performPrivileged 81 = .ok (.dup, 1) := by decide +kernel
theorem dX3_performPrivileged_82 : decode cX3_performPrivileged 82 = .ok (.getfield 54, 3) := by decide +kernel
theorem dX3_performPrivileged_85 : decode cX3_performPrivileged 85 = .ok (.iconst 4, 1) := by decide +kernel
theorem dX3_performPrivileged_86 : decode cX3_performPrivileged 86 = .ok (.iadd, 1) := by decide +kernel
theorem dX3_performPrivileged_87 : decode cX3_performPrivileged 87 = .ok (.putfield 54, 3) := by decide +kernel
theorem dX3_performPrivileged_90 : decode cX3_performPrivileged 90 = .ok (.return_, 1) := by decide +kernel
theorem dX3_byteB_0 : decode cX3_byteB 0 = .ok (.iload_n 0, 1) := by decide +kernel
theorem dX3_byteB_1 : decode cX3_byteB 1 = .ok (.bipush 8, 2) := by decide +kernel
theorem dX3_byteB_3 : decode cX3_byteB 3 = .ok (.iushr, 1) := by decide +kernel
theorem dX3_byteB_4 : decode cX3_byteB 4 = .ok (.sipush 255, 3) := by decide +kernel
theorem dX3_byteB_7 : decode cX3_byteB 7 = .ok (.iand, 1) := by decide +kernel
theorem dX3_byteB_8 : decode cX3_byteB 8 = .ok (.ireturn, 1) := by decide +kernel
theorem dX3_byteC_0 : decode cX3_byteC 0 = .ok (.iload_n 0, 1) := by decide +kernel
theorem dX3_byteC_1 : decode cX3_byteC 1 = .ok (.sipush 255, 3) := by decide +kernel
theorem dX3_byteC_4 : decode cX3_byteC 4 = .ok (.iand, 1) := by decide +kernel
theorem dX3_byteC_5 : decode cX3_byteC 5 = .ok (.ireturn, 1) := by decide +kernel
theorem dX3_imm_0 : decode cX3_imm 0 = .ok (.iload_n 0, 1) := by decide +kernel
theorem dX3_imm_1 : decode cX3_imm 1 = .ok (.i2b, 1) := by decide +kernel
theorem dX3_imm_2 : decode cX3_imm 2 = .ok (.ireturn, 1) := by decide +kernel
theorem dX3_valueA_0 : decode cX3_valueA 0 = .ok (.aload_n 0, 1) := by decide +kernel
theorem dX3_valueA_1 : decode cX3_valueA 1 = .ok (.getfield 13, 3) := by decide +kernel
theorem dX3_valueA_4 : decode cX3_valueA 4 = .ok (.iload_n 1, 1) := by decide +kernel
theorem dX3_valueA_5 : decode cX3_valueA 5 = .ok (.bipush 16, 2) := by decide +kernel
theorem dX3_valueA_7 : decode cX3_valueA 7 = .ok (.iushr, 1) := by decide +kernel
theorem dX3_valueA_8 : decode cX3_valueA 8 = .ok (.bipush 7, 2) := by decide +kernel
theorem dX3_valueA_10 : decode cX3_valueA 10 = .ok (.iand, 1) := by decide +kernel
theorem dX3_valueA_11 : decode cX3_valueA 11 = .ok (.iaload, 1) := by decide +kernel
theorem dX3_valueA_12 : decode cX3_valueA 12 = .ok (.ireturn, 1) := by decide +kernel
theorem dX3_valueB_0 : decode cX3_valueB 0 = .ok (.aload_n 0, 1) := by decide +kernel
theorem dX3_valueB_1 : decode cX3_valueB 1 = .ok (.getfield 13, 3) := by decide +kernel
theorem dX3_valueB_4 : decode cX3_valueB 4 = .ok (.iload_n 1, 1) := by decide +kernel
theorem dX3_valueB_5 : decode cX3_valueB 5 = .ok (.bipush 8, 2) := by decide +kernel
theorem dX3_valueB_7 : decode cX3_valueB 7 = .ok (.iushr, 1) := by decide +kernel
theorem dX3_valueB_8 : decode cX3_valueB 8 = .ok (.bipush 7, 2) := by decide +kernel
theorem dX3_valueB_10 : decode cX3_valueB 10 = .ok (.iand, 1) := by decide +kernel
theorem dX3_valueB_11 : decode cX3_valueB 11 = .ok (.iaload, 1) := by decide +kernel
theorem dX3_valueB_12 : decode cX3_valueB 12 = .ok (.ireturn, 1) := by decide +kernel
theorem dX3_valueC_0 : decode cX3_valueC 0 = .ok (.aload_n 0, 1) := by decide +kernel
theorem dX3_valueC_1 : decode cX3_valueC 1 = .ok (.getfield 13, 3) := by decide +kernel
theorem dX3_valueC_4 : decode cX3_valueC 4 = .ok (.iload_n 1, 1) := by decide +kernel
theorem dX3_valueC_5 : decode cX3_valueC 5 = .ok (.bipush 7, 2) := by decide +kernel
theorem dX3_valueC_7 : decode cX3_valueC 7 = .ok (.iand, 1) := by decide +kernel
theorem dX3_valueC_8 : decode cX3_valueC 8 = .ok (.iaload, 1) := by decide +kernel
theorem dX3_valueC_9 : decode cX3_valueC 9 = .ok (.ireturn, 1) := by decide +kernel
theorem dX3_setA_0 : decode cX3_setA 0 = .ok (.iload_n 1, 1) := by decide +kernel
theorem dX3_setA_1 : decode cX3_setA 1 = .ok (.bipush 16, 2) := by decide +kernel
theorem dX3_setA_3 : decode cX3_setA 3 = .ok (.iushr, 1) := by decide +kernel
theorem dX3_setA_4 : decode cX3_setA 4 = .ok (.bipush 7, 2) := by decide +kernel
theorem dX3_setA_6 : decode cX3_setA 6 = .ok (.iand, 1) := by decide +kernel
theorem dX3_setA_7 : decode cX3_setA 7 = .ok (.istore_n 3, 1) := by decide +kernel
theorem dX3_setA_8 : decode cX3_setA 8 = .ok (.iload_n 3, 1) := by decide +kernel
theorem dX3_setA_9 : decode cX3_setA 9 = .ok (.ifCond .eq 10, 3) := by decide +kernel
theorem dX3_setA_12 : decode cX3_setA 12 = .ok (.aload_n 0, 1) := by decide +kernel
theorem dX3_setA_13 : decode cX3_setA 13 = .ok (.getfield 13, 3) := by decide +kernel
theorem dX3_setA_16 : decode cX3_setA 16 = .ok (.iload_n 3, 1) := by decide +kernel
theorem dX3_setA_17 : decode cX3_setA 17 = .ok (.iload_n 2, 1) := by decide +kernel
theorem dX3_setA_18 : decode cX3_setA 18 = .ok (.iastore, 1) := by decide +kernel
theorem dX3_setA_19 : decode cX3_setA 19 = .ok (.return_, 1) := by decide +kernel
set_option maxRecDepth 20000 in
theorem ggX3_calculate_X3_result : GoodIn wsX3_calculate wsX3_result := goodIn_r _ [6, 7, 8, 9, 10, 5, 11, 12, 13, 14, 15, 16, 17, 18, 19, 20, 21, 22, 23, 24, 25, 30, 31, 32, 33, 34, 35, 36, 37, 38] (by decide +kernel) (by decide +kernel)
set_option maxRecDepth 20000 in
theorem gX3_calculate_X3_result : GoodIn wsX3_calculate (wsV RX3 142 RX3 yX3_result wsX3_result) := goodIn_app (goodIn_of _ (by decide +kernel)) ggX3_calculate_X3_result
set_option maxRecDepth 20000 in
theorem ggX3_calculate_X3_setA : GoodIn wsX3_calculate wsX3_setA := goodIn_r _ [29, 12, 30, 31, 32, 33, 34, 35, 36, 37, 38] (by decide +kernel) (by decide +kernel)
set_option maxRecDepth 20000 in
theorem gX3_calculate_X3_setA : GoodIn wsX3_calculate (wsV RX3 145 RX3 yX3_setA wsX3_setA) := goodIn_app (goodIn_of _ (by decide +kernel)) ggX3_calculate_X3_setA
theorem dX3_calculate_0 : decode cX3_calculate 0 = .ok (.aload_n 0, 1) := by decide +kernel
theorem dX3_calculate_1 : decode cX3_calculate 1 = .ok (.iload_n 2, 1) := by decide +kernel
theorem dX3_calculate_2 : decode cX3_calculate 2 = .ok (.aload_n 0, 1) := by decide +kernel
theorem dX3_calculate_3 : decode cX3_calculate 3 = .ok (.iload_n 1, 1) := by decide +kernel
theorem dX3_calculate_4 : decode cX3_calculate 4 = .ok (.iload_n 2, 1) := by decide +kernel
theorem dX3_calculate_5 : decode cX3_calculate 5 = .ok (.invokevirtual 142, 3) := by decide +kernel
theorem dX3_calculate_8 : decode cX3_calculate 8 = .ok (.invokevirtual 145, 3) := by decide +kernel
theorem dX3_calculate_11 : decode cX3_calculate 11 = .ok (.aload_n 0, 1) := by decide +kernel
theorem dX3_calculate_12 : decode cX3_calculate 12 = .ok (.dup, 1) := by decide +kernel
theorem dX3_calculate_13 : decode cX3_calculate 13 = .ok (.getfield 54, 3) := by decide +kernel
theorem dX3_calculate_16 : decode cX3_calculate 16 = .ok (.iconst 4, 1) := by decide +kernel
theorem dX3_calculate_17 : decode cX3_calculate 17 = .ok (.iadd, 1) := by decide +kernel
theorem dX3_calculate_18 : decode cX3_calculate 18 = .ok (.putfield 54, 3) := by decide +kernel
theorem dX3_calculate_21 : decode cX3_calculate 21 = .ok (.return_, 1) := by decide +kernel
set_option maxRecDepth 20000 in
theorem ggX3_result_X3_valueB : GoodIn wsX3_result wsX3_valueB := goodIn_r _ [6, 7, 21, 22, 23, 24, 25, 26, 27, 28, 29] (by decide +kernel) (by decide +kernel)
set_option maxRecDepth 20000 in
theorem gX3_result_X3_valueB : GoodIn wsX3_result (wsV RX3 148 RX3 yX3_valueB wsX3_valueB) := goodIn_app (goodIn_of _ (by decide +kernel)) ggX3_result_X3_valueB
set_option maxRecDepth 20000 in
theorem ggX3_result_X3_valueC : GoodIn wsX3_result wsX3_valueC := goodIn_r _ [11, 7, 21, 22, 23, 24, 25, 26, 27, 28, 29] (by decide +kernel) (by decide +kernel)
set_option maxRecDepth 20000 in
theorem gX3_result_X3_valueC : GoodIn wsX3_result (wsV RX3 151 RX3 yX3_valueC wsX3_valueC) := goodIn_app (goodIn_of _ (by decide +kernel)) ggX3_result_X3_valueC
set_option maxRecDepth 20000 in
theorem ggX3_result_X3_imm : GoodIn wsX3_result wsX3_imm := goodIn_r _ [14] (by decide +kernel) (by decide +kernel)
set_option maxRecDepth 20000 in
theorem gX3_result_X3_imm : GoodIn wsX3_result (va_wsS RX3 154 yX3_imm wsX3_imm) := goodIn_app (goodIn_of _ (by decide +kernel)) ggX3_result_X3_imm
set_option maxRecDepth 20000 in
theorem ggX3_result_X3_byteB : GoodIn wsX3_result wsX3_byteB := goodIn_r _ [17] (by decide +kernel) (by decide +kernel)
set_option maxRecDepth 20000 in
theorem gX3_result_X3_byteB : GoodIn wsX3_result (va_wsS RX3 158 yX3_byteB wsX3_byteB) := goodIn_app (goodIn_of _ (by decide +kernel)) ggX3_result_X3_byteB
set_option maxRecDepth 20000 in
theorem ggX3_result_X3_byteC : GoodIn wsX3_result wsX3_byteC := goodIn_r _ [20] (by decide +kernel) (by decide +kernel)
set_option maxRecDepth 20000 in
theorem gX3_result_X3_byteC : GoodIn wsX3_result (va_wsS RX3 161 yX3_byteC wsX3_byteC) := goodIn_app (goodIn_of _ (by decide +kernel)) ggX3_result_X3_byteC
theorem dX3_result_0 : decode cX3_result 0 = .ok (.aload_n 0, 1) := by decide +kernel
theorem dX3_result_1 : decode cX3_result 1 = .ok (.iload_n 2, 1) := by decide +kernel
theorem dX3_result_2 : decode cX3_result 2 = .ok (.invokevirtual 148, 3) := by decide +kernel
theorem dX3_result_5 : decode cX3_result 5 = .ok (.istore_n 3, 1) := by decide +kernel
theorem dX3_result_6 : decode cX3_result 6 = .ok (.aload_n 0, 1) := by decide +kernel
theorem dX3_result_7 : decode cX3_result 7 = .ok (.iload_n 2, 1) := by decide +kernel
theorem dX3_result_8 : decode cX3_result 8 = .ok (.invokevirtual 151, 3) := by decide +kernel
theorem dX3_result_11 : decode cX3_result 11 = .ok (.istore 4, 2) := by decide +kernel
theorem dX3_result_13 : decode cX3_result 13 = .ok (.iload_n 1, 1) := by decide +kernel
theorem dX3_result_14 : decode cX3_result 14 = .ok (.tableswitch 77 1 6 #[38, 43, 48, 53, 58, 70], 38) := by decide +kernel
theorem dX3_result_52 : decode cX3_result 52 = .ok (.iload_n 3, 1) := by decide +kernel
theorem dX3_result_53 : decode cX3_result 53 = .ok (.iload 4, 2) := by decide +kernel
theorem dX3_result_55 : decode cX3_result 55 = .ok (.iadd, 1) := by decide +kernel
theorem dX3_result_56 : decode cX3_result 56 = .ok (.ireturn, 1) := by decide +kernel
theorem dX3_result_57 : decode cX3_result 57 = .ok (.iload_n 3, 1) := by decide +kernel
theorem dX3_result_58 : decode cX3_result 58 = .ok (.iload 4, 2) := by decide +kernel
theorem dX3_result_60 : decode cX3_result 60 = .ok (.isub, 1) := by decide +kernel
theorem dX3_result_61 : decode cX3_result 61 = .ok (.ireturn, 1) := by decide +kernel
theorem dX3_result_62 : decode cX3_result 62 = .ok (.iload_n 3, 1) := by decide +kernel
theorem dX3_result_63 : decode cX3_result 63 = .ok (.iload 4, 2) := by decide +kernel
theorem dX3_result_65 : decode cX3_result 65 = .ok (.iand, 1) := by decide +kernel
theorem dX3_result_66 : decode cX3_result 66 = .ok (.ireturn, 1) := by decide +kernel
theorem dX3_result_67 : decode cX3_result 67 = .ok (.iload_n 3, 1) := by decide +kernel
theorem dX3_result_68 : decode cX3_result 68 = .ok (.iload 4, 2) := by decide +kernel
theorem dX3_result_70 : decode cX3_result 70 = .ok (.ior, 1) := by decide +kernel
theorem dX3_result_71 : decode cX3_result 71 = .ok (.ireturn, 1) := by decide +kernel
theorem dX3_result_72 : decode cX3_result 72 = .ok (.iload_n 3, 1) := by decide +kernel
theorem dX3_result_73 : decode cX3_result 73 = .ok (.iload 4, 2) := by decide +kernel
theorem dX3_result_75 : decode cX3_result 75 = .ok (.if_icmp .ge 7, 3) := by decide +kernel
theorem dX3_result_78 : decode cX3_result 78 = .ok (.iconst 1, 1) := by decide +kernel
theorem dX3_result_79 : decode cX3_result 79 = .ok (.goto 4, 3) := by decide +kernel
theorem dX3_result_82 : decode cX3_result 82 = .ok (.iconst 0, 1) := by decide +kernel
theorem dX3_result_83 : decode cX3_result 83 = .ok (.ireturn, 1) := by decide +kernel
theorem dX3_result_84 : decode cX3_result 84 = .ok (.iload_n 3, 1) := by decide +kernel
theorem dX3_result_85 : decode cX3_result 85 = .ok (.iload_n 2, 1) := by decide +kernel
theorem dX3_result_86 : decode cX3_result 86 = .ok (.invokestatic 154, 3) := by decide +kernel
theorem dX3_result_89 : decode cX3_result 89 = .ok (.iadd, 1) := by decide +kernel
theorem dX3_result_90 : decode cX3_result 90 = .ok (.ireturn, 1) := by decide +kernel
theorem dX3_result_91 : decode cX3_result 91 = .ok (.ldc 157, 2) := by decide +kernel
theorem dX3_result_93 : decode cX3_result 93 = .ok (.iload_n 2, 1) := by decide +kernel
theorem dX3_result_94 : decode cX3_result 94 = .ok (.invokestatic 158, 3) := by decide +kernel
theorem dX3_result_97 : decode cX3_result 97 = .ok (.imul, 1) := by decide +kernel
theorem dX3_result_98 : decode cX3_result 98 = .ok (.sipush 256, 3) := by decide +kernel
theorem dX3_result_101 : decode cX3_result 101 = .ok (.iload_n 2, 1) := by decide +kernel
theorem dX3_result_102 : decode cX3_result 102 = .ok (.invokestatic 161, 3) := by decide +kernel
theorem dX3_result_105 : decode cX3_result 105 = .ok (.imul, 1) := by decide +kernel
theorem dX3_result_106 : decode cX3_result 106 = .ok (.iadd, 1) := by decide +kernel
theorem dX3_result_107 : decode cX3_result 107 = .ok (.ireturn, 1) := by decide +kernel
set_option maxRecDepth 20000 in
theorem ggX3_loadWord_X3_valueB : GoodIn wsX3_loadWord wsX3_valueB := goodIn_r _ [8, 9, 72, 73, 74, 75, 76, 77, 78, 79, 80] (by decide +kernel) (by decide +kernel)
set_option maxRecDepth 20000 in
theorem gX3_loadWord_X3_valueB : GoodIn wsX3_loadWord (wsV RX3 148 RX3 yX3_valueB wsX3_valueB) := goodIn_app (goodIn_of _ (by decide +kernel)) ggX3_loadWord_X3_valueB
set_option maxRecDepth 20000 in
theorem ggX3_loadWord_X3_imm : GoodIn wsX3_loadWord wsX3_imm := goodIn_r _ [12] (by decide +kernel) (by decide +kernel)
set_option maxRecDepth 20000 in
theorem gX3_loadWord_X3_imm : GoodIn wsX3_loadWord (va_wsS RX3 154 yX3_imm wsX3_imm) := goodIn_app (goodIn_of _ (by decide +kernel)) ggX3_loadWord_X3_imm
set_option maxRecDepth 20000 in
theorem ggX3_loadWord_X3_find : GoodIn wsX3_loadWord wsX3_find := goodIn_r _ [16, 17, 18, 19, 20, 21, 22, 23, 24, 25, 26, 27, 28, 29, 7, 30, 31, 32, 33, 34, 35, 36, 37, 38, 39, 40, 41, 42, 43, 44, 45, 46, 47, 48, 72, 73, 74, 75, 76, 77, 78, 79, 80, 81, 82] (by decide +kernel) (by decide +kernel)
set_option maxRecDepth 20000 in
theorem gX3_loadWord_X3_find : GoodIn wsX3_loadWord (wsV RX3 102 RX3 yX3_find wsX3_find) := goodIn_app (goodIn_of _ (by decide +kernel)) ggX3_loadWord_X3_find
set_option maxRecDepth 20000 in
theorem ggX3_loadWord_X3_fail : GoodIn wsX3_loadWord wsX3_fail := goodIn_r _ [52, 53, 17, 54, 20, 55, 56, 23, 57, 58, 59, 7, 60, 3, 61, 62, 63, 64, 65, 66, 67, 32, 33, 34, 72, 73, 74, 75, 76, 77, 78, 79, 80, 81] (by decide +kernel) (by decide +kernel)
set_option maxRecDepth 20000 in
theorem gX3_loadWord_X3_fail : GoodIn wsX3_loadWord (wsV RX3 105 RX3 yX3_fail wsX3_fail) := goodIn_app (goodIn_of _ (by decide +kernel)) ggX3_loadWord_X3_fail
set_option maxRecDepth 20000 in
theorem ggX3_loadWord_X3_setA : GoodIn wsX3_loadWord wsX3_setA := goodIn_r _ [71, 9, 72, 73, 74, 75, 76, 77, 78, 79, 80] (by decide +kernel) (by decide +kernel)
set_option maxRecDepth 20000 in
theorem gX3_loadWord_X3_setA : GoodIn wsX3_loadWord (wsV RX3 145 RX3 yX3_setA wsX3_setA) := goodIn_app (goodIn_of _ (by decide +kernel)) ggX3_loadWord_X3_setA
theorem dX3_loadWord_0 : decode cX3_loadWord 0 = .ok (.aload_n 0, 1) := by decide +kernel
theorem dX3_loadWord_1 : decode cX3_loadWord 1 = .ok (.iload_n 2, 1) := by decide +kernel
theorem dX3_loadWord_2 : decode cX3_loadWord 2 = .ok (.invokevirtual 148, 3) := by decide +kernel
theorem dX3_loadWord_5 : decode cX3_loadWord 5 = .ok (.iload_n 2, 1) := by decide +kernel
theorem dX3_loadWord_6 : decode cX3_loadWord 6 = .ok (.invokestatic 154, 3) := by decide +kernel
theorem dX3_loadWord_9 : decode cX3_loadWord 9 = .ok (.iadd, 1) := by decide +kernel
theorem dX3_loadWord_10 : decode cX3_loadWord 10 = .ok (.istore_n 3, 1) := by decide +kernel
theorem dX3_loadWord_11 : decode cX3_loadWord 11 = .ok (.aload_n 0, 1) := by decide +kernel
theorem dX3_loadWord_12 : decode cX3_loadWord 12 = .ok (.iload_n 3, 1) := by decide +kernel
theorem dX3_loadWord_13 : decode cX3_loadWord 13 = .ok (.iconst 1, 1) := by decide +kernel
theorem dX3_loadWord_14 : decode cX3_loadWord 14 = .ok (.invokevirtual 102, 3) := by decide +kernel
theorem dX3_loadWord_17 : decode cX3_loadWord 17 = .ok (.istore 4, 2) := by decide +kernel
theorem dX3_loadWord_19 : decode cX3_loadWord 19 = .ok (.iload 4, 2) := by decide +kernel
theorem dX3_loadWord_21 : decode cX3_loadWord 21 = .ok (.ifCond .ge 11, 3) := by decide +kernel
theorem dX3_loadWord_24 : decode cX3_loadWord 24 = .ok (.aload_n 0, 1) := by decide +kernel
theorem dX3_loadWord_25 : decode cX3_loadWord 25 = .ok (.iload 4, 2) := by decide +kernel
theorem dX3_loadWord_27 : decode cX3_loadWord 27 = .ok (.iload_n 3, 1) := by decide +kernel
theorem dX3_loadWord_28 : decode cX3_loadWord 28 = .ok (.invokevirtual 105, 3) := by decide +kernel
theorem dX3_loadWord_31 : decode cX3_loadWord 31 = .ok (.return_, 1) := by decide +kernel
theorem dX3_loadWord_32 : decode cX3_loadWord 32 = .ok (.aload_n 0, 1) := by decide +kernel
theorem dX3_loadWord_33 : decode cX3_loadWord 33 = .ok (.iload_n 2, 1) := by decide +kernel
theorem dX3_loadWord_34 : decode cX3_loadWord 34 = .ok (.aload_n 0, 1) := by decide +kernel
theorem dX3_loadWord_35 : decode cX3_loadWord 35 = .ok (.getfield 9, 3) := by decide +kernel
theorem dX3_loadWord_38 : decode cX3_loadWord 38 = .ok (.iload 4, 2) := by decide +kernel
theorem dX3_loadWord_40 : decode cX3_loadWord 40 = .ok (.iaload, 1) := by decide +kernel
theorem dX3_loadWord_41 : decode cX3_loadWord 41 = .ok (.invokevirtual 145, 3) := by decide +kernel
theorem dX3_loadWord_44 : decode cX3_loadWord 44 = .ok (.iload_n 1, 1) := by decide +kernel
theorem dX3_loadWord_45 : decode cX3_loadWord 45 = .ok (.bipush 10, 2) := by decide +kernel
theorem dX3_loadWord_47 : decode cX3_loadWord 47 = .ok (.if_icmp .ne 8, 3) := by decide +kernel
theorem dX3_loadWord_50 : decode cX3_loadWord 50 = .ok (.aload_n 0, 1) := by decide +kernel
theorem dX3_loadWord_51 : decode cX3_loadWord 51 = .ok (.iconst 1, 1) := by decide +kernel
theorem dX3_loadWord_52 : decode cX3_loadWord 52 = .ok (.putfield 72, 3) := by decide +kernel
theorem dX3_loadWord_55 : decode cX3_loadWord 55 = .ok (.aload_n 0, 1) := by decide +kernel
theorem dX3_loadWord_56 : decode cX3_loadWord 56 = .ok (.dup, 1) := by decide +kernel
theorem dX3_loadWord_57 : decode cX3_loadWord 57 = .ok (.getfield 54, 3) := by decide +kernel
theorem dX3_loadWord_60 : decode cX3_loadWord 60 = .ok (.iconst 4, 1) := by decide +kernel
theorem dX3_loadWord_61 : decode cX3_loadWord 61 = .ok (.iadd, 1) := by decide +kernel
theorem dX3_loadWord_62 : decode cX3_loadWord 62 = .ok (.putfield 54, 3) := by decide +kernel
theorem dX3_loadWord_65 : decode cX3_loadWord 65 = .ok (.return_, 1) := by decide +kernel
set_option maxRecDepth 20000 in
theorem ggX3_storeWord_X3_setA : GoodIn wsX3_storeWord wsX3_setA := goodIn_r _ [8, 9, 76, 77, 78, 79, 80, 81, 82, 83, 84] (by decide +kernel) (by decide +kernel)
set_option maxRecDepth 20000 in
theorem gX3_storeWord_X3_setA : GoodIn wsX3_storeWord (wsV RX3 145 RX3 yX3_setA wsX3_setA) := goodIn_app (goodIn_of _ (by decide +kernel)) ggX3_storeWord_X3_setA
set_option maxRecDepth 20000 in
theorem ggX3_storeWord_X3_valueB : GoodIn wsX3_storeWord wsX3_valueB := goodIn_r _ [13, 9, 76, 77, 78, 79, 80, 81, 82, 83, 84] (by decide +kernel) (by decide +kernel)
set_option maxRecDepth 20000 in
theorem gX3_storeWord_X3_valueB : GoodIn wsX3_storeWord (wsV RX3 148 RX3 yX3_valueB wsX3_valueB) := goodIn_app (goodIn_of _ (by decide +kernel)) ggX3_storeWord_X3_valueB
set_option maxRecDepth 20000 in
theorem ggX3_storeWord_X3_imm : GoodIn wsX3_storeWord wsX3_imm := goodIn_r _ [16] (by decide +kernel) (by decide +kernel)
set_option maxRecDepth 20000 in
theorem gX3_storeWord_X3_imm : GoodIn wsX3_storeWord (va_wsS RX3 154 yX3_imm wsX3_imm) := goodIn_app (goodIn_of _ (by decide +kernel)) ggX3_storeWord_X3_imm
set_option maxRecDepth 20000 in
theorem ggX3_storeWord_X3_find : GoodIn wsX3_storeWord wsX3_find := goodIn_r _ [20, 21, 22, 23, 24, 25, 26, 27, 28, 29, 30, 31, 32, 33, 7, 34, 35, 36, 37, 38, 39, 40, 41, 42, 43, 44, 45, 46, 47, 48, 49, 50, 51, 52, 76, 77, 78, 79, 80, 81, 82, 83, 84, 85, 86] (by decide +kernel) (by decide +kernel)
set_option maxRecDepth 20000 in
theorem gX3_storeWord_X3_find : GoodIn wsX3_storeWord (wsV RX3 102 RX3 yX3_find wsX3_find) := goodIn_app (goodIn_of _ (by decide +kernel)) ggX3_storeWord_X3_find
set_option maxRecDepth 20000 in
theorem ggX3_storeWord_X3_fail : GoodIn wsX3_storeWord wsX3_fail := goodIn_r _ [56, 57, 21, 58, 24, 59, 60, 27, 61, 62, 63, 7, 64, 2, 65, 66, 67, 68, 69, 70, 71, 36, 37, 38, 76, 77, 78, 79, 80, 81, 82, 83, 84, 85] (by decide +kernel) (by decide +kernel)
set_option maxRecDepth 20000 in
theorem gX3_storeWord_X3_fail : GoodIn wsX3_storeWord (wsV RX3 105 RX3 yX3_fail wsX3_fail) := goodIn_app (goodIn_of _ (by decide +kernel)) ggX3_storeWord_X3_fail
set_option maxRecDepth 20000 in
theorem ggX3_storeWord_X3_valueA : GoodIn wsX3_storeWord wsX3_valueA := goodIn_r _ [75, 9, 76, 77, 78, 79, 80, 81, 82, 83, 84] (by decide +kernel) (by decide +kernel)
set_option maxRecDepth 20000 in
theorem gX3_storeWord_X3_valueA : GoodIn wsX3_storeWord (wsV RX3 164 RX3 yX3_valueA wsX3_valueA) := goodIn_app (goodIn_of _ (by decide +kernel)) ggX3_storeWord_X3_valueA
theorem dX3_storeWord_0 : decode cX3_storeWord 0 = .ok (.iload_n 1, 1) := by decide +kernel
theorem dX3_storeWord_1 : decode cX3_storeWord 1 = .ok (.bipush 11, 2) := by decide +kernel
theorem dX3_storeWord_3 : decode cX3_storeWord 3 = .ok (.if_icmp .ne 27, 3) := by decide +kernel
theorem dX3_storeWord_6 : decode cX3_storeWord 6 = .ok (.aload_n 0, 1) := by decide +kernel
theorem dX3_storeWord_7 : decode cX3_storeWord 7 = .ok (.getfield 72, 3) := by decide +kernel
theorem dX3_storeWord_10 : decode cX3_storeWord 10 = .ok (.ifCond .ne 20, 3) := by decide +kernel
theorem dX3_storeWord_13 : decode cX3_storeWord 13 = .ok (.aload_n 0, 1) := by decide +kernel
theorem dX3_storeWord_14 : decode cX3_storeWord 14 = .ok (.iload_n 2, 1) := by decide +kernel
theorem dX3_storeWord_15 : decode cX3_storeWord 15 = .ok (.iconst 0, 1) := by decide +kernel
theorem dX3_storeWord_16 : decode cX3_storeWord 16 = .ok (.invokevirtual 145, 3) := by decide +kernel
theorem dX3_storeWord_19 : decode cX3_storeWord 19 = .ok (.aload_n 0, 1) := by decide +kernel
theorem dX3_storeWord_20 : decode cX3_storeWord 20 = .ok (.dup, 1) := by decide +kernel
theorem dX3_storeWord_21 : decode cX3_storeWord 21 = .ok (.getfield 54, 3) := by decide +kernel
theorem dX3_storeWord_24 : decode cX3_storeWord 24 = .ok (.iconst 4, 1) := by decide +kernel
theorem dX3_storeWord_25 : decode cX3_storeWord 25 = .ok (.iadd, 1) := by decide +kernel
theorem dX3_storeWord_26 : decode cX3_storeWord 26 = .ok (.putfield 54, 3) := by decide +kernel
theorem dX3_storeWord_29 : decode cX3_storeWord 29 = .ok (.return_, 1) := by decide +kernel
theorem dX3_storeWord_30 : decode cX3_storeWord 30 = .ok (.aload_n 0, 1) := by decide +kernel
theorem dX3_storeWord_31 : decode cX3_storeWord 31 = .ok (.iload_n 2, 1) := by decide +kernel
theorem dX3_storeWord_32 : decode cX3_storeWord 32 = .ok (.invokevirtual 148, 3) := by decide +kernel
theorem dX3_storeWord_35 : decode cX3_storeWord 35 = .ok (.iload_n 2, 1) := by decide +kernel
theorem dX3_storeWord_36 : decode cX3_storeWord 36 = .ok (.invokestatic 154, 3) := by decide +kernel
theorem dX3_storeWord_39 : decode cX3_storeWord 39 = .ok (.iadd, 1) := by decide +kernel
theorem dX3_storeWord_40 : decode cX3_storeWord 40 = .ok (.istore_n 3, 1) := by decide +kernel
theorem dX3_storeWord_41 : decode cX3_storeWord 41 = .ok (.aload_n 0, 1) := by decide +kernel
theorem dX3_storeWord_42 : decode cX3_storeWord 42 = .ok (.iload_n 3, 1) := by decide +kernel
theorem dX3_storeWord_43 : decode cX3_storeWord 43 = .ok (.iconst 2, 1) := by decide +kernel
theorem dX3_storeWord_44 : decode cX3_storeWord 44 = .ok (.invokevirtual 102, 3) := by decide +kernel
theorem dX3_storeWord_47 : decode cX3_storeWord 47 = .ok (.istore 4, 2) := by decide +kernel
theorem dX3_storeWord_49 : decode cX3_storeWord 49 = .ok (.iload 4, 2) := by decide +kernel
theorem dX3_storeWord_51 : decode cX3_storeWord 51 = .ok (.ifCond .ge 11, 3) := by decide +kernel
theorem dX3_storeWord_54 : decode cX3_storeWord 54 = .ok (.aload_n 0, 1) := by decide +kernel
theorem dX3_storeWord_55 : decode cX3_storeWord 55 = .ok (.iload 4, 2) := by decide +kernel
theorem dX3_storeWord_57 : decode cX3_storeWord 57 = .ok (.iload_n 3, 1) := by decide +kernel
theorem dX3_storeWord_58 : decode cX3_storeWord 58 = .ok (.invokevirtual 105, 3) := by decide +kernel
theorem dX3_storeWord_61 : decode cX3_storeWord 61 = .ok (.return_, 1) := by decide +kernel
theorem dX3_storeWord_62 : decode cX3_storeWord 62 = .ok (.aload_n 0, 1) := by decide +kernel
theorem dX3_storeWord_63 : decode cX3_storeWord 63 = .ok (.getfield 9, 3) := by decide +kernel
theorem dX3_storeWord_66 : decode cX3_storeWord 66 = .ok (.iload 4, 2) := by decide +kernel
theorem dX3_storeWord_68 : decode cX3_storeWord 68 = .ok (.aload_n 0, 1) := by decide +kernel
theorem dX3_storeWord_69 : decode cX3_storeWord 69 = .ok (.iload_n 2, 1) := by decide +kernel
theorem dX3_storeWord_70 : decode cX3_storeWord 70 = .ok (.invokevirtual 164, 3) := by decide +kernel
theorem dX3_storeWord_73 : decode cX3_storeWord 73 = .ok (.iastore, 1) := by decide +kernel
theorem dX3_storeWord_74 : decode cX3_storeWord 74 = .ok (.iload_n 1, 1) := by decide +kernel
theorem dX3_storeWord_75 : decode cX3_storeWord 75 = .ok (.bipush 11, 2) := by decide +kernel
theorem dX3_storeWord_77 : decode cX3_storeWord 77 = .ok (.if_icmp .ne 14, 3) := by decide +kernel
theorem dX3_storeWord_80 : decode cX3_storeWord 80 = .ok (.aload_n 0, 1) := by decide +kernel
theorem dX3_storeWord_81 : decode cX3_storeWord 81 = .ok (.iconst 0, 1) := by decide +kernel
theorem dX3_storeWord_82 : decode cX3_storeWord 82 = .ok (.putfield 72, 3) := by decide +kernel
theorem dX3_storeWord_85 : decode cX3_storeWord 85 = .ok (.aload_n 0, 1) := by decide +kernel
theorem dX3_storeWord_86 : decode cX3_storeWord 86 = .ok (.iload_n 2, 1) := by decide +kernel
theorem dX3_storeWord_87 : decode cX3_storeWord 87 = .ok (.iconst 1, 1) := by decide +kernel

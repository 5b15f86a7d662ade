theorem dX4_word_22 : decode cX4_word 22 = .ok (.iload_n 1, 1) := by decide +kernel
theorem dX4_word_23 : decode cX4_word 23 = .ok (.iconst 4, 1) := by decide +kernel
theorem dX4_word_24 : decode cX4_word 24 = .ok (.idiv, 1) := by decide +kernel
theorem dX4_word_25 : decode cX4_word 25 = .ok (.iaload, 1) := by decide +kernel
theorem dX4_word_26 : decode cX4_word 26 = .ok (.ireturn, 1) := by decide +kernel
set_option maxRecDepth 20000 in
theorem ggX4_line_X4_outside : GoodIn wsX4_line wsX4_outside := goodIn_r _ [6] (by decide +kernel) (by decide +kernel)
set_option maxRecDepth 20000 in
theorem gX4_line_X4_outside : GoodIn wsX4_line (va_wsS RX4 71 yX4_outside wsX4_outside) := goodIn_app (goodIn_of _ (by decide +kernel)) ggX4_line_X4_outside
theorem dX4_line_0 : decode cX4_line 0 = .ok (.aload_n 0, 1) := by decide +kernel
theorem dX4_line_1 : decode cX4_line 1 = .ok (.iload_n 1, 1) := by decide +kernel
theorem dX4_line_2 : decode cX4_line 2 = .ok (.iconst 0, 1) := by decide +kernel
theorem dX4_line_3 : decode cX4_line 3 = .ok (.iconst 3, 1) := by decide +kernel
theorem dX4_line_4 : decode cX4_line 4 = .ok (.invokestatic 71, 3) := by decide +kernel
theorem dX4_line_7 : decode cX4_line 7 = .ok (.ifCond .eq 7, 3) := by decide +kernel
theorem dX4_line_10 : decode cX4_line 10 = .ok (.iconst 1, 1) := by decide +kernel
theorem dX4_line_11 : decode cX4_line 11 = .ok (.goto 4, 3) := by decide +kernel
theorem dX4_line_14 : decode cX4_line 14 = .ok (.iconst 0, 1) := by decide +kernel
theorem dX4_line_15 : decode cX4_line 15 = .ok (.putfield 41, 3) := by decide +kernel
theorem dX4_line_18 : decode cX4_line 18 = .ok (.aload_n 0, 1) := by decide +kernel
theorem dX4_line_19 : decode cX4_line 19 = .ok (.getfield 41, 3) := by decide +kernel
theorem dX4_line_22 : decode cX4_line 22 = .ok (.ifCond .ne 38, 3) := by decide +kernel
theorem dX4_line_25 : decode cX4_line 25 = .ok (.aload_n 0, 1) := by decide +kernel
theorem dX4_line_26 : decode cX4_line 26 = .ok (.getfield 16, 3) := by decide +kernel
theorem dX4_line_29 : decode cX4_line 29 = .ok (.iconst 3, 1) := by decide +kernel
theorem dX4_line_30 : decode cX4_line 30 = .ok (.iload_n 2, 1) := by decide +kernel
theorem dX4_line_31 : decode cX4_line 31 = .ok (.ifCond .eq 16, 3) := by decide +kernel
theorem dX4_line_34 : decode cX4_line 34 = .ok (.aload_n 0, 1) := by decide +kernel
theorem dX4_line_35 : decode cX4_line 35 = .ok (.getfield 16, 3) := by decide +kernel
theorem dX4_line_38 : decode cX4_line 38 = .ok (.iconst 3, 1) := by decide +kernel
theorem dX4_line_39 : decode cX4_line 39 = .ok (.iaload, 1) := by decide +kernel
theorem dX4_line_40 : decode cX4_line 40 = .ok (.iconst 1, 1) := by decide +kernel
theorem dX4_line_41 : decode cX4_line 41 = .ok (.iload_n 1, 1) := by decide +kernel
theorem dX4_line_42 : decode cX4_line 42 = .ok (.ishl, 1) := by decide +kernel
theorem dX4_line_43 : decode cX4_line 43 = .ok (.ior, 1) := by decide +kernel
theorem dX4_line_44 : decode cX4_line 44 = .ok (.goto 15, 3) := by decide +kernel
theorem dX4_line_47 : decode cX4_line 47 = .ok (.aload_n 0, 1) := by decide +kernel
theorem dX4_line_48 : decode cX4_line 48 = .ok (.getfield 16, 3) := by decide +kernel
theorem dX4_line_51 : decode cX4_line 51 = .ok (.iconst 3, 1) := by decide +kernel
theorem dX4_line_52 : decode cX4_line 52 = .ok (.iaload, 1) := by decide +kernel
theorem dX4_line_53 : decode cX4_line 53 = .ok (.iconst 1, 1) := by decide +kernel
theorem dX4_line_54 : decode cX4_line 54 = .ok (.iload_n 1, 1) := by decide +kernel
theorem dX4_line_55 : decode cX4_line 55 = .ok (.ishl, 1) := by decide +kernel
theorem dX4_line_56 : decode cX4_line 56 = .ok (.iconst (-1), 1) := by decide +kernel
theorem dX4_line_57 : decode cX4_line 57 = .ok (.ixor, 1) := by decide +kernel
theorem dX4_line_58 : decode cX4_line 58 = .ok (.iand, 1) := by decide +kernel
theorem dX4_line_59 : decode cX4_line 59 = .ok (.iastore, 1) := by decide +kernel
theorem dX4_line_60 : decode cX4_line 60 = .ok (.return_, 1) := by decide +kernel
theorem dX4_filled_0 : decode cX4_filled 0 = .ok (.aload_n 0, 1) := by decide +kernel
theorem dX4_filled_1 : decode cX4_filled 1 = .ok (.iconst 0, 1) := by decide +kernel
theorem dX4_filled_2 : decode cX4_filled 2 = .ok (.putfield 41, 3) := by decide +kernel
theorem dX4_filled_5 : decode cX4_filled 5 = .ok (.aload_n 0, 1) := by decide +kernel
theorem dX4_filled_6 : decode cX4_filled 6 = .ok (.iload_n 1, 1) := by decide +kernel
theorem dX4_filled_7 : decode cX4_filled 7 = .ok (.iconst 3, 1) := by decide +kernel
theorem dX4_filled_8 : decode cX4_filled 8 = .ok (.iand, 1) := by decide +kernel
theorem dX4_filled_9 : decode cX4_filled 9 = .ok (.putfield 124, 3) := by decide +kernel
theorem dX4_filled_12 : decode cX4_filled 12 = .ok (.return_, 1) := by decide +kernel
theorem dX4_jump_0 : decode cX4_jump 0 = .ok (.aload_n 0, 1) := by decide +kernel
theorem dX4_jump_1 : decode cX4_jump 1 = .ok (.iconst 0, 1) := by decide +kernel
theorem dX4_jump_2 : decode cX4_jump 2 = .ok (.putfield 41, 3) := by decide +kernel
theorem dX4_jump_5 : decode cX4_jump 5 = .ok (.aload_n 0, 1) := by decide +kernel
theorem dX4_jump_6 : decode cX4_jump 6 = .ok (.iload_n 1, 1) := by decide +kernel
theorem dX4_jump_7 : decode cX4_jump 7 = .ok (.putfield 51, 3) := by decide +kernel
theorem dX4_jump_10 : decode cX4_jump 10 = .ok (.aload_n 0, 1) := by decide +kernel
theorem dX4_jump_11 : decode cX4_jump 11 = .ok (.iconst 0, 1) := by decide +kernel
theorem dX4_jump_12 : decode cX4_jump 12 = .ok (.putfield 148, 3) := by decide +kernel
theorem dX4_jump_15 : decode cX4_jump 15 = .ok (.aload_n 0, 1) := by decide +kernel
theorem dX4_jump_16 : decode cX4_jump 16 = .ok (.iconst 0, 1) := by decide +kernel
theorem dX4_jump_17 : decode cX4_jump 17 = .ok (.putfield 127, 3) := by decide +kernel
theorem dX4_jump_20 : decode cX4_jump 20 = .ok (.return_, 1) := by decide +kernel
set_option maxRecDepth 20000 in
theorem ggX4_run_X4_step : GoodIn wsX4_run wsX4_step := goodIn_r _ [8, 9, 10, 3, 2, 11, 12, 13, 14, 15, 7, 16, 17, 18, 19, 20, 21, 22, 23, 24, 25, 26, 27, 28, 29, 30, 31, 32, 33, 34, 35, 36, 37, 38, 39, 40, 41, 42, 43, 44, 45, 46, 47, 48, 49, 50, 51, 52, 53, 54, 55, 56, 57, 58, 59, 60, 61, 62, 63, 64, 65, 66, 67, 68, 69, 70, 71, 72, 73, 74, 75, 76, 77, 78, 79, 80, 81, 82, 83, 84, 85, 86, 87, 88, 89, 90, 91, 92, 93, 94, 95, 96, 97, 98, 99, 100, 101, 102, 103, 104, 105, 106, 107, 108, 109, 110, 111, 112, 113, 114, 115, 116, 117, 118, 119, 120, 121, 122, 123, 124, 125, 126, 127, 128, 129, 130, 131, 132, 133, 134, 135, 136] rfl (by decide +kernel)
set_option maxRecDepth 20000 in
theorem gX4_run_X4_step : GoodIn wsX4_run (wsV RX4 164 RX4 yX4_step wsX4_step) := goodIn_app (goodIn_of _ (by decide +kernel)) ggX4_run_X4_step
theorem dX4_run_0 : decode cX4_run 0 = .ok (.aload_n 0, 1) := by decide +kernel
theorem dX4_run_1 : decode cX4_run 1 = .ok (.iconst 0, 1) := by decide +kernel
theorem dX4_run_2 : decode cX4_run 2 = .ok (.putfield 41, 3) := by decide +kernel
theorem dX4_run_5 : decode cX4_run 5 = .ok (.iconst 0, 1) := by decide +kernel
theorem dX4_run_6 : decode cX4_run 6 = .ok (.istore_n 2, 1) := by decide +kernel
theorem dX4_run_7 : decode cX4_run 7 = .ok (.aload_n 0, 1) := by decide +kernel
theorem dX4_run_8 : decode cX4_run 8 = .ok (.iconst 0, 1) := by decide +kernel
theorem dX4_run_9 : decode cX4_run 9 = .ok (.putfield 151, 3) := by decide +kernel
theorem dX4_run_12 : decode cX4_run 12 = .ok (.iconst 0, 1) := by decide +kernel
theorem dX4_run_13 : decode cX4_run 13 = .ok (.istore_n 3, 1) := by decide +kernel
theorem dX4_run_14 : decode cX4_run 14 = .ok (.iload_n 3, 1) := by decide +kernel
theorem dX4_run_15 : decode cX4_run 15 = .ok (.iload_n 1, 1) := by decide +kernel
theorem dX4_run_16 : decode cX4_run 16 = .ok (.if_icmp .ge 37, 3) := by decide +kernel
theorem dX4_run_19 : decode cX4_run 19 = .ok (.iload_n 3, 1) := by decide +kernel
theorem dX4_run_20 : decode cX4_run 20 = .ok (.sipush 2000, 3) := by decide +kernel
theorem dX4_run_23 : decode cX4_run 23 = .ok (.if_icmp .ge 30, 3) := by decide +kernel
theorem dX4_run_26 : decode cX4_run 26 = .ok (.aload_n 0, 1) := by decide +kernel
theorem dX4_run_27 : decode cX4_run 27 = .ok (.getfield 148, 3) := by decide +kernel
theorem dX4_run_30 : decode cX4_run 30 = .ok (.ifCond .ne 23, 3) := by decide +kernel
theorem dX4_run_33 : decode cX4_run 33 = .ok (.aload_n 0, 1) := by decide +kernel
theorem dX4_run_34 : decode cX4_run 34 = .ok (.getfield 151, 3) := by decide +kernel
theorem dX4_run_37 : decode cX4_run 37 = .ok (.ifCond .ne 16, 3) := by decide +kernel
theorem dX4_run_40 : decode cX4_run 40 = .ok (.aload_n 0, 1) := by decide +kernel
theorem dX4_run_41 : decode cX4_run 41 = .ok (.invokevirtual 164, 3) := by decide +kernel
theorem dX4_run_44 : decode cX4_run 44 = .ok (.iinc 2 1, 3) := by decide +kernel
theorem dX4_run_47 : decode cX4_run 47 = .ok (.iinc 3 1, 3) := by decide +kernel
theorem dX4_run_50 : decode cX4_run 50 = .ok (.goto (-36), 3) := by decide +kernel
theorem dX4_run_53 : decode cX4_run 53 = .ok (.iload_n 2, 1) := by decide +kernel
theorem dX4_run_54 : decode cX4_run 54 = .ok (.ireturn, 1) := by decide +kernel
theorem dX4_state_0 : decode cX4_state 0 = .ok (.aload_n 0, 1) := by decide +kernel
theorem dX4_state_1 : decode cX4_state 1 = .ok (.iconst 0, 1) := by decide +kernel
theorem dX4_state_2 : decode cX4_state 2 = .ok (.putfield 41, 3) := by decide +kernel
theorem dX4_state_5 : decode cX4_state 5 = .ok (.aload_n 0, 1) := by decide +kernel
theorem dX4_state_6 : decode cX4_state 6 = .ok (.getfield 148, 3) := by decide +kernel
theorem dX4_state_9 : decode cX4_state 9 = .ok (.ifCond .eq 7, 3) := by decide +kernel
theorem dX4_state_12 : decode cX4_state 12 = .ok (.iconst 2, 1) := by decide +kernel
theorem dX4_state_13 : decode cX4_state 13 = .ok (.goto 15, 3) := by decide +kernel
theorem dX4_state_16 : decode cX4_state 16 = .ok (.aload_n 0, 1) := by decide +kernel
theorem dX4_state_17 : decode cX4_state 17 = .ok (.getfield 127, 3) := by decide +kernel
theorem dX4_state_20 : decode cX4_state 20 = .ok (.ifCond .eq 7, 3) := by decide +kernel
theorem dX4_state_23 : decode cX4_state 23 = .ok (.iconst 1, 1) := by decide +kernel
theorem dX4_state_24 : decode cX4_state 24 = .ok (.goto 4, 3) := by decide +kernel
theorem dX4_state_27 : decode cX4_state 27 = .ok (.iconst 0, 1) := by decide +kernel
theorem dX4_state_28 : decode cX4_state 28 = .ok (.ireturn, 1) := by decide +kernel
set_option maxRecDepth 20000 in
theorem ggX4_register_X4_outside : GoodIn wsX4_register wsX4_outside := goodIn_r _ [8] (by decide +kernel) (by decide +kernel)
set_option maxRecDepth 20000 in
theorem gX4_register_X4_outside : GoodIn wsX4_register (va_wsS RX4 71 yX4_outside wsX4_outside) := goodIn_app (goodIn_of _ (by decide +kernel)) ggX4_register_X4_outside
set_option maxRecDepth 20000 in
theorem ggX4_register_X4_refuse : GoodIn wsX4_register wsX4_refuse := goodIn_r _ [12, 1, 13, 14, 15, 16, 17, 18, 19, 20, 21, 22, 23, 24, 25, 26, 27, 28, 29, 30, 31, 32] (by decide +kernel) (by decide +kernel)
set_option maxRecDepth 20000 in
theorem gX4_register_X4_refuse : GoodIn wsX4_register (wsV RX4 161 RX4 yX4_refuse wsX4_refuse) := goodIn_app (goodIn_of _ (by decide +kernel)) ggX4_register_X4_refuse
theorem dX4_register_0 : decode cX4_register 0 = .ok (.iload_n 1, 1) := by decide +kernel
theorem dX4_register_1 : decode cX4_register 1 = .ok (.iconst 0, 1) := by decide +kernel
theorem dX4_register_2 : decode cX4_register 2 = .ok (.bipush 9, 2) := by decide +kernel
theorem dX4_register_4 : decode cX4_register 4 = .ok (.invokestatic 71, 3) := by decide +kernel
theorem dX4_register_7 : decode cX4_register 7 = .ok (.ifCond .eq 9, 3) := by decide +kernel
theorem dX4_register_10 : decode cX4_register 10 = .ok (.aload_n 0, 1) := by decide +kernel
theorem dX4_register_11 : decode cX4_register 11 = .ok (.iconst 1, 1) := by decide +kernel
theorem dX4_register_12 : decode cX4_register 12 = .ok (.invokevirtual 161, 3) := by decide +kernel
theorem dX4_register_15 : decode cX4_register 15 = .ok (.ireturn, 1) := by decide +kernel
theorem dX4_register_16 : decode cX4_register 16 = .ok (.aload_n 0, 1) := by decide +kernel
theorem dX4_register_17 : decode cX4_register 17 = .ok (.iconst 0, 1) := by decide +kernel
theorem dX4_register_18 : decode cX4_register 18 = .ok (.putfield 41, 3) := by decide +kernel
theorem dX4_register_21 : decode cX4_register 21 = .ok (.iload_n 1, 1) := by decide +kernel
theorem dX4_register_22 : decode cX4_register 22 = .ok (.bipush 8, 2) := by decide +kernel
theorem dX4_register_24 : decode cX4_register 24 = .ok (.if_icmp .ge 12, 3) := by decide +kernel
theorem dX4_register_27 : decode cX4_register 27 = .ok (.aload_n 0, 1) := by decide +kernel
theorem dX4_register_28 : decode cX4_register 28 = .ok (.getfield 13, 3) := by decide +kernel
theorem dX4_register_31 : decode cX4_register 31 = .ok (.iload_n 1, 1) := by decide +kernel
theorem dX4_register_32 : decode cX4_register 32 = .ok (.iaload, 1) := by decide +kernel
theorem dX4_register_33 : decode cX4_register 33 = .ok (.goto 28, 3) := by decide +kernel
theorem dX4_register_36 : decode cX4_register 36 = .ok (.iload_n 1, 1) := by decide +kernel
theorem dX4_register_37 : decode cX4_register 37 = .ok (.bipush 8, 2) := by decide +kernel
theorem dX4_register_39 : decode cX4_register 39 = .ok (.if_icmp .ne 10, 3) := by decide +kernel
theorem dX4_register_42 : decode cX4_register 42 = .ok (.aload_n 0, 1) := by decide +kernel
theorem dX4_register_43 : decode cX4_register 43 = .ok (.getfield 51, 3) := by decide +kernel
theorem dX4_register_46 : decode cX4_register 46 = .ok (.goto 15, 3) := by decide +kernel
theorem dX4_register_49 : decode cX4_register 49 = .ok (.aload_n 0, 1) := by decide +kernel
theorem dX4_register_50 : decode cX4_register 50 = .ok (.getfield 89, 3) := by decide +kernel
theorem dX4_register_53 : decode cX4_register 53 = .ok (.ifCond .eq 7, 3) := by decide +kernel
theorem dX4_register_56 : decode cX4_register 56 = .ok (.iconst 1, 1) := by decide +kernel
theorem dX4_register_57 : decode cX4_register 57 = .ok (.goto 4, 3) := by decide +kernel
theorem dX4_register_60 : decode cX4_register 60 = .ok (.iconst 0, 1) := by decide +kernel
theorem dX4_register_61 : decode cX4_register 61 = .ok (.ireturn, 1) := by decide +kernel
set_option maxRecDepth 20000 in
theorem ggX4_control_X4_outside : GoodIn wsX4_control wsX4_outside := goodIn_r _ [6] (by decide +kernel) (by decide +kernel)
set_option maxRecDepth 20000 in
theorem gX4_control_X4_outside : GoodIn wsX4_control (va_wsS RX4 71 yX4_outside wsX4_outside) := goodIn_app (goodIn_of _ (by decide +kernel)) ggX4_control_X4_outside
set_option maxRecDepth 20000 in
theorem ggX4_control_X4_refuse : GoodIn wsX4_control wsX4_refuse := goodIn_r _ [10, 1, 11, 12, 13, 14, 15, 16, 17, 18, 19, 20, 21, 22, 23, 24, 25, 26, 27, 28, 29, 30] (by decide +kernel) (by decide +kernel)
set_option maxRecDepth 20000 in
theorem gX4_control_X4_refuse : GoodIn wsX4_control (wsV RX4 161 RX4 yX4_refuse wsX4_refuse) := goodIn_app (goodIn_of _ (by decide +kernel)) ggX4_control_X4_refuse
theorem dX4_control_0 : decode cX4_control 0 = .ok (.iload_n 1, 1) := by decide +kernel
theorem dX4_control_1 : decode cX4_control 1 = .ok (.iconst 0, 1) := by decide +kernel
theorem dX4_control_2 : decode cX4_control 2 = .ok (.bipush 17, 2) := by decide +kernel
theorem dX4_control_4 : decode cX4_control 4 = .ok (.invokestatic 71, 3) := by decide +kernel
theorem dX4_control_7 : decode cX4_control 7 = .ok (.ifCond .eq 9, 3) := by decide +kernel
theorem dX4_control_10 : decode cX4_control 10 = .ok (.aload_n 0, 1) := by decide +kernel
theorem dX4_control_11 : decode cX4_control 11 = .ok (.iconst 1, 1) := by decide +kernel
theorem dX4_control_12 : decode cX4_control 12 = .ok (.invokevirtual 161, 3) := by decide +kernel
theorem dX4_control_15 : decode cX4_control 15 = .ok (.ireturn, 1) := by decide +kernel
theorem dX4_control_16 : decode cX4_control 16 = .ok (.aload_n 0, 1) := by decide +kernel
theorem dX4_control_17 : decode cX4_control 17 = .ok (.iconst 0, 1) := by decide +kernel
theorem dX4_control_18 : decode cX4_control 18 = .ok (.putfield 41, 3) := by decide +kernel
theorem dX4_control_21 : decode cX4_control 21 = .ok (.aload_n 0, 1) := by decide +kernel
theorem dX4_control_22 : decode cX4_control 22 = .ok (.getfield 16, 3) := by decide +kernel
theorem dX4_control_25 : decode cX4_control 25 = .ok (.iload_n 1, 1) := by decide +kernel
theorem dX4_control_26 : decode cX4_control 26 = .ok (.iaload, 1) := by decide +kernel
theorem dX4_control_27 : decode cX4_control 27 = .ok (.ireturn, 1) := by decide +kernel
set_option maxRecDepth 20000 in
theorem ggX4_entry_X4_outside : GoodIn wsX4_entry wsX4_outside := goodIn_r _ [10] (by decide +kernel) (by decide +kernel)
set_option maxRecDepth 20000 in
theorem gX4_entry_X4_outside : GoodIn wsX4_entry (va_wsS RX4 71 yX4_outside wsX4_outside) := goodIn_app (goodIn_of _ (by decide +kernel)) ggX4_entry_X4_outside
set_option maxRecDepth 20000 in
theorem ggX4_entry_X4_refuse : GoodIn wsX4_entry wsX4_refuse := goodIn_r _ [14, 1, 15, 16, 17, 18, 19, 20, 21, 22, 23, 24, 25, 26, 27, 28, 29, 30, 31, 32, 33, 34] (by decide +kernel) (by decide +kernel)
set_option maxRecDepth 20000 in
theorem gX4_entry_X4_refuse : GoodIn wsX4_entry (wsV RX4 161 RX4 yX4_refuse wsX4_refuse) := goodIn_app (goodIn_of _ (by decide +kernel)) ggX4_entry_X4_refuse
theorem dX4_entry_0 : decode cX4_entry 0 = .ok (.iload_n 1, 1) := by decide +kernel
theorem dX4_entry_1 : decode cX4_entry 1 = .ok (.iconst 0, 1) := by decide +kernel
theorem dX4_entry_2 : decode cX4_entry 2 = .ok (.iconst 3, 1) := by decide +kernel
theorem dX4_entry_3 : decode cX4_entry 3 = .ok (.invokestatic 71, 3) := by decide +kernel
theorem dX4_entry_6 : decode cX4_entry 6 = .ok (.ifCond .ne 12, 3) := by decide +kernel
theorem dX4_entry_9 : decode cX4_entry 9 = .ok (.iload_n 2, 1) := by decide +kernel
theorem dX4_entry_10 : decode cX4_entry 10 = .ok (.iconst 0, 1) := by decide +kernel
theorem dX4_entry_11 : decode cX4_entry 11 = .ok (.iconst 5, 1) := by decide +kernel
theorem dX4_entry_12 : decode cX4_entry 12 = .ok (.invokestatic 71, 3) := by decide +kernel
theorem dX4_entry_15 : decode cX4_entry 15 = .ok (.ifCond .eq 9, 3) := by decide +kernel
theorem dX4_entry_18 : decode cX4_entry 18 = .ok (.aload_n 0, 1) := by decide +kernel
theorem dX4_entry_19 : decode cX4_entry 19 = .ok (.iconst 1, 1) := by decide +kernel
theorem dX4_entry_20 : decode cX4_entry 20 = .ok (.invokevirtual 161, 3) := by decide +kernel
theorem dX4_entry_23 : decode cX4_entry 23 = .ok (.ireturn, 1) := by decide +kernel
theorem dX4_entry_24 : decode cX4_entry 24 = .ok (.aload_n 0, 1) := by decide +kernel
theorem dX4_entry_25 : decode cX4_entry 25 = .ok (.iconst 0, 1) := by decide +kernel
theorem dX4_entry_26 : decode cX4_entry 26 = .ok (.putfield 41, 3) := by decide +kernel
theorem dX4_entry_29 : decode cX4_entry 29 = .ok (.iload_n 2, 1) := by decide +kernel
theorem dX4_entry_30 : decode cX4_entry 30 = .ok (.iconst 3, 1) := by decide +kernel
theorem dX4_entry_31 : decode cX4_entry 31 = .ok (.if_icmp .le 16, 3) := by decide +kernel
theorem dX4_entry_34 : decode cX4_entry 34 = .ok (.aload_n 0, 1) := by decide +kernel
theorem dX4_entry_35 : decode cX4_entry 35 = .ok (.getfield 38, 3) := by decide +kernel
theorem dX4_entry_38 : decode cX4_entry 38 = .ok (.iconst 2, 1) := by decide +kernel
theorem dX4_entry_39 : decode cX4_entry 39 = .ok (.iload_n 1, 1) := by decide +kernel
theorem dX4_entry_40 : decode cX4_entry 40 = .ok (.imul, 1) := by decide +kernel
theorem dX4_entry_41 : decode cX4_entry 41 = .ok (.iload_n 2, 1) := by decide +kernel
theorem dX4_entry_42 : decode cX4_entry 42 = .ok (.iadd, 1) := by decide +kernel
theorem dX4_entry_43 : decode cX4_entry 43 = .ok (.iconst 4, 1) := by decide +kernel
theorem dX4_entry_44 : decode cX4_entry 44 = .ok (.isub, 1) := by decide +kernel
theorem dX4_entry_45 : decode cX4_entry 45 = .ok (.iaload, 1) := by decide +kernel
theorem dX4_entry_46 : decode cX4_entry 46 = .ok (.ireturn, 1) := by decide +kernel
theorem dX4_entry_47 : decode cX4_entry 47 = .ok (.iload_n 2, 1) := by decide +kernel
theorem dX4_entry_48 : decode cX4_entry 48 = .ok (.ifCond .ne 20, 3) := by decide +kernel
theorem dX4_entry_51 : decode cX4_entry 51 = .ok (.aload_n 0, 1) := by decide +kernel
theorem dX4_entry_52 : decode cX4_entry 52 = .ok (.getfield 25, 3) := by decide +kernel
theorem dX4_entry_55 : decode cX4_entry 55 = .ok (.iload_n 1, 1) := by decide +kernel
theorem dX4_entry_56 : decode cX4_entry 56 = .ok (.baload, 1) := by decide +kernel
theorem dX4_entry_57 : decode cX4_entry 57 = .ok (.ifCond .eq 7, 3) := by decide +kernel
theorem dX4_entry_60 : decode cX4_entry 60 = .ok (.iconst 1, 1) := by decide +kernel
theorem dX4_entry_61 : decode cX4_entry 61 = .ok (.goto 49, 3) := by decide +kernel
theorem dX4_entry_64 : decode cX4_entry 64 = .ok (.iconst 0, 1) := by decide +kernel
theorem dX4_entry_65 : decode cX4_entry 65 = .ok (.goto 45, 3) := by decide +kernel
theorem dX4_entry_68 : decode cX4_entry 68 = .ok (.iload_n 2, 1) := by decide +kernel
theorem dX4_entry_69 : decode cX4_entry 69 = .ok (.iconst 1, 1) := by decide +kernel
theorem dX4_entry_70 : decode cX4_entry 70 = .ok (.if_icmp .ne 12, 3) := by decide +kernel
theorem dX4_entry_73 : decode cX4_entry 73 = .ok (.aload_n 0, 1) := by decide +kernel
theorem dX4_entry_74 : decode cX4_entry 74 = .ok (.getfield 32, 3) := by decide +kernel
theorem dX4_entry_77 : decode cX4_entry 77 = .ok (.iload_n 1, 1) := by decide +kernel
theorem dX4_entry_78 : decode cX4_entry 78 = .ok (.iaload, 1) := by decide +kernel
theorem dX4_entry_79 : decode cX4_entry 79 = .ok (.goto 31, 3) := by decide +kernel
theorem dX4_entry_82 : decode cX4_entry 82 = .ok (.iload_n 2, 1) := by decide +kernel
theorem dX4_entry_83 : decode cX4_entry 83 = .ok (.iconst 2, 1) := by decide +kernel
theorem dX4_entry_84 : decode cX4_entry 84 = .ok (.if_icmp .ne 12, 3) := by decide +kernel
theorem dX4_entry_87 : decode cX4_entry 87 = .ok (.aload_n 0, 1) := by decide +kernel
theorem dX4_entry_88 : decode cX4_entry 88 = .ok (.getfield 35, 3) := by decide +kernel
theorem dX4_entry_91 : decode cX4_entry 91 = .ok (.iload_n 1, 1) := by decide +kernel
theorem dX4_entry_92 : decode cX4_entry 92 = .ok (.iaload, 1) := by decide +kernel
theorem dX4_entry_93 : decode cX4_entry 93 = .ok (.goto 17, 3) := by decide +kernel
theorem dX4_entry_96 : decode cX4_entry 96 = .ok (.aload_n 0, 1) := by decide +kernel
theorem dX4_entry_97 : decode cX4_entry 97 = .ok (.getfield 29, 3) := by decide +kernel
theorem dX4_entry_100 : decode cX4_entry 100 = .ok (.iload_n 1, 1) := by decide +kernel
theorem dX4_entry_101 : decode cX4_entry 101 = .ok (.baload, 1) := by decide +kernel
theorem dX4_entry_102 : decode cX4_entry 102 = .ok (.ifCond .eq 7, 3) := by decide +kernel
theorem dX4_entry_105 : decode cX4_entry 105 = .ok (.iconst 1, 1) := by decide +kernel
theorem dX4_entry_106 : decode cX4_entry 106 = .ok (.goto 4, 3) := by decide +kernel
theorem dX4_entry_109 : decode cX4_entry 109 = .ok (.iconst 0, 1) := by decide +kernel
theorem dX4_entry_110 : decode cX4_entry 110 = .ok (.ireturn, 1) := by decide +kernel

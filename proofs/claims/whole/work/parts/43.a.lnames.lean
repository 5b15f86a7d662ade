set_option maxRecDepth 20000 in
theorem ggL_load_X3_load : GoodIn wsL_load wsX3_load := goodIn_ca (goodIn_r _ [6, 7, 8, 9, 10, 11, 5, 12, 13, 14, 15, 16, 17, 18, 19, 20, 21] rfl (by decide +kernel)) (goodIn_sub (fun _ h => List.mem_cons_of_mem _ (List.mem_append_right _ h)) (by decide +kernel))
set_option maxRecDepth 20000 in
theorem gL_load_X3_load : GoodIn wsL_load (wsV RL 7 RX3 yX3_load wsX3_load) := goodIn_app (goodIn_of _ (by decide +kernel)) ggL_load_X3_load
theorem dL_load_0 : decode cL_load 0 = .ok (.aload_n 0, 1) := by decide +kernel
theorem dL_load_1 : decode cL_load 1 = .ok (.iload_n 1, 1) := by decide +kernel
theorem dL_load_2 : decode cL_load 2 = .ok (.iload_n 2, 1) := by decide +kernel
theorem dL_load_3 : decode cL_load 3 = .ok (.invokevirtual 7, 3) := by decide +kernel
theorem dL_load_6 : decode cL_load 6 = .ok (.goto 6, 3) := by decide +kernel
theorem dL_load_9 : decode cL_load 9 = .ok (.astore_n 3, 1) := by decide +kernel
theorem dL_load_10 : decode cL_load 10 = .ok (.iconst 1, 1) := by decide +kernel
theorem dL_load_11 : decode cL_load 11 = .ok (.ireturn, 1) := by decide +kernel
theorem dL_load_12 : decode cL_load 12 = .ok (.iconst 0, 1) := by decide +kernel
theorem dL_load_13 : decode cL_load 13 = .ok (.ireturn, 1) := by decide +kernel
set_option maxRecDepth 20000 in
theorem ggL_word_X3_word : GoodIn wsL_word wsX3_word := goodIn_ca (goodIn_r _ [6, 7, 8, 9, 10, 11, 5, 12, 13, 14, 15, 16, 17, 18, 19, 20, 21] rfl (by decide +kernel)) (goodIn_sub (fun _ h => List.mem_cons_of_mem _ (List.mem_append_right _ h)) (by decide +kernel))
set_option maxRecDepth 20000 in
theorem gL_word_X3_word : GoodIn wsL_word (wsV RL 15 RX3 yX3_word wsX3_word) := goodIn_app (goodIn_of _ (by decide +kernel)) ggL_word_X3_word
theorem dL_word_0 : decode cL_word 0 = .ok (.aload_n 2, 1) := by decide +kernel
theorem dL_word_1 : decode cL_word 1 = .ok (.iconst 0, 1) := by decide +kernel
theorem dL_word_2 : decode cL_word 2 = .ok (.aload_n 0, 1) := by decide +kernel
theorem dL_word_3 : decode cL_word 3 = .ok (.iload_n 1, 1) := by decide +kernel
theorem dL_word_4 : decode cL_word 4 = .ok (.invokevirtual 15, 3) := by decide +kernel
theorem dL_word_7 : decode cL_word 7 = .ok (.i2l, 1) := by decide +kernel
theorem dL_word_8 : decode cL_word 8 = .ok (.lastore, 1) := by decide +kernel
theorem dL_word_9 : decode cL_word 9 = .ok (.goto 6, 3) := by decide +kernel
theorem dL_word_12 : decode cL_word 12 = .ok (.astore_n 3, 1) := by decide +kernel
theorem dL_word_13 : decode cL_word 13 = .ok (.iconst 1, 1) := by decide +kernel
theorem dL_word_14 : decode cL_word 14 = .ok (.ireturn, 1) := by decide +kernel
theorem dL_word_15 : decode cL_word 15 = .ok (.iconst 0, 1) := by decide +kernel
theorem dL_word_16 : decode cL_word 16 = .ok (.ireturn, 1) := by decide +kernel
set_option maxRecDepth 20000 in
theorem ggL_line_X3_line : GoodIn wsL_line wsX3_line := goodIn_ca (goodIn_r _ [6, 7, 8, 9, 10, 11, 12, 13, 14, 15, 16, 17, 18, 19, 20, 21, 22, 23, 24] rfl (by decide +kernel)) (goodIn_sub (fun _ h => List.mem_cons_of_mem _ (List.mem_append_right _ h)) (by decide +kernel))
set_option maxRecDepth 20000 in
theorem gL_line_X3_line : GoodIn wsL_line (wsV RL 19 RX3 yX3_line wsX3_line) := goodIn_app (goodIn_of _ (by decide +kernel)) ggL_line_X3_line
theorem dL_line_0 : decode cL_line 0 = .ok (.aload_n 0, 1) := by decide +kernel
theorem dL_line_1 : decode cL_line 1 = .ok (.iload_n 1, 1) := by decide +kernel
theorem dL_line_2 : decode cL_line 2 = .ok (.iload_n 2, 1) := by decide +kernel
theorem dL_line_3 : decode cL_line 3 = .ok (.invokevirtual 19, 3) := by decide +kernel
theorem dL_line_6 : decode cL_line 6 = .ok (.goto 6, 3) := by decide +kernel
theorem dL_line_9 : decode cL_line 9 = .ok (.astore_n 3, 1) := by decide +kernel
theorem dL_line_10 : decode cL_line 10 = .ok (.iconst 1, 1) := by decide +kernel
theorem dL_line_11 : decode cL_line 11 = .ok (.ireturn, 1) := by decide +kernel
theorem dL_line_12 : decode cL_line 12 = .ok (.iconst 0, 1) := by decide +kernel
theorem dL_line_13 : decode cL_line 13 = .ok (.ireturn, 1) := by decide +kernel
set_option maxRecDepth 20000 in
theorem ggL_register_X3_register : GoodIn wsL_register wsX3_register := goodIn_ca (goodIn_r _ [6, 7, 8, 9, 10, 11, 12, 13, 14, 15, 16, 17, 18, 19, 20] rfl (by decide +kernel)) (goodIn_sub (fun _ h => List.mem_cons_of_mem _ (List.mem_append_right _ h)) (by decide +kernel))
set_option maxRecDepth 20000 in
theorem gL_register_X3_register : GoodIn wsL_register (wsV RL 23 RX3 yX3_register wsX3_register) := goodIn_app (goodIn_of _ (by decide +kernel)) ggL_register_X3_register
theorem dL_register_0 : decode cL_register 0 = .ok (.aload_n 2, 1) := by decide +kernel
theorem dL_register_1 : decode cL_register 1 = .ok (.iconst 0, 1) := by decide +kernel
theorem dL_register_2 : decode cL_register 2 = .ok (.aload_n 0, 1) := by decide +kernel
theorem dL_register_3 : decode cL_register 3 = .ok (.iload_n 1, 1) := by decide +kernel
theorem dL_register_4 : decode cL_register 4 = .ok (.invokevirtual 23, 3) := by decide +kernel
theorem dL_register_7 : decode cL_register 7 = .ok (.i2l, 1) := by decide +kernel
theorem dL_register_8 : decode cL_register 8 = .ok (.lastore, 1) := by decide +kernel
theorem dL_register_9 : decode cL_register 9 = .ok (.goto 6, 3) := by decide +kernel
theorem dL_register_12 : decode cL_register 12 = .ok (.astore_n 3, 1) := by decide +kernel
theorem dL_register_13 : decode cL_register 13 = .ok (.iconst 1, 1) := by decide +kernel
theorem dL_register_14 : decode cL_register 14 = .ok (.ireturn, 1) := by decide +kernel
theorem dL_register_15 : decode cL_register 15 = .ok (.iconst 0, 1) := by decide +kernel
theorem dL_register_16 : decode cL_register 16 = .ok (.ireturn, 1) := by decide +kernel
set_option maxRecDepth 20000 in
theorem ggL_control_X3_control : GoodIn wsL_control wsX3_control := goodIn_ca (goodIn_r _ [6, 7, 8, 9, 10, 11, 12, 13, 14, 15, 16, 17, 18, 19, 20, 21, 22, 23, 24] rfl (by decide +kernel)) (goodIn_sub (fun _ h => List.mem_cons_of_mem _ (List.mem_append_right _ h)) (by decide +kernel))
set_option maxRecDepth 20000 in
theorem gL_control_X3_control : GoodIn wsL_control (wsV RL 26 RX3 yX3_control wsX3_control) := goodIn_app (goodIn_of _ (by decide +kernel)) ggL_control_X3_control
theorem dL_control_0 : decode cL_control 0 = .ok (.aload_n 2, 1) := by decide +kernel
theorem dL_control_1 : decode cL_control 1 = .ok (.iconst 0, 1) := by decide +kernel
theorem dL_control_2 : decode cL_control 2 = .ok (.aload_n 0, 1) := by decide +kernel
theorem dL_control_3 : decode cL_control 3 = .ok (.iload_n 1, 1) := by decide +kernel
theorem dL_control_4 : decode cL_control 4 = .ok (.invokevirtual 26, 3) := by decide +kernel
theorem dL_control_7 : decode cL_control 7 = .ok (.i2l, 1) := by decide +kernel
theorem dL_control_8 : decode cL_control 8 = .ok (.lastore, 1) := by decide +kernel
theorem dL_control_9 : decode cL_control 9 = .ok (.goto 6, 3) := by decide +kernel
theorem dL_control_12 : decode cL_control 12 = .ok (.astore_n 3, 1) := by decide +kernel
theorem dL_control_13 : decode cL_control 13 = .ok (.iconst 1, 1) := by decide +kernel
theorem dL_control_14 : decode cL_control 14 = .ok (.ireturn, 1) := by decide +kernel
theorem dL_control_15 : decode cL_control 15 = .ok (.iconst 0, 1) := by decide +kernel
theorem dL_control_16 : decode cL_control 16 = .ok (.ireturn, 1) := by decide +kernel
set_option maxRecDepth 20000 in
theorem ggL_entry_X3_entry : GoodIn wsL_entry wsX3_entry := goodIn_ca (goodIn_r _ [6, 7, 8, 9, 10, 11, 12, 13, 14, 15, 16, 17, 18, 19, 20, 21, 22, 23, 24] rfl (by decide +kernel)) (goodIn_sub (fun _ h => List.mem_cons_of_mem _ (List.mem_append_right _ h)) (by decide +kernel))
set_option maxRecDepth 20000 in
theorem gL_entry_X3_entry : GoodIn wsL_entry (wsV RL 29 RX3 yX3_entry wsX3_entry) := goodIn_app (goodIn_of _ (by decide +kernel)) ggL_entry_X3_entry
theorem dL_entry_0 : decode cL_entry 0 = .ok (.aload_n 3, 1) := by decide +kernel
theorem dL_entry_1 : decode cL_entry 1 = .ok (.iconst 0, 1) := by decide +kernel
theorem dL_entry_2 : decode cL_entry 2 = .ok (.aload_n 0, 1) := by decide +kernel
theorem dL_entry_3 : decode cL_entry 3 = .ok (.iload_n 1, 1) := by decide +kernel
theorem dL_entry_4 : decode cL_entry 4 = .ok (.iload_n 2, 1) := by decide +kernel
theorem dL_entry_5 : decode cL_entry 5 = .ok (.invokevirtual 29, 3) := by decide +kernel
theorem dL_entry_8 : decode cL_entry 8 = .ok (.i2l, 1) := by decide +kernel
theorem dL_entry_9 : decode cL_entry 9 = .ok (.lastore, 1) := by decide +kernel
theorem dL_entry_10 : decode cL_entry 10 = .ok (.goto 7, 3) := by decide +kernel
theorem dL_entry_13 : decode cL_entry 13 = .ok (.astore 4, 2) := by decide +kernel
theorem dL_entry_15 : decode cL_entry 15 = .ok (.iconst 1, 1) := by decide +kernel
theorem dL_entry_16 : decode cL_entry 16 = .ok (.ireturn, 1) := by decide +kernel
theorem dL_entry_17 : decode cL_entry 17 = .ok (.iconst 0, 1) := by decide +kernel
theorem dL_entry_18 : decode cL_entry 18 = .ok (.ireturn, 1) := by decide +kernel

theorem dX4_instruction_111 : decode cX4_instruction 111 = .ok (.bipush 8, 2) := by decide +kernel
theorem dX4_instruction_113 : decode cX4_instruction 113 = .ok (.if_icmp .ge 22, 3) := by decide +kernel
theorem dX4_instruction_116 : decode cX4_instruction 116 = .ok (.aload_n 0, 1) := by decide +kernel
theorem dX4_instruction_117 : decode cX4_instruction 117 = .ok (.iload 4, 2) := by decide +kernel
theorem dX4_instruction_119 : decode cX4_instruction 119 = .ok (.aload_n 0, 1) := by decide +kernel
theorem dX4_instruction_120 : decode cX4_instruction 120 = .ok (.iload_n 3, 1) := by decide +kernel
theorem dX4_instruction_121 : decode cX4_instruction 121 = .ok (.iload 5, 2) := by decide +kernel
theorem dX4_instruction_123 : decode cX4_instruction 123 = .ok (.iload 6, 2) := by decide +kernel
theorem dX4_instruction_125 : decode cX4_instruction 125 = .ok (.iload 7, 2) := by decide +kernel
theorem dX4_instruction_127 : decode cX4_instruction 127 = .ok (.invokevirtual 130, 3) := by decide +kernel
theorem dX4_instruction_130 : decode cX4_instruction 130 = .ok (.invokevirtual 93, 3) := by decide +kernel
theorem dX4_instruction_133 : decode cX4_instruction 133 = .ok (.iconst (-1), 1) := by decide +kernel
theorem dX4_instruction_134 : decode cX4_instruction 134 = .ok (.ireturn, 1) := by decide +kernel
theorem dX4_instruction_135 : decode cX4_instruction 135 = .ok (.iload_n 3, 1) := by decide +kernel
theorem dX4_instruction_136 : decode cX4_instruction 136 = .ok (.bipush 12, 2) := by decide +kernel
theorem dX4_instruction_138 : decode cX4_instruction 138 = .ok (.if_icmp .ge 24, 3) := by decide +kernel
theorem dX4_instruction_141 : decode cX4_instruction 141 = .ok (.aload_n 0, 1) := by decide +kernel
theorem dX4_instruction_142 : decode cX4_instruction 142 = .ok (.iload_n 3, 1) := by decide +kernel
theorem dX4_instruction_143 : decode cX4_instruction 143 = .ok (.iload 4, 2) := by decide +kernel
theorem dX4_instruction_145 : decode cX4_instruction 145 = .ok (.aload_n 0, 1) := by decide +kernel
theorem dX4_instruction_146 : decode cX4_instruction 146 = .ok (.getfield 13, 3) := by decide +kernel
theorem dX4_instruction_149 : decode cX4_instruction 149 = .ok (.iload 5, 2) := by decide +kernel
theorem dX4_instruction_151 : decode cX4_instruction 151 = .ok (.bipush 8, 2) := by decide +kernel
theorem dX4_instruction_153 : decode cX4_instruction 153 = .ok (.irem, 1) := by decide +kernel
theorem dX4_instruction_154 : decode cX4_instruction 154 = .ok (.iaload, 1) := by decide +kernel
theorem dX4_instruction_155 : decode cX4_instruction 155 = .ok (.iload 7, 2) := by decide +kernel
theorem dX4_instruction_157 : decode cX4_instruction 157 = .ok (.iadd, 1) := by decide +kernel
theorem dX4_instruction_158 : decode cX4_instruction 158 = .ok (.invokevirtual 133, 3) := by decide +kernel
theorem dX4_instruction_161 : decode cX4_instruction 161 = .ok (.ireturn, 1) := by decide +kernel
theorem dX4_instruction_162 : decode cX4_instruction 162 = .ok (.iload_n 3, 1) := by decide +kernel
theorem dX4_instruction_163 : decode cX4_instruction 163 = .ok (.bipush 18, 2) := by decide +kernel
theorem dX4_instruction_165 : decode cX4_instruction 165 = .ok (.if_icmp .ge 17, 3) := by decide +kernel
theorem dX4_instruction_168 : decode cX4_instruction 168 = .ok (.aload_n 0, 1) := by decide +kernel
theorem dX4_instruction_169 : decode cX4_instruction 169 = .ok (.iload_n 3, 1) := by decide +kernel
theorem dX4_instruction_170 : decode cX4_instruction 170 = .ok (.iload 4, 2) := by decide +kernel
theorem dX4_instruction_172 : decode cX4_instruction 172 = .ok (.iload 5, 2) := by decide +kernel
theorem dX4_instruction_174 : decode cX4_instruction 174 = .ok (.iload 7, 2) := by decide +kernel
theorem dX4_instruction_176 : decode cX4_instruction 176 = .ok (.invokevirtual 136, 3) := by decide +kernel
theorem dX4_instruction_179 : decode cX4_instruction 179 = .ok (.goto 14, 3) := by decide +kernel
theorem dX4_instruction_182 : decode cX4_instruction 182 = .ok (.aload_n 0, 1) := by decide +kernel
theorem dX4_instruction_183 : decode cX4_instruction 183 = .ok (.iload_n 3, 1) := by decide +kernel
theorem dX4_instruction_184 : decode cX4_instruction 184 = .ok (.iload 4, 2) := by decide +kernel
theorem dX4_instruction_186 : decode cX4_instruction 186 = .ok (.iload 5, 2) := by decide +kernel
theorem dX4_instruction_188 : decode cX4_instruction 188 = .ok (.iload 6, 2) := by decide +kernel
theorem dX4_instruction_190 : decode cX4_instruction 190 = .ok (.invokevirtual 139, 3) := by decide +kernel
theorem dX4_instruction_193 : decode cX4_instruction 193 = .ok (.ireturn, 1) := by decide +kernel
theorem dX4_tick_0 : decode cX4_tick 0 = .ok (.aload_n 0, 1) := by decide +kernel
theorem dX4_tick_1 : decode cX4_tick 1 = .ok (.getfield 16, 3) := by decide +kernel
theorem dX4_tick_4 : decode cX4_tick 4 = .ok (.bipush 14, 2) := by decide +kernel
theorem dX4_tick_6 : decode cX4_tick 6 = .ok (.iaload, 1) := by decide +kernel
theorem dX4_tick_7 : decode cX4_tick 7 = .ok (.iconst 1, 1) := by decide +kernel
theorem dX4_tick_8 : decode cX4_tick 8 = .ok (.iand, 1) := by decide +kernel
theorem dX4_tick_9 : decode cX4_tick 9 = .ok (.ifCond .eq 13, 3) := by decide +kernel
theorem dX4_tick_12 : decode cX4_tick 12 = .ok (.aload_n 0, 1) := by decide +kernel
theorem dX4_tick_13 : decode cX4_tick 13 = .ok (.getfield 16, 3) := by decide +kernel
theorem dX4_tick_16 : decode cX4_tick 16 = .ok (.bipush 15, 2) := by decide +kernel
theorem dX4_tick_18 : decode cX4_tick 18 = .ok (.iaload, 1) := by decide +kernel
theorem dX4_tick_19 : decode cX4_tick 19 = .ok (.ifCond .ne 4, 3) := by decide +kernel
theorem dX4_tick_22 : decode cX4_tick 22 = .ok (.return_, 1) := by decide +kernel
theorem dX4_tick_23 : decode cX4_tick 23 = .ok (.aload_n 0, 1) := by decide +kernel
theorem dX4_tick_24 : decode cX4_tick 24 = .ok (.getfield 16, 3) := by decide +kernel
theorem dX4_tick_27 : decode cX4_tick 27 = .ok (.bipush 15, 2) := by decide +kernel
theorem dX4_tick_29 : decode cX4_tick 29 = .ok (.dup2, 1) := by decide +kernel
theorem dX4_tick_30 : decode cX4_tick 30 = .ok (.iaload, 1) := by decide +kernel
theorem dX4_tick_31 : decode cX4_tick 31 = .ok (.iconst 1, 1) := by decide +kernel
theorem dX4_tick_32 : decode cX4_tick 32 = .ok (.isub, 1) := by decide +kernel
theorem dX4_tick_33 : decode cX4_tick 33 = .ok (.iastore, 1) := by decide +kernel
theorem dX4_tick_34 : decode cX4_tick 34 = .ok (.aload_n 0, 1) := by decide +kernel
theorem dX4_tick_35 : decode cX4_tick 35 = .ok (.getfield 16, 3) := by decide +kernel
theorem dX4_tick_38 : decode cX4_tick 38 = .ok (.bipush 15, 2) := by decide +kernel
theorem dX4_tick_40 : decode cX4_tick 40 = .ok (.iaload, 1) := by decide +kernel
theorem dX4_tick_41 : decode cX4_tick 41 = .ok (.ifCond .le 4, 3) := by decide +kernel
theorem dX4_tick_44 : decode cX4_tick 44 = .ok (.return_, 1) := by decide +kernel
theorem dX4_tick_45 : decode cX4_tick 45 = .ok (.aload_n 0, 1) := by decide +kernel
theorem dX4_tick_46 : decode cX4_tick 46 = .ok (.getfield 16, 3) := by decide +kernel
theorem dX4_tick_49 : decode cX4_tick 49 = .ok (.iconst 3, 1) := by decide +kernel
theorem dX4_tick_50 : decode cX4_tick 50 = .ok (.dup2, 1) := by decide +kernel
theorem dX4_tick_51 : decode cX4_tick 51 = .ok (.iaload, 1) := by decide +kernel
theorem dX4_tick_52 : decode cX4_tick 52 = .ok (.bipush 16, 2) := by decide +kernel
theorem dX4_tick_54 : decode cX4_tick 54 = .ok (.ior, 1) := by decide +kernel
theorem dX4_tick_55 : decode cX4_tick 55 = .ok (.iastore, 1) := by decide +kernel
theorem dX4_tick_56 : decode cX4_tick 56 = .ok (.aload_n 0, 1) := by decide +kernel
theorem dX4_tick_57 : decode cX4_tick 57 = .ok (.getfield 16, 3) := by decide +kernel
theorem dX4_tick_60 : decode cX4_tick 60 = .ok (.bipush 15, 2) := by decide +kernel
theorem dX4_tick_62 : decode cX4_tick 62 = .ok (.aload_n 0, 1) := by decide +kernel
theorem dX4_tick_63 : decode cX4_tick 63 = .ok (.getfield 16, 3) := by decide +kernel
theorem dX4_tick_66 : decode cX4_tick 66 = .ok (.bipush 14, 2) := by decide +kernel
theorem dX4_tick_68 : decode cX4_tick 68 = .ok (.iaload, 1) := by decide +kernel
theorem dX4_tick_69 : decode cX4_tick 69 = .ok (.iconst 2, 1) := by decide +kernel
theorem dX4_tick_70 : decode cX4_tick 70 = .ok (.iand, 1) := by decide +kernel
theorem dX4_tick_71 : decode cX4_tick 71 = .ok (.ifCond .eq 16, 3) := by decide +kernel
theorem dX4_tick_74 : decode cX4_tick 74 = .ok (.aload_n 0, 1) := by decide +kernel
theorem dX4_tick_75 : decode cX4_tick 75 = .ok (.getfield 16, 3) := by decide +kernel
theorem dX4_tick_78 : decode cX4_tick 78 = .ok (.bipush 14, 2) := by decide +kernel
theorem dX4_tick_80 : decode cX4_tick 80 = .ok (.iaload, 1) := by decide +kernel
theorem dX4_tick_81 : decode cX4_tick 81 = .ok (.ldc 82, 2) := by decide +kernel
theorem dX4_tick_83 : decode cX4_tick 83 = .ok (.iand, 1) := by decide +kernel
theorem dX4_tick_84 : decode cX4_tick 84 = .ok (.goto 4, 3) := by decide +kernel
theorem dX4_tick_87 : decode cX4_tick 87 = .ok (.iconst 0, 1) := by decide +kernel
theorem dX4_tick_88 : decode cX4_tick 88 = .ok (.iastore, 1) := by decide +kernel
theorem dX4_tick_89 : decode cX4_tick 89 = .ok (.return_, 1) := by decide +kernel
set_option maxRecDepth 20000 in
theorem ggX4_step_X4_tick : GoodIn wsX4_step wsX4_tick := goodIn_r _ [11, 1, 12, 112, 113, 114, 115, 116, 117, 118, 119, 120, 121, 122, 123, 124, 125, 126, 127, 128, 129, 130, 131] (by decide +kernel) (by decide +kernel)
set_option maxRecDepth 20000 in
theorem gX4_step_X4_tick : GoodIn wsX4_step (wsV RX4 142 RX4 yX4_tick wsX4_tick) := goodIn_app (goodIn_of _ (by decide +kernel)) ggX4_step_X4_tick
set_option maxRecDepth 20000 in
theorem ggX4_step_X4_with : GoodIn wsX4_step wsX4_with := goodIn_r _ [16, 17, 18, 112, 113, 114, 115, 116, 117, 118, 119, 120, 121, 122, 123, 124, 125, 126, 127, 128, 129, 130, 131] (by decide +kernel) (by decide +kernel)
set_option maxRecDepth 20000 in
theorem gX4_step_X4_with : GoodIn wsX4_step (wsV RX4 55 RX4 yX4_with wsX4_with) := goodIn_app (goodIn_of _ (by decide +kernel)) ggX4_step_X4_with
set_option maxRecDepth 20000 in
theorem ggX4_step_X4_instruction : GoodIn wsX4_step wsX4_instruction := goodIn_r _ [22, 6, 23, 24, 5, 25, 26, 27, 28, 10, 29, 1, 30, 13, 14, 15, 16, 17, 18, 31, 32, 33, 34, 35, 36, 37, 38, 39, 40, 41, 42, 43, 44, 45, 46, 47, 48, 49, 50, 51, 52, 53, 54, 55, 56, 57, 58, 59, 60, 61, 62, 63, 64, 65, 66, 67, 68, 69, 70, 71, 72, 73, 74, 75, 76, 2, 77, 78, 79, 80, 81, 82, 83, 84, 85, 12, 86, 87, 88, 89, 90, 91, 92, 93, 94, 95, 96, 97, 98, 99, 100, 101, 102, 103, 104, 105, 106, 112, 113, 114, 115, 116, 117, 118, 119, 120, 121, 122, 123, 124, 125, 126, 127, 128, 129, 130, 131] (by decide +kernel) (by decide +kernel)
set_option maxRecDepth 20000 in
theorem gX4_step_X4_instruction : GoodIn wsX4_step (wsV RX4 145 RX4 yX4_instruction wsX4_instruction) := goodIn_app (goodIn_of _ (by decide +kernel)) ggX4_step_X4_instruction
set_option maxRecDepth 20000 in
theorem ggX4_step_X4_enter : GoodIn wsX4_step wsX4_enter := goodIn_r _ [110, 1, 6, 111, 17, 18, 112, 113, 114, 115, 116, 117, 118, 119, 120, 121, 122, 123, 124, 125, 126, 127, 128, 129, 130, 131] (by decide +kernel) (by decide +kernel)
set_option maxRecDepth 20000 in
theorem gX4_step_X4_enter : GoodIn wsX4_step (wsV RX4 154 RX4 yX4_enter wsX4_enter) := goodIn_app (goodIn_of _ (by decide +kernel)) ggX4_step_X4_enter
theorem dX4_step_0 : decode cX4_step 0 = .ok (.aload_n 0, 1) := by decide +kernel
theorem dX4_step_1 : decode cX4_step 1 = .ok (.getfield 16, 3) := by decide +kernel
theorem dX4_step_4 : decode cX4_step 4 = .ok (.iconst 2, 1) := by decide +kernel
theorem dX4_step_5 : decode cX4_step 5 = .ok (.iaload, 1) := by decide +kernel
theorem dX4_step_6 : decode cX4_step 6 = .ok (.aload_n 0, 1) := by decide +kernel
theorem dX4_step_7 : decode cX4_step 7 = .ok (.getfield 16, 3) := by decide +kernel
theorem dX4_step_10 : decode cX4_step 10 = .ok (.iconst 3, 1) := by decide +kernel
theorem dX4_step_11 : decode cX4_step 11 = .ok (.iaload, 1) := by decide +kernel
theorem dX4_step_12 : decode cX4_step 12 = .ok (.iand, 1) := by decide +kernel
theorem dX4_step_13 : decode cX4_step 13 = .ok (.bipush 31, 2) := by decide +kernel
theorem dX4_step_15 : decode cX4_step 15 = .ok (.iand, 1) := by decide +kernel
theorem dX4_step_16 : decode cX4_step 16 = .ok (.ifCond .eq 7, 3) := by decide +kernel
theorem dX4_step_19 : decode cX4_step 19 = .ok (.iconst 1, 1) := by decide +kernel
theorem dX4_step_20 : decode cX4_step 20 = .ok (.goto 4, 3) := by decide +kernel
theorem dX4_step_23 : decode cX4_step 23 = .ok (.iconst 0, 1) := by decide +kernel
theorem dX4_step_24 : decode cX4_step 24 = .ok (.istore_n 1, 1) := by decide +kernel
theorem dX4_step_25 : decode cX4_step 25 = .ok (.aload_n 0, 1) := by decide +kernel
theorem dX4_step_26 : decode cX4_step 26 = .ok (.getfield 127, 3) := by decide +kernel
theorem dX4_step_29 : decode cX4_step 29 = .ok (.ifCond .eq 21, 3) := by decide +kernel
theorem dX4_step_32 : decode cX4_step 32 = .ok (.aload_n 0, 1) := by decide +kernel
theorem dX4_step_33 : decode cX4_step 33 = .ok (.iload_n 1, 1) := by decide +kernel
theorem dX4_step_34 : decode cX4_step 34 = .ok (.ifCond .ne 7, 3) := by decide +kernel
theorem dX4_step_37 : decode cX4_step 37 = .ok (.iconst 1, 1) := by decide +kernel
theorem dX4_step_38 : decode cX4_step 38 = .ok (.goto 4, 3) := by decide +kernel
theorem dX4_step_41 : decode cX4_step 41 = .ok (.iconst 0, 1) := by decide +kernel
theorem dX4_step_42 : decode cX4_step 42 = .ok (.putfield 127, 3) := by decide +kernel
theorem dX4_step_45 : decode cX4_step 45 = .ok (.aload_n 0, 1) := by decide +kernel
theorem dX4_step_46 : decode cX4_step 46 = .ok (.invokevirtual 142, 3) := by decide +kernel
theorem dX4_step_49 : decode cX4_step 49 = .ok (.return_, 1) := by decide +kernel
theorem dX4_step_50 : decode cX4_step 50 = .ok (.iload_n 1, 1) := by decide +kernel
theorem dX4_step_51 : decode cX4_step 51 = .ok (.ifCond .eq 24, 3) := by decide +kernel
theorem dX4_step_54 : decode cX4_step 54 = .ok (.aload_n 0, 1) := by decide +kernel
theorem dX4_step_55 : decode cX4_step 55 = .ok (.getfield 16, 3) := by decide +kernel
theorem dX4_step_58 : decode cX4_step 58 = .ok (.iconst 0, 1) := by decide +kernel
theorem dX4_step_59 : decode cX4_step 59 = .ok (.iaload, 1) := by decide +kernel
theorem dX4_step_60 : decode cX4_step 60 = .ok (.iconst 4, 1) := by decide +kernel
theorem dX4_step_61 : decode cX4_step 61 = .ok (.iand, 1) := by decide +kernel
theorem dX4_step_62 : decode cX4_step 62 = .ok (.ifCond .eq 13, 3) := by decide +kernel
theorem dX4_step_65 : decode cX4_step 65 = .ok (.aload_n 0, 1) := by decide +kernel
theorem dX4_step_66 : decode cX4_step 66 = .ok (.iconst 0, 1) := by decide +kernel
theorem dX4_step_67 : decode cX4_step 67 = .ok (.iconst 0, 1) := by decide +kernel
theorem dX4_step_68 : decode cX4_step 68 = .ok (.iconst 0, 1) := by decide +kernel
theorem dX4_step_69 : decode cX4_step 69 = .ok (.invokevirtual 55, 3) := by decide +kernel
theorem dX4_step_72 : decode cX4_step 72 = .ok (.goto 7, 3) := by decide +kernel
theorem dX4_step_75 : decode cX4_step 75 = .ok (.aload_n 0, 1) := by decide +kernel
theorem dX4_step_76 : decode cX4_step 76 = .ok (.invokevirtual 145, 3) := by decide +kernel
theorem dX4_step_79 : decode cX4_step 79 = .ok (.istore_n 2, 1) := by decide +kernel
theorem dX4_step_80 : decode cX4_step 80 = .ok (.aload_n 0, 1) := by decide +kernel
theorem dX4_step_81 : decode cX4_step 81 = .ok (.iload_n 2, 1) := by decide +kernel
theorem dX4_step_82 : decode cX4_step 82 = .ok (.bipush (-2), 2) := by decide +kernel
theorem dX4_step_84 : decode cX4_step 84 = .ok (.if_icmp .ne 7, 3) := by decide +kernel
theorem dX4_step_87 : decode cX4_step 87 = .ok (.iconst 1, 1) := by decide +kernel
theorem dX4_step_88 : decode cX4_step 88 = .ok (.goto 4, 3) := by decide +kernel
theorem dX4_step_91 : decode cX4_step 91 = .ok (.iconst 0, 1) := by decide +kernel
theorem dX4_step_92 : decode cX4_step 92 = .ok (.putfield 148, 3) := by decide +kernel
theorem dX4_step_95 : decode cX4_step 95 = .ok (.aload_n 0, 1) := by decide +kernel
theorem dX4_step_96 : decode cX4_step 96 = .ok (.getfield 148, 3) := by decide +kernel
theorem dX4_step_99 : decode cX4_step 99 = .ok (.ifCond .eq 4, 3) := by decide +kernel
theorem dX4_step_102 : decode cX4_step 102 = .ok (.return_, 1) := by decide +kernel
theorem dX4_step_103 : decode cX4_step 103 = .ok (.aload_n 0, 1) := by decide +kernel
theorem dX4_step_104 : decode cX4_step 104 = .ok (.iload_n 2, 1) := by decide +kernel
theorem dX4_step_105 : decode cX4_step 105 = .ok (.iconst (-1), 1) := by decide +kernel
theorem dX4_step_106 : decode cX4_step 106 = .ok (.if_icmp .eq 7, 3) := by decide +kernel
theorem dX4_step_109 : decode cX4_step 109 = .ok (.iconst 1, 1) := by decide +kernel
theorem dX4_step_110 : decode cX4_step 110 = .ok (.goto 4, 3) := by decide +kernel
theorem dX4_step_113 : decode cX4_step 113 = .ok (.iconst 0, 1) := by decide +kernel
theorem dX4_step_114 : decode cX4_step 114 = .ok (.putfield 151, 3) := by decide +kernel
theorem dX4_step_117 : decode cX4_step 117 = .ok (.aload_n 0, 1) := by decide +kernel
theorem dX4_step_118 : decode cX4_step 118 = .ok (.getfield 151, 3) := by decide +kernel
theorem dX4_step_121 : decode cX4_step 121 = .ok (.ifCond .eq 11, 3) := by decide +kernel
theorem dX4_step_124 : decode cX4_step 124 = .ok (.aload_n 0, 1) := by decide +kernel
theorem dX4_step_125 : decode cX4_step 125 = .ok (.iload_n 2, 1) := by decide +kernel
theorem dX4_step_126 : decode cX4_step 126 = .ok (.invokevirtual 154, 3) := by decide +kernel
theorem dX4_step_129 : decode cX4_step 129 = .ok (.goto 11, 3) := by decide +kernel
theorem dX4_step_132 : decode cX4_step 132 = .ok (.aload_n 0, 1) := by decide +kernel
theorem dX4_step_133 : decode cX4_step 133 = .ok (.aload_n 0, 1) := by decide +kernel
theorem dX4_step_134 : decode cX4_step 134 = .ok (.getfield 100, 3) := by decide +kernel
theorem dX4_step_137 : decode cX4_step 137 = .ok (.putfield 51, 3) := by decide +kernel
theorem dX4_step_140 : decode cX4_step 140 = .ok (.aload_n 0, 1) := by decide +kernel
theorem dX4_step_141 : decode cX4_step 141 = .ok (.invokevirtual 142, 3) := by decide +kernel
theorem dX4_step_144 : decode cX4_step 144 = .ok (.return_, 1) := by decide +kernel
set_option maxRecDepth 20000 in
theorem ggX4_isWord_X4_outside : GoodIn wsX4_isWord wsX4_outside := goodIn_r _ [4] (by decide +kernel) (by decide +kernel)
set_option maxRecDepth 20000 in
theorem gX4_isWord_X4_outside : GoodIn wsX4_isWord (va_wsS RX4 71 yX4_outside wsX4_outside) := goodIn_app (goodIn_of _ (by decide +kernel)) ggX4_isWord_X4_outside
theorem dX4_isWord_0 : decode cX4_isWord 0 = .ok (.iload_n 0, 1) := by decide +kernel
theorem dX4_isWord_1 : decode cX4_isWord 1 = .ok (.iconst 0, 1) := by decide +kernel
theorem dX4_isWord_2 : decode cX4_isWord 2 = .ok (.sipush 2047, 3) := by decide +kernel
theorem dX4_isWord_5 : decode cX4_isWord 5 = .ok (.invokestatic 71, 3) := by decide +kernel
theorem dX4_isWord_8 : decode cX4_isWord 8 = .ok (.ifCond .ne 13, 3) := by decide +kernel
theorem dX4_isWord_11 : decode cX4_isWord 11 = .ok (.iload_n 0, 1) := by decide +kernel
theorem dX4_isWord_12 : decode cX4_isWord 12 = .ok (.iconst 4, 1) := by decide +kernel
theorem dX4_isWord_13 : decode cX4_isWord 13 = .ok (.irem, 1) := by decide +kernel
theorem dX4_isWord_14 : decode cX4_isWord 14 = .ok (.ifCond .ne 7, 3) := by decide +kernel
theorem dX4_isWord_17 : decode cX4_isWord 17 = .ok (.iconst 1, 1) := by decide +kernel
theorem dX4_isWord_18 : decode cX4_isWord 18 = .ok (.goto 4, 3) := by decide +kernel
theorem dX4_isWord_21 : decode cX4_isWord 21 = .ok (.iconst 0, 1) := by decide +kernel
theorem dX4_isWord_22 : decode cX4_isWord 22 = .ok (.ireturn, 1) := by decide +kernel
set_option maxRecDepth 20000 in
theorem ggX4_load_X4_isWord : GoodIn wsX4_load wsX4_isWord := goodIn_r _ [6, 7, 8, 5, 9] (by decide +kernel) (by decide +kernel)
set_option maxRecDepth 20000 in
theorem gX4_load_X4_isWord : GoodIn wsX4_load (va_wsS RX4 157 yX4_isWord wsX4_isWord) := goodIn_app (goodIn_of _ (by decide +kernel)) ggX4_load_X4_isWord
theorem dX4_load_0 : decode cX4_load 0 = .ok (.aload_n 0, 1) := by decide +kernel
theorem dX4_load_1 : decode cX4_load 1 = .ok (.iload_n 1, 1) := by decide +kernel
theorem dX4_load_2 : decode cX4_load 2 = .ok (.invokestatic 157, 3) := by decide +kernel
theorem dX4_load_5 : decode cX4_load 5 = .ok (.ifCond .eq 7, 3) := by decide +kernel
theorem dX4_load_8 : decode cX4_load 8 = .ok (.iconst 0, 1) := by decide +kernel
theorem dX4_load_9 : decode cX4_load 9 = .ok (.goto 4, 3) := by decide +kernel
theorem dX4_load_12 : decode cX4_load 12 = .ok (.iconst 1, 1) := by decide +kernel
theorem dX4_load_13 : decode cX4_load 13 = .ok (.putfield 41, 3) := by decide +kernel
theorem dX4_load_16 : decode cX4_load 16 = .ok (.aload_n 0, 1) := by decide +kernel
theorem dX4_load_17 : decode cX4_load 17 = .ok (.getfield 41, 3) := by decide +kernel
theorem dX4_load_20 : decode cX4_load 20 = .ok (.ifCond .ne 12, 3) := by decide +kernel
theorem dX4_load_23 : decode cX4_load 23 = .ok (.aload_n 0, 1) := by decide +kernel
theorem dX4_load_24 : decode cX4_load 24 = .ok (.getfield 7, 3) := by decide +kernel
theorem dX4_load_27 : decode cX4_load 27 = .ok (.iload_n 1, 1) := by decide +kernel
theorem dX4_load_28 : decode cX4_load 28 = .ok (.iconst 4, 1) := by decide +kernel
theorem dX4_load_29 : decode cX4_load 29 = .ok (.idiv, 1) := by decide +kernel
theorem dX4_load_30 : decode cX4_load 30 = .ok (.iload_n 2, 1) := by decide +kernel
theorem dX4_load_31 : decode cX4_load 31 = .ok (.iastore, 1) := by decide +kernel
theorem dX4_load_32 : decode cX4_load 32 = .ok (.return_, 1) := by decide +kernel
set_option maxRecDepth 20000 in
theorem ggX4_word_X4_isWord : GoodIn wsX4_word wsX4_isWord := goodIn_r _ [6, 7, 8, 5, 9] (by decide +kernel) (by decide +kernel)
set_option maxRecDepth 20000 in
theorem gX4_word_X4_isWord : GoodIn wsX4_word (va_wsS RX4 157 yX4_isWord wsX4_isWord) := goodIn_app (goodIn_of _ (by decide +kernel)) ggX4_word_X4_isWord
set_option maxRecDepth 20000 in
theorem ggX4_word_X4_refuse : GoodIn wsX4_word wsX4_refuse := goodIn_r _ [13, 1, 14, 15, 16, 17, 18, 19, 20, 21, 22, 23, 24, 25, 26, 27, 28, 29, 30, 31, 32, 33] (by decide +kernel) (by decide +kernel)
set_option maxRecDepth 20000 in
theorem gX4_word_X4_refuse : GoodIn wsX4_word (wsV RX4 161 RX4 yX4_refuse wsX4_refuse) := goodIn_app (goodIn_of _ (by decide +kernel)) ggX4_word_X4_refuse
theorem dX4_word_0 : decode cX4_word 0 = .ok (.iload_n 1, 1) := by decide +kernel
theorem dX4_word_1 : decode cX4_word 1 = .ok (.invokestatic 157, 3) := by decide +kernel
theorem dX4_word_4 : decode cX4_word 4 = .ok (.ifCond .ne 9, 3) := by decide +kernel
theorem dX4_word_7 : decode cX4_word 7 = .ok (.aload_n 0, 1) := by decide +kernel
theorem dX4_word_8 : decode cX4_word 8 = .ok (.iconst 1, 1) := by decide +kernel
theorem dX4_word_9 : decode cX4_word 9 = .ok (.invokevirtual 161, 3) := by decide +kernel
theorem dX4_word_12 : decode cX4_word 12 = .ok (.ireturn, 1) := by decide +kernel
theorem dX4_word_13 : decode cX4_word 13 = .ok (.aload_n 0, 1) := by decide +kernel
theorem dX4_word_14 : decode cX4_word 14 = .ok (.iconst 0, 1) := by decide +kernel
theorem dX4_word_15 : decode cX4_word 15 = .ok (.putfield 41, 3) := by decide +kernel
theorem dX4_word_18 : decode cX4_word 18 = .ok (.aload_n 0, 1) := by decide +kernel
theorem dX4_word_19 : decode cX4_word 19 = .ok (.getfield 7, 3) := by decide +kernel

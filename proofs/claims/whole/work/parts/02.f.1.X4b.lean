theorem dX4_controls_85 : decode cX4_controls 85 = .ok (.ireturn, 1) := by decide +kernel
set_option maxRecDepth 20000 in
theorem ggX4_govern_X4_user : GoodIn wsX4_govern wsX4_user := goodIn_r _ [11, 2, 65, 66, 67, 68, 69, 70, 71, 72, 73, 74, 75, 76, 77, 78, 79, 80, 81, 82, 83, 84] (by decide +kernel) (by decide +kernel)
set_option maxRecDepth 20000 in
theorem gX4_govern_X4_user : GoodIn wsX4_govern (wsV RX4 59 RX4 yX4_user wsX4_user) := goodIn_app (goodIn_of _ (by decide +kernel)) ggX4_govern_X4_user
set_option maxRecDepth 20000 in
theorem ggX4_govern_X4_with : GoodIn wsX4_govern wsX4_with := goodIn_r _ [15, 16, 17, 65, 66, 67, 68, 69, 70, 71, 72, 73, 74, 75, 76, 77, 78, 79, 80, 81, 82, 83, 84] (by decide +kernel) (by decide +kernel)
set_option maxRecDepth 20000 in
theorem gX4_govern_X4_with : GoodIn wsX4_govern (wsV RX4 55 RX4 yX4_with wsX4_with) := goodIn_app (goodIn_of _ (by decide +kernel)) ggX4_govern_X4_with
set_option maxRecDepth 20000 in
theorem ggX4_govern_X4_controls : GoodIn wsX4_govern wsX4_controls := goodIn_r _ [21, 2, 1, 12, 13, 14, 10, 15, 16, 17, 22, 23, 24, 25, 26, 27, 28, 29, 30, 31, 65, 66, 67, 68, 69, 70, 71, 72, 73, 74, 75, 76, 77, 78, 79, 80, 81, 82, 83, 84] (by decide +kernel) (by decide +kernel)
set_option maxRecDepth 20000 in
theorem gX4_govern_X4_controls : GoodIn wsX4_govern (wsV RX4 107 RX4 yX4_controls wsX4_controls) := goodIn_app (goodIn_of _ (by decide +kernel)) ggX4_govern_X4_controls
set_option maxRecDepth 20000 in
theorem ggX4_govern_X4_empty : GoodIn wsX4_govern wsX4_empty := goodIn_r _ [35, 36, 37, 38, 39, 12, 13, 14, 10, 15, 16, 17, 40, 41, 42, 65, 66, 67, 68, 69, 70, 71, 72, 73, 74, 75, 76, 77, 78, 79, 80, 81, 82, 83, 84] (by decide +kernel) (by decide +kernel)
set_option maxRecDepth 20000 in
theorem gX4_govern_X4_empty : GoodIn wsX4_govern (wsV RX4 111 RX4 yX4_empty wsX4_empty) := goodIn_app (goodIn_of _ (by decide +kernel)) ggX4_govern_X4_empty
set_option maxRecDepth 20000 in
theorem ggX4_govern_X4_search : GoodIn wsX4_govern wsX4_search := goodIn_r _ [46, 2, 47, 40, 41, 10, 42, 48, 49, 50, 51, 39, 38, 36, 37, 65, 66, 67, 68, 69, 70, 71, 72, 73, 74, 75, 76, 77, 78, 79, 80, 81, 82, 83, 84] (by decide +kernel) (by decide +kernel)
set_option maxRecDepth 20000 in
theorem gX4_govern_X4_search : GoodIn wsX4_govern (wsV RX4 114 RX4 yX4_search wsX4_search) := goodIn_app (goodIn_of _ (by decide +kernel)) ggX4_govern_X4_search
set_option maxRecDepth 20000 in
theorem ggX4_govern_X4_read : GoodIn wsX4_govern wsX4_read := goodIn_r _ [55, 36, 2, 39, 47, 38, 56, 37, 65, 66, 67, 68, 69, 70, 71, 72, 73, 74, 75, 76, 77, 78, 79, 80, 81, 82, 83, 84] (by decide +kernel) (by decide +kernel)
set_option maxRecDepth 20000 in
theorem gX4_govern_X4_read : GoodIn wsX4_govern (wsV RX4 117 RX4 yX4_read wsX4_read) := goodIn_app (goodIn_of _ (by decide +kernel)) ggX4_govern_X4_read
set_option maxRecDepth 20000 in
theorem ggX4_govern_X4_fill : GoodIn wsX4_govern wsX4_fill := goodIn_r _ [60, 38, 2, 37, 36, 56, 39, 40, 41, 10, 42, 61, 62, 63, 64, 65, 66, 67, 68, 69, 70, 71, 72, 73, 74, 75, 76, 77, 78, 79, 80, 81, 82, 83, 84] (by decide +kernel) (by decide +kernel)
set_option maxRecDepth 20000 in
theorem gX4_govern_X4_fill : GoodIn wsX4_govern (wsV RX4 121 RX4 yX4_fill wsX4_fill) := goodIn_app (goodIn_of _ (by decide +kernel)) ggX4_govern_X4_fill
set_option maxRecDepth 20000 in
theorem ggX4_govern_X4_codeOf : GoodIn wsX4_govern wsX4_codeOf := goodIn_r _ [64, 2, 65, 66, 67, 68, 69, 70, 71, 72, 73, 74, 75, 76, 77, 78, 79, 80, 81, 82, 83, 84] (by decide +kernel) (by decide +kernel)
set_option maxRecDepth 20000 in
theorem gX4_govern_X4_codeOf : GoodIn wsX4_govern (wsV RX4 84 RX4 yX4_codeOf wsX4_codeOf) := goodIn_app (goodIn_of _ (by decide +kernel)) ggX4_govern_X4_codeOf
theorem dX4_govern_0 : decode cX4_govern 0 = .ok (.aload_n 0, 1) := by decide +kernel
theorem dX4_govern_1 : decode cX4_govern 1 = .ok (.invokevirtual 59, 3) := by decide +kernel
theorem dX4_govern_4 : decode cX4_govern 4 = .ok (.ifCond .eq 12, 3) := by decide +kernel
theorem dX4_govern_7 : decode cX4_govern 7 = .ok (.aload_n 0, 1) := by decide +kernel
theorem dX4_govern_8 : decode cX4_govern 8 = .ok (.bipush 14, 2) := by decide +kernel
theorem dX4_govern_10 : decode cX4_govern 10 = .ok (.iconst 0, 1) := by decide +kernel
theorem dX4_govern_11 : decode cX4_govern 11 = .ok (.iconst 0, 1) := by decide +kernel
theorem dX4_govern_12 : decode cX4_govern 12 = .ok (.invokevirtual 55, 3) := by decide +kernel
theorem dX4_govern_15 : decode cX4_govern 15 = .ok (.ireturn, 1) := by decide +kernel
theorem dX4_govern_16 : decode cX4_govern 16 = .ok (.iload_n 1, 1) := by decide +kernel
theorem dX4_govern_17 : decode cX4_govern 17 = .ok (.bipush 21, 2) := by decide +kernel
theorem dX4_govern_19 : decode cX4_govern 19 = .ok (.if_icmp .ge 13, 3) := by decide +kernel
theorem dX4_govern_22 : decode cX4_govern 22 = .ok (.aload_n 0, 1) := by decide +kernel
theorem dX4_govern_23 : decode cX4_govern 23 = .ok (.iload_n 1, 1) := by decide +kernel
theorem dX4_govern_24 : decode cX4_govern 24 = .ok (.iload_n 2, 1) := by decide +kernel
theorem dX4_govern_25 : decode cX4_govern 25 = .ok (.iload_n 3, 1) := by decide +kernel
theorem dX4_govern_26 : decode cX4_govern 26 = .ok (.iload 4, 2) := by decide +kernel
theorem dX4_govern_28 : decode cX4_govern 28 = .ok (.invokevirtual 107, 3) := by decide +kernel
theorem dX4_govern_31 : decode cX4_govern 31 = .ok (.ireturn, 1) := by decide +kernel
theorem dX4_govern_32 : decode cX4_govern 32 = .ok (.iload_n 1, 1) := by decide +kernel
theorem dX4_govern_33 : decode cX4_govern 33 = .ok (.bipush 25, 2) := by decide +kernel
theorem dX4_govern_35 : decode cX4_govern 35 = .ok (.if_icmp .ne 28, 3) := by decide +kernel
theorem dX4_govern_38 : decode cX4_govern 38 = .ok (.aload_n 0, 1) := by decide +kernel
theorem dX4_govern_39 : decode cX4_govern 39 = .ok (.iload 4, 2) := by decide +kernel
theorem dX4_govern_41 : decode cX4_govern 41 = .ok (.aload_n 0, 1) := by decide +kernel
theorem dX4_govern_42 : decode cX4_govern 42 = .ok (.getfield 13, 3) := by decide +kernel
theorem dX4_govern_45 : decode cX4_govern 45 = .ok (.iload_n 2, 1) := by decide +kernel
theorem dX4_govern_46 : decode cX4_govern 46 = .ok (.bipush 8, 2) := by decide +kernel
theorem dX4_govern_48 : decode cX4_govern 48 = .ok (.irem, 1) := by decide +kernel
theorem dX4_govern_49 : decode cX4_govern 49 = .ok (.iaload, 1) := by decide +kernel
theorem dX4_govern_50 : decode cX4_govern 50 = .ok (.aload_n 0, 1) := by decide +kernel
theorem dX4_govern_51 : decode cX4_govern 51 = .ok (.getfield 13, 3) := by decide +kernel
theorem dX4_govern_54 : decode cX4_govern 54 = .ok (.iload_n 3, 1) := by decide +kernel
theorem dX4_govern_55 : decode cX4_govern 55 = .ok (.bipush 8, 2) := by decide +kernel
theorem dX4_govern_57 : decode cX4_govern 57 = .ok (.irem, 1) := by decide +kernel
theorem dX4_govern_58 : decode cX4_govern 58 = .ok (.iaload, 1) := by decide +kernel
theorem dX4_govern_59 : decode cX4_govern 59 = .ok (.invokevirtual 111, 3) := by decide +kernel
theorem dX4_govern_62 : decode cX4_govern 62 = .ok (.ireturn, 1) := by decide +kernel
theorem dX4_govern_63 : decode cX4_govern 63 = .ok (.iload_n 1, 1) := by decide +kernel
theorem dX4_govern_64 : decode cX4_govern 64 = .ok (.bipush 21, 2) := by decide +kernel
theorem dX4_govern_66 : decode cX4_govern 66 = .ok (.if_icmp .ne 7, 3) := by decide +kernel
theorem dX4_govern_69 : decode cX4_govern 69 = .ok (.aload_n 0, 1) := by decide +kernel
theorem dX4_govern_70 : decode cX4_govern 70 = .ok (.invokevirtual 114, 3) := by decide +kernel
theorem dX4_govern_73 : decode cX4_govern 73 = .ok (.iload_n 1, 1) := by decide +kernel
theorem dX4_govern_74 : decode cX4_govern 74 = .ok (.bipush 22, 2) := by decide +kernel
theorem dX4_govern_76 : decode cX4_govern 76 = .ok (.if_icmp .ne 16, 3) := by decide +kernel
theorem dX4_govern_79 : decode cX4_govern 79 = .ok (.aload_n 0, 1) := by decide +kernel
theorem dX4_govern_80 : decode cX4_govern 80 = .ok (.aload_n 0, 1) := by decide +kernel
theorem dX4_govern_81 : decode cX4_govern 81 = .ok (.getfield 16, 3) := by decide +kernel
theorem dX4_govern_84 : decode cX4_govern 84 = .ok (.bipush 7, 2) := by decide +kernel
theorem dX4_govern_86 : decode cX4_govern 86 = .ok (.iaload, 1) := by decide +kernel
theorem dX4_govern_87 : decode cX4_govern 87 = .ok (.iconst 3, 1) := by decide +kernel
theorem dX4_govern_88 : decode cX4_govern 88 = .ok (.iand, 1) := by decide +kernel
theorem dX4_govern_89 : decode cX4_govern 89 = .ok (.invokevirtual 117, 3) := by decide +kernel
theorem dX4_govern_92 : decode cX4_govern 92 = .ok (.iload_n 1, 1) := by decide +kernel
theorem dX4_govern_93 : decode cX4_govern 93 = .ok (.bipush 23, 2) := by decide +kernel
theorem dX4_govern_95 : decode cX4_govern 95 = .ok (.if_icmp .ne 16, 3) := by decide +kernel
theorem dX4_govern_98 : decode cX4_govern 98 = .ok (.aload_n 0, 1) := by decide +kernel
theorem dX4_govern_99 : decode cX4_govern 99 = .ok (.aload_n 0, 1) := by decide +kernel
theorem dX4_govern_100 : decode cX4_govern 100 = .ok (.getfield 16, 3) := by decide +kernel
theorem dX4_govern_103 : decode cX4_govern 103 = .ok (.bipush 7, 2) := by decide +kernel
theorem dX4_govern_105 : decode cX4_govern 105 = .ok (.iaload, 1) := by decide +kernel
theorem dX4_govern_106 : decode cX4_govern 106 = .ok (.iconst 3, 1) := by decide +kernel
theorem dX4_govern_107 : decode cX4_govern 107 = .ok (.iand, 1) := by decide +kernel
theorem dX4_govern_108 : decode cX4_govern 108 = .ok (.invokevirtual 121, 3) := by decide +kernel
theorem dX4_govern_111 : decode cX4_govern 111 = .ok (.iload_n 1, 1) := by decide +kernel
theorem dX4_govern_112 : decode cX4_govern 112 = .ok (.bipush 24, 2) := by decide +kernel
theorem dX4_govern_114 : decode cX4_govern 114 = .ok (.if_icmp .ne 23, 3) := by decide +kernel
theorem dX4_govern_117 : decode cX4_govern 117 = .ok (.aload_n 0, 1) := by decide +kernel
theorem dX4_govern_118 : decode cX4_govern 118 = .ok (.aload_n 0, 1) := by decide +kernel
theorem dX4_govern_119 : decode cX4_govern 119 = .ok (.getfield 124, 3) := by decide +kernel
theorem dX4_govern_122 : decode cX4_govern 122 = .ok (.invokevirtual 121, 3) := by decide +kernel
theorem dX4_govern_125 : decode cX4_govern 125 = .ok (.aload_n 0, 1) := by decide +kernel
theorem dX4_govern_126 : decode cX4_govern 126 = .ok (.aload_n 0, 1) := by decide +kernel
theorem dX4_govern_127 : decode cX4_govern 127 = .ok (.getfield 124, 3) := by decide +kernel
theorem dX4_govern_130 : decode cX4_govern 130 = .ok (.iconst 1, 1) := by decide +kernel
theorem dX4_govern_131 : decode cX4_govern 131 = .ok (.iadd, 1) := by decide +kernel
theorem dX4_govern_132 : decode cX4_govern 132 = .ok (.iconst 4, 1) := by decide +kernel
theorem dX4_govern_133 : decode cX4_govern 133 = .ok (.irem, 1) := by decide +kernel
theorem dX4_govern_134 : decode cX4_govern 134 = .ok (.putfield 124, 3) := by decide +kernel
theorem dX4_govern_137 : decode cX4_govern 137 = .ok (.iload_n 1, 1) := by decide +kernel
theorem dX4_govern_138 : decode cX4_govern 138 = .ok (.bipush 26, 2) := by decide +kernel
theorem dX4_govern_140 : decode cX4_govern 140 = .ok (.if_icmp .ne 67, 3) := by decide +kernel
theorem dX4_govern_143 : decode cX4_govern 143 = .ok (.aload_n 0, 1) := by decide +kernel
theorem dX4_govern_144 : decode cX4_govern 144 = .ok (.aload_n 0, 1) := by decide +kernel
theorem dX4_govern_145 : decode cX4_govern 145 = .ok (.getfield 16, 3) := by decide +kernel
theorem dX4_govern_148 : decode cX4_govern 148 = .ok (.iconst 4, 1) := by decide +kernel
theorem dX4_govern_149 : decode cX4_govern 149 = .ok (.iaload, 1) := by decide +kernel
theorem dX4_govern_150 : decode cX4_govern 150 = .ok (.putfield 100, 3) := by decide +kernel
theorem dX4_govern_153 : decode cX4_govern 153 = .ok (.aload_n 0, 1) := by decide +kernel
theorem dX4_govern_154 : decode cX4_govern 154 = .ok (.getfield 16, 3) := by decide +kernel
theorem dX4_govern_157 : decode cX4_govern 157 = .ok (.iconst 0, 1) := by decide +kernel
theorem dX4_govern_158 : decode cX4_govern 158 = .ok (.aload_n 0, 1) := by decide +kernel
theorem dX4_govern_159 : decode cX4_govern 159 = .ok (.getfield 16, 3) := by decide +kernel
theorem dX4_govern_162 : decode cX4_govern 162 = .ok (.iconst 0, 1) := by decide +kernel
theorem dX4_govern_163 : decode cX4_govern 163 = .ok (.iaload, 1) := by decide +kernel
theorem dX4_govern_164 : decode cX4_govern 164 = .ok (.bipush 8, 2) := by decide +kernel
theorem dX4_govern_166 : decode cX4_govern 166 = .ok (.iand, 1) := by decide +kernel
theorem dX4_govern_167 : decode cX4_govern 167 = .ok (.aload_n 0, 1) := by decide +kernel
theorem dX4_govern_168 : decode cX4_govern 168 = .ok (.getfield 16, 3) := by decide +kernel
theorem dX4_govern_171 : decode cX4_govern 171 = .ok (.iconst 1, 1) := by decide +kernel
theorem dX4_govern_172 : decode cX4_govern 172 = .ok (.iaload, 1) := by decide +kernel
theorem dX4_govern_173 : decode cX4_govern 173 = .ok (.bipush 7, 2) := by decide +kernel
theorem dX4_govern_175 : decode cX4_govern 175 = .ok (.iand, 1) := by decide +kernel
theorem dX4_govern_176 : decode cX4_govern 176 = .ok (.ior, 1) := by decide +kernel
theorem dX4_govern_177 : decode cX4_govern 177 = .ok (.iastore, 1) := by decide +kernel
theorem dX4_govern_178 : decode cX4_govern 178 = .ok (.aload_n 0, 1) := by decide +kernel
theorem dX4_govern_179 : decode cX4_govern 179 = .ok (.iconst 0, 1) := by decide +kernel
theorem dX4_govern_180 : decode cX4_govern 180 = .ok (.putfield 89, 3) := by decide +kernel
theorem dX4_govern_183 : decode cX4_govern 183 = .ok (.aload_n 0, 1) := by decide +kernel
theorem dX4_govern_184 : decode cX4_govern 184 = .ok (.invokevirtual 84, 3) := by decide +kernel
theorem dX4_govern_187 : decode cX4_govern 187 = .ok (.bipush 63, 2) := by decide +kernel
theorem dX4_govern_189 : decode cX4_govern 189 = .ok (.if_icmp .ne 18, 3) := by decide +kernel
theorem dX4_govern_192 : decode cX4_govern 192 = .ok (.aload_n 0, 1) := by decide +kernel
theorem dX4_govern_193 : decode cX4_govern 193 = .ok (.getfield 16, 3) := by decide +kernel
theorem dX4_govern_196 : decode cX4_govern 196 = .ok (.iconst 0, 1) := by decide +kernel
theorem dX4_govern_197 : decode cX4_govern 197 = .ok (.aload_n 0, 1) := by decide +kernel
theorem dX4_govern_198 : decode cX4_govern 198 = .ok (.getfield 16, 3) := by decide +kernel
theorem dX4_govern_201 : decode cX4_govern 201 = .ok (.iconst 0, 1) := by decide +kernel
theorem dX4_govern_202 : decode cX4_govern 202 = .ok (.iaload, 1) := by decide +kernel
theorem dX4_govern_203 : decode cX4_govern 203 = .ok (.bipush 7, 2) := by decide +kernel
theorem dX4_govern_205 : decode cX4_govern 205 = .ok (.iand, 1) := by decide +kernel
theorem dX4_govern_206 : decode cX4_govern 206 = .ok (.iastore, 1) := by decide +kernel
theorem dX4_govern_207 : decode cX4_govern 207 = .ok (.aload_n 0, 1) := by decide +kernel
theorem dX4_govern_208 : decode cX4_govern 208 = .ok (.iload_n 1, 1) := by decide +kernel
theorem dX4_govern_209 : decode cX4_govern 209 = .ok (.bipush 27, 2) := by decide +kernel
theorem dX4_govern_211 : decode cX4_govern 211 = .ok (.if_icmp .ne 7, 3) := by decide +kernel
theorem dX4_govern_214 : decode cX4_govern 214 = .ok (.iconst 1, 1) := by decide +kernel
theorem dX4_govern_215 : decode cX4_govern 215 = .ok (.goto 4, 3) := by decide +kernel
theorem dX4_govern_218 : decode cX4_govern 218 = .ok (.iconst 0, 1) := by decide +kernel
theorem dX4_govern_219 : decode cX4_govern 219 = .ok (.putfield 127, 3) := by decide +kernel
theorem dX4_govern_222 : decode cX4_govern 222 = .ok (.iconst (-1), 1) := by decide +kernel
theorem dX4_govern_223 : decode cX4_govern 223 = .ok (.ireturn, 1) := by decide +kernel
set_option maxRecDepth 20000 in
theorem ggX4_instruction_X4_lookUp : GoodIn wsX4_instruction wsX4_lookUp := goodIn_r _ [10, 11, 12, 3, 13, 14, 15, 9, 16, 17, 18, 19, 20, 21, 22, 23, 24, 25, 26, 27, 28, 29, 30, 31, 32, 33, 34, 35, 36, 37, 38, 39, 40, 41, 97, 98, 99, 100, 101, 102, 103, 104, 105, 106, 107, 108, 109, 110, 111, 112, 113, 114, 115, 116] (by decide +kernel) (by decide +kernel)
set_option maxRecDepth 20000 in
theorem gX4_instruction_X4_lookUp : GoodIn wsX4_instruction (wsV RX4 97 RX4 yX4_lookUp wsX4_lookUp) := goodIn_app (goodIn_of _ (by decide +kernel)) ggX4_instruction_X4_lookUp
set_option maxRecDepth 20000 in
theorem ggX4_instruction_X4_with : GoodIn wsX4_instruction wsX4_with := goodIn_r _ [16, 17, 18, 97, 98, 99, 100, 101, 102, 103, 104, 105, 106, 107, 108, 109, 110, 111, 112, 113, 114, 115, 116] (by decide +kernel) (by decide +kernel)
set_option maxRecDepth 20000 in
theorem gX4_instruction_X4_with : GoodIn wsX4_instruction (wsV RX4 55 RX4 yX4_with wsX4_with) := goodIn_app (goodIn_of _ (by decide +kernel)) ggX4_instruction_X4_with
set_option maxRecDepth 20000 in
theorem ggX4_instruction_X4_reckon : GoodIn wsX4_instruction wsX4_reckon := goodIn_r _ [45, 5, 46, 97, 98, 99, 100, 101, 102, 103, 104, 105, 106, 107, 108, 109, 110, 111, 112, 113, 114, 115, 116] (by decide +kernel) (by decide +kernel)
set_option maxRecDepth 20000 in
theorem gX4_instruction_X4_reckon : GoodIn wsX4_instruction (wsV RX4 130 RX4 yX4_reckon wsX4_reckon) := goodIn_app (goodIn_of _ (by decide +kernel)) ggX4_instruction_X4_reckon
set_option maxRecDepth 20000 in
theorem ggX4_instruction_X4_put : GoodIn wsX4_instruction wsX4_put := goodIn_r _ [50, 5, 97, 98, 99, 100, 101, 102, 103, 104, 105, 106, 107, 108, 109, 110, 111, 112, 113, 114, 115, 116] (by decide +kernel) (by decide +kernel)
set_option maxRecDepth 20000 in
theorem gX4_instruction_X4_put : GoodIn wsX4_instruction (wsV RX4 93 RX4 yX4_put wsX4_put) := goodIn_app (goodIn_of _ (by decide +kernel)) ggX4_instruction_X4_put
set_option maxRecDepth 20000 in
theorem ggX4_instruction_X4_reach : GoodIn wsX4_instruction wsX4_reach := goodIn_r _ [54, 55, 2, 3, 5, 47, 48, 49, 9, 50, 6, 7, 8, 10, 11, 12, 13, 14, 15, 16, 17, 18, 19, 20, 21, 22, 23, 24, 25, 26, 27, 28, 29, 30, 31, 32, 33, 34, 35, 36, 37, 38, 39, 40, 41, 97, 98, 99, 100, 101, 102, 103, 104, 105, 106, 107, 108, 109, 110, 111, 112, 113, 114, 115, 116] (by decide +kernel) (by decide +kernel)
set_option maxRecDepth 20000 in
theorem gX4_instruction_X4_reach : GoodIn wsX4_instruction (wsV RX4 133 RX4 yX4_reach wsX4_reach) := goodIn_app (goodIn_of _ (by decide +kernel)) ggX4_instruction_X4_reach
set_option maxRecDepth 20000 in
theorem ggX4_instruction_X4_go : GoodIn wsX4_instruction wsX4_go := goodIn_r _ [59, 5, 1, 4, 13, 14, 15, 9, 16, 17, 18, 47, 48, 49, 50, 97, 98, 99, 100, 101, 102, 103, 104, 105, 106, 107, 108, 109, 110, 111, 112, 113, 114, 115, 116] (by decide +kernel) (by decide +kernel)
set_option maxRecDepth 20000 in
theorem gX4_instruction_X4_go : GoodIn wsX4_instruction (wsV RX4 136 RX4 yX4_go wsX4_go) := goodIn_app (goodIn_of _ (by decide +kernel)) ggX4_instruction_X4_go
set_option maxRecDepth 20000 in
theorem ggX4_instruction_X4_govern : GoodIn wsX4_instruction wsX4_govern := goodIn_r _ [63, 5, 11, 64, 4, 55, 65, 19, 20, 21, 9, 22, 13, 14, 15, 16, 17, 18, 66, 67, 68, 69, 70, 71, 72, 73, 74, 75, 47, 48, 49, 50, 76, 77, 78, 79, 37, 38, 36, 35, 28, 29, 30, 80, 81, 82, 83, 84, 31, 32, 33, 34, 85, 86, 87, 88, 27, 89, 90, 91, 92, 93, 94, 95, 96, 97, 98, 99, 100, 101, 102, 103, 104, 105, 106, 107, 108, 109, 110, 111, 112, 113, 114, 115, 116] (by decide +kernel) (by decide +kernel)
set_option maxRecDepth 20000 in
theorem gX4_instruction_X4_govern : GoodIn wsX4_instruction (wsV RX4 139 RX4 yX4_govern wsX4_govern) := goodIn_app (goodIn_of _ (by decide +kernel)) ggX4_instruction_X4_govern
theorem dX4_instruction_0 : decode cX4_instruction 0 = .ok (.aload_n 0, 1) := by decide +kernel
theorem dX4_instruction_1 : decode cX4_instruction 1 = .ok (.aload_n 0, 1) := by decide +kernel
theorem dX4_instruction_2 : decode cX4_instruction 2 = .ok (.getfield 51, 3) := by decide +kernel
theorem dX4_instruction_5 : decode cX4_instruction 5 = .ok (.iconst 0, 1) := by decide +kernel
theorem dX4_instruction_6 : decode cX4_instruction 6 = .ok (.invokevirtual 97, 3) := by decide +kernel
theorem dX4_instruction_9 : decode cX4_instruction 9 = .ok (.istore_n 1, 1) := by decide +kernel
theorem dX4_instruction_10 : decode cX4_instruction 10 = .ok (.iload_n 1, 1) := by decide +kernel
theorem dX4_instruction_11 : decode cX4_instruction 11 = .ok (.iconst (-1), 1) := by decide +kernel
theorem dX4_instruction_12 : decode cX4_instruction 12 = .ok (.if_icmp .eq 5, 3) := by decide +kernel
theorem dX4_instruction_15 : decode cX4_instruction 15 = .ok (.iload_n 1, 1) := by decide +kernel
theorem dX4_instruction_16 : decode cX4_instruction 16 = .ok (.ireturn, 1) := by decide +kernel
theorem dX4_instruction_17 : decode cX4_instruction 17 = .ok (.aload_n 0, 1) := by decide +kernel
theorem dX4_instruction_18 : decode cX4_instruction 18 = .ok (.getfield 7, 3) := by decide +kernel
theorem dX4_instruction_21 : decode cX4_instruction 21 = .ok (.aload_n 0, 1) := by decide +kernel
theorem dX4_instruction_22 : decode cX4_instruction 22 = .ok (.getfield 68, 3) := by decide +kernel
theorem dX4_instruction_25 : decode cX4_instruction 25 = .ok (.iaload, 1) := by decide +kernel
theorem dX4_instruction_26 : decode cX4_instruction 26 = .ok (.istore_n 2, 1) := by decide +kernel
theorem dX4_instruction_27 : decode cX4_instruction 27 = .ok (.iload_n 2, 1) := by decide +kernel
theorem dX4_instruction_28 : decode cX4_instruction 28 = .ok (.bipush 24, 2) := by decide +kernel
theorem dX4_instruction_30 : decode cX4_instruction 30 = .ok (.iushr, 1) := by decide +kernel
theorem dX4_instruction_31 : decode cX4_instruction 31 = .ok (.istore_n 3, 1) := by decide +kernel
theorem dX4_instruction_32 : decode cX4_instruction 32 = .ok (.iload_n 2, 1) := by decide +kernel
theorem dX4_instruction_33 : decode cX4_instruction 33 = .ok (.bipush 16, 2) := by decide +kernel
theorem dX4_instruction_35 : decode cX4_instruction 35 = .ok (.ishr, 1) := by decide +kernel
theorem dX4_instruction_36 : decode cX4_instruction 36 = .ok (.sipush 255, 3) := by decide +kernel
theorem dX4_instruction_39 : decode cX4_instruction 39 = .ok (.iand, 1) := by decide +kernel
theorem dX4_instruction_40 : decode cX4_instruction 40 = .ok (.istore 4, 2) := by decide +kernel
theorem dX4_instruction_42 : decode cX4_instruction 42 = .ok (.iload_n 2, 1) := by decide +kernel
theorem dX4_instruction_43 : decode cX4_instruction 43 = .ok (.bipush 8, 2) := by decide +kernel
theorem dX4_instruction_45 : decode cX4_instruction 45 = .ok (.ishr, 1) := by decide +kernel
theorem dX4_instruction_46 : decode cX4_instruction 46 = .ok (.sipush 255, 3) := by decide +kernel
theorem dX4_instruction_49 : decode cX4_instruction 49 = .ok (.iand, 1) := by decide +kernel
theorem dX4_instruction_50 : decode cX4_instruction 50 = .ok (.istore 5, 2) := by decide +kernel
theorem dX4_instruction_52 : decode cX4_instruction 52 = .ok (.iload_n 2, 1) := by decide +kernel
theorem dX4_instruction_53 : decode cX4_instruction 53 = .ok (.sipush 255, 3) := by decide +kernel
theorem dX4_instruction_56 : decode cX4_instruction 56 = .ok (.iand, 1) := by decide +kernel
theorem dX4_instruction_57 : decode cX4_instruction 57 = .ok (.istore 6, 2) := by decide +kernel
theorem dX4_instruction_59 : decode cX4_instruction 59 = .ok (.iload 6, 2) := by decide +kernel
theorem dX4_instruction_61 : decode cX4_instruction 61 = .ok (.sipush 128, 3) := by decide +kernel
theorem dX4_instruction_64 : decode cX4_instruction 64 = .ok (.if_icmp .ge 8, 3) := by decide +kernel
theorem dX4_instruction_67 : decode cX4_instruction 67 = .ok (.iload 6, 2) := by decide +kernel
theorem dX4_instruction_69 : decode cX4_instruction 69 = .ok (.goto 9, 3) := by decide +kernel
theorem dX4_instruction_72 : decode cX4_instruction 72 = .ok (.iload 6, 2) := by decide +kernel
theorem dX4_instruction_74 : decode cX4_instruction 74 = .ok (.sipush 256, 3) := by decide +kernel
theorem dX4_instruction_77 : decode cX4_instruction 77 = .ok (.isub, 1) := by decide +kernel
theorem dX4_instruction_78 : decode cX4_instruction 78 = .ok (.istore 7, 2) := by decide +kernel
theorem dX4_instruction_80 : decode cX4_instruction 80 = .ok (.aload_n 0, 1) := by decide +kernel
theorem dX4_instruction_81 : decode cX4_instruction 81 = .ok (.aload_n 0, 1) := by decide +kernel
theorem dX4_instruction_82 : decode cX4_instruction 82 = .ok (.getfield 51, 3) := by decide +kernel
theorem dX4_instruction_85 : decode cX4_instruction 85 = .ok (.iconst 4, 1) := by decide +kernel
theorem dX4_instruction_86 : decode cX4_instruction 86 = .ok (.iadd, 1) := by decide +kernel
theorem dX4_instruction_87 : decode cX4_instruction 87 = .ok (.putfield 100, 3) := by decide +kernel
theorem dX4_instruction_90 : decode cX4_instruction 90 = .ok (.iload_n 3, 1) := by decide +kernel
theorem dX4_instruction_91 : decode cX4_instruction 91 = .ok (.iconst 1, 1) := by decide +kernel
theorem dX4_instruction_92 : decode cX4_instruction 92 = .ok (.if_icmp .lt 9, 3) := by decide +kernel
theorem dX4_instruction_95 : decode cX4_instruction 95 = .ok (.iload_n 3, 1) := by decide +kernel
theorem dX4_instruction_96 : decode cX4_instruction 96 = .ok (.bipush 27, 2) := by decide +kernel
theorem dX4_instruction_98 : decode cX4_instruction 98 = .ok (.if_icmp .le 12, 3) := by decide +kernel
theorem dX4_instruction_101 : decode cX4_instruction 101 = .ok (.aload_n 0, 1) := by decide +kernel
theorem dX4_instruction_102 : decode cX4_instruction 102 = .ok (.bipush 13, 2) := by decide +kernel
theorem dX4_instruction_104 : decode cX4_instruction 104 = .ok (.iconst 0, 1) := by decide +kernel
theorem dX4_instruction_105 : decode cX4_instruction 105 = .ok (.iconst 0, 1) := by decide +kernel
theorem dX4_instruction_106 : decode cX4_instruction 106 = .ok (.invokevirtual 55, 3) := by decide +kernel
theorem dX4_instruction_109 : decode cX4_instruction 109 = .ok (.ireturn, 1) := by decide +kernel
theorem dX4_instruction_110 : decode cX4_instruction 110 = .ok (.iload_n 3, 1) := by decide +kernel

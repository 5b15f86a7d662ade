theorem dX4_init_0 : decode cX4_init 0 = .ok (.aload_n 0, 1) := by decide +kernel
theorem dX4_init_1 : decode cX4_init 1 = .ok (.invokespecial 1, 3) := by decide +kernel
theorem dX4_init_4 : decode cX4_init 4 = .ok (.aload_n 0, 1) := by decide +kernel
theorem dX4_init_5 : decode cX4_init 5 = .ok (.sipush 512, 3) := by decide +kernel
theorem dX4_init_8 : decode cX4_init 8 = .ok (.newarray .int, 2) := by decide +kernel
theorem dX4_init_10 : decode cX4_init 10 = .ok (.putfield 7, 3) := by decide +kernel
theorem dX4_init_13 : decode cX4_init 13 = .ok (.aload_n 0, 1) := by decide +kernel
theorem dX4_init_14 : decode cX4_init 14 = .ok (.bipush 8, 2) := by decide +kernel
theorem dX4_init_16 : decode cX4_init 16 = .ok (.newarray .int, 2) := by decide +kernel
theorem dX4_init_18 : decode cX4_init 18 = .ok (.putfield 13, 3) := by decide +kernel
theorem dX4_init_21 : decode cX4_init 21 = .ok (.aload_n 0, 1) := by decide +kernel
theorem dX4_init_22 : decode cX4_init 22 = .ok (.bipush 18, 2) := by decide +kernel
theorem dX4_init_24 : decode cX4_init 24 = .ok (.newarray .int, 2) := by decide +kernel
theorem dX4_init_26 : decode cX4_init 26 = .ok (.putfield 16, 3) := by decide +kernel
theorem dX4_init_29 : decode cX4_init 29 = .ok (.aload_n 0, 1) := by decide +kernel
theorem dX4_init_30 : decode cX4_init 30 = .ok (.bipush 18, 2) := by decide +kernel
theorem dX4_init_32 : decode cX4_init 32 = .ok (.newarray .int, 2) := by decide +kernel
theorem dX4_init_34 : decode cX4_init 34 = .ok (.dup, 1) := by decide +kernel
theorem dX4_init_35 : decode cX4_init 35 = .ok (.iconst 0, 1) := by decide +kernel
theorem dX4_init_36 : decode cX4_init 36 = .ok (.bipush 15, 2) := by decide +kernel
theorem dX4_init_38 : decode cX4_init 38 = .ok (.iastore, 1) := by decide +kernel
theorem dX4_init_39 : decode cX4_init 39 = .ok (.dup, 1) := by decide +kernel
theorem dX4_init_40 : decode cX4_init 40 = .ok (.iconst 1, 1) := by decide +kernel
theorem dX4_init_41 : decode cX4_init 41 = .ok (.bipush 7, 2) := by decide +kernel
theorem dX4_init_43 : decode cX4_init 43 = .ok (.iastore, 1) := by decide +kernel
theorem dX4_init_44 : decode cX4_init 44 = .ok (.dup, 1) := by decide +kernel
theorem dX4_init_45 : decode cX4_init 45 = .ok (.iconst 2, 1) := by decide +kernel
theorem dX4_init_46 : decode cX4_init 46 = .ok (.bipush 31, 2) := by decide +kernel
theorem dX4_init_48 : decode cX4_init 48 = .ok (.iastore, 1) := by decide +kernel
theorem dX4_init_49 : decode cX4_init 49 = .ok (.dup, 1) := by decide +kernel
theorem dX4_init_50 : decode cX4_init 50 = .ok (.iconst 3, 1) := by decide +kernel
theorem dX4_init_51 : decode cX4_init 51 = .ok (.iconst 0, 1) := by decide +kernel
theorem dX4_init_52 : decode cX4_init 52 = .ok (.iastore, 1) := by decide +kernel
theorem dX4_init_53 : decode cX4_init 53 = .ok (.dup, 1) := by decide +kernel
theorem dX4_init_54 : decode cX4_init 54 = .ok (.iconst 4, 1) := by decide +kernel
theorem dX4_init_55 : decode cX4_init 55 = .ok (.iconst (-1), 1) := by decide +kernel
theorem dX4_init_56 : decode cX4_init 56 = .ok (.iastore, 1) := by decide +kernel
theorem dX4_init_57 : decode cX4_init 57 = .ok (.dup, 1) := by decide +kernel
theorem dX4_init_58 : decode cX4_init 58 = .ok (.iconst 5, 1) := by decide +kernel
theorem dX4_init_59 : decode cX4_init 59 = .ok (.iconst (-1), 1) := by decide +kernel
theorem dX4_init_60 : decode cX4_init 60 = .ok (.iastore, 1) := by decide +kernel
theorem dX4_init_61 : decode cX4_init 61 = .ok (.dup, 1) := by decide +kernel
theorem dX4_init_62 : decode cX4_init 62 = .ok (.bipush 6, 2) := by decide +kernel
theorem dX4_init_64 : decode cX4_init 64 = .ok (.bipush (-4), 2) := by decide +kernel
theorem dX4_init_66 : decode cX4_init 66 = .ok (.iastore, 1) := by decide +kernel
theorem dX4_init_67 : decode cX4_init 67 = .ok (.dup, 1) := by decide +kernel
theorem dX4_init_68 : decode cX4_init 68 = .ok (.bipush 7, 2) := by decide +kernel
theorem dX4_init_70 : decode cX4_init 70 = .ok (.ldc 19, 2) := by decide +kernel
theorem dX4_init_72 : decode cX4_init 72 = .ok (.iastore, 1) := by decide +kernel
theorem dX4_init_73 : decode cX4_init 73 = .ok (.dup, 1) := by decide +kernel
theorem dX4_init_74 : decode cX4_init 74 = .ok (.bipush 8, 2) := by decide +kernel
theorem dX4_init_76 : decode cX4_init 76 = .ok (.bipush (-128), 2) := by decide +kernel
theorem dX4_init_78 : decode cX4_init 78 = .ok (.iastore, 1) := by decide +kernel
theorem dX4_init_79 : decode cX4_init 79 = .ok (.dup, 1) := by decide +kernel
theorem dX4_init_80 : decode cX4_init 80 = .ok (.bipush 9, 2) := by decide +kernel
theorem dX4_init_82 : decode cX4_init 82 = .ok (.sipush 2015, 3) := by decide +kernel
theorem dX4_init_85 : decode cX4_init 85 = .ok (.iastore, 1) := by decide +kernel
theorem dX4_init_86 : decode cX4_init 86 = .ok (.dup, 1) := by decide +kernel
theorem dX4_init_87 : decode cX4_init 87 = .ok (.bipush 10, 2) := by decide +kernel
theorem dX4_init_89 : decode cX4_init 89 = .ok (.sipush 2015, 3) := by decide +kernel
theorem dX4_init_92 : decode cX4_init 92 = .ok (.iastore, 1) := by decide +kernel
theorem dX4_init_93 : decode cX4_init 93 = .ok (.dup, 1) := by decide +kernel
theorem dX4_init_94 : decode cX4_init 94 = .ok (.bipush 11, 2) := by decide +kernel
theorem dX4_init_96 : decode cX4_init 96 = .ok (.bipush 15, 2) := by decide +kernel
theorem dX4_init_98 : decode cX4_init 98 = .ok (.iastore, 1) := by decide +kernel
theorem dX4_init_99 : decode cX4_init 99 = .ok (.dup, 1) := by decide +kernel
theorem dX4_init_100 : decode cX4_init 100 = .ok (.bipush 12, 2) := by decide +kernel
theorem dX4_init_102 : decode cX4_init 102 = .ok (.iconst (-1), 1) := by decide +kernel
theorem dX4_init_103 : decode cX4_init 103 = .ok (.iastore, 1) := by decide +kernel
theorem dX4_init_104 : decode cX4_init 104 = .ok (.dup, 1) := by decide +kernel
theorem dX4_init_105 : decode cX4_init 105 = .ok (.bipush 13, 2) := by decide +kernel
theorem dX4_init_107 : decode cX4_init 107 = .ok (.iconst (-1), 1) := by decide +kernel
theorem dX4_init_108 : decode cX4_init 108 = .ok (.iastore, 1) := by decide +kernel
theorem dX4_init_109 : decode cX4_init 109 = .ok (.dup, 1) := by decide +kernel
theorem dX4_init_110 : decode cX4_init 110 = .ok (.bipush 14, 2) := by decide +kernel
theorem dX4_init_112 : decode cX4_init 112 = .ok (.ldc 20, 2) := by decide +kernel
theorem dX4_init_114 : decode cX4_init 114 = .ok (.iastore, 1) := by decide +kernel
theorem dX4_init_115 : decode cX4_init 115 = .ok (.dup, 1) := by decide +kernel
theorem dX4_init_116 : decode cX4_init 116 = .ok (.bipush 15, 2) := by decide +kernel
theorem dX4_init_118 : decode cX4_init 118 = .ok (.iconst 0, 1) := by decide +kernel
theorem dX4_init_119 : decode cX4_init 119 = .ok (.iastore, 1) := by decide +kernel
theorem dX4_init_120 : decode cX4_init 120 = .ok (.dup, 1) := by decide +kernel
theorem dX4_init_121 : decode cX4_init 121 = .ok (.bipush 16, 2) := by decide +kernel
theorem dX4_init_123 : decode cX4_init 123 = .ok (.bipush (-4), 2) := by decide +kernel
theorem dX4_init_125 : decode cX4_init 125 = .ok (.iastore, 1) := by decide +kernel
theorem dX4_init_126 : decode cX4_init 126 = .ok (.dup, 1) := by decide +kernel
theorem dX4_init_127 : decode cX4_init 127 = .ok (.bipush 17, 2) := by decide +kernel
theorem dX4_init_129 : decode cX4_init 129 = .ok (.ldc 21, 2) := by decide +kernel
theorem dX4_init_131 : decode cX4_init 131 = .ok (.iastore, 1) := by decide +kernel
theorem dX4_init_132 : decode cX4_init 132 = .ok (.putfield 22, 3) := by decide +kernel
theorem dX4_init_135 : decode cX4_init 135 = .ok (.aload_n 0, 1) := by decide +kernel
theorem dX4_init_136 : decode cX4_init 136 = .ok (.iconst 4, 1) := by decide +kernel
theorem dX4_init_137 : decode cX4_init 137 = .ok (.newarray .boolean, 2) := by decide +kernel
theorem dX4_init_139 : decode cX4_init 139 = .ok (.putfield 25, 3) := by decide +kernel
theorem dX4_init_142 : decode cX4_init 142 = .ok (.aload_n 0, 1) := by decide +kernel
theorem dX4_init_143 : decode cX4_init 143 = .ok (.iconst 4, 1) := by decide +kernel
theorem dX4_init_144 : decode cX4_init 144 = .ok (.newarray .boolean, 2) := by decide +kernel
theorem dX4_init_146 : decode cX4_init 146 = .ok (.putfield 29, 3) := by decide +kernel
theorem dX4_init_149 : decode cX4_init 149 = .ok (.aload_n 0, 1) := by decide +kernel
theorem dX4_init_150 : decode cX4_init 150 = .ok (.iconst 4, 1) := by decide +kernel
theorem dX4_init_151 : decode cX4_init 151 = .ok (.newarray .int, 2) := by decide +kernel
theorem dX4_init_153 : decode cX4_init 153 = .ok (.putfield 32, 3) := by decide +kernel
theorem dX4_init_156 : decode cX4_init 156 = .ok (.aload_n 0, 1) := by decide +kernel
theorem dX4_init_157 : decode cX4_init 157 = .ok (.iconst 4, 1) := by decide +kernel
theorem dX4_init_158 : decode cX4_init 158 = .ok (.newarray .int, 2) := by decide +kernel
theorem dX4_init_160 : decode cX4_init 160 = .ok (.putfield 35, 3) := by decide +kernel
theorem dX4_init_163 : decode cX4_init 163 = .ok (.aload_n 0, 1) := by decide +kernel
theorem dX4_init_164 : decode cX4_init 164 = .ok (.bipush 8, 2) := by decide +kernel
theorem dX4_init_166 : decode cX4_init 166 = .ok (.newarray .int, 2) := by decide +kernel
theorem dX4_init_168 : decode cX4_init 168 = .ok (.putfield 38, 3) := by decide +kernel
theorem dX4_init_171 : decode cX4_init 171 = .ok (.aload_n 0, 1) := by decide +kernel
theorem dX4_init_172 : decode cX4_init 172 = .ok (.getfield 16, 3) := by decide +kernel
theorem dX4_init_175 : decode cX4_init 175 = .ok (.iconst 0, 1) := by decide +kernel
theorem dX4_init_176 : decode cX4_init 176 = .ok (.bipush 8, 2) := by decide +kernel
theorem dX4_init_178 : decode cX4_init 178 = .ok (.iastore, 1) := by decide +kernel
theorem dX4_init_179 : decode cX4_init 179 = .ok (.return_, 1) := by decide +kernel
theorem dX4_thrown_0 : decode cX4_thrown 0 = .ok (.aload_n 0, 1) := by decide +kernel
theorem dX4_thrown_1 : decode cX4_thrown 1 = .ok (.getfield 41, 3) := by decide +kernel
theorem dX4_thrown_4 : decode cX4_thrown 4 = .ok (.ireturn, 1) := by decide +kernel
theorem dX4_refuse_0 : decode cX4_refuse 0 = .ok (.aload_n 0, 1) := by decide +kernel
theorem dX4_refuse_1 : decode cX4_refuse 1 = .ok (.iload_n 1, 1) := by decide +kernel
theorem dX4_refuse_2 : decode cX4_refuse 2 = .ok (.putfield 41, 3) := by decide +kernel
theorem dX4_refuse_5 : decode cX4_refuse 5 = .ok (.iconst 0, 1) := by decide +kernel
theorem dX4_refuse_6 : decode cX4_refuse 6 = .ok (.ireturn, 1) := by decide +kernel
theorem dX4_outside_0 : decode cX4_outside 0 = .ok (.iload_n 0, 1) := by decide +kernel
theorem dX4_outside_1 : decode cX4_outside 1 = .ok (.iload_n 1, 1) := by decide +kernel
theorem dX4_outside_2 : decode cX4_outside 2 = .ok (.if_icmp .lt 8, 3) := by decide +kernel
theorem dX4_outside_5 : decode cX4_outside 5 = .ok (.iload_n 0, 1) := by decide +kernel
theorem dX4_outside_6 : decode cX4_outside 6 = .ok (.iload_n 2, 1) := by decide +kernel
theorem dX4_outside_7 : decode cX4_outside 7 = .ok (.if_icmp .le 7, 3) := by decide +kernel
theorem dX4_outside_10 : decode cX4_outside 10 = .ok (.iconst 1, 1) := by decide +kernel
theorem dX4_outside_11 : decode cX4_outside 11 = .ok (.goto 4, 3) := by decide +kernel
theorem dX4_outside_14 : decode cX4_outside 14 = .ok (.iconst 0, 1) := by decide +kernel
theorem dX4_outside_15 : decode cX4_outside 15 = .ok (.ireturn, 1) := by decide +kernel
theorem dX4_user_0 : decode cX4_user 0 = .ok (.aload_n 0, 1) := by decide +kernel
theorem dX4_user_1 : decode cX4_user 1 = .ok (.getfield 16, 3) := by decide +kernel
theorem dX4_user_4 : decode cX4_user 4 = .ok (.iconst 0, 1) := by decide +kernel
theorem dX4_user_5 : decode cX4_user 5 = .ok (.iaload, 1) := by decide +kernel
theorem dX4_user_6 : decode cX4_user 6 = .ok (.iconst 3, 1) := by decide +kernel
theorem dX4_user_7 : decode cX4_user 7 = .ok (.iand, 1) := by decide +kernel
theorem dX4_user_8 : decode cX4_user 8 = .ok (.ifCond .eq 7, 3) := by decide +kernel
theorem dX4_user_11 : decode cX4_user 11 = .ok (.iconst 1, 1) := by decide +kernel
theorem dX4_user_12 : decode cX4_user 12 = .ok (.goto 4, 3) := by decide +kernel
theorem dX4_user_15 : decode cX4_user 15 = .ok (.iconst 0, 1) := by decide +kernel
theorem dX4_user_16 : decode cX4_user 16 = .ok (.ireturn, 1) := by decide +kernel
theorem dX4_codeOf_0 : decode cX4_codeOf 0 = .ok (.aload_n 0, 1) := by decide +kernel
theorem dX4_codeOf_1 : decode cX4_codeOf 1 = .ok (.getfield 16, 3) := by decide +kernel
theorem dX4_codeOf_4 : decode cX4_codeOf 4 = .ok (.iconst 3, 1) := by decide +kernel
theorem dX4_codeOf_5 : decode cX4_codeOf 5 = .ok (.iaload, 1) := by decide +kernel
theorem dX4_codeOf_6 : decode cX4_codeOf 6 = .ok (.bipush 16, 2) := by decide +kernel
theorem dX4_codeOf_8 : decode cX4_codeOf 8 = .ok (.ishr, 1) := by decide +kernel
theorem dX4_codeOf_9 : decode cX4_codeOf 9 = .ok (.bipush 63, 2) := by decide +kernel
theorem dX4_codeOf_11 : decode cX4_codeOf 11 = .ok (.iand, 1) := by decide +kernel
theorem dX4_codeOf_12 : decode cX4_codeOf 12 = .ok (.ireturn, 1) := by decide +kernel
theorem dX4_pairOf_0 : decode cX4_pairOf 0 = .ok (.iload_n 0, 1) := by decide +kernel
theorem dX4_pairOf_1 : decode cX4_pairOf 1 = .ok (.bipush 7, 2) := by decide +kernel
theorem dX4_pairOf_3 : decode cX4_pairOf 3 = .ok (.iushr, 1) := by decide +kernel
theorem dX4_pairOf_4 : decode cX4_pairOf 4 = .ok (.ireturn, 1) := by decide +kernel
theorem dX4_with_0 : decode cX4_with 0 = .ok (.aload_n 0, 1) := by decide +kernel
theorem dX4_with_1 : decode cX4_with 1 = .ok (.iload_n 3, 1) := by decide +kernel
theorem dX4_with_2 : decode cX4_with 2 = .ok (.putfield 45, 3) := by decide +kernel
theorem dX4_with_5 : decode cX4_with 5 = .ok (.aload_n 0, 1) := by decide +kernel
theorem dX4_with_6 : decode cX4_with 6 = .ok (.iload_n 2, 1) := by decide +kernel
theorem dX4_with_7 : decode cX4_with 7 = .ok (.putfield 48, 3) := by decide +kernel
theorem dX4_with_10 : decode cX4_with 10 = .ok (.iload_n 1, 1) := by decide +kernel
theorem dX4_with_11 : decode cX4_with 11 = .ok (.ireturn, 1) := by decide +kernel
theorem dX4_enter_0 : decode cX4_enter 0 = .ok (.aload_n 0, 1) := by decide +kernel
theorem dX4_enter_1 : decode cX4_enter 1 = .ok (.getfield 16, 3) := by decide +kernel
theorem dX4_enter_4 : decode cX4_enter 4 = .ok (.iconst 0, 1) := by decide +kernel
theorem dX4_enter_5 : decode cX4_enter 5 = .ok (.iaload, 1) := by decide +kernel
theorem dX4_enter_6 : decode cX4_enter 6 = .ok (.bipush 7, 2) := by decide +kernel
theorem dX4_enter_8 : decode cX4_enter 8 = .ok (.iand, 1) := by decide +kernel
theorem dX4_enter_9 : decode cX4_enter 9 = .ok (.istore_n 2, 1) := by decide +kernel
theorem dX4_enter_10 : decode cX4_enter 10 = .ok (.aload_n 0, 1) := by decide +kernel
theorem dX4_enter_11 : decode cX4_enter 11 = .ok (.getfield 16, 3) := by decide +kernel
theorem dX4_enter_14 : decode cX4_enter 14 = .ok (.iconst 1, 1) := by decide +kernel
theorem dX4_enter_15 : decode cX4_enter 15 = .ok (.iload_n 2, 1) := by decide +kernel
theorem dX4_enter_16 : decode cX4_enter 16 = .ok (.iastore, 1) := by decide +kernel
theorem dX4_enter_17 : decode cX4_enter 17 = .ok (.aload_n 0, 1) := by decide +kernel
theorem dX4_enter_18 : decode cX4_enter 18 = .ok (.getfield 16, 3) := by decide +kernel
theorem dX4_enter_21 : decode cX4_enter 21 = .ok (.iconst 0, 1) := by decide +kernel
theorem dX4_enter_22 : decode cX4_enter 22 = .ok (.aload_n 0, 1) := by decide +kernel
theorem dX4_enter_23 : decode cX4_enter 23 = .ok (.getfield 16, 3) := by decide +kernel
theorem dX4_enter_26 : decode cX4_enter 26 = .ok (.iconst 0, 1) := by decide +kernel
theorem dX4_enter_27 : decode cX4_enter 27 = .ok (.iaload, 1) := by decide +kernel
theorem dX4_enter_28 : decode cX4_enter 28 = .ok (.iload_n 2, 1) := by decide +kernel
theorem dX4_enter_29 : decode cX4_enter 29 = .ok (.isub, 1) := by decide +kernel
theorem dX4_enter_30 : decode cX4_enter 30 = .ok (.iastore, 1) := by decide +kernel
theorem dX4_enter_31 : decode cX4_enter 31 = .ok (.aload_n 0, 1) := by decide +kernel
theorem dX4_enter_32 : decode cX4_enter 32 = .ok (.getfield 16, 3) := by decide +kernel
theorem dX4_enter_35 : decode cX4_enter 35 = .ok (.iconst 4, 1) := by decide +kernel
theorem dX4_enter_36 : decode cX4_enter 36 = .ok (.aload_n 0, 1) := by decide +kernel
theorem dX4_enter_37 : decode cX4_enter 37 = .ok (.getfield 51, 3) := by decide +kernel
theorem dX4_enter_40 : decode cX4_enter 40 = .ok (.iastore, 1) := by decide +kernel
theorem dX4_enter_41 : decode cX4_enter 41 = .ok (.aload_n 0, 1) := by decide +kernel
theorem dX4_enter_42 : decode cX4_enter 42 = .ok (.getfield 16, 3) := by decide +kernel
theorem dX4_enter_45 : decode cX4_enter 45 = .ok (.iconst 3, 1) := by decide +kernel
theorem dX4_enter_46 : decode cX4_enter 46 = .ok (.aload_n 0, 1) := by decide +kernel
theorem dX4_enter_47 : decode cX4_enter 47 = .ok (.getfield 16, 3) := by decide +kernel
theorem dX4_enter_50 : decode cX4_enter 50 = .ok (.iconst 3, 1) := by decide +kernel
theorem dX4_enter_51 : decode cX4_enter 51 = .ok (.iaload, 1) := by decide +kernel
theorem dX4_enter_52 : decode cX4_enter 52 = .ok (.ldc 54, 2) := by decide +kernel
theorem dX4_enter_54 : decode cX4_enter 54 = .ok (.iand, 1) := by decide +kernel
theorem dX4_enter_55 : decode cX4_enter 55 = .ok (.iload_n 1, 1) := by decide +kernel
theorem dX4_enter_56 : decode cX4_enter 56 = .ok (.bipush 16, 2) := by decide +kernel
theorem dX4_enter_58 : decode cX4_enter 58 = .ok (.ishl, 1) := by decide +kernel
theorem dX4_enter_59 : decode cX4_enter 59 = .ok (.ior, 1) := by decide +kernel
theorem dX4_enter_60 : decode cX4_enter 60 = .ok (.iastore, 1) := by decide +kernel
theorem dX4_enter_61 : decode cX4_enter 61 = .ok (.aload_n 0, 1) := by decide +kernel
theorem dX4_enter_62 : decode cX4_enter 62 = .ok (.getfield 45, 3) := by decide +kernel
theorem dX4_enter_65 : decode cX4_enter 65 = .ok (.ifCond .le 13, 3) := by decide +kernel
theorem dX4_enter_68 : decode cX4_enter 68 = .ok (.aload_n 0, 1) := by decide +kernel
theorem dX4_enter_69 : decode cX4_enter 69 = .ok (.getfield 16, 3) := by decide +kernel
theorem dX4_enter_72 : decode cX4_enter 72 = .ok (.iconst 5, 1) := by decide +kernel
theorem dX4_enter_73 : decode cX4_enter 73 = .ok (.aload_n 0, 1) := by decide +kernel
theorem dX4_enter_74 : decode cX4_enter 74 = .ok (.getfield 48, 3) := by decide +kernel
theorem dX4_enter_77 : decode cX4_enter 77 = .ok (.iastore, 1) := by decide +kernel
theorem dX4_enter_78 : decode cX4_enter 78 = .ok (.aload_n 0, 1) := by decide +kernel
theorem dX4_enter_79 : decode cX4_enter 79 = .ok (.getfield 45, 3) := by decide +kernel
theorem dX4_enter_82 : decode cX4_enter 82 = .ok (.iconst 1, 1) := by decide +kernel
theorem dX4_enter_83 : decode cX4_enter 83 = .ok (.if_icmp .le 17, 3) := by decide +kernel
theorem dX4_enter_86 : decode cX4_enter 86 = .ok (.aload_n 0, 1) := by decide +kernel
theorem dX4_enter_87 : decode cX4_enter 87 = .ok (.getfield 16, 3) := by decide +kernel
theorem dX4_enter_90 : decode cX4_enter 90 = .ok (.bipush 8, 2) := by decide +kernel
theorem dX4_enter_92 : decode cX4_enter 92 = .ok (.aload_n 0, 1) := by decide +kernel
theorem dX4_enter_93 : decode cX4_enter 93 = .ok (.getfield 48, 3) := by decide +kernel
theorem dX4_enter_96 : decode cX4_enter 96 = .ok (.bipush (-128), 2) := by decide +kernel
theorem dX4_enter_98 : decode cX4_enter 98 = .ok (.iand, 1) := by decide +kernel
theorem dX4_enter_99 : decode cX4_enter 99 = .ok (.iastore, 1) := by decide +kernel
theorem dX4_enter_100 : decode cX4_enter 100 = .ok (.iload_n 1, 1) := by decide +kernel
theorem dX4_enter_101 : decode cX4_enter 101 = .ok (.bipush 63, 2) := by decide +kernel
theorem dX4_enter_103 : decode cX4_enter 103 = .ok (.if_icmp .ne 14, 3) := by decide +kernel
theorem dX4_enter_106 : decode cX4_enter 106 = .ok (.aload_n 0, 1) := by decide +kernel
theorem dX4_enter_107 : decode cX4_enter 107 = .ok (.getfield 16, 3) := by decide +kernel
theorem dX4_enter_110 : decode cX4_enter 110 = .ok (.iconst 0, 1) := by decide +kernel
theorem dX4_enter_111 : decode cX4_enter 111 = .ok (.dup2, 1) := by decide +kernel
theorem dX4_enter_112 : decode cX4_enter 112 = .ok (.iaload, 1) := by decide +kernel
theorem dX4_enter_113 : decode cX4_enter 113 = .ok (.bipush 8, 2) := by decide +kernel
theorem dX4_enter_115 : decode cX4_enter 115 = .ok (.ior, 1) := by decide +kernel
theorem dX4_enter_116 : decode cX4_enter 116 = .ok (.iastore, 1) := by decide +kernel
theorem dX4_enter_117 : decode cX4_enter 117 = .ok (.aload_n 0, 1) := by decide +kernel
theorem dX4_enter_118 : decode cX4_enter 118 = .ok (.iload_n 1, 1) := by decide +kernel
theorem dX4_enter_119 : decode cX4_enter 119 = .ok (.bipush 63, 2) := by decide +kernel
theorem dX4_enter_121 : decode cX4_enter 121 = .ok (.if_icmp .ne 13, 3) := by decide +kernel
theorem dX4_enter_124 : decode cX4_enter 124 = .ok (.aload_n 0, 1) := by decide +kernel
theorem dX4_enter_125 : decode cX4_enter 125 = .ok (.getfield 16, 3) := by decide +kernel
theorem dX4_enter_128 : decode cX4_enter 128 = .ok (.bipush 16, 2) := by decide +kernel
theorem dX4_enter_130 : decode cX4_enter 130 = .ok (.iaload, 1) := by decide +kernel
theorem dX4_enter_131 : decode cX4_enter 131 = .ok (.goto 10, 3) := by decide +kernel
theorem dX4_enter_134 : decode cX4_enter 134 = .ok (.aload_n 0, 1) := by decide +kernel
theorem dX4_enter_135 : decode cX4_enter 135 = .ok (.getfield 16, 3) := by decide +kernel
theorem dX4_enter_138 : decode cX4_enter 138 = .ok (.bipush 6, 2) := by decide +kernel
theorem dX4_enter_140 : decode cX4_enter 140 = .ok (.iaload, 1) := by decide +kernel
theorem dX4_enter_141 : decode cX4_enter 141 = .ok (.putfield 51, 3) := by decide +kernel
theorem dX4_enter_144 : decode cX4_enter 144 = .ok (.return_, 1) := by decide +kernel
theorem dX4_fits_0 : decode cX4_fits 0 = .ok (.aload_n 0, 1) := by decide +kernel
theorem dX4_fits_1 : decode cX4_fits 1 = .ok (.getfield 25, 3) := by decide +kernel
theorem dX4_fits_4 : decode cX4_fits 4 = .ok (.iload_n 1, 1) := by decide +kernel
theorem dX4_fits_5 : decode cX4_fits 5 = .ok (.baload, 1) := by decide +kernel
theorem dX4_fits_6 : decode cX4_fits 6 = .ok (.ifCond .eq 36, 3) := by decide +kernel
theorem dX4_fits_9 : decode cX4_fits 9 = .ok (.aload_n 0, 1) := by decide +kernel
theorem dX4_fits_10 : decode cX4_fits 10 = .ok (.getfield 32, 3) := by decide +kernel
theorem dX4_fits_13 : decode cX4_fits 13 = .ok (.iload_n 1, 1) := by decide +kernel
theorem dX4_fits_14 : decode cX4_fits 14 = .ok (.iaload, 1) := by decide +kernel
theorem dX4_fits_15 : decode cX4_fits 15 = .ok (.iload_n 2, 1) := by decide +kernel
theorem dX4_fits_16 : decode cX4_fits 16 = .ok (.if_icmp .ne 26, 3) := by decide +kernel
theorem dX4_fits_19 : decode cX4_fits 19 = .ok (.aload_n 0, 1) := by decide +kernel
theorem dX4_fits_20 : decode cX4_fits 20 = .ok (.getfield 29, 3) := by decide +kernel
theorem dX4_fits_23 : decode cX4_fits 23 = .ok (.iload_n 1, 1) := by decide +kernel
theorem dX4_fits_24 : decode cX4_fits 24 = .ok (.baload, 1) := by decide +kernel
theorem dX4_fits_25 : decode cX4_fits 25 = .ok (.ifCond .ne 13, 3) := by decide +kernel
theorem dX4_fits_28 : decode cX4_fits 28 = .ok (.aload_n 0, 1) := by decide +kernel
theorem dX4_fits_29 : decode cX4_fits 29 = .ok (.getfield 35, 3) := by decide +kernel
theorem dX4_fits_32 : decode cX4_fits 32 = .ok (.iload_n 1, 1) := by decide +kernel
theorem dX4_fits_33 : decode cX4_fits 33 = .ok (.iaload, 1) := by decide +kernel
theorem dX4_fits_34 : decode cX4_fits 34 = .ok (.iload_n 3, 1) := by decide +kernel
theorem dX4_fits_35 : decode cX4_fits 35 = .ok (.if_icmp .ne 7, 3) := by decide +kernel
theorem dX4_fits_38 : decode cX4_fits 38 = .ok (.iconst 1, 1) := by decide +kernel
theorem dX4_fits_39 : decode cX4_fits 39 = .ok (.goto 4, 3) := by decide +kernel
theorem dX4_fits_42 : decode cX4_fits 42 = .ok (.iconst 0, 1) := by decide +kernel
theorem dX4_fits_43 : decode cX4_fits 43 = .ok (.ireturn, 1) := by decide +kernel
set_option maxRecDepth 20000 in
theorem ggX4_lookUp_X4_with : GoodIn wsX4_lookUp wsX4_with := goodIn_r _ [8, 9, 10, 34, 35, 36, 37, 38, 39, 40, 41, 42, 43, 44, 45, 46, 47, 48, 49, 50, 51, 52, 53] (by decide +kernel) (by decide +kernel)
set_option maxRecDepth 20000 in
theorem gX4_lookUp_X4_with : GoodIn wsX4_lookUp (wsV RX4 55 RX4 yX4_with wsX4_with) := goodIn_app (goodIn_of _ (by decide +kernel)) ggX4_lookUp_X4_with
set_option maxRecDepth 20000 in
theorem ggX4_lookUp_X4_user : GoodIn wsX4_lookUp wsX4_user := goodIn_r _ [14, 1, 34, 35, 36, 37, 38, 39, 40, 41, 42, 43, 44, 45, 46, 47, 48, 49, 50, 51, 52, 53] (by decide +kernel) (by decide +kernel)
set_option maxRecDepth 20000 in
theorem gX4_lookUp_X4_user : GoodIn wsX4_lookUp (wsV RX4 59 RX4 yX4_user wsX4_user) := goodIn_app (goodIn_of _ (by decide +kernel)) ggX4_lookUp_X4_user
set_option maxRecDepth 20000 in
theorem ggX4_lookUp_X4_map : GoodIn wsX4_lookUp wsX4_map := goodIn_r _ [18, 1, 19, 3, 20, 21, 7, 22, 23, 24, 25, 26, 27, 28, 29, 30, 4, 5, 6, 8, 9, 10, 11, 12, 13, 14, 34, 35, 36, 37, 38, 39, 40, 41, 42, 43, 44, 45, 46, 47, 48, 49, 50, 51, 52, 53] (by decide +kernel) (by decide +kernel)
set_option maxRecDepth 20000 in
theorem gX4_lookUp_X4_map : GoodIn wsX4_lookUp (wsV RX4 64 RX4 yX4_map wsX4_map) := goodIn_app (goodIn_of _ (by decide +kernel)) ggX4_lookUp_X4_map
set_option maxRecDepth 20000 in
theorem ggX4_lookUp_X4_outside : GoodIn wsX4_lookUp wsX4_outside := goodIn_r _ [33] (by decide +kernel) (by decide +kernel)
set_option maxRecDepth 20000 in
theorem gX4_lookUp_X4_outside : GoodIn wsX4_lookUp (va_wsS RX4 71 yX4_outside wsX4_outside) := goodIn_app (goodIn_of _ (by decide +kernel)) ggX4_lookUp_X4_outside
theorem dX4_lookUp_0 : decode cX4_lookUp 0 = .ok (.iload_n 1, 1) := by decide +kernel
theorem dX4_lookUp_1 : decode cX4_lookUp 1 = .ok (.iconst 3, 1) := by decide +kernel
theorem dX4_lookUp_2 : decode cX4_lookUp 2 = .ok (.iand, 1) := by decide +kernel
theorem dX4_lookUp_3 : decode cX4_lookUp 3 = .ok (.ifCond .eq 21, 3) := by decide +kernel
theorem dX4_lookUp_6 : decode cX4_lookUp 6 = .ok (.aload_n 0, 1) := by decide +kernel
theorem dX4_lookUp_7 : decode cX4_lookUp 7 = .ok (.iload_n 2, 1) := by decide +kernel
theorem dX4_lookUp_8 : decode cX4_lookUp 8 = .ok (.ifCond .ne 8, 3) := by decide +kernel
theorem dX4_lookUp_11 : decode cX4_lookUp 11 = .ok (.bipush 8, 2) := by decide +kernel
theorem dX4_lookUp_13 : decode cX4_lookUp 13 = .ok (.goto 5, 3) := by decide +kernel
theorem dX4_lookUp_16 : decode cX4_lookUp 16 = .ok (.bipush 9, 2) := by decide +kernel
theorem dX4_lookUp_18 : decode cX4_lookUp 18 = .ok (.iload_n 1, 1) := by decide +kernel
theorem dX4_lookUp_19 : decode cX4_lookUp 19 = .ok (.iconst 1, 1) := by decide +kernel
theorem dX4_lookUp_20 : decode cX4_lookUp 20 = .ok (.invokevirtual 55, 3) := by decide +kernel
theorem dX4_lookUp_23 : decode cX4_lookUp 23 = .ok (.ireturn, 1) := by decide +kernel
theorem dX4_lookUp_24 : decode cX4_lookUp 24 = .ok (.iload_n 1, 1) := by decide +kernel
theorem dX4_lookUp_25 : decode cX4_lookUp 25 = .ok (.bipush 28, 2) := by decide +kernel
theorem dX4_lookUp_27 : decode cX4_lookUp 27 = .ok (.iushr, 1) := by decide +kernel
theorem dX4_lookUp_28 : decode cX4_lookUp 28 = .ok (.aload_n 0, 1) := by decide +kernel
theorem dX4_lookUp_29 : decode cX4_lookUp 29 = .ok (.getfield 16, 3) := by decide +kernel
theorem dX4_lookUp_32 : decode cX4_lookUp 32 = .ok (.bipush 17, 2) := by decide +kernel
theorem dX4_lookUp_34 : decode cX4_lookUp 34 = .ok (.iaload, 1) := by decide +kernel
theorem dX4_lookUp_35 : decode cX4_lookUp 35 = .ok (.bipush 28, 2) := by decide +kernel
theorem dX4_lookUp_37 : decode cX4_lookUp 37 = .ok (.iushr, 1) := by decide +kernel
theorem dX4_lookUp_38 : decode cX4_lookUp 38 = .ok (.if_icmp .ne 31, 3) := by decide +kernel
theorem dX4_lookUp_41 : decode cX4_lookUp 41 = .ok (.aload_n 0, 1) := by decide +kernel
theorem dX4_lookUp_42 : decode cX4_lookUp 42 = .ok (.getfield 16, 3) := by decide +kernel
theorem dX4_lookUp_45 : decode cX4_lookUp 45 = .ok (.bipush 17, 2) := by decide +kernel
theorem dX4_lookUp_47 : decode cX4_lookUp 47 = .ok (.iaload, 1) := by decide +kernel
theorem dX4_lookUp_48 : decode cX4_lookUp 48 = .ok (.aload_n 0, 1) := by decide +kernel
theorem dX4_lookUp_49 : decode cX4_lookUp 49 = .ok (.invokevirtual 59, 3) := by decide +kernel
theorem dX4_lookUp_52 : decode cX4_lookUp 52 = .ok (.ifCond .eq 8, 3) := by decide +kernel
theorem dX4_lookUp_55 : decode cX4_lookUp 55 = .ok (.bipush 8, 2) := by decide +kernel
theorem dX4_lookUp_57 : decode cX4_lookUp 57 = .ok (.goto 4, 3) := by decide +kernel
theorem dX4_lookUp_60 : decode cX4_lookUp 60 = .ok (.iconst 1, 1) := by decide +kernel
theorem dX4_lookUp_61 : decode cX4_lookUp 61 = .ok (.iand, 1) := by decide +kernel
theorem dX4_lookUp_62 : decode cX4_lookUp 62 = .ok (.ifCond .eq 7, 3) := by decide +kernel
theorem dX4_lookUp_65 : decode cX4_lookUp 65 = .ok (.iconst 1, 1) := by decide +kernel
theorem dX4_lookUp_66 : decode cX4_lookUp 66 = .ok (.goto 4, 3) := by decide +kernel
theorem dX4_lookUp_69 : decode cX4_lookUp 69 = .ok (.iconst 0, 1) := by decide +kernel
theorem dX4_lookUp_70 : decode cX4_lookUp 70 = .ok (.istore_n 3, 1) := by decide +kernel
theorem dX4_lookUp_71 : decode cX4_lookUp 71 = .ok (.iload_n 1, 1) := by decide +kernel
theorem dX4_lookUp_72 : decode cX4_lookUp 72 = .ok (.istore 4, 2) := by decide +kernel
theorem dX4_lookUp_74 : decode cX4_lookUp 74 = .ok (.aload_n 0, 1) := by decide +kernel
theorem dX4_lookUp_75 : decode cX4_lookUp 75 = .ok (.getfield 16, 3) := by decide +kernel
theorem dX4_lookUp_78 : decode cX4_lookUp 78 = .ok (.iconst 0, 1) := by decide +kernel
theorem dX4_lookUp_79 : decode cX4_lookUp 79 = .ok (.iaload, 1) := by decide +kernel
theorem dX4_lookUp_80 : decode cX4_lookUp 80 = .ok (.bipush 8, 2) := by decide +kernel
theorem dX4_lookUp_82 : decode cX4_lookUp 82 = .ok (.iand, 1) := by decide +kernel
theorem dX4_lookUp_83 : decode cX4_lookUp 83 = .ok (.ifCond .ne 16, 3) := by decide +kernel
theorem dX4_lookUp_86 : decode cX4_lookUp 86 = .ok (.iload_n 3, 1) := by decide +kernel
theorem dX4_lookUp_87 : decode cX4_lookUp 87 = .ok (.ifCond .eq 12, 3) := by decide +kernel
theorem dX4_lookUp_90 : decode cX4_lookUp 90 = .ok (.iload_n 1, 1) := by decide +kernel
theorem dX4_lookUp_91 : decode cX4_lookUp 91 = .ok (.ldc 63, 2) := by decide +kernel
theorem dX4_lookUp_93 : decode cX4_lookUp 93 = .ok (.iand, 1) := by decide +kernel
theorem dX4_lookUp_94 : decode cX4_lookUp 94 = .ok (.istore 4, 2) := by decide +kernel
theorem dX4_lookUp_96 : decode cX4_lookUp 96 = .ok (.goto 38, 3) := by decide +kernel
theorem dX4_lookUp_99 : decode cX4_lookUp 99 = .ok (.aload_n 0, 1) := by decide +kernel
theorem dX4_lookUp_100 : decode cX4_lookUp 100 = .ok (.getfield 16, 3) := by decide +kernel
theorem dX4_lookUp_103 : decode cX4_lookUp 103 = .ok (.iconst 0, 1) := by decide +kernel
theorem dX4_lookUp_104 : decode cX4_lookUp 104 = .ok (.iaload, 1) := by decide +kernel
theorem dX4_lookUp_105 : decode cX4_lookUp 105 = .ok (.bipush 8, 2) := by decide +kernel
theorem dX4_lookUp_107 : decode cX4_lookUp 107 = .ok (.iand, 1) := by decide +kernel
theorem dX4_lookUp_108 : decode cX4_lookUp 108 = .ok (.ifCond .ne 26, 3) := by decide +kernel
theorem dX4_lookUp_111 : decode cX4_lookUp 111 = .ok (.aload_n 0, 1) := by decide +kernel
theorem dX4_lookUp_112 : decode cX4_lookUp 112 = .ok (.iload_n 1, 1) := by decide +kernel
theorem dX4_lookUp_113 : decode cX4_lookUp 113 = .ok (.iload_n 2, 1) := by decide +kernel
theorem dX4_lookUp_114 : decode cX4_lookUp 114 = .ok (.invokevirtual 64, 3) := by decide +kernel
theorem dX4_lookUp_117 : decode cX4_lookUp 117 = .ok (.istore 5, 2) := by decide +kernel
theorem dX4_lookUp_119 : decode cX4_lookUp 119 = .ok (.iload 5, 2) := by decide +kernel
theorem dX4_lookUp_121 : decode cX4_lookUp 121 = .ok (.iconst (-1), 1) := by decide +kernel
theorem dX4_lookUp_122 : decode cX4_lookUp 122 = .ok (.if_icmp .eq 6, 3) := by decide +kernel
theorem dX4_lookUp_125 : decode cX4_lookUp 125 = .ok (.iload 5, 2) := by decide +kernel
theorem dX4_lookUp_127 : decode cX4_lookUp 127 = .ok (.ireturn, 1) := by decide +kernel
theorem dX4_lookUp_128 : decode cX4_lookUp 128 = .ok (.aload_n 0, 1) := by decide +kernel
theorem dX4_lookUp_129 : decode cX4_lookUp 129 = .ok (.getfield 68, 3) := by decide +kernel
theorem dX4_lookUp_132 : decode cX4_lookUp 132 = .ok (.istore 4, 2) := by decide +kernel
theorem dX4_lookUp_134 : decode cX4_lookUp 134 = .ok (.iload 4, 2) := by decide +kernel
theorem dX4_lookUp_136 : decode cX4_lookUp 136 = .ok (.iconst 0, 1) := by decide +kernel
theorem dX4_lookUp_137 : decode cX4_lookUp 137 = .ok (.sipush 2047, 3) := by decide +kernel
theorem dX4_lookUp_140 : decode cX4_lookUp 140 = .ok (.invokestatic 71, 3) := by decide +kernel
theorem dX4_lookUp_143 : decode cX4_lookUp 143 = .ok (.ifCond .eq 12, 3) := by decide +kernel
theorem dX4_lookUp_146 : decode cX4_lookUp 146 = .ok (.aload_n 0, 1) := by decide +kernel
theorem dX4_lookUp_147 : decode cX4_lookUp 147 = .ok (.bipush 8, 2) := by decide +kernel
theorem dX4_lookUp_149 : decode cX4_lookUp 149 = .ok (.iload_n 1, 1) := by decide +kernel
theorem dX4_lookUp_150 : decode cX4_lookUp 150 = .ok (.iconst 1, 1) := by decide +kernel
theorem dX4_lookUp_151 : decode cX4_lookUp 151 = .ok (.invokevirtual 55, 3) := by decide +kernel
theorem dX4_lookUp_154 : decode cX4_lookUp 154 = .ok (.ireturn, 1) := by decide +kernel
theorem dX4_lookUp_155 : decode cX4_lookUp 155 = .ok (.aload_n 0, 1) := by decide +kernel
theorem dX4_lookUp_156 : decode cX4_lookUp 156 = .ok (.iload 4, 2) := by decide +kernel
theorem dX4_lookUp_158 : decode cX4_lookUp 158 = .ok (.iconst 4, 1) := by decide +kernel
theorem dX4_lookUp_159 : decode cX4_lookUp 159 = .ok (.idiv, 1) := by decide +kernel
theorem dX4_lookUp_160 : decode cX4_lookUp 160 = .ok (.putfield 68, 3) := by decide +kernel
theorem dX4_lookUp_163 : decode cX4_lookUp 163 = .ok (.iconst (-1), 1) := by decide +kernel
theorem dX4_lookUp_164 : decode cX4_lookUp 164 = .ok (.ireturn, 1) := by decide +kernel
set_option maxRecDepth 20000 in
theorem ggX4_map_X4_pairOf : GoodIn wsX4_map wsX4_pairOf := goodIn_r _ [7] (by decide +kernel) (by decide +kernel)
set_option maxRecDepth 20000 in
theorem gX4_map_X4_pairOf : GoodIn wsX4_map (va_wsS RX4 75 yX4_pairOf wsX4_pairOf) := goodIn_app (goodIn_of _ (by decide +kernel)) ggX4_map_X4_pairOf
set_option maxRecDepth 20000 in
theorem ggX4_map_X4_fits : GoodIn wsX4_map wsX4_fits := goodIn_r _ [11, 12, 13, 14, 15, 26, 27, 28, 29, 30, 31, 32, 33, 34, 35, 36, 37, 38, 39, 40, 41, 42, 43, 44, 45] (by decide +kernel) (by decide +kernel)
set_option maxRecDepth 20000 in
theorem gX4_map_X4_fits : GoodIn wsX4_map (wsV RX4 79 RX4 yX4_fits wsX4_fits) := goodIn_app (goodIn_of _ (by decide +kernel)) ggX4_map_X4_fits
set_option maxRecDepth 20000 in
theorem ggX4_map_X4_with : GoodIn wsX4_map wsX4_with := goodIn_r _ [19, 20, 21, 26, 27, 28, 29, 30, 31, 32, 33, 34, 35, 36, 37, 38, 39, 40, 41, 42, 43, 44, 45] (by decide +kernel) (by decide +kernel)
set_option maxRecDepth 20000 in
theorem gX4_map_X4_with : GoodIn wsX4_map (wsV RX4 55 RX4 yX4_with wsX4_with) := goodIn_app (goodIn_of _ (by decide +kernel)) ggX4_map_X4_with
set_option maxRecDepth 20000 in
theorem ggX4_map_X4_user : GoodIn wsX4_map wsX4_user := goodIn_r _ [25, 1, 26, 27, 28, 29, 30, 31, 32, 33, 34, 35, 36, 37, 38, 39, 40, 41, 42, 43, 44, 45] (by decide +kernel) (by decide +kernel)
set_option maxRecDepth 20000 in
theorem gX4_map_X4_user : GoodIn wsX4_map (wsV RX4 59 RX4 yX4_user wsX4_user) := goodIn_app (goodIn_of _ (by decide +kernel)) ggX4_map_X4_user
theorem dX4_map_0 : decode cX4_map 0 = .ok (.iconst (-1), 1) := by decide +kernel
theorem dX4_map_1 : decode cX4_map 1 = .ok (.istore_n 3, 1) := by decide +kernel
theorem dX4_map_2 : decode cX4_map 2 = .ok (.iconst 0, 1) := by decide +kernel
theorem dX4_map_3 : decode cX4_map 3 = .ok (.istore 4, 2) := by decide +kernel
theorem dX4_map_5 : decode cX4_map 5 = .ok (.iconst 0, 1) := by decide +kernel
theorem dX4_map_6 : decode cX4_map 6 = .ok (.istore 5, 2) := by decide +kernel
theorem dX4_map_8 : decode cX4_map 8 = .ok (.iload 5, 2) := by decide +kernel
theorem dX4_map_10 : decode cX4_map 10 = .ok (.iconst 4, 1) := by decide +kernel
theorem dX4_map_11 : decode cX4_map 11 = .ok (.if_icmp .ge 56, 3) := by decide +kernel
theorem dX4_map_14 : decode cX4_map 14 = .ok (.aload_n 0, 1) := by decide +kernel
theorem dX4_map_15 : decode cX4_map 15 = .ok (.iload 5, 2) := by decide +kernel
theorem dX4_map_17 : decode cX4_map 17 = .ok (.iload_n 1, 1) := by decide +kernel
theorem dX4_map_18 : decode cX4_map 18 = .ok (.invokestatic 75, 3) := by decide +kernel
theorem dX4_map_21 : decode cX4_map 21 = .ok (.aload_n 0, 1) := by decide +kernel
theorem dX4_map_22 : decode cX4_map 22 = .ok (.getfield 16, 3) := by decide +kernel
theorem dX4_map_25 : decode cX4_map 25 = .ok (.bipush 11, 2) := by decide +kernel
theorem dX4_map_27 : decode cX4_map 27 = .ok (.iaload, 1) := by decide +kernel
theorem dX4_map_28 : decode cX4_map 28 = .ok (.invokevirtual 79, 3) := by decide +kernel
theorem dX4_map_31 : decode cX4_map 31 = .ok (.istore 6, 2) := by decide +kernel
theorem dX4_map_33 : decode cX4_map 33 = .ok (.iload 6, 2) := by decide +kernel
theorem dX4_map_35 : decode cX4_map 35 = .ok (.ifCond .eq 8, 3) := by decide +kernel
theorem dX4_map_38 : decode cX4_map 38 = .ok (.iload 5, 2) := by decide +kernel
theorem dX4_map_40 : decode cX4_map 40 = .ok (.goto 4, 3) := by decide +kernel
theorem dX4_map_43 : decode cX4_map 43 = .ok (.iload_n 3, 1) := by decide +kernel
theorem dX4_map_44 : decode cX4_map 44 = .ok (.istore_n 3, 1) := by decide +kernel
theorem dX4_map_45 : decode cX4_map 45 = .ok (.iload 6, 2) := by decide +kernel
theorem dX4_map_47 : decode cX4_map 47 = .ok (.ifCond .eq 10, 3) := by decide +kernel
theorem dX4_map_50 : decode cX4_map 50 = .ok (.iload 4, 2) := by decide +kernel
theorem dX4_map_52 : decode cX4_map 52 = .ok (.iconst 1, 1) := by decide +kernel
theorem dX4_map_53 : decode cX4_map 53 = .ok (.iadd, 1) := by decide +kernel
theorem dX4_map_54 : decode cX4_map 54 = .ok (.goto 5, 3) := by decide +kernel
theorem dX4_map_57 : decode cX4_map 57 = .ok (.iload 4, 2) := by decide +kernel
theorem dX4_map_59 : decode cX4_map 59 = .ok (.istore 4, 2) := by decide +kernel
theorem dX4_map_61 : decode cX4_map 61 = .ok (.iinc 5 1, 3) := by decide +kernel
theorem dX4_map_64 : decode cX4_map 64 = .ok (.goto (-56), 3) := by decide +kernel
theorem dX4_map_67 : decode cX4_map 67 = .ok (.iload 4, 2) := by decide +kernel
theorem dX4_map_69 : decode cX4_map 69 = .ok (.iconst 1, 1) := by decide +kernel
theorem dX4_map_70 : decode cX4_map 70 = .ok (.if_icmp .le 6, 3) := by decide +kernel
theorem dX4_map_73 : decode cX4_map 73 = .ok (.bipush (-2), 2) := by decide +kernel
theorem dX4_map_75 : decode cX4_map 75 = .ok (.ireturn, 1) := by decide +kernel
theorem dX4_map_76 : decode cX4_map 76 = .ok (.iload 4, 2) := by decide +kernel
theorem dX4_map_78 : decode cX4_map 78 = .ok (.ifCond .ne 12, 3) := by decide +kernel
theorem dX4_map_81 : decode cX4_map 81 = .ok (.aload_n 0, 1) := by decide +kernel
theorem dX4_map_82 : decode cX4_map 82 = .ok (.bipush 63, 2) := by decide +kernel
theorem dX4_map_84 : decode cX4_map 84 = .ok (.iload_n 1, 1) := by decide +kernel
theorem dX4_map_85 : decode cX4_map 85 = .ok (.iconst 2, 1) := by decide +kernel
theorem dX4_map_86 : decode cX4_map 86 = .ok (.invokevirtual 55, 3) := by decide +kernel
theorem dX4_map_89 : decode cX4_map 89 = .ok (.ireturn, 1) := by decide +kernel
theorem dX4_map_90 : decode cX4_map 90 = .ok (.aload_n 0, 1) := by decide +kernel
theorem dX4_map_91 : decode cX4_map 91 = .ok (.getfield 38, 3) := by decide +kernel
theorem dX4_map_94 : decode cX4_map 94 = .ok (.iconst 2, 1) := by decide +kernel
theorem dX4_map_95 : decode cX4_map 95 = .ok (.iload_n 3, 1) := by decide +kernel
theorem dX4_map_96 : decode cX4_map 96 = .ok (.imul, 1) := by decide +kernel
theorem dX4_map_97 : decode cX4_map 97 = .ok (.iload_n 1, 1) := by decide +kernel
theorem dX4_map_98 : decode cX4_map 98 = .ok (.bipush 6, 2) := by decide +kernel
theorem dX4_map_100 : decode cX4_map 100 = .ok (.ishr, 1) := by decide +kernel
theorem dX4_map_101 : decode cX4_map 101 = .ok (.iconst 1, 1) := by decide +kernel
theorem dX4_map_102 : decode cX4_map 102 = .ok (.iand, 1) := by decide +kernel
theorem dX4_map_103 : decode cX4_map 103 = .ok (.iadd, 1) := by decide +kernel
theorem dX4_map_104 : decode cX4_map 104 = .ok (.iaload, 1) := by decide +kernel
theorem dX4_map_105 : decode cX4_map 105 = .ok (.istore 5, 2) := by decide +kernel
theorem dX4_map_107 : decode cX4_map 107 = .ok (.iload 5, 2) := by decide +kernel
theorem dX4_map_109 : decode cX4_map 109 = .ok (.iconst 1, 1) := by decide +kernel
theorem dX4_map_110 : decode cX4_map 110 = .ok (.iand, 1) := by decide +kernel
theorem dX4_map_111 : decode cX4_map 111 = .ok (.ifCond .ne 19, 3) := by decide +kernel
theorem dX4_map_114 : decode cX4_map 114 = .ok (.aload_n 0, 1) := by decide +kernel
theorem dX4_map_115 : decode cX4_map 115 = .ok (.iload_n 2, 1) := by decide +kernel
theorem dX4_map_116 : decode cX4_map 116 = .ok (.ifCond .ne 7, 3) := by decide +kernel
theorem dX4_map_119 : decode cX4_map 119 = .ok (.iconst 3, 1) := by decide +kernel
theorem dX4_map_120 : decode cX4_map 120 = .ok (.goto 4, 3) := by decide +kernel
theorem dX4_map_123 : decode cX4_map 123 = .ok (.iload_n 2, 1) := by decide +kernel
theorem dX4_map_124 : decode cX4_map 124 = .ok (.iload_n 1, 1) := by decide +kernel
theorem dX4_map_125 : decode cX4_map 125 = .ok (.iconst 2, 1) := by decide +kernel
theorem dX4_map_126 : decode cX4_map 126 = .ok (.invokevirtual 55, 3) := by decide +kernel
theorem dX4_map_129 : decode cX4_map 129 = .ok (.ireturn, 1) := by decide +kernel
theorem dX4_map_130 : decode cX4_map 130 = .ok (.aload_n 0, 1) := by decide +kernel
theorem dX4_map_131 : decode cX4_map 131 = .ok (.invokevirtual 59, 3) := by decide +kernel
theorem dX4_map_134 : decode cX4_map 134 = .ok (.ifCond .eq 20, 3) := by decide +kernel
theorem dX4_map_137 : decode cX4_map 137 = .ok (.iload 5, 2) := by decide +kernel
theorem dX4_map_139 : decode cX4_map 139 = .ok (.bipush 12, 2) := by decide +kernel
theorem dX4_map_141 : decode cX4_map 141 = .ok (.iand, 1) := by decide +kernel
theorem dX4_map_142 : decode cX4_map 142 = .ok (.ifCond .ne 12, 3) := by decide +kernel
theorem dX4_map_145 : decode cX4_map 145 = .ok (.aload_n 0, 1) := by decide +kernel
theorem dX4_map_146 : decode cX4_map 146 = .ok (.bipush 7, 2) := by decide +kernel
theorem dX4_map_148 : decode cX4_map 148 = .ok (.iload_n 1, 1) := by decide +kernel
theorem dX4_map_149 : decode cX4_map 149 = .ok (.iconst 2, 1) := by decide +kernel
theorem dX4_map_150 : decode cX4_map 150 = .ok (.invokevirtual 55, 3) := by decide +kernel
theorem dX4_map_153 : decode cX4_map 153 = .ok (.ireturn, 1) := by decide +kernel
theorem dX4_map_154 : decode cX4_map 154 = .ok (.iload_n 2, 1) := by decide +kernel
theorem dX4_map_155 : decode cX4_map 155 = .ok (.iconst 2, 1) := by decide +kernel
theorem dX4_map_156 : decode cX4_map 156 = .ok (.if_icmp .ne 18, 3) := by decide +kernel
theorem dX4_map_159 : decode cX4_map 159 = .ok (.iload 5, 2) := by decide +kernel
theorem dX4_map_161 : decode cX4_map 161 = .ok (.iconst 2, 1) := by decide +kernel
theorem dX4_map_162 : decode cX4_map 162 = .ok (.iand, 1) := by decide +kernel
theorem dX4_map_163 : decode cX4_map 163 = .ok (.ifCond .ne 11, 3) := by decide +kernel
theorem dX4_map_166 : decode cX4_map 166 = .ok (.aload_n 0, 1) := by decide +kernel
theorem dX4_map_167 : decode cX4_map 167 = .ok (.iconst 4, 1) := by decide +kernel
theorem dX4_map_168 : decode cX4_map 168 = .ok (.iload_n 1, 1) := by decide +kernel
theorem dX4_map_169 : decode cX4_map 169 = .ok (.iconst 2, 1) := by decide +kernel
theorem dX4_map_170 : decode cX4_map 170 = .ok (.invokevirtual 55, 3) := by decide +kernel
theorem dX4_map_173 : decode cX4_map 173 = .ok (.ireturn, 1) := by decide +kernel
theorem dX4_map_174 : decode cX4_map 174 = .ok (.aload_n 0, 1) := by decide +kernel
theorem dX4_map_175 : decode cX4_map 175 = .ok (.iload_n 1, 1) := by decide +kernel
theorem dX4_map_176 : decode cX4_map 176 = .ok (.bipush 63, 2) := by decide +kernel
theorem dX4_map_178 : decode cX4_map 178 = .ok (.iand, 1) := by decide +kernel
theorem dX4_map_179 : decode cX4_map 179 = .ok (.bipush 64, 2) := by decide +kernel
theorem dX4_map_181 : decode cX4_map 181 = .ok (.iload 5, 2) := by decide +kernel
theorem dX4_map_183 : decode cX4_map 183 = .ok (.bipush 6, 2) := by decide +kernel
theorem dX4_map_185 : decode cX4_map 185 = .ok (.ishr, 1) := by decide +kernel
theorem dX4_map_186 : decode cX4_map 186 = .ok (.bipush 31, 2) := by decide +kernel
theorem dX4_map_188 : decode cX4_map 188 = .ok (.iand, 1) := by decide +kernel
theorem dX4_map_189 : decode cX4_map 189 = .ok (.imul, 1) := by decide +kernel
theorem dX4_map_190 : decode cX4_map 190 = .ok (.iadd, 1) := by decide +kernel
theorem dX4_map_191 : decode cX4_map 191 = .ok (.putfield 68, 3) := by decide +kernel
theorem dX4_map_194 : decode cX4_map 194 = .ok (.iconst (-1), 1) := by decide +kernel
theorem dX4_map_195 : decode cX4_map 195 = .ok (.ireturn, 1) := by decide +kernel
theorem dX4_write_0 : decode cX4_write 0 = .ok (.iload_n 1, 1) := by decide +kernel
theorem dX4_write_1 : decode cX4_write 1 = .ok (.iconst 3, 1) := by decide +kernel
theorem dX4_write_2 : decode cX4_write 2 = .ok (.if_icmp .ne 37, 3) := by decide +kernel
theorem dX4_write_5 : decode cX4_write 5 = .ok (.aload_n 0, 1) := by decide +kernel
theorem dX4_write_6 : decode cX4_write 6 = .ok (.getfield 16, 3) := by decide +kernel
theorem dX4_write_9 : decode cX4_write 9 = .ok (.iconst 3, 1) := by decide +kernel
theorem dX4_write_10 : decode cX4_write 10 = .ok (.iload_n 2, 1) := by decide +kernel
theorem dX4_write_11 : decode cX4_write 11 = .ok (.iload_n 3, 1) := by decide +kernel
theorem dX4_write_12 : decode cX4_write 12 = .ok (.iand, 1) := by decide +kernel
theorem dX4_write_13 : decode cX4_write 13 = .ok (.bipush 16, 2) := by decide +kernel
theorem dX4_write_15 : decode cX4_write 15 = .ok (.iand, 1) := by decide +kernel
theorem dX4_write_16 : decode cX4_write 16 = .ok (.ifCond .eq 15, 3) := by decide +kernel
theorem dX4_write_19 : decode cX4_write 19 = .ok (.aload_n 0, 1) := by decide +kernel
theorem dX4_write_20 : decode cX4_write 20 = .ok (.getfield 16, 3) := by decide +kernel
theorem dX4_write_23 : decode cX4_write 23 = .ok (.iconst 3, 1) := by decide +kernel
theorem dX4_write_24 : decode cX4_write 24 = .ok (.iaload, 1) := by decide +kernel
theorem dX4_write_25 : decode cX4_write 25 = .ok (.bipush (-17), 2) := by decide +kernel
theorem dX4_write_27 : decode cX4_write 27 = .ok (.iand, 1) := by decide +kernel
theorem dX4_write_28 : decode cX4_write 28 = .ok (.goto 9, 3) := by decide +kernel
theorem dX4_write_31 : decode cX4_write 31 = .ok (.aload_n 0, 1) := by decide +kernel
theorem dX4_write_32 : decode cX4_write 32 = .ok (.getfield 16, 3) := by decide +kernel
theorem dX4_write_35 : decode cX4_write 35 = .ok (.iconst 3, 1) := by decide +kernel
theorem dX4_write_36 : decode cX4_write 36 = .ok (.iaload, 1) := by decide +kernel
theorem dX4_write_37 : decode cX4_write 37 = .ok (.iastore, 1) := by decide +kernel
theorem dX4_write_38 : decode cX4_write 38 = .ok (.return_, 1) := by decide +kernel
theorem dX4_write_39 : decode cX4_write 39 = .ok (.aload_n 0, 1) := by decide +kernel
theorem dX4_write_40 : decode cX4_write 40 = .ok (.getfield 16, 3) := by decide +kernel
theorem dX4_write_43 : decode cX4_write 43 = .ok (.iload_n 1, 1) := by decide +kernel
theorem dX4_write_44 : decode cX4_write 44 = .ok (.iaload, 1) := by decide +kernel
theorem dX4_write_45 : decode cX4_write 45 = .ok (.iload_n 2, 1) := by decide +kernel
theorem dX4_write_46 : decode cX4_write 46 = .ok (.iconst (-1), 1) := by decide +kernel
theorem dX4_write_47 : decode cX4_write 47 = .ok (.ixor, 1) := by decide +kernel
theorem dX4_write_48 : decode cX4_write 48 = .ok (.iand, 1) := by decide +kernel
theorem dX4_write_49 : decode cX4_write 49 = .ok (.iload_n 3, 1) := by decide +kernel
theorem dX4_write_50 : decode cX4_write 50 = .ok (.iload_n 2, 1) := by decide +kernel
theorem dX4_write_51 : decode cX4_write 51 = .ok (.iand, 1) := by decide +kernel
theorem dX4_write_52 : decode cX4_write 52 = .ok (.ior, 1) := by decide +kernel
theorem dX4_write_53 : decode cX4_write 53 = .ok (.istore 4, 2) := by decide +kernel
theorem dX4_write_55 : decode cX4_write 55 = .ok (.iload_n 1, 1) := by decide +kernel
theorem dX4_write_56 : decode cX4_write 56 = .ok (.iconst 2, 1) := by decide +kernel
theorem dX4_write_57 : decode cX4_write 57 = .ok (.if_icmp .ge 16, 3) := by decide +kernel
theorem dX4_write_60 : decode cX4_write 60 = .ok (.iload 4, 2) := by decide +kernel
theorem dX4_write_62 : decode cX4_write 62 = .ok (.iconst 3, 1) := by decide +kernel
theorem dX4_write_63 : decode cX4_write 63 = .ok (.iand, 1) := by decide +kernel
theorem dX4_write_64 : decode cX4_write 64 = .ok (.ifCond .eq 9, 3) := by decide +kernel
theorem dX4_write_67 : decode cX4_write 67 = .ok (.iload 4, 2) := by decide +kernel
theorem dX4_write_69 : decode cX4_write 69 = .ok (.iconst 3, 1) := by decide +kernel
theorem dX4_write_70 : decode cX4_write 70 = .ok (.ior, 1) := by decide +kernel
theorem dX4_write_71 : decode cX4_write 71 = .ok (.istore 4, 2) := by decide +kernel
theorem dX4_write_73 : decode cX4_write 73 = .ok (.iload_n 1, 1) := by decide +kernel
theorem dX4_write_74 : decode cX4_write 74 = .ok (.bipush 9, 2) := by decide +kernel
theorem dX4_write_76 : decode cX4_write 76 = .ok (.if_icmp .eq 9, 3) := by decide +kernel
theorem dX4_write_79 : decode cX4_write 79 = .ok (.iload_n 1, 1) := by decide +kernel
theorem dX4_write_80 : decode cX4_write 80 = .ok (.bipush 10, 2) := by decide +kernel
theorem dX4_write_82 : decode cX4_write 82 = .ok (.if_icmp .ne 18, 3) := by decide +kernel
theorem dX4_write_85 : decode cX4_write 85 = .ok (.iload 4, 2) := by decide +kernel
theorem dX4_write_87 : decode cX4_write 87 = .ok (.bipush 12, 2) := by decide +kernel
theorem dX4_write_89 : decode cX4_write 89 = .ok (.iand, 1) := by decide +kernel
theorem dX4_write_90 : decode cX4_write 90 = .ok (.ifCond .eq 10, 3) := by decide +kernel
theorem dX4_write_93 : decode cX4_write 93 = .ok (.iload 4, 2) := by decide +kernel
theorem dX4_write_95 : decode cX4_write 95 = .ok (.bipush 12, 2) := by decide +kernel
theorem dX4_write_97 : decode cX4_write 97 = .ok (.ior, 1) := by decide +kernel
theorem dX4_write_98 : decode cX4_write 98 = .ok (.istore 4, 2) := by decide +kernel
theorem dX4_write_100 : decode cX4_write 100 = .ok (.aload_n 0, 1) := by decide +kernel
theorem dX4_write_101 : decode cX4_write 101 = .ok (.getfield 16, 3) := by decide +kernel
theorem dX4_write_104 : decode cX4_write 104 = .ok (.iload_n 1, 1) := by decide +kernel
theorem dX4_write_105 : decode cX4_write 105 = .ok (.aload_n 0, 1) := by decide +kernel
theorem dX4_write_106 : decode cX4_write 106 = .ok (.getfield 16, 3) := by decide +kernel
theorem dX4_write_109 : decode cX4_write 109 = .ok (.iload_n 1, 1) := by decide +kernel
theorem dX4_write_110 : decode cX4_write 110 = .ok (.iaload, 1) := by decide +kernel
theorem dX4_write_111 : decode cX4_write 111 = .ok (.aload_n 0, 1) := by decide +kernel
theorem dX4_write_112 : decode cX4_write 112 = .ok (.getfield 22, 3) := by decide +kernel
theorem dX4_write_115 : decode cX4_write 115 = .ok (.iload_n 1, 1) := by decide +kernel
theorem dX4_write_116 : decode cX4_write 116 = .ok (.iaload, 1) := by decide +kernel
theorem dX4_write_117 : decode cX4_write 117 = .ok (.iconst (-1), 1) := by decide +kernel
theorem dX4_write_118 : decode cX4_write 118 = .ok (.ixor, 1) := by decide +kernel
theorem dX4_write_119 : decode cX4_write 119 = .ok (.iand, 1) := by decide +kernel
theorem dX4_write_120 : decode cX4_write 120 = .ok (.iload 4, 2) := by decide +kernel
theorem dX4_write_122 : decode cX4_write 122 = .ok (.aload_n 0, 1) := by decide +kernel
theorem dX4_write_123 : decode cX4_write 123 = .ok (.getfield 22, 3) := by decide +kernel
theorem dX4_write_126 : decode cX4_write 126 = .ok (.iload_n 1, 1) := by decide +kernel
theorem dX4_write_127 : decode cX4_write 127 = .ok (.iaload, 1) := by decide +kernel
theorem dX4_write_128 : decode cX4_write 128 = .ok (.iand, 1) := by decide +kernel
theorem dX4_write_129 : decode cX4_write 129 = .ok (.ior, 1) := by decide +kernel
theorem dX4_write_130 : decode cX4_write 130 = .ok (.iastore, 1) := by decide +kernel
theorem dX4_write_131 : decode cX4_write 131 = .ok (.iload_n 1, 1) := by decide +kernel
theorem dX4_write_132 : decode cX4_write 132 = .ok (.bipush 14, 2) := by decide +kernel
theorem dX4_write_134 : decode cX4_write 134 = .ok (.if_icmp .ne 20, 3) := by decide +kernel
theorem dX4_write_137 : decode cX4_write 137 = .ok (.aload_n 0, 1) := by decide +kernel
theorem dX4_write_138 : decode cX4_write 138 = .ok (.getfield 16, 3) := by decide +kernel
theorem dX4_write_141 : decode cX4_write 141 = .ok (.bipush 15, 2) := by decide +kernel
theorem dX4_write_143 : decode cX4_write 143 = .ok (.aload_n 0, 1) := by decide +kernel
theorem dX4_write_144 : decode cX4_write 144 = .ok (.getfield 16, 3) := by decide +kernel
theorem dX4_write_147 : decode cX4_write 147 = .ok (.bipush 14, 2) := by decide +kernel
theorem dX4_write_149 : decode cX4_write 149 = .ok (.iaload, 1) := by decide +kernel
theorem dX4_write_150 : decode cX4_write 150 = .ok (.ldc 82, 2) := by decide +kernel
theorem dX4_write_152 : decode cX4_write 152 = .ok (.iand, 1) := by decide +kernel
theorem dX4_write_153 : decode cX4_write 153 = .ok (.iastore, 1) := by decide +kernel
theorem dX4_write_154 : decode cX4_write 154 = .ok (.return_, 1) := by decide +kernel
set_option maxRecDepth 20000 in
theorem ggX4_search_X4_pairOf : GoodIn wsX4_search wsX4_pairOf := goodIn_r _ [6] (by decide +kernel) (by decide +kernel)
set_option maxRecDepth 20000 in
theorem gX4_search_X4_pairOf : GoodIn wsX4_search (va_wsS RX4 75 yX4_pairOf wsX4_pairOf) := goodIn_app (goodIn_of _ (by decide +kernel)) ggX4_search_X4_pairOf
set_option maxRecDepth 20000 in
theorem ggX4_search_X4_fits : GoodIn wsX4_search wsX4_fits := goodIn_r _ [10, 11, 12, 13, 14, 15, 16, 17, 18, 19, 20, 21, 22, 23, 24, 25, 26, 27, 28, 29, 30, 31, 32, 33, 34] (by decide +kernel) (by decide +kernel)
set_option maxRecDepth 20000 in
theorem gX4_search_X4_fits : GoodIn wsX4_search (wsV RX4 79 RX4 yX4_fits wsX4_fits) := goodIn_app (goodIn_of _ (by decide +kernel)) ggX4_search_X4_fits
theorem dX4_search_0 : decode cX4_search 0 = .ok (.iconst (-1), 1) := by decide +kernel
theorem dX4_search_1 : decode cX4_search 1 = .ok (.istore_n 1, 1) := by decide +kernel
theorem dX4_search_2 : decode cX4_search 2 = .ok (.iconst 3, 1) := by decide +kernel
theorem dX4_search_3 : decode cX4_search 3 = .ok (.istore_n 2, 1) := by decide +kernel
theorem dX4_search_4 : decode cX4_search 4 = .ok (.iload_n 2, 1) := by decide +kernel
theorem dX4_search_5 : decode cX4_search 5 = .ok (.ifCond .lt 40, 3) := by decide +kernel
theorem dX4_search_8 : decode cX4_search 8 = .ok (.aload_n 0, 1) := by decide +kernel
theorem dX4_search_9 : decode cX4_search 9 = .ok (.iload_n 2, 1) := by decide +kernel
theorem dX4_search_10 : decode cX4_search 10 = .ok (.aload_n 0, 1) := by decide +kernel
theorem dX4_search_11 : decode cX4_search 11 = .ok (.getfield 16, 3) := by decide +kernel
theorem dX4_search_14 : decode cX4_search 14 = .ok (.bipush 8, 2) := by decide +kernel
theorem dX4_search_16 : decode cX4_search 16 = .ok (.iaload, 1) := by decide +kernel
theorem dX4_search_17 : decode cX4_search 17 = .ok (.invokestatic 75, 3) := by decide +kernel
theorem dX4_search_20 : decode cX4_search 20 = .ok (.aload_n 0, 1) := by decide +kernel
theorem dX4_search_21 : decode cX4_search 21 = .ok (.getfield 16, 3) := by decide +kernel
theorem dX4_search_24 : decode cX4_search 24 = .ok (.bipush 11, 2) := by decide +kernel
theorem dX4_search_26 : decode cX4_search 26 = .ok (.iaload, 1) := by decide +kernel
theorem dX4_search_27 : decode cX4_search 27 = .ok (.invokevirtual 79, 3) := by decide +kernel
theorem dX4_search_30 : decode cX4_search 30 = .ok (.ifCond .eq 7, 3) := by decide +kernel
theorem dX4_search_33 : decode cX4_search 33 = .ok (.iload_n 2, 1) := by decide +kernel
theorem dX4_search_34 : decode cX4_search 34 = .ok (.goto 4, 3) := by decide +kernel
theorem dX4_search_37 : decode cX4_search 37 = .ok (.iload_n 1, 1) := by decide +kernel
theorem dX4_search_38 : decode cX4_search 38 = .ok (.istore_n 1, 1) := by decide +kernel
theorem dX4_search_39 : decode cX4_search 39 = .ok (.iinc 2 (-1), 3) := by decide +kernel
theorem dX4_search_42 : decode cX4_search 42 = .ok (.goto (-38), 3) := by decide +kernel
theorem dX4_search_45 : decode cX4_search 45 = .ok (.aload_n 0, 1) := by decide +kernel
theorem dX4_search_46 : decode cX4_search 46 = .ok (.getfield 16, 3) := by decide +kernel
theorem dX4_search_49 : decode cX4_search 49 = .ok (.bipush 7, 2) := by decide +kernel
theorem dX4_search_51 : decode cX4_search 51 = .ok (.iload_n 1, 1) := by decide +kernel
theorem dX4_search_52 : decode cX4_search 52 = .ok (.iconst (-1), 1) := by decide +kernel
theorem dX4_search_53 : decode cX4_search 53 = .ok (.if_icmp .ne 16, 3) := by decide +kernel
theorem dX4_search_56 : decode cX4_search 56 = .ok (.aload_n 0, 1) := by decide +kernel
theorem dX4_search_57 : decode cX4_search 57 = .ok (.getfield 16, 3) := by decide +kernel
theorem dX4_search_60 : decode cX4_search 60 = .ok (.bipush 7, 2) := by decide +kernel
theorem dX4_search_62 : decode cX4_search 62 = .ok (.iaload, 1) := by decide +kernel
theorem dX4_search_63 : decode cX4_search 63 = .ok (.ldc 83, 2) := by decide +kernel
theorem dX4_search_65 : decode cX4_search 65 = .ok (.ior, 1) := by decide +kernel
theorem dX4_search_66 : decode cX4_search 66 = .ok (.goto 4, 3) := by decide +kernel
theorem dX4_search_69 : decode cX4_search 69 = .ok (.iload_n 1, 1) := by decide +kernel
theorem dX4_search_70 : decode cX4_search 70 = .ok (.iastore, 1) := by decide +kernel
theorem dX4_search_71 : decode cX4_search 71 = .ok (.return_, 1) := by decide +kernel
theorem dX4_read_0 : decode cX4_read 0 = .ok (.aload_n 0, 1) := by decide +kernel
theorem dX4_read_1 : decode cX4_read 1 = .ok (.getfield 29, 3) := by decide +kernel
theorem dX4_read_4 : decode cX4_read 4 = .ok (.iload_n 1, 1) := by decide +kernel
theorem dX4_read_5 : decode cX4_read 5 = .ok (.baload, 1) := by decide +kernel
theorem dX4_read_6 : decode cX4_read 6 = .ok (.ifCond .eq 8, 3) := by decide +kernel
theorem dX4_read_9 : decode cX4_read 9 = .ok (.bipush 16, 2) := by decide +kernel
theorem dX4_read_11 : decode cX4_read 11 = .ok (.goto 4, 3) := by decide +kernel
theorem dX4_read_14 : decode cX4_read 14 = .ok (.iconst 0, 1) := by decide +kernel
theorem dX4_read_15 : decode cX4_read 15 = .ok (.istore_n 2, 1) := by decide +kernel
theorem dX4_read_16 : decode cX4_read 16 = .ok (.aload_n 0, 1) := by decide +kernel
theorem dX4_read_17 : decode cX4_read 17 = .ok (.getfield 16, 3) := by decide +kernel
theorem dX4_read_20 : decode cX4_read 20 = .ok (.bipush 7, 2) := by decide +kernel
theorem dX4_read_22 : decode cX4_read 22 = .ok (.aload_n 0, 1) := by decide +kernel
theorem dX4_read_23 : decode cX4_read 23 = .ok (.getfield 25, 3) := by decide +kernel
theorem dX4_read_26 : decode cX4_read 26 = .ok (.iload_n 1, 1) := by decide +kernel
theorem dX4_read_27 : decode cX4_read 27 = .ok (.baload, 1) := by decide +kernel
theorem dX4_read_28 : decode cX4_read 28 = .ok (.ifCond .eq 7, 3) := by decide +kernel
theorem dX4_read_31 : decode cX4_read 31 = .ok (.iload_n 1, 1) := by decide +kernel
theorem dX4_read_32 : decode cX4_read 32 = .ok (.goto 7, 3) := by decide +kernel
theorem dX4_read_35 : decode cX4_read 35 = .ok (.iload_n 1, 1) := by decide +kernel
theorem dX4_read_36 : decode cX4_read 36 = .ok (.ldc 83, 2) := by decide +kernel
theorem dX4_read_38 : decode cX4_read 38 = .ok (.ior, 1) := by decide +kernel
theorem dX4_read_39 : decode cX4_read 39 = .ok (.iastore, 1) := by decide +kernel
theorem dX4_read_40 : decode cX4_read 40 = .ok (.aload_n 0, 1) := by decide +kernel
theorem dX4_read_41 : decode cX4_read 41 = .ok (.getfield 16, 3) := by decide +kernel
theorem dX4_read_44 : decode cX4_read 44 = .ok (.bipush 8, 2) := by decide +kernel
theorem dX4_read_46 : decode cX4_read 46 = .ok (.aload_n 0, 1) := by decide +kernel
theorem dX4_read_47 : decode cX4_read 47 = .ok (.getfield 25, 3) := by decide +kernel
theorem dX4_read_50 : decode cX4_read 50 = .ok (.iload_n 1, 1) := by decide +kernel
theorem dX4_read_51 : decode cX4_read 51 = .ok (.baload, 1) := by decide +kernel
theorem dX4_read_52 : decode cX4_read 52 = .ok (.ifCond .eq 15, 3) := by decide +kernel
theorem dX4_read_55 : decode cX4_read 55 = .ok (.aload_n 0, 1) := by decide +kernel
theorem dX4_read_56 : decode cX4_read 56 = .ok (.getfield 32, 3) := by decide +kernel
theorem dX4_read_59 : decode cX4_read 59 = .ok (.iload_n 1, 1) := by decide +kernel
theorem dX4_read_60 : decode cX4_read 60 = .ok (.iaload, 1) := by decide +kernel
theorem dX4_read_61 : decode cX4_read 61 = .ok (.bipush 7, 2) := by decide +kernel
theorem dX4_read_63 : decode cX4_read 63 = .ok (.ishl, 1) := by decide +kernel
theorem dX4_read_64 : decode cX4_read 64 = .ok (.goto 4, 3) := by decide +kernel
theorem dX4_read_67 : decode cX4_read 67 = .ok (.iconst 0, 1) := by decide +kernel
theorem dX4_read_68 : decode cX4_read 68 = .ok (.iastore, 1) := by decide +kernel
theorem dX4_read_69 : decode cX4_read 69 = .ok (.aload_n 0, 1) := by decide +kernel
theorem dX4_read_70 : decode cX4_read 70 = .ok (.getfield 16, 3) := by decide +kernel
theorem dX4_read_73 : decode cX4_read 73 = .ok (.bipush 9, 2) := by decide +kernel
theorem dX4_read_75 : decode cX4_read 75 = .ok (.aload_n 0, 1) := by decide +kernel
theorem dX4_read_76 : decode cX4_read 76 = .ok (.getfield 25, 3) := by decide +kernel
theorem dX4_read_79 : decode cX4_read 79 = .ok (.iload_n 1, 1) := by decide +kernel
theorem dX4_read_80 : decode cX4_read 80 = .ok (.baload, 1) := by decide +kernel
theorem dX4_read_81 : decode cX4_read 81 = .ok (.ifCond .eq 16, 3) := by decide +kernel
theorem dX4_read_84 : decode cX4_read 84 = .ok (.aload_n 0, 1) := by decide +kernel
theorem dX4_read_85 : decode cX4_read 85 = .ok (.getfield 38, 3) := by decide +kernel
theorem dX4_read_88 : decode cX4_read 88 = .ok (.iconst 2, 1) := by decide +kernel
theorem dX4_read_89 : decode cX4_read 89 = .ok (.iload_n 1, 1) := by decide +kernel
theorem dX4_read_90 : decode cX4_read 90 = .ok (.imul, 1) := by decide +kernel
theorem dX4_read_91 : decode cX4_read 91 = .ok (.iaload, 1) := by decide +kernel
theorem dX4_read_92 : decode cX4_read 92 = .ok (.iload_n 2, 1) := by decide +kernel
theorem dX4_read_93 : decode cX4_read 93 = .ok (.iadd, 1) := by decide +kernel
theorem dX4_read_94 : decode cX4_read 94 = .ok (.goto 4, 3) := by decide +kernel
theorem dX4_read_97 : decode cX4_read 97 = .ok (.iconst 0, 1) := by decide +kernel
theorem dX4_read_98 : decode cX4_read 98 = .ok (.iastore, 1) := by decide +kernel
theorem dX4_read_99 : decode cX4_read 99 = .ok (.aload_n 0, 1) := by decide +kernel
theorem dX4_read_100 : decode cX4_read 100 = .ok (.getfield 16, 3) := by decide +kernel
theorem dX4_read_103 : decode cX4_read 103 = .ok (.bipush 10, 2) := by decide +kernel
theorem dX4_read_105 : decode cX4_read 105 = .ok (.aload_n 0, 1) := by decide +kernel
theorem dX4_read_106 : decode cX4_read 106 = .ok (.getfield 25, 3) := by decide +kernel
theorem dX4_read_109 : decode cX4_read 109 = .ok (.iload_n 1, 1) := by decide +kernel
theorem dX4_read_110 : decode cX4_read 110 = .ok (.baload, 1) := by decide +kernel
theorem dX4_read_111 : decode cX4_read 111 = .ok (.ifCond .eq 18, 3) := by decide +kernel
theorem dX4_read_114 : decode cX4_read 114 = .ok (.aload_n 0, 1) := by decide +kernel
theorem dX4_read_115 : decode cX4_read 115 = .ok (.getfield 38, 3) := by decide +kernel
theorem dX4_read_118 : decode cX4_read 118 = .ok (.iconst 2, 1) := by decide +kernel
theorem dX4_read_119 : decode cX4_read 119 = .ok (.iload_n 1, 1) := by decide +kernel
theorem dX4_read_120 : decode cX4_read 120 = .ok (.imul, 1) := by decide +kernel
theorem dX4_read_121 : decode cX4_read 121 = .ok (.iconst 1, 1) := by decide +kernel
theorem dX4_read_122 : decode cX4_read 122 = .ok (.iadd, 1) := by decide +kernel
theorem dX4_read_123 : decode cX4_read 123 = .ok (.iaload, 1) := by decide +kernel
theorem dX4_read_124 : decode cX4_read 124 = .ok (.iload_n 2, 1) := by decide +kernel
theorem dX4_read_125 : decode cX4_read 125 = .ok (.iadd, 1) := by decide +kernel
theorem dX4_read_126 : decode cX4_read 126 = .ok (.goto 4, 3) := by decide +kernel
theorem dX4_read_129 : decode cX4_read 129 = .ok (.iconst 0, 1) := by decide +kernel
theorem dX4_read_130 : decode cX4_read 130 = .ok (.iastore, 1) := by decide +kernel
theorem dX4_read_131 : decode cX4_read 131 = .ok (.aload_n 0, 1) := by decide +kernel
theorem dX4_read_132 : decode cX4_read 132 = .ok (.getfield 16, 3) := by decide +kernel
theorem dX4_read_135 : decode cX4_read 135 = .ok (.bipush 11, 2) := by decide +kernel
theorem dX4_read_137 : decode cX4_read 137 = .ok (.aload_n 0, 1) := by decide +kernel
theorem dX4_read_138 : decode cX4_read 138 = .ok (.getfield 25, 3) := by decide +kernel
theorem dX4_read_141 : decode cX4_read 141 = .ok (.iload_n 1, 1) := by decide +kernel
theorem dX4_read_142 : decode cX4_read 142 = .ok (.baload, 1) := by decide +kernel
theorem dX4_read_143 : decode cX4_read 143 = .ok (.ifCond .eq 12, 3) := by decide +kernel
theorem dX4_read_146 : decode cX4_read 146 = .ok (.aload_n 0, 1) := by decide +kernel
theorem dX4_read_147 : decode cX4_read 147 = .ok (.getfield 35, 3) := by decide +kernel
theorem dX4_read_150 : decode cX4_read 150 = .ok (.iload_n 1, 1) := by decide +kernel
theorem dX4_read_151 : decode cX4_read 151 = .ok (.iaload, 1) := by decide +kernel
theorem dX4_read_152 : decode cX4_read 152 = .ok (.goto 10, 3) := by decide +kernel
theorem dX4_read_155 : decode cX4_read 155 = .ok (.aload_n 0, 1) := by decide +kernel
theorem dX4_read_156 : decode cX4_read 156 = .ok (.getfield 16, 3) := by decide +kernel
theorem dX4_read_159 : decode cX4_read 159 = .ok (.bipush 11, 2) := by decide +kernel
theorem dX4_read_161 : decode cX4_read 161 = .ok (.iaload, 1) := by decide +kernel
theorem dX4_read_162 : decode cX4_read 162 = .ok (.iastore, 1) := by decide +kernel
theorem dX4_read_163 : decode cX4_read 163 = .ok (.return_, 1) := by decide +kernel
set_option maxRecDepth 20000 in
theorem ggX4_fill_X4_pairOf : GoodIn wsX4_fill wsX4_pairOf := goodIn_r _ [10] (by decide +kernel) (by decide +kernel)
set_option maxRecDepth 20000 in
theorem gX4_fill_X4_pairOf : GoodIn wsX4_fill (va_wsS RX4 75 yX4_pairOf wsX4_pairOf) := goodIn_app (goodIn_of _ (by decide +kernel)) ggX4_fill_X4_pairOf
set_option maxRecDepth 20000 in
theorem ggX4_fill_X4_codeOf : GoodIn wsX4_fill wsX4_codeOf := goodIn_r _ [14, 2, 15, 16, 17, 18, 19, 20, 21, 22, 23, 24, 25, 26, 27, 28, 29, 30, 31, 32, 33, 34] (by decide +kernel) (by decide +kernel)
set_option maxRecDepth 20000 in
theorem gX4_fill_X4_codeOf : GoodIn wsX4_fill (wsV RX4 84 RX4 yX4_codeOf wsX4_codeOf) := goodIn_app (goodIn_of _ (by decide +kernel)) ggX4_fill_X4_codeOf
theorem dX4_fill_0 : decode cX4_fill 0 = .ok (.aload_n 0, 1) := by decide +kernel
theorem dX4_fill_1 : decode cX4_fill 1 = .ok (.getfield 32, 3) := by decide +kernel
theorem dX4_fill_4 : decode cX4_fill 4 = .ok (.iload_n 1, 1) := by decide +kernel
theorem dX4_fill_5 : decode cX4_fill 5 = .ok (.aload_n 0, 1) := by decide +kernel
theorem dX4_fill_6 : decode cX4_fill 6 = .ok (.getfield 16, 3) := by decide +kernel
theorem dX4_fill_9 : decode cX4_fill 9 = .ok (.bipush 8, 2) := by decide +kernel
theorem dX4_fill_11 : decode cX4_fill 11 = .ok (.iaload, 1) := by decide +kernel
theorem dX4_fill_12 : decode cX4_fill 12 = .ok (.invokestatic 75, 3) := by decide +kernel
theorem dX4_fill_15 : decode cX4_fill 15 = .ok (.iastore, 1) := by decide +kernel
theorem dX4_fill_16 : decode cX4_fill 16 = .ok (.aload_n 0, 1) := by decide +kernel
theorem dX4_fill_17 : decode cX4_fill 17 = .ok (.getfield 35, 3) := by decide +kernel
theorem dX4_fill_20 : decode cX4_fill 20 = .ok (.iload_n 1, 1) := by decide +kernel
theorem dX4_fill_21 : decode cX4_fill 21 = .ok (.aload_n 0, 1) := by decide +kernel
theorem dX4_fill_22 : decode cX4_fill 22 = .ok (.getfield 16, 3) := by decide +kernel
theorem dX4_fill_25 : decode cX4_fill 25 = .ok (.bipush 11, 2) := by decide +kernel
theorem dX4_fill_27 : decode cX4_fill 27 = .ok (.iaload, 1) := by decide +kernel
theorem dX4_fill_28 : decode cX4_fill 28 = .ok (.iastore, 1) := by decide +kernel
theorem dX4_fill_29 : decode cX4_fill 29 = .ok (.aload_n 0, 1) := by decide +kernel
theorem dX4_fill_30 : decode cX4_fill 30 = .ok (.getfield 29, 3) := by decide +kernel
theorem dX4_fill_33 : decode cX4_fill 33 = .ok (.iload_n 1, 1) := by decide +kernel
theorem dX4_fill_34 : decode cX4_fill 34 = .ok (.aload_n 0, 1) := by decide +kernel
theorem dX4_fill_35 : decode cX4_fill 35 = .ok (.getfield 16, 3) := by decide +kernel
theorem dX4_fill_38 : decode cX4_fill 38 = .ok (.bipush 9, 2) := by decide +kernel
theorem dX4_fill_40 : decode cX4_fill 40 = .ok (.iaload, 1) := by decide +kernel
theorem dX4_fill_41 : decode cX4_fill 41 = .ok (.bipush 16, 2) := by decide +kernel
theorem dX4_fill_43 : decode cX4_fill 43 = .ok (.iand, 1) := by decide +kernel
theorem dX4_fill_44 : decode cX4_fill 44 = .ok (.ifCond .eq 20, 3) := by decide +kernel
theorem dX4_fill_47 : decode cX4_fill 47 = .ok (.aload_n 0, 1) := by decide +kernel
theorem dX4_fill_48 : decode cX4_fill 48 = .ok (.getfield 16, 3) := by decide +kernel
theorem dX4_fill_51 : decode cX4_fill 51 = .ok (.bipush 10, 2) := by decide +kernel
theorem dX4_fill_53 : decode cX4_fill 53 = .ok (.iaload, 1) := by decide +kernel
theorem dX4_fill_54 : decode cX4_fill 54 = .ok (.bipush 16, 2) := by decide +kernel
theorem dX4_fill_56 : decode cX4_fill 56 = .ok (.iand, 1) := by decide +kernel
theorem dX4_fill_57 : decode cX4_fill 57 = .ok (.ifCond .eq 7, 3) := by decide +kernel
theorem dX4_fill_60 : decode cX4_fill 60 = .ok (.iconst 1, 1) := by decide +kernel
theorem dX4_fill_61 : decode cX4_fill 61 = .ok (.goto 4, 3) := by decide +kernel
theorem dX4_fill_64 : decode cX4_fill 64 = .ok (.iconst 0, 1) := by decide +kernel
theorem dX4_fill_65 : decode cX4_fill 65 = .ok (.bastore, 1) := by decide +kernel
theorem dX4_fill_66 : decode cX4_fill 66 = .ok (.aload_n 0, 1) := by decide +kernel
theorem dX4_fill_67 : decode cX4_fill 67 = .ok (.getfield 38, 3) := by decide +kernel
theorem dX4_fill_70 : decode cX4_fill 70 = .ok (.iconst 2, 1) := by decide +kernel
theorem dX4_fill_71 : decode cX4_fill 71 = .ok (.iload_n 1, 1) := by decide +kernel
theorem dX4_fill_72 : decode cX4_fill 72 = .ok (.imul, 1) := by decide +kernel
theorem dX4_fill_73 : decode cX4_fill 73 = .ok (.aload_n 0, 1) := by decide +kernel
theorem dX4_fill_74 : decode cX4_fill 74 = .ok (.getfield 16, 3) := by decide +kernel
theorem dX4_fill_77 : decode cX4_fill 77 = .ok (.bipush 9, 2) := by decide +kernel
theorem dX4_fill_79 : decode cX4_fill 79 = .ok (.iaload, 1) := by decide +kernel
theorem dX4_fill_80 : decode cX4_fill 80 = .ok (.bipush (-17), 2) := by decide +kernel
theorem dX4_fill_82 : decode cX4_fill 82 = .ok (.iand, 1) := by decide +kernel
theorem dX4_fill_83 : decode cX4_fill 83 = .ok (.iastore, 1) := by decide +kernel
theorem dX4_fill_84 : decode cX4_fill 84 = .ok (.aload_n 0, 1) := by decide +kernel
theorem dX4_fill_85 : decode cX4_fill 85 = .ok (.getfield 38, 3) := by decide +kernel
theorem dX4_fill_88 : decode cX4_fill 88 = .ok (.iconst 2, 1) := by decide +kernel
theorem dX4_fill_89 : decode cX4_fill 89 = .ok (.iload_n 1, 1) := by decide +kernel
theorem dX4_fill_90 : decode cX4_fill 90 = .ok (.imul, 1) := by decide +kernel
theorem dX4_fill_91 : decode cX4_fill 91 = .ok (.iconst 1, 1) := by decide +kernel
theorem dX4_fill_92 : decode cX4_fill 92 = .ok (.iadd, 1) := by decide +kernel
theorem dX4_fill_93 : decode cX4_fill 93 = .ok (.aload_n 0, 1) := by decide +kernel
theorem dX4_fill_94 : decode cX4_fill 94 = .ok (.getfield 16, 3) := by decide +kernel
theorem dX4_fill_97 : decode cX4_fill 97 = .ok (.bipush 10, 2) := by decide +kernel
theorem dX4_fill_99 : decode cX4_fill 99 = .ok (.iaload, 1) := by decide +kernel
theorem dX4_fill_100 : decode cX4_fill 100 = .ok (.bipush (-17), 2) := by decide +kernel
theorem dX4_fill_102 : decode cX4_fill 102 = .ok (.iand, 1) := by decide +kernel
theorem dX4_fill_103 : decode cX4_fill 103 = .ok (.iastore, 1) := by decide +kernel
theorem dX4_fill_104 : decode cX4_fill 104 = .ok (.aload_n 0, 1) := by decide +kernel
theorem dX4_fill_105 : decode cX4_fill 105 = .ok (.getfield 25, 3) := by decide +kernel
theorem dX4_fill_108 : decode cX4_fill 108 = .ok (.iload_n 1, 1) := by decide +kernel
theorem dX4_fill_109 : decode cX4_fill 109 = .ok (.aload_n 0, 1) := by decide +kernel
theorem dX4_fill_110 : decode cX4_fill 110 = .ok (.getfield 16, 3) := by decide +kernel
theorem dX4_fill_113 : decode cX4_fill 113 = .ok (.bipush 7, 2) := by decide +kernel
theorem dX4_fill_115 : decode cX4_fill 115 = .ok (.iaload, 1) := by decide +kernel
theorem dX4_fill_116 : decode cX4_fill 116 = .ok (.ifCond .ge 12, 3) := by decide +kernel
theorem dX4_fill_119 : decode cX4_fill 119 = .ok (.aload_n 0, 1) := by decide +kernel
theorem dX4_fill_120 : decode cX4_fill 120 = .ok (.invokevirtual 84, 3) := by decide +kernel
theorem dX4_fill_123 : decode cX4_fill 123 = .ok (.bipush 63, 2) := by decide +kernel
theorem dX4_fill_125 : decode cX4_fill 125 = .ok (.if_icmp .ne 7, 3) := by decide +kernel
theorem dX4_fill_128 : decode cX4_fill 128 = .ok (.iconst 1, 1) := by decide +kernel
theorem dX4_fill_129 : decode cX4_fill 129 = .ok (.goto 4, 3) := by decide +kernel
theorem dX4_fill_132 : decode cX4_fill 132 = .ok (.iconst 0, 1) := by decide +kernel
theorem dX4_fill_133 : decode cX4_fill 133 = .ok (.bastore, 1) := by decide +kernel
theorem dX4_fill_134 : decode cX4_fill 134 = .ok (.return_, 1) := by decide +kernel
set_option maxRecDepth 20000 in
theorem ggX4_empty_X4_with : GoodIn wsX4_empty wsX4_with := goodIn_r _ [9, 10, 11, 15, 16, 17, 18, 19, 20, 21, 22, 23, 24, 25, 26, 27, 28, 29, 30, 31, 32, 33, 34] (by decide +kernel) (by decide +kernel)
set_option maxRecDepth 20000 in
theorem gX4_empty_X4_with : GoodIn wsX4_empty (wsV RX4 55 RX4 yX4_with wsX4_with) := goodIn_app (goodIn_of _ (by decide +kernel)) ggX4_empty_X4_with
set_option maxRecDepth 20000 in
theorem ggX4_empty_X4_pairOf : GoodIn wsX4_empty wsX4_pairOf := goodIn_r _ [14] (by decide +kernel) (by decide +kernel)
set_option maxRecDepth 20000 in
theorem gX4_empty_X4_pairOf : GoodIn wsX4_empty (va_wsS RX4 75 yX4_pairOf wsX4_pairOf) := goodIn_app (goodIn_of _ (by decide +kernel)) ggX4_empty_X4_pairOf
theorem dX4_empty_0 : decode cX4_empty 0 = .ok (.iload_n 1, 1) := by decide +kernel
theorem dX4_empty_1 : decode cX4_empty 1 = .ok (.iconst 4, 1) := by decide +kernel
theorem dX4_empty_2 : decode cX4_empty 2 = .ok (.if_icmp .le 12, 3) := by decide +kernel
theorem dX4_empty_5 : decode cX4_empty 5 = .ok (.aload_n 0, 1) := by decide +kernel
theorem dX4_empty_6 : decode cX4_empty 6 = .ok (.bipush 13, 2) := by decide +kernel
theorem dX4_empty_8 : decode cX4_empty 8 = .ok (.iconst 0, 1) := by decide +kernel
theorem dX4_empty_9 : decode cX4_empty 9 = .ok (.iconst 0, 1) := by decide +kernel
theorem dX4_empty_10 : decode cX4_empty 10 = .ok (.invokevirtual 55, 3) := by decide +kernel
theorem dX4_empty_13 : decode cX4_empty 13 = .ok (.ireturn, 1) := by decide +kernel
theorem dX4_empty_14 : decode cX4_empty 14 = .ok (.iconst 0, 1) := by decide +kernel
theorem dX4_empty_15 : decode cX4_empty 15 = .ok (.istore 4, 2) := by decide +kernel
theorem dX4_empty_17 : decode cX4_empty 17 = .ok (.iload 4, 2) := by decide +kernel
theorem dX4_empty_19 : decode cX4_empty 19 = .ok (.iconst 4, 1) := by decide +kernel
theorem dX4_empty_20 : decode cX4_empty 20 = .ok (.if_icmp .ge 115, 3) := by decide +kernel
theorem dX4_empty_23 : decode cX4_empty 23 = .ok (.iload_n 1, 1) := by decide +kernel
theorem dX4_empty_24 : decode cX4_empty 24 = .ok (.ifCond .eq 23, 3) := by decide +kernel
theorem dX4_empty_27 : decode cX4_empty 27 = .ok (.aload_n 0, 1) := by decide +kernel
theorem dX4_empty_28 : decode cX4_empty 28 = .ok (.getfield 29, 3) := by decide +kernel
theorem dX4_empty_31 : decode cX4_empty 31 = .ok (.iload 4, 2) := by decide +kernel
theorem dX4_empty_33 : decode cX4_empty 33 = .ok (.baload, 1) := by decide +kernel
theorem dX4_empty_34 : decode cX4_empty 34 = .ok (.iload_n 1, 1) := by decide +kernel
theorem dX4_empty_35 : decode cX4_empty 35 = .ok (.iconst 1, 1) := by decide +kernel
theorem dX4_empty_36 : decode cX4_empty 36 = .ok (.if_icmp .ne 7, 3) := by decide +kernel
theorem dX4_empty_39 : decode cX4_empty 39 = .ok (.iconst 1, 1) := by decide +kernel
theorem dX4_empty_40 : decode cX4_empty 40 = .ok (.goto 4, 3) := by decide +kernel
theorem dX4_empty_43 : decode cX4_empty 43 = .ok (.iconst 0, 1) := by decide +kernel
theorem dX4_empty_44 : decode cX4_empty 44 = .ok (.if_icmp .ne 7, 3) := by decide +kernel
theorem dX4_empty_47 : decode cX4_empty 47 = .ok (.iconst 1, 1) := by decide +kernel
theorem dX4_empty_48 : decode cX4_empty 48 = .ok (.goto 4, 3) := by decide +kernel
theorem dX4_empty_51 : decode cX4_empty 51 = .ok (.iconst 0, 1) := by decide +kernel
theorem dX4_empty_52 : decode cX4_empty 52 = .ok (.istore 5, 2) := by decide +kernel
theorem dX4_empty_54 : decode cX4_empty 54 = .ok (.iload_n 1, 1) := by decide +kernel
theorem dX4_empty_55 : decode cX4_empty 55 = .ok (.iconst 2, 1) := by decide +kernel
theorem dX4_empty_56 : decode cX4_empty 56 = .ok (.if_icmp .le 29, 3) := by decide +kernel
theorem dX4_empty_59 : decode cX4_empty 59 = .ok (.iload 5, 2) := by decide +kernel
theorem dX4_empty_61 : decode cX4_empty 61 = .ok (.ifCond .eq 21, 3) := by decide +kernel
theorem dX4_empty_64 : decode cX4_empty 64 = .ok (.aload_n 0, 1) := by decide +kernel
theorem dX4_empty_65 : decode cX4_empty 65 = .ok (.getfield 35, 3) := by decide +kernel
theorem dX4_empty_68 : decode cX4_empty 68 = .ok (.iload 4, 2) := by decide +kernel
theorem dX4_empty_70 : decode cX4_empty 70 = .ok (.iaload, 1) := by decide +kernel
theorem dX4_empty_71 : decode cX4_empty 71 = .ok (.iload_n 2, 1) := by decide +kernel
theorem dX4_empty_72 : decode cX4_empty 72 = .ok (.bipush 15, 2) := by decide +kernel
theorem dX4_empty_74 : decode cX4_empty 74 = .ok (.iand, 1) := by decide +kernel
theorem dX4_empty_75 : decode cX4_empty 75 = .ok (.if_icmp .ne 7, 3) := by decide +kernel
theorem dX4_empty_78 : decode cX4_empty 78 = .ok (.iconst 1, 1) := by decide +kernel
theorem dX4_empty_79 : decode cX4_empty 79 = .ok (.goto 4, 3) := by decide +kernel
theorem dX4_empty_82 : decode cX4_empty 82 = .ok (.iconst 0, 1) := by decide +kernel
theorem dX4_empty_83 : decode cX4_empty 83 = .ok (.istore 5, 2) := by decide +kernel
theorem dX4_empty_85 : decode cX4_empty 85 = .ok (.iload_n 1, 1) := by decide +kernel
theorem dX4_empty_86 : decode cX4_empty 86 = .ok (.iconst 4, 1) := by decide +kernel
theorem dX4_empty_87 : decode cX4_empty 87 = .ok (.if_icmp .ne 29, 3) := by decide +kernel
theorem dX4_empty_90 : decode cX4_empty 90 = .ok (.iload 5, 2) := by decide +kernel
theorem dX4_empty_92 : decode cX4_empty 92 = .ok (.ifCond .eq 21, 3) := by decide +kernel
theorem dX4_empty_95 : decode cX4_empty 95 = .ok (.aload_n 0, 1) := by decide +kernel
theorem dX4_empty_96 : decode cX4_empty 96 = .ok (.getfield 32, 3) := by decide +kernel
theorem dX4_empty_99 : decode cX4_empty 99 = .ok (.iload 4, 2) := by decide +kernel
theorem dX4_empty_101 : decode cX4_empty 101 = .ok (.iaload, 1) := by decide +kernel
theorem dX4_empty_102 : decode cX4_empty 102 = .ok (.iload_n 3, 1) := by decide +kernel
theorem dX4_empty_103 : decode cX4_empty 103 = .ok (.invokestatic 75, 3) := by decide +kernel
theorem dX4_empty_106 : decode cX4_empty 106 = .ok (.if_icmp .ne 7, 3) := by decide +kernel
theorem dX4_empty_109 : decode cX4_empty 109 = .ok (.iconst 1, 1) := by decide +kernel
theorem dX4_empty_110 : decode cX4_empty 110 = .ok (.goto 4, 3) := by decide +kernel
theorem dX4_empty_113 : decode cX4_empty 113 = .ok (.iconst 0, 1) := by decide +kernel
theorem dX4_empty_114 : decode cX4_empty 114 = .ok (.istore 5, 2) := by decide +kernel
theorem dX4_empty_116 : decode cX4_empty 116 = .ok (.iload 5, 2) := by decide +kernel
theorem dX4_empty_118 : decode cX4_empty 118 = .ok (.ifCond .eq 11, 3) := by decide +kernel
theorem dX4_empty_121 : decode cX4_empty 121 = .ok (.aload_n 0, 1) := by decide +kernel
theorem dX4_empty_122 : decode cX4_empty 122 = .ok (.getfield 25, 3) := by decide +kernel
theorem dX4_empty_125 : decode cX4_empty 125 = .ok (.iload 4, 2) := by decide +kernel
theorem dX4_empty_127 : decode cX4_empty 127 = .ok (.iconst 0, 1) := by decide +kernel
theorem dX4_empty_128 : decode cX4_empty 128 = .ok (.bastore, 1) := by decide +kernel
theorem dX4_empty_129 : decode cX4_empty 129 = .ok (.iinc 4 1, 3) := by decide +kernel
theorem dX4_empty_132 : decode cX4_empty 132 = .ok (.goto (-115), 3) := by decide +kernel
theorem dX4_empty_135 : decode cX4_empty 135 = .ok (.iconst (-1), 1) := by decide +kernel
theorem dX4_empty_136 : decode cX4_empty 136 = .ok (.ireturn, 1) := by decide +kernel
theorem dX4_put_0 : decode cX4_put 0 = .ok (.iload_n 1, 1) := by decide +kernel
theorem dX4_put_1 : decode cX4_put 1 = .ok (.bipush 8, 2) := by decide +kernel
theorem dX4_put_3 : decode cX4_put 3 = .ok (.irem, 1) := by decide +kernel
theorem dX4_put_4 : decode cX4_put 4 = .ok (.ifCond .eq 13, 3) := by decide +kernel
theorem dX4_put_7 : decode cX4_put 7 = .ok (.aload_n 0, 1) := by decide +kernel
theorem dX4_put_8 : decode cX4_put 8 = .ok (.getfield 13, 3) := by decide +kernel
theorem dX4_put_11 : decode cX4_put 11 = .ok (.iload_n 1, 1) := by decide +kernel
theorem dX4_put_12 : decode cX4_put 12 = .ok (.bipush 8, 2) := by decide +kernel
theorem dX4_put_14 : decode cX4_put 14 = .ok (.irem, 1) := by decide +kernel
theorem dX4_put_15 : decode cX4_put 15 = .ok (.iload_n 2, 1) := by decide +kernel
theorem dX4_put_16 : decode cX4_put 16 = .ok (.iastore, 1) := by decide +kernel
theorem dX4_put_17 : decode cX4_put 17 = .ok (.return_, 1) := by decide +kernel
theorem dX4_reckon_0 : decode cX4_reckon 0 = .ok (.aload_n 0, 1) := by decide +kernel
theorem dX4_reckon_1 : decode cX4_reckon 1 = .ok (.getfield 13, 3) := by decide +kernel
theorem dX4_reckon_4 : decode cX4_reckon 4 = .ok (.iload_n 2, 1) := by decide +kernel
theorem dX4_reckon_5 : decode cX4_reckon 5 = .ok (.bipush 8, 2) := by decide +kernel
theorem dX4_reckon_7 : decode cX4_reckon 7 = .ok (.irem, 1) := by decide +kernel
theorem dX4_reckon_8 : decode cX4_reckon 8 = .ok (.iaload, 1) := by decide +kernel
theorem dX4_reckon_9 : decode cX4_reckon 9 = .ok (.istore 5, 2) := by decide +kernel
theorem dX4_reckon_11 : decode cX4_reckon 11 = .ok (.aload_n 0, 1) := by decide +kernel
theorem dX4_reckon_12 : decode cX4_reckon 12 = .ok (.getfield 13, 3) := by decide +kernel
theorem dX4_reckon_15 : decode cX4_reckon 15 = .ok (.iload_n 3, 1) := by decide +kernel
theorem dX4_reckon_16 : decode cX4_reckon 16 = .ok (.bipush 8, 2) := by decide +kernel
theorem dX4_reckon_18 : decode cX4_reckon 18 = .ok (.irem, 1) := by decide +kernel
theorem dX4_reckon_19 : decode cX4_reckon 19 = .ok (.iaload, 1) := by decide +kernel
theorem dX4_reckon_20 : decode cX4_reckon 20 = .ok (.istore 6, 2) := by decide +kernel
theorem dX4_reckon_22 : decode cX4_reckon 22 = .ok (.iload_n 1, 1) := by decide +kernel
theorem dX4_reckon_23 : decode cX4_reckon 23 = .ok (.tableswitch 80 1 6 #[37, 43, 49, 55, 61, 74], 37) := by decide +kernel
theorem dX4_reckon_60 : decode cX4_reckon 60 = .ok (.iload 5, 2) := by decide +kernel
theorem dX4_reckon_62 : decode cX4_reckon 62 = .ok (.iload 6, 2) := by decide +kernel
theorem dX4_reckon_64 : decode cX4_reckon 64 = .ok (.iadd, 1) := by decide +kernel
theorem dX4_reckon_65 : decode cX4_reckon 65 = .ok (.ireturn, 1) := by decide +kernel
theorem dX4_reckon_66 : decode cX4_reckon 66 = .ok (.iload 5, 2) := by decide +kernel
theorem dX4_reckon_68 : decode cX4_reckon 68 = .ok (.iload 6, 2) := by decide +kernel
theorem dX4_reckon_70 : decode cX4_reckon 70 = .ok (.isub, 1) := by decide +kernel
theorem dX4_reckon_71 : decode cX4_reckon 71 = .ok (.ireturn, 1) := by decide +kernel
theorem dX4_reckon_72 : decode cX4_reckon 72 = .ok (.iload 5, 2) := by decide +kernel
theorem dX4_reckon_74 : decode cX4_reckon 74 = .ok (.iload 6, 2) := by decide +kernel
theorem dX4_reckon_76 : decode cX4_reckon 76 = .ok (.iand, 1) := by decide +kernel
theorem dX4_reckon_77 : decode cX4_reckon 77 = .ok (.ireturn, 1) := by decide +kernel
theorem dX4_reckon_78 : decode cX4_reckon 78 = .ok (.iload 5, 2) := by decide +kernel
theorem dX4_reckon_80 : decode cX4_reckon 80 = .ok (.iload 6, 2) := by decide +kernel
theorem dX4_reckon_82 : decode cX4_reckon 82 = .ok (.ior, 1) := by decide +kernel

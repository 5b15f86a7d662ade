theorem dX4_reckon_83 : decode cX4_reckon 83 = .ok (.ireturn, 1) := by decide +kernel
theorem dX4_reckon_84 : decode cX4_reckon 84 = .ok (.iload 5, 2) := by decide +kernel
theorem dX4_reckon_86 : decode cX4_reckon 86 = .ok (.iload 6, 2) := by decide +kernel
theorem dX4_reckon_88 : decode cX4_reckon 88 = .ok (.if_icmp .ge 7, 3) := by decide +kernel
theorem dX4_reckon_91 : decode cX4_reckon 91 = .ok (.iconst 1, 1) := by decide +kernel
theorem dX4_reckon_92 : decode cX4_reckon 92 = .ok (.goto 4, 3) := by decide +kernel
theorem dX4_reckon_95 : decode cX4_reckon 95 = .ok (.iconst 0, 1) := by decide +kernel
theorem dX4_reckon_96 : decode cX4_reckon 96 = .ok (.ireturn, 1) := by decide +kernel
theorem dX4_reckon_97 : decode cX4_reckon 97 = .ok (.iload 5, 2) := by decide +kernel
theorem dX4_reckon_99 : decode cX4_reckon 99 = .ok (.iload 4, 2) := by decide +kernel
theorem dX4_reckon_101 : decode cX4_reckon 101 = .ok (.iadd, 1) := by decide +kernel
theorem dX4_reckon_102 : decode cX4_reckon 102 = .ok (.ireturn, 1) := by decide +kernel
theorem dX4_reckon_103 : decode cX4_reckon 103 = .ok (.ldc 88, 2) := by decide +kernel
theorem dX4_reckon_105 : decode cX4_reckon 105 = .ok (.iload_n 2, 1) := by decide +kernel
theorem dX4_reckon_106 : decode cX4_reckon 106 = .ok (.imul, 1) := by decide +kernel
theorem dX4_reckon_107 : decode cX4_reckon 107 = .ok (.sipush 256, 3) := by decide +kernel
theorem dX4_reckon_110 : decode cX4_reckon 110 = .ok (.iload_n 3, 1) := by decide +kernel
theorem dX4_reckon_111 : decode cX4_reckon 111 = .ok (.imul, 1) := by decide +kernel
theorem dX4_reckon_112 : decode cX4_reckon 112 = .ok (.iadd, 1) := by decide +kernel
theorem dX4_reckon_113 : decode cX4_reckon 113 = .ok (.ireturn, 1) := by decide +kernel
set_option maxRecDepth 20000 in
theorem ggX4_reach_X4_put : GoodIn wsX4_reach wsX4_put := goodIn_r _ [9, 4, 45, 46, 47, 48, 49, 50, 51, 52, 53, 54, 55, 56, 57, 58, 59, 60, 61, 62, 63, 64] (by decide +kernel) (by decide +kernel)
set_option maxRecDepth 20000 in
theorem gX4_reach_X4_put : GoodIn wsX4_reach (wsV RX4 93 RX4 yX4_put wsX4_put) := goodIn_app (goodIn_of _ (by decide +kernel)) ggX4_reach_X4_put
set_option maxRecDepth 20000 in
theorem ggX4_reach_X4_lookUp : GoodIn wsX4_reach wsX4_lookUp := goodIn_r _ [13, 14, 15, 3, 16, 17, 18, 8, 19, 20, 21, 22, 23, 24, 25, 26, 27, 28, 29, 30, 31, 32, 33, 34, 35, 36, 37, 38, 39, 40, 41, 42, 43, 44, 45, 46, 47, 48, 49, 50, 51, 52, 53, 54, 55, 56, 57, 58, 59, 60, 61, 62, 63, 64] (by decide +kernel) (by decide +kernel)
set_option maxRecDepth 20000 in
theorem gX4_reach_X4_lookUp : GoodIn wsX4_reach (wsV RX4 97 RX4 yX4_lookUp wsX4_lookUp) := goodIn_app (goodIn_of _ (by decide +kernel)) ggX4_reach_X4_lookUp
theorem dX4_reach_0 : decode cX4_reach 0 = .ok (.iload_n 1, 1) := by decide +kernel
theorem dX4_reach_1 : decode cX4_reach 1 = .ok (.bipush 11, 2) := by decide +kernel
theorem dX4_reach_3 : decode cX4_reach 3 = .ok (.if_icmp .ne 18, 3) := by decide +kernel
theorem dX4_reach_6 : decode cX4_reach 6 = .ok (.aload_n 0, 1) := by decide +kernel
theorem dX4_reach_7 : decode cX4_reach 7 = .ok (.getfield 89, 3) := by decide +kernel
theorem dX4_reach_10 : decode cX4_reach 10 = .ok (.ifCond .ne 11, 3) := by decide +kernel
theorem dX4_reach_13 : decode cX4_reach 13 = .ok (.aload_n 0, 1) := by decide +kernel
theorem dX4_reach_14 : decode cX4_reach 14 = .ok (.iload_n 2, 1) := by decide +kernel
theorem dX4_reach_15 : decode cX4_reach 15 = .ok (.iconst 0, 1) := by decide +kernel
theorem dX4_reach_16 : decode cX4_reach 16 = .ok (.invokevirtual 93, 3) := by decide +kernel
theorem dX4_reach_19 : decode cX4_reach 19 = .ok (.iconst (-1), 1) := by decide +kernel
theorem dX4_reach_20 : decode cX4_reach 20 = .ok (.ireturn, 1) := by decide +kernel
theorem dX4_reach_21 : decode cX4_reach 21 = .ok (.iload_n 1, 1) := by decide +kernel
theorem dX4_reach_22 : decode cX4_reach 22 = .ok (.bipush 9, 2) := by decide +kernel
theorem dX4_reach_24 : decode cX4_reach 24 = .ok (.if_icmp .eq 9, 3) := by decide +kernel
theorem dX4_reach_27 : decode cX4_reach 27 = .ok (.iload_n 1, 1) := by decide +kernel
theorem dX4_reach_28 : decode cX4_reach 28 = .ok (.bipush 11, 2) := by decide +kernel
theorem dX4_reach_30 : decode cX4_reach 30 = .ok (.if_icmp .ne 7, 3) := by decide +kernel
theorem dX4_reach_33 : decode cX4_reach 33 = .ok (.iconst 1, 1) := by decide +kernel
theorem dX4_reach_34 : decode cX4_reach 34 = .ok (.goto 4, 3) := by decide +kernel
theorem dX4_reach_37 : decode cX4_reach 37 = .ok (.iconst 0, 1) := by decide +kernel
theorem dX4_reach_38 : decode cX4_reach 38 = .ok (.istore 4, 2) := by decide +kernel
theorem dX4_reach_40 : decode cX4_reach 40 = .ok (.aload_n 0, 1) := by decide +kernel
theorem dX4_reach_41 : decode cX4_reach 41 = .ok (.iload_n 3, 1) := by decide +kernel
theorem dX4_reach_42 : decode cX4_reach 42 = .ok (.iload 4, 2) := by decide +kernel
theorem dX4_reach_44 : decode cX4_reach 44 = .ok (.ifCond .eq 7, 3) := by decide +kernel
theorem dX4_reach_47 : decode cX4_reach 47 = .ok (.iconst 2, 1) := by decide +kernel
theorem dX4_reach_48 : decode cX4_reach 48 = .ok (.goto 4, 3) := by decide +kernel
theorem dX4_reach_51 : decode cX4_reach 51 = .ok (.iconst 1, 1) := by decide +kernel
theorem dX4_reach_52 : decode cX4_reach 52 = .ok (.invokevirtual 97, 3) := by decide +kernel
theorem dX4_reach_55 : decode cX4_reach 55 = .ok (.istore 5, 2) := by decide +kernel
theorem dX4_reach_57 : decode cX4_reach 57 = .ok (.iload 5, 2) := by decide +kernel
theorem dX4_reach_59 : decode cX4_reach 59 = .ok (.iconst (-1), 1) := by decide +kernel
theorem dX4_reach_60 : decode cX4_reach 60 = .ok (.if_icmp .eq 6, 3) := by decide +kernel
theorem dX4_reach_63 : decode cX4_reach 63 = .ok (.iload 5, 2) := by decide +kernel
theorem dX4_reach_65 : decode cX4_reach 65 = .ok (.ireturn, 1) := by decide +kernel
theorem dX4_reach_66 : decode cX4_reach 66 = .ok (.iload 4, 2) := by decide +kernel
theorem dX4_reach_68 : decode cX4_reach 68 = .ok (.ifCond .eq 24, 3) := by decide +kernel
theorem dX4_reach_71 : decode cX4_reach 71 = .ok (.aload_n 0, 1) := by decide +kernel
theorem dX4_reach_72 : decode cX4_reach 72 = .ok (.getfield 7, 3) := by decide +kernel
theorem dX4_reach_75 : decode cX4_reach 75 = .ok (.aload_n 0, 1) := by decide +kernel
theorem dX4_reach_76 : decode cX4_reach 76 = .ok (.getfield 68, 3) := by decide +kernel
theorem dX4_reach_79 : decode cX4_reach 79 = .ok (.aload_n 0, 1) := by decide +kernel
theorem dX4_reach_80 : decode cX4_reach 80 = .ok (.getfield 13, 3) := by decide +kernel
theorem dX4_reach_83 : decode cX4_reach 83 = .ok (.iload_n 2, 1) := by decide +kernel
theorem dX4_reach_84 : decode cX4_reach 84 = .ok (.bipush 8, 2) := by decide +kernel
theorem dX4_reach_86 : decode cX4_reach 86 = .ok (.irem, 1) := by decide +kernel
theorem dX4_reach_87 : decode cX4_reach 87 = .ok (.iaload, 1) := by decide +kernel
theorem dX4_reach_88 : decode cX4_reach 88 = .ok (.iastore, 1) := by decide +kernel
theorem dX4_reach_89 : decode cX4_reach 89 = .ok (.goto 17, 3) := by decide +kernel
theorem dX4_reach_92 : decode cX4_reach 92 = .ok (.aload_n 0, 1) := by decide +kernel
theorem dX4_reach_93 : decode cX4_reach 93 = .ok (.iload_n 2, 1) := by decide +kernel
theorem dX4_reach_94 : decode cX4_reach 94 = .ok (.aload_n 0, 1) := by decide +kernel
theorem dX4_reach_95 : decode cX4_reach 95 = .ok (.getfield 7, 3) := by decide +kernel
theorem dX4_reach_98 : decode cX4_reach 98 = .ok (.aload_n 0, 1) := by decide +kernel
theorem dX4_reach_99 : decode cX4_reach 99 = .ok (.getfield 68, 3) := by decide +kernel
theorem dX4_reach_102 : decode cX4_reach 102 = .ok (.iaload, 1) := by decide +kernel
theorem dX4_reach_103 : decode cX4_reach 103 = .ok (.invokevirtual 93, 3) := by decide +kernel
theorem dX4_reach_106 : decode cX4_reach 106 = .ok (.iload_n 1, 1) := by decide +kernel
theorem dX4_reach_107 : decode cX4_reach 107 = .ok (.bipush 10, 2) := by decide +kernel
theorem dX4_reach_109 : decode cX4_reach 109 = .ok (.if_icmp .ne 8, 3) := by decide +kernel
theorem dX4_reach_112 : decode cX4_reach 112 = .ok (.aload_n 0, 1) := by decide +kernel
theorem dX4_reach_113 : decode cX4_reach 113 = .ok (.iconst 1, 1) := by decide +kernel
theorem dX4_reach_114 : decode cX4_reach 114 = .ok (.putfield 89, 3) := by decide +kernel
theorem dX4_reach_117 : decode cX4_reach 117 = .ok (.iload_n 1, 1) := by decide +kernel
theorem dX4_reach_118 : decode cX4_reach 118 = .ok (.bipush 11, 2) := by decide +kernel
theorem dX4_reach_120 : decode cX4_reach 120 = .ok (.if_icmp .ne 14, 3) := by decide +kernel
theorem dX4_reach_123 : decode cX4_reach 123 = .ok (.aload_n 0, 1) := by decide +kernel
theorem dX4_reach_124 : decode cX4_reach 124 = .ok (.iconst 0, 1) := by decide +kernel
theorem dX4_reach_125 : decode cX4_reach 125 = .ok (.putfield 89, 3) := by decide +kernel
theorem dX4_reach_128 : decode cX4_reach 128 = .ok (.aload_n 0, 1) := by decide +kernel
theorem dX4_reach_129 : decode cX4_reach 129 = .ok (.iload_n 2, 1) := by decide +kernel
theorem dX4_reach_130 : decode cX4_reach 130 = .ok (.iconst 1, 1) := by decide +kernel
theorem dX4_reach_131 : decode cX4_reach 131 = .ok (.invokevirtual 93, 3) := by decide +kernel
theorem dX4_reach_134 : decode cX4_reach 134 = .ok (.iconst (-1), 1) := by decide +kernel
theorem dX4_reach_135 : decode cX4_reach 135 = .ok (.ireturn, 1) := by decide +kernel
set_option maxRecDepth 20000 in
theorem ggX4_go_X4_with : GoodIn wsX4_go wsX4_with := goodIn_r _ [8, 9, 10, 15, 16, 17, 18, 19, 20, 21, 22, 23, 24, 25, 26, 27, 28, 29, 30, 31, 32, 33, 34] (by decide +kernel) (by decide +kernel)
set_option maxRecDepth 20000 in
theorem gX4_go_X4_with : GoodIn wsX4_go (wsV RX4 55 RX4 yX4_with wsX4_with) := goodIn_app (goodIn_of _ (by decide +kernel)) ggX4_go_X4_with
set_option maxRecDepth 20000 in
theorem ggX4_go_X4_put : GoodIn wsX4_go wsX4_put := goodIn_r _ [14, 1, 15, 16, 17, 18, 19, 20, 21, 22, 23, 24, 25, 26, 27, 28, 29, 30, 31, 32, 33, 34] (by decide +kernel) (by decide +kernel)
set_option maxRecDepth 20000 in
theorem gX4_go_X4_put : GoodIn wsX4_go (wsV RX4 93 RX4 yX4_put wsX4_put) := goodIn_app (goodIn_of _ (by decide +kernel)) ggX4_go_X4_put
theorem dX4_go_0 : decode cX4_go 0 = .ok (.aload_n 0, 1) := by decide +kernel
theorem dX4_go_1 : decode cX4_go 1 = .ok (.getfield 13, 3) := by decide +kernel
theorem dX4_go_4 : decode cX4_go 4 = .ok (.iload_n 2, 1) := by decide +kernel
theorem dX4_go_5 : decode cX4_go 5 = .ok (.bipush 8, 2) := by decide +kernel
theorem dX4_go_7 : decode cX4_go 7 = .ok (.irem, 1) := by decide +kernel
theorem dX4_go_8 : decode cX4_go 8 = .ok (.iaload, 1) := by decide +kernel
theorem dX4_go_9 : decode cX4_go 9 = .ok (.istore 5, 2) := by decide +kernel
theorem dX4_go_11 : decode cX4_go 11 = .ok (.aload_n 0, 1) := by decide +kernel
theorem dX4_go_12 : decode cX4_go 12 = .ok (.getfield 13, 3) := by decide +kernel
theorem dX4_go_15 : decode cX4_go 15 = .ok (.iload_n 3, 1) := by decide +kernel
theorem dX4_go_16 : decode cX4_go 16 = .ok (.bipush 8, 2) := by decide +kernel
theorem dX4_go_18 : decode cX4_go 18 = .ok (.irem, 1) := by decide +kernel
theorem dX4_go_19 : decode cX4_go 19 = .ok (.iaload, 1) := by decide +kernel
theorem dX4_go_20 : decode cX4_go 20 = .ok (.istore 6, 2) := by decide +kernel
theorem dX4_go_22 : decode cX4_go 22 = .ok (.iload_n 1, 1) := by decide +kernel
theorem dX4_go_23 : decode cX4_go 23 = .ok (.bipush 16, 2) := by decide +kernel
theorem dX4_go_25 : decode cX4_go 25 = .ok (.if_icmp .eq 9, 3) := by decide +kernel
theorem dX4_go_28 : decode cX4_go 28 = .ok (.iload_n 1, 1) := by decide +kernel
theorem dX4_go_29 : decode cX4_go 29 = .ok (.bipush 17, 2) := by decide +kernel
theorem dX4_go_31 : decode cX4_go 31 = .ok (.if_icmp .ne 13, 3) := by decide +kernel
theorem dX4_go_34 : decode cX4_go 34 = .ok (.aload_n 0, 1) := by decide +kernel
theorem dX4_go_35 : decode cX4_go 35 = .ok (.iload_n 1, 1) := by decide +kernel
theorem dX4_go_36 : decode cX4_go 36 = .ok (.iconst 5, 1) := by decide +kernel
theorem dX4_go_37 : decode cX4_go 37 = .ok (.isub, 1) := by decide +kernel
theorem dX4_go_38 : decode cX4_go 38 = .ok (.iconst 0, 1) := by decide +kernel
theorem dX4_go_39 : decode cX4_go 39 = .ok (.iconst 0, 1) := by decide +kernel
theorem dX4_go_40 : decode cX4_go 40 = .ok (.invokevirtual 55, 3) := by decide +kernel
theorem dX4_go_43 : decode cX4_go 43 = .ok (.ireturn, 1) := by decide +kernel
theorem dX4_go_44 : decode cX4_go 44 = .ok (.iload_n 1, 1) := by decide +kernel
theorem dX4_go_45 : decode cX4_go 45 = .ok (.bipush 12, 2) := by decide +kernel
theorem dX4_go_47 : decode cX4_go 47 = .ok (.if_icmp .ne 10, 3) := by decide +kernel
theorem dX4_go_50 : decode cX4_go 50 = .ok (.iload 5, 2) := by decide +kernel
theorem dX4_go_52 : decode cX4_go 52 = .ok (.iload 6, 2) := by decide +kernel
theorem dX4_go_54 : decode cX4_go 54 = .ok (.if_icmp .eq 29, 3) := by decide +kernel
theorem dX4_go_57 : decode cX4_go 57 = .ok (.iload_n 1, 1) := by decide +kernel
theorem dX4_go_58 : decode cX4_go 58 = .ok (.bipush 13, 2) := by decide +kernel
theorem dX4_go_60 : decode cX4_go 60 = .ok (.if_icmp .ne 10, 3) := by decide +kernel
theorem dX4_go_63 : decode cX4_go 63 = .ok (.iload 5, 2) := by decide +kernel
theorem dX4_go_65 : decode cX4_go 65 = .ok (.iload 6, 2) := by decide +kernel
theorem dX4_go_67 : decode cX4_go 67 = .ok (.if_icmp .ne 16, 3) := by decide +kernel
theorem dX4_go_70 : decode cX4_go 70 = .ok (.iload_n 1, 1) := by decide +kernel
theorem dX4_go_71 : decode cX4_go 71 = .ok (.bipush 14, 2) := by decide +kernel
theorem dX4_go_73 : decode cX4_go 73 = .ok (.if_icmp .ne 14, 3) := by decide +kernel
theorem dX4_go_76 : decode cX4_go 76 = .ok (.iload 5, 2) := by decide +kernel
theorem dX4_go_78 : decode cX4_go 78 = .ok (.iload 6, 2) := by decide +kernel
theorem dX4_go_80 : decode cX4_go 80 = .ok (.if_icmp .ge 7, 3) := by decide +kernel
theorem dX4_go_83 : decode cX4_go 83 = .ok (.iconst 1, 1) := by decide +kernel
theorem dX4_go_84 : decode cX4_go 84 = .ok (.goto 4, 3) := by decide +kernel
theorem dX4_go_87 : decode cX4_go 87 = .ok (.iconst 0, 1) := by decide +kernel
theorem dX4_go_88 : decode cX4_go 88 = .ok (.istore 7, 2) := by decide +kernel
theorem dX4_go_90 : decode cX4_go 90 = .ok (.aload_n 0, 1) := by decide +kernel
theorem dX4_go_91 : decode cX4_go 91 = .ok (.iload_n 1, 1) := by decide +kernel
theorem dX4_go_92 : decode cX4_go 92 = .ok (.bipush 15, 2) := by decide +kernel
theorem dX4_go_94 : decode cX4_go 94 = .ok (.if_icmp .ne 13, 3) := by decide +kernel
theorem dX4_go_97 : decode cX4_go 97 = .ok (.iload 6, 2) := by decide +kernel
theorem dX4_go_99 : decode cX4_go 99 = .ok (.iconst 4, 1) := by decide +kernel
theorem dX4_go_100 : decode cX4_go 100 = .ok (.iload 4, 2) := by decide +kernel
theorem dX4_go_102 : decode cX4_go 102 = .ok (.imul, 1) := by decide +kernel
theorem dX4_go_103 : decode cX4_go 103 = .ok (.iadd, 1) := by decide +kernel
theorem dX4_go_104 : decode cX4_go 104 = .ok (.goto 24, 3) := by decide +kernel
theorem dX4_go_107 : decode cX4_go 107 = .ok (.iload 7, 2) := by decide +kernel
theorem dX4_go_109 : decode cX4_go 109 = .ok (.ifCond .eq 15, 3) := by decide +kernel
theorem dX4_go_112 : decode cX4_go 112 = .ok (.aload_n 0, 1) := by decide +kernel
theorem dX4_go_113 : decode cX4_go 113 = .ok (.getfield 51, 3) := by decide +kernel
theorem dX4_go_116 : decode cX4_go 116 = .ok (.iconst 4, 1) := by decide +kernel
theorem dX4_go_117 : decode cX4_go 117 = .ok (.iload 4, 2) := by decide +kernel
theorem dX4_go_119 : decode cX4_go 119 = .ok (.imul, 1) := by decide +kernel
theorem dX4_go_120 : decode cX4_go 120 = .ok (.iadd, 1) := by decide +kernel
theorem dX4_go_121 : decode cX4_go 121 = .ok (.goto 7, 3) := by decide +kernel
theorem dX4_go_124 : decode cX4_go 124 = .ok (.aload_n 0, 1) := by decide +kernel
theorem dX4_go_125 : decode cX4_go 125 = .ok (.getfield 100, 3) := by decide +kernel
theorem dX4_go_128 : decode cX4_go 128 = .ok (.putfield 100, 3) := by decide +kernel
theorem dX4_go_131 : decode cX4_go 131 = .ok (.iload_n 1, 1) := by decide +kernel
theorem dX4_go_132 : decode cX4_go 132 = .ok (.bipush 15, 2) := by decide +kernel
theorem dX4_go_134 : decode cX4_go 134 = .ok (.if_icmp .ne 14, 3) := by decide +kernel
theorem dX4_go_137 : decode cX4_go 137 = .ok (.aload_n 0, 1) := by decide +kernel
theorem dX4_go_138 : decode cX4_go 138 = .ok (.iload_n 2, 1) := by decide +kernel
theorem dX4_go_139 : decode cX4_go 139 = .ok (.aload_n 0, 1) := by decide +kernel
theorem dX4_go_140 : decode cX4_go 140 = .ok (.getfield 51, 3) := by decide +kernel
theorem dX4_go_143 : decode cX4_go 143 = .ok (.iconst 4, 1) := by decide +kernel
theorem dX4_go_144 : decode cX4_go 144 = .ok (.iadd, 1) := by decide +kernel
theorem dX4_go_145 : decode cX4_go 145 = .ok (.invokevirtual 93, 3) := by decide +kernel
theorem dX4_go_148 : decode cX4_go 148 = .ok (.iconst (-1), 1) := by decide +kernel
theorem dX4_go_149 : decode cX4_go 149 = .ok (.ireturn, 1) := by decide +kernel
set_option maxRecDepth 20000 in
theorem ggX4_controls_X4_with : GoodIn wsX4_controls wsX4_with := goodIn_r _ [7, 8, 9, 20, 21, 22, 23, 24, 25, 26, 27, 28, 29, 30, 31, 32, 33, 34, 35, 36, 37, 38, 39] (by decide +kernel) (by decide +kernel)
set_option maxRecDepth 20000 in
theorem gX4_controls_X4_with : GoodIn wsX4_controls (wsV RX4 55 RX4 yX4_with wsX4_with) := goodIn_app (goodIn_of _ (by decide +kernel)) ggX4_controls_X4_with
set_option maxRecDepth 20000 in
theorem ggX4_controls_X4_write : GoodIn wsX4_controls wsX4_write := goodIn_r _ [13, 1, 14, 15, 20, 21, 22, 23, 24, 25, 26, 27, 28, 29, 30, 31, 32, 33, 34, 35, 36, 37, 38, 39] (by decide +kernel) (by decide +kernel)
set_option maxRecDepth 20000 in
theorem gX4_controls_X4_write : GoodIn wsX4_controls (wsV RX4 103 RX4 yX4_write wsX4_write) := goodIn_app (goodIn_of _ (by decide +kernel)) ggX4_controls_X4_write
set_option maxRecDepth 20000 in
theorem ggX4_controls_X4_put : GoodIn wsX4_controls wsX4_put := goodIn_r _ [19, 2, 20, 21, 22, 23, 24, 25, 26, 27, 28, 29, 30, 31, 32, 33, 34, 35, 36, 37, 38, 39] (by decide +kernel) (by decide +kernel)
set_option maxRecDepth 20000 in
theorem gX4_controls_X4_put : GoodIn wsX4_controls (wsV RX4 93 RX4 yX4_put wsX4_put) := goodIn_app (goodIn_of _ (by decide +kernel)) ggX4_controls_X4_put
theorem dX4_controls_0 : decode cX4_controls 0 = .ok (.iload 4, 2) := by decide +kernel
theorem dX4_controls_2 : decode cX4_controls 2 = .ok (.bipush 17, 2) := by decide +kernel
theorem dX4_controls_4 : decode cX4_controls 4 = .ok (.if_icmp .le 12, 3) := by decide +kernel
theorem dX4_controls_7 : decode cX4_controls 7 = .ok (.aload_n 0, 1) := by decide +kernel
theorem dX4_controls_8 : decode cX4_controls 8 = .ok (.bipush 13, 2) := by decide +kernel
theorem dX4_controls_10 : decode cX4_controls 10 = .ok (.iconst 0, 1) := by decide +kernel
theorem dX4_controls_11 : decode cX4_controls 11 = .ok (.iconst 0, 1) := by decide +kernel
theorem dX4_controls_12 : decode cX4_controls 12 = .ok (.invokevirtual 55, 3) := by decide +kernel
theorem dX4_controls_15 : decode cX4_controls 15 = .ok (.ireturn, 1) := by decide +kernel
theorem dX4_controls_16 : decode cX4_controls 16 = .ok (.aload_n 0, 1) := by decide +kernel
theorem dX4_controls_17 : decode cX4_controls 17 = .ok (.getfield 16, 3) := by decide +kernel
theorem dX4_controls_20 : decode cX4_controls 20 = .ok (.iload 4, 2) := by decide +kernel
theorem dX4_controls_22 : decode cX4_controls 22 = .ok (.iaload, 1) := by decide +kernel
theorem dX4_controls_23 : decode cX4_controls 23 = .ok (.istore 5, 2) := by decide +kernel
theorem dX4_controls_25 : decode cX4_controls 25 = .ok (.iload_n 1, 1) := by decide +kernel
theorem dX4_controls_26 : decode cX4_controls 26 = .ok (.bipush 19, 2) := by decide +kernel
theorem dX4_controls_28 : decode cX4_controls 28 = .ok (.if_icmp .ne 19, 3) := by decide +kernel
theorem dX4_controls_31 : decode cX4_controls 31 = .ok (.aload_n 0, 1) := by decide +kernel
theorem dX4_controls_32 : decode cX4_controls 32 = .ok (.iload 4, 2) := by decide +kernel
theorem dX4_controls_34 : decode cX4_controls 34 = .ok (.iconst (-1), 1) := by decide +kernel
theorem dX4_controls_35 : decode cX4_controls 35 = .ok (.aload_n 0, 1) := by decide +kernel
theorem dX4_controls_36 : decode cX4_controls 36 = .ok (.getfield 13, 3) := by decide +kernel
theorem dX4_controls_39 : decode cX4_controls 39 = .ok (.iload_n 2, 1) := by decide +kernel
theorem dX4_controls_40 : decode cX4_controls 40 = .ok (.bipush 8, 2) := by decide +kernel
theorem dX4_controls_42 : decode cX4_controls 42 = .ok (.irem, 1) := by decide +kernel
theorem dX4_controls_43 : decode cX4_controls 43 = .ok (.iaload, 1) := by decide +kernel
theorem dX4_controls_44 : decode cX4_controls 44 = .ok (.invokevirtual 103, 3) := by decide +kernel
theorem dX4_controls_47 : decode cX4_controls 47 = .ok (.iload_n 1, 1) := by decide +kernel
theorem dX4_controls_48 : decode cX4_controls 48 = .ok (.bipush 20, 2) := by decide +kernel
theorem dX4_controls_50 : decode cX4_controls 50 = .ok (.if_icmp .ne 27, 3) := by decide +kernel
theorem dX4_controls_53 : decode cX4_controls 53 = .ok (.aload_n 0, 1) := by decide +kernel
theorem dX4_controls_54 : decode cX4_controls 54 = .ok (.iload 4, 2) := by decide +kernel
theorem dX4_controls_56 : decode cX4_controls 56 = .ok (.aload_n 0, 1) := by decide +kernel
theorem dX4_controls_57 : decode cX4_controls 57 = .ok (.getfield 13, 3) := by decide +kernel
theorem dX4_controls_60 : decode cX4_controls 60 = .ok (.iload_n 3, 1) := by decide +kernel
theorem dX4_controls_61 : decode cX4_controls 61 = .ok (.bipush 8, 2) := by decide +kernel
theorem dX4_controls_63 : decode cX4_controls 63 = .ok (.irem, 1) := by decide +kernel
theorem dX4_controls_64 : decode cX4_controls 64 = .ok (.iaload, 1) := by decide +kernel
theorem dX4_controls_65 : decode cX4_controls 65 = .ok (.aload_n 0, 1) := by decide +kernel
theorem dX4_controls_66 : decode cX4_controls 66 = .ok (.getfield 13, 3) := by decide +kernel
theorem dX4_controls_69 : decode cX4_controls 69 = .ok (.iload_n 2, 1) := by decide +kernel
theorem dX4_controls_70 : decode cX4_controls 70 = .ok (.bipush 8, 2) := by decide +kernel
theorem dX4_controls_72 : decode cX4_controls 72 = .ok (.irem, 1) := by decide +kernel
theorem dX4_controls_73 : decode cX4_controls 73 = .ok (.iaload, 1) := by decide +kernel
theorem dX4_controls_74 : decode cX4_controls 74 = .ok (.invokevirtual 103, 3) := by decide +kernel
theorem dX4_controls_77 : decode cX4_controls 77 = .ok (.aload_n 0, 1) := by decide +kernel
theorem dX4_controls_78 : decode cX4_controls 78 = .ok (.iload_n 2, 1) := by decide +kernel
theorem dX4_controls_79 : decode cX4_controls 79 = .ok (.iload 5, 2) := by decide +kernel
theorem dX4_controls_81 : decode cX4_controls 81 = .ok (.invokevirtual 93, 3) := by decide +kernel
theorem dX4_controls_84 : decode cX4_controls 84 = .ok (.iconst (-1), 1) := by decide +kernel

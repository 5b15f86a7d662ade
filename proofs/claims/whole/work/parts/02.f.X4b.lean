theorem dX4_reckon_83 : decode cX4_reckon 83 = .ok (.ireturn, 1) := by decide +kernel
theorem dX4_reckon_84 : decode cX4_reckon 84 = .ok (.iload 5, 2) := by decide +kernel
theorem dX4_reckon_86 : decode cX4_reckon 86 = .ok (.iload 6, 2) := by decide +kernel
theorem dX4_reckon_88 : decode cX4_reckon 88 = .ok (.if_icmp .ge 7, 3) := by decide +kernel
theorem dX4_reckon_91 : decode cX4_reckon 91 = .ok (.iconst 1, 1) := by decide +kernel
theorem dX4_reckon_92 : decode cX4_reckon 92 = .ok (.goto 4, 3) := by decide +kernel
theorem dX4_reckon_95 : decode cX4_reckon 95 = .ok (.iconst 0, 1) := by decide +kernel
theorem dX4_reckon_96 : decode cX4_reckon 96 = .ok (.ireturn, 1) := by decide +kernel
theorem dX4_reckon_97 : decode cX4_reckon 97 = .ok (.iload 5, 2) := by decide +kernel
theorem dX4_reckon_99 : decode cX4_reckon 99 = .ok (.iload 4, 2) := by decide +kernel
theorem dX4_reckon_101 : decode cX4_reckon 101 = .ok (.iadd, 1) := by decide +kernel
theorem dX4_reckon_102 : decode cX4_reckon 102 = .ok (.ireturn, 1) := by decide +kernel
theorem dX4_reckon_103 : decode cX4_reckon 103 = .ok (.ldc 88, 2) := by decide +kernel
theorem dX4_reckon_105 : decode cX4_reckon 105 = .ok (.iload_n 2, 1) := by decide +kernel
theorem dX4_reckon_106 : decode cX4_reckon 106 = .ok (.imul, 1) := by decide +kernel
theorem dX4_reckon_107 : decode cX4_reckon 107 = .ok (.sipush 256, 3) := by decide +kernel
theorem dX4_reckon_110 : decode cX4_reckon 110 = .ok (.iload_n 3, 1) := by decide +kernel
theorem dX4_reckon_111 : decode cX4_reckon 111 = .ok (.imul, 1) := by decide +kernel
theorem dX4_reckon_112 : decode cX4_reckon 112 = .ok (.iadd, 1) := by decide +kernel
theorem dX4_reckon_113 : decode cX4_reckon 113 = .ok (.ireturn, 1) := by decide +kernel
set_option maxRecDepth 20000 in
theorem ggX4_reach_X4_put : GoodIn wsX4_reach wsX4_put := goodIn_r _ [9, 4, 45, 46, 47, 48, 49, 50, 51, 52, 53, 54, 55, 56, 57, 58, 59, 60, 61, 62, 63, 64] (by decide +kernel) (by decide +kernel)
set_option maxRecDepth 20000 in
theorem gX4_reach_X4_put : GoodIn wsX4_reach (wsV RX4 93 RX4 yX4_put wsX4_put) := goodIn_app (goodIn_of _ (by decide +kernel)) ggX4_reach_X4_put
set_option maxRecDepth 20000 in
theorem ggX4_reach_X4_lookUp : GoodIn wsX4_reach wsX4_lookUp := goodIn_r _ [13, 14, 15, 3, 16, 17, 18, 8, 19, 20, 21, 22, 23, 24, 25, 26, 27, 28, 29, 30, 31, 32, 33, 34, 35, 36, 37, 38, 39, 40, 41, 42, 43, 44, 45, 46, 47, 48, 49, 50, 51, 52, 53, 54, 55, 56, 57, 58, 59, 60, 61, 62, 63, 64] (by decide +kernel) (by decide +kernel)
set_option maxRecDepth 20000 in
theorem gX4_reach_X4_lookUp : GoodIn wsX4_reach (wsV RX4 97 RX4 yX4_lookUp wsX4_lookUp) := goodIn_app (goodIn_of _ (by decide +kernel)) ggX4_reach_X4_lookUp
theorem dX4_reach_0 : decode cX4_reach 0 = .ok (.iload_n 1, 1) := by decide +kernel
theorem dX4_reach_1 : decode cX4_reach 1 = .ok (.bipush 11, 2) := by decide +kernel
theorem dX4_reach_3 : decode cX4_reach 3 = .ok (.if_icmp .ne 18, 3) := by decide +kernel
theorem dX4_reach_6 : decode cX4_reach 6 = .ok (.aload_n 0, 1) := by decide +kernel
theorem dX4_reach_7 : decode cX4_reach 7 = .ok (.getfield 89, 3) := by decide +kernel
theorem dX4_reach_10 : decode cX4_reach 10 = .ok (.ifCond .ne 11, 3) := by decide +kernel
theorem dX4_reach_13 : decode cX4_reach 13 = .ok (.aload_n 0, 1) := by decide +kernel
theorem dX4_reach_14 : decode cX4_reach 14 = .ok (.iload_n 2, 1) := by decide +kernel
theorem dX4_reach_15 : decode cX4_reach 15 = .ok (.iconst 0, 1) := by decide +kernel
theorem dX4_reach_16 : decode cX4_reach 16 = .ok (.invokevirtual 93, 3) := by decide +kernel
theorem dX4_reach_19 : decode cX4_reach 19 = .ok (.iconst (-1), 1) := by decide +kernel
theorem dX4_reach_20 : decode cX4_reach 20 = .ok (.ireturn, 1) := by decide +kernel
theorem dX4_reach_21 : decode cX4_reach 21 = .ok (.iload_n 1, 1) := by decide +kernel
theorem dX4_reach_22 : decode cX4_reach 22 = .ok (.bipush 9, 2) := by decide +kernel
theorem dX4_reach_24 : decode cX4_reach 24 = .ok (.if_icmp .eq 9, 3) := by decide +kernel
theorem dX4_reach_27 : decode cX4_reach 27 = .ok (.iload_n 1, 1) := by decide +kernel
theorem dX4_reach_28 : decode cX4_reach 28 = .ok (.bipush 11, 2) := by decide +kernel
theorem dX4_reach_30 : decode cX4_reach 30 = .ok (.if_icmp .ne 7, 3) := by decide +kernel
theorem dX4_reach_33 : decode cX4_reach 33 = .ok (.iconst 1, 1) := by decide +kernel
theorem dX4_reach_34 : decode cX4_reach 34 = .ok (.goto 4, 3) := by decide +kernel
theorem dX4_reach_37 : decode cX4_reach 37 = .ok (.iconst 0, 1) := by decide +kernel
theorem dX4_reach_38 : decode cX4_reach 38 = .ok (.istore 4, 2) := by decide +kernel
theorem dX4_reach_40 : decode cX4_reach 40 = .ok (.aload_n 0, 1) := by decide +kernel
theorem dX4_reach_41 : decode cX4_reach 41 = .ok (.iload_n 3, 1) := by decide +kernel
theorem dX4_reach_42 : decode cX4_reach 42 = .ok (.iload 4, 2) := by decide +kernel
theorem dX4_reach_44 : decode cX4_reach 44 = .ok (.ifCond .eq 7, 3) := by decide +kernel
theorem dX4_reach_47 : decode cX4_reach 47 = .ok (.iconst 2, 1) := by decide +kernel
theorem dX4_reach_48 : decode cX4_reach 48 = .ok (.goto 4, 3) := by decide +kernel
theorem dX4_reach_51 : decode cX4_reach 51 = .ok (.iconst 1, 1) := by decide +kernel
theorem dX4_reach_52 : decode cX4_reach 52 = .ok (.invokevirtual 97, 3) := by decide +kernel
theorem dX4_reach_55 : decode cX4_reach 55 = .ok (.istore 5, 2) := by decide +kernel
theorem dX4_reach_57 : decode cX4_reach 57 = .ok (.iload 5, 2) := by decide +kernel
theorem dX4_reach_59 : decode cX4_reach 59 = .ok (.iconst (-1), 1) := by decide +kernel
theorem dX4_reach_60 : decode cX4_reach 60 = .ok (.if_icmp .eq 6, 3) := by decide +kernel
theorem dX4_reach_63 : decode cX4_reach 63 = .ok (.iload 5, 2) := by decide +kernel
theorem dX4_reach_65 : decode cX4_reach 65 = .ok (.ireturn, 1) := by decide +kernel
theorem dX4_reach_66 : decode cX4_reach 66 = .ok (.iload 4, 2) := by decide +kernel
theorem dX4_reach_68 : decode cX4_reach 68 = .ok (.ifCond .eq 24, 3) := by decide +kernel
theorem dX4_reach_71 : decode cX4_reach 71 = .ok (.aload_n 0, 1) := by decide +kernel
theorem dX4_reach_72 : decode cX4_reach 72 = .ok (.getfield 7, 3) := by decide +kernel
theorem dX4_reach_75 : decode cX4_reach 75 = .ok (.aload_n 0, 1) := by decide +kernel
theorem dX4_reach_76 : decode cX4_reach 76 = .ok (.getfield 68, 3) := by decide +kernel
theorem dX4_reach_79 : decode cX4_reach 79 = .ok (.aload_n 0, 1) := by decide +kernel
theorem dX4_reach_80 : decode cX4_reach 80 = .ok (.getfield 13, 3) := by decide +kernel
theorem dX4_reach_83 : decode cX4_reach 83 = .ok (.iload_n 2, 1) := by decide +kernel
theorem dX4_reach_84 : decode cX4_reach 84 = .ok (.bipush 8, 2) := by decide +kernel
theorem dX4_reach_86 : decode cX4_reach 86 = .ok (.irem, 1) := by decide +kernel
theorem dX4_reach_87 : decode cX4_reach 87 = .ok (.iaload, 1) := by decide +kernel
theorem dX4_reach_88 : decode cX4_reach 88 = .ok (.iastore, 1) := by decide +kernel
theorem dX4_reach_89 : decode cX4_reach 89 = .ok (.goto 17, 3) := by decide +kernel
theorem dX4_reach_92 : decode cX4_reach 92 = .ok (.aload_n 0, 1) := by decide +kernel
theorem dX4_reach_93 : decode cX4_reach 93 = .ok (.iload_n 2, 1) := by decide +kernel
theorem dX4_reach_94 : decode cX4_reach 94 = .ok (.aload_n 0, 1) := by decide +kernel
theorem dX4_reach_95 : decode cX4_reach 95 = .ok (.getfield 7, 3) := by decide +kernel
theorem dX4_reach_98 : decode cX4_reach 98 = .ok (.aload_n 0, 1) := by decide +kernel
theorem dX4_reach_99 : decode cX4_reach 99 = .ok (.getfield 68, 3) := by decide +kernel
theorem dX4_reach_102 : decode cX4_reach 102 = .ok (.iaload, 1) := by decide +kernel
theorem dX4_reach_103 : decode cX4_reach 103 = .ok (.invokevirtual 93, 3) := by decide +kernel
theorem dX4_reach_106 : decode cX4_reach 106 = .ok (.iload_n 1, 1) := by decide +kernel
theorem dX4_reach_107 : decode cX4_reach 107 = .ok (.bipush 10, 2) := by decide +kernel
theorem dX4_reach_109 : decode cX4_reach 109 = .ok (.if_icmp .ne 8, 3) := by decide +kernel
theorem dX4_reach_112 : decode cX4_reach 112 = .ok (.aload_n 0, 1) := by decide +kernel
theorem dX4_reach_113 : decode cX4_reach 113 = .ok (.iconst 1, 1) := by decide +kernel
theorem dX4_reach_114 : decode cX4_reach 114 = .ok (.putfield 89, 3) := by decide +kernel
theorem dX4_reach_117 : decode cX4_reach 117 = .ok (.iload_n 1, 1) := by decide +kernel
theorem dX4_reach_118 : decode cX4_reach 118 = .ok (.bipush 11, 2) := by decide +kernel
theorem dX4_reach_120 : decode cX4_reach 120 = .ok (.if_icmp .ne 14, 3) := by decide +kernel
theorem dX4_reach_123 : decode cX4_reach 123 = .ok (.aload_n 0, 1) := by decide +kernel
theorem dX4_reach_124 : decode cX4_reach 124 = .ok (.iconst 0, 1) := by decide +kernel
theorem dX4_reach_125 : decode cX4_reach 125 = .ok (.putfield 89, 3) := by decide +kernel
theorem dX4_reach_128 : decode cX4_reach 128 = .ok (.aload_n 0, 1) := by decide +kernel
theorem dX4_reach_129 : decode cX4_reach 129 = .ok (.iload_n 2, 1) := by decide +kernel
theorem dX4_reach_130 : decode cX4_reach 130 = .ok (.iconst 1, 1) := by decide +kernel
theorem dX4_reach_131 : decode cX4_reach 131 = .ok (.invokevirtual 93, 3) := by decide +kernel
theorem dX4_reach_134 : decode cX4_reach 134 = .ok (.iconst (-1), 1) := by decide +kernel
theorem dX4_reach_135 : decode cX4_reach 135 = .ok (.ireturn, 1) := by decide +kernel
set_option maxRecDepth 20000 in
theorem ggX4_go_X4_with : GoodIn wsX4_go wsX4_with := goodIn_r _ [8, 9, 10, 15, 16, 17, 18, 19, 20, 21, 22, 23, 24, 25, 26, 27, 28, 29, 30, 31, 32, 33, 34] (by decide +kernel) (by decide +kernel)
set_option maxRecDepth 20000 in
theorem gX4_go_X4_with : GoodIn wsX4_go (wsV RX4 55 RX4 yX4_with wsX4_with) := goodIn_app (goodIn_of _ (by decide +kernel)) ggX4_go_X4_with
set_option maxRecDepth 20000 in
theorem ggX4_go_X4_put : GoodIn wsX4_go wsX4_put := goodIn_r _ [14, 1, 15, 16, 17, 18, 19, 20, 21, 22, 23, 24, 25, 26, 27, 28, 29, 30, 31, 32, 33, 34] (by decide +kernel) (by decide +kernel)
set_option maxRecDepth 20000 in
theorem gX4_go_X4_put : GoodIn wsX4_go (wsV RX4 93 RX4 yX4_put wsX4_put) := goodIn_app (goodIn_of _ (by decide +kernel)) ggX4_go_X4_put
theorem dX4_go_0 : decode cX4_go 0 = .ok (.aload_n 0, 1) := by decide +kernel
theorem dX4_go_1 : decode cX4_go 1 = .ok (.getfield 13, 3) := by decide +kernel
theorem dX4_go_4 : decode cX4_go 4 = .ok (.iload_n 2, 1) := by decide +kernel
theorem dX4_go_5 : decode cX4_go 5 = .ok (.bipush 8, 2) := by decide +kernel
theorem dX4_go_7 : decode cX4_go 7 = .ok (.irem, 1) := by decide +kernel
theorem dX4_go_8 : decode cX4_go 8 = .ok (.iaload, 1) := by decide +kernel
theorem dX4_go_9 : decode cX4_go 9 = .ok (.istore 5, 2) := by decide +kernel
theorem dX4_go_11 : decode cX4_go 11 = .ok (.aload_n 0, 1) := by decide +kernel
theorem dX4_go_12 : decode cX4_go 12 = .ok (.getfield 13, 3) := by decide +kernel
theorem dX4_go_15 : decode cX4_go 15 = .ok (.iload_n 3, 1) := by decide +kernel
theorem dX4_go_16 : decode cX4_go 16 = .ok (.bipush 8, 2) := by decide +kernel
theorem dX4_go_18 : decode cX4_go 18 = .ok (.irem, 1) := by decide +kernel
theorem dX4_go_19 : decode cX4_go 19 = .ok (.iaload, 1) := by decide +kernel
theorem dX4_go_20 : decode cX4_go 20 = .ok (.istore 6, 2) := by decide +kernel
theorem dX4_go_22 : decode cX4_go 22 = .ok (.iload_n 1, 1) := by decide +kernel
theorem dX4_go_23 : decode cX4_go 23 = .ok (.bipush 16, 2) := by decide +kernel
theorem dX4_go_25 : decode cX4_go 25 = .ok (.if_icmp .eq 9, 3) := by decide +kernel
theorem dX4_go_28 : decode cX4_go 28 = .ok (.iload_n 1, 1) := by decide +kernel
theorem dX4_go_29 : decode cX4_go 29 = .ok (.bipush 17, 2) := by decide +kernel
theorem dX4_go_31 : decode cX4_go 31 = .ok (.if_icmp .ne 13, 3) := by decide +kernel
theorem dX4_go_34 : decode cX4_go 34 = .ok (.aload_n 0, 1) := by decide +kernel
theorem dX4_go_35 : decode cX4_go 35 = .ok (.iload_n 1, 1) := by decide +kernel
theorem dX4_go_36 : decode cX4_go 36 = .ok (.iconst 5, 1) := by decide +kernel
theorem dX4_go_37 : decode cX4_go 37 = .ok (.isub, 1) := by decide +kernel
theorem dX4_go_38 : decode cX4_go 38 = .ok (.iconst 0, 1) := by decide +kernel
theorem dX4_go_39 : decode cX4_go 39 = .ok (.iconst 0, 1) := by decide +kernel
theorem dX4_go_40 : decode cX4_go 40 = .ok (.invokevirtual 55, 3) := by decide +kernel
theorem dX4_go_43 : decode cX4_go 43 = .ok (.ireturn, 1) := by decide +kernel
theorem dX4_go_44 : decode cX4_go 44 = .ok (.iload_n 1, 1) := by decide +kernel
theorem dX4_go_45 : decode cX4_go 45 = .ok (.bipush 12, 2) := by decide +kernel
theorem dX4_go_47 : decode cX4_go 47 = .ok (.if_icmp .ne 10, 3) := by decide +kernel
theorem dX4_go_50 : decode cX4_go 50 = .ok (.iload 5, 2) := by decide +kernel
theorem dX4_go_52 : decode cX4_go 52 = .ok (.iload 6, 2) := by decide +kernel
theorem dX4_go_54 : decode cX4_go 54 = .ok (.if_icmp .eq 29, 3) := by decide +kernel
theorem dX4_go_57 : decode cX4_go 57 = .ok (.iload_n 1, 1) := by decide +kernel
theorem dX4_go_58 : decode cX4_go 58 = .ok (.bipush 13, 2) := by decide +kernel
theorem dX4_go_60 : decode cX4_go 60 = .ok (.if_icmp .ne 10, 3) := by decide +kernel
theorem dX4_go_63 : decode cX4_go 63 = .ok (.iload 5, 2) := by decide +kernel
theorem dX4_go_65 : decode cX4_go 65 = .ok (.iload 6, 2) := by decide +kernel
theorem dX4_go_67 : decode cX4_go 67 = .ok (.if_icmp .ne 16, 3) := by decide +kernel
theorem dX4_go_70 : decode cX4_go 70 = .ok (.iload_n 1, 1) := by decide +kernel
theorem dX4_go_71 : decode cX4_go 71 = .ok (.bipush 14, 2) := by decide +kernel
theorem dX4_go_73 : decode cX4_go 73 = .ok (.if_icmp .ne 14, 3) := by decide +kernel
theorem dX4_go_76 : decode cX4_go 76 = .ok (.iload 5, 2) := by decide +kernel
theorem dX4_go_78 : decode cX4_go 78 = .ok (.iload 6, 2) := by decide +kernel
theorem dX4_go_80 : decode cX4_go 80 = .ok (.if_icmp .ge 7, 3) := by decide +kernel
theorem dX4_go_83 : decode cX4_go 83 = .ok (.iconst 1, 1) := by decide +kernel
theorem dX4_go_84 : decode cX4_go 84 = .ok (.goto 4, 3) := by decide +kernel
theorem dX4_go_87 : decode cX4_go 87 = .ok (.iconst 0, 1) := by decide +kernel
theorem dX4_go_88 : decode cX4_go 88 = .ok (.istore 7, 2) := by decide +kernel
theorem dX4_go_90 : decode cX4_go 90 = .ok (.aload_n 0, 1) := by decide +kernel
theorem dX4_go_91 : decode cX4_go 91 = .ok (.iload_n 1, 1) := by decide +kernel
theorem dX4_go_92 : decode cX4_go 92 = .ok (.bipush 15, 2) := by decide +kernel
theorem dX4_go_94 : decode cX4_go 94 = .ok (.if_icmp .ne 13, 3) := by decide +kernel
theorem dX4_go_97 : decode cX4_go 97 = .ok (.iload 6, 2) := by decide +kernel
theorem dX4_go_99 : decode cX4_go 99 = .ok (.iconst 4, 1) := by decide +kernel
theorem dX4_go_100 : decode cX4_go 100 = .ok (.iload 4, 2) := by decide +kernel
theorem dX4_go_102 : decode cX4_go 102 = .ok (.imul, 1) := by decide +kernel
theorem dX4_go_103 : decode cX4_go 103 = .ok (.iadd, 1) := by decide +kernel
theorem dX4_go_104 : decode cX4_go 104 = .ok (.goto 24, 3) := by decide +kernel
theorem dX4_go_107 : decode cX4_go 107 = .ok (.iload 7, 2) := by decide +kernel
theorem dX4_go_109 : decode cX4_go 109 = .ok (.ifCond .eq 15, 3) := by decide +kernel
theorem dX4_go_112 : decode cX4_go 112 = .ok (.aload_n 0, 1) := by decide +kernel
theorem dX4_go_113 : decode cX4_go 113 = .ok (.getfield 51, 3) := by decide +kernel
theorem dX4_go_116 : decode cX4_go 116 = .ok (.iconst 4, 1) := by decide +kernel
theorem dX4_go_117 : decode cX4_go 117 = .ok (.iload 4, 2) := by decide +kernel
theorem dX4_go_119 : decode cX4_go 119 = .ok (.imul, 1) := by decide +kernel
theorem dX4_go_120 : decode cX4_go 120 = .ok (.iadd, 1) := by decide +kernel
theorem dX4_go_121 : decode cX4_go 121 = .ok (.goto 7, 3) := by decide +kernel
theorem dX4_go_124 : decode cX4_go 124 = .ok (.aload_n 0, 1) := by decide +kernel
theorem dX4_go_125 : decode cX4_go 125 = .ok (.getfield 100, 3) := by decide +kernel
theorem dX4_go_128 : decode cX4_go 128 = .ok (.putfield 100, 3) := by decide +kernel
theorem dX4_go_131 : decode cX4_go 131 = .ok (.iload_n 1, 1) := by decide +kernel
theorem dX4_go_132 : decode cX4_go 132 = .ok (.bipush 15, 2) := by decide +kernel
theorem dX4_go_134 : decode cX4_go 134 = .ok (.if_icmp .ne 14, 3) := by decide +kernel
theorem dX4_go_137 : decode cX4_go 137 = .ok (.aload_n 0, 1) := by decide +kernel
theorem dX4_go_138 : decode cX4_go 138 = .ok (.iload_n 2, 1) := by decide +kernel
theorem dX4_go_139 : decode cX4_go 139 = .ok (.aload_n 0, 1) := by decide +kernel
theorem dX4_go_140 : decode cX4_go 140 = .ok (.getfield 51, 3) := by decide +kernel
theorem dX4_go_143 : decode cX4_go 143 = .ok (.iconst 4, 1) := by decide +kernel
theorem dX4_go_144 : decode cX4_go 144 = .ok (.iadd, 1) := by decide +kernel
theorem dX4_go_145 : decode cX4_go 145 = .ok (.invokevirtual 93, 3) := by decide +kernel
theorem dX4_go_148 : decode cX4_go 148 = .ok (.iconst (-1), 1) := by decide +kernel
theorem dX4_go_149 : decode cX4_go 149 = .ok (.ireturn, 1) := by decide +kernel
set_option maxRecDepth 20000 in
theorem ggX4_controls_X4_with : GoodIn wsX4_controls wsX4_with := goodIn_r _ [7, 8, 9, 20, 21, 22, 23, 24, 25, 26, 27, 28, 29, 30, 31, 32, 33, 34, 35, 36, 37, 38, 39] (by decide +kernel) (by decide +kernel)
set_option maxRecDepth 20000 in
theorem gX4_controls_X4_with : GoodIn wsX4_controls (wsV RX4 55 RX4 yX4_with wsX4_with) := goodIn_app (goodIn_of _ (by decide +kernel)) ggX4_controls_X4_with
set_option maxRecDepth 20000 in
theorem ggX4_controls_X4_write : GoodIn wsX4_controls wsX4_write := goodIn_r _ [13, 1, 14, 15, 20, 21, 22, 23, 24, 25, 26, 27, 28, 29, 30, 31, 32, 33, 34, 35, 36, 37, 38, 39] (by decide +kernel) (by decide +kernel)
set_option maxRecDepth 20000 in
theorem gX4_controls_X4_write : GoodIn wsX4_controls (wsV RX4 103 RX4 yX4_write wsX4_write) := goodIn_app (goodIn_of _ (by decide +kernel)) ggX4_controls_X4_write
set_option maxRecDepth 20000 in
theorem ggX4_controls_X4_put : GoodIn wsX4_controls wsX4_put := goodIn_r _ [19, 2, 20, 21, 22, 23, 24, 25, 26, 27, 28, 29, 30, 31, 32, 33, 34, 35, 36, 37, 38, 39] (by decide +kernel) (by decide +kernel)
set_option maxRecDepth 20000 in
theorem gX4_controls_X4_put : GoodIn wsX4_controls (wsV RX4 93 RX4 yX4_put wsX4_put) := goodIn_app (goodIn_of _ (by decide +kernel)) ggX4_controls_X4_put
theorem dX4_controls_0 : decode cX4_controls 0 = .ok (.iload 4, 2) := by decide +kernel
theorem dX4_controls_2 : decode cX4_controls 2 = .ok (.bipush 17, 2) := by decide +kernel
theorem dX4_controls_4 : decode cX4_controls 4 = .ok (.if_icmp .le 12, 3) := by decide +kernel
theorem dX4_controls_7 : decode cX4_controls 7 = .ok (.aload_n 0, 1) := by decide +kernel
theorem dX4_controls_8 : decode cX4_controls 8 = .ok (.bipush 13, 2) := by decide +kernel
theorem dX4_controls_10 : decode cX4_controls 10 = .ok (.iconst 0, 1) := by decide +kernel
theorem dX4_controls_11 : decode cX4_controls 11 = .ok (.iconst 0, 1) := by decide +kernel
theorem dX4_controls_12 : decode cX4_controls 12 = .ok (.invokevirtual 55, 3) := by decide +kernel
theorem dX4_controls_15 : decode cX4_controls 15 = .ok (.ireturn, 1) := by decide +kernel
theorem dX4_controls_16 : decode cX4_controls 16 = .ok (.aload_n 0, 1) := by decide +kernel
theorem dX4_controls_17 : decode cX4_controls 17 = .ok (.getfield 16, 3) := by decide +kernel
theorem dX4_controls_20 : decode cX4_controls 20 = .ok (.iload 4, 2) := by decide +kernel
theorem dX4_controls_22 : decode cX4_controls 22 = .ok (.iaload, 1) := by decide +kernel
theorem dX4_controls_23 : decode cX4_controls 23 = .ok (.istore 5, 2) := by decide +kernel
theorem dX4_controls_25 : decode cX4_controls 25 = .ok (.iload_n 1, 1) := by decide +kernel
theorem dX4_controls_26 : decode cX4_controls 26 = .ok (.bipush 19, 2) := by decide +kernel
theorem dX4_controls_28 : decode cX4_controls 28 = .ok (.if_icmp .ne 19, 3) := by decide +kernel
theorem dX4_controls_31 : decode cX4_controls 31 = .ok (.aload_n 0, 1) := by decide +kernel
theorem dX4_controls_32 : decode cX4_controls 32 = .ok (.iload 4, 2) := by decide +kernel
theorem dX4_controls_34 : decode cX4_controls 34 = .ok (.iconst (-1), 1) := by decide +kernel
theorem dX4_controls_35 : decode cX4_controls 35 = .ok (.aload_n 0, 1) := by decide +kernel
theorem dX4_controls_36 : decode cX4_controls 36 = .ok (.getfield 13, 3) := by decide +kernel
theorem dX4_controls_39 : decode cX4_controls 39 = .ok (.iload_n 2, 1) := by decide +kernel
theorem dX4_controls_40 : decode cX4_controls 40 = .ok (.bipush 8, 2) := by decide +kernel
theorem dX4_controls_42 : decode cX4_controls 42 = .ok (.irem, 1) := by decide +kernel
theorem dX4_controls_43 : decode cX4_controls 43 = .ok (.iaload, 1) := by decide +kernel
theorem dX4_controls_44 : decode cX4_controls 44 = .ok (.invokevirtual 103, 3) := by decide +kernel
theorem dX4_controls_47 : decode cX4_controls 47 = .ok (.iload_n 1, 1) := by decide +kernel
theorem dX4_controls_48 : decode cX4_controls 48 = .ok (.bipush 20, 2) := by decide +kernel
theorem dX4_controls_50 : decode cX4_controls 50 = .ok (.if_icmp .ne 27, 3) := by decide +kernel
theorem dX4_controls_53 : decode cX4_controls 53 = .ok (.aload_n 0, 1) := by decide +kernel
theorem dX4_controls_54 : decode cX4_controls 54 = .ok (.iload 4, 2) := by decide +kernel
theorem dX4_controls_56 : decode cX4_controls 56 = .ok (.aload_n 0, 1) := by decide +kernel
theorem dX4_controls_57 : decode cX4_controls 57 = .ok (.getfield 13, 3) := by decide +kernel
theorem dX4_controls_60 : decode cX4_controls 60 = .ok (.iload_n 3, 1) := by decide +kernel
theorem dX4_controls_61 : decode cX4_controls 61 = .ok (.bipush 8, 2) := by decide +kernel
theorem dX4_controls_63 : decode cX4_controls 63 = .ok (.irem, 1) := by decide +kernel
theorem dX4_controls_64 : decode cX4_controls 64 = .ok (.iaload, 1) := by decide +kernel
theorem dX4_controls_65 : decode cX4_controls 65 = .ok (.aload_n 0, 1) := by decide +kernel
theorem dX4_controls_66 : decode cX4_controls 66 = .ok (.getfield 13, 3) := by decide +kernel
theorem dX4_controls_69 : decode cX4_controls 69 = .ok (.iload_n 2, 1) := by decide +kernel
theorem dX4_controls_70 : decode cX4_controls 70 = .ok (.bipush 8, 2) := by decide +kernel
theorem dX4_controls_72 : decode cX4_controls 72 = .ok (.irem, 1) := by decide +kernel
theorem dX4_controls_73 : decode cX4_controls 73 = .ok (.iaload, 1) := by decide +kernel
theorem dX4_controls_74 : decode cX4_controls 74 = .ok (.invokevirtual 103, 3) := by decide +kernel
theorem dX4_controls_77 : decode cX4_controls 77 = .ok (.aload_n 0, 1) := by decide +kernel
theorem dX4_controls_78 : decode cX4_controls 78 = .ok (.iload_n 2, 1) := by decide +kernel
theorem dX4_controls_79 : decode cX4_controls 79 = .ok (.iload 5, 2) := by decide +kernel
theorem dX4_controls_81 : decode cX4_controls 81 = .ok (.invokevirtual 93, 3) := by decide +kernel
theorem dX4_controls_84 : decode cX4_controls 84 = .ok (.iconst (-1), 1) := by decide +kernel
theorem dX4_controls_85 : decode cX4_controls 85 = .ok (.ireturn, 1) := by decide +kernel
set_option maxRecDepth 20000 in
theorem ggX4_govern_X4_user : GoodIn wsX4_govern wsX4_user := goodIn_r _ [11, 2, 65, 66, 67, 68, 69, 70, 71, 72, 73, 74, 75, 76, 77, 78, 79, 80, 81, 82, 83, 84] (by decide +kernel) (by decide +kernel)
set_option maxRecDepth 20000 in
theorem gX4_govern_X4_user : GoodIn wsX4_govern (wsV RX4 59 RX4 yX4_user wsX4_user) := goodIn_app (goodIn_of _ (by decide +kernel)) ggX4_govern_X4_user
set_option maxRecDepth 20000 in
theorem ggX4_govern_X4_with : GoodIn wsX4_govern wsX4_with := goodIn_r _ [15, 16, 17, 65, 66, 67, 68, 69, 70, 71, 72, 73, 74, 75, 76, 77, 78, 79, 80, 81, 82, 83, 84] (by decide +kernel) (by decide +kernel)
set_option maxRecDepth 20000 in
theorem gX4_govern_X4_with : GoodIn wsX4_govern (wsV RX4 55 RX4 yX4_with wsX4_with) := goodIn_app (goodIn_of _ (by decide +kernel)) ggX4_govern_X4_with
set_option maxRecDepth 20000 in
theorem ggX4_govern_X4_controls : GoodIn wsX4_govern wsX4_controls := goodIn_r _ [21, 2, 1, 12, 13, 14, 10, 15, 16, 17, 22, 23, 24, 25, 26, 27, 28, 29, 30, 31, 65, 66, 67, 68, 69, 70, 71, 72, 73, 74, 75, 76, 77, 78, 79, 80, 81, 82, 83, 84] (by decide +kernel) (by decide +kernel)
set_option maxRecDepth 20000 in
theorem gX4_govern_X4_controls : GoodIn wsX4_govern (wsV RX4 107 RX4 yX4_controls wsX4_controls) := goodIn_app (goodIn_of _ (by decide +kernel)) ggX4_govern_X4_controls
set_option maxRecDepth 20000 in
theorem ggX4_govern_X4_empty : GoodIn wsX4_govern wsX4_empty := goodIn_r _ [35, 36, 37, 38, 39, 12, 13, 14, 10, 15, 16, 17, 40, 41, 42, 65, 66, 67, 68, 69, 70, 71, 72, 73, 74, 75, 76, 77, 78, 79, 80, 81, 82, 83, 84] (by decide +kernel) (by decide +kernel)
set_option maxRecDepth 20000 in
theorem gX4_govern_X4_empty : GoodIn wsX4_govern (wsV RX4 111 RX4 yX4_empty wsX4_empty) := goodIn_app (goodIn_of _ (by decide +kernel)) ggX4_govern_X4_empty
set_option maxRecDepth 20000 in
theorem ggX4_govern_X4_search : GoodIn wsX4_govern wsX4_search := goodIn_r _ [46, 2, 47, 40, 41, 10, 42, 48, 49, 50, 51, 39, 38, 36, 37, 65, 66, 67, 68, 69, 70, 71, 72, 73, 74, 75, 76, 77, 78, 79, 80, 81, 82, 83, 84] (by decide +kernel) (by decide +kernel)
set_option maxRecDepth 20000 in
theorem gX4_govern_X4_search : GoodIn wsX4_govern (wsV RX4 114 RX4 yX4_search wsX4_search) := goodIn_app (goodIn_of _ (by decide +kernel)) ggX4_govern_X4_search
set_option maxRecDepth 20000 in
theorem ggX4_govern_X4_read : GoodIn wsX4_govern wsX4_read := goodIn_r _ [55, 36, 2, 39, 47, 38, 56, 37, 65, 66, 67, 68, 69, 70, 71, 72, 73, 74, 75, 76, 77, 78, 79, 80, 81, 82, 83, 84] (by decide +kernel) (by decide +kernel)
set_option maxRecDepth 20000 in
theorem gX4_govern_X4_read : GoodIn wsX4_govern (wsV RX4 117 RX4 yX4_read wsX4_read) := goodIn_app (goodIn_of _ (by decide +kernel)) ggX4_govern_X4_read
set_option maxRecDepth 20000 in
theorem ggX4_govern_X4_fill : GoodIn wsX4_govern wsX4_fill := goodIn_r _ [60, 38, 2, 37, 36, 56, 39, 40, 41, 10, 42, 61, 62, 63, 64, 65, 66, 67, 68, 69, 70, 71, 72, 73, 74, 75, 76, 77, 78, 79, 80, 81, 82, 83, 84] (by decide +kernel) (by decide +kernel)
set_option maxRecDepth 20000 in
theorem gX4_govern_X4_fill : GoodIn wsX4_govern (wsV RX4 121 RX4 yX4_fill wsX4_fill) := goodIn_app (goodIn_of _ (by decide +kernel)) ggX4_govern_X4_fill
set_option maxRecDepth 20000 in
theorem ggX4_govern_X4_codeOf : GoodIn wsX4_govern wsX4_codeOf := goodIn_r _ [64, 2, 65, 66, 67, 68, 69, 70, 71, 72, 73, 74, 75, 76, 77, 78, 79, 80, 81, 82, 83, 84] (by decide +kernel) (by decide +kernel)
set_option maxRecDepth 20000 in
theorem gX4_govern_X4_codeOf : GoodIn wsX4_govern (wsV RX4 84 RX4 yX4_codeOf wsX4_codeOf) := goodIn_app (goodIn_of _ (by decide +kernel)) ggX4_govern_X4_codeOf
theorem dX4_govern_0 : decode cX4_govern 0 = .ok (.aload_n 0, 1) := by decide +kernel
theorem dX4_govern_1 : decode cX4_govern 1 = .ok (.invokevirtual 59, 3) := by decide +kernel
theorem dX4_govern_4 : decode cX4_govern 4 = .ok (.ifCond .eq 12, 3) := by decide +kernel
theorem dX4_govern_7 : decode cX4_govern 7 = .ok (.aload_n 0, 1) := by decide +kernel
theorem dX4_govern_8 : decode cX4_govern 8 = .ok (.bipush 14, 2) := by decide +kernel
theorem dX4_govern_10 : decode cX4_govern 10 = .ok (.iconst 0, 1) := by decide +kernel
theorem dX4_govern_11 : decode cX4_govern 11 = .ok (.iconst 0, 1) := by decide +kernel
theorem dX4_govern_12 : decode cX4_govern 12 = .ok (.invokevirtual 55, 3) := by decide +kernel
theorem dX4_govern_15 : decode cX4_govern 15 = .ok (.ireturn, 1) := by decide +kernel
theorem dX4_govern_16 : decode cX4_govern 16 = .ok (.iload_n 1, 1) := by decide +kernel
theorem dX4_govern_17 : decode cX4_govern 17 = .ok (.bipush 21, 2) := by decide +kernel
theorem dX4_govern_19 : decode cX4_govern 19 = .ok (.if_icmp .ge 13, 3) := by decide +kernel
theorem dX4_govern_22 : decode cX4_govern 22 = .ok (.aload_n 0, 1) := by decide +kernel
theorem dX4_govern_23 : decode cX4_govern 23 = .ok (.iload_n 1, 1) := by decide +kernel
theorem dX4_govern_24 : decode cX4_govern 24 = .ok (.iload_n 2, 1) := by decide +kernel
theorem dX4_govern_25 : decode cX4_govern 25 = .ok (.iload_n 3, 1) := by decide +kernel
theorem dX4_govern_26 : decode cX4_govern 26 = .ok (.iload 4, 2) := by decide +kernel
theorem dX4_govern_28 : decode cX4_govern 28 = .ok (.invokevirtual 107, 3) := by decide +kernel
theorem dX4_govern_31 : decode cX4_govern 31 = .ok (.ireturn, 1) := by decide +kernel
theorem dX4_govern_32 : decode cX4_govern 32 = .ok (.iload_n 1, 1) := by decide +kernel
theorem dX4_govern_33 : decode cX4_govern 33 = .ok (.bipush 25, 2) := by decide +kernel
theorem dX4_govern_35 : decode cX4_govern 35 = .ok (.if_icmp .ne 28, 3) := by decide +kernel
theorem dX4_govern_38 : decode cX4_govern 38 = .ok (.aload_n 0, 1) := by decide +kernel
theorem dX4_govern_39 : decode cX4_govern 39 = .ok (.iload 4, 2) := by decide +kernel
theorem dX4_govern_41 : decode cX4_govern 41 = .ok (.aload_n 0, 1) := by decide +kernel
theorem dX4_govern_42 : decode cX4_govern 42 = .ok (.getfield 13, 3) := by decide +kernel
theorem dX4_govern_45 : decode cX4_govern 45 = .ok (.iload_n 2, 1) := by decide +kernel
theorem dX4_govern_46 : decode cX4_govern 46 = .ok (.bipush 8, 2) := by decide +kernel
theorem dX4_govern_48 : decode cX4_govern 48 = .ok (.irem, 1) := by decide +kernel
theorem dX4_govern_49 : decode cX4_govern 49 = .ok (.iaload, 1) := by decide +kernel
theorem dX4_govern_50 : decode cX4_govern 50 = .ok (.aload_n 0, 1) := by decide +kernel
theorem dX4_govern_51 : decode cX4_govern 51 = .ok (.getfield 13, 3) := by decide +kernel
theorem dX4_govern_54 : decode cX4_govern 54 = .ok (.iload_n 3, 1) := by decide +kernel
theorem dX4_govern_55 : decode cX4_govern 55 = .ok (.bipush 8, 2) := by decide +kernel
theorem dX4_govern_57 : decode cX4_govern 57 = .ok (.irem, 1) := by decide +kernel
theorem dX4_govern_58 : decode cX4_govern 58 = .ok (.iaload, 1) := by decide +kernel
theorem dX4_govern_59 : decode cX4_govern 59 = .ok (.invokevirtual 111, 3) := by decide +kernel
theorem dX4_govern_62 : decode cX4_govern 62 = .ok (.ireturn, 1) := by decide +kernel
theorem dX4_govern_63 : decode cX4_govern 63 = .ok (.iload_n 1, 1) := by decide +kernel
theorem dX4_govern_64 : decode cX4_govern 64 = .ok (.bipush 21, 2) := by decide +kernel
theorem dX4_govern_66 : decode cX4_govern 66 = .ok (.if_icmp .ne 7, 3) := by decide +kernel
theorem dX4_govern_69 : decode cX4_govern 69 = .ok (.aload_n 0, 1) := by decide +kernel
theorem dX4_govern_70 : decode cX4_govern 70 = .ok (.invokevirtual 114, 3) := by decide +kernel
theorem dX4_govern_73 : decode cX4_govern 73 = .ok (.iload_n 1, 1) := by decide +kernel
theorem dX4_govern_74 : decode cX4_govern 74 = .ok (.bipush 22, 2) := by decide +kernel
theorem dX4_govern_76 : decode cX4_govern 76 = .ok (.if_icmp .ne 16, 3) := by decide +kernel
theorem dX4_govern_79 : decode cX4_govern 79 = .ok (.aload_n 0, 1) := by decide +kernel
theorem dX4_govern_80 : decode cX4_govern 80 = .ok (.aload_n 0, 1) := by decide +kernel
theorem dX4_govern_81 : decode cX4_govern 81 = .ok (.getfield 16, 3) := by decide +kernel
theorem dX4_govern_84 : decode cX4_govern 84 = .ok (.bipush 7, 2) := by decide +kernel
theorem dX4_govern_86 : decode cX4_govern 86 = .ok (.iaload, 1) := by decide +kernel
theorem dX4_govern_87 : decode cX4_govern 87 = .ok (.iconst 3, 1) := by decide +kernel
theorem dX4_govern_88 : decode cX4_govern 88 = .ok (.iand, 1) := by decide +kernel
theorem dX4_govern_89 : decode cX4_govern 89 = .ok (.invokevirtual 117, 3) := by decide +kernel
theorem dX4_govern_92 : decode cX4_govern 92 = .ok (.iload_n 1, 1) := by decide +kernel
theorem dX4_govern_93 : decode cX4_govern 93 = .ok (.bipush 23, 2) := by decide +kernel
theorem dX4_govern_95 : decode cX4_govern 95 = .ok (.if_icmp .ne 16, 3) := by decide +kernel
theorem dX4_govern_98 : decode cX4_govern 98 = .ok (.aload_n 0, 1) := by decide +kernel
theorem dX4_govern_99 : decode cX4_govern 99 = .ok (.aload_n 0, 1) := by decide +kernel
theorem dX4_govern_100 : decode cX4_govern 100 = .ok (.getfield 16, 3) := by decide +kernel
theorem dX4_govern_103 : decode cX4_govern 103 = .ok (.bipush 7, 2) := by decide +kernel
theorem dX4_govern_105 : decode cX4_govern 105 = .ok (.iaload, 1) := by decide +kernel
theorem dX4_govern_106 : decode cX4_govern 106 = .ok (.iconst 3, 1) := by decide +kernel
theorem dX4_govern_107 : decode cX4_govern 107 = .ok (.iand, 1) := by decide +kernel
theorem dX4_govern_108 : decode cX4_govern 108 = .ok (.invokevirtual 121, 3) := by decide +kernel
theorem dX4_govern_111 : decode cX4_govern 111 = .ok (.iload_n 1, 1) := by decide +kernel
theorem dX4_govern_112 : decode cX4_govern 112 = .ok (.bipush 24, 2) := by decide +kernel
theorem dX4_govern_114 : decode cX4_govern 114 = .ok (.if_icmp .ne 23, 3) := by decide +kernel
theorem dX4_govern_117 : decode cX4_govern 117 = .ok (.aload_n 0, 1) := by decide +kernel
theorem dX4_govern_118 : decode cX4_govern 118 = .ok (.aload_n 0, 1) := by decide +kernel
theorem dX4_govern_119 : decode cX4_govern 119 = .ok (.getfield 124, 3) := by decide +kernel
theorem dX4_govern_122 : decode cX4_govern 122 = .ok (.invokevirtual 121, 3) := by decide +kernel
theorem dX4_govern_125 : decode cX4_govern 125 = .ok (.aload_n 0, 1) := by decide +kernel
theorem dX4_govern_126 : decode cX4_govern 126 = .ok (.aload_n 0, 1) := by decide +kernel
theorem dX4_govern_127 : decode cX4_govern 127 = .ok (.getfield 124, 3) := by decide +kernel
theorem dX4_govern_130 : decode cX4_govern 130 = .ok (.iconst 1, 1) := by decide +kernel
theorem dX4_govern_131 : decode cX4_govern 131 = .ok (.iadd, 1) := by decide +kernel
theorem dX4_govern_132 : decode cX4_govern 132 = .ok (.iconst 4, 1) := by decide +kernel
theorem dX4_govern_133 : decode cX4_govern 133 = .ok (.irem, 1) := by decide +kernel
theorem dX4_govern_134 : decode cX4_govern 134 = .ok (.putfield 124, 3) := by decide +kernel
theorem dX4_govern_137 : decode cX4_govern 137 = .ok (.iload_n 1, 1) := by decide +kernel
theorem dX4_govern_138 : decode cX4_govern 138 = .ok (.bipush 26, 2) := by decide +kernel
theorem dX4_govern_140 : decode cX4_govern 140 = .ok (.if_icmp .ne 67, 3) := by decide +kernel
theorem dX4_govern_143 : decode cX4_govern 143 = .ok (.aload_n 0, 1) := by decide +kernel
theorem dX4_govern_144 : decode cX4_govern 144 = .ok (.aload_n 0, 1) := by decide +kernel
theorem dX4_govern_145 : decode cX4_govern 145 = .ok (.getfield 16, 3) := by decide +kernel
theorem dX4_govern_148 : decode cX4_govern 148 = .ok (.iconst 4, 1) := by decide +kernel
theorem dX4_govern_149 : decode cX4_govern 149 = .ok (.iaload, 1) := by decide +kernel
theorem dX4_govern_150 : decode cX4_govern 150 = .ok (.putfield 100, 3) := by decide +kernel
theorem dX4_govern_153 : decode cX4_govern 153 = .ok (.aload_n 0, 1) := by decide +kernel
theorem dX4_govern_154 : decode cX4_govern 154 = .ok (.getfield 16, 3) := by decide +kernel
theorem dX4_govern_157 : decode cX4_govern 157 = .ok (.iconst 0, 1) := by decide +kernel
theorem dX4_govern_158 : decode cX4_govern 158 = .ok (.aload_n 0, 1) := by decide +kernel
theorem dX4_govern_159 : decode cX4_govern 159 = .ok (.getfield 16, 3) := by decide +kernel
theorem dX4_govern_162 : decode cX4_govern 162 = .ok (.iconst 0, 1) := by decide +kernel
theorem dX4_govern_163 : decode cX4_govern 163 = .ok (.iaload, 1) := by decide +kernel
theorem dX4_govern_164 : decode cX4_govern 164 = .ok (.bipush 8, 2) := by decide +kernel
theorem dX4_govern_166 : decode cX4_govern 166 = .ok (.iand, 1) := by decide +kernel
theorem dX4_govern_167 : decode cX4_govern 167 = .ok (.aload_n 0, 1) := by decide +kernel
theorem dX4_govern_168 : decode cX4_govern 168 = .ok (.getfield 16, 3) := by decide +kernel
theorem dX4_govern_171 : decode cX4_govern 171 = .ok (.iconst 1, 1) := by decide +kernel
theorem dX4_govern_172 : decode cX4_govern 172 = .ok (.iaload, 1) := by decide +kernel
theorem dX4_govern_173 : decode cX4_govern 173 = .ok (.bipush 7, 2) := by decide +kernel
theorem dX4_govern_175 : decode cX4_govern 175 = .ok (.iand, 1) := by decide +kernel
theorem dX4_govern_176 : decode cX4_govern 176 = .ok (.ior, 1) := by decide +kernel
theorem dX4_govern_177 : decode cX4_govern 177 = .ok (.iastore, 1) := by decide +kernel
theorem dX4_govern_178 : decode cX4_govern 178 = .ok (.aload_n 0, 1) := by decide +kernel
theorem dX4_govern_179 : decode cX4_govern 179 = .ok (.iconst 0, 1) := by decide +kernel
theorem dX4_govern_180 : decode cX4_govern 180 = .ok (.putfield 89, 3) := by decide +kernel
theorem dX4_govern_183 : decode cX4_govern 183 = .ok (.aload_n 0, 1) := by decide +kernel
theorem dX4_govern_184 : decode cX4_govern 184 = .ok (.invokevirtual 84, 3) := by decide +kernel
theorem dX4_govern_187 : decode cX4_govern 187 = .ok (.bipush 63, 2) := by decide +kernel
theorem dX4_govern_189 : decode cX4_govern 189 = .ok (.if_icmp .ne 18, 3) := by decide +kernel
theorem dX4_govern_192 : decode cX4_govern 192 = .ok (.aload_n 0, 1) := by decide +kernel
theorem dX4_govern_193 : decode cX4_govern 193 = .ok (.getfield 16, 3) := by decide +kernel
theorem dX4_govern_196 : decode cX4_govern 196 = .ok (.iconst 0, 1) := by decide +kernel
theorem dX4_govern_197 : decode cX4_govern 197 = .ok (.aload_n 0, 1) := by decide +kernel
theorem dX4_govern_198 : decode cX4_govern 198 = .ok (.getfield 16, 3) := by decide +kernel
theorem dX4_govern_201 : decode cX4_govern 201 = .ok (.iconst 0, 1) := by decide +kernel
theorem dX4_govern_202 : decode cX4_govern 202 = .ok (.iaload, 1) := by decide +kernel
theorem dX4_govern_203 : decode cX4_govern 203 = .ok (.bipush 7, 2) := by decide +kernel
theorem dX4_govern_205 : decode cX4_govern 205 = .ok (.iand, 1) := by decide +kernel
theorem dX4_govern_206 : decode cX4_govern 206 = .ok (.iastore, 1) := by decide +kernel
theorem dX4_govern_207 : decode cX4_govern 207 = .ok (.aload_n 0, 1) := by decide +kernel
theorem dX4_govern_208 : decode cX4_govern 208 = .ok (.iload_n 1, 1) := by decide +kernel
theorem dX4_govern_209 : decode cX4_govern 209 = .ok (.bipush 27, 2) := by decide +kernel
theorem dX4_govern_211 : decode cX4_govern 211 = .ok (.if_icmp .ne 7, 3) := by decide +kernel
theorem dX4_govern_214 : decode cX4_govern 214 = .ok (.iconst 1, 1) := by decide +kernel
theorem dX4_govern_215 : decode cX4_govern 215 = .ok (.goto 4, 3) := by decide +kernel
theorem dX4_govern_218 : decode cX4_govern 218 = .ok (.iconst 0, 1) := by decide +kernel
theorem dX4_govern_219 : decode cX4_govern 219 = .ok (.putfield 127, 3) := by decide +kernel
theorem dX4_govern_222 : decode cX4_govern 222 = .ok (.iconst (-1), 1) := by decide +kernel
theorem dX4_govern_223 : decode cX4_govern 223 = .ok (.ireturn, 1) := by decide +kernel
set_option maxRecDepth 20000 in
theorem ggX4_instruction_X4_lookUp : GoodIn wsX4_instruction wsX4_lookUp := goodIn_r _ [10, 11, 12, 3, 13, 14, 15, 9, 16, 17, 18, 19, 20, 21, 22, 23, 24, 25, 26, 27, 28, 29, 30, 31, 32, 33, 34, 35, 36, 37, 38, 39, 40, 41, 97, 98, 99, 100, 101, 102, 103, 104, 105, 106, 107, 108, 109, 110, 111, 112, 113, 114, 115, 116] (by decide +kernel) (by decide +kernel)
set_option maxRecDepth 20000 in
theorem gX4_instruction_X4_lookUp : GoodIn wsX4_instruction (wsV RX4 97 RX4 yX4_lookUp wsX4_lookUp) := goodIn_app (goodIn_of _ (by decide +kernel)) ggX4_instruction_X4_lookUp
set_option maxRecDepth 20000 in
theorem ggX4_instruction_X4_with : GoodIn wsX4_instruction wsX4_with := goodIn_r _ [16, 17, 18, 97, 98, 99, 100, 101, 102, 103, 104, 105, 106, 107, 108, 109, 110, 111, 112, 113, 114, 115, 116] (by decide +kernel) (by decide +kernel)
set_option maxRecDepth 20000 in
theorem gX4_instruction_X4_with : GoodIn wsX4_instruction (wsV RX4 55 RX4 yX4_with wsX4_with) := goodIn_app (goodIn_of _ (by decide +kernel)) ggX4_instruction_X4_with
set_option maxRecDepth 20000 in
theorem ggX4_instruction_X4_reckon : GoodIn wsX4_instruction wsX4_reckon := goodIn_r _ [45, 5, 46, 97, 98, 99, 100, 101, 102, 103, 104, 105, 106, 107, 108, 109, 110, 111, 112, 113, 114, 115, 116] (by decide +kernel) (by decide +kernel)
set_option maxRecDepth 20000 in
theorem gX4_instruction_X4_reckon : GoodIn wsX4_instruction (wsV RX4 130 RX4 yX4_reckon wsX4_reckon) := goodIn_app (goodIn_of _ (by decide +kernel)) ggX4_instruction_X4_reckon
set_option maxRecDepth 20000 in
theorem ggX4_instruction_X4_put : GoodIn wsX4_instruction wsX4_put := goodIn_r _ [50, 5, 97, 98, 99, 100, 101, 102, 103, 104, 105, 106, 107, 108, 109, 110, 111, 112, 113, 114, 115, 116] (by decide +kernel) (by decide +kernel)
set_option maxRecDepth 20000 in
theorem gX4_instruction_X4_put : GoodIn wsX4_instruction (wsV RX4 93 RX4 yX4_put wsX4_put) := goodIn_app (goodIn_of _ (by decide +kernel)) ggX4_instruction_X4_put
set_option maxRecDepth 20000 in
theorem ggX4_instruction_X4_reach : GoodIn wsX4_instruction wsX4_reach := goodIn_r _ [54, 55, 2, 3, 5, 47, 48, 49, 9, 50, 6, 7, 8, 10, 11, 12, 13, 14, 15, 16, 17, 18, 19, 20, 21, 22, 23, 24, 25, 26, 27, 28, 29, 30, 31, 32, 33, 34, 35, 36, 37, 38, 39, 40, 41, 97, 98, 99, 100, 101, 102, 103, 104, 105, 106, 107, 108, 109, 110, 111, 112, 113, 114, 115, 116] (by decide +kernel) (by decide +kernel)
set_option maxRecDepth 20000 in
theorem gX4_instruction_X4_reach : GoodIn wsX4_instruction (wsV RX4 133 RX4 yX4_reach wsX4_reach) := goodIn_app (goodIn_of _ (by decide +kernel)) ggX4_instruction_X4_reach
set_option maxRecDepth 20000 in
theorem ggX4_instruction_X4_go : GoodIn wsX4_instruction wsX4_go := goodIn_r _ [59, 5, 1, 4, 13, 14, 15, 9, 16, 17, 18, 47, 48, 49, 50, 97, 98, 99, 100, 101, 102, 103, 104, 105, 106, 107, 108, 109, 110, 111, 112, 113, 114, 115, 116] (by decide +kernel) (by decide +kernel)
set_option maxRecDepth 20000 in
theorem gX4_instruction_X4_go : GoodIn wsX4_instruction (wsV RX4 136 RX4 yX4_go wsX4_go) := goodIn_app (goodIn_of _ (by decide +kernel)) ggX4_instruction_X4_go
set_option maxRecDepth 20000 in
theorem ggX4_instruction_X4_govern : GoodIn wsX4_instruction wsX4_govern := goodIn_r _ [63, 5, 11, 64, 4, 55, 65, 19, 20, 21, 9, 22, 13, 14, 15, 16, 17, 18, 66, 67, 68, 69, 70, 71, 72, 73, 74, 75, 47, 48, 49, 50, 76, 77, 78, 79, 37, 38, 36, 35, 28, 29, 30, 80, 81, 82, 83, 84, 31, 32, 33, 34, 85, 86, 87, 88, 27, 89, 90, 91, 92, 93, 94, 95, 96, 97, 98, 99, 100, 101, 102, 103, 104, 105, 106, 107, 108, 109, 110, 111, 112, 113, 114, 115, 116] (by decide +kernel) (by decide +kernel)
set_option maxRecDepth 20000 in
theorem gX4_instruction_X4_govern : GoodIn wsX4_instruction (wsV RX4 139 RX4 yX4_govern wsX4_govern) := goodIn_app (goodIn_of _ (by decide +kernel)) ggX4_instruction_X4_govern
theorem dX4_instruction_0 : decode cX4_instruction 0 = .ok (.aload_n 0, 1) := by decide +kernel
theorem dX4_instruction_1 : decode cX4_instruction 1 = .ok (.aload_n 0, 1) := by decide +kernel
theorem dX4_instruction_2 : decode cX4_instruction 2 = .ok (.getfield 51, 3) := by decide +kernel
theorem dX4_instruction_5 : decode cX4_instruction 5 = .ok (.iconst 0, 1) := by decide +kernel
theorem dX4_instruction_6 : decode cX4_instruction 6 = .ok (.invokevirtual 97, 3) := by decide +kernel
theorem dX4_instruction_9 : decode cX4_instruction 9 = .ok (.istore_n 1, 1) := by decide +kernel
theorem dX4_instruction_10 : decode cX4_instruction 10 = .ok (.iload_n 1, 1) := by decide +kernel
theorem dX4_instruction_11 : decode cX4_instruction 11 = .ok (.iconst (-1), 1) := by decide +kernel
theorem dX4_instruction_12 : decode cX4_instruction 12 = .ok (.if_icmp .eq 5, 3) := by decide +kernel
theorem dX4_instruction_15 : decode cX4_instruction 15 = .ok (.iload_n 1, 1) := by decide +kernel
theorem dX4_instruction_16 : decode cX4_instruction 16 = .ok (.ireturn, 1) := by decide +kernel
theorem dX4_instruction_17 : decode cX4_instruction 17 = .ok (.aload_n 0, 1) := by decide +kernel
theorem dX4_instruction_18 : decode cX4_instruction 18 = .ok (.getfield 7, 3) := by decide +kernel
theorem dX4_instruction_21 : decode cX4_instruction 21 = .ok (.aload_n 0, 1) := by decide +kernel
theorem dX4_instruction_22 : decode cX4_instruction 22 = .ok (.getfield 68, 3) := by decide +kernel
theorem dX4_instruction_25 : decode cX4_instruction 25 = .ok (.iaload, 1) := by decide +kernel
theorem dX4_instruction_26 : decode cX4_instruction 26 = .ok (.istore_n 2, 1) := by decide +kernel
theorem dX4_instruction_27 : decode cX4_instruction 27 = .ok (.iload_n 2, 1) := by decide +kernel
theorem dX4_instruction_28 : decode cX4_instruction 28 = .ok (.bipush 24, 2) := by decide +kernel
theorem dX4_instruction_30 : decode cX4_instruction 30 = .ok (.iushr, 1) := by decide +kernel
theorem dX4_instruction_31 : decode cX4_instruction 31 = .ok (.istore_n 3, 1) := by decide +kernel
theorem dX4_instruction_32 : decode cX4_instruction 32 = .ok (.iload_n 2, 1) := by decide +kernel
theorem dX4_instruction_33 : decode cX4_instruction 33 = .ok (.bipush 16, 2) := by decide +kernel
theorem dX4_instruction_35 : decode cX4_instruction 35 = .ok (.ishr, 1) := by decide +kernel
theorem dX4_instruction_36 : decode cX4_instruction 36 = .ok (.sipush 255, 3) := by decide +kernel
theorem dX4_instruction_39 : decode cX4_instruction 39 = .ok (.iand, 1) := by decide +kernel
theorem dX4_instruction_40 : decode cX4_instruction 40 = .ok (.istore 4, 2) := by decide +kernel
theorem dX4_instruction_42 : decode cX4_instruction 42 = .ok (.iload_n 2, 1) := by decide +kernel
theorem dX4_instruction_43 : decode cX4_instruction 43 = .ok (.bipush 8, 2) := by decide +kernel
theorem dX4_instruction_45 : decode cX4_instruction 45 = .ok (.ishr, 1) := by decide +kernel
theorem dX4_instruction_46 : decode cX4_instruction 46 = .ok (.sipush 255, 3) := by decide +kernel
theorem dX4_instruction_49 : decode cX4_instruction 49 = .ok (.iand, 1) := by decide +kernel
theorem dX4_instruction_50 : decode cX4_instruction 50 = .ok (.istore 5, 2) := by decide +kernel
theorem dX4_instruction_52 : decode cX4_instruction 52 = .ok (.iload_n 2, 1) := by decide +kernel
theorem dX4_instruction_53 : decode cX4_instruction 53 = .ok (.sipush 255, 3) := by decide +kernel
theorem dX4_instruction_56 : decode cX4_instruction 56 = .ok (.iand, 1) := by decide +kernel
theorem dX4_instruction_57 : decode cX4_instruction 57 = .ok (.istore 6, 2) := by decide +kernel
theorem dX4_instruction_59 : decode cX4_instruction 59 = .ok (.iload 6, 2) := by decide +kernel
theorem dX4_instruction_61 : decode cX4_instruction 61 = .ok (.sipush 128, 3) := by decide +kernel
theorem dX4_instruction_64 : decode cX4_instruction 64 = .ok (.if_icmp .ge 8, 3) := by decide +kernel
theorem dX4_instruction_67 : decode cX4_instruction 67 = .ok (.iload 6, 2) := by decide +kernel
theorem dX4_instruction_69 : decode cX4_instruction 69 = .ok (.goto 9, 3) := by decide +kernel
theorem dX4_instruction_72 : decode cX4_instruction 72 = .ok (.iload 6, 2) := by decide +kernel
theorem dX4_instruction_74 : decode cX4_instruction 74 = .ok (.sipush 256, 3) := by decide +kernel
theorem dX4_instruction_77 : decode cX4_instruction 77 = .ok (.isub, 1) := by decide +kernel
theorem dX4_instruction_78 : decode cX4_instruction 78 = .ok (.istore 7, 2) := by decide +kernel
theorem dX4_instruction_80 : decode cX4_instruction 80 = .ok (.aload_n 0, 1) := by decide +kernel
theorem dX4_instruction_81 : decode cX4_instruction 81 = .ok (.aload_n 0, 1) := by decide +kernel
theorem dX4_instruction_82 : decode cX4_instruction 82 = .ok (.getfield 51, 3) := by decide +kernel
theorem dX4_instruction_85 : decode cX4_instruction 85 = .ok (.iconst 4, 1) := by decide +kernel
theorem dX4_instruction_86 : decode cX4_instruction 86 = .ok (.iadd, 1) := by decide +kernel
theorem dX4_instruction_87 : decode cX4_instruction 87 = .ok (.putfield 100, 3) := by decide +kernel
theorem dX4_instruction_90 : decode cX4_instruction 90 = .ok (.iload_n 3, 1) := by decide +kernel
theorem dX4_instruction_91 : decode cX4_instruction 91 = .ok (.iconst 1, 1) := by decide +kernel
theorem dX4_instruction_92 : decode cX4_instruction 92 = .ok (.if_icmp .lt 9, 3) := by decide +kernel
theorem dX4_instruction_95 : decode cX4_instruction 95 = .ok (.iload_n 3, 1) := by decide +kernel
theorem dX4_instruction_96 : decode cX4_instruction 96 = .ok (.bipush 27, 2) := by decide +kernel
theorem dX4_instruction_98 : decode cX4_instruction 98 = .ok (.if_icmp .le 12, 3) := by decide +kernel
theorem dX4_instruction_101 : decode cX4_instruction 101 = .ok (.aload_n 0, 1) := by decide +kernel
theorem dX4_instruction_102 : decode cX4_instruction 102 = .ok (.bipush 13, 2) := by decide +kernel
theorem dX4_instruction_104 : decode cX4_instruction 104 = .ok (.iconst 0, 1) := by decide +kernel
theorem dX4_instruction_105 : decode cX4_instruction 105 = .ok (.iconst 0, 1) := by decide +kernel
theorem dX4_instruction_106 : decode cX4_instruction 106 = .ok (.invokevirtual 55, 3) := by decide +kernel
theorem dX4_instruction_109 : decode cX4_instruction 109 = .ok (.ireturn, 1) := by decide +kernel
theorem dX4_instruction_110 : decode cX4_instruction 110 = .ok (.iload_n 3, 1) := by decide +kernel
theorem dX4_instruction_111 : decode cX4_instruction 111 = .ok (.bipush 8, 2) := by decide +kernel
theorem dX4_instruction_113 : decode cX4_instruction 113 = .ok (.if_icmp .ge 22, 3) := by decide +kernel
theorem dX4_instruction_116 : decode cX4_instruction 116 = .ok (.aload_n 0, 1) := by decide +kernel
theorem dX4_instruction_117 : decode cX4_instruction 117 = .ok (.iload 4, 2) := by decide +kernel
theorem dX4_instruction_119 : decode cX4_instruction 119 = .ok (.aload_n 0, 1) := by decide +kernel
theorem dX4_instruction_120 : decode cX4_instruction 120 = .ok (.iload_n 3, 1) := by decide +kernel
theorem dX4_instruction_121 : decode cX4_instruction 121 = .ok (.iload 5, 2) := by decide +kernel
theorem dX4_instruction_123 : decode cX4_instruction 123 = .ok (.iload 6, 2) := by decide +kernel
theorem dX4_instruction_125 : decode cX4_instruction 125 = .ok (.iload 7, 2) := by decide +kernel
theorem dX4_instruction_127 : decode cX4_instruction 127 = .ok (.invokevirtual 130, 3) := by decide +kernel
theorem dX4_instruction_130 : decode cX4_instruction 130 = .ok (.invokevirtual 93, 3) := by decide +kernel
theorem dX4_instruction_133 : decode cX4_instruction 133 = .ok (.iconst (-1), 1) := by decide +kernel
theorem dX4_instruction_134 : decode cX4_instruction 134 = .ok (.ireturn, 1) := by decide +kernel
theorem dX4_instruction_135 : decode cX4_instruction 135 = .ok (.iload_n 3, 1) := by decide +kernel
theorem dX4_instruction_136 : decode cX4_instruction 136 = .ok (.bipush 12, 2) := by decide +kernel
theorem dX4_instruction_138 : decode cX4_instruction 138 = .ok (.if_icmp .ge 24, 3) := by decide +kernel
theorem dX4_instruction_141 : decode cX4_instruction 141 = .ok (.aload_n 0, 1) := by decide +kernel
theorem dX4_instruction_142 : decode cX4_instruction 142 = .ok (.iload_n 3, 1) := by decide +kernel
theorem dX4_instruction_143 : decode cX4_instruction 143 = .ok (.iload 4, 2) := by decide +kernel
theorem dX4_instruction_145 : decode cX4_instruction 145 = .ok (.aload_n 0, 1) := by decide +kernel
theorem dX4_instruction_146 : decode cX4_instruction 146 = .ok (.getfield 13, 3) := by decide +kernel
theorem dX4_instruction_149 : decode cX4_instruction 149 = .ok (.iload 5, 2) := by decide +kernel
theorem dX4_instruction_151 : decode cX4_instruction 151 = .ok (.bipush 8, 2) := by decide +kernel
theorem dX4_instruction_153 : decode cX4_instruction 153 = .ok (.irem, 1) := by decide +kernel
theorem dX4_instruction_154 : decode cX4_instruction 154 = .ok (.iaload, 1) := by decide +kernel
theorem dX4_instruction_155 : decode cX4_instruction 155 = .ok (.iload 7, 2) := by decide +kernel
theorem dX4_instruction_157 : decode cX4_instruction 157 = .ok (.iadd, 1) := by decide +kernel
theorem dX4_instruction_158 : decode cX4_instruction 158 = .ok (.invokevirtual 133, 3) := by decide +kernel
theorem dX4_instruction_161 : decode cX4_instruction 161 = .ok (.ireturn, 1) := by decide +kernel
theorem dX4_instruction_162 : decode cX4_instruction 162 = .ok (.iload_n 3, 1) := by decide +kernel
theorem dX4_instruction_163 : decode cX4_instruction 163 = .ok (.bipush 18, 2) := by decide +kernel
theorem dX4_instruction_165 : decode cX4_instruction 165 = .ok (.if_icmp .ge 17, 3) := by decide +kernel
theorem dX4_instruction_168 : decode cX4_instruction 168 = .ok (.aload_n 0, 1) := by decide +kernel
theorem dX4_instruction_169 : decode cX4_instruction 169 = .ok (.iload_n 3, 1) := by decide +kernel
theorem dX4_instruction_170 : decode cX4_instruction 170 = .ok (.iload 4, 2) := by decide +kernel
theorem dX4_instruction_172 : decode cX4_instruction 172 = .ok (.iload 5, 2) := by decide +kernel
theorem dX4_instruction_174 : decode cX4_instruction 174 = .ok (.iload 7, 2) := by decide +kernel
theorem dX4_instruction_176 : decode cX4_instruction 176 = .ok (.invokevirtual 136, 3) := by decide +kernel
theorem dX4_instruction_179 : decode cX4_instruction 179 = .ok (.goto 14, 3) := by decide +kernel
theorem dX4_instruction_182 : decode cX4_instruction 182 = .ok (.aload_n 0, 1) := by decide +kernel
theorem dX4_instruction_183 : decode cX4_instruction 183 = .ok (.iload_n 3, 1) := by decide +kernel
theorem dX4_instruction_184 : decode cX4_instruction 184 = .ok (.iload 4, 2) := by decide +kernel
theorem dX4_instruction_186 : decode cX4_instruction 186 = .ok (.iload 5, 2) := by decide +kernel
theorem dX4_instruction_188 : decode cX4_instruction 188 = .ok (.iload 6, 2) := by decide +kernel
theorem dX4_instruction_190 : decode cX4_instruction 190 = .ok (.invokevirtual 139, 3) := by decide +kernel
theorem dX4_instruction_193 : decode cX4_instruction 193 = .ok (.ireturn, 1) := by decide +kernel
theorem dX4_tick_0 : decode cX4_tick 0 = .ok (.aload_n 0, 1) := by decide +kernel
theorem dX4_tick_1 : decode cX4_tick 1 = .ok (.getfield 16, 3) := by decide +kernel
theorem dX4_tick_4 : decode cX4_tick 4 = .ok (.bipush 14, 2) := by decide +kernel
theorem dX4_tick_6 : decode cX4_tick 6 = .ok (.iaload, 1) := by decide +kernel
theorem dX4_tick_7 : decode cX4_tick 7 = .ok (.iconst 1, 1) := by decide +kernel
theorem dX4_tick_8 : decode cX4_tick 8 = .ok (.iand, 1) := by decide +kernel
theorem dX4_tick_9 : decode cX4_tick 9 = .ok (.ifCond .eq 13, 3) := by decide +kernel
theorem dX4_tick_12 : decode cX4_tick 12 = .ok (.aload_n 0, 1) := by decide +kernel
theorem dX4_tick_13 : decode cX4_tick 13 = .ok (.getfield 16, 3) := by decide +kernel
theorem dX4_tick_16 : decode cX4_tick 16 = .ok (.bipush 15, 2) := by decide +kernel
theorem dX4_tick_18 : decode cX4_tick 18 = .ok (.iaload, 1) := by decide +kernel
theorem dX4_tick_19 : decode cX4_tick 19 = .ok (.ifCond .ne 4, 3) := by decide +kernel
theorem dX4_tick_22 : decode cX4_tick 22 = .ok (.return_, 1) := by decide +kernel
theorem dX4_tick_23 : decode cX4_tick 23 = .ok (.aload_n 0, 1) := by decide +kernel
theorem dX4_tick_24 : decode cX4_tick 24 = .ok (.getfield 16, 3) := by decide +kernel
theorem dX4_tick_27 : decode cX4_tick 27 = .ok (.bipush 15, 2) := by decide +kernel
theorem dX4_tick_29 : decode cX4_tick 29 = .ok (.dup2, 1) := by decide +kernel
theorem dX4_tick_30 : decode cX4_tick 30 = .ok (.iaload, 1) := by decide +kernel
theorem dX4_tick_31 : decode cX4_tick 31 = .ok (.iconst 1, 1) := by decide +kernel
theorem dX4_tick_32 : decode cX4_tick 32 = .ok (.isub, 1) := by decide +kernel
theorem dX4_tick_33 : decode cX4_tick 33 = .ok (.iastore, 1) := by decide +kernel
theorem dX4_tick_34 : decode cX4_tick 34 = .ok (.aload_n 0, 1) := by decide +kernel
theorem dX4_tick_35 : decode cX4_tick 35 = .ok (.getfield 16, 3) := by decide +kernel
theorem dX4_tick_38 : decode cX4_tick 38 = .ok (.bipush 15, 2) := by decide +kernel
theorem dX4_tick_40 : decode cX4_tick 40 = .ok (.iaload, 1) := by decide +kernel
theorem dX4_tick_41 : decode cX4_tick 41 = .ok (.ifCond .le 4, 3) := by decide +kernel
theorem dX4_tick_44 : decode cX4_tick 44 = .ok (.return_, 1) := by decide +kernel
theorem dX4_tick_45 : decode cX4_tick 45 = .ok (.aload_n 0, 1) := by decide +kernel
theorem dX4_tick_46 : decode cX4_tick 46 = .ok (.getfield 16, 3) := by decide +kernel
theorem dX4_tick_49 : decode cX4_tick 49 = .ok (.iconst 3, 1) := by decide +kernel
theorem dX4_tick_50 : decode cX4_tick 50 = .ok (.dup2, 1) := by decide +kernel
theorem dX4_tick_51 : decode cX4_tick 51 = .ok (.iaload, 1) := by decide +kernel
theorem dX4_tick_52 : decode cX4_tick 52 = .ok (.bipush 16, 2) := by decide +kernel
theorem dX4_tick_54 : decode cX4_tick 54 = .ok (.ior, 1) := by decide +kernel
theorem dX4_tick_55 : decode cX4_tick 55 = .ok (.iastore, 1) := by decide +kernel
theorem dX4_tick_56 : decode cX4_tick 56 = .ok (.aload_n 0, 1) := by decide +kernel
theorem dX4_tick_57 : decode cX4_tick 57 = .ok (.getfield 16, 3) := by decide +kernel
theorem dX4_tick_60 : decode cX4_tick 60 = .ok (.bipush 15, 2) := by decide +kernel
theorem dX4_tick_62 : decode cX4_tick 62 = .ok (.aload_n 0, 1) := by decide +kernel
theorem dX4_tick_63 : decode cX4_tick 63 = .ok (.getfield 16, 3) := by decide +kernel
theorem dX4_tick_66 : decode cX4_tick 66 = .ok (.bipush 14, 2) := by decide +kernel
theorem dX4_tick_68 : decode cX4_tick 68 = .ok (.iaload, 1) := by decide +kernel
theorem dX4_tick_69 : decode cX4_tick 69 = .ok (.iconst 2, 1) := by decide +kernel
theorem dX4_tick_70 : decode cX4_tick 70 = .ok (.iand, 1) := by decide +kernel
theorem dX4_tick_71 : decode cX4_tick 71 = .ok (.ifCond .eq 16, 3) := by decide +kernel
theorem dX4_tick_74 : decode cX4_tick 74 = .ok (.aload_n 0, 1) := by decide +kernel
theorem dX4_tick_75 : decode cX4_tick 75 = .ok (.getfield 16, 3) := by decide +kernel
theorem dX4_tick_78 : decode cX4_tick 78 = .ok (.bipush 14, 2) := by decide +kernel
theorem dX4_tick_80 : decode cX4_tick 80 = .ok (.iaload, 1) := by decide +kernel
theorem dX4_tick_81 : decode cX4_tick 81 = .ok (.ldc 82, 2) := by decide +kernel
theorem dX4_tick_83 : decode cX4_tick 83 = .ok (.iand, 1) := by decide +kernel
theorem dX4_tick_84 : decode cX4_tick 84 = .ok (.goto 4, 3) := by decide +kernel
theorem dX4_tick_87 : decode cX4_tick 87 = .ok (.iconst 0, 1) := by decide +kernel
theorem dX4_tick_88 : decode cX4_tick 88 = .ok (.iastore, 1) := by decide +kernel
theorem dX4_tick_89 : decode cX4_tick 89 = .ok (.return_, 1) := by decide +kernel
set_option maxRecDepth 20000 in
theorem ggX4_step_X4_tick : GoodIn wsX4_step wsX4_tick := goodIn_r _ [11, 1, 12, 112, 113, 114, 115, 116, 117, 118, 119, 120, 121, 122, 123, 124, 125, 126, 127, 128, 129, 130, 131] (by decide +kernel) (by decide +kernel)
set_option maxRecDepth 20000 in
theorem gX4_step_X4_tick : GoodIn wsX4_step (wsV RX4 142 RX4 yX4_tick wsX4_tick) := goodIn_app (goodIn_of _ (by decide +kernel)) ggX4_step_X4_tick
set_option maxRecDepth 20000 in
theorem ggX4_step_X4_with : GoodIn wsX4_step wsX4_with := goodIn_r _ [16, 17, 18, 112, 113, 114, 115, 116, 117, 118, 119, 120, 121, 122, 123, 124, 125, 126, 127, 128, 129, 130, 131] (by decide +kernel) (by decide +kernel)
set_option maxRecDepth 20000 in
theorem gX4_step_X4_with : GoodIn wsX4_step (wsV RX4 55 RX4 yX4_with wsX4_with) := goodIn_app (goodIn_of _ (by decide +kernel)) ggX4_step_X4_with
set_option maxRecDepth 20000 in
theorem ggX4_step_X4_instruction : GoodIn wsX4_step wsX4_instruction := goodIn_r _ [22, 6, 23, 24, 5, 25, 26, 27, 28, 10, 29, 1, 30, 13, 14, 15, 16, 17, 18, 31, 32, 33, 34, 35, 36, 37, 38, 39, 40, 41, 42, 43, 44, 45, 46, 47, 48, 49, 50, 51, 52, 53, 54, 55, 56, 57, 58, 59, 60, 61, 62, 63, 64, 65, 66, 67, 68, 69, 70, 71, 72, 73, 74, 75, 76, 2, 77, 78, 79, 80, 81, 82, 83, 84, 85, 12, 86, 87, 88, 89, 90, 91, 92, 93, 94, 95, 96, 97, 98, 99, 100, 101, 102, 103, 104, 105, 106, 112, 113, 114, 115, 116, 117, 118, 119, 120, 121, 122, 123, 124, 125, 126, 127, 128, 129, 130, 131] (by decide +kernel) (by decide +kernel)
set_option maxRecDepth 20000 in
theorem gX4_step_X4_instruction : GoodIn wsX4_step (wsV RX4 145 RX4 yX4_instruction wsX4_instruction) := goodIn_app (goodIn_of _ (by decide +kernel)) ggX4_step_X4_instruction
set_option maxRecDepth 20000 in
theorem ggX4_step_X4_enter : GoodIn wsX4_step wsX4_enter := goodIn_r _ [110, 1, 6, 111, 17, 18, 112, 113, 114, 115, 116, 117, 118, 119, 120, 121, 122, 123, 124, 125, 126, 127, 128, 129, 130, 131] (by decide +kernel) (by decide +kernel)
set_option maxRecDepth 20000 in
theorem gX4_step_X4_enter : GoodIn wsX4_step (wsV RX4 154 RX4 yX4_enter wsX4_enter) := goodIn_app (goodIn_of _ (by decide +kernel)) ggX4_step_X4_enter
theorem dX4_step_0 : decode cX4_step 0 = .ok (.aload_n 0, 1) := by decide +kernel
theorem dX4_step_1 : decode cX4_step 1 = .ok (.getfield 16, 3) := by decide +kernel
theorem dX4_step_4 : decode cX4_step 4 = .ok (.iconst 2, 1) := by decide +kernel
theorem dX4_step_5 : decode cX4_step 5 = .ok (.iaload, 1) := by decide +kernel
theorem dX4_step_6 : decode cX4_step 6 = .ok (.aload_n 0, 1) := by decide +kernel
theorem dX4_step_7 : decode cX4_step 7 = .ok (.getfield 16, 3) := by decide +kernel
theorem dX4_step_10 : decode cX4_step 10 = .ok (.iconst 3, 1) := by decide +kernel
theorem dX4_step_11 : decode cX4_step 11 = .ok (.iaload, 1) := by decide +kernel
theorem dX4_step_12 : decode cX4_step 12 = .ok (.iand, 1) := by decide +kernel
theorem dX4_step_13 : decode cX4_step 13 = .ok (.bipush 31, 2) := by decide +kernel
theorem dX4_step_15 : decode cX4_step 15 = .ok (.iand, 1) := by decide +kernel
theorem dX4_step_16 : decode cX4_step 16 = .ok (.ifCond .eq 7, 3) := by decide +kernel
theorem dX4_step_19 : decode cX4_step 19 = .ok (.iconst 1, 1) := by decide +kernel
theorem dX4_step_20 : decode cX4_step 20 = .ok (.goto 4, 3) := by decide +kernel
theorem dX4_step_23 : decode cX4_step 23 = .ok (.iconst 0, 1) := by decide +kernel
theorem dX4_step_24 : decode cX4_step 24 = .ok (.istore_n 1, 1) := by decide +kernel
theorem dX4_step_25 : decode cX4_step 25 = .ok (.aload_n 0, 1) := by decide +kernel
theorem dX4_step_26 : decode cX4_step 26 = .ok (.getfield 127, 3) := by decide +kernel
theorem dX4_step_29 : decode cX4_step 29 = .ok (.ifCond .eq 21, 3) := by decide +kernel
theorem dX4_step_32 : decode cX4_step 32 = .ok (.aload_n 0, 1) := by decide +kernel
theorem dX4_step_33 : decode cX4_step 33 = .ok (.iload_n 1, 1) := by decide +kernel
theorem dX4_step_34 : decode cX4_step 34 = .ok (.ifCond .ne 7, 3) := by decide +kernel
theorem dX4_step_37 : decode cX4_step 37 = .ok (.iconst 1, 1) := by decide +kernel
theorem dX4_step_38 : decode cX4_step 38 = .ok (.goto 4, 3) := by decide +kernel
theorem dX4_step_41 : decode cX4_step 41 = .ok (.iconst 0, 1) := by decide +kernel
theorem dX4_step_42 : decode cX4_step 42 = .ok (.putfield 127, 3) := by decide +kernel
theorem dX4_step_45 : decode cX4_step 45 = .ok (.aload_n 0, 1) := by decide +kernel
theorem dX4_step_46 : decode cX4_step 46 = .ok (.invokevirtual 142, 3) := by decide +kernel
theorem dX4_step_49 : decode cX4_step 49 = .ok (.return_, 1) := by decide +kernel
theorem dX4_step_50 : decode cX4_step 50 = .ok (.iload_n 1, 1) := by decide +kernel
theorem dX4_step_51 : decode cX4_step 51 = .ok (.ifCond .eq 24, 3) := by decide +kernel
theorem dX4_step_54 : decode cX4_step 54 = .ok (.aload_n 0, 1) := by decide +kernel
theorem dX4_step_55 : decode cX4_step 55 = .ok (.getfield 16, 3) := by decide +kernel
theorem dX4_step_58 : decode cX4_step 58 = .ok (.iconst 0, 1) := by decide +kernel
theorem dX4_step_59 : decode cX4_step 59 = .ok (.iaload, 1) := by decide +kernel
theorem dX4_step_60 : decode cX4_step 60 = .ok (.iconst 4, 1) := by decide +kernel
theorem dX4_step_61 : decode cX4_step 61 = .ok (.iand, 1) := by decide +kernel
theorem dX4_step_62 : decode cX4_step 62 = .ok (.ifCond .eq 13, 3) := by decide +kernel
theorem dX4_step_65 : decode cX4_step 65 = .ok (.aload_n 0, 1) := by decide +kernel
theorem dX4_step_66 : decode cX4_step 66 = .ok (.iconst 0, 1) := by decide +kernel
theorem dX4_step_67 : decode cX4_step 67 = .ok (.iconst 0, 1) := by decide +kernel
theorem dX4_step_68 : decode cX4_step 68 = .ok (.iconst 0, 1) := by decide +kernel
theorem dX4_step_69 : decode cX4_step 69 = .ok (.invokevirtual 55, 3) := by decide +kernel
theorem dX4_step_72 : decode cX4_step 72 = .ok (.goto 7, 3) := by decide +kernel
theorem dX4_step_75 : decode cX4_step 75 = .ok (.aload_n 0, 1) := by decide +kernel
theorem dX4_step_76 : decode cX4_step 76 = .ok (.invokevirtual 145, 3) := by decide +kernel
theorem dX4_step_79 : decode cX4_step 79 = .ok (.istore_n 2, 1) := by decide +kernel
theorem dX4_step_80 : decode cX4_step 80 = .ok (.aload_n 0, 1) := by decide +kernel
theorem dX4_step_81 : decode cX4_step 81 = .ok (.iload_n 2, 1) := by decide +kernel
theorem dX4_step_82 : decode cX4_step 82 = .ok (.bipush (-2), 2) := by decide +kernel
theorem dX4_step_84 : decode cX4_step 84 = .ok (.if_icmp .ne 7, 3) := by decide +kernel
theorem dX4_step_87 : decode cX4_step 87 = .ok (.iconst 1, 1) := by decide +kernel
theorem dX4_step_88 : decode cX4_step 88 = .ok (.goto 4, 3) := by decide +kernel
theorem dX4_step_91 : decode cX4_step 91 = .ok (.iconst 0, 1) := by decide +kernel
theorem dX4_step_92 : decode cX4_step 92 = .ok (.putfield 148, 3) := by decide +kernel
theorem dX4_step_95 : decode cX4_step 95 = .ok (.aload_n 0, 1) := by decide +kernel
theorem dX4_step_96 : decode cX4_step 96 = .ok (.getfield 148, 3) := by decide +kernel
theorem dX4_step_99 : decode cX4_step 99 = .ok (.ifCond .eq 4, 3) := by decide +kernel
theorem dX4_step_102 : decode cX4_step 102 = .ok (.return_, 1) := by decide +kernel
theorem dX4_step_103 : decode cX4_step 103 = .ok (.aload_n 0, 1) := by decide +kernel
theorem dX4_step_104 : decode cX4_step 104 = .ok (.iload_n 2, 1) := by decide +kernel
theorem dX4_step_105 : decode cX4_step 105 = .ok (.iconst (-1), 1) := by decide +kernel
theorem dX4_step_106 : decode cX4_step 106 = .ok (.if_icmp .eq 7, 3) := by decide +kernel
theorem dX4_step_109 : decode cX4_step 109 = .ok (.iconst 1, 1) := by decide +kernel
theorem dX4_step_110 : decode cX4_step 110 = .ok (.goto 4, 3) := by decide +kernel
theorem dX4_step_113 : decode cX4_step 113 = .ok (.iconst 0, 1) := by decide +kernel
theorem dX4_step_114 : decode cX4_step 114 = .ok (.putfield 151, 3) := by decide +kernel
theorem dX4_step_117 : decode cX4_step 117 = .ok (.aload_n 0, 1) := by decide +kernel
theorem dX4_step_118 : decode cX4_step 118 = .ok (.getfield 151, 3) := by decide +kernel
theorem dX4_step_121 : decode cX4_step 121 = .ok (.ifCond .eq 11, 3) := by decide +kernel
theorem dX4_step_124 : decode cX4_step 124 = .ok (.aload_n 0, 1) := by decide +kernel
theorem dX4_step_125 : decode cX4_step 125 = .ok (.iload_n 2, 1) := by decide +kernel
theorem dX4_step_126 : decode cX4_step 126 = .ok (.invokevirtual 154, 3) := by decide +kernel
theorem dX4_step_129 : decode cX4_step 129 = .ok (.goto 11, 3) := by decide +kernel
theorem dX4_step_132 : decode cX4_step 132 = .ok (.aload_n 0, 1) := by decide +kernel
theorem dX4_step_133 : decode cX4_step 133 = .ok (.aload_n 0, 1) := by decide +kernel
theorem dX4_step_134 : decode cX4_step 134 = .ok (.getfield 100, 3) := by decide +kernel
theorem dX4_step_137 : decode cX4_step 137 = .ok (.putfield 51, 3) := by decide +kernel
theorem dX4_step_140 : decode cX4_step 140 = .ok (.aload_n 0, 1) := by decide +kernel
theorem dX4_step_141 : decode cX4_step 141 = .ok (.invokevirtual 142, 3) := by decide +kernel
theorem dX4_step_144 : decode cX4_step 144 = .ok (.return_, 1) := by decide +kernel
set_option maxRecDepth 20000 in
theorem ggX4_isWord_X4_outside : GoodIn wsX4_isWord wsX4_outside := goodIn_r _ [4] (by decide +kernel) (by decide +kernel)
set_option maxRecDepth 20000 in
theorem gX4_isWord_X4_outside : GoodIn wsX4_isWord (va_wsS RX4 71 yX4_outside wsX4_outside) := goodIn_app (goodIn_of _ (by decide +kernel)) ggX4_isWord_X4_outside
theorem dX4_isWord_0 : decode cX4_isWord 0 = .ok (.iload_n 0, 1) := by decide +kernel
theorem dX4_isWord_1 : decode cX4_isWord 1 = .ok (.iconst 0, 1) := by decide +kernel
theorem dX4_isWord_2 : decode cX4_isWord 2 = .ok (.sipush 2047, 3) := by decide +kernel
theorem dX4_isWord_5 : decode cX4_isWord 5 = .ok (.invokestatic 71, 3) := by decide +kernel
theorem dX4_isWord_8 : decode cX4_isWord 8 = .ok (.ifCond .ne 13, 3) := by decide +kernel
theorem dX4_isWord_11 : decode cX4_isWord 11 = .ok (.iload_n 0, 1) := by decide +kernel
theorem dX4_isWord_12 : decode cX4_isWord 12 = .ok (.iconst 4, 1) := by decide +kernel
theorem dX4_isWord_13 : decode cX4_isWord 13 = .ok (.irem, 1) := by decide +kernel
theorem dX4_isWord_14 : decode cX4_isWord 14 = .ok (.ifCond .ne 7, 3) := by decide +kernel
theorem dX4_isWord_17 : decode cX4_isWord 17 = .ok (.iconst 1, 1) := by decide +kernel
theorem dX4_isWord_18 : decode cX4_isWord 18 = .ok (.goto 4, 3) := by decide +kernel
theorem dX4_isWord_21 : decode cX4_isWord 21 = .ok (.iconst 0, 1) := by decide +kernel
theorem dX4_isWord_22 : decode cX4_isWord 22 = .ok (.ireturn, 1) := by decide +kernel
set_option maxRecDepth 20000 in
theorem ggX4_load_X4_isWord : GoodIn wsX4_load wsX4_isWord := goodIn_r _ [6, 7, 8, 5, 9] (by decide +kernel) (by decide +kernel)
set_option maxRecDepth 20000 in
theorem gX4_load_X4_isWord : GoodIn wsX4_load (va_wsS RX4 157 yX4_isWord wsX4_isWord) := goodIn_app (goodIn_of _ (by decide +kernel)) ggX4_load_X4_isWord
theorem dX4_load_0 : decode cX4_load 0 = .ok (.aload_n 0, 1) := by decide +kernel
theorem dX4_load_1 : decode cX4_load 1 = .ok (.iload_n 1, 1) := by decide +kernel
theorem dX4_load_2 : decode cX4_load 2 = .ok (.invokestatic 157, 3) := by decide +kernel
theorem dX4_load_5 : decode cX4_load 5 = .ok (.ifCond .eq 7, 3) := by decide +kernel
theorem dX4_load_8 : decode cX4_load 8 = .ok (.iconst 0, 1) := by decide +kernel
theorem dX4_load_9 : decode cX4_load 9 = .ok (.goto 4, 3) := by decide +kernel
theorem dX4_load_12 : decode cX4_load 12 = .ok (.iconst 1, 1) := by decide +kernel
theorem dX4_load_13 : decode cX4_load 13 = .ok (.putfield 41, 3) := by decide +kernel
theorem dX4_load_16 : decode cX4_load 16 = .ok (.aload_n 0, 1) := by decide +kernel
theorem dX4_load_17 : decode cX4_load 17 = .ok (.getfield 41, 3) := by decide +kernel
theorem dX4_load_20 : decode cX4_load 20 = .ok (.ifCond .ne 12, 3) := by decide +kernel
theorem dX4_load_23 : decode cX4_load 23 = .ok (.aload_n 0, 1) := by decide +kernel
theorem dX4_load_24 : decode cX4_load 24 = .ok (.getfield 7, 3) := by decide +kernel
theorem dX4_load_27 : decode cX4_load 27 = .ok (.iload_n 1, 1) := by decide +kernel
theorem dX4_load_28 : decode cX4_load 28 = .ok (.iconst 4, 1) := by decide +kernel
theorem dX4_load_29 : decode cX4_load 29 = .ok (.idiv, 1) := by decide +kernel
theorem dX4_load_30 : decode cX4_load 30 = .ok (.iload_n 2, 1) := by decide +kernel
theorem dX4_load_31 : decode cX4_load 31 = .ok (.iastore, 1) := by decide +kernel
theorem dX4_load_32 : decode cX4_load 32 = .ok (.return_, 1) := by decide +kernel
set_option maxRecDepth 20000 in
theorem ggX4_word_X4_isWord : GoodIn wsX4_word wsX4_isWord := goodIn_r _ [6, 7, 8, 5, 9] (by decide +kernel) (by decide +kernel)
set_option maxRecDepth 20000 in
theorem gX4_word_X4_isWord : GoodIn wsX4_word (va_wsS RX4 157 yX4_isWord wsX4_isWord) := goodIn_app (goodIn_of _ (by decide +kernel)) ggX4_word_X4_isWord
set_option maxRecDepth 20000 in
theorem ggX4_word_X4_refuse : GoodIn wsX4_word wsX4_refuse := goodIn_r _ [13, 1, 14, 15, 16, 17, 18, 19, 20, 21, 22, 23, 24, 25, 26, 27, 28, 29, 30, 31, 32, 33] (by decide +kernel) (by decide +kernel)
set_option maxRecDepth 20000 in
theorem gX4_word_X4_refuse : GoodIn wsX4_word (wsV RX4 161 RX4 yX4_refuse wsX4_refuse) := goodIn_app (goodIn_of _ (by decide +kernel)) ggX4_word_X4_refuse
theorem dX4_word_0 : decode cX4_word 0 = .ok (.iload_n 1, 1) := by decide +kernel
theorem dX4_word_1 : decode cX4_word 1 = .ok (.invokestatic 157, 3) := by decide +kernel
theorem dX4_word_4 : decode cX4_word 4 = .ok (.ifCond .ne 9, 3) := by decide +kernel
theorem dX4_word_7 : decode cX4_word 7 = .ok (.aload_n 0, 1) := by decide +kernel
theorem dX4_word_8 : decode cX4_word 8 = .ok (.iconst 1, 1) := by decide +kernel
theorem dX4_word_9 : decode cX4_word 9 = .ok (.invokevirtual 161, 3) := by decide +kernel
theorem dX4_word_12 : decode cX4_word 12 = .ok (.ireturn, 1) := by decide +kernel
theorem dX4_word_13 : decode cX4_word 13 = .ok (.aload_n 0, 1) := by decide +kernel
theorem dX4_word_14 : decode cX4_word 14 = .ok (.iconst 0, 1) := by decide +kernel
theorem dX4_word_15 : decode cX4_word 15 = .ok (.putfield 41, 3) := by decide +kernel
theorem dX4_word_18 : decode cX4_word 18 = .ok (.aload_n 0, 1) := by decide +kernel
theorem dX4_word_19 : decode cX4_word 19 = .ok (.getfield 7, 3) := by decide +kernel
theorem dX4_word_22 : decode cX4_word 22 = .ok (.iload_n 1, 1) := by decide +kernel
theorem dX4_word_23 : decode cX4_word 23 = .ok (.iconst 4, 1) := by decide +kernel
theorem dX4_word_24 : decode cX4_word 24 = .ok (.idiv, 1) := by decide +kernel
theorem dX4_word_25 : decode cX4_word 25 = .ok (.iaload, 1) := by decide +kernel
theorem dX4_word_26 : decode cX4_word 26 = .ok (.ireturn, 1) := by decide +kernel
set_option maxRecDepth 20000 in
theorem ggX4_line_X4_outside : GoodIn wsX4_line wsX4_outside := goodIn_r _ [6] (by decide +kernel) (by decide +kernel)
set_option maxRecDepth 20000 in
theorem gX4_line_X4_outside : GoodIn wsX4_line (va_wsS RX4 71 yX4_outside wsX4_outside) := goodIn_app (goodIn_of _ (by decide +kernel)) ggX4_line_X4_outside
theorem dX4_line_0 : decode cX4_line 0 = .ok (.aload_n 0, 1) := by decide +kernel
theorem dX4_line_1 : decode cX4_line 1 = .ok (.iload_n 1, 1) := by decide +kernel
theorem dX4_line_2 : decode cX4_line 2 = .ok (.iconst 0, 1) := by decide +kernel
theorem dX4_line_3 : decode cX4_line 3 = .ok (.iconst 3, 1) := by decide +kernel
theorem dX4_line_4 : decode cX4_line 4 = .ok (.invokestatic 71, 3) := by decide +kernel
theorem dX4_line_7 : decode cX4_line 7 = .ok (.ifCond .eq 7, 3) := by decide +kernel
theorem dX4_line_10 : decode cX4_line 10 = .ok (.iconst 1, 1) := by decide +kernel
theorem dX4_line_11 : decode cX4_line 11 = .ok (.goto 4, 3) := by decide +kernel
theorem dX4_line_14 : decode cX4_line 14 = .ok (.iconst 0, 1) := by decide +kernel
theorem dX4_line_15 : decode cX4_line 15 = .ok (.putfield 41, 3) := by decide +kernel
theorem dX4_line_18 : decode cX4_line 18 = .ok (.aload_n 0, 1) := by decide +kernel
theorem dX4_line_19 : decode cX4_line 19 = .ok (.getfield 41, 3) := by decide +kernel
theorem dX4_line_22 : decode cX4_line 22 = .ok (.ifCond .ne 38, 3) := by decide +kernel
theorem dX4_line_25 : decode cX4_line 25 = .ok (.aload_n 0, 1) := by decide +kernel
theorem dX4_line_26 : decode cX4_line 26 = .ok (.getfield 16, 3) := by decide +kernel
theorem dX4_line_29 : decode cX4_line 29 = .ok (.iconst 3, 1) := by decide +kernel
theorem dX4_line_30 : decode cX4_line 30 = .ok (.iload_n 2, 1) := by decide +kernel
theorem dX4_line_31 : decode cX4_line 31 = .ok (.ifCond .eq 16, 3) := by decide +kernel
theorem dX4_line_34 : decode cX4_line 34 = .ok (.aload_n 0, 1) := by decide +kernel
theorem dX4_line_35 : decode cX4_line 35 = .ok (.getfield 16, 3) := by decide +kernel
theorem dX4_line_38 : decode cX4_line 38 = .ok (.iconst 3, 1) := by decide +kernel
theorem dX4_line_39 : decode cX4_line 39 = .ok (.iaload, 1) := by decide +kernel
theorem dX4_line_40 : decode cX4_line 40 = .ok (.iconst 1, 1) := by decide +kernel
theorem dX4_line_41 : decode cX4_line 41 = .ok (.iload_n 1, 1) := by decide +kernel
theorem dX4_line_42 : decode cX4_line 42 = .ok (.ishl, 1) := by decide +kernel
theorem dX4_line_43 : decode cX4_line 43 = .ok (.ior, 1) := by decide +kernel
theorem dX4_line_44 : decode cX4_line 44 = .ok (.goto 15, 3) := by decide +kernel
theorem dX4_line_47 : decode cX4_line 47 = .ok (.aload_n 0, 1) := by decide +kernel
theorem dX4_line_48 : decode cX4_line 48 = .ok (.getfield 16, 3) := by decide +kernel
theorem dX4_line_51 : decode cX4_line 51 = .ok (.iconst 3, 1) := by decide +kernel
theorem dX4_line_52 : decode cX4_line 52 = .ok (.iaload, 1) := by decide +kernel
theorem dX4_line_53 : decode cX4_line 53 = .ok (.iconst 1, 1) := by decide +kernel
theorem dX4_line_54 : decode cX4_line 54 = .ok (.iload_n 1, 1) := by decide +kernel
theorem dX4_line_55 : decode cX4_line 55 = .ok (.ishl, 1) := by decide +kernel
theorem dX4_line_56 : decode cX4_line 56 = .ok (.iconst (-1), 1) := by decide +kernel
theorem dX4_line_57 : decode cX4_line 57 = .ok (.ixor, 1) := by decide +kernel
theorem dX4_line_58 : decode cX4_line 58 = .ok (.iand, 1) := by decide +kernel
theorem dX4_line_59 : decode cX4_line 59 = .ok (.iastore, 1) := by decide +kernel
theorem dX4_line_60 : decode cX4_line 60 = .ok (.return_, 1) := by decide +kernel
theorem dX4_filled_0 : decode cX4_filled 0 = .ok (.aload_n 0, 1) := by decide +kernel
theorem dX4_filled_1 : decode cX4_filled 1 = .ok (.iconst 0, 1) := by decide +kernel
theorem dX4_filled_2 : decode cX4_filled 2 = .ok (.putfield 41, 3) := by decide +kernel
theorem dX4_filled_5 : decode cX4_filled 5 = .ok (.aload_n 0, 1) := by decide +kernel
theorem dX4_filled_6 : decode cX4_filled 6 = .ok (.iload_n 1, 1) := by decide +kernel
theorem dX4_filled_7 : decode cX4_filled 7 = .ok (.iconst 3, 1) := by decide +kernel
theorem dX4_filled_8 : decode cX4_filled 8 = .ok (.iand, 1) := by decide +kernel
theorem dX4_filled_9 : decode cX4_filled 9 = .ok (.putfield 124, 3) := by decide +kernel
theorem dX4_filled_12 : decode cX4_filled 12 = .ok (.return_, 1) := by decide +kernel
theorem dX4_jump_0 : decode cX4_jump 0 = .ok (.aload_n 0, 1) := by decide +kernel
theorem dX4_jump_1 : decode cX4_jump 1 = .ok (.iconst 0, 1) := by decide +kernel
theorem dX4_jump_2 : decode cX4_jump 2 = .ok (.putfield 41, 3) := by decide +kernel
theorem dX4_jump_5 : decode cX4_jump 5 = .ok (.aload_n 0, 1) := by decide +kernel
theorem dX4_jump_6 : decode cX4_jump 6 = .ok (.iload_n 1, 1) := by decide +kernel
theorem dX4_jump_7 : decode cX4_jump 7 = .ok (.putfield 51, 3) := by decide +kernel
theorem dX4_jump_10 : decode cX4_jump 10 = .ok (.aload_n 0, 1) := by decide +kernel
theorem dX4_jump_11 : decode cX4_jump 11 = .ok (.iconst 0, 1) := by decide +kernel
theorem dX4_jump_12 : decode cX4_jump 12 = .ok (.putfield 148, 3) := by decide +kernel
theorem dX4_jump_15 : decode cX4_jump 15 = .ok (.aload_n 0, 1) := by decide +kernel
theorem dX4_jump_16 : decode cX4_jump 16 = .ok (.iconst 0, 1) := by decide +kernel
theorem dX4_jump_17 : decode cX4_jump 17 = .ok (.putfield 127, 3) := by decide +kernel
theorem dX4_jump_20 : decode cX4_jump 20 = .ok (.return_, 1) := by decide +kernel
set_option maxRecDepth 20000 in
theorem ggX4_run_X4_step : GoodIn wsX4_run wsX4_step := goodIn_r _ [8, 9, 10, 3, 2, 11, 12, 13, 14, 15, 7, 16, 17, 18, 19, 20, 21, 22, 23, 24, 25, 26, 27, 28, 29, 30, 31, 32, 33, 34, 35, 36, 37, 38, 39, 40, 41, 42, 43, 44, 45, 46, 47, 48, 49, 50, 51, 52, 53, 54, 55, 56, 57, 58, 59, 60, 61, 62, 63, 64, 65, 66, 67, 68, 69, 70, 71, 72, 73, 74, 75, 76, 77, 78, 79, 80, 81, 82, 83, 84, 85, 86, 87, 88, 89, 90, 91, 92, 93, 94, 95, 96, 97, 98, 99, 100, 101, 102, 103, 104, 105, 106, 107, 108, 109, 110, 111, 112, 113, 114, 115, 116, 117, 118, 119, 120, 121, 122, 123, 124, 125, 126, 127, 128, 129, 130, 131, 132, 133, 134, 135, 136] (by decide +kernel) (by decide +kernel)
set_option maxRecDepth 20000 in
theorem gX4_run_X4_step : GoodIn wsX4_run (wsV RX4 164 RX4 yX4_step wsX4_step) := goodIn_app (goodIn_of _ (by decide +kernel)) ggX4_run_X4_step
theorem dX4_run_0 : decode cX4_run 0 = .ok (.aload_n 0, 1) := by decide +kernel
theorem dX4_run_1 : decode cX4_run 1 = .ok (.iconst 0, 1) := by decide +kernel
theorem dX4_run_2 : decode cX4_run 2 = .ok (.putfield 41, 3) := by decide +kernel
theorem dX4_run_5 : decode cX4_run 5 = .ok (.iconst 0, 1) := by decide +kernel
theorem dX4_run_6 : decode cX4_run 6 = .ok (.istore_n 2, 1) := by decide +kernel
theorem dX4_run_7 : decode cX4_run 7 = .ok (.aload_n 0, 1) := by decide +kernel
theorem dX4_run_8 : decode cX4_run 8 = .ok (.iconst 0, 1) := by decide +kernel
theorem dX4_run_9 : decode cX4_run 9 = .ok (.putfield 151, 3) := by decide +kernel
theorem dX4_run_12 : decode cX4_run 12 = .ok (.iconst 0, 1) := by decide +kernel
theorem dX4_run_13 : decode cX4_run 13 = .ok (.istore_n 3, 1) := by decide +kernel
theorem dX4_run_14 : decode cX4_run 14 = .ok (.iload_n 3, 1) := by decide +kernel
theorem dX4_run_15 : decode cX4_run 15 = .ok (.iload_n 1, 1) := by decide +kernel
theorem dX4_run_16 : decode cX4_run 16 = .ok (.if_icmp .ge 37, 3) := by decide +kernel
theorem dX4_run_19 : decode cX4_run 19 = .ok (.iload_n 3, 1) := by decide +kernel
theorem dX4_run_20 : decode cX4_run 20 = .ok (.sipush 2000, 3) := by decide +kernel
theorem dX4_run_23 : decode cX4_run 23 = .ok (.if_icmp .ge 30, 3) := by decide +kernel
theorem dX4_run_26 : decode cX4_run 26 = .ok (.aload_n 0, 1) := by decide +kernel
theorem dX4_run_27 : decode cX4_run 27 = .ok (.getfield 148, 3) := by decide +kernel
theorem dX4_run_30 : decode cX4_run 30 = .ok (.ifCond .ne 23, 3) := by decide +kernel
theorem dX4_run_33 : decode cX4_run 33 = .ok (.aload_n 0, 1) := by decide +kernel
theorem dX4_run_34 : decode cX4_run 34 = .ok (.getfield 151, 3) := by decide +kernel
theorem dX4_run_37 : decode cX4_run 37 = .ok (.ifCond .ne 16, 3) := by decide +kernel
theorem dX4_run_40 : decode cX4_run 40 = .ok (.aload_n 0, 1) := by decide +kernel
theorem dX4_run_41 : decode cX4_run 41 = .ok (.invokevirtual 164, 3) := by decide +kernel
theorem dX4_run_44 : decode cX4_run 44 = .ok (.iinc 2 1, 3) := by decide +kernel
theorem dX4_run_47 : decode cX4_run 47 = .ok (.iinc 3 1, 3) := by decide +kernel
theorem dX4_run_50 : decode cX4_run 50 = .ok (.goto (-36), 3) := by decide +kernel
theorem dX4_run_53 : decode cX4_run 53 = .ok (.iload_n 2, 1) := by decide +kernel
theorem dX4_run_54 : decode cX4_run 54 = .ok (.ireturn, 1) := by decide +kernel
theorem dX4_state_0 : decode cX4_state 0 = .ok (.aload_n 0, 1) := by decide +kernel
theorem dX4_state_1 : decode cX4_state 1 = .ok (.iconst 0, 1) := by decide +kernel
theorem dX4_state_2 : decode cX4_state 2 = .ok (.putfield 41, 3) := by decide +kernel
theorem dX4_state_5 : decode cX4_state 5 = .ok (.aload_n 0, 1) := by decide +kernel
theorem dX4_state_6 : decode cX4_state 6 = .ok (.getfield 148, 3) := by decide +kernel
theorem dX4_state_9 : decode cX4_state 9 = .ok (.ifCond .eq 7, 3) := by decide +kernel
theorem dX4_state_12 : decode cX4_state 12 = .ok (.iconst 2, 1) := by decide +kernel
theorem dX4_state_13 : decode cX4_state 13 = .ok (.goto 15, 3) := by decide +kernel
theorem dX4_state_16 : decode cX4_state 16 = .ok (.aload_n 0, 1) := by decide +kernel
theorem dX4_state_17 : decode cX4_state 17 = .ok (.getfield 127, 3) := by decide +kernel
theorem dX4_state_20 : decode cX4_state 20 = .ok (.ifCond .eq 7, 3) := by decide +kernel
theorem dX4_state_23 : decode cX4_state 23 = .ok (.iconst 1, 1) := by decide +kernel
theorem dX4_state_24 : decode cX4_state 24 = .ok (.goto 4, 3) := by decide +kernel
theorem dX4_state_27 : decode cX4_state 27 = .ok (.iconst 0, 1) := by decide +kernel
theorem dX4_state_28 : decode cX4_state 28 = .ok (.ireturn, 1) := by decide +kernel
set_option maxRecDepth 20000 in
theorem ggX4_register_X4_outside : GoodIn wsX4_register wsX4_outside := goodIn_r _ [8] (by decide +kernel) (by decide +kernel)
set_option maxRecDepth 20000 in
theorem gX4_register_X4_outside : GoodIn wsX4_register (va_wsS RX4 71 yX4_outside wsX4_outside) := goodIn_app (goodIn_of _ (by decide +kernel)) ggX4_register_X4_outside
set_option maxRecDepth 20000 in
theorem ggX4_register_X4_refuse : GoodIn wsX4_register wsX4_refuse := goodIn_r _ [12, 1, 13, 14, 15, 16, 17, 18, 19, 20, 21, 22, 23, 24, 25, 26, 27, 28, 29, 30, 31, 32] (by decide +kernel) (by decide +kernel)
set_option maxRecDepth 20000 in
theorem gX4_register_X4_refuse : GoodIn wsX4_register (wsV RX4 161 RX4 yX4_refuse wsX4_refuse) := goodIn_app (goodIn_of _ (by decide +kernel)) ggX4_register_X4_refuse
theorem dX4_register_0 : decode cX4_register 0 = .ok (.iload_n 1, 1) := by decide +kernel
theorem dX4_register_1 : decode cX4_register 1 = .ok (.iconst 0, 1) := by decide +kernel
theorem dX4_register_2 : decode cX4_register 2 = .ok (.bipush 9, 2) := by decide +kernel
theorem dX4_register_4 : decode cX4_register 4 = .ok (.invokestatic 71, 3) := by decide +kernel
theorem dX4_register_7 : decode cX4_register 7 = .ok (.ifCond .eq 9, 3) := by decide +kernel
theorem dX4_register_10 : decode cX4_register 10 = .ok (.aload_n 0, 1) := by decide +kernel
theorem dX4_register_11 : decode cX4_register 11 = .ok (.iconst 1, 1) := by decide +kernel
theorem dX4_register_12 : decode cX4_register 12 = .ok (.invokevirtual 161, 3) := by decide +kernel
theorem dX4_register_15 : decode cX4_register 15 = .ok (.ireturn, 1) := by decide +kernel
theorem dX4_register_16 : decode cX4_register 16 = .ok (.aload_n 0, 1) := by decide +kernel
theorem dX4_register_17 : decode cX4_register 17 = .ok (.iconst 0, 1) := by decide +kernel
theorem dX4_register_18 : decode cX4_register 18 = .ok (.putfield 41, 3) := by decide +kernel
theorem dX4_register_21 : decode cX4_register 21 = .ok (.iload_n 1, 1) := by decide +kernel
theorem dX4_register_22 : decode cX4_register 22 = .ok (.bipush 8, 2) := by decide +kernel
theorem dX4_register_24 : decode cX4_register 24 = .ok (.if_icmp .ge 12, 3) := by decide +kernel
theorem dX4_register_27 : decode cX4_register 27 = .ok (.aload_n 0, 1) := by decide +kernel
theorem dX4_register_28 : decode cX4_register 28 = .ok (.getfield 13, 3) := by decide +kernel
theorem dX4_register_31 : decode cX4_register 31 = .ok (.iload_n 1, 1) := by decide +kernel
theorem dX4_register_32 : decode cX4_register 32 = .ok (.iaload, 1) := by decide +kernel
theorem dX4_register_33 : decode cX4_register 33 = .ok (.goto 28, 3) := by decide +kernel
theorem dX4_register_36 : decode cX4_register 36 = .ok (.iload_n 1, 1) := by decide +kernel
theorem dX4_register_37 : decode cX4_register 37 = .ok (.bipush 8, 2) := by decide +kernel
theorem dX4_register_39 : decode cX4_register 39 = .ok (.if_icmp .ne 10, 3) := by decide +kernel
theorem dX4_register_42 : decode cX4_register 42 = .ok (.aload_n 0, 1) := by decide +kernel
theorem dX4_register_43 : decode cX4_register 43 = .ok (.getfield 51, 3) := by decide +kernel
theorem dX4_register_46 : decode cX4_register 46 = .ok (.goto 15, 3) := by decide +kernel
theorem dX4_register_49 : decode cX4_register 49 = .ok (.aload_n 0, 1) := by decide +kernel
theorem dX4_register_50 : decode cX4_register 50 = .ok (.getfield 89, 3) := by decide +kernel
theorem dX4_register_53 : decode cX4_register 53 = .ok (.ifCond .eq 7, 3) := by decide +kernel
theorem dX4_register_56 : decode cX4_register 56 = .ok (.iconst 1, 1) := by decide +kernel
theorem dX4_register_57 : decode cX4_register 57 = .ok (.goto 4, 3) := by decide +kernel
theorem dX4_register_60 : decode cX4_register 60 = .ok (.iconst 0, 1) := by decide +kernel
theorem dX4_register_61 : decode cX4_register 61 = .ok (.ireturn, 1) := by decide +kernel
set_option maxRecDepth 20000 in
theorem ggX4_control_X4_outside : GoodIn wsX4_control wsX4_outside := goodIn_r _ [6] (by decide +kernel) (by decide +kernel)
set_option maxRecDepth 20000 in
theorem gX4_control_X4_outside : GoodIn wsX4_control (va_wsS RX4 71 yX4_outside wsX4_outside) := goodIn_app (goodIn_of _ (by decide +kernel)) ggX4_control_X4_outside
set_option maxRecDepth 20000 in
theorem ggX4_control_X4_refuse : GoodIn wsX4_control wsX4_refuse := goodIn_r _ [10, 1, 11, 12, 13, 14, 15, 16, 17, 18, 19, 20, 21, 22, 23, 24, 25, 26, 27, 28, 29, 30] (by decide +kernel) (by decide +kernel)
set_option maxRecDepth 20000 in
theorem gX4_control_X4_refuse : GoodIn wsX4_control (wsV RX4 161 RX4 yX4_refuse wsX4_refuse) := goodIn_app (goodIn_of _ (by decide +kernel)) ggX4_control_X4_refuse
theorem dX4_control_0 : decode cX4_control 0 = .ok (.iload_n 1, 1) := by decide +kernel
theorem dX4_control_1 : decode cX4_control 1 = .ok (.iconst 0, 1) := by decide +kernel
theorem dX4_control_2 : decode cX4_control 2 = .ok (.bipush 17, 2) := by decide +kernel
theorem dX4_control_4 : decode cX4_control 4 = .ok (.invokestatic 71, 3) := by decide +kernel
theorem dX4_control_7 : decode cX4_control 7 = .ok (.ifCond .eq 9, 3) := by decide +kernel
theorem dX4_control_10 : decode cX4_control 10 = .ok (.aload_n 0, 1) := by decide +kernel
theorem dX4_control_11 : decode cX4_control 11 = .ok (.iconst 1, 1) := by decide +kernel
theorem dX4_control_12 : decode cX4_control 12 = .ok (.invokevirtual 161, 3) := by decide +kernel
theorem dX4_control_15 : decode cX4_control 15 = .ok (.ireturn, 1) := by decide +kernel
theorem dX4_control_16 : decode cX4_control 16 = .ok (.aload_n 0, 1) := by decide +kernel
theorem dX4_control_17 : decode cX4_control 17 = .ok (.iconst 0, 1) := by decide +kernel
theorem dX4_control_18 : decode cX4_control 18 = .ok (.putfield 41, 3) := by decide +kernel
theorem dX4_control_21 : decode cX4_control 21 = .ok (.aload_n 0, 1) := by decide +kernel
theorem dX4_control_22 : decode cX4_control 22 = .ok (.getfield 16, 3) := by decide +kernel
theorem dX4_control_25 : decode cX4_control 25 = .ok (.iload_n 1, 1) := by decide +kernel
theorem dX4_control_26 : decode cX4_control 26 = .ok (.iaload, 1) := by decide +kernel
theorem dX4_control_27 : decode cX4_control 27 = .ok (.ireturn, 1) := by decide +kernel
set_option maxRecDepth 20000 in
theorem ggX4_entry_X4_outside : GoodIn wsX4_entry wsX4_outside := goodIn_r _ [10] (by decide +kernel) (by decide +kernel)
set_option maxRecDepth 20000 in
theorem gX4_entry_X4_outside : GoodIn wsX4_entry (va_wsS RX4 71 yX4_outside wsX4_outside) := goodIn_app (goodIn_of _ (by decide +kernel)) ggX4_entry_X4_outside
set_option maxRecDepth 20000 in
theorem ggX4_entry_X4_refuse : GoodIn wsX4_entry wsX4_refuse := goodIn_r _ [14, 1, 15, 16, 17, 18, 19, 20, 21, 22, 23, 24, 25, 26, 27, 28, 29, 30, 31, 32, 33, 34] (by decide +kernel) (by decide +kernel)
set_option maxRecDepth 20000 in
theorem gX4_entry_X4_refuse : GoodIn wsX4_entry (wsV RX4 161 RX4 yX4_refuse wsX4_refuse) := goodIn_app (goodIn_of _ (by decide +kernel)) ggX4_entry_X4_refuse
theorem dX4_entry_0 : decode cX4_entry 0 = .ok (.iload_n 1, 1) := by decide +kernel
theorem dX4_entry_1 : decode cX4_entry 1 = .ok (.iconst 0, 1) := by decide +kernel
theorem dX4_entry_2 : decode cX4_entry 2 = .ok (.iconst 3, 1) := by decide +kernel
theorem dX4_entry_3 : decode cX4_entry 3 = .ok (.invokestatic 71, 3) := by decide +kernel
theorem dX4_entry_6 : decode cX4_entry 6 = .ok (.ifCond .ne 12, 3) := by decide +kernel
theorem dX4_entry_9 : decode cX4_entry 9 = .ok (.iload_n 2, 1) := by decide +kernel
theorem dX4_entry_10 : decode cX4_entry 10 = .ok (.iconst 0, 1) := by decide +kernel
theorem dX4_entry_11 : decode cX4_entry 11 = .ok (.iconst 5, 1) := by decide +kernel
theorem dX4_entry_12 : decode cX4_entry 12 = .ok (.invokestatic 71, 3) := by decide +kernel
theorem dX4_entry_15 : decode cX4_entry 15 = .ok (.ifCond .eq 9, 3) := by decide +kernel
theorem dX4_entry_18 : decode cX4_entry 18 = .ok (.aload_n 0, 1) := by decide +kernel
theorem dX4_entry_19 : decode cX4_entry 19 = .ok (.iconst 1, 1) := by decide +kernel
theorem dX4_entry_20 : decode cX4_entry 20 = .ok (.invokevirtual 161, 3) := by decide +kernel
theorem dX4_entry_23 : decode cX4_entry 23 = .ok (.ireturn, 1) := by decide +kernel
theorem dX4_entry_24 : decode cX4_entry 24 = .ok (.aload_n 0, 1) := by decide +kernel
theorem dX4_entry_25 : decode cX4_entry 25 = .ok (.iconst 0, 1) := by decide +kernel
theorem dX4_entry_26 : decode cX4_entry 26 = .ok (.putfield 41, 3) := by decide +kernel
theorem dX4_entry_29 : decode cX4_entry 29 = .ok (.iload_n 2, 1) := by decide +kernel
theorem dX4_entry_30 : decode cX4_entry 30 = .ok (.iconst 3, 1) := by decide +kernel
theorem dX4_entry_31 : decode cX4_entry 31 = .ok (.if_icmp .le 16, 3) := by decide +kernel
theorem dX4_entry_34 : decode cX4_entry 34 = .ok (.aload_n 0, 1) := by decide +kernel
theorem dX4_entry_35 : decode cX4_entry 35 = .ok (.getfield 38, 3) := by decide +kernel
theorem dX4_entry_38 : decode cX4_entry 38 = .ok (.iconst 2, 1) := by decide +kernel
theorem dX4_entry_39 : decode cX4_entry 39 = .ok (.iload_n 1, 1) := by decide +kernel
theorem dX4_entry_40 : decode cX4_entry 40 = .ok (.imul, 1) := by decide +kernel
theorem dX4_entry_41 : decode cX4_entry 41 = .ok (.iload_n 2, 1) := by decide +kernel
theorem dX4_entry_42 : decode cX4_entry 42 = .ok (.iadd, 1) := by decide +kernel
theorem dX4_entry_43 : decode cX4_entry 43 = .ok (.iconst 4, 1) := by decide +kernel
theorem dX4_entry_44 : decode cX4_entry 44 = .ok (.isub, 1) := by decide +kernel
theorem dX4_entry_45 : decode cX4_entry 45 = .ok (.iaload, 1) := by decide +kernel
theorem dX4_entry_46 : decode cX4_entry 46 = .ok (.ireturn, 1) := by decide +kernel
theorem dX4_entry_47 : decode cX4_entry 47 = .ok (.iload_n 2, 1) := by decide +kernel
theorem dX4_entry_48 : decode cX4_entry 48 = .ok (.ifCond .ne 20, 3) := by decide +kernel
theorem dX4_entry_51 : decode cX4_entry 51 = .ok (.aload_n 0, 1) := by decide +kernel
theorem dX4_entry_52 : decode cX4_entry 52 = .ok (.getfield 25, 3) := by decide +kernel
theorem dX4_entry_55 : decode cX4_entry 55 = .ok (.iload_n 1, 1) := by decide +kernel
theorem dX4_entry_56 : decode cX4_entry 56 = .ok (.baload, 1) := by decide +kernel
theorem dX4_entry_57 : decode cX4_entry 57 = .ok (.ifCond .eq 7, 3) := by decide +kernel
theorem dX4_entry_60 : decode cX4_entry 60 = .ok (.iconst 1, 1) := by decide +kernel
theorem dX4_entry_61 : decode cX4_entry 61 = .ok (.goto 49, 3) := by decide +kernel
theorem dX4_entry_64 : decode cX4_entry 64 = .ok (.iconst 0, 1) := by decide +kernel
theorem dX4_entry_65 : decode cX4_entry 65 = .ok (.goto 45, 3) := by decide +kernel
theorem dX4_entry_68 : decode cX4_entry 68 = .ok (.iload_n 2, 1) := by decide +kernel
theorem dX4_entry_69 : decode cX4_entry 69 = .ok (.iconst 1, 1) := by decide +kernel
theorem dX4_entry_70 : decode cX4_entry 70 = .ok (.if_icmp .ne 12, 3) := by decide +kernel
theorem dX4_entry_73 : decode cX4_entry 73 = .ok (.aload_n 0, 1) := by decide +kernel
theorem dX4_entry_74 : decode cX4_entry 74 = .ok (.getfield 32, 3) := by decide +kernel
theorem dX4_entry_77 : decode cX4_entry 77 = .ok (.iload_n 1, 1) := by decide +kernel
theorem dX4_entry_78 : decode cX4_entry 78 = .ok (.iaload, 1) := by decide +kernel
theorem dX4_entry_79 : decode cX4_entry 79 = .ok (.goto 31, 3) := by decide +kernel
theorem dX4_entry_82 : decode cX4_entry 82 = .ok (.iload_n 2, 1) := by decide +kernel
theorem dX4_entry_83 : decode cX4_entry 83 = .ok (.iconst 2, 1) := by decide +kernel
theorem dX4_entry_84 : decode cX4_entry 84 = .ok (.if_icmp .ne 12, 3) := by decide +kernel
theorem dX4_entry_87 : decode cX4_entry 87 = .ok (.aload_n 0, 1) := by decide +kernel
theorem dX4_entry_88 : decode cX4_entry 88 = .ok (.getfield 35, 3) := by decide +kernel
theorem dX4_entry_91 : decode cX4_entry 91 = .ok (.iload_n 1, 1) := by decide +kernel
theorem dX4_entry_92 : decode cX4_entry 92 = .ok (.iaload, 1) := by decide +kernel
theorem dX4_entry_93 : decode cX4_entry 93 = .ok (.goto 17, 3) := by decide +kernel
theorem dX4_entry_96 : decode cX4_entry 96 = .ok (.aload_n 0, 1) := by decide +kernel
theorem dX4_entry_97 : decode cX4_entry 97 = .ok (.getfield 29, 3) := by decide +kernel
theorem dX4_entry_100 : decode cX4_entry 100 = .ok (.iload_n 1, 1) := by decide +kernel
theorem dX4_entry_101 : decode cX4_entry 101 = .ok (.baload, 1) := by decide +kernel
theorem dX4_entry_102 : decode cX4_entry 102 = .ok (.ifCond .eq 7, 3) := by decide +kernel
theorem dX4_entry_105 : decode cX4_entry 105 = .ok (.iconst 1, 1) := by decide +kernel
theorem dX4_entry_106 : decode cX4_entry 106 = .ok (.goto 4, 3) := by decide +kernel
theorem dX4_entry_109 : decode cX4_entry 109 = .ok (.iconst 0, 1) := by decide +kernel
theorem dX4_entry_110 : decode cX4_entry 110 = .ok (.ireturn, 1) := by decide +kernel

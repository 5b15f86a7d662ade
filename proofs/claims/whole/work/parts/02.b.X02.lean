theorem dX0_init_0 : decode cX0_init 0 = .ok (.aload_n 0, 1) := by decide +kernel
theorem dX0_init_1 : decode cX0_init 1 = .ok (.invokespecial 1, 3) := by decide +kernel
theorem dX0_init_4 : decode cX0_init 4 = .ok (.aload_n 0, 1) := by decide +kernel
theorem dX0_init_5 : decode cX0_init 5 = .ok (.iconst 4, 1) := by decide +kernel
theorem dX0_init_6 : decode cX0_init 6 = .ok (.bipush 6, 2) := by decide +kernel
theorem dX0_init_8 : decode cX0_init 8 = .ok (.multianewarray 9 2, 4) := by decide +kernel
theorem dX0_init_12 : decode cX0_init 12 = .ok (.putfield 11, 3) := by decide +kernel
theorem dX0_init_15 : decode cX0_init 15 = .ok (.return_, 1) := by decide +kernel
theorem dX0_get_0 : decode cX0_get 0 = .ok (.aload_n 0, 1) := by decide +kernel
theorem dX0_get_1 : decode cX0_get 1 = .ok (.getfield 11, 3) := by decide +kernel
theorem dX0_get_4 : decode cX0_get 4 = .ok (.iload_n 1, 1) := by decide +kernel
theorem dX0_get_5 : decode cX0_get 5 = .ok (.aaload, 1) := by decide +kernel
theorem dX0_get_6 : decode cX0_get 6 = .ok (.iload_n 2, 1) := by decide +kernel
theorem dX0_get_7 : decode cX0_get 7 = .ok (.iaload, 1) := by decide +kernel
theorem dX0_get_8 : decode cX0_get 8 = .ok (.ireturn, 1) := by decide +kernel
theorem dX0_set_0 : decode cX0_set 0 = .ok (.aload_n 0, 1) := by decide +kernel
theorem dX0_set_1 : decode cX0_set 1 = .ok (.getfield 11, 3) := by decide +kernel
theorem dX0_set_4 : decode cX0_set 4 = .ok (.iload_n 1, 1) := by decide +kernel
theorem dX0_set_5 : decode cX0_set 5 = .ok (.aaload, 1) := by decide +kernel
theorem dX0_set_6 : decode cX0_set 6 = .ok (.iconst 0, 1) := by decide +kernel
theorem dX0_set_7 : decode cX0_set 7 = .ok (.iload_n 2, 1) := by decide +kernel
theorem dX0_set_8 : decode cX0_set 8 = .ok (.ifCond .eq 7, 3) := by decide +kernel
theorem dX0_set_11 : decode cX0_set 11 = .ok (.iconst 1, 1) := by decide +kernel
theorem dX0_set_12 : decode cX0_set 12 = .ok (.goto 4, 3) := by decide +kernel
theorem dX0_set_15 : decode cX0_set 15 = .ok (.iconst 0, 1) := by decide +kernel
theorem dX0_set_16 : decode cX0_set 16 = .ok (.iastore, 1) := by decide +kernel
theorem dX0_set_17 : decode cX0_set 17 = .ok (.aload_n 0, 1) := by decide +kernel
theorem dX0_set_18 : decode cX0_set 18 = .ok (.getfield 11, 3) := by decide +kernel
theorem dX0_set_21 : decode cX0_set 21 = .ok (.iload_n 1, 1) := by decide +kernel
theorem dX0_set_22 : decode cX0_set 22 = .ok (.aaload, 1) := by decide +kernel
theorem dX0_set_23 : decode cX0_set 23 = .ok (.iconst 1, 1) := by decide +kernel
theorem dX0_set_24 : decode cX0_set 24 = .ok (.iload_n 3, 1) := by decide +kernel
theorem dX0_set_25 : decode cX0_set 25 = .ok (.iastore, 1) := by decide +kernel
theorem dX0_set_26 : decode cX0_set 26 = .ok (.aload_n 0, 1) := by decide +kernel
theorem dX0_set_27 : decode cX0_set 27 = .ok (.getfield 11, 3) := by decide +kernel
theorem dX0_set_30 : decode cX0_set 30 = .ok (.iload_n 1, 1) := by decide +kernel
theorem dX0_set_31 : decode cX0_set 31 = .ok (.aaload, 1) := by decide +kernel
theorem dX0_set_32 : decode cX0_set 32 = .ok (.iconst 2, 1) := by decide +kernel
theorem dX0_set_33 : decode cX0_set 33 = .ok (.iload 4, 2) := by decide +kernel
theorem dX0_set_35 : decode cX0_set 35 = .ok (.iastore, 1) := by decide +kernel
theorem dX0_set_36 : decode cX0_set 36 = .ok (.return_, 1) := by decide +kernel
theorem dX0_setHalves_0 : decode cX0_setHalves 0 = .ok (.aload_n 0, 1) := by decide +kernel
theorem dX0_setHalves_1 : decode cX0_setHalves 1 = .ok (.getfield 11, 3) := by decide +kernel
theorem dX0_setHalves_4 : decode cX0_setHalves 4 = .ok (.iload_n 1, 1) := by decide +kernel
theorem dX0_setHalves_5 : decode cX0_setHalves 5 = .ok (.aaload, 1) := by decide +kernel
theorem dX0_setHalves_6 : decode cX0_setHalves 6 = .ok (.iconst 3, 1) := by decide +kernel
theorem dX0_setHalves_7 : decode cX0_setHalves 7 = .ok (.iload_n 2, 1) := by decide +kernel
theorem dX0_setHalves_8 : decode cX0_setHalves 8 = .ok (.iload_n 3, 1) := by decide +kernel
theorem dX0_setHalves_9 : decode cX0_setHalves 9 = .ok (.iand, 1) := by decide +kernel
theorem dX0_setHalves_10 : decode cX0_setHalves 10 = .ok (.bipush 16, 2) := by decide +kernel
theorem dX0_setHalves_12 : decode cX0_setHalves 12 = .ok (.iand, 1) := by decide +kernel
theorem dX0_setHalves_13 : decode cX0_setHalves 13 = .ok (.ifCond .eq 7, 3) := by decide +kernel
theorem dX0_setHalves_16 : decode cX0_setHalves 16 = .ok (.iconst 1, 1) := by decide +kernel
theorem dX0_setHalves_17 : decode cX0_setHalves 17 = .ok (.goto 4, 3) := by decide +kernel
theorem dX0_setHalves_20 : decode cX0_setHalves 20 = .ok (.iconst 0, 1) := by decide +kernel
theorem dX0_setHalves_21 : decode cX0_setHalves 21 = .ok (.iastore, 1) := by decide +kernel
theorem dX0_setHalves_22 : decode cX0_setHalves 22 = .ok (.aload_n 0, 1) := by decide +kernel
theorem dX0_setHalves_23 : decode cX0_setHalves 23 = .ok (.getfield 11, 3) := by decide +kernel
theorem dX0_setHalves_26 : decode cX0_setHalves 26 = .ok (.iload_n 1, 1) := by decide +kernel
theorem dX0_setHalves_27 : decode cX0_setHalves 27 = .ok (.aaload, 1) := by decide +kernel
theorem dX0_setHalves_28 : decode cX0_setHalves 28 = .ok (.iconst 4, 1) := by decide +kernel
theorem dX0_setHalves_29 : decode cX0_setHalves 29 = .ok (.iload_n 2, 1) := by decide +kernel
theorem dX0_setHalves_30 : decode cX0_setHalves 30 = .ok (.bipush (-17), 2) := by decide +kernel
theorem dX0_setHalves_32 : decode cX0_setHalves 32 = .ok (.iand, 1) := by decide +kernel
theorem dX0_setHalves_33 : decode cX0_setHalves 33 = .ok (.iastore, 1) := by decide +kernel
theorem dX0_setHalves_34 : decode cX0_setHalves 34 = .ok (.aload_n 0, 1) := by decide +kernel
theorem dX0_setHalves_35 : decode cX0_setHalves 35 = .ok (.getfield 11, 3) := by decide +kernel
theorem dX0_setHalves_38 : decode cX0_setHalves 38 = .ok (.iload_n 1, 1) := by decide +kernel
theorem dX0_setHalves_39 : decode cX0_setHalves 39 = .ok (.aaload, 1) := by decide +kernel
theorem dX0_setHalves_40 : decode cX0_setHalves 40 = .ok (.iconst 5, 1) := by decide +kernel
theorem dX0_setHalves_41 : decode cX0_setHalves 41 = .ok (.iload_n 3, 1) := by decide +kernel
theorem dX0_setHalves_42 : decode cX0_setHalves 42 = .ok (.bipush (-17), 2) := by decide +kernel
theorem dX0_setHalves_44 : decode cX0_setHalves 44 = .ok (.iand, 1) := by decide +kernel
theorem dX0_setHalves_45 : decode cX0_setHalves 45 = .ok (.iastore, 1) := by decide +kernel
theorem dX0_setHalves_46 : decode cX0_setHalves 46 = .ok (.return_, 1) := by decide +kernel
theorem dX0_find_0 : decode cX0_find 0 = .ok (.iload_n 3, 1) := by decide +kernel
theorem dX0_find_1 : decode cX0_find 1 = .ok (.istore 4, 2) := by decide +kernel
theorem dX0_find_3 : decode cX0_find 3 = .ok (.iload 4, 2) := by decide +kernel
theorem dX0_find_5 : decode cX0_find 5 = .ok (.iconst 3, 1) := by decide +kernel
theorem dX0_find_6 : decode cX0_find 6 = .ok (.if_icmp .gt 65, 3) := by decide +kernel
theorem dX0_find_9 : decode cX0_find 9 = .ok (.aload_n 0, 1) := by decide +kernel
theorem dX0_find_10 : decode cX0_find 10 = .ok (.getfield 11, 3) := by decide +kernel
theorem dX0_find_13 : decode cX0_find 13 = .ok (.iload 4, 2) := by decide +kernel
theorem dX0_find_15 : decode cX0_find 15 = .ok (.aaload, 1) := by decide +kernel
theorem dX0_find_16 : decode cX0_find 16 = .ok (.astore 5, 2) := by decide +kernel
theorem dX0_find_18 : decode cX0_find 18 = .ok (.aload 5, 2) := by decide +kernel
theorem dX0_find_20 : decode cX0_find 20 = .ok (.iconst 3, 1) := by decide +kernel
theorem dX0_find_21 : decode cX0_find 21 = .ok (.iaload, 1) := by decide +kernel
theorem dX0_find_22 : decode cX0_find 22 = .ok (.iconst 1, 1) := by decide +kernel
theorem dX0_find_23 : decode cX0_find 23 = .ok (.if_icmp .eq 11, 3) := by decide +kernel
theorem dX0_find_26 : decode cX0_find 26 = .ok (.aload 5, 2) := by decide +kernel
theorem dX0_find_28 : decode cX0_find 28 = .ok (.iconst 2, 1) := by decide +kernel
theorem dX0_find_29 : decode cX0_find 29 = .ok (.iaload, 1) := by decide +kernel
theorem dX0_find_30 : decode cX0_find 30 = .ok (.iload_n 2, 1) := by decide +kernel
theorem dX0_find_31 : decode cX0_find 31 = .ok (.if_icmp .ne 7, 3) := by decide +kernel
theorem dX0_find_34 : decode cX0_find 34 = .ok (.iconst 1, 1) := by decide +kernel
theorem dX0_find_35 : decode cX0_find 35 = .ok (.goto 4, 3) := by decide +kernel
theorem dX0_find_38 : decode cX0_find 38 = .ok (.iconst 0, 1) := by decide +kernel
theorem dX0_find_39 : decode cX0_find 39 = .ok (.istore 6, 2) := by decide +kernel
theorem dX0_find_41 : decode cX0_find 41 = .ok (.aload 5, 2) := by decide +kernel
theorem dX0_find_43 : decode cX0_find 43 = .ok (.iconst 0, 1) := by decide +kernel
theorem dX0_find_44 : decode cX0_find 44 = .ok (.iaload, 1) := by decide +kernel
theorem dX0_find_45 : decode cX0_find 45 = .ok (.iconst 1, 1) := by decide +kernel
theorem dX0_find_46 : decode cX0_find 46 = .ok (.if_icmp .ne 19, 3) := by decide +kernel
theorem dX0_find_49 : decode cX0_find 49 = .ok (.aload 5, 2) := by decide +kernel
theorem dX0_find_51 : decode cX0_find 51 = .ok (.iconst 1, 1) := by decide +kernel
theorem dX0_find_52 : decode cX0_find 52 = .ok (.iaload, 1) := by decide +kernel
theorem dX0_find_53 : decode cX0_find 53 = .ok (.iload_n 1, 1) := by decide +kernel
theorem dX0_find_54 : decode cX0_find 54 = .ok (.if_icmp .ne 11, 3) := by decide +kernel
theorem dX0_find_57 : decode cX0_find 57 = .ok (.iload 6, 2) := by decide +kernel
theorem dX0_find_59 : decode cX0_find 59 = .ok (.ifCond .eq 6, 3) := by decide +kernel
theorem dX0_find_62 : decode cX0_find 62 = .ok (.iload 4, 2) := by decide +kernel
theorem dX0_find_64 : decode cX0_find 64 = .ok (.ireturn, 1) := by decide +kernel
theorem dX0_find_65 : decode cX0_find 65 = .ok (.iinc 4 1, 3) := by decide +kernel
theorem dX0_find_68 : decode cX0_find 68 = .ok (.goto (-65), 3) := by decide +kernel
theorem dX0_find_71 : decode cX0_find 71 = .ok (.iconst (-1), 1) := by decide +kernel
theorem dX0_find_72 : decode cX0_find 72 = .ok (.ireturn, 1) := by decide +kernel
set_option maxRecDepth 20000 in
theorem ggX0_empty_X0_isOfKind : GoodIn wsX0_empty wsX0_isOfKind := goodIn_r _ [6, 1, 7] (by decide +kernel) (by decide +kernel)
set_option maxRecDepth 20000 in
theorem gX0_empty_X0_isOfKind : GoodIn wsX0_empty (wsV RX0 14 RX0 yX0_isOfKind wsX0_isOfKind) := goodIn_app (goodIn_of _ (by decide +kernel)) ggX0_empty_X0_isOfKind
theorem dX0_empty_0 : decode cX0_empty 0 = .ok (.iconst 0, 1) := by decide +kernel
theorem dX0_empty_1 : decode cX0_empty 1 = .ok (.istore 4, 2) := by decide +kernel
theorem dX0_empty_3 : decode cX0_empty 3 = .ok (.iload 4, 2) := by decide +kernel
theorem dX0_empty_5 : decode cX0_empty 5 = .ok (.iconst 3, 1) := by decide +kernel
theorem dX0_empty_6 : decode cX0_empty 6 = .ok (.if_icmp .gt 31, 3) := by decide +kernel
theorem dX0_empty_9 : decode cX0_empty 9 = .ok (.aload_n 0, 1) := by decide +kernel
theorem dX0_empty_10 : decode cX0_empty 10 = .ok (.iload 4, 2) := by decide +kernel
theorem dX0_empty_12 : decode cX0_empty 12 = .ok (.iload_n 1, 1) := by decide +kernel
theorem dX0_empty_13 : decode cX0_empty 13 = .ok (.iload_n 2, 1) := by decide +kernel
theorem dX0_empty_14 : decode cX0_empty 14 = .ok (.iload_n 3, 1) := by decide +kernel
theorem dX0_empty_15 : decode cX0_empty 15 = .ok (.invokevirtual 14, 3) := by decide +kernel
theorem dX0_empty_18 : decode cX0_empty 18 = .ok (.ifCond .eq 13, 3) := by decide +kernel
theorem dX0_empty_21 : decode cX0_empty 21 = .ok (.aload_n 0, 1) := by decide +kernel
theorem dX0_empty_22 : decode cX0_empty 22 = .ok (.getfield 11, 3) := by decide +kernel
theorem dX0_empty_25 : decode cX0_empty 25 = .ok (.iload 4, 2) := by decide +kernel
theorem dX0_empty_27 : decode cX0_empty 27 = .ok (.aaload, 1) := by decide +kernel
theorem dX0_empty_28 : decode cX0_empty 28 = .ok (.iconst 0, 1) := by decide +kernel
theorem dX0_empty_29 : decode cX0_empty 29 = .ok (.iconst 0, 1) := by decide +kernel
theorem dX0_empty_30 : decode cX0_empty 30 = .ok (.iastore, 1) := by decide +kernel
theorem dX0_empty_31 : decode cX0_empty 31 = .ok (.iinc 4 1, 3) := by decide +kernel
theorem dX0_empty_34 : decode cX0_empty 34 = .ok (.goto (-31), 3) := by decide +kernel
theorem dX0_empty_37 : decode cX0_empty 37 = .ok (.return_, 1) := by decide +kernel
theorem dX0_isOfKind_0 : decode cX0_isOfKind 0 = .ok (.aload_n 0, 1) := by decide +kernel
theorem dX0_isOfKind_1 : decode cX0_isOfKind 1 = .ok (.getfield 11, 3) := by decide +kernel
theorem dX0_isOfKind_4 : decode cX0_isOfKind 4 = .ok (.iload_n 1, 1) := by decide +kernel
theorem dX0_isOfKind_5 : decode cX0_isOfKind 5 = .ok (.aaload, 1) := by decide +kernel
theorem dX0_isOfKind_6 : decode cX0_isOfKind 6 = .ok (.iconst 3, 1) := by decide +kernel
theorem dX0_isOfKind_7 : decode cX0_isOfKind 7 = .ok (.iaload, 1) := by decide +kernel
theorem dX0_isOfKind_8 : decode cX0_isOfKind 8 = .ok (.iconst 1, 1) := by decide +kernel
theorem dX0_isOfKind_9 : decode cX0_isOfKind 9 = .ok (.if_icmp .ne 7, 3) := by decide +kernel
theorem dX0_isOfKind_12 : decode cX0_isOfKind 12 = .ok (.iconst 1, 1) := by decide +kernel
theorem dX0_isOfKind_13 : decode cX0_isOfKind 13 = .ok (.goto 4, 3) := by decide +kernel
theorem dX0_isOfKind_16 : decode cX0_isOfKind 16 = .ok (.iconst 0, 1) := by decide +kernel
theorem dX0_isOfKind_17 : decode cX0_isOfKind 17 = .ok (.istore 5, 2) := by decide +kernel
theorem dX0_isOfKind_19 : decode cX0_isOfKind 19 = .ok (.aload_n 0, 1) := by decide +kernel
theorem dX0_isOfKind_20 : decode cX0_isOfKind 20 = .ok (.getfield 11, 3) := by decide +kernel
theorem dX0_isOfKind_23 : decode cX0_isOfKind 23 = .ok (.iload_n 1, 1) := by decide +kernel
theorem dX0_isOfKind_24 : decode cX0_isOfKind 24 = .ok (.aaload, 1) := by decide +kernel
theorem dX0_isOfKind_25 : decode cX0_isOfKind 25 = .ok (.iconst 2, 1) := by decide +kernel
theorem dX0_isOfKind_26 : decode cX0_isOfKind 26 = .ok (.iaload, 1) := by decide +kernel
theorem dX0_isOfKind_27 : decode cX0_isOfKind 27 = .ok (.iload_n 3, 1) := by decide +kernel
theorem dX0_isOfKind_28 : decode cX0_isOfKind 28 = .ok (.if_icmp .ne 7, 3) := by decide +kernel
theorem dX0_isOfKind_31 : decode cX0_isOfKind 31 = .ok (.iconst 1, 1) := by decide +kernel
theorem dX0_isOfKind_32 : decode cX0_isOfKind 32 = .ok (.goto 4, 3) := by decide +kernel
theorem dX0_isOfKind_35 : decode cX0_isOfKind 35 = .ok (.iconst 0, 1) := by decide +kernel
theorem dX0_isOfKind_36 : decode cX0_isOfKind 36 = .ok (.istore 6, 2) := by decide +kernel
theorem dX0_isOfKind_38 : decode cX0_isOfKind 38 = .ok (.iload_n 2, 1) := by decide +kernel
theorem dX0_isOfKind_39 : decode cX0_isOfKind 39 = .ok (.tableswitch 61 0 3 #[29, 31, 34, 45], 29) := by decide +kernel
theorem dX0_isOfKind_68 : decode cX0_isOfKind 68 = .ok (.iconst 1, 1) := by decide +kernel
theorem dX0_isOfKind_69 : decode cX0_isOfKind 69 = .ok (.ireturn, 1) := by decide +kernel
theorem dX0_isOfKind_70 : decode cX0_isOfKind 70 = .ok (.iload 5, 2) := by decide +kernel
theorem dX0_isOfKind_72 : decode cX0_isOfKind 72 = .ok (.ireturn, 1) := by decide +kernel
theorem dX0_isOfKind_73 : decode cX0_isOfKind 73 = .ok (.iload 5, 2) := by decide +kernel
theorem dX0_isOfKind_75 : decode cX0_isOfKind 75 = .ok (.ifCond .ne 7, 3) := by decide +kernel
theorem dX0_isOfKind_78 : decode cX0_isOfKind 78 = .ok (.iconst 1, 1) := by decide +kernel
theorem dX0_isOfKind_79 : decode cX0_isOfKind 79 = .ok (.goto 4, 3) := by decide +kernel
theorem dX0_isOfKind_82 : decode cX0_isOfKind 82 = .ok (.iconst 0, 1) := by decide +kernel
theorem dX0_isOfKind_83 : decode cX0_isOfKind 83 = .ok (.ireturn, 1) := by decide +kernel
theorem dX0_isOfKind_84 : decode cX0_isOfKind 84 = .ok (.iload 5, 2) := by decide +kernel
theorem dX0_isOfKind_86 : decode cX0_isOfKind 86 = .ok (.ifCond .ne 12, 3) := by decide +kernel
theorem dX0_isOfKind_89 : decode cX0_isOfKind 89 = .ok (.iload 6, 2) := by decide +kernel
theorem dX0_isOfKind_91 : decode cX0_isOfKind 91 = .ok (.ifCond .eq 7, 3) := by decide +kernel
theorem dX0_isOfKind_94 : decode cX0_isOfKind 94 = .ok (.iconst 1, 1) := by decide +kernel
theorem dX0_isOfKind_95 : decode cX0_isOfKind 95 = .ok (.goto 4, 3) := by decide +kernel
theorem dX0_isOfKind_98 : decode cX0_isOfKind 98 = .ok (.iconst 0, 1) := by decide +kernel
theorem dX0_isOfKind_99 : decode cX0_isOfKind 99 = .ok (.ireturn, 1) := by decide +kernel
theorem dX0_isOfKind_100 : decode cX0_isOfKind 100 = .ok (.iload 5, 2) := by decide +kernel
theorem dX0_isOfKind_102 : decode cX0_isOfKind 102 = .ok (.ifCond .ne 25, 3) := by decide +kernel
theorem dX0_isOfKind_105 : decode cX0_isOfKind 105 = .ok (.iload 6, 2) := by decide +kernel
theorem dX0_isOfKind_107 : decode cX0_isOfKind 107 = .ok (.ifCond .eq 20, 3) := by decide +kernel
theorem dX0_isOfKind_110 : decode cX0_isOfKind 110 = .ok (.aload_n 0, 1) := by decide +kernel
theorem dX0_isOfKind_111 : decode cX0_isOfKind 111 = .ok (.getfield 11, 3) := by decide +kernel
theorem dX0_isOfKind_114 : decode cX0_isOfKind 114 = .ok (.iload_n 1, 1) := by decide +kernel
theorem dX0_isOfKind_115 : decode cX0_isOfKind 115 = .ok (.aaload, 1) := by decide +kernel
theorem dX0_isOfKind_116 : decode cX0_isOfKind 116 = .ok (.iconst 1, 1) := by decide +kernel
theorem dX0_isOfKind_117 : decode cX0_isOfKind 117 = .ok (.iaload, 1) := by decide +kernel
theorem dX0_isOfKind_118 : decode cX0_isOfKind 118 = .ok (.iload 4, 2) := by decide +kernel
theorem dX0_isOfKind_120 : decode cX0_isOfKind 120 = .ok (.if_icmp .ne 7, 3) := by decide +kernel
theorem dX0_isOfKind_123 : decode cX0_isOfKind 123 = .ok (.iconst 1, 1) := by decide +kernel
theorem dX0_isOfKind_124 : decode cX0_isOfKind 124 = .ok (.goto 4, 3) := by decide +kernel
theorem dX0_isOfKind_127 : decode cX0_isOfKind 127 = .ok (.iconst 0, 1) := by decide +kernel
theorem dX0_isOfKind_128 : decode cX0_isOfKind 128 = .ok (.ireturn, 1) := by decide +kernel
theorem dX2_init_0 : decode cX2_init 0 = .ok (.aload_n 0, 1) := by decide +kernel
theorem dX2_init_1 : decode cX2_init 1 = .ok (.invokespecial 3, 3) := by decide +kernel
theorem dX2_init_4 : decode cX2_init 4 = .ok (.aload_n 0, 1) := by decide +kernel
theorem dX2_init_5 : decode cX2_init 5 = .ok (.bipush 18, 2) := by decide +kernel
theorem dX2_init_7 : decode cX2_init 7 = .ok (.newarray .int, 2) := by decide +kernel
theorem dX2_init_9 : decode cX2_init 9 = .ok (.putfield 11, 3) := by decide +kernel
theorem dX2_init_12 : decode cX2_init 12 = .ok (.aload_n 0, 1) := by decide +kernel
theorem dX2_init_13 : decode cX2_init 13 = .ok (.getfield 11, 3) := by decide +kernel
theorem dX2_init_16 : decode cX2_init 16 = .ok (.iconst 0, 1) := by decide +kernel
theorem dX2_init_17 : decode cX2_init 17 = .ok (.bipush 8, 2) := by decide +kernel
theorem dX2_init_19 : decode cX2_init 19 = .ok (.iastore, 1) := by decide +kernel
theorem dX2_init_20 : decode cX2_init 20 = .ok (.return_, 1) := by decide +kernel
theorem dX2_get_0 : decode cX2_get 0 = .ok (.aload_n 0, 1) := by decide +kernel
theorem dX2_get_1 : decode cX2_get 1 = .ok (.getfield 11, 3) := by decide +kernel
theorem dX2_get_4 : decode cX2_get 4 = .ok (.iload_n 1, 1) := by decide +kernel
theorem dX2_get_5 : decode cX2_get 5 = .ok (.iaload, 1) := by decide +kernel
theorem dX2_get_6 : decode cX2_get 6 = .ok (.ireturn, 1) := by decide +kernel
theorem dX2_set_0 : decode cX2_set 0 = .ok (.aload_n 0, 1) := by decide +kernel
theorem dX2_set_1 : decode cX2_set 1 = .ok (.getfield 11, 3) := by decide +kernel
theorem dX2_set_4 : decode cX2_set 4 = .ok (.iload_n 1, 1) := by decide +kernel
theorem dX2_set_5 : decode cX2_set 5 = .ok (.iload_n 2, 1) := by decide +kernel
theorem dX2_set_6 : decode cX2_set 6 = .ok (.iastore, 1) := by decide +kernel
theorem dX2_set_7 : decode cX2_set 7 = .ok (.return_, 1) := by decide +kernel
theorem dX2_write_0 : decode cX2_write 0 = .ok (.iload_n 3, 1) := by decide +kernel
theorem dX2_write_1 : decode cX2_write 1 = .ok (.getstatic 15, 3) := by decide +kernel
theorem dX2_write_4 : decode cX2_write 4 = .ok (.iload_n 1, 1) := by decide +kernel
theorem dX2_write_5 : decode cX2_write 5 = .ok (.iaload, 1) := by decide +kernel
theorem dX2_write_6 : decode cX2_write 6 = .ok (.iand, 1) := by decide +kernel
theorem dX2_write_7 : decode cX2_write 7 = .ok (.istore 4, 2) := by decide +kernel
theorem dX2_write_9 : decode cX2_write 9 = .ok (.iload_n 1, 1) := by decide +kernel
theorem dX2_write_10 : decode cX2_write 10 = .ok (.iconst 3, 1) := by decide +kernel
theorem dX2_write_11 : decode cX2_write 11 = .ok (.if_icmp .ne 19, 3) := by decide +kernel
theorem dX2_write_14 : decode cX2_write 14 = .ok (.aload_n 0, 1) := by decide +kernel
theorem dX2_write_15 : decode cX2_write 15 = .ok (.getfield 11, 3) := by decide +kernel
theorem dX2_write_18 : decode cX2_write 18 = .ok (.iconst 3, 1) := by decide +kernel
theorem dX2_write_19 : decode cX2_write 19 = .ok (.dup2, 1) := by decide +kernel
theorem dX2_write_20 : decode cX2_write 20 = .ok (.iaload, 1) := by decide +kernel
theorem dX2_write_21 : decode cX2_write 21 = .ok (.iload_n 2, 1) := by decide +kernel
theorem dX2_write_22 : decode cX2_write 22 = .ok (.iload 4, 2) := by decide +kernel
theorem dX2_write_24 : decode cX2_write 24 = .ok (.iand, 1) := by decide +kernel
theorem dX2_write_25 : decode cX2_write 25 = .ok (.iconst (-1), 1) := by decide +kernel
theorem dX2_write_26 : decode cX2_write 26 = .ok (.ixor, 1) := by decide +kernel
theorem dX2_write_27 : decode cX2_write 27 = .ok (.iand, 1) := by decide +kernel
theorem dX2_write_28 : decode cX2_write 28 = .ok (.iastore, 1) := by decide +kernel
theorem dX2_write_29 : decode cX2_write 29 = .ok (.return_, 1) := by decide +kernel
theorem dX2_write_30 : decode cX2_write 30 = .ok (.aload_n 0, 1) := by decide +kernel
theorem dX2_write_31 : decode cX2_write 31 = .ok (.getfield 11, 3) := by decide +kernel
theorem dX2_write_34 : decode cX2_write 34 = .ok (.iload_n 1, 1) := by decide +kernel
theorem dX2_write_35 : decode cX2_write 35 = .ok (.iaload, 1) := by decide +kernel
theorem dX2_write_36 : decode cX2_write 36 = .ok (.iload 4, 2) := by decide +kernel
theorem dX2_write_38 : decode cX2_write 38 = .ok (.iconst (-1), 1) := by decide +kernel
theorem dX2_write_39 : decode cX2_write 39 = .ok (.ixor, 1) := by decide +kernel
theorem dX2_write_40 : decode cX2_write 40 = .ok (.iand, 1) := by decide +kernel
theorem dX2_write_41 : decode cX2_write 41 = .ok (.iload_n 2, 1) := by decide +kernel
theorem dX2_write_42 : decode cX2_write 42 = .ok (.iload 4, 2) := by decide +kernel
theorem dX2_write_44 : decode cX2_write 44 = .ok (.iand, 1) := by decide +kernel
theorem dX2_write_45 : decode cX2_write 45 = .ok (.ior, 1) := by decide +kernel
theorem dX2_write_46 : decode cX2_write 46 = .ok (.istore 5, 2) := by decide +kernel
theorem dX2_write_48 : decode cX2_write 48 = .ok (.iload 5, 2) := by decide +kernel
theorem dX2_write_50 : decode cX2_write 50 = .ok (.getstatic 18, 3) := by decide +kernel
theorem dX2_write_53 : decode cX2_write 53 = .ok (.iload_n 1, 1) := by decide +kernel
theorem dX2_write_54 : decode cX2_write 54 = .ok (.iaload, 1) := by decide +kernel
theorem dX2_write_55 : decode cX2_write 55 = .ok (.iand, 1) := by decide +kernel
theorem dX2_write_56 : decode cX2_write 56 = .ok (.ifCond .eq 13, 3) := by decide +kernel
theorem dX2_write_59 : decode cX2_write 59 = .ok (.iload 5, 2) := by decide +kernel
theorem dX2_write_61 : decode cX2_write 61 = .ok (.getstatic 18, 3) := by decide +kernel
theorem dX2_write_64 : decode cX2_write 64 = .ok (.iload_n 1, 1) := by decide +kernel
theorem dX2_write_65 : decode cX2_write 65 = .ok (.iaload, 1) := by decide +kernel
theorem dX2_write_66 : decode cX2_write 66 = .ok (.ior, 1) := by decide +kernel
theorem dX2_write_67 : decode cX2_write 67 = .ok (.istore 5, 2) := by decide +kernel
theorem dX2_write_69 : decode cX2_write 69 = .ok (.aload_n 0, 1) := by decide +kernel
theorem dX2_write_70 : decode cX2_write 70 = .ok (.getfield 11, 3) := by decide +kernel
theorem dX2_write_73 : decode cX2_write 73 = .ok (.iload_n 1, 1) := by decide +kernel
theorem dX2_write_74 : decode cX2_write 74 = .ok (.iload 5, 2) := by decide +kernel
theorem dX2_write_76 : decode cX2_write 76 = .ok (.iastore, 1) := by decide +kernel
theorem dX2_write_77 : decode cX2_write 77 = .ok (.iload_n 1, 1) := by decide +kernel
theorem dX2_write_78 : decode cX2_write 78 = .ok (.bipush 14, 2) := by decide +kernel
theorem dX2_write_80 : decode cX2_write 80 = .ok (.if_icmp .ne 15, 3) := by decide +kernel
theorem dX2_write_83 : decode cX2_write 83 = .ok (.aload_n 0, 1) := by decide +kernel
theorem dX2_write_84 : decode cX2_write 84 = .ok (.getfield 11, 3) := by decide +kernel
theorem dX2_write_87 : decode cX2_write 87 = .ok (.bipush 15, 2) := by decide +kernel
theorem dX2_write_89 : decode cX2_write 89 = .ok (.iload 5, 2) := by decide +kernel
theorem dX2_write_91 : decode cX2_write 91 = .ok (.ldc 21, 2) := by decide +kernel
theorem dX2_write_93 : decode cX2_write 93 = .ok (.iand, 1) := by decide +kernel
theorem dX2_write_94 : decode cX2_write 94 = .ok (.iastore, 1) := by decide +kernel
theorem dX2_write_95 : decode cX2_write 95 = .ok (.return_, 1) := by decide +kernel
theorem dX2_level_0 : decode cX2_level 0 = .ok (.aload_n 0, 1) := by decide +kernel
theorem dX2_level_1 : decode cX2_level 1 = .ok (.getfield 11, 3) := by decide +kernel
theorem dX2_level_4 : decode cX2_level 4 = .ok (.iconst 0, 1) := by decide +kernel
theorem dX2_level_5 : decode cX2_level 5 = .ok (.iaload, 1) := by decide +kernel
theorem dX2_level_6 : decode cX2_level 6 = .ok (.iconst 3, 1) := by decide +kernel
theorem dX2_level_7 : decode cX2_level 7 = .ok (.iand, 1) := by decide +kernel
theorem dX2_level_8 : decode cX2_level 8 = .ok (.ireturn, 1) := by decide +kernel
theorem dX2_isEnabled_0 : decode cX2_isEnabled 0 = .ok (.aload_n 0, 1) := by decide +kernel
theorem dX2_isEnabled_1 : decode cX2_isEnabled 1 = .ok (.getfield 11, 3) := by decide +kernel
theorem dX2_isEnabled_4 : decode cX2_isEnabled 4 = .ok (.iconst 0, 1) := by decide +kernel
theorem dX2_isEnabled_5 : decode cX2_isEnabled 5 = .ok (.iaload, 1) := by decide +kernel
theorem dX2_isEnabled_6 : decode cX2_isEnabled 6 = .ok (.iconst 4, 1) := by decide +kernel
theorem dX2_isEnabled_7 : decode cX2_isEnabled 7 = .ok (.iand, 1) := by decide +kernel
theorem dX2_isEnabled_8 : decode cX2_isEnabled 8 = .ok (.ifCond .eq 7, 3) := by decide +kernel
theorem dX2_isEnabled_11 : decode cX2_isEnabled 11 = .ok (.iconst 1, 1) := by decide +kernel
theorem dX2_isEnabled_12 : decode cX2_isEnabled 12 = .ok (.goto 4, 3) := by decide +kernel
theorem dX2_isEnabled_15 : decode cX2_isEnabled 15 = .ok (.iconst 0, 1) := by decide +kernel
theorem dX2_isEnabled_16 : decode cX2_isEnabled 16 = .ok (.ireturn, 1) := by decide +kernel
theorem dX2_isDirect_0 : decode cX2_isDirect 0 = .ok (.aload_n 0, 1) := by decide +kernel
theorem dX2_isDirect_1 : decode cX2_isDirect 1 = .ok (.getfield 11, 3) := by decide +kernel
theorem dX2_isDirect_4 : decode cX2_isDirect 4 = .ok (.iconst 0, 1) := by decide +kernel
theorem dX2_isDirect_5 : decode cX2_isDirect 5 = .ok (.iaload, 1) := by decide +kernel
theorem dX2_isDirect_6 : decode cX2_isDirect 6 = .ok (.bipush 8, 2) := by decide +kernel
theorem dX2_isDirect_8 : decode cX2_isDirect 8 = .ok (.iand, 1) := by decide +kernel
theorem dX2_isDirect_9 : decode cX2_isDirect 9 = .ok (.ifCond .eq 7, 3) := by decide +kernel
theorem dX2_isDirect_12 : decode cX2_isDirect 12 = .ok (.iconst 1, 1) := by decide +kernel
theorem dX2_isDirect_13 : decode cX2_isDirect 13 = .ok (.goto 4, 3) := by decide +kernel
theorem dX2_isDirect_16 : decode cX2_isDirect 16 = .ok (.iconst 0, 1) := by decide +kernel
theorem dX2_isDirect_17 : decode cX2_isDirect 17 = .ok (.ireturn, 1) := by decide +kernel
theorem dX2_setDirect_0 : decode cX2_setDirect 0 = .ok (.aload_n 0, 1) := by decide +kernel
theorem dX2_setDirect_1 : decode cX2_setDirect 1 = .ok (.getfield 11, 3) := by decide +kernel
theorem dX2_setDirect_4 : decode cX2_setDirect 4 = .ok (.iconst 0, 1) := by decide +kernel
theorem dX2_setDirect_5 : decode cX2_setDirect 5 = .ok (.dup2, 1) := by decide +kernel
theorem dX2_setDirect_6 : decode cX2_setDirect 6 = .ok (.iaload, 1) := by decide +kernel
theorem dX2_setDirect_7 : decode cX2_setDirect 7 = .ok (.bipush 8, 2) := by decide +kernel
theorem dX2_setDirect_9 : decode cX2_setDirect 9 = .ok (.ior, 1) := by decide +kernel
theorem dX2_setDirect_10 : decode cX2_setDirect 10 = .ok (.iastore, 1) := by decide +kernel
theorem dX2_setDirect_11 : decode cX2_setDirect 11 = .ok (.return_, 1) := by decide +kernel
theorem dX2_isEmpty_0 : decode cX2_isEmpty 0 = .ok (.aload_n 0, 1) := by decide +kernel
theorem dX2_isEmpty_1 : decode cX2_isEmpty 1 = .ok (.getfield 11, 3) := by decide +kernel
theorem dX2_isEmpty_4 : decode cX2_isEmpty 4 = .ok (.bipush 7, 2) := by decide +kernel
theorem dX2_isEmpty_6 : decode cX2_isEmpty 6 = .ok (.iaload, 1) := by decide +kernel
theorem dX2_isEmpty_7 : decode cX2_isEmpty 7 = .ok (.ldc 22, 2) := by decide +kernel
theorem dX2_isEmpty_9 : decode cX2_isEmpty 9 = .ok (.iand, 1) := by decide +kernel
theorem dX2_isEmpty_10 : decode cX2_isEmpty 10 = .ok (.ifCond .eq 7, 3) := by decide +kernel
theorem dX2_isEmpty_13 : decode cX2_isEmpty 13 = .ok (.iconst 1, 1) := by decide +kernel
theorem dX2_isEmpty_14 : decode cX2_isEmpty 14 = .ok (.goto 4, 3) := by decide +kernel
theorem dX2_isEmpty_17 : decode cX2_isEmpty 17 = .ok (.iconst 0, 1) := by decide +kernel
theorem dX2_isEmpty_18 : decode cX2_isEmpty 18 = .ok (.ireturn, 1) := by decide +kernel
theorem dX2_setEmpty_0 : decode cX2_setEmpty 0 = .ok (.aload_n 0, 1) := by decide +kernel
theorem dX2_setEmpty_1 : decode cX2_setEmpty 1 = .ok (.getfield 11, 3) := by decide +kernel
theorem dX2_setEmpty_4 : decode cX2_setEmpty 4 = .ok (.bipush 7, 2) := by decide +kernel
theorem dX2_setEmpty_6 : decode cX2_setEmpty 6 = .ok (.aload_n 0, 1) := by decide +kernel
theorem dX2_setEmpty_7 : decode cX2_setEmpty 7 = .ok (.getfield 11, 3) := by decide +kernel
theorem dX2_setEmpty_10 : decode cX2_setEmpty 10 = .ok (.bipush 7, 2) := by decide +kernel
theorem dX2_setEmpty_12 : decode cX2_setEmpty 12 = .ok (.iaload, 1) := by decide +kernel
theorem dX2_setEmpty_13 : decode cX2_setEmpty 13 = .ok (.ldc 23, 2) := by decide +kernel
theorem dX2_setEmpty_15 : decode cX2_setEmpty 15 = .ok (.iand, 1) := by decide +kernel
theorem dX2_setEmpty_16 : decode cX2_setEmpty 16 = .ok (.iload_n 1, 1) := by decide +kernel
theorem dX2_setEmpty_17 : decode cX2_setEmpty 17 = .ok (.ifCond .eq 8, 3) := by decide +kernel
theorem dX2_setEmpty_20 : decode cX2_setEmpty 20 = .ok (.ldc 22, 2) := by decide +kernel
theorem dX2_setEmpty_22 : decode cX2_setEmpty 22 = .ok (.goto 4, 3) := by decide +kernel
theorem dX2_setEmpty_25 : decode cX2_setEmpty 25 = .ok (.iconst 0, 1) := by decide +kernel
theorem dX2_setEmpty_26 : decode cX2_setEmpty 26 = .ok (.ior, 1) := by decide +kernel
theorem dX2_setEmpty_27 : decode cX2_setEmpty 27 = .ok (.iastore, 1) := by decide +kernel
theorem dX2_setEmpty_28 : decode cX2_setEmpty 28 = .ok (.return_, 1) := by decide +kernel
theorem dX2_code_0 : decode cX2_code 0 = .ok (.aload_n 0, 1) := by decide +kernel
theorem dX2_code_1 : decode cX2_code 1 = .ok (.getfield 11, 3) := by decide +kernel
theorem dX2_code_4 : decode cX2_code 4 = .ok (.iconst 3, 1) := by decide +kernel
theorem dX2_code_5 : decode cX2_code 5 = .ok (.iaload, 1) := by decide +kernel
theorem dX2_code_6 : decode cX2_code 6 = .ok (.bipush 16, 2) := by decide +kernel
theorem dX2_code_8 : decode cX2_code 8 = .ok (.iushr, 1) := by decide +kernel
theorem dX2_code_9 : decode cX2_code 9 = .ok (.bipush 63, 2) := by decide +kernel
theorem dX2_code_11 : decode cX2_code 11 = .ok (.iand, 1) := by decide +kernel
theorem dX2_code_12 : decode cX2_code 12 = .ok (.ireturn, 1) := by decide +kernel
theorem dX2_setLine_0 : decode cX2_setLine 0 = .ok (.iconst 1, 1) := by decide +kernel
theorem dX2_setLine_1 : decode cX2_setLine 1 = .ok (.iload_n 1, 1) := by decide +kernel
theorem dX2_setLine_2 : decode cX2_setLine 2 = .ok (.ishl, 1) := by decide +kernel
theorem dX2_setLine_3 : decode cX2_setLine 3 = .ok (.istore_n 3, 1) := by decide +kernel
theorem dX2_setLine_4 : decode cX2_setLine 4 = .ok (.aload_n 0, 1) := by decide +kernel
theorem dX2_setLine_5 : decode cX2_setLine 5 = .ok (.getfield 11, 3) := by decide +kernel
theorem dX2_setLine_8 : decode cX2_setLine 8 = .ok (.iconst 3, 1) := by decide +kernel
theorem dX2_setLine_9 : decode cX2_setLine 9 = .ok (.aload_n 0, 1) := by decide +kernel
theorem dX2_setLine_10 : decode cX2_setLine 10 = .ok (.getfield 11, 3) := by decide +kernel
theorem dX2_setLine_13 : decode cX2_setLine 13 = .ok (.iconst 3, 1) := by decide +kernel
theorem dX2_setLine_14 : decode cX2_setLine 14 = .ok (.iaload, 1) := by decide +kernel
theorem dX2_setLine_15 : decode cX2_setLine 15 = .ok (.iload_n 3, 1) := by decide +kernel
theorem dX2_setLine_16 : decode cX2_setLine 16 = .ok (.iconst (-1), 1) := by decide +kernel
theorem dX2_setLine_17 : decode cX2_setLine 17 = .ok (.ixor, 1) := by decide +kernel
theorem dX2_setLine_18 : decode cX2_setLine 18 = .ok (.iand, 1) := by decide +kernel
theorem dX2_setLine_19 : decode cX2_setLine 19 = .ok (.iload_n 2, 1) := by decide +kernel
theorem dX2_setLine_20 : decode cX2_setLine 20 = .ok (.ifCond .eq 7, 3) := by decide +kernel
theorem dX2_setLine_23 : decode cX2_setLine 23 = .ok (.iload_n 3, 1) := by decide +kernel
theorem dX2_setLine_24 : decode cX2_setLine 24 = .ok (.goto 4, 3) := by decide +kernel
theorem dX2_setLine_27 : decode cX2_setLine 27 = .ok (.iconst 0, 1) := by decide +kernel
theorem dX2_setLine_28 : decode cX2_setLine 28 = .ok (.ior, 1) := by decide +kernel
theorem dX2_setLine_29 : decode cX2_setLine 29 = .ok (.iastore, 1) := by decide +kernel
theorem dX2_setLine_30 : decode cX2_setLine 30 = .ok (.return_, 1) := by decide +kernel
theorem dX2_isAsked_0 : decode cX2_isAsked 0 = .ok (.aload_n 0, 1) := by decide +kernel
theorem dX2_isAsked_1 : decode cX2_isAsked 1 = .ok (.getfield 11, 3) := by decide +kernel
theorem dX2_isAsked_4 : decode cX2_isAsked 4 = .ok (.iconst 2, 1) := by decide +kernel
theorem dX2_isAsked_5 : decode cX2_isAsked 5 = .ok (.iaload, 1) := by decide +kernel
theorem dX2_isAsked_6 : decode cX2_isAsked 6 = .ok (.aload_n 0, 1) := by decide +kernel
theorem dX2_isAsked_7 : decode cX2_isAsked 7 = .ok (.getfield 11, 3) := by decide +kernel
theorem dX2_isAsked_10 : decode cX2_isAsked 10 = .ok (.iconst 3, 1) := by decide +kernel
theorem dX2_isAsked_11 : decode cX2_isAsked 11 = .ok (.iaload, 1) := by decide +kernel
theorem dX2_isAsked_12 : decode cX2_isAsked 12 = .ok (.iand, 1) := by decide +kernel
theorem dX2_isAsked_13 : decode cX2_isAsked 13 = .ok (.bipush 31, 2) := by decide +kernel
theorem dX2_isAsked_15 : decode cX2_isAsked 15 = .ok (.iand, 1) := by decide +kernel
theorem dX2_isAsked_16 : decode cX2_isAsked 16 = .ok (.ifCond .eq 7, 3) := by decide +kernel
theorem dX2_isAsked_19 : decode cX2_isAsked 19 = .ok (.iconst 1, 1) := by decide +kernel
theorem dX2_isAsked_20 : decode cX2_isAsked 20 = .ok (.goto 4, 3) := by decide +kernel
theorem dX2_isAsked_23 : decode cX2_isAsked 23 = .ok (.iconst 0, 1) := by decide +kernel
theorem dX2_isAsked_24 : decode cX2_isAsked 24 = .ok (.ireturn, 1) := by decide +kernel
theorem dX2_isInWindow_0 : decode cX2_isInWindow 0 = .ok (.aload_n 0, 1) := by decide +kernel
theorem dX2_isInWindow_1 : decode cX2_isInWindow 1 = .ok (.getfield 11, 3) := by decide +kernel
theorem dX2_isInWindow_4 : decode cX2_isInWindow 4 = .ok (.bipush 17, 2) := by decide +kernel
theorem dX2_isInWindow_6 : decode cX2_isInWindow 6 = .ok (.iaload, 1) := by decide +kernel
theorem dX2_isInWindow_7 : decode cX2_isInWindow 7 = .ok (.istore_n 2, 1) := by decide +kernel
theorem dX2_isInWindow_8 : decode cX2_isInWindow 8 = .ok (.iload_n 2, 1) := by decide +kernel
theorem dX2_isInWindow_9 : decode cX2_isInWindow 9 = .ok (.aload_n 0, 1) := by decide +kernel
theorem dX2_isInWindow_10 : decode cX2_isInWindow 10 = .ok (.getfield 11, 3) := by decide +kernel
theorem dX2_isInWindow_13 : decode cX2_isInWindow 13 = .ok (.iconst 0, 1) := by decide +kernel
theorem dX2_isInWindow_14 : decode cX2_isInWindow 14 = .ok (.iaload, 1) := by decide +kernel
theorem dX2_isInWindow_15 : decode cX2_isInWindow 15 = .ok (.iconst 3, 1) := by decide +kernel
theorem dX2_isInWindow_16 : decode cX2_isInWindow 16 = .ok (.iand, 1) := by decide +kernel
theorem dX2_isInWindow_17 : decode cX2_isInWindow 17 = .ok (.iushr, 1) := by decide +kernel
theorem dX2_isInWindow_18 : decode cX2_isInWindow 18 = .ok (.iconst 1, 1) := by decide +kernel
theorem dX2_isInWindow_19 : decode cX2_isInWindow 19 = .ok (.iand, 1) := by decide +kernel
theorem dX2_isInWindow_20 : decode cX2_isInWindow 20 = .ok (.ifCond .eq 7, 3) := by decide +kernel
theorem dX2_isInWindow_23 : decode cX2_isInWindow 23 = .ok (.iconst 1, 1) := by decide +kernel
theorem dX2_isInWindow_24 : decode cX2_isInWindow 24 = .ok (.goto 4, 3) := by decide +kernel
theorem dX2_isInWindow_27 : decode cX2_isInWindow 27 = .ok (.iconst 0, 1) := by decide +kernel
theorem dX2_isInWindow_28 : decode cX2_isInWindow 28 = .ok (.istore_n 3, 1) := by decide +kernel
theorem dX2_isInWindow_29 : decode cX2_isInWindow 29 = .ok (.iload_n 3, 1) := by decide +kernel
theorem dX2_isInWindow_30 : decode cX2_isInWindow 30 = .ok (.ifCond .eq 16, 3) := by decide +kernel
theorem dX2_isInWindow_33 : decode cX2_isInWindow 33 = .ok (.iload_n 1, 1) := by decide +kernel
theorem dX2_isInWindow_34 : decode cX2_isInWindow 34 = .ok (.iload_n 2, 1) := by decide +kernel
theorem dX2_isInWindow_35 : decode cX2_isInWindow 35 = .ok (.ixor, 1) := by decide +kernel
theorem dX2_isInWindow_36 : decode cX2_isInWindow 36 = .ok (.bipush 28, 2) := by decide +kernel
theorem dX2_isInWindow_38 : decode cX2_isInWindow 38 = .ok (.iushr, 1) := by decide +kernel
theorem dX2_isInWindow_39 : decode cX2_isInWindow 39 = .ok (.ifCond .ne 7, 3) := by decide +kernel
theorem dX2_isInWindow_42 : decode cX2_isInWindow 42 = .ok (.iconst 1, 1) := by decide +kernel
theorem dX2_isInWindow_43 : decode cX2_isInWindow 43 = .ok (.goto 4, 3) := by decide +kernel
theorem dX2_isInWindow_46 : decode cX2_isInWindow 46 = .ok (.iconst 0, 1) := by decide +kernel
theorem dX2_isInWindow_47 : decode cX2_isInWindow 47 = .ok (.ireturn, 1) := by decide +kernel
theorem dX2_enter_0 : decode cX2_enter 0 = .ok (.aload_n 0, 1) := by decide +kernel
theorem dX2_enter_1 : decode cX2_enter 1 = .ok (.getfield 11, 3) := by decide +kernel
theorem dX2_enter_4 : decode cX2_enter 4 = .ok (.iconst 1, 1) := by decide +kernel
theorem dX2_enter_5 : decode cX2_enter 5 = .ok (.aload_n 0, 1) := by decide +kernel
theorem dX2_enter_6 : decode cX2_enter 6 = .ok (.getfield 11, 3) := by decide +kernel
theorem dX2_enter_9 : decode cX2_enter 9 = .ok (.iconst 0, 1) := by decide +kernel
theorem dX2_enter_10 : decode cX2_enter 10 = .ok (.iaload, 1) := by decide +kernel
theorem dX2_enter_11 : decode cX2_enter 11 = .ok (.bipush 7, 2) := by decide +kernel
theorem dX2_enter_13 : decode cX2_enter 13 = .ok (.iand, 1) := by decide +kernel
theorem dX2_enter_14 : decode cX2_enter 14 = .ok (.iastore, 1) := by decide +kernel
theorem dX2_enter_15 : decode cX2_enter 15 = .ok (.aload_n 0, 1) := by decide +kernel
theorem dX2_enter_16 : decode cX2_enter 16 = .ok (.getfield 11, 3) := by decide +kernel
theorem dX2_enter_19 : decode cX2_enter 19 = .ok (.iconst 0, 1) := by decide +kernel
theorem dX2_enter_20 : decode cX2_enter 20 = .ok (.dup2, 1) := by decide +kernel
theorem dX2_enter_21 : decode cX2_enter 21 = .ok (.iaload, 1) := by decide +kernel
theorem dX2_enter_22 : decode cX2_enter 22 = .ok (.bipush (-8), 2) := by decide +kernel
theorem dX2_enter_24 : decode cX2_enter 24 = .ok (.iand, 1) := by decide +kernel
theorem dX2_enter_25 : decode cX2_enter 25 = .ok (.iastore, 1) := by decide +kernel
theorem dX2_enter_26 : decode cX2_enter 26 = .ok (.aload_n 0, 1) := by decide +kernel
theorem dX2_enter_27 : decode cX2_enter 27 = .ok (.getfield 11, 3) := by decide +kernel
theorem dX2_enter_30 : decode cX2_enter 30 = .ok (.iconst 4, 1) := by decide +kernel
theorem dX2_enter_31 : decode cX2_enter 31 = .ok (.iload_n 2, 1) := by decide +kernel
theorem dX2_enter_32 : decode cX2_enter 32 = .ok (.iastore, 1) := by decide +kernel
theorem dX2_enter_33 : decode cX2_enter 33 = .ok (.aload_n 0, 1) := by decide +kernel
theorem dX2_enter_34 : decode cX2_enter 34 = .ok (.getfield 11, 3) := by decide +kernel
theorem dX2_enter_37 : decode cX2_enter 37 = .ok (.iconst 3, 1) := by decide +kernel
theorem dX2_enter_38 : decode cX2_enter 38 = .ok (.aload_n 0, 1) := by decide +kernel
theorem dX2_enter_39 : decode cX2_enter 39 = .ok (.getfield 11, 3) := by decide +kernel
theorem dX2_enter_42 : decode cX2_enter 42 = .ok (.iconst 3, 1) := by decide +kernel
theorem dX2_enter_43 : decode cX2_enter 43 = .ok (.iaload, 1) := by decide +kernel
theorem dX2_enter_44 : decode cX2_enter 44 = .ok (.bipush 31, 2) := by decide +kernel
theorem dX2_enter_46 : decode cX2_enter 46 = .ok (.iand, 1) := by decide +kernel
theorem dX2_enter_47 : decode cX2_enter 47 = .ok (.iload_n 1, 1) := by decide +kernel
theorem dX2_enter_48 : decode cX2_enter 48 = .ok (.bipush 16, 2) := by decide +kernel
theorem dX2_enter_50 : decode cX2_enter 50 = .ok (.ishl, 1) := by decide +kernel
theorem dX2_enter_51 : decode cX2_enter 51 = .ok (.ior, 1) := by decide +kernel
theorem dX2_enter_52 : decode cX2_enter 52 = .ok (.iastore, 1) := by decide +kernel
theorem dX2_enter_53 : decode cX2_enter 53 = .ok (.return_, 1) := by decide +kernel
set_option maxRecDepth 20000 in
theorem ggX2_leave_X2_code : GoodIn wsX2_leave wsX2_code := goodIn_r _ [6, 1, 7] (by decide +kernel) (by decide +kernel)
set_option maxRecDepth 20000 in
theorem gX2_leave_X2_code : GoodIn wsX2_leave (wsV RX2 24 RX2 yX2_code wsX2_code) := goodIn_app (goodIn_of _ (by decide +kernel)) ggX2_leave_X2_code
theorem dX2_leave_0 : decode cX2_leave 0 = .ok (.aload_n 0, 1) := by decide +kernel
theorem dX2_leave_1 : decode cX2_leave 1 = .ok (.getfield 11, 3) := by decide +kernel
theorem dX2_leave_4 : decode cX2_leave 4 = .ok (.iconst 0, 1) := by decide +kernel
theorem dX2_leave_5 : decode cX2_leave 5 = .ok (.aload_n 0, 1) := by decide +kernel
theorem dX2_leave_6 : decode cX2_leave 6 = .ok (.getfield 11, 3) := by decide +kernel
theorem dX2_leave_9 : decode cX2_leave 9 = .ok (.iconst 0, 1) := by decide +kernel
theorem dX2_leave_10 : decode cX2_leave 10 = .ok (.iaload, 1) := by decide +kernel
theorem dX2_leave_11 : decode cX2_leave 11 = .ok (.bipush 8, 2) := by decide +kernel
theorem dX2_leave_13 : decode cX2_leave 13 = .ok (.iand, 1) := by decide +kernel
theorem dX2_leave_14 : decode cX2_leave 14 = .ok (.aload_n 0, 1) := by decide +kernel
theorem dX2_leave_15 : decode cX2_leave 15 = .ok (.getfield 11, 3) := by decide +kernel
theorem dX2_leave_18 : decode cX2_leave 18 = .ok (.iconst 1, 1) := by decide +kernel
theorem dX2_leave_19 : decode cX2_leave 19 = .ok (.iaload, 1) := by decide +kernel
theorem dX2_leave_20 : decode cX2_leave 20 = .ok (.ior, 1) := by decide +kernel
theorem dX2_leave_21 : decode cX2_leave 21 = .ok (.iastore, 1) := by decide +kernel
theorem dX2_leave_22 : decode cX2_leave 22 = .ok (.aload_n 0, 1) := by decide +kernel
theorem dX2_leave_23 : decode cX2_leave 23 = .ok (.invokevirtual 24, 3) := by decide +kernel
theorem dX2_leave_26 : decode cX2_leave 26 = .ok (.bipush 63, 2) := by decide +kernel
theorem dX2_leave_28 : decode cX2_leave 28 = .ok (.if_icmp .ne 14, 3) := by decide +kernel
theorem dX2_leave_31 : decode cX2_leave 31 = .ok (.aload_n 0, 1) := by decide +kernel
theorem dX2_leave_32 : decode cX2_leave 32 = .ok (.getfield 11, 3) := by decide +kernel
theorem dX2_leave_35 : decode cX2_leave 35 = .ok (.iconst 0, 1) := by decide +kernel
theorem dX2_leave_36 : decode cX2_leave 36 = .ok (.dup2, 1) := by decide +kernel
theorem dX2_leave_37 : decode cX2_leave 37 = .ok (.iaload, 1) := by decide +kernel
theorem dX2_leave_38 : decode cX2_leave 38 = .ok (.bipush (-9), 2) := by decide +kernel
theorem dX2_leave_40 : decode cX2_leave 40 = .ok (.iand, 1) := by decide +kernel
theorem dX2_leave_41 : decode cX2_leave 41 = .ok (.iastore, 1) := by decide +kernel
theorem dX2_leave_42 : decode cX2_leave 42 = .ok (.return_, 1) := by decide +kernel
theorem dX2_tick_0 : decode cX2_tick 0 = .ok (.aload_n 0, 1) := by decide +kernel
theorem dX2_tick_1 : decode cX2_tick 1 = .ok (.getfield 11, 3) := by decide +kernel
theorem dX2_tick_4 : decode cX2_tick 4 = .ok (.bipush 14, 2) := by decide +kernel
theorem dX2_tick_6 : decode cX2_tick 6 = .ok (.iaload, 1) := by decide +kernel
theorem dX2_tick_7 : decode cX2_tick 7 = .ok (.istore_n 1, 1) := by decide +kernel
theorem dX2_tick_8 : decode cX2_tick 8 = .ok (.iload_n 1, 1) := by decide +kernel
theorem dX2_tick_9 : decode cX2_tick 9 = .ok (.iconst 1, 1) := by decide +kernel
theorem dX2_tick_10 : decode cX2_tick 10 = .ok (.iand, 1) := by decide +kernel
theorem dX2_tick_11 : decode cX2_tick 11 = .ok (.ifCond .eq 13, 3) := by decide +kernel
theorem dX2_tick_14 : decode cX2_tick 14 = .ok (.aload_n 0, 1) := by decide +kernel
theorem dX2_tick_15 : decode cX2_tick 15 = .ok (.getfield 11, 3) := by decide +kernel
theorem dX2_tick_18 : decode cX2_tick 18 = .ok (.bipush 15, 2) := by decide +kernel
theorem dX2_tick_20 : decode cX2_tick 20 = .ok (.iaload, 1) := by decide +kernel
theorem dX2_tick_21 : decode cX2_tick 21 = .ok (.ifCond .ne 4, 3) := by decide +kernel
theorem dX2_tick_24 : decode cX2_tick 24 = .ok (.return_, 1) := by decide +kernel
theorem dX2_tick_25 : decode cX2_tick 25 = .ok (.aload_n 0, 1) := by decide +kernel
theorem dX2_tick_26 : decode cX2_tick 26 = .ok (.getfield 11, 3) := by decide +kernel
theorem dX2_tick_29 : decode cX2_tick 29 = .ok (.bipush 15, 2) := by decide +kernel
theorem dX2_tick_31 : decode cX2_tick 31 = .ok (.dup2, 1) := by decide +kernel
theorem dX2_tick_32 : decode cX2_tick 32 = .ok (.iaload, 1) := by decide +kernel
theorem dX2_tick_33 : decode cX2_tick 33 = .ok (.iconst 1, 1) := by decide +kernel
theorem dX2_tick_34 : decode cX2_tick 34 = .ok (.isub, 1) := by decide +kernel
theorem dX2_tick_35 : decode cX2_tick 35 = .ok (.iastore, 1) := by decide +kernel
theorem dX2_tick_36 : decode cX2_tick 36 = .ok (.aload_n 0, 1) := by decide +kernel
theorem dX2_tick_37 : decode cX2_tick 37 = .ok (.getfield 11, 3) := by decide +kernel
theorem dX2_tick_40 : decode cX2_tick 40 = .ok (.bipush 15, 2) := by decide +kernel
theorem dX2_tick_42 : decode cX2_tick 42 = .ok (.iaload, 1) := by decide +kernel
theorem dX2_tick_43 : decode cX2_tick 43 = .ok (.ifCond .ne 31, 3) := by decide +kernel
theorem dX2_tick_46 : decode cX2_tick 46 = .ok (.aload_n 0, 1) := by decide +kernel
theorem dX2_tick_47 : decode cX2_tick 47 = .ok (.getfield 11, 3) := by decide +kernel
theorem dX2_tick_50 : decode cX2_tick 50 = .ok (.iconst 3, 1) := by decide +kernel
theorem dX2_tick_51 : decode cX2_tick 51 = .ok (.dup2, 1) := by decide +kernel
theorem dX2_tick_52 : decode cX2_tick 52 = .ok (.iaload, 1) := by decide +kernel
theorem dX2_tick_53 : decode cX2_tick 53 = .ok (.bipush 16, 2) := by decide +kernel
theorem dX2_tick_55 : decode cX2_tick 55 = .ok (.ior, 1) := by decide +kernel
theorem dX2_tick_56 : decode cX2_tick 56 = .ok (.iastore, 1) := by decide +kernel
theorem dX2_tick_57 : decode cX2_tick 57 = .ok (.iload_n 1, 1) := by decide +kernel
theorem dX2_tick_58 : decode cX2_tick 58 = .ok (.iconst 2, 1) := by decide +kernel
theorem dX2_tick_59 : decode cX2_tick 59 = .ok (.iand, 1) := by decide +kernel
theorem dX2_tick_60 : decode cX2_tick 60 = .ok (.ifCond .eq 14, 3) := by decide +kernel
theorem dX2_tick_63 : decode cX2_tick 63 = .ok (.aload_n 0, 1) := by decide +kernel
theorem dX2_tick_64 : decode cX2_tick 64 = .ok (.getfield 11, 3) := by decide +kernel
theorem dX2_tick_67 : decode cX2_tick 67 = .ok (.bipush 15, 2) := by decide +kernel
theorem dX2_tick_69 : decode cX2_tick 69 = .ok (.iload_n 1, 1) := by decide +kernel
theorem dX2_tick_70 : decode cX2_tick 70 = .ok (.ldc 21, 2) := by decide +kernel
theorem dX2_tick_72 : decode cX2_tick 72 = .ok (.iand, 1) := by decide +kernel
theorem dX2_tick_73 : decode cX2_tick 73 = .ok (.iastore, 1) := by decide +kernel
theorem dX2_tick_74 : decode cX2_tick 74 = .ok (.return_, 1) := by decide +kernel
theorem dJ9_min_7cf53_0 : decode cJ9_min_7cf53 0 = .ok (.iload_n 0, 1) := by decide +kernel
theorem dJ9_min_7cf53_1 : decode cJ9_min_7cf53 1 = .ok (.iload_n 1, 1) := by decide +kernel
theorem dJ9_min_7cf53_2 : decode cJ9_min_7cf53 2 = .ok (.if_icmp .gt 7, 3) := by decide +kernel
theorem dJ9_min_7cf53_5 : decode cJ9_min_7cf53 5 = .ok (.iload_n 0, 1) := by decide +kernel
theorem dJ9_min_7cf53_6 : decode cJ9_min_7cf53 6 = .ok (.goto 4, 3) := by decide +kernel
theorem dJ9_min_7cf53_9 : decode cJ9_min_7cf53 9 = .ok (.iload_n 1, 1) := by decide +kernel
theorem dJ9_min_7cf53_10 : decode cJ9_min_7cf53 10 = .ok (.ireturn, 1) := by decide +kernel

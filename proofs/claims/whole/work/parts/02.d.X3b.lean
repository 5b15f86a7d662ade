theorem dX3_storeWord_88 : decode cX3_storeWord 88 = .ok (.invokevirtual 145, 3) := by decide +kernel
theorem dX3_storeWord_91 : decode cX3_storeWord 91 = .ok (.aload_n 0, 1) := by decide +kernel
theorem dX3_storeWord_92 : decode cX3_storeWord 92 = .ok (.dup, 1) := by decide +kernel
theorem dX3_storeWord_93 : decode cX3_storeWord 93 = .ok (.getfield 54, 3) := by decide +kernel
theorem dX3_storeWord_96 : decode cX3_storeWord 96 = .ok (.iconst 4, 1) := by decide +kernel
theorem dX3_storeWord_97 : decode cX3_storeWord 97 = .ok (.iadd, 1) := by decide +kernel
theorem dX3_storeWord_98 : decode cX3_storeWord 98 = .ok (.putfield 54, 3) := by decide +kernel
theorem dX3_storeWord_101 : decode cX3_storeWord 101 = .ok (.return_, 1) := by decide +kernel
set_option maxRecDepth 20000 in
theorem ggX3_branch_X3_valueB : GoodIn wsX3_branch wsX3_valueB := goodIn_r _ [6, 7, 22, 23, 24, 25, 26, 27, 28, 29, 30] (by decide +kernel) (by decide +kernel)
set_option maxRecDepth 20000 in
theorem gX3_branch_X3_valueB : GoodIn wsX3_branch (wsV RX3 148 RX3 yX3_valueB wsX3_valueB) := goodIn_app (goodIn_of _ (by decide +kernel)) ggX3_branch_X3_valueB
set_option maxRecDepth 20000 in
theorem ggX3_branch_X3_imm : GoodIn wsX3_branch wsX3_imm := goodIn_r _ [10] (by decide +kernel) (by decide +kernel)
set_option maxRecDepth 20000 in
theorem gX3_branch_X3_imm : GoodIn wsX3_branch (va_wsS RX3 154 yX3_imm wsX3_imm) := goodIn_app (goodIn_of _ (by decide +kernel)) ggX3_branch_X3_imm
set_option maxRecDepth 20000 in
theorem ggX3_branch_X3_setA : GoodIn wsX3_branch wsX3_setA := goodIn_r _ [14, 7, 22, 23, 24, 25, 26, 27, 28, 29, 30] (by decide +kernel) (by decide +kernel)
set_option maxRecDepth 20000 in
theorem gX3_branch_X3_setA : GoodIn wsX3_branch (wsV RX3 145 RX3 yX3_setA wsX3_setA) := goodIn_app (goodIn_of _ (by decide +kernel)) ggX3_branch_X3_setA
set_option maxRecDepth 20000 in
theorem ggX3_branch_X3_valueA : GoodIn wsX3_branch wsX3_valueA := goodIn_r _ [18, 7, 22, 23, 24, 25, 26, 27, 28, 29, 30] (by decide +kernel) (by decide +kernel)
set_option maxRecDepth 20000 in
theorem gX3_branch_X3_valueA : GoodIn wsX3_branch (wsV RX3 164 RX3 yX3_valueA wsX3_valueA) := goodIn_app (goodIn_of _ (by decide +kernel)) ggX3_branch_X3_valueA
set_option maxRecDepth 20000 in
theorem ggX3_branch_X3_holds : GoodIn wsX3_branch wsX3_holds := goodIn_r _ [21] (by decide +kernel) (by decide +kernel)
set_option maxRecDepth 20000 in
theorem gX3_branch_X3_holds : GoodIn wsX3_branch (va_wsS RX3 167 yX3_holds wsX3_holds) := goodIn_app (goodIn_of _ (by decide +kernel)) ggX3_branch_X3_holds
theorem dX3_branch_0 : decode cX3_branch 0 = .ok (.aload_n 0, 1) := by decide +kernel
theorem dX3_branch_1 : decode cX3_branch 1 = .ok (.iload_n 2, 1) := by decide +kernel
theorem dX3_branch_2 : decode cX3_branch 2 = .ok (.invokevirtual 148, 3) := by decide +kernel
theorem dX3_branch_5 : decode cX3_branch 5 = .ok (.istore_n 3, 1) := by decide +kernel
theorem dX3_branch_6 : decode cX3_branch 6 = .ok (.iconst 4, 1) := by decide +kernel
theorem dX3_branch_7 : decode cX3_branch 7 = .ok (.iload_n 2, 1) := by decide +kernel
theorem dX3_branch_8 : decode cX3_branch 8 = .ok (.invokestatic 154, 3) := by decide +kernel
theorem dX3_branch_11 : decode cX3_branch 11 = .ok (.imul, 1) := by decide +kernel
theorem dX3_branch_12 : decode cX3_branch 12 = .ok (.istore 4, 2) := by decide +kernel
theorem dX3_branch_14 : decode cX3_branch 14 = .ok (.iload_n 1, 1) := by decide +kernel
theorem dX3_branch_15 : decode cX3_branch 15 = .ok (.bipush 15, 2) := by decide +kernel
theorem dX3_branch_17 : decode cX3_branch 17 = .ok (.if_icmp .ne 25, 3) := by decide +kernel
theorem dX3_branch_20 : decode cX3_branch 20 = .ok (.aload_n 0, 1) := by decide +kernel
theorem dX3_branch_21 : decode cX3_branch 21 = .ok (.iload_n 2, 1) := by decide +kernel
theorem dX3_branch_22 : decode cX3_branch 22 = .ok (.aload_n 0, 1) := by decide +kernel
theorem dX3_branch_23 : decode cX3_branch 23 = .ok (.getfield 54, 3) := by decide +kernel
theorem dX3_branch_26 : decode cX3_branch 26 = .ok (.iconst 4, 1) := by decide +kernel
theorem dX3_branch_27 : decode cX3_branch 27 = .ok (.iadd, 1) := by decide +kernel
theorem dX3_branch_28 : decode cX3_branch 28 = .ok (.invokevirtual 145, 3) := by decide +kernel
theorem dX3_branch_31 : decode cX3_branch 31 = .ok (.aload_n 0, 1) := by decide +kernel
theorem dX3_branch_32 : decode cX3_branch 32 = .ok (.iload_n 3, 1) := by decide +kernel
theorem dX3_branch_33 : decode cX3_branch 33 = .ok (.iload 4, 2) := by decide +kernel
theorem dX3_branch_35 : decode cX3_branch 35 = .ok (.iadd, 1) := by decide +kernel
theorem dX3_branch_36 : decode cX3_branch 36 = .ok (.putfield 54, 3) := by decide +kernel
theorem dX3_branch_39 : decode cX3_branch 39 = .ok (.goto 31, 3) := by decide +kernel
theorem dX3_branch_42 : decode cX3_branch 42 = .ok (.aload_n 0, 1) := by decide +kernel
theorem dX3_branch_43 : decode cX3_branch 43 = .ok (.dup, 1) := by decide +kernel
theorem dX3_branch_44 : decode cX3_branch 44 = .ok (.getfield 54, 3) := by decide +kernel
theorem dX3_branch_47 : decode cX3_branch 47 = .ok (.iload_n 1, 1) := by decide +kernel
theorem dX3_branch_48 : decode cX3_branch 48 = .ok (.aload_n 0, 1) := by decide +kernel
theorem dX3_branch_49 : decode cX3_branch 49 = .ok (.iload_n 2, 1) := by decide +kernel
theorem dX3_branch_50 : decode cX3_branch 50 = .ok (.invokevirtual 164, 3) := by decide +kernel
theorem dX3_branch_53 : decode cX3_branch 53 = .ok (.iload_n 3, 1) := by decide +kernel
theorem dX3_branch_54 : decode cX3_branch 54 = .ok (.invokestatic 167, 3) := by decide +kernel
theorem dX3_branch_57 : decode cX3_branch 57 = .ok (.ifCond .eq 8, 3) := by decide +kernel
theorem dX3_branch_60 : decode cX3_branch 60 = .ok (.iload 4, 2) := by decide +kernel
theorem dX3_branch_62 : decode cX3_branch 62 = .ok (.goto 4, 3) := by decide +kernel
theorem dX3_branch_65 : decode cX3_branch 65 = .ok (.iconst 4, 1) := by decide +kernel
theorem dX3_branch_66 : decode cX3_branch 66 = .ok (.iadd, 1) := by decide +kernel
theorem dX3_branch_67 : decode cX3_branch 67 = .ok (.putfield 54, 3) := by decide +kernel
theorem dX3_branch_70 : decode cX3_branch 70 = .ok (.return_, 1) := by decide +kernel
theorem dX3_holds_0 : decode cX3_holds 0 = .ok (.iload_n 0, 1) := by decide +kernel
theorem dX3_holds_1 : decode cX3_holds 1 = .ok (.lookupswitch 49 #[(12, 27), (13, 38)], 27) := by decide +kernel
theorem dX3_holds_28 : decode cX3_holds 28 = .ok (.iload_n 1, 1) := by decide +kernel
theorem dX3_holds_29 : decode cX3_holds 29 = .ok (.iload_n 2, 1) := by decide +kernel
theorem dX3_holds_30 : decode cX3_holds 30 = .ok (.if_icmp .ne 7, 3) := by decide +kernel
theorem dX3_holds_33 : decode cX3_holds 33 = .ok (.iconst 1, 1) := by decide +kernel
theorem dX3_holds_34 : decode cX3_holds 34 = .ok (.goto 4, 3) := by decide +kernel
theorem dX3_holds_37 : decode cX3_holds 37 = .ok (.iconst 0, 1) := by decide +kernel
theorem dX3_holds_38 : decode cX3_holds 38 = .ok (.ireturn, 1) := by decide +kernel
theorem dX3_holds_39 : decode cX3_holds 39 = .ok (.iload_n 1, 1) := by decide +kernel
theorem dX3_holds_40 : decode cX3_holds 40 = .ok (.iload_n 2, 1) := by decide +kernel
theorem dX3_holds_41 : decode cX3_holds 41 = .ok (.if_icmp .eq 7, 3) := by decide +kernel
theorem dX3_holds_44 : decode cX3_holds 44 = .ok (.iconst 1, 1) := by decide +kernel
theorem dX3_holds_45 : decode cX3_holds 45 = .ok (.goto 4, 3) := by decide +kernel
theorem dX3_holds_48 : decode cX3_holds 48 = .ok (.iconst 0, 1) := by decide +kernel
theorem dX3_holds_49 : decode cX3_holds 49 = .ok (.ireturn, 1) := by decide +kernel
theorem dX3_holds_50 : decode cX3_holds 50 = .ok (.iload_n 1, 1) := by decide +kernel
theorem dX3_holds_51 : decode cX3_holds 51 = .ok (.iload_n 2, 1) := by decide +kernel
theorem dX3_holds_52 : decode cX3_holds 52 = .ok (.if_icmp .ge 7, 3) := by decide +kernel
theorem dX3_holds_55 : decode cX3_holds 55 = .ok (.iconst 1, 1) := by decide +kernel
theorem dX3_holds_56 : decode cX3_holds 56 = .ok (.goto 4, 3) := by decide +kernel
theorem dX3_holds_59 : decode cX3_holds 59 = .ok (.iconst 0, 1) := by decide +kernel
theorem dX3_holds_60 : decode cX3_holds 60 = .ok (.ireturn, 1) := by decide +kernel
set_option maxRecDepth 20000 in
theorem ggX3_useControl_X3_byteC : GoodIn wsX3_useControl wsX3_byteC := goodIn_r _ [6] (by decide +kernel) (by decide +kernel)
set_option maxRecDepth 20000 in
theorem gX3_useControl_X3_byteC : GoodIn wsX3_useControl (va_wsS RX3 161 yX3_byteC wsX3_byteC) := goodIn_app (goodIn_of _ (by decide +kernel)) ggX3_useControl_X3_byteC
set_option maxRecDepth 20000 in
theorem ggX3_useControl_X3_raise : GoodIn wsX3_useControl wsX3_raise := goodIn_r _ [10, 1, 2, 11, 12, 13, 14, 15, 16, 17, 18, 19, 20, 21, 22, 42, 43, 44, 45, 46, 47, 48, 49, 50, 51] (by decide +kernel) (by decide +kernel)
set_option maxRecDepth 20000 in
theorem gX3_useControl_X3_raise : GoodIn wsX3_useControl (wsV RX3 92 RX3 yX3_raise wsX3_raise) := goodIn_app (goodIn_of _ (by decide +kernel)) ggX3_useControl_X3_raise
set_option maxRecDepth 20000 in
theorem ggX3_useControl_X2_get : GoodIn wsX3_useControl wsX2_get := goodIn_r _ [22, 16, 51] (by decide +kernel) (by decide +kernel)
set_option maxRecDepth 20000 in
theorem gX3_useControl_X2_get_n77 : GoodIn wsX3_useControl (wsX2_get) := ggX3_useControl_X2_get
set_option maxRecDepth 20000 in
theorem ggX3_useControl_X3_valueA : GoodIn wsX3_useControl wsX3_valueA := goodIn_r _ [26, 27, 42, 43, 44, 45, 46, 47, 48, 49, 50] (by decide +kernel) (by decide +kernel)
set_option maxRecDepth 20000 in
theorem gX3_useControl_X3_valueA : GoodIn wsX3_useControl (wsV RX3 164 RX3 yX3_valueA wsX3_valueA) := goodIn_app (goodIn_of _ (by decide +kernel)) ggX3_useControl_X3_valueA
set_option maxRecDepth 20000 in
theorem ggX3_useControl_X2_write : GoodIn wsX3_useControl wsX2_write := goodIn_r _ [30, 31, 16, 32, 33, 51] (by decide +kernel) (by decide +kernel)
set_option maxRecDepth 20000 in
theorem gX3_useControl_X2_write_n171 : GoodIn wsX3_useControl (wsX2_write) := ggX3_useControl_X2_write
set_option maxRecDepth 20000 in
theorem ggX3_useControl_X3_valueB : GoodIn wsX3_useControl wsX3_valueB := goodIn_r _ [37, 27, 42, 43, 44, 45, 46, 47, 48, 49, 50] (by decide +kernel) (by decide +kernel)
set_option maxRecDepth 20000 in
theorem gX3_useControl_X3_valueB : GoodIn wsX3_useControl (wsV RX3 148 RX3 yX3_valueB wsX3_valueB) := goodIn_app (goodIn_of _ (by decide +kernel)) ggX3_useControl_X3_valueB
set_option maxRecDepth 20000 in
theorem ggX3_useControl_X3_setA : GoodIn wsX3_useControl wsX3_setA := goodIn_r _ [41, 27, 42, 43, 44, 45, 46, 47, 48, 49, 50] (by decide +kernel) (by decide +kernel)
set_option maxRecDepth 20000 in
theorem gX3_useControl_X3_setA : GoodIn wsX3_useControl (wsV RX3 145 RX3 yX3_setA wsX3_setA) := goodIn_app (goodIn_of _ (by decide +kernel)) ggX3_useControl_X3_setA
theorem dX3_useControl_0 : decode cX3_useControl 0 = .ok (.iload_n 2, 1) := by decide +kernel
theorem dX3_useControl_1 : decode cX3_useControl 1 = .ok (.invokestatic 161, 3) := by decide +kernel
theorem dX3_useControl_4 : decode cX3_useControl 4 = .ok (.istore_n 3, 1) := by decide +kernel
theorem dX3_useControl_5 : decode cX3_useControl 5 = .ok (.iload_n 3, 1) := by decide +kernel
theorem dX3_useControl_6 : decode cX3_useControl 6 = .ok (.bipush 17, 2) := by decide +kernel
theorem dX3_useControl_8 : decode cX3_useControl 8 = .ok (.if_icmp .le 10, 3) := by decide +kernel
theorem dX3_useControl_11 : decode cX3_useControl 11 = .ok (.aload_n 0, 1) := by decide +kernel
theorem dX3_useControl_12 : decode cX3_useControl 12 = .ok (.bipush 13, 2) := by decide +kernel
theorem dX3_useControl_14 : decode cX3_useControl 14 = .ok (.invokevirtual 92, 3) := by decide +kernel
theorem dX3_useControl_17 : decode cX3_useControl 17 = .ok (.return_, 1) := by decide +kernel
theorem dX3_useControl_18 : decode cX3_useControl 18 = .ok (.aload_n 0, 1) := by decide +kernel
theorem dX3_useControl_19 : decode cX3_useControl 19 = .ok (.getfield 19, 3) := by decide +kernel
theorem dX3_useControl_22 : decode cX3_useControl 22 = .ok (.iload_n 3, 1) := by decide +kernel
theorem dX3_useControl_23 : decode cX3_useControl 23 = .ok (.invokevirtual 77, 3) := by decide +kernel
theorem dX3_useControl_26 : decode cX3_useControl 26 = .ok (.istore 4, 2) := by decide +kernel
theorem dX3_useControl_28 : decode cX3_useControl 28 = .ok (.iload_n 1, 1) := by decide +kernel
theorem dX3_useControl_29 : decode cX3_useControl 29 = .ok (.bipush 19, 2) := by decide +kernel
theorem dX3_useControl_31 : decode cX3_useControl 31 = .ok (.if_icmp .ne 20, 3) := by decide +kernel
theorem dX3_useControl_34 : decode cX3_useControl 34 = .ok (.aload_n 0, 1) := by decide +kernel
theorem dX3_useControl_35 : decode cX3_useControl 35 = .ok (.getfield 19, 3) := by decide +kernel
theorem dX3_useControl_38 : decode cX3_useControl 38 = .ok (.iload_n 3, 1) := by decide +kernel
theorem dX3_useControl_39 : decode cX3_useControl 39 = .ok (.aload_n 0, 1) := by decide +kernel
theorem dX3_useControl_40 : decode cX3_useControl 40 = .ok (.iload_n 2, 1) := by decide +kernel
theorem dX3_useControl_41 : decode cX3_useControl 41 = .ok (.invokevirtual 164, 3) := by decide +kernel
theorem dX3_useControl_44 : decode cX3_useControl 44 = .ok (.iconst (-1), 1) := by decide +kernel
theorem dX3_useControl_45 : decode cX3_useControl 45 = .ok (.invokevirtual 171, 3) := by decide +kernel
theorem dX3_useControl_48 : decode cX3_useControl 48 = .ok (.goto 27, 3) := by decide +kernel
theorem dX3_useControl_51 : decode cX3_useControl 51 = .ok (.iload_n 1, 1) := by decide +kernel
theorem dX3_useControl_52 : decode cX3_useControl 52 = .ok (.bipush 20, 2) := by decide +kernel
theorem dX3_useControl_54 : decode cX3_useControl 54 = .ok (.if_icmp .ne 21, 3) := by decide +kernel
theorem dX3_useControl_57 : decode cX3_useControl 57 = .ok (.aload_n 0, 1) := by decide +kernel
theorem dX3_useControl_58 : decode cX3_useControl 58 = .ok (.getfield 19, 3) := by decide +kernel
theorem dX3_useControl_61 : decode cX3_useControl 61 = .ok (.iload_n 3, 1) := by decide +kernel
theorem dX3_useControl_62 : decode cX3_useControl 62 = .ok (.aload_n 0, 1) := by decide +kernel
theorem dX3_useControl_63 : decode cX3_useControl 63 = .ok (.iload_n 2, 1) := by decide +kernel
theorem dX3_useControl_64 : decode cX3_useControl 64 = .ok (.invokevirtual 164, 3) := by decide +kernel
theorem dX3_useControl_67 : decode cX3_useControl 67 = .ok (.aload_n 0, 1) := by decide +kernel
theorem dX3_useControl_68 : decode cX3_useControl 68 = .ok (.iload_n 2, 1) := by decide +kernel
theorem dX3_useControl_69 : decode cX3_useControl 69 = .ok (.invokevirtual 148, 3) := by decide +kernel
theorem dX3_useControl_72 : decode cX3_useControl 72 = .ok (.invokevirtual 171, 3) := by decide +kernel
theorem dX3_useControl_75 : decode cX3_useControl 75 = .ok (.aload_n 0, 1) := by decide +kernel
theorem dX3_useControl_76 : decode cX3_useControl 76 = .ok (.iload_n 2, 1) := by decide +kernel
theorem dX3_useControl_77 : decode cX3_useControl 77 = .ok (.iload 4, 2) := by decide +kernel
theorem dX3_useControl_79 : decode cX3_useControl 79 = .ok (.invokevirtual 145, 3) := by decide +kernel
theorem dX3_useControl_82 : decode cX3_useControl 82 = .ok (.aload_n 0, 1) := by decide +kernel
theorem dX3_useControl_83 : decode cX3_useControl 83 = .ok (.dup, 1) := by decide +kernel
theorem dX3_useControl_84 : decode cX3_useControl 84 = .ok (.getfield 54, 3) := by decide +kernel
theorem dX3_useControl_87 : decode cX3_useControl 87 = .ok (.iconst 4, 1) := by decide +kernel
theorem dX3_useControl_88 : decode cX3_useControl 88 = .ok (.iadd, 1) := by decide +kernel
theorem dX3_useControl_89 : decode cX3_useControl 89 = .ok (.putfield 54, 3) := by decide +kernel
theorem dX3_useControl_92 : decode cX3_useControl 92 = .ok (.return_, 1) := by decide +kernel
set_option maxRecDepth 20000 in
theorem ggX3_goBack_X2_leave : GoodIn wsX3_goBack wsX2_leave := goodIn_r _ [7, 8, 9, 10, 11, 5, 12, 25] (by decide +kernel) (by decide +kernel)
set_option maxRecDepth 20000 in
theorem gX3_goBack_X2_leave_n175 : GoodIn wsX3_goBack (wsX2_leave) := ggX3_goBack_X2_leave
set_option maxRecDepth 20000 in
theorem ggX3_goBack_X2_get : GoodIn wsX3_goBack wsX2_get := goodIn_r _ [15, 8, 25] (by decide +kernel) (by decide +kernel)
set_option maxRecDepth 20000 in
theorem gX3_goBack_X2_get_n77 : GoodIn wsX3_goBack (wsX2_get) := ggX3_goBack_X2_get
theorem dX3_goBack_0 : decode cX3_goBack 0 = .ok (.aload_n 0, 1) := by decide +kernel
theorem dX3_goBack_1 : decode cX3_goBack 1 = .ok (.getfield 19, 3) := by decide +kernel
theorem dX3_goBack_4 : decode cX3_goBack 4 = .ok (.invokevirtual 175, 3) := by decide +kernel
theorem dX3_goBack_7 : decode cX3_goBack 7 = .ok (.aload_n 0, 1) := by decide +kernel
theorem dX3_goBack_8 : decode cX3_goBack 8 = .ok (.aload_n 0, 1) := by decide +kernel
theorem dX3_goBack_9 : decode cX3_goBack 9 = .ok (.getfield 19, 3) := by decide +kernel
theorem dX3_goBack_12 : decode cX3_goBack 12 = .ok (.iconst 4, 1) := by decide +kernel
theorem dX3_goBack_13 : decode cX3_goBack 13 = .ok (.invokevirtual 77, 3) := by decide +kernel
theorem dX3_goBack_16 : decode cX3_goBack 16 = .ok (.putfield 54, 3) := by decide +kernel
theorem dX3_goBack_19 : decode cX3_goBack 19 = .ok (.aload_n 0, 1) := by decide +kernel
theorem dX3_goBack_20 : decode cX3_goBack 20 = .ok (.iconst 0, 1) := by decide +kernel
theorem dX3_goBack_21 : decode cX3_goBack 21 = .ok (.putfield 72, 3) := by decide +kernel
theorem dX3_goBack_24 : decode cX3_goBack 24 = .ok (.return_, 1) := by decide +kernel
set_option maxRecDepth 20000 in
theorem ggX3_useBuffer_X2_get : GoodIn wsX3_useBuffer wsX2_get := goodIn_r _ [7, 8, 60] (by decide +kernel) (by decide +kernel)
set_option maxRecDepth 20000 in
theorem gX3_useBuffer_X2_get_n77 : GoodIn wsX3_useBuffer (wsX2_get) := ggX3_useBuffer_X2_get
set_option maxRecDepth 20000 in
theorem ggX3_useBuffer_X3_searchEntry : GoodIn wsX3_useBuffer wsX3_searchEntry := goodIn_r _ [13, 1, 14, 4, 5, 6, 7, 8, 15, 16, 17, 18, 19, 20, 21, 22, 23, 24, 25, 26, 27, 51, 52, 53, 54, 55, 56, 57, 58, 59, 60, 61] (by decide +kernel) (by decide +kernel)
set_option maxRecDepth 20000 in
theorem gX3_useBuffer_X3_searchEntry : GoodIn wsX3_useBuffer (wsV RX3 178 RX3 yX3_searchEntry wsX3_searchEntry) := goodIn_app (goodIn_of _ (by decide +kernel)) ggX3_useBuffer_X3_searchEntry
set_option maxRecDepth 20000 in
theorem ggX3_useBuffer_X3_readEntry : GoodIn wsX3_useBuffer wsX3_readEntry := goodIn_r _ [31, 14, 1, 32, 16, 33, 34, 19, 20, 5, 21, 22, 8, 23, 24, 25, 26, 27, 51, 52, 53, 54, 55, 56, 57, 58, 59, 61, 60] (by decide +kernel) (by decide +kernel)
set_option maxRecDepth 20000 in
theorem gX3_useBuffer_X3_readEntry : GoodIn wsX3_useBuffer (wsV RX3 181 RX3 yX3_readEntry wsX3_readEntry) := goodIn_app (goodIn_of _ (by decide +kernel)) ggX3_useBuffer_X3_readEntry
set_option maxRecDepth 20000 in
theorem ggX3_useBuffer_X3_writeEntry : GoodIn wsX3_useBuffer wsX3_writeEntry := goodIn_r _ [38, 1, 14, 39, 5, 40, 41, 8, 24, 42, 43, 44, 4, 6, 7, 45, 16, 46, 47, 19, 48, 49, 50, 51, 52, 53, 54, 55, 56, 57, 58, 59, 60, 61] (by decide +kernel) (by decide +kernel)
set_option maxRecDepth 20000 in
theorem gX3_useBuffer_X3_writeEntry : GoodIn wsX3_useBuffer (wsV RX3 184 RX3 yX3_writeEntry wsX3_writeEntry) := goodIn_app (goodIn_of _ (by decide +kernel)) ggX3_useBuffer_X3_writeEntry
theorem dX3_useBuffer_0 : decode cX3_useBuffer 0 = .ok (.aload_n 0, 1) := by decide +kernel
theorem dX3_useBuffer_1 : decode cX3_useBuffer 1 = .ok (.getfield 19, 3) := by decide +kernel
theorem dX3_useBuffer_4 : decode cX3_useBuffer 4 = .ok (.bipush 7, 2) := by decide +kernel
theorem dX3_useBuffer_6 : decode cX3_useBuffer 6 = .ok (.invokevirtual 77, 3) := by decide +kernel
theorem dX3_useBuffer_9 : decode cX3_useBuffer 9 = .ok (.iconst 3, 1) := by decide +kernel
theorem dX3_useBuffer_10 : decode cX3_useBuffer 10 = .ok (.iand, 1) := by decide +kernel
theorem dX3_useBuffer_11 : decode cX3_useBuffer 11 = .ok (.istore_n 2, 1) := by decide +kernel
theorem dX3_useBuffer_12 : decode cX3_useBuffer 12 = .ok (.iload_n 1, 1) := by decide +kernel
theorem dX3_useBuffer_13 : decode cX3_useBuffer 13 = .ok (.bipush 21, 2) := by decide +kernel
theorem dX3_useBuffer_15 : decode cX3_useBuffer 15 = .ok (.if_icmp .ne 10, 3) := by decide +kernel
theorem dX3_useBuffer_18 : decode cX3_useBuffer 18 = .ok (.aload_n 0, 1) := by decide +kernel
theorem dX3_useBuffer_19 : decode cX3_useBuffer 19 = .ok (.invokevirtual 178, 3) := by decide +kernel
theorem dX3_useBuffer_22 : decode cX3_useBuffer 22 = .ok (.goto 51, 3) := by decide +kernel
theorem dX3_useBuffer_25 : decode cX3_useBuffer 25 = .ok (.iload_n 1, 1) := by decide +kernel
theorem dX3_useBuffer_26 : decode cX3_useBuffer 26 = .ok (.bipush 22, 2) := by decide +kernel
theorem dX3_useBuffer_28 : decode cX3_useBuffer 28 = .ok (.if_icmp .ne 11, 3) := by decide +kernel
theorem dX3_useBuffer_31 : decode cX3_useBuffer 31 = .ok (.aload_n 0, 1) := by decide +kernel
theorem dX3_useBuffer_32 : decode cX3_useBuffer 32 = .ok (.iload_n 2, 1) := by decide +kernel
theorem dX3_useBuffer_33 : decode cX3_useBuffer 33 = .ok (.invokevirtual 181, 3) := by decide +kernel
theorem dX3_useBuffer_36 : decode cX3_useBuffer 36 = .ok (.goto 37, 3) := by decide +kernel
theorem dX3_useBuffer_39 : decode cX3_useBuffer 39 = .ok (.iload_n 1, 1) := by decide +kernel
theorem dX3_useBuffer_40 : decode cX3_useBuffer 40 = .ok (.bipush 23, 2) := by decide +kernel
theorem dX3_useBuffer_42 : decode cX3_useBuffer 42 = .ok (.if_icmp .ne 11, 3) := by decide +kernel
theorem dX3_useBuffer_45 : decode cX3_useBuffer 45 = .ok (.aload_n 0, 1) := by decide +kernel
theorem dX3_useBuffer_46 : decode cX3_useBuffer 46 = .ok (.iload_n 2, 1) := by decide +kernel
theorem dX3_useBuffer_47 : decode cX3_useBuffer 47 = .ok (.invokevirtual 184, 3) := by decide +kernel
theorem dX3_useBuffer_50 : decode cX3_useBuffer 50 = .ok (.goto 23, 3) := by decide +kernel
theorem dX3_useBuffer_53 : decode cX3_useBuffer 53 = .ok (.aload_n 0, 1) := by decide +kernel
theorem dX3_useBuffer_54 : decode cX3_useBuffer 54 = .ok (.aload_n 0, 1) := by decide +kernel
theorem dX3_useBuffer_55 : decode cX3_useBuffer 55 = .ok (.getfield 51, 3) := by decide +kernel
theorem dX3_useBuffer_58 : decode cX3_useBuffer 58 = .ok (.invokevirtual 184, 3) := by decide +kernel
theorem dX3_useBuffer_61 : decode cX3_useBuffer 61 = .ok (.aload_n 0, 1) := by decide +kernel
theorem dX3_useBuffer_62 : decode cX3_useBuffer 62 = .ok (.aload_n 0, 1) := by decide +kernel
theorem dX3_useBuffer_63 : decode cX3_useBuffer 63 = .ok (.getfield 51, 3) := by decide +kernel
theorem dX3_useBuffer_66 : decode cX3_useBuffer 66 = .ok (.iconst 1, 1) := by decide +kernel
theorem dX3_useBuffer_67 : decode cX3_useBuffer 67 = .ok (.iadd, 1) := by decide +kernel
theorem dX3_useBuffer_68 : decode cX3_useBuffer 68 = .ok (.iconst 3, 1) := by decide +kernel
theorem dX3_useBuffer_69 : decode cX3_useBuffer 69 = .ok (.iand, 1) := by decide +kernel
theorem dX3_useBuffer_70 : decode cX3_useBuffer 70 = .ok (.putfield 51, 3) := by decide +kernel
theorem dX3_useBuffer_73 : decode cX3_useBuffer 73 = .ok (.aload_n 0, 1) := by decide +kernel
theorem dX3_useBuffer_74 : decode cX3_useBuffer 74 = .ok (.dup, 1) := by decide +kernel
theorem dX3_useBuffer_75 : decode cX3_useBuffer 75 = .ok (.getfield 54, 3) := by decide +kernel
theorem dX3_useBuffer_78 : decode cX3_useBuffer 78 = .ok (.iconst 4, 1) := by decide +kernel
theorem dX3_useBuffer_79 : decode cX3_useBuffer 79 = .ok (.iadd, 1) := by decide +kernel
theorem dX3_useBuffer_80 : decode cX3_useBuffer 80 = .ok (.putfield 54, 3) := by decide +kernel
theorem dX3_useBuffer_83 : decode cX3_useBuffer 83 = .ok (.return_, 1) := by decide +kernel
set_option maxRecDepth 20000 in
theorem ggX3_searchEntry_X2_get : GoodIn wsX3_searchEntry wsX2_get := goodIn_r _ [6, 7, 30] (by decide +kernel) (by decide +kernel)
set_option maxRecDepth 20000 in
theorem gX3_searchEntry_X2_get_n77 : GoodIn wsX3_searchEntry (wsX2_get) := ggX3_searchEntry_X2_get
set_option maxRecDepth 20000 in
theorem ggX3_searchEntry_X0_find : GoodIn wsX3_searchEntry wsX0_find := goodIn_r _ [11, 12, 31] (by decide +kernel) (by decide +kernel)
set_option maxRecDepth 20000 in
theorem gX3_searchEntry_X0_find_n187 : GoodIn wsX3_searchEntry (wsX0_find) := ggX3_searchEntry_X0_find
set_option maxRecDepth 20000 in
theorem ggX3_searchEntry_X2_setEmpty : GoodIn wsX3_searchEntry wsX2_setEmpty := goodIn_r _ [15, 7, 16, 17, 30] (by decide +kernel) (by decide +kernel)
set_option maxRecDepth 20000 in
theorem gX3_searchEntry_X2_setEmpty_n190 : GoodIn wsX3_searchEntry (wsX2_setEmpty) := ggX3_searchEntry_X2_setEmpty
set_option maxRecDepth 20000 in
theorem ggX3_searchEntry_X2_set : GoodIn wsX3_searchEntry wsX2_set := goodIn_r _ [20, 7, 30] (by decide +kernel) (by decide +kernel)
set_option maxRecDepth 20000 in
theorem gX3_searchEntry_X2_set_n194 : GoodIn wsX3_searchEntry (wsX2_set) := ggX3_searchEntry_X2_set
theorem dX3_searchEntry_0 : decode cX3_searchEntry 0 = .ok (.aload_n 0, 1) := by decide +kernel
theorem dX3_searchEntry_1 : decode cX3_searchEntry 1 = .ok (.getfield 19, 3) := by decide +kernel
theorem dX3_searchEntry_4 : decode cX3_searchEntry 4 = .ok (.bipush 8, 2) := by decide +kernel
theorem dX3_searchEntry_6 : decode cX3_searchEntry 6 = .ok (.invokevirtual 77, 3) := by decide +kernel
theorem dX3_searchEntry_9 : decode cX3_searchEntry 9 = .ok (.bipush 7, 2) := by decide +kernel
theorem dX3_searchEntry_11 : decode cX3_searchEntry 11 = .ok (.iushr, 1) := by decide +kernel
theorem dX3_searchEntry_12 : decode cX3_searchEntry 12 = .ok (.istore_n 1, 1) := by decide +kernel
theorem dX3_searchEntry_13 : decode cX3_searchEntry 13 = .ok (.aload_n 0, 1) := by decide +kernel
theorem dX3_searchEntry_14 : decode cX3_searchEntry 14 = .ok (.getfield 26, 3) := by decide +kernel
theorem dX3_searchEntry_17 : decode cX3_searchEntry 17 = .ok (.iload_n 1, 1) := by decide +kernel
theorem dX3_searchEntry_18 : decode cX3_searchEntry 18 = .ok (.aload_n 0, 1) := by decide +kernel
theorem dX3_searchEntry_19 : decode cX3_searchEntry 19 = .ok (.getfield 19, 3) := by decide +kernel
theorem dX3_searchEntry_22 : decode cX3_searchEntry 22 = .ok (.bipush 11, 2) := by decide +kernel
theorem dX3_searchEntry_24 : decode cX3_searchEntry 24 = .ok (.invokevirtual 77, 3) := by decide +kernel
theorem dX3_searchEntry_27 : decode cX3_searchEntry 27 = .ok (.iconst 0, 1) := by decide +kernel
theorem dX3_searchEntry_28 : decode cX3_searchEntry 28 = .ok (.invokevirtual 187, 3) := by decide +kernel
theorem dX3_searchEntry_31 : decode cX3_searchEntry 31 = .ok (.istore_n 2, 1) := by decide +kernel
theorem dX3_searchEntry_32 : decode cX3_searchEntry 32 = .ok (.iload_n 2, 1) := by decide +kernel
theorem dX3_searchEntry_33 : decode cX3_searchEntry 33 = .ok (.ifCond .ge 14, 3) := by decide +kernel
theorem dX3_searchEntry_36 : decode cX3_searchEntry 36 = .ok (.aload_n 0, 1) := by decide +kernel
theorem dX3_searchEntry_37 : decode cX3_searchEntry 37 = .ok (.getfield 19, 3) := by decide +kernel
theorem dX3_searchEntry_40 : decode cX3_searchEntry 40 = .ok (.iconst 1, 1) := by decide +kernel
theorem dX3_searchEntry_41 : decode cX3_searchEntry 41 = .ok (.invokevirtual 190, 3) := by decide +kernel
theorem dX3_searchEntry_44 : decode cX3_searchEntry 44 = .ok (.goto 13, 3) := by decide +kernel
theorem dX3_searchEntry_47 : decode cX3_searchEntry 47 = .ok (.aload_n 0, 1) := by decide +kernel
theorem dX3_searchEntry_48 : decode cX3_searchEntry 48 = .ok (.getfield 19, 3) := by decide +kernel
theorem dX3_searchEntry_51 : decode cX3_searchEntry 51 = .ok (.bipush 7, 2) := by decide +kernel
theorem dX3_searchEntry_53 : decode cX3_searchEntry 53 = .ok (.iload_n 2, 1) := by decide +kernel
theorem dX3_searchEntry_54 : decode cX3_searchEntry 54 = .ok (.invokevirtual 194, 3) := by decide +kernel
theorem dX3_searchEntry_57 : decode cX3_searchEntry 57 = .ok (.return_, 1) := by decide +kernel
set_option maxRecDepth 20000 in
theorem ggX3_readEntry_X0_get : GoodIn wsX3_readEntry wsX0_get := goodIn_r _ [6, 7, 27] (by decide +kernel) (by decide +kernel)
set_option maxRecDepth 20000 in
theorem gX3_readEntry_X0_get_n83 : GoodIn wsX3_readEntry (wsX0_get) := ggX3_readEntry_X0_get
set_option maxRecDepth 20000 in
theorem ggX3_readEntry_X2_setEmpty : GoodIn wsX3_readEntry wsX2_setEmpty := goodIn_r _ [11, 12, 13, 14, 28] (by decide +kernel) (by decide +kernel)
set_option maxRecDepth 20000 in
theorem gX3_readEntry_X2_setEmpty_n190 : GoodIn wsX3_readEntry (wsX2_setEmpty) := ggX3_readEntry_X2_setEmpty
set_option maxRecDepth 20000 in
theorem ggX3_readEntry_X2_set : GoodIn wsX3_readEntry wsX2_set := goodIn_r _ [17, 12, 28] (by decide +kernel) (by decide +kernel)
set_option maxRecDepth 20000 in
theorem gX3_readEntry_X2_set_n194 : GoodIn wsX3_readEntry (wsX2_set) := ggX3_readEntry_X2_set
theorem dX3_readEntry_0 : decode cX3_readEntry 0 = .ok (.aload_n 0, 1) := by decide +kernel
theorem dX3_readEntry_1 : decode cX3_readEntry 1 = .ok (.getfield 26, 3) := by decide +kernel
theorem dX3_readEntry_4 : decode cX3_readEntry 4 = .ok (.iload_n 1, 1) := by decide +kernel
theorem dX3_readEntry_5 : decode cX3_readEntry 5 = .ok (.iconst 0, 1) := by decide +kernel
theorem dX3_readEntry_6 : decode cX3_readEntry 6 = .ok (.invokevirtual 83, 3) := by decide +kernel
theorem dX3_readEntry_9 : decode cX3_readEntry 9 = .ok (.iconst 1, 1) := by decide +kernel
theorem dX3_readEntry_10 : decode cX3_readEntry 10 = .ok (.if_icmp .ne 7, 3) := by decide +kernel
theorem dX3_readEntry_13 : decode cX3_readEntry 13 = .ok (.iconst 1, 1) := by decide +kernel
theorem dX3_readEntry_14 : decode cX3_readEntry 14 = .ok (.goto 4, 3) := by decide +kernel
theorem dX3_readEntry_17 : decode cX3_readEntry 17 = .ok (.iconst 0, 1) := by decide +kernel
theorem dX3_readEntry_18 : decode cX3_readEntry 18 = .ok (.istore_n 2, 1) := by decide +kernel
theorem dX3_readEntry_19 : decode cX3_readEntry 19 = .ok (.aload_n 0, 1) := by decide +kernel
theorem dX3_readEntry_20 : decode cX3_readEntry 20 = .ok (.getfield 19, 3) := by decide +kernel
theorem dX3_readEntry_23 : decode cX3_readEntry 23 = .ok (.iload_n 2, 1) := by decide +kernel
theorem dX3_readEntry_24 : decode cX3_readEntry 24 = .ok (.ifCond .ne 7, 3) := by decide +kernel
theorem dX3_readEntry_27 : decode cX3_readEntry 27 = .ok (.iconst 1, 1) := by decide +kernel
theorem dX3_readEntry_28 : decode cX3_readEntry 28 = .ok (.goto 4, 3) := by decide +kernel
theorem dX3_readEntry_31 : decode cX3_readEntry 31 = .ok (.iconst 0, 1) := by decide +kernel
theorem dX3_readEntry_32 : decode cX3_readEntry 32 = .ok (.invokevirtual 190, 3) := by decide +kernel
theorem dX3_readEntry_35 : decode cX3_readEntry 35 = .ok (.iload_n 2, 1) := by decide +kernel
theorem dX3_readEntry_36 : decode cX3_readEntry 36 = .ok (.ifCond .ne 34, 3) := by decide +kernel
theorem dX3_readEntry_39 : decode cX3_readEntry 39 = .ok (.aload_n 0, 1) := by decide +kernel
theorem dX3_readEntry_40 : decode cX3_readEntry 40 = .ok (.getfield 19, 3) := by decide +kernel
theorem dX3_readEntry_43 : decode cX3_readEntry 43 = .ok (.bipush 8, 2) := by decide +kernel
theorem dX3_readEntry_45 : decode cX3_readEntry 45 = .ok (.iconst 0, 1) := by decide +kernel
theorem dX3_readEntry_46 : decode cX3_readEntry 46 = .ok (.invokevirtual 194, 3) := by decide +kernel
theorem dX3_readEntry_49 : decode cX3_readEntry 49 = .ok (.aload_n 0, 1) := by decide +kernel
theorem dX3_readEntry_50 : decode cX3_readEntry 50 = .ok (.getfield 19, 3) := by decide +kernel
theorem dX3_readEntry_53 : decode cX3_readEntry 53 = .ok (.bipush 9, 2) := by decide +kernel
theorem dX3_readEntry_55 : decode cX3_readEntry 55 = .ok (.iconst 0, 1) := by decide +kernel
theorem dX3_readEntry_56 : decode cX3_readEntry 56 = .ok (.invokevirtual 194, 3) := by decide +kernel
theorem dX3_readEntry_59 : decode cX3_readEntry 59 = .ok (.aload_n 0, 1) := by decide +kernel
theorem dX3_readEntry_60 : decode cX3_readEntry 60 = .ok (.getfield 19, 3) := by decide +kernel
theorem dX3_readEntry_63 : decode cX3_readEntry 63 = .ok (.bipush 10, 2) := by decide +kernel
theorem dX3_readEntry_65 : decode cX3_readEntry 65 = .ok (.iconst 0, 1) := by decide +kernel
theorem dX3_readEntry_66 : decode cX3_readEntry 66 = .ok (.invokevirtual 194, 3) := by decide +kernel
theorem dX3_readEntry_69 : decode cX3_readEntry 69 = .ok (.return_, 1) := by decide +kernel
theorem dX3_readEntry_70 : decode cX3_readEntry 70 = .ok (.aload_n 0, 1) := by decide +kernel
theorem dX3_readEntry_71 : decode cX3_readEntry 71 = .ok (.getfield 26, 3) := by decide +kernel
theorem dX3_readEntry_74 : decode cX3_readEntry 74 = .ok (.iload_n 1, 1) := by decide +kernel
theorem dX3_readEntry_75 : decode cX3_readEntry 75 = .ok (.iconst 3, 1) := by decide +kernel
theorem dX3_readEntry_76 : decode cX3_readEntry 76 = .ok (.invokevirtual 83, 3) := by decide +kernel
theorem dX3_readEntry_79 : decode cX3_readEntry 79 = .ok (.iconst 1, 1) := by decide +kernel
theorem dX3_readEntry_80 : decode cX3_readEntry 80 = .ok (.if_icmp .ne 8, 3) := by decide +kernel
theorem dX3_readEntry_83 : decode cX3_readEntry 83 = .ok (.bipush 16, 2) := by decide +kernel
theorem dX3_readEntry_85 : decode cX3_readEntry 85 = .ok (.goto 4, 3) := by decide +kernel
theorem dX3_readEntry_88 : decode cX3_readEntry 88 = .ok (.iconst 0, 1) := by decide +kernel
theorem dX3_readEntry_89 : decode cX3_readEntry 89 = .ok (.istore_n 3, 1) := by decide +kernel
theorem dX3_readEntry_90 : decode cX3_readEntry 90 = .ok (.aload_n 0, 1) := by decide +kernel
theorem dX3_readEntry_91 : decode cX3_readEntry 91 = .ok (.getfield 19, 3) := by decide +kernel
theorem dX3_readEntry_94 : decode cX3_readEntry 94 = .ok (.bipush 8, 2) := by decide +kernel
theorem dX3_readEntry_96 : decode cX3_readEntry 96 = .ok (.aload_n 0, 1) := by decide +kernel
theorem dX3_readEntry_97 : decode cX3_readEntry 97 = .ok (.getfield 26, 3) := by decide +kernel
theorem dX3_readEntry_100 : decode cX3_readEntry 100 = .ok (.iload_n 1, 1) := by decide +kernel
theorem dX3_readEntry_101 : decode cX3_readEntry 101 = .ok (.iconst 1, 1) := by decide +kernel
theorem dX3_readEntry_102 : decode cX3_readEntry 102 = .ok (.invokevirtual 83, 3) := by decide +kernel
theorem dX3_readEntry_105 : decode cX3_readEntry 105 = .ok (.bipush 7, 2) := by decide +kernel
theorem dX3_readEntry_107 : decode cX3_readEntry 107 = .ok (.ishl, 1) := by decide +kernel
theorem dX3_readEntry_108 : decode cX3_readEntry 108 = .ok (.invokevirtual 194, 3) := by decide +kernel
theorem dX3_readEntry_111 : decode cX3_readEntry 111 = .ok (.aload_n 0, 1) := by decide +kernel
theorem dX3_readEntry_112 : decode cX3_readEntry 112 = .ok (.getfield 19, 3) := by decide +kernel
theorem dX3_readEntry_115 : decode cX3_readEntry 115 = .ok (.bipush 9, 2) := by decide +kernel
theorem dX3_readEntry_117 : decode cX3_readEntry 117 = .ok (.aload_n 0, 1) := by decide +kernel
theorem dX3_readEntry_118 : decode cX3_readEntry 118 = .ok (.getfield 26, 3) := by decide +kernel
theorem dX3_readEntry_121 : decode cX3_readEntry 121 = .ok (.iload_n 1, 1) := by decide +kernel
theorem dX3_readEntry_122 : decode cX3_readEntry 122 = .ok (.iconst 4, 1) := by decide +kernel
theorem dX3_readEntry_123 : decode cX3_readEntry 123 = .ok (.invokevirtual 83, 3) := by decide +kernel
theorem dX3_readEntry_126 : decode cX3_readEntry 126 = .ok (.iload_n 3, 1) := by decide +kernel
theorem dX3_readEntry_127 : decode cX3_readEntry 127 = .ok (.ior, 1) := by decide +kernel
theorem dX3_readEntry_128 : decode cX3_readEntry 128 = .ok (.invokevirtual 194, 3) := by decide +kernel
theorem dX3_readEntry_131 : decode cX3_readEntry 131 = .ok (.aload_n 0, 1) := by decide +kernel
theorem dX3_readEntry_132 : decode cX3_readEntry 132 = .ok (.getfield 19, 3) := by decide +kernel
theorem dX3_readEntry_135 : decode cX3_readEntry 135 = .ok (.bipush 10, 2) := by decide +kernel
theorem dX3_readEntry_137 : decode cX3_readEntry 137 = .ok (.aload_n 0, 1) := by decide +kernel
theorem dX3_readEntry_138 : decode cX3_readEntry 138 = .ok (.getfield 26, 3) := by decide +kernel
theorem dX3_readEntry_141 : decode cX3_readEntry 141 = .ok (.iload_n 1, 1) := by decide +kernel
theorem dX3_readEntry_142 : decode cX3_readEntry 142 = .ok (.iconst 5, 1) := by decide +kernel
theorem dX3_readEntry_143 : decode cX3_readEntry 143 = .ok (.invokevirtual 83, 3) := by decide +kernel
theorem dX3_readEntry_146 : decode cX3_readEntry 146 = .ok (.iload_n 3, 1) := by decide +kernel
theorem dX3_readEntry_147 : decode cX3_readEntry 147 = .ok (.ior, 1) := by decide +kernel
theorem dX3_readEntry_148 : decode cX3_readEntry 148 = .ok (.invokevirtual 194, 3) := by decide +kernel
theorem dX3_readEntry_151 : decode cX3_readEntry 151 = .ok (.aload_n 0, 1) := by decide +kernel
theorem dX3_readEntry_152 : decode cX3_readEntry 152 = .ok (.getfield 19, 3) := by decide +kernel
theorem dX3_readEntry_155 : decode cX3_readEntry 155 = .ok (.bipush 11, 2) := by decide +kernel
theorem dX3_readEntry_157 : decode cX3_readEntry 157 = .ok (.aload_n 0, 1) := by decide +kernel
theorem dX3_readEntry_158 : decode cX3_readEntry 158 = .ok (.getfield 26, 3) := by decide +kernel
theorem dX3_readEntry_161 : decode cX3_readEntry 161 = .ok (.iload_n 1, 1) := by decide +kernel
theorem dX3_readEntry_162 : decode cX3_readEntry 162 = .ok (.iconst 2, 1) := by decide +kernel
theorem dX3_readEntry_163 : decode cX3_readEntry 163 = .ok (.invokevirtual 83, 3) := by decide +kernel
theorem dX3_readEntry_166 : decode cX3_readEntry 166 = .ok (.invokevirtual 194, 3) := by decide +kernel
theorem dX3_readEntry_169 : decode cX3_readEntry 169 = .ok (.return_, 1) := by decide +kernel
set_option maxRecDepth 20000 in
theorem ggX3_writeEntry_X2_isEmpty : GoodIn wsX3_writeEntry wsX2_isEmpty := goodIn_r _ [6, 7, 8, 32] (by decide +kernel) (by decide +kernel)
set_option maxRecDepth 20000 in
theorem gX3_writeEntry_X2_isEmpty_n197 : GoodIn wsX3_writeEntry (wsX2_isEmpty) := ggX3_writeEntry_X2_isEmpty
set_option maxRecDepth 20000 in
theorem ggX3_writeEntry_X2_code : GoodIn wsX3_writeEntry wsX2_code := goodIn_r _ [11, 7, 32] (by decide +kernel) (by decide +kernel)
set_option maxRecDepth 20000 in
theorem gX3_writeEntry_X2_code_n200 : GoodIn wsX3_writeEntry (wsX2_code) := ggX3_writeEntry_X2_code
set_option maxRecDepth 20000 in
theorem ggX3_writeEntry_X2_get : GoodIn wsX3_writeEntry wsX2_get := goodIn_r _ [14, 7, 32] (by decide +kernel) (by decide +kernel)
set_option maxRecDepth 20000 in
theorem gX3_writeEntry_X2_get_n77 : GoodIn wsX3_writeEntry (wsX2_get) := ggX3_writeEntry_X2_get
set_option maxRecDepth 20000 in
theorem ggX3_writeEntry_X0_set : GoodIn wsX3_writeEntry wsX0_set := goodIn_r _ [18, 19, 33] (by decide +kernel) (by decide +kernel)
set_option maxRecDepth 20000 in
theorem gX3_writeEntry_X0_set_n203 : GoodIn wsX3_writeEntry (wsX0_set) := ggX3_writeEntry_X0_set
set_option maxRecDepth 20000 in
theorem ggX3_writeEntry_X0_setHalves : GoodIn wsX3_writeEntry wsX0_setHalves := goodIn_r _ [22, 19, 33] (by decide +kernel) (by decide +kernel)
set_option maxRecDepth 20000 in
theorem gX3_writeEntry_X0_setHalves_n206 : GoodIn wsX3_writeEntry (wsX0_setHalves) := ggX3_writeEntry_X0_setHalves
theorem dX3_writeEntry_0 : decode cX3_writeEntry 0 = .ok (.aload_n 0, 1) := by decide +kernel
theorem dX3_writeEntry_1 : decode cX3_writeEntry 1 = .ok (.getfield 19, 3) := by decide +kernel
theorem dX3_writeEntry_4 : decode cX3_writeEntry 4 = .ok (.invokevirtual 197, 3) := by decide +kernel
theorem dX3_writeEntry_7 : decode cX3_writeEntry 7 = .ok (.ifCond .eq 15, 3) := by decide +kernel
theorem dX3_writeEntry_10 : decode cX3_writeEntry 10 = .ok (.aload_n 0, 1) := by decide +kernel
theorem dX3_writeEntry_11 : decode cX3_writeEntry 11 = .ok (.getfield 19, 3) := by decide +kernel
theorem dX3_writeEntry_14 : decode cX3_writeEntry 14 = .ok (.invokevirtual 200, 3) := by decide +kernel
theorem dX3_writeEntry_17 : decode cX3_writeEntry 17 = .ok (.bipush 63, 2) := by decide +kernel
theorem dX3_writeEntry_19 : decode cX3_writeEntry 19 = .ok (.if_icmp .ne 7, 3) := by decide +kernel
theorem dX3_writeEntry_22 : decode cX3_writeEntry 22 = .ok (.iconst 1, 1) := by decide +kernel
theorem dX3_writeEntry_23 : decode cX3_writeEntry 23 = .ok (.goto 4, 3) := by decide +kernel
theorem dX3_writeEntry_26 : decode cX3_writeEntry 26 = .ok (.iconst 0, 1) := by decide +kernel
theorem dX3_writeEntry_27 : decode cX3_writeEntry 27 = .ok (.istore_n 2, 1) := by decide +kernel
theorem dX3_writeEntry_28 : decode cX3_writeEntry 28 = .ok (.aload_n 0, 1) := by decide +kernel
theorem dX3_writeEntry_29 : decode cX3_writeEntry 29 = .ok (.getfield 26, 3) := by decide +kernel
theorem dX3_writeEntry_32 : decode cX3_writeEntry 32 = .ok (.iload_n 1, 1) := by decide +kernel
theorem dX3_writeEntry_33 : decode cX3_writeEntry 33 = .ok (.iload_n 2, 1) := by decide +kernel
theorem dX3_writeEntry_34 : decode cX3_writeEntry 34 = .ok (.aload_n 0, 1) := by decide +kernel
theorem dX3_writeEntry_35 : decode cX3_writeEntry 35 = .ok (.getfield 19, 3) := by decide +kernel
theorem dX3_writeEntry_38 : decode cX3_writeEntry 38 = .ok (.bipush 8, 2) := by decide +kernel
theorem dX3_writeEntry_40 : decode cX3_writeEntry 40 = .ok (.invokevirtual 77, 3) := by decide +kernel
theorem dX3_writeEntry_43 : decode cX3_writeEntry 43 = .ok (.bipush 7, 2) := by decide +kernel
theorem dX3_writeEntry_45 : decode cX3_writeEntry 45 = .ok (.iushr, 1) := by decide +kernel
theorem dX3_writeEntry_46 : decode cX3_writeEntry 46 = .ok (.aload_n 0, 1) := by decide +kernel
theorem dX3_writeEntry_47 : decode cX3_writeEntry 47 = .ok (.getfield 19, 3) := by decide +kernel
theorem dX3_writeEntry_50 : decode cX3_writeEntry 50 = .ok (.bipush 11, 2) := by decide +kernel
theorem dX3_writeEntry_52 : decode cX3_writeEntry 52 = .ok (.invokevirtual 77, 3) := by decide +kernel
theorem dX3_writeEntry_55 : decode cX3_writeEntry 55 = .ok (.invokevirtual 203, 3) := by decide +kernel
theorem dX3_writeEntry_58 : decode cX3_writeEntry 58 = .ok (.aload_n 0, 1) := by decide +kernel
theorem dX3_writeEntry_59 : decode cX3_writeEntry 59 = .ok (.getfield 26, 3) := by decide +kernel
theorem dX3_writeEntry_62 : decode cX3_writeEntry 62 = .ok (.iload_n 1, 1) := by decide +kernel
theorem dX3_writeEntry_63 : decode cX3_writeEntry 63 = .ok (.aload_n 0, 1) := by decide +kernel
theorem dX3_writeEntry_64 : decode cX3_writeEntry 64 = .ok (.getfield 19, 3) := by decide +kernel
theorem dX3_writeEntry_67 : decode cX3_writeEntry 67 = .ok (.bipush 9, 2) := by decide +kernel
theorem dX3_writeEntry_69 : decode cX3_writeEntry 69 = .ok (.invokevirtual 77, 3) := by decide +kernel
theorem dX3_writeEntry_72 : decode cX3_writeEntry 72 = .ok (.aload_n 0, 1) := by decide +kernel
theorem dX3_writeEntry_73 : decode cX3_writeEntry 73 = .ok (.getfield 19, 3) := by decide +kernel
theorem dX3_writeEntry_76 : decode cX3_writeEntry 76 = .ok (.bipush 10, 2) := by decide +kernel
theorem dX3_writeEntry_78 : decode cX3_writeEntry 78 = .ok (.invokevirtual 77, 3) := by decide +kernel
theorem dX3_writeEntry_81 : decode cX3_writeEntry 81 = .ok (.invokevirtual 206, 3) := by decide +kernel
theorem dX3_writeEntry_84 : decode cX3_writeEntry 84 = .ok (.return_, 1) := by decide +kernel
set_option maxRecDepth 20000 in
theorem ggX3_emptyEntries_X3_byteC : GoodIn wsX3_emptyEntries wsX3_byteC := goodIn_r _ [6] (by decide +kernel) (by decide +kernel)
set_option maxRecDepth 20000 in
theorem gX3_emptyEntries_X3_byteC : GoodIn wsX3_emptyEntries (va_wsS RX3 161 yX3_byteC wsX3_byteC) := goodIn_app (goodIn_of _ (by decide +kernel)) ggX3_emptyEntries_X3_byteC
set_option maxRecDepth 20000 in
theorem ggX3_emptyEntries_X3_raise : GoodIn wsX3_emptyEntries wsX3_raise := goodIn_r _ [10, 11, 2, 12, 13, 14, 15, 16, 17, 18, 19, 20, 21, 22, 23, 42, 43, 44, 45, 46, 47, 48, 49, 50, 51] (by decide +kernel) (by decide +kernel)
set_option maxRecDepth 20000 in
theorem gX3_emptyEntries_X3_raise : GoodIn wsX3_emptyEntries (wsV RX3 92 RX3 yX3_raise wsX3_raise) := goodIn_app (goodIn_of _ (by decide +kernel)) ggX3_emptyEntries_X3_raise
set_option maxRecDepth 20000 in
theorem ggX3_emptyEntries_X3_valueA : GoodIn wsX3_emptyEntries wsX3_valueA := goodIn_r _ [27, 28, 42, 43, 44, 45, 46, 47, 48, 49, 50] (by decide +kernel) (by decide +kernel)
set_option maxRecDepth 20000 in
theorem gX3_emptyEntries_X3_valueA : GoodIn wsX3_emptyEntries (wsV RX3 164 RX3 yX3_valueA wsX3_valueA) := goodIn_app (goodIn_of _ (by decide +kernel)) ggX3_emptyEntries_X3_valueA
set_option maxRecDepth 20000 in
theorem ggX3_emptyEntries_X3_valueB : GoodIn wsX3_emptyEntries wsX3_valueB := goodIn_r _ [32, 28, 42, 43, 44, 45, 46, 47, 48, 49, 50] (by decide +kernel) (by decide +kernel)
set_option maxRecDepth 20000 in
theorem gX3_emptyEntries_X3_valueB : GoodIn wsX3_emptyEntries (wsV RX3 148 RX3 yX3_valueB wsX3_valueB) := goodIn_app (goodIn_of _ (by decide +kernel)) ggX3_emptyEntries_X3_valueB
set_option maxRecDepth 20000 in
theorem ggX3_emptyEntries_X0_empty : GoodIn wsX3_emptyEntries wsX0_empty := goodIn_r _ [36, 37, 38, 39, 40, 34, 41, 52] (by decide +kernel) (by decide +kernel)
set_option maxRecDepth 20000 in
theorem gX3_emptyEntries_X0_empty_n209 : GoodIn wsX3_emptyEntries (wsX0_empty) := ggX3_emptyEntries_X0_empty
theorem dX3_emptyEntries_0 : decode cX3_emptyEntries 0 = .ok (.iload_n 1, 1) := by decide +kernel
theorem dX3_emptyEntries_1 : decode cX3_emptyEntries 1 = .ok (.invokestatic 161, 3) := by decide +kernel
theorem dX3_emptyEntries_4 : decode cX3_emptyEntries 4 = .ok (.istore_n 2, 1) := by decide +kernel
theorem dX3_emptyEntries_5 : decode cX3_emptyEntries 5 = .ok (.iload_n 2, 1) := by decide +kernel
theorem dX3_emptyEntries_6 : decode cX3_emptyEntries 6 = .ok (.iconst 4, 1) := by decide +kernel
theorem dX3_emptyEntries_7 : decode cX3_emptyEntries 7 = .ok (.if_icmp .le 10, 3) := by decide +kernel
theorem dX3_emptyEntries_10 : decode cX3_emptyEntries 10 = .ok (.aload_n 0, 1) := by decide +kernel
theorem dX3_emptyEntries_11 : decode cX3_emptyEntries 11 = .ok (.bipush 13, 2) := by decide +kernel
theorem dX3_emptyEntries_13 : decode cX3_emptyEntries 13 = .ok (.invokevirtual 92, 3) := by decide +kernel
theorem dX3_emptyEntries_16 : decode cX3_emptyEntries 16 = .ok (.return_, 1) := by decide +kernel
theorem dX3_emptyEntries_17 : decode cX3_emptyEntries 17 = .ok (.aload_n 0, 1) := by decide +kernel
theorem dX3_emptyEntries_18 : decode cX3_emptyEntries 18 = .ok (.getfield 26, 3) := by decide +kernel
theorem dX3_emptyEntries_21 : decode cX3_emptyEntries 21 = .ok (.iload_n 2, 1) := by decide +kernel
theorem dX3_emptyEntries_22 : decode cX3_emptyEntries 22 = .ok (.aload_n 0, 1) := by decide +kernel
theorem dX3_emptyEntries_23 : decode cX3_emptyEntries 23 = .ok (.iload_n 1, 1) := by decide +kernel
theorem dX3_emptyEntries_24 : decode cX3_emptyEntries 24 = .ok (.invokevirtual 164, 3) := by decide +kernel
theorem dX3_emptyEntries_27 : decode cX3_emptyEntries 27 = .ok (.bipush 15, 2) := by decide +kernel
theorem dX3_emptyEntries_29 : decode cX3_emptyEntries 29 = .ok (.iand, 1) := by decide +kernel
theorem dX3_emptyEntries_30 : decode cX3_emptyEntries 30 = .ok (.aload_n 0, 1) := by decide +kernel
theorem dX3_emptyEntries_31 : decode cX3_emptyEntries 31 = .ok (.iload_n 1, 1) := by decide +kernel
theorem dX3_emptyEntries_32 : decode cX3_emptyEntries 32 = .ok (.invokevirtual 148, 3) := by decide +kernel
theorem dX3_emptyEntries_35 : decode cX3_emptyEntries 35 = .ok (.bipush 7, 2) := by decide +kernel
theorem dX3_emptyEntries_37 : decode cX3_emptyEntries 37 = .ok (.iushr, 1) := by decide +kernel
theorem dX3_emptyEntries_38 : decode cX3_emptyEntries 38 = .ok (.invokevirtual 209, 3) := by decide +kernel
theorem dX3_emptyEntries_41 : decode cX3_emptyEntries 41 = .ok (.aload_n 0, 1) := by decide +kernel
theorem dX3_emptyEntries_42 : decode cX3_emptyEntries 42 = .ok (.dup, 1) := by decide +kernel
theorem dX3_emptyEntries_43 : decode cX3_emptyEntries 43 = .ok (.getfield 54, 3) := by decide +kernel
theorem dX3_emptyEntries_46 : decode cX3_emptyEntries 46 = .ok (.iconst 4, 1) := by decide +kernel
theorem dX3_emptyEntries_47 : decode cX3_emptyEntries 47 = .ok (.iadd, 1) := by decide +kernel
theorem dX3_emptyEntries_48 : decode cX3_emptyEntries 48 = .ok (.putfield 54, 3) := by decide +kernel
theorem dX3_emptyEntries_51 : decode cX3_emptyEntries 51 = .ok (.return_, 1) := by decide +kernel
set_option maxRecDepth 20000 in
theorem ggX3_find_X2_isDirect : GoodIn wsX3_find wsX2_isDirect := goodIn_r _ [6, 7, 43] (by decide +kernel) (by decide +kernel)
set_option maxRecDepth 20000 in
theorem gX3_find_X2_isDirect_n212 : GoodIn wsX3_find (wsX2_isDirect) := ggX3_find_X2_isDirect
set_option maxRecDepth 20000 in
theorem ggX3_find_X2_isInWindow : GoodIn wsX3_find wsX2_isInWindow := goodIn_r _ [10, 7, 43] (by decide +kernel) (by decide +kernel)
set_option maxRecDepth 20000 in
theorem gX3_find_X2_isInWindow_n215 : GoodIn wsX3_find (wsX2_isInWindow) := ggX3_find_X2_isInWindow
set_option maxRecDepth 20000 in
theorem ggX3_find_X3_findMapped : GoodIn wsX3_find wsX3_findMapped := goodIn_r _ [15, 1, 16, 17, 4, 18, 19, 7, 20, 21, 22, 23, 24, 25, 26, 27, 28, 29, 30, 34, 35, 36, 37, 38, 39, 40, 41, 42, 43, 44] (by decide +kernel) (by decide +kernel)
set_option maxRecDepth 20000 in
theorem gX3_find_X3_findMapped : GoodIn wsX3_find (wsV RX3 218 RX3 yX3_findMapped wsX3_findMapped) := goodIn_app (goodIn_of _ (by decide +kernel)) ggX3_find_X3_findMapped
set_option maxRecDepth 20000 in
theorem ggX3_find_X3_isInMemory : GoodIn wsX3_find wsX3_isInMemory := goodIn_r _ [33] (by decide +kernel) (by decide +kernel)
set_option maxRecDepth 20000 in
theorem gX3_find_X3_isInMemory : GoodIn wsX3_find (va_wsS RX3 34 yX3_isInMemory wsX3_isInMemory) := goodIn_app (goodIn_of _ (by decide +kernel)) ggX3_find_X3_isInMemory
theorem dX3_find_0 : decode cX3_find 0 = .ok (.iload_n 1, 1) := by decide +kernel
theorem dX3_find_1 : decode cX3_find 1 = .ok (.iconst 3, 1) := by decide +kernel
theorem dX3_find_2 : decode cX3_find 2 = .ok (.iand, 1) := by decide +kernel
theorem dX3_find_3 : decode cX3_find 3 = .ok (.ifCond .eq 15, 3) := by decide +kernel
theorem dX3_find_6 : decode cX3_find 6 = .ok (.iload_n 2, 1) := by decide +kernel
theorem dX3_find_7 : decode cX3_find 7 = .ok (.ifCond .ne 8, 3) := by decide +kernel
theorem dX3_find_10 : decode cX3_find 10 = .ok (.bipush (-8), 2) := by decide +kernel
theorem dX3_find_12 : decode cX3_find 12 = .ok (.goto 5, 3) := by decide +kernel
theorem dX3_find_15 : decode cX3_find 15 = .ok (.bipush (-9), 2) := by decide +kernel
theorem dX3_find_17 : decode cX3_find 17 = .ok (.ireturn, 1) := by decide +kernel
theorem dX3_find_18 : decode cX3_find 18 = .ok (.iload_n 1, 1) := by decide +kernel
theorem dX3_find_19 : decode cX3_find 19 = .ok (.istore_n 3, 1) := by decide +kernel
theorem dX3_find_20 : decode cX3_find 20 = .ok (.aload_n 0, 1) := by decide +kernel
theorem dX3_find_21 : decode cX3_find 21 = .ok (.getfield 19, 3) := by decide +kernel
theorem dX3_find_24 : decode cX3_find 24 = .ok (.invokevirtual 212, 3) := by decide +kernel
theorem dX3_find_27 : decode cX3_find 27 = .ok (.ifCond .ne 26, 3) := by decide +kernel
theorem dX3_find_30 : decode cX3_find 30 = .ok (.aload_n 0, 1) := by decide +kernel
theorem dX3_find_31 : decode cX3_find 31 = .ok (.getfield 19, 3) := by decide +kernel
theorem dX3_find_34 : decode cX3_find 34 = .ok (.iload_n 1, 1) := by decide +kernel
theorem dX3_find_35 : decode cX3_find 35 = .ok (.invokevirtual 215, 3) := by decide +kernel
theorem dX3_find_38 : decode cX3_find 38 = .ok (.ifCond .ne 10, 3) := by decide +kernel
theorem dX3_find_41 : decode cX3_find 41 = .ok (.aload_n 0, 1) := by decide +kernel
theorem dX3_find_42 : decode cX3_find 42 = .ok (.iload_n 1, 1) := by decide +kernel
theorem dX3_find_43 : decode cX3_find 43 = .ok (.iload_n 2, 1) := by decide +kernel
theorem dX3_find_44 : decode cX3_find 44 = .ok (.invokevirtual 218, 3) := by decide +kernel
theorem dX3_find_47 : decode cX3_find 47 = .ok (.ireturn, 1) := by decide +kernel
theorem dX3_find_48 : decode cX3_find 48 = .ok (.iload_n 1, 1) := by decide +kernel
theorem dX3_find_49 : decode cX3_find 49 = .ok (.ldc 221, 2) := by decide +kernel
theorem dX3_find_51 : decode cX3_find 51 = .ok (.iand, 1) := by decide +kernel
theorem dX3_find_52 : decode cX3_find 52 = .ok (.istore_n 3, 1) := by decide +kernel
theorem dX3_find_53 : decode cX3_find 53 = .ok (.iload_n 3, 1) := by decide +kernel
theorem dX3_find_54 : decode cX3_find 54 = .ok (.invokestatic 34, 3) := by decide +kernel
theorem dX3_find_57 : decode cX3_find 57 = .ok (.ifCond .eq 9, 3) := by decide +kernel
theorem dX3_find_60 : decode cX3_find 60 = .ok (.iload_n 3, 1) := by decide +kernel
theorem dX3_find_61 : decode cX3_find 61 = .ok (.iconst 2, 1) := by decide +kernel
theorem dX3_find_62 : decode cX3_find 62 = .ok (.iushr, 1) := by decide +kernel
theorem dX3_find_63 : decode cX3_find 63 = .ok (.goto 5, 3) := by decide +kernel
theorem dX3_find_66 : decode cX3_find 66 = .ok (.bipush (-8), 2) := by decide +kernel
theorem dX3_find_68 : decode cX3_find 68 = .ok (.ireturn, 1) := by decide +kernel
set_option maxRecDepth 20000 in
theorem ggX3_findMapped_X2_get : GoodIn wsX3_findMapped wsX2_get := goodIn_r _ [6, 7, 28] (by decide +kernel) (by decide +kernel)
set_option maxRecDepth 20000 in
theorem gX3_findMapped_X2_get_n77 : GoodIn wsX3_findMapped (wsX2_get) := ggX3_findMapped_X2_get
set_option maxRecDepth 20000 in
theorem ggX3_findMapped_X0_find : GoodIn wsX3_findMapped wsX0_find := goodIn_r _ [11, 12, 29] (by decide +kernel) (by decide +kernel)
set_option maxRecDepth 20000 in
theorem gX3_findMapped_X0_find_n187 : GoodIn wsX3_findMapped (wsX0_find) := ggX3_findMapped_X0_find
set_option maxRecDepth 20000 in
theorem ggX3_findMapped_X0_get : GoodIn wsX3_findMapped wsX0_get := goodIn_r _ [15, 12, 29] (by decide +kernel) (by decide +kernel)
set_option maxRecDepth 20000 in
theorem gX3_findMapped_X0_get_n83 : GoodIn wsX3_findMapped (wsX0_get) := ggX3_findMapped_X0_get
set_option maxRecDepth 20000 in
theorem ggX3_findMapped_X2_level : GoodIn wsX3_findMapped wsX2_level := goodIn_r _ [18, 7, 28] (by decide +kernel) (by decide +kernel)
set_option maxRecDepth 20000 in
theorem gX3_findMapped_X2_level_n126 : GoodIn wsX3_findMapped (wsX2_level) := ggX3_findMapped_X2_level
theorem dX3_findMapped_0 : decode cX3_findMapped 0 = .ok (.iload_n 1, 1) := by decide +kernel
theorem dX3_findMapped_1 : decode cX3_findMapped 1 = .ok (.bipush 7, 2) := by decide +kernel
theorem dX3_findMapped_3 : decode cX3_findMapped 3 = .ok (.iushr, 1) := by decide +kernel
theorem dX3_findMapped_4 : decode cX3_findMapped 4 = .ok (.istore_n 3, 1) := by decide +kernel
theorem dX3_findMapped_5 : decode cX3_findMapped 5 = .ok (.aload_n 0, 1) := by decide +kernel
theorem dX3_findMapped_6 : decode cX3_findMapped 6 = .ok (.getfield 19, 3) := by decide +kernel
theorem dX3_findMapped_9 : decode cX3_findMapped 9 = .ok (.bipush 11, 2) := by decide +kernel
theorem dX3_findMapped_11 : decode cX3_findMapped 11 = .ok (.invokevirtual 77, 3) := by decide +kernel
theorem dX3_findMapped_14 : decode cX3_findMapped 14 = .ok (.istore 4, 2) := by decide +kernel
theorem dX3_findMapped_16 : decode cX3_findMapped 16 = .ok (.aload_n 0, 1) := by decide +kernel
theorem dX3_findMapped_17 : decode cX3_findMapped 17 = .ok (.getfield 26, 3) := by decide +kernel
theorem dX3_findMapped_20 : decode cX3_findMapped 20 = .ok (.iload_n 3, 1) := by decide +kernel
theorem dX3_findMapped_21 : decode cX3_findMapped 21 = .ok (.iload 4, 2) := by decide +kernel
theorem dX3_findMapped_23 : decode cX3_findMapped 23 = .ok (.iconst 0, 1) := by decide +kernel
theorem dX3_findMapped_24 : decode cX3_findMapped 24 = .ok (.invokevirtual 187, 3) := by decide +kernel
theorem dX3_findMapped_27 : decode cX3_findMapped 27 = .ok (.istore 5, 2) := by decide +kernel
theorem dX3_findMapped_29 : decode cX3_findMapped 29 = .ok (.iload 5, 2) := by decide +kernel
theorem dX3_findMapped_31 : decode cX3_findMapped 31 = .ok (.ifCond .ge 6, 3) := by decide +kernel
theorem dX3_findMapped_34 : decode cX3_findMapped 34 = .ok (.bipush (-63), 2) := by decide +kernel
theorem dX3_findMapped_36 : decode cX3_findMapped 36 = .ok (.ireturn, 1) := by decide +kernel
theorem dX3_findMapped_37 : decode cX3_findMapped 37 = .ok (.aload_n 0, 1) := by decide +kernel
theorem dX3_findMapped_38 : decode cX3_findMapped 38 = .ok (.getfield 26, 3) := by decide +kernel
theorem dX3_findMapped_41 : decode cX3_findMapped 41 = .ok (.iload_n 3, 1) := by decide +kernel
theorem dX3_findMapped_42 : decode cX3_findMapped 42 = .ok (.iload 4, 2) := by decide +kernel
theorem dX3_findMapped_44 : decode cX3_findMapped 44 = .ok (.iload 5, 2) := by decide +kernel
theorem dX3_findMapped_46 : decode cX3_findMapped 46 = .ok (.iconst 1, 1) := by decide +kernel
theorem dX3_findMapped_47 : decode cX3_findMapped 47 = .ok (.iadd, 1) := by decide +kernel
theorem dX3_findMapped_48 : decode cX3_findMapped 48 = .ok (.invokevirtual 187, 3) := by decide +kernel
theorem dX3_findMapped_51 : decode cX3_findMapped 51 = .ok (.ifCond .lt 6, 3) := by decide +kernel
theorem dX3_findMapped_54 : decode cX3_findMapped 54 = .ok (.bipush (-64), 2) := by decide +kernel
theorem dX3_findMapped_56 : decode cX3_findMapped 56 = .ok (.ireturn, 1) := by decide +kernel
theorem dX3_findMapped_57 : decode cX3_findMapped 57 = .ok (.aload_n 0, 1) := by decide +kernel
theorem dX3_findMapped_58 : decode cX3_findMapped 58 = .ok (.getfield 26, 3) := by decide +kernel
theorem dX3_findMapped_61 : decode cX3_findMapped 61 = .ok (.iload 5, 2) := by decide +kernel
theorem dX3_findMapped_63 : decode cX3_findMapped 63 = .ok (.iload_n 1, 1) := by decide +kernel
theorem dX3_findMapped_64 : decode cX3_findMapped 64 = .ok (.bipush 64, 2) := by decide +kernel
theorem dX3_findMapped_66 : decode cX3_findMapped 66 = .ok (.iand, 1) := by decide +kernel
theorem dX3_findMapped_67 : decode cX3_findMapped 67 = .ok (.ifCond .ne 7, 3) := by decide +kernel
theorem dX3_findMapped_70 : decode cX3_findMapped 70 = .ok (.iconst 4, 1) := by decide +kernel
theorem dX3_findMapped_71 : decode cX3_findMapped 71 = .ok (.goto 4, 3) := by decide +kernel
theorem dX3_findMapped_74 : decode cX3_findMapped 74 = .ok (.iconst 5, 1) := by decide +kernel
theorem dX3_findMapped_75 : decode cX3_findMapped 75 = .ok (.invokevirtual 83, 3) := by decide +kernel
theorem dX3_findMapped_78 : decode cX3_findMapped 78 = .ok (.istore 6, 2) := by decide +kernel
theorem dX3_findMapped_80 : decode cX3_findMapped 80 = .ok (.iload 6, 2) := by decide +kernel
theorem dX3_findMapped_82 : decode cX3_findMapped 82 = .ok (.iconst 1, 1) := by decide +kernel
theorem dX3_findMapped_83 : decode cX3_findMapped 83 = .ok (.iand, 1) := by decide +kernel
theorem dX3_findMapped_84 : decode cX3_findMapped 84 = .ok (.ifCond .ne 24, 3) := by decide +kernel
theorem dX3_findMapped_87 : decode cX3_findMapped 87 = .ok (.iload_n 2, 1) := by decide +kernel
theorem dX3_findMapped_88 : decode cX3_findMapped 88 = .ok (.ifCond .ne 8, 3) := by decide +kernel
theorem dX3_findMapped_91 : decode cX3_findMapped 91 = .ok (.bipush (-3), 2) := by decide +kernel
theorem dX3_findMapped_93 : decode cX3_findMapped 93 = .ok (.goto 14, 3) := by decide +kernel
theorem dX3_findMapped_96 : decode cX3_findMapped 96 = .ok (.iload_n 2, 1) := by decide +kernel
theorem dX3_findMapped_97 : decode cX3_findMapped 97 = .ok (.iconst 1, 1) := by decide +kernel
theorem dX3_findMapped_98 : decode cX3_findMapped 98 = .ok (.if_icmp .ne 7, 3) := by decide +kernel
theorem dX3_findMapped_101 : decode cX3_findMapped 101 = .ok (.iconst (-1), 1) := by decide +kernel
theorem dX3_findMapped_102 : decode cX3_findMapped 102 = .ok (.goto 5, 3) := by decide +kernel
theorem dX3_findMapped_105 : decode cX3_findMapped 105 = .ok (.bipush (-2), 2) := by decide +kernel
theorem dX3_findMapped_107 : decode cX3_findMapped 107 = .ok (.ireturn, 1) := by decide +kernel
theorem dX3_findMapped_108 : decode cX3_findMapped 108 = .ok (.iload 6, 2) := by decide +kernel
theorem dX3_findMapped_110 : decode cX3_findMapped 110 = .ok (.bipush 12, 2) := by decide +kernel
theorem dX3_findMapped_112 : decode cX3_findMapped 112 = .ok (.iand, 1) := by decide +kernel
theorem dX3_findMapped_113 : decode cX3_findMapped 113 = .ok (.ifCond .ne 16, 3) := by decide +kernel
theorem dX3_findMapped_116 : decode cX3_findMapped 116 = .ok (.aload_n 0, 1) := by decide +kernel
theorem dX3_findMapped_117 : decode cX3_findMapped 117 = .ok (.getfield 19, 3) := by decide +kernel
theorem dX3_findMapped_120 : decode cX3_findMapped 120 = .ok (.invokevirtual 126, 3) := by decide +kernel
theorem dX3_findMapped_123 : decode cX3_findMapped 123 = .ok (.ifCond .eq 6, 3) := by decide +kernel
theorem dX3_findMapped_126 : decode cX3_findMapped 126 = .ok (.bipush (-7), 2) := by decide +kernel
theorem dX3_findMapped_128 : decode cX3_findMapped 128 = .ok (.ireturn, 1) := by decide +kernel
theorem dX3_findMapped_129 : decode cX3_findMapped 129 = .ok (.iload_n 2, 1) := by decide +kernel
theorem dX3_findMapped_130 : decode cX3_findMapped 130 = .ok (.iconst 2, 1) := by decide +kernel
theorem dX3_findMapped_131 : decode cX3_findMapped 131 = .ok (.if_icmp .ne 13, 3) := by decide +kernel
theorem dX3_findMapped_134 : decode cX3_findMapped 134 = .ok (.iload 6, 2) := by decide +kernel
theorem dX3_findMapped_136 : decode cX3_findMapped 136 = .ok (.iconst 2, 1) := by decide +kernel
theorem dX3_findMapped_137 : decode cX3_findMapped 137 = .ok (.iand, 1) := by decide +kernel
theorem dX3_findMapped_138 : decode cX3_findMapped 138 = .ok (.ifCond .ne 6, 3) := by decide +kernel
theorem dX3_findMapped_141 : decode cX3_findMapped 141 = .ok (.bipush (-4), 2) := by decide +kernel
theorem dX3_findMapped_143 : decode cX3_findMapped 143 = .ok (.ireturn, 1) := by decide +kernel
theorem dX3_findMapped_144 : decode cX3_findMapped 144 = .ok (.iload 6, 2) := by decide +kernel
theorem dX3_findMapped_146 : decode cX3_findMapped 146 = .ok (.bipush 6, 2) := by decide +kernel
theorem dX3_findMapped_148 : decode cX3_findMapped 148 = .ok (.iushr, 1) := by decide +kernel
theorem dX3_findMapped_149 : decode cX3_findMapped 149 = .ok (.bipush 31, 2) := by decide +kernel
theorem dX3_findMapped_151 : decode cX3_findMapped 151 = .ok (.iand, 1) := by decide +kernel
theorem dX3_findMapped_152 : decode cX3_findMapped 152 = .ok (.istore 7, 2) := by decide +kernel
theorem dX3_findMapped_154 : decode cX3_findMapped 154 = .ok (.iload 7, 2) := by decide +kernel
theorem dX3_findMapped_156 : decode cX3_findMapped 156 = .ok (.bipush 16, 2) := by decide +kernel
theorem dX3_findMapped_158 : decode cX3_findMapped 158 = .ok (.imul, 1) := by decide +kernel
theorem dX3_findMapped_159 : decode cX3_findMapped 159 = .ok (.iload_n 1, 1) := by decide +kernel
theorem dX3_findMapped_160 : decode cX3_findMapped 160 = .ok (.iconst 2, 1) := by decide +kernel
theorem dX3_findMapped_161 : decode cX3_findMapped 161 = .ok (.iushr, 1) := by decide +kernel
theorem dX3_findMapped_162 : decode cX3_findMapped 162 = .ok (.bipush 15, 2) := by decide +kernel
theorem dX3_findMapped_164 : decode cX3_findMapped 164 = .ok (.iand, 1) := by decide +kernel
theorem dX3_findMapped_165 : decode cX3_findMapped 165 = .ok (.iadd, 1) := by decide +kernel
theorem dX3_findMapped_166 : decode cX3_findMapped 166 = .ok (.ireturn, 1) := by decide +kernel
set_option maxRecDepth 20000 in
theorem ggX3_fail_X2_set : GoodIn wsX3_fail wsX2_set := goodIn_r _ [6, 7, 33] (by decide +kernel) (by decide +kernel)
set_option maxRecDepth 20000 in
theorem gX3_fail_X2_set_n194 : GoodIn wsX3_fail (wsX2_set) := ggX3_fail_X2_set
set_option maxRecDepth 20000 in
theorem ggX3_fail_X3_raise : GoodIn wsX3_fail wsX3_raise := goodIn_r _ [12, 2, 13, 14, 15, 4, 16, 17, 7, 18, 19, 20, 21, 22, 23, 24, 25, 26, 27, 28, 29, 30, 31, 32, 33] (by decide +kernel) (by decide +kernel)
set_option maxRecDepth 20000 in
theorem gX3_fail_X3_raise : GoodIn wsX3_fail (wsV RX3 92 RX3 yX3_raise wsX3_raise) := goodIn_app (goodIn_of _ (by decide +kernel)) ggX3_fail_X3_raise
theorem dX3_fail_0 : decode cX3_fail 0 = .ok (.iload_n 1, 1) := by decide +kernel
theorem dX3_fail_1 : decode cX3_fail 1 = .ok (.bipush (-64), 2) := by decide +kernel
theorem dX3_fail_3 : decode cX3_fail 3 = .ok (.if_icmp .ne 9, 3) := by decide +kernel
theorem dX3_fail_6 : decode cX3_fail 6 = .ok (.aload_n 0, 1) := by decide +kernel
theorem dX3_fail_7 : decode cX3_fail 7 = .ok (.iconst 2, 1) := by decide +kernel
theorem dX3_fail_8 : decode cX3_fail 8 = .ok (.putfield 30, 3) := by decide +kernel
theorem dX3_fail_11 : decode cX3_fail 11 = .ok (.return_, 1) := by decide +kernel
theorem dX3_fail_12 : decode cX3_fail 12 = .ok (.iload_n 1, 1) := by decide +kernel
theorem dX3_fail_13 : decode cX3_fail 13 = .ok (.ineg, 1) := by decide +kernel
theorem dX3_fail_14 : decode cX3_fail 14 = .ok (.istore_n 3, 1) := by decide +kernel
theorem dX3_fail_15 : decode cX3_fail 15 = .ok (.aload_n 0, 1) := by decide +kernel
theorem dX3_fail_16 : decode cX3_fail 16 = .ok (.getfield 19, 3) := by decide +kernel
theorem dX3_fail_19 : decode cX3_fail 19 = .ok (.iconst 5, 1) := by decide +kernel
theorem dX3_fail_20 : decode cX3_fail 20 = .ok (.iload_n 2, 1) := by decide +kernel
theorem dX3_fail_21 : decode cX3_fail 21 = .ok (.invokevirtual 194, 3) := by decide +kernel
theorem dX3_fail_24 : decode cX3_fail 24 = .ok (.iload_n 3, 1) := by decide +kernel
theorem dX3_fail_25 : decode cX3_fail 25 = .ok (.bipush 8, 2) := by decide +kernel
theorem dX3_fail_27 : decode cX3_fail 27 = .ok (.if_icmp .eq 22, 3) := by decide +kernel
theorem dX3_fail_30 : decode cX3_fail 30 = .ok (.iload_n 3, 1) := by decide +kernel
theorem dX3_fail_31 : decode cX3_fail 31 = .ok (.bipush 9, 2) := by decide +kernel
theorem dX3_fail_33 : decode cX3_fail 33 = .ok (.if_icmp .eq 16, 3) := by decide +kernel
theorem dX3_fail_36 : decode cX3_fail 36 = .ok (.aload_n 0, 1) := by decide +kernel
theorem dX3_fail_37 : decode cX3_fail 37 = .ok (.getfield 19, 3) := by decide +kernel
theorem dX3_fail_40 : decode cX3_fail 40 = .ok (.bipush 8, 2) := by decide +kernel
theorem dX3_fail_42 : decode cX3_fail 42 = .ok (.iload_n 2, 1) := by decide +kernel
theorem dX3_fail_43 : decode cX3_fail 43 = .ok (.bipush (-128), 2) := by decide +kernel
theorem dX3_fail_45 : decode cX3_fail 45 = .ok (.iand, 1) := by decide +kernel
theorem dX3_fail_46 : decode cX3_fail 46 = .ok (.invokevirtual 194, 3) := by decide +kernel
theorem dX3_fail_49 : decode cX3_fail 49 = .ok (.aload_n 0, 1) := by decide +kernel
theorem dX3_fail_50 : decode cX3_fail 50 = .ok (.iload_n 3, 1) := by decide +kernel
theorem dX3_fail_51 : decode cX3_fail 51 = .ok (.invokevirtual 92, 3) := by decide +kernel
theorem dX3_fail_54 : decode cX3_fail 54 = .ok (.return_, 1) := by decide +kernel
set_option maxRecDepth 20000 in
theorem ggX3_raise_X2_enter : GoodIn wsX3_raise wsX2_enter := goodIn_r _ [7, 8, 24] (by decide +kernel) (by decide +kernel)
set_option maxRecDepth 20000 in
theorem gX3_raise_X2_enter_n222 : GoodIn wsX3_raise (wsX2_enter) := ggX3_raise_X2_enter
set_option maxRecDepth 20000 in
theorem ggX3_raise_X2_setDirect : GoodIn wsX3_raise wsX2_setDirect := goodIn_r _ [11, 8, 24] (by decide +kernel) (by decide +kernel)
set_option maxRecDepth 20000 in
theorem gX3_raise_X2_setDirect_n225 : GoodIn wsX3_raise (wsX2_setDirect) := ggX3_raise_X2_setDirect
set_option maxRecDepth 20000 in
theorem ggX3_raise_X2_get : GoodIn wsX3_raise wsX2_get := goodIn_r _ [14, 8, 24] (by decide +kernel) (by decide +kernel)
set_option maxRecDepth 20000 in
theorem gX3_raise_X2_get_n77 : GoodIn wsX3_raise (wsX2_get) := ggX3_raise_X2_get
theorem dX3_raise_0 : decode cX3_raise 0 = .ok (.aload_n 0, 1) := by decide +kernel
theorem dX3_raise_1 : decode cX3_raise 1 = .ok (.getfield 19, 3) := by decide +kernel
theorem dX3_raise_4 : decode cX3_raise 4 = .ok (.iload_n 1, 1) := by decide +kernel
theorem dX3_raise_5 : decode cX3_raise 5 = .ok (.aload_n 0, 1) := by decide +kernel
theorem dX3_raise_6 : decode cX3_raise 6 = .ok (.getfield 54, 3) := by decide +kernel
theorem dX3_raise_9 : decode cX3_raise 9 = .ok (.invokevirtual 222, 3) := by decide +kernel
theorem dX3_raise_12 : decode cX3_raise 12 = .ok (.iload_n 1, 1) := by decide +kernel
theorem dX3_raise_13 : decode cX3_raise 13 = .ok (.bipush 63, 2) := by decide +kernel
theorem dX3_raise_15 : decode cX3_raise 15 = .ok (.if_icmp .ne 26, 3) := by decide +kernel
theorem dX3_raise_18 : decode cX3_raise 18 = .ok (.aload_n 0, 1) := by decide +kernel
theorem dX3_raise_19 : decode cX3_raise 19 = .ok (.getfield 19, 3) := by decide +kernel
theorem dX3_raise_22 : decode cX3_raise 22 = .ok (.invokevirtual 225, 3) := by decide +kernel
theorem dX3_raise_25 : decode cX3_raise 25 = .ok (.aload_n 0, 1) := by decide +kernel
theorem dX3_raise_26 : decode cX3_raise 26 = .ok (.aload_n 0, 1) := by decide +kernel
theorem dX3_raise_27 : decode cX3_raise 27 = .ok (.getfield 19, 3) := by decide +kernel
theorem dX3_raise_30 : decode cX3_raise 30 = .ok (.bipush 16, 2) := by decide +kernel
theorem dX3_raise_32 : decode cX3_raise 32 = .ok (.invokevirtual 77, 3) := by decide +kernel
theorem dX3_raise_35 : decode cX3_raise 35 = .ok (.putfield 54, 3) := by decide +kernel
theorem dX3_raise_38 : decode cX3_raise 38 = .ok (.goto 16, 3) := by decide +kernel
theorem dX3_raise_41 : decode cX3_raise 41 = .ok (.aload_n 0, 1) := by decide +kernel
theorem dX3_raise_42 : decode cX3_raise 42 = .ok (.aload_n 0, 1) := by decide +kernel
theorem dX3_raise_43 : decode cX3_raise 43 = .ok (.getfield 19, 3) := by decide +kernel
theorem dX3_raise_46 : decode cX3_raise 46 = .ok (.bipush 6, 2) := by decide +kernel
theorem dX3_raise_48 : decode cX3_raise 48 = .ok (.invokevirtual 77, 3) := by decide +kernel
theorem dX3_raise_51 : decode cX3_raise 51 = .ok (.putfield 54, 3) := by decide +kernel
theorem dX3_raise_54 : decode cX3_raise 54 = .ok (.aload_n 0, 1) := by decide +kernel
theorem dX3_raise_55 : decode cX3_raise 55 = .ok (.iconst 1, 1) := by decide +kernel
theorem dX3_raise_56 : decode cX3_raise 56 = .ok (.putfield 63, 3) := by decide +kernel
theorem dX3_raise_59 : decode cX3_raise 59 = .ok (.return_, 1) := by decide +kernel

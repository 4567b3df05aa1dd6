set_option maxRecDepth 20000 in
theorem ggX3_owed_X3_isKnowing : GoodIn wsX3_owed wsX3_isKnowing := goodIn_r _ [9, 10, 11, 12, 8, 13, 82, 83, 84, 85, 86, 87, 88, 89, 90, 91, 92, 93, 94, 95, 96, 97, 98, 99, 100, 101, 102, 103, 104] rfl (by decide +kernel)
set_option maxRecDepth 20000 in
theorem gX3_owed_X3_isKnowing : GoodIn wsX3_owed (wsV RX3 93 RX3 yX3_isKnowing wsX3_isKnowing) := goodIn_app (goodIn_of _ (by decide +kernel)) ggX3_owed_X3_isKnowing
set_option maxRecDepth 20000 in
theorem ggX3_owed_X3_lies : GoodIn wsX3_owed wsX3_lies := goodIn_r _ [13] rfl (by decide +kernel)
set_option maxRecDepth 20000 in
theorem gX3_owed_X3_lies : GoodIn wsX3_owed (va_wsS RX3 76 yX3_lies wsX3_lies) := goodIn_app (goodIn_of _ (by decide +kernel)) ggX3_owed_X3_lies
set_option maxRecDepth 20000 in
theorem ggX3_owed_X3_works : GoodIn wsX3_owed wsX3_works := goodIn_r _ [17, 3, 18, 19, 20, 21, 22, 23, 8, 24, 25, 26, 27, 28, 29, 4, 30, 31, 32, 33, 34, 35, 36, 37, 38, 2, 11, 12, 13, 39, 40, 41, 42, 43, 44, 45, 46, 47, 48, 49, 50, 51, 52, 53, 54, 55, 56, 57, 58, 59, 60, 61, 62, 63, 64, 65, 66, 67, 68, 69, 70, 71, 72, 73, 74, 75, 1, 76, 77, 82, 83, 84, 85, 86, 87, 88, 89, 90, 91, 92, 93, 94, 95, 96, 97, 98, 99, 100, 101, 102, 103, 104] rfl (by decide +kernel)
set_option maxRecDepth 20000 in
theorem gX3_owed_X3_works : GoodIn wsX3_owed (wsV RX3 142 RX3 yX3_works wsX3_works) := goodIn_app (goodIn_of _ (by decide +kernel)) ggX3_owed_X3_works
set_option maxRecDepth 20000 in
theorem ggX3_owed_X3_moneyOf : GoodIn wsX3_owed wsX3_moneyOf := goodIn_r _ [81, 1, 57, 77, 39, 40, 41, 8, 42, 43, 44, 45, 46, 19, 20, 25, 28, 47, 48, 49, 50, 82, 83, 84, 85, 86, 87, 88, 89, 90, 91, 92, 93, 94, 95, 96, 97, 98, 99, 100, 101, 102, 103, 104] rfl (by decide +kernel)
set_option maxRecDepth 20000 in
theorem gX3_owed_X3_moneyOf : GoodIn wsX3_owed (wsV RX3 162 RX3 yX3_moneyOf wsX3_moneyOf) := goodIn_app (goodIn_of _ (by decide +kernel)) ggX3_owed_X3_moneyOf
theorem dX3_owed_0 : decode cX3_owed 0 = .ok (.aload_n 0, 1) := by decide +kernel
theorem dX3_owed_1 : decode cX3_owed 1 = .ok (.iload_n 1, 1) := by decide +kernel
theorem dX3_owed_2 : decode cX3_owed 2 = .ok (.invokevirtual 93, 3) := by decide +kernel
theorem dX3_owed_5 : decode cX3_owed 5 = .ok (.ifCond .eq 24, 3) := by decide +kernel
theorem dX3_owed_8 : decode cX3_owed 8 = .ok (.iload_n 2, 1) := by decide +kernel
theorem dX3_owed_9 : decode cX3_owed 9 = .ok (.iconst 1, 1) := by decide +kernel
theorem dX3_owed_10 : decode cX3_owed 10 = .ok (.sipush 200, 3) := by decide +kernel
theorem dX3_owed_13 : decode cX3_owed 13 = .ok (.invokestatic 76, 3) := by decide +kernel
theorem dX3_owed_16 : decode cX3_owed 16 = .ok (.ifCond .eq 13, 3) := by decide +kernel
theorem dX3_owed_19 : decode cX3_owed 19 = .ok (.iload_n 3, 1) := by decide +kernel
theorem dX3_owed_20 : decode cX3_owed 20 = .ok (.iconst (-1), 1) := by decide +kernel
theorem dX3_owed_21 : decode cX3_owed 21 = .ok (.bipush 9, 2) := by decide +kernel
theorem dX3_owed_23 : decode cX3_owed 23 = .ok (.invokestatic 76, 3) := by decide +kernel
theorem dX3_owed_26 : decode cX3_owed 26 = .ok (.ifCond .ne 7, 3) := by decide +kernel
theorem dX3_owed_29 : decode cX3_owed 29 = .ok (.ldc2_w 104, 3) := by decide +kernel
theorem dX3_owed_32 : decode cX3_owed 32 = .ok (.lreturn, 1) := by decide +kernel
theorem dX3_owed_33 : decode cX3_owed 33 = .ok (.aload_n 0, 1) := by decide +kernel
theorem dX3_owed_34 : decode cX3_owed 34 = .ok (.iload_n 1, 1) := by decide +kernel
theorem dX3_owed_35 : decode cX3_owed 35 = .ok (.iload_n 2, 1) := by decide +kernel
theorem dX3_owed_36 : decode cX3_owed 36 = .ok (.iconst (-1), 1) := by decide +kernel
theorem dX3_owed_37 : decode cX3_owed 37 = .ok (.invokevirtual 142, 3) := by decide +kernel
theorem dX3_owed_40 : decode cX3_owed 40 = .ok (.istore 4, 2) := by decide +kernel
theorem dX3_owed_42 : decode cX3_owed 42 = .ok (.lconst 0, 1) := by decide +kernel
theorem dX3_owed_43 : decode cX3_owed 43 = .ok (.lstore 5, 2) := by decide +kernel
theorem dX3_owed_45 : decode cX3_owed 45 = .ok (.iconst 0, 1) := by decide +kernel
theorem dX3_owed_46 : decode cX3_owed 46 = .ok (.istore 7, 2) := by decide +kernel
theorem dX3_owed_48 : decode cX3_owed 48 = .ok (.iload 7, 2) := by decide +kernel
theorem dX3_owed_50 : decode cX3_owed 50 = .ok (.aload_n 0, 1) := by decide +kernel
theorem dX3_owed_51 : decode cX3_owed 51 = .ok (.getfield 80, 3) := by decide +kernel
theorem dX3_owed_54 : decode cX3_owed 54 = .ok (.if_icmp .ge 68, 3) := by decide +kernel
theorem dX3_owed_57 : decode cX3_owed 57 = .ok (.aload_n 0, 1) := by decide +kernel
theorem dX3_owed_58 : decode cX3_owed 58 = .ok (.getfield 43, 3) := by decide +kernel
theorem dX3_owed_61 : decode cX3_owed 61 = .ok (.iload 7, 2) := by decide +kernel
theorem dX3_owed_63 : decode cX3_owed 63 = .ok (.baload, 1) := by decide +kernel
theorem dX3_owed_64 : decode cX3_owed 64 = .ok (.ifCond .eq 52, 3) := by decide +kernel
theorem dX3_owed_67 : decode cX3_owed 67 = .ok (.iload_n 3, 1) := by decide +kernel
theorem dX3_owed_68 : decode cX3_owed 68 = .ok (.iconst (-1), 1) := by decide +kernel
theorem dX3_owed_69 : decode cX3_owed 69 = .ok (.if_icmp .eq 17, 3) := by decide +kernel
theorem dX3_owed_72 : decode cX3_owed 72 = .ok (.aload_n 0, 1) := by decide +kernel
theorem dX3_owed_73 : decode cX3_owed 73 = .ok (.getfield 53, 3) := by decide +kernel
theorem dX3_owed_76 : decode cX3_owed 76 = .ok (.iload 7, 2) := by decide +kernel
theorem dX3_owed_78 : decode cX3_owed 78 = .ok (.iaload, 1) := by decide +kernel
theorem dX3_owed_79 : decode cX3_owed 79 = .ok (.iload_n 3, 1) := by decide +kernel
theorem dX3_owed_80 : decode cX3_owed 80 = .ok (.if_icmp .eq 6, 3) := by decide +kernel
theorem dX3_owed_83 : decode cX3_owed 83 = .ok (.goto 33, 3) := by decide +kernel
theorem dX3_owed_86 : decode cX3_owed 86 = .ok (.aload_n 0, 1) := by decide +kernel
theorem dX3_owed_87 : decode cX3_owed 87 = .ok (.iload_n 1, 1) := by decide +kernel
theorem dX3_owed_88 : decode cX3_owed 88 = .ok (.iload_n 2, 1) := by decide +kernel
theorem dX3_owed_89 : decode cX3_owed 89 = .ok (.iload 7, 2) := by decide +kernel
theorem dX3_owed_91 : decode cX3_owed 91 = .ok (.invokevirtual 162, 3) := by decide +kernel
theorem dX3_owed_94 : decode cX3_owed 94 = .ok (.lstore 8, 2) := by decide +kernel
theorem dX3_owed_96 : decode cX3_owed 96 = .ok (.lload 8, 2) := by decide +kernel
theorem dX3_owed_98 : decode cX3_owed 98 = .ok (.ldc2_w 104, 3) := by decide +kernel
theorem dX3_owed_101 : decode cX3_owed 101 = .ok (.lcmp, 1) := by decide +kernel
theorem dX3_owed_102 : decode cX3_owed 102 = .ok (.ifCond .ne 7, 3) := by decide +kernel
theorem dX3_owed_105 : decode cX3_owed 105 = .ok (.ldc2_w 104, 3) := by decide +kernel
theorem dX3_owed_108 : decode cX3_owed 108 = .ok (.lreturn, 1) := by decide +kernel
theorem dX3_owed_109 : decode cX3_owed 109 = .ok (.lload 5, 2) := by decide +kernel
theorem dX3_owed_111 : decode cX3_owed 111 = .ok (.lload 8, 2) := by decide +kernel
theorem dX3_owed_113 : decode cX3_owed 113 = .ok (.ladd, 1) := by decide +kernel
theorem dX3_owed_114 : decode cX3_owed 114 = .ok (.lstore 5, 2) := by decide +kernel
theorem dX3_owed_116 : decode cX3_owed 116 = .ok (.iinc 7 1, 3) := by decide +kernel
theorem dX3_owed_119 : decode cX3_owed 119 = .ok (.goto (-71), 3) := by decide +kernel
theorem dX3_owed_122 : decode cX3_owed 122 = .ok (.lload 5, 2) := by decide +kernel
theorem dX3_owed_124 : decode cX3_owed 124 = .ok (.lreturn, 1) := by decide +kernel

set_option maxRecDepth 20000 in
theorem ggX3_make_X3_lies : GoodIn wsX3_make wsX3_lies := goodIn_r _ [6] rfl (by decide +kernel)
set_option maxRecDepth 20000 in
theorem gX3_make_X3_lies : GoodIn wsX3_make (va_wsS RX3 76 yX3_lies wsX3_lies) := goodIn_app (goodIn_of _ (by decide +kernel)) ggX3_make_X3_lies
set_option maxRecDepth 20000 in
theorem ggX3_make_X3_writes : GoodIn wsX3_make wsX3_writes := goodIn_r _ [10, 11, 1, 12, 13, 14, 15, 16, 17, 90, 91, 92, 93, 94, 95, 96, 97, 98, 99, 100, 101, 102, 103, 104, 105, 106, 107, 108, 109, 110, 111, 112] rfl (by decide +kernel)
set_option maxRecDepth 20000 in
theorem gX3_make_X3_writes : GoodIn wsX3_make (wsV RX3 138 RX3 yX3_writes wsX3_writes) := goodIn_app (goodIn_of _ (by decide +kernel)) ggX3_make_X3_writes
set_option maxRecDepth 20000 in
theorem ggX3_make_X3_takes : GoodIn wsX3_make wsX3_takes := goodIn_r _ [21, 17, 1, 2, 22, 23, 24, 5, 25, 26, 27, 11, 12, 28, 29, 30, 31, 13, 14, 32, 15, 33, 34, 35, 36, 37, 38, 39, 40, 41, 42, 43, 3, 4, 6, 44, 45, 46, 47, 48, 49, 50, 51, 52, 53, 54, 55, 56, 57, 58, 59, 16, 60, 61, 62, 63, 64, 65, 66, 67, 68, 69, 70, 71, 72, 73, 74, 75, 76, 77, 78, 79, 80, 81, 90, 91, 92, 93, 94, 95, 96, 97, 98, 99, 100, 101, 102, 103, 104, 105, 106, 107, 108, 109, 110, 111, 112] rfl (by decide +kernel)
set_option maxRecDepth 20000 in
theorem gX3_make_X3_takes : GoodIn wsX3_make (wsV RX3 145 RX3 yX3_takes wsX3_takes) := goodIn_app (goodIn_of _ (by decide +kernel)) ggX3_make_X3_takes
set_option maxRecDepth 20000 in
theorem ggX3_make_X3_isMade : GoodIn wsX3_make wsX3_isMade := goodIn_r _ [85, 86, 1, 87, 88, 89, 90, 91, 92, 93, 94, 95, 96, 97, 98, 99, 100, 101, 102, 103, 104, 105, 106, 107, 108, 109, 110, 111, 112] rfl (by decide +kernel)
set_option maxRecDepth 20000 in
theorem gX3_make_X3_isMade : GoodIn wsX3_make (wsV RX3 148 RX3 yX3_isMade wsX3_isMade) := goodIn_app (goodIn_of _ (by decide +kernel)) ggX3_make_X3_isMade
theorem dX3_make_0 : decode cX3_make 0 = .ok (.aload_n 0, 1) := by decide +kernel
theorem dX3_make_1 : decode cX3_make 1 = .ok (.getfield 72, 3) := by decide +kernel
theorem dX3_make_4 : decode cX3_make 4 = .ok (.bipush 80, 2) := by decide +kernel
theorem dX3_make_6 : decode cX3_make 6 = .ok (.if_icmp .eq 55, 3) := by decide +kernel
theorem dX3_make_9 : decode cX3_make 9 = .ok (.aload_n 0, 1) := by decide +kernel
theorem dX3_make_10 : decode cX3_make 10 = .ok (.getfield 80, 3) := by decide +kernel
theorem dX3_make_13 : decode cX3_make 13 = .ok (.bipush 60, 2) := by decide +kernel
theorem dX3_make_15 : decode cX3_make 15 = .ok (.if_icmp .eq 46, 3) := by decide +kernel
theorem dX3_make_18 : decode cX3_make 18 = .ok (.iload_n 1, 1) := by decide +kernel
theorem dX3_make_19 : decode cX3_make 19 = .ok (.bipush 8, 2) := by decide +kernel
theorem dX3_make_21 : decode cX3_make 21 = .ok (.sipush 200, 3) := by decide +kernel
theorem dX3_make_24 : decode cX3_make 24 = .ok (.invokestatic 76, 3) := by decide +kernel
theorem dX3_make_27 : decode cX3_make 27 = .ok (.ifCond .eq 34, 3) := by decide +kernel
theorem dX3_make_30 : decode cX3_make 30 = .ok (.iload_n 2, 1) := by decide +kernel
theorem dX3_make_31 : decode cX3_make 31 = .ok (.iconst 1, 1) := by decide +kernel
theorem dX3_make_32 : decode cX3_make 32 = .ok (.sipush 10000, 3) := by decide +kernel
theorem dX3_make_35 : decode cX3_make 35 = .ok (.invokestatic 76, 3) := by decide +kernel
theorem dX3_make_38 : decode cX3_make 38 = .ok (.ifCond .eq 23, 3) := by decide +kernel
theorem dX3_make_41 : decode cX3_make 41 = .ok (.iload_n 3, 1) := by decide +kernel
theorem dX3_make_42 : decode cX3_make 42 = .ok (.iconst 0, 1) := by decide +kernel
theorem dX3_make_43 : decode cX3_make 43 = .ok (.iconst 2, 1) := by decide +kernel
theorem dX3_make_44 : decode cX3_make 44 = .ok (.invokestatic 76, 3) := by decide +kernel
theorem dX3_make_47 : decode cX3_make 47 = .ok (.ifCond .eq 14, 3) := by decide +kernel
theorem dX3_make_50 : decode cX3_make 50 = .ok (.iload 4, 2) := by decide +kernel
theorem dX3_make_52 : decode cX3_make 52 = .ok (.iconst 0, 1) := by decide +kernel
theorem dX3_make_53 : decode cX3_make 53 = .ok (.bipush 9, 2) := by decide +kernel
theorem dX3_make_55 : decode cX3_make 55 = .ok (.invokestatic 76, 3) := by decide +kernel
theorem dX3_make_58 : decode cX3_make 58 = .ok (.ifCond .ne 5, 3) := by decide +kernel
theorem dX3_make_61 : decode cX3_make 61 = .ok (.iconst (-1), 1) := by decide +kernel
theorem dX3_make_62 : decode cX3_make 62 = .ok (.ireturn, 1) := by decide +kernel
theorem dX3_make_63 : decode cX3_make 63 = .ok (.aload_n 0, 1) := by decide +kernel
theorem dX3_make_64 : decode cX3_make 64 = .ok (.iconst 1, 1) := by decide +kernel
theorem dX3_make_65 : decode cX3_make 65 = .ok (.iload_n 1, 1) := by decide +kernel
theorem dX3_make_66 : decode cX3_make 66 = .ok (.iconst (-1), 1) := by decide +kernel
theorem dX3_make_67 : decode cX3_make 67 = .ok (.iload_n 3, 1) := by decide +kernel
theorem dX3_make_68 : decode cX3_make 68 = .ok (.iload_n 2, 1) := by decide +kernel
theorem dX3_make_69 : decode cX3_make 69 = .ok (.iload 4, 2) := by decide +kernel
theorem dX3_make_71 : decode cX3_make 71 = .ok (.invokevirtual 138, 3) := by decide +kernel
theorem dX3_make_74 : decode cX3_make 74 = .ok (.aload_n 0, 1) := by decide +kernel
theorem dX3_make_75 : decode cX3_make 75 = .ok (.iconst 1, 1) := by decide +kernel
theorem dX3_make_76 : decode cX3_make 76 = .ok (.invokevirtual 145, 3) := by decide +kernel
theorem dX3_make_79 : decode cX3_make 79 = .ok (.ifCond .ne 5, 3) := by decide +kernel
theorem dX3_make_82 : decode cX3_make 82 = .ok (.iconst (-1), 1) := by decide +kernel
theorem dX3_make_83 : decode cX3_make 83 = .ok (.ireturn, 1) := by decide +kernel
theorem dX3_make_84 : decode cX3_make 84 = .ok (.aload_n 0, 1) := by decide +kernel
theorem dX3_make_85 : decode cX3_make 85 = .ok (.aload_n 0, 1) := by decide +kernel
theorem dX3_make_86 : decode cX3_make 86 = .ok (.getfield 80, 3) := by decide +kernel
theorem dX3_make_89 : decode cX3_make 89 = .ok (.iconst (-1), 1) := by decide +kernel
theorem dX3_make_90 : decode cX3_make 90 = .ok (.iconst (-1), 1) := by decide +kernel
theorem dX3_make_91 : decode cX3_make 91 = .ok (.invokevirtual 148, 3) := by decide +kernel
theorem dX3_make_94 : decode cX3_make 94 = .ok (.aload_n 0, 1) := by decide +kernel
theorem dX3_make_95 : decode cX3_make 95 = .ok (.dup, 1) := by decide +kernel
theorem dX3_make_96 : decode cX3_make 96 = .ok (.getfield 72, 3) := by decide +kernel
theorem dX3_make_99 : decode cX3_make 99 = .ok (.iconst 1, 1) := by decide +kernel
theorem dX3_make_100 : decode cX3_make 100 = .ok (.iadd, 1) := by decide +kernel
theorem dX3_make_101 : decode cX3_make 101 = .ok (.putfield 72, 3) := by decide +kernel
theorem dX3_make_104 : decode cX3_make 104 = .ok (.aload_n 0, 1) := by decide +kernel
theorem dX3_make_105 : decode cX3_make 105 = .ok (.dup, 1) := by decide +kernel
theorem dX3_make_106 : decode cX3_make 106 = .ok (.getfield 80, 3) := by decide +kernel
theorem dX3_make_109 : decode cX3_make 109 = .ok (.iconst 1, 1) := by decide +kernel
theorem dX3_make_110 : decode cX3_make 110 = .ok (.iadd, 1) := by decide +kernel
theorem dX3_make_111 : decode cX3_make 111 = .ok (.putfield 80, 3) := by decide +kernel
theorem dX3_make_114 : decode cX3_make 114 = .ok (.aload_n 0, 1) := by decide +kernel
theorem dX3_make_115 : decode cX3_make 115 = .ok (.getfield 80, 3) := by decide +kernel
theorem dX3_make_118 : decode cX3_make 118 = .ok (.iconst 1, 1) := by decide +kernel
theorem dX3_make_119 : decode cX3_make 119 = .ok (.isub, 1) := by decide +kernel
theorem dX3_make_120 : decode cX3_make 120 = .ok (.ireturn, 1) := by decide +kernel

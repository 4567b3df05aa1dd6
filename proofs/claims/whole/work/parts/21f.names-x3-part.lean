set_option maxRecDepth 20000 in
theorem ggX3_part_X3_lies : GoodIn wsX3_part wsX3_lies := goodIn_r _ [8] rfl (by decide +kernel)
set_option maxRecDepth 20000 in
theorem gX3_part_X3_lies : GoodIn wsX3_part (va_wsS RX3 76 yX3_lies wsX3_lies) := goodIn_app (goodIn_of _ (by decide +kernel)) ggX3_part_X3_lies
set_option maxRecDepth 20000 in
theorem ggX3_part_X3_isField : GoodIn wsX3_part wsX3_isField := goodIn_r _ [12, 2, 5, 6, 7, 8, 91, 92, 93, 94, 95, 96, 97, 98, 99, 100, 101, 102, 103, 104, 105, 106, 107, 108, 109, 110, 111, 112, 113] rfl (by decide +kernel)
set_option maxRecDepth 20000 in
theorem gX3_part_X3_isField : GoodIn wsX3_part (wsV RX3 114 RX3 yX3_isField wsX3_isField) := goodIn_app (goodIn_of _ (by decide +kernel)) ggX3_part_X3_isField
set_option maxRecDepth 20000 in
theorem ggX3_part_X3_writes : GoodIn wsX3_part wsX3_writes := goodIn_r _ [16, 17, 1, 18, 19, 20, 21, 22, 23, 91, 92, 93, 94, 95, 96, 97, 98, 99, 100, 101, 102, 103, 104, 105, 106, 107, 108, 109, 110, 111, 112, 113] rfl (by decide +kernel)
set_option maxRecDepth 20000 in
theorem gX3_part_X3_writes : GoodIn wsX3_part (wsV RX3 138 RX3 yX3_writes wsX3_writes) := goodIn_app (goodIn_of _ (by decide +kernel)) ggX3_part_X3_writes
set_option maxRecDepth 20000 in
theorem ggX3_part_X3_takes : GoodIn wsX3_part wsX3_takes := goodIn_r _ [27, 23, 1, 2, 28, 29, 30, 7, 31, 32, 33, 17, 18, 34, 35, 36, 37, 19, 20, 38, 21, 39, 40, 41, 42, 43, 44, 45, 9, 10, 11, 12, 5, 6, 8, 46, 47, 48, 49, 50, 51, 52, 53, 54, 55, 56, 57, 58, 59, 60, 61, 22, 62, 63, 64, 65, 66, 67, 68, 69, 70, 71, 72, 73, 74, 75, 76, 77, 78, 79, 80, 81, 82, 83, 91, 92, 93, 94, 95, 96, 97, 98, 99, 100, 101, 102, 103, 104, 105, 106, 107, 108, 109, 110, 111, 112, 113] rfl (by decide +kernel)
set_option maxRecDepth 20000 in
theorem gX3_part_X3_takes : GoodIn wsX3_part (wsV RX3 145 RX3 yX3_takes wsX3_takes) := goodIn_app (goodIn_of _ (by decide +kernel)) ggX3_part_X3_takes
set_option maxRecDepth 20000 in
theorem ggX3_part_X3_isMade : GoodIn wsX3_part wsX3_isMade := goodIn_r _ [87, 88, 1, 4, 89, 90, 91, 92, 93, 94, 95, 96, 97, 98, 99, 100, 101, 102, 103, 104, 105, 106, 107, 108, 109, 110, 111, 112, 113] rfl (by decide +kernel)
set_option maxRecDepth 20000 in
theorem gX3_part_X3_isMade : GoodIn wsX3_part (wsV RX3 148 RX3 yX3_isMade wsX3_isMade) := goodIn_app (goodIn_of _ (by decide +kernel)) ggX3_part_X3_isMade
theorem dX3_part_0 : decode cX3_part 0 = .ok (.aload_n 0, 1) := by decide +kernel
theorem dX3_part_1 : decode cX3_part 1 = .ok (.getfield 72, 3) := by decide +kernel
theorem dX3_part_4 : decode cX3_part 4 = .ok (.bipush 80, 2) := by decide +kernel
theorem dX3_part_6 : decode cX3_part 6 = .ok (.if_icmp .eq 42, 3) := by decide +kernel
theorem dX3_part_9 : decode cX3_part 9 = .ok (.aload_n 0, 1) := by decide +kernel
theorem dX3_part_10 : decode cX3_part 10 = .ok (.getfield 80, 3) := by decide +kernel
theorem dX3_part_13 : decode cX3_part 13 = .ok (.bipush 58, 2) := by decide +kernel
theorem dX3_part_15 : decode cX3_part 15 = .ok (.if_icmp .gt 33, 3) := by decide +kernel
theorem dX3_part_18 : decode cX3_part 18 = .ok (.iload_n 1, 1) := by decide +kernel
theorem dX3_part_19 : decode cX3_part 19 = .ok (.bipush 8, 2) := by decide +kernel
theorem dX3_part_21 : decode cX3_part 21 = .ok (.sipush 200, 3) := by decide +kernel
theorem dX3_part_24 : decode cX3_part 24 = .ok (.invokestatic 76, 3) := by decide +kernel
theorem dX3_part_27 : decode cX3_part 27 = .ok (.ifCond .eq 21, 3) := by decide +kernel
theorem dX3_part_30 : decode cX3_part 30 = .ok (.aload_n 0, 1) := by decide +kernel
theorem dX3_part_31 : decode cX3_part 31 = .ok (.iload_n 2, 1) := by decide +kernel
theorem dX3_part_32 : decode cX3_part 32 = .ok (.invokevirtual 114, 3) := by decide +kernel
theorem dX3_part_35 : decode cX3_part 35 = .ok (.ifCond .eq 13, 3) := by decide +kernel
theorem dX3_part_38 : decode cX3_part 38 = .ok (.iload_n 3, 1) := by decide +kernel
theorem dX3_part_39 : decode cX3_part 39 = .ok (.iconst 1, 1) := by decide +kernel
theorem dX3_part_40 : decode cX3_part 40 = .ok (.ldc 152, 2) := by decide +kernel
theorem dX3_part_42 : decode cX3_part 42 = .ok (.invokestatic 76, 3) := by decide +kernel
theorem dX3_part_45 : decode cX3_part 45 = .ok (.ifCond .ne 5, 3) := by decide +kernel
theorem dX3_part_48 : decode cX3_part 48 = .ok (.iconst (-1), 1) := by decide +kernel
theorem dX3_part_49 : decode cX3_part 49 = .ok (.ireturn, 1) := by decide +kernel
theorem dX3_part_50 : decode cX3_part 50 = .ok (.aload_n 0, 1) := by decide +kernel
theorem dX3_part_51 : decode cX3_part 51 = .ok (.iconst 2, 1) := by decide +kernel
theorem dX3_part_52 : decode cX3_part 52 = .ok (.iload_n 1, 1) := by decide +kernel
theorem dX3_part_53 : decode cX3_part 53 = .ok (.iload_n 2, 1) := by decide +kernel
theorem dX3_part_54 : decode cX3_part 54 = .ok (.iconst (-1), 1) := by decide +kernel
theorem dX3_part_55 : decode cX3_part 55 = .ok (.iload_n 3, 1) := by decide +kernel
theorem dX3_part_56 : decode cX3_part 56 = .ok (.iconst 0, 1) := by decide +kernel
theorem dX3_part_57 : decode cX3_part 57 = .ok (.invokevirtual 138, 3) := by decide +kernel
theorem dX3_part_60 : decode cX3_part 60 = .ok (.aload_n 0, 1) := by decide +kernel
theorem dX3_part_61 : decode cX3_part 61 = .ok (.iconst 2, 1) := by decide +kernel
theorem dX3_part_62 : decode cX3_part 62 = .ok (.invokevirtual 145, 3) := by decide +kernel
theorem dX3_part_65 : decode cX3_part 65 = .ok (.ifCond .ne 5, 3) := by decide +kernel
theorem dX3_part_68 : decode cX3_part 68 = .ok (.iconst (-1), 1) := by decide +kernel
theorem dX3_part_69 : decode cX3_part 69 = .ok (.ireturn, 1) := by decide +kernel
theorem dX3_part_70 : decode cX3_part 70 = .ok (.aload_n 0, 1) := by decide +kernel
theorem dX3_part_71 : decode cX3_part 71 = .ok (.aload_n 0, 1) := by decide +kernel
theorem dX3_part_72 : decode cX3_part 72 = .ok (.getfield 80, 3) := by decide +kernel
theorem dX3_part_75 : decode cX3_part 75 = .ok (.iload_n 2, 1) := by decide +kernel
theorem dX3_part_76 : decode cX3_part 76 = .ok (.iconst (-1), 1) := by decide +kernel
theorem dX3_part_77 : decode cX3_part 77 = .ok (.invokevirtual 148, 3) := by decide +kernel
theorem dX3_part_80 : decode cX3_part 80 = .ok (.aload_n 0, 1) := by decide +kernel
theorem dX3_part_81 : decode cX3_part 81 = .ok (.aload_n 0, 1) := by decide +kernel
theorem dX3_part_82 : decode cX3_part 82 = .ok (.getfield 80, 3) := by decide +kernel
theorem dX3_part_85 : decode cX3_part 85 = .ok (.iconst 1, 1) := by decide +kernel
theorem dX3_part_86 : decode cX3_part 86 = .ok (.iadd, 1) := by decide +kernel
theorem dX3_part_87 : decode cX3_part 87 = .ok (.iload_n 2, 1) := by decide +kernel
theorem dX3_part_88 : decode cX3_part 88 = .ok (.iconst (-1), 1) := by decide +kernel
theorem dX3_part_89 : decode cX3_part 89 = .ok (.invokevirtual 148, 3) := by decide +kernel
theorem dX3_part_92 : decode cX3_part 92 = .ok (.aload_n 0, 1) := by decide +kernel
theorem dX3_part_93 : decode cX3_part 93 = .ok (.getfield 34, 3) := by decide +kernel
theorem dX3_part_96 : decode cX3_part 96 = .ok (.iload_n 2, 1) := by decide +kernel
theorem dX3_part_97 : decode cX3_part 97 = .ok (.aload_n 0, 1) := by decide +kernel
theorem dX3_part_98 : decode cX3_part 98 = .ok (.getfield 72, 3) := by decide +kernel
theorem dX3_part_101 : decode cX3_part 101 = .ok (.iastore, 1) := by decide +kernel
theorem dX3_part_102 : decode cX3_part 102 = .ok (.aload_n 0, 1) := by decide +kernel
theorem dX3_part_103 : decode cX3_part 103 = .ok (.dup, 1) := by decide +kernel
theorem dX3_part_104 : decode cX3_part 104 = .ok (.getfield 72, 3) := by decide +kernel
theorem dX3_part_107 : decode cX3_part 107 = .ok (.iconst 1, 1) := by decide +kernel
theorem dX3_part_108 : decode cX3_part 108 = .ok (.iadd, 1) := by decide +kernel
theorem dX3_part_109 : decode cX3_part 109 = .ok (.putfield 72, 3) := by decide +kernel
theorem dX3_part_112 : decode cX3_part 112 = .ok (.aload_n 0, 1) := by decide +kernel
theorem dX3_part_113 : decode cX3_part 113 = .ok (.dup, 1) := by decide +kernel
theorem dX3_part_114 : decode cX3_part 114 = .ok (.getfield 80, 3) := by decide +kernel
theorem dX3_part_117 : decode cX3_part 117 = .ok (.iconst 2, 1) := by decide +kernel
theorem dX3_part_118 : decode cX3_part 118 = .ok (.iadd, 1) := by decide +kernel
theorem dX3_part_119 : decode cX3_part 119 = .ok (.putfield 80, 3) := by decide +kernel
theorem dX3_part_122 : decode cX3_part 122 = .ok (.aload_n 0, 1) := by decide +kernel
theorem dX3_part_123 : decode cX3_part 123 = .ok (.getfield 80, 3) := by decide +kernel
theorem dX3_part_126 : decode cX3_part 126 = .ok (.iconst 2, 1) := by decide +kernel
theorem dX3_part_127 : decode cX3_part 127 = .ok (.isub, 1) := by decide +kernel
theorem dX3_part_128 : decode cX3_part 128 = .ok (.ireturn, 1) := by decide +kernel

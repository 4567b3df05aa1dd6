set_option maxRecDepth 20000 in
theorem ggX3_join_X3_lies : GoodIn wsX3_join wsX3_lies := goodIn_r _ [7] rfl (by decide +kernel)
set_option maxRecDepth 20000 in
theorem gX3_join_X3_lies : GoodIn wsX3_join (va_wsS RX3 76 yX3_lies wsX3_lies) := goodIn_app (goodIn_of _ (by decide +kernel)) ggX3_join_X3_lies
set_option maxRecDepth 20000 in
theorem ggX3_join_X3_isField : GoodIn wsX3_join wsX3_isField := goodIn_r _ [11, 2, 4, 5, 6, 7, 90, 91, 92, 93, 94, 95, 96, 97, 98, 99, 100, 101, 102, 103, 104, 105, 106, 107, 108, 109, 110, 111, 112] rfl (by decide +kernel)
set_option maxRecDepth 20000 in
theorem gX3_join_X3_isField : GoodIn wsX3_join (wsV RX3 114 RX3 yX3_isField wsX3_isField) := goodIn_app (goodIn_of _ (by decide +kernel)) ggX3_join_X3_isField
set_option maxRecDepth 20000 in
theorem ggX3_join_X3_writes : GoodIn wsX3_join wsX3_writes := goodIn_r _ [15, 16, 1, 17, 18, 19, 20, 21, 22, 90, 91, 92, 93, 94, 95, 96, 97, 98, 99, 100, 101, 102, 103, 104, 105, 106, 107, 108, 109, 110, 111, 112] rfl (by decide +kernel)
set_option maxRecDepth 20000 in
theorem gX3_join_X3_writes : GoodIn wsX3_join (wsV RX3 138 RX3 yX3_writes wsX3_writes) := goodIn_app (goodIn_of _ (by decide +kernel)) ggX3_join_X3_writes
set_option maxRecDepth 20000 in
theorem ggX3_join_X3_takes : GoodIn wsX3_join wsX3_takes := goodIn_r _ [26, 22, 1, 2, 27, 28, 29, 6, 30, 31, 32, 16, 17, 33, 34, 35, 36, 18, 19, 37, 20, 38, 39, 40, 41, 42, 43, 44, 8, 9, 10, 11, 4, 5, 7, 45, 46, 47, 48, 49, 50, 51, 52, 53, 54, 55, 56, 57, 58, 59, 60, 21, 61, 62, 63, 64, 65, 66, 67, 68, 69, 70, 71, 72, 73, 74, 75, 76, 77, 78, 79, 80, 81, 82, 90, 91, 92, 93, 94, 95, 96, 97, 98, 99, 100, 101, 102, 103, 104, 105, 106, 107, 108, 109, 110, 111, 112] rfl (by decide +kernel)
set_option maxRecDepth 20000 in
theorem gX3_join_X3_takes : GoodIn wsX3_join (wsV RX3 145 RX3 yX3_takes wsX3_takes) := goodIn_app (goodIn_of _ (by decide +kernel)) ggX3_join_X3_takes
set_option maxRecDepth 20000 in
theorem ggX3_join_X3_isMade : GoodIn wsX3_join wsX3_isMade := goodIn_r _ [86, 87, 1, 3, 88, 89, 90, 91, 92, 93, 94, 95, 96, 97, 98, 99, 100, 101, 102, 103, 104, 105, 106, 107, 108, 109, 110, 111, 112] rfl (by decide +kernel)
set_option maxRecDepth 20000 in
theorem gX3_join_X3_isMade : GoodIn wsX3_join (wsV RX3 148 RX3 yX3_isMade wsX3_isMade) := goodIn_app (goodIn_of _ (by decide +kernel)) ggX3_join_X3_isMade
theorem dX3_join_0 : decode cX3_join 0 = .ok (.aload_n 0, 1) := by decide +kernel
theorem dX3_join_1 : decode cX3_join 1 = .ok (.getfield 72, 3) := by decide +kernel
theorem dX3_join_4 : decode cX3_join 4 = .ok (.bipush 80, 2) := by decide +kernel
theorem dX3_join_6 : decode cX3_join 6 = .ok (.if_icmp .eq 40, 3) := by decide +kernel
theorem dX3_join_9 : decode cX3_join 9 = .ok (.aload_n 0, 1) := by decide +kernel
theorem dX3_join_10 : decode cX3_join 10 = .ok (.getfield 80, 3) := by decide +kernel
theorem dX3_join_13 : decode cX3_join 13 = .ok (.bipush 60, 2) := by decide +kernel
theorem dX3_join_15 : decode cX3_join 15 = .ok (.if_icmp .eq 31, 3) := by decide +kernel
theorem dX3_join_18 : decode cX3_join 18 = .ok (.iload_n 1, 1) := by decide +kernel
theorem dX3_join_19 : decode cX3_join 19 = .ok (.bipush 8, 2) := by decide +kernel
theorem dX3_join_21 : decode cX3_join 21 = .ok (.sipush 200, 3) := by decide +kernel
theorem dX3_join_24 : decode cX3_join 24 = .ok (.invokestatic 76, 3) := by decide +kernel
theorem dX3_join_27 : decode cX3_join 27 = .ok (.ifCond .eq 19, 3) := by decide +kernel
theorem dX3_join_30 : decode cX3_join 30 = .ok (.aload_n 0, 1) := by decide +kernel
theorem dX3_join_31 : decode cX3_join 31 = .ok (.iload_n 2, 1) := by decide +kernel
theorem dX3_join_32 : decode cX3_join 32 = .ok (.invokevirtual 114, 3) := by decide +kernel
theorem dX3_join_35 : decode cX3_join 35 = .ok (.ifCond .eq 11, 3) := by decide +kernel
theorem dX3_join_38 : decode cX3_join 38 = .ok (.aload_n 0, 1) := by decide +kernel
theorem dX3_join_39 : decode cX3_join 39 = .ok (.iload_n 3, 1) := by decide +kernel
theorem dX3_join_40 : decode cX3_join 40 = .ok (.invokevirtual 114, 3) := by decide +kernel
theorem dX3_join_43 : decode cX3_join 43 = .ok (.ifCond .ne 5, 3) := by decide +kernel
theorem dX3_join_46 : decode cX3_join 46 = .ok (.iconst (-1), 1) := by decide +kernel
theorem dX3_join_47 : decode cX3_join 47 = .ok (.ireturn, 1) := by decide +kernel
theorem dX3_join_48 : decode cX3_join 48 = .ok (.aload_n 0, 1) := by decide +kernel
theorem dX3_join_49 : decode cX3_join 49 = .ok (.iconst 3, 1) := by decide +kernel
theorem dX3_join_50 : decode cX3_join 50 = .ok (.iload_n 1, 1) := by decide +kernel
theorem dX3_join_51 : decode cX3_join 51 = .ok (.iload_n 2, 1) := by decide +kernel
theorem dX3_join_52 : decode cX3_join 52 = .ok (.iload_n 3, 1) := by decide +kernel
theorem dX3_join_53 : decode cX3_join 53 = .ok (.iconst 0, 1) := by decide +kernel
theorem dX3_join_54 : decode cX3_join 54 = .ok (.iconst 0, 1) := by decide +kernel
theorem dX3_join_55 : decode cX3_join 55 = .ok (.invokevirtual 138, 3) := by decide +kernel
theorem dX3_join_58 : decode cX3_join 58 = .ok (.aload_n 0, 1) := by decide +kernel
theorem dX3_join_59 : decode cX3_join 59 = .ok (.iconst 1, 1) := by decide +kernel
theorem dX3_join_60 : decode cX3_join 60 = .ok (.invokevirtual 145, 3) := by decide +kernel
theorem dX3_join_63 : decode cX3_join 63 = .ok (.ifCond .ne 5, 3) := by decide +kernel
theorem dX3_join_66 : decode cX3_join 66 = .ok (.iconst (-1), 1) := by decide +kernel
theorem dX3_join_67 : decode cX3_join 67 = .ok (.ireturn, 1) := by decide +kernel
theorem dX3_join_68 : decode cX3_join 68 = .ok (.aload_n 0, 1) := by decide +kernel
theorem dX3_join_69 : decode cX3_join 69 = .ok (.aload_n 0, 1) := by decide +kernel
theorem dX3_join_70 : decode cX3_join 70 = .ok (.getfield 80, 3) := by decide +kernel
theorem dX3_join_73 : decode cX3_join 73 = .ok (.iload_n 2, 1) := by decide +kernel
theorem dX3_join_74 : decode cX3_join 74 = .ok (.iload_n 3, 1) := by decide +kernel
theorem dX3_join_75 : decode cX3_join 75 = .ok (.invokevirtual 148, 3) := by decide +kernel
theorem dX3_join_78 : decode cX3_join 78 = .ok (.aload_n 0, 1) := by decide +kernel
theorem dX3_join_79 : decode cX3_join 79 = .ok (.getfield 34, 3) := by decide +kernel
theorem dX3_join_82 : decode cX3_join 82 = .ok (.iload_n 2, 1) := by decide +kernel
theorem dX3_join_83 : decode cX3_join 83 = .ok (.aload_n 0, 1) := by decide +kernel
theorem dX3_join_84 : decode cX3_join 84 = .ok (.getfield 72, 3) := by decide +kernel
theorem dX3_join_87 : decode cX3_join 87 = .ok (.iastore, 1) := by decide +kernel
theorem dX3_join_88 : decode cX3_join 88 = .ok (.aload_n 0, 1) := by decide +kernel
theorem dX3_join_89 : decode cX3_join 89 = .ok (.getfield 34, 3) := by decide +kernel
theorem dX3_join_92 : decode cX3_join 92 = .ok (.iload_n 3, 1) := by decide +kernel
theorem dX3_join_93 : decode cX3_join 93 = .ok (.aload_n 0, 1) := by decide +kernel
theorem dX3_join_94 : decode cX3_join 94 = .ok (.getfield 72, 3) := by decide +kernel
theorem dX3_join_97 : decode cX3_join 97 = .ok (.iastore, 1) := by decide +kernel
theorem dX3_join_98 : decode cX3_join 98 = .ok (.aload_n 0, 1) := by decide +kernel
theorem dX3_join_99 : decode cX3_join 99 = .ok (.dup, 1) := by decide +kernel
theorem dX3_join_100 : decode cX3_join 100 = .ok (.getfield 72, 3) := by decide +kernel
theorem dX3_join_103 : decode cX3_join 103 = .ok (.iconst 1, 1) := by decide +kernel
theorem dX3_join_104 : decode cX3_join 104 = .ok (.iadd, 1) := by decide +kernel
theorem dX3_join_105 : decode cX3_join 105 = .ok (.putfield 72, 3) := by decide +kernel
theorem dX3_join_108 : decode cX3_join 108 = .ok (.aload_n 0, 1) := by decide +kernel
theorem dX3_join_109 : decode cX3_join 109 = .ok (.dup, 1) := by decide +kernel
theorem dX3_join_110 : decode cX3_join 110 = .ok (.getfield 80, 3) := by decide +kernel
theorem dX3_join_113 : decode cX3_join 113 = .ok (.iconst 1, 1) := by decide +kernel
theorem dX3_join_114 : decode cX3_join 114 = .ok (.iadd, 1) := by decide +kernel
theorem dX3_join_115 : decode cX3_join 115 = .ok (.putfield 80, 3) := by decide +kernel
theorem dX3_join_118 : decode cX3_join 118 = .ok (.aload_n 0, 1) := by decide +kernel
theorem dX3_join_119 : decode cX3_join 119 = .ok (.getfield 80, 3) := by decide +kernel
theorem dX3_join_122 : decode cX3_join 122 = .ok (.iconst 1, 1) := by decide +kernel
theorem dX3_join_123 : decode cX3_join 123 = .ok (.isub, 1) := by decide +kernel
theorem dX3_join_124 : decode cX3_join 124 = .ok (.ireturn, 1) := by decide +kernel

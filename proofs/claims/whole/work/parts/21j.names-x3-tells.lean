set_option maxRecDepth 20000 in
theorem ggX3_tells_X3_is : GoodIn wsX3_tells wsX3_is := goodIn_r _ [10, 11, 12, 13, 14, 9, 15, 16, 17, 18, 19, 20, 21, 22, 23, 24, 25, 26, 27, 28, 29, 30, 31, 32, 33, 34, 35, 36, 37, 38, 39, 40, 41, 42] rfl (by decide +kernel)
set_option maxRecDepth 20000 in
theorem gX3_tells_X3_is : GoodIn wsX3_tells (wsV RX3 117 RX3 yX3_is wsX3_is) := goodIn_app (goodIn_of _ (by decide +kernel)) ggX3_tells_X3_is
theorem dX3_tells_0 : decode cX3_tells 0 = .ok (.aload_n 0, 1) := by decide +kernel
theorem dX3_tells_1 : decode cX3_tells 1 = .ok (.iload_n 1, 1) := by decide +kernel
theorem dX3_tells_2 : decode cX3_tells 2 = .ok (.invokevirtual 117, 3) := by decide +kernel
theorem dX3_tells_5 : decode cX3_tells 5 = .ok (.ifCond .ne 5, 3) := by decide +kernel
theorem dX3_tells_8 : decode cX3_tells 8 = .ok (.iconst (-1), 1) := by decide +kernel
theorem dX3_tells_9 : decode cX3_tells 9 = .ok (.ireturn, 1) := by decide +kernel
theorem dX3_tells_10 : decode cX3_tells 10 = .ok (.iload_n 2, 1) := by decide +kernel
theorem dX3_tells_11 : decode cX3_tells 11 = .ok (.tableswitch 90 0 6 #[41, 48, 55, 62, 62, 62, 75], 41) := by decide +kernel
theorem dX3_tells_52 : decode cX3_tells 52 = .ok (.aload_n 0, 1) := by decide +kernel
theorem dX3_tells_53 : decode cX3_tells 53 = .ok (.getfield 47, 3) := by decide +kernel
theorem dX3_tells_56 : decode cX3_tells 56 = .ok (.iload_n 1, 1) := by decide +kernel
theorem dX3_tells_57 : decode cX3_tells 57 = .ok (.iaload, 1) := by decide +kernel
theorem dX3_tells_58 : decode cX3_tells 58 = .ok (.ireturn, 1) := by decide +kernel
theorem dX3_tells_59 : decode cX3_tells 59 = .ok (.aload_n 0, 1) := by decide +kernel
theorem dX3_tells_60 : decode cX3_tells 60 = .ok (.getfield 50, 3) := by decide +kernel
theorem dX3_tells_63 : decode cX3_tells 63 = .ok (.iload_n 1, 1) := by decide +kernel
theorem dX3_tells_64 : decode cX3_tells 64 = .ok (.iaload, 1) := by decide +kernel
theorem dX3_tells_65 : decode cX3_tells 65 = .ok (.ireturn, 1) := by decide +kernel
theorem dX3_tells_66 : decode cX3_tells 66 = .ok (.aload_n 0, 1) := by decide +kernel
theorem dX3_tells_67 : decode cX3_tells 67 = .ok (.getfield 53, 3) := by decide +kernel
theorem dX3_tells_70 : decode cX3_tells 70 = .ok (.iload_n 1, 1) := by decide +kernel
theorem dX3_tells_71 : decode cX3_tells 71 = .ok (.iaload, 1) := by decide +kernel
theorem dX3_tells_72 : decode cX3_tells 72 = .ok (.ireturn, 1) := by decide +kernel
theorem dX3_tells_73 : decode cX3_tells 73 = .ok (.aload_n 0, 1) := by decide +kernel
theorem dX3_tells_74 : decode cX3_tells 74 = .ok (.getfield 56, 3) := by decide +kernel
theorem dX3_tells_77 : decode cX3_tells 77 = .ok (.iconst 3, 1) := by decide +kernel
theorem dX3_tells_78 : decode cX3_tells 78 = .ok (.iload_n 1, 1) := by decide +kernel
theorem dX3_tells_79 : decode cX3_tells 79 = .ok (.imul, 1) := by decide +kernel
theorem dX3_tells_80 : decode cX3_tells 80 = .ok (.iload_n 2, 1) := by decide +kernel
theorem dX3_tells_81 : decode cX3_tells 81 = .ok (.iadd, 1) := by decide +kernel
theorem dX3_tells_82 : decode cX3_tells 82 = .ok (.iconst 3, 1) := by decide +kernel
theorem dX3_tells_83 : decode cX3_tells 83 = .ok (.isub, 1) := by decide +kernel
theorem dX3_tells_84 : decode cX3_tells 84 = .ok (.iaload, 1) := by decide +kernel
theorem dX3_tells_85 : decode cX3_tells 85 = .ok (.ireturn, 1) := by decide +kernel
theorem dX3_tells_86 : decode cX3_tells 86 = .ok (.aload_n 0, 1) := by decide +kernel
theorem dX3_tells_87 : decode cX3_tells 87 = .ok (.getfield 59, 3) := by decide +kernel
theorem dX3_tells_90 : decode cX3_tells 90 = .ok (.iload_n 1, 1) := by decide +kernel
theorem dX3_tells_91 : decode cX3_tells 91 = .ok (.baload, 1) := by decide +kernel
theorem dX3_tells_92 : decode cX3_tells 92 = .ok (.ifCond .eq 7, 3) := by decide +kernel
theorem dX3_tells_95 : decode cX3_tells 95 = .ok (.iconst 1, 1) := by decide +kernel
theorem dX3_tells_96 : decode cX3_tells 96 = .ok (.goto 4, 3) := by decide +kernel
theorem dX3_tells_99 : decode cX3_tells 99 = .ok (.iconst 0, 1) := by decide +kernel
theorem dX3_tells_100 : decode cX3_tells 100 = .ok (.ireturn, 1) := by decide +kernel
theorem dX3_tells_101 : decode cX3_tells 101 = .ok (.iconst (-1), 1) := by decide +kernel
theorem dX3_tells_102 : decode cX3_tells 102 = .ok (.ireturn, 1) := by decide +kernel
set_option maxRecDepth 20000 in
theorem ggX3_look_X3_isKnowing : GoodIn wsX3_look wsX3_isKnowing := goodIn_r _ [5, 6, 7, 8, 4, 9, 82, 83, 84, 85, 86, 87, 88, 89, 90, 91, 92, 93, 94, 95, 96, 97, 98, 99, 100, 101, 102, 103, 104] rfl (by decide +kernel)
set_option maxRecDepth 20000 in
theorem gX3_look_X3_isKnowing : GoodIn wsX3_look (wsV RX3 93 RX3 yX3_isKnowing wsX3_isKnowing) := goodIn_app (goodIn_of _ (by decide +kernel)) ggX3_look_X3_isKnowing
set_option maxRecDepth 20000 in
theorem ggX3_look_X3_lies : GoodIn wsX3_look wsX3_lies := goodIn_r _ [9] rfl (by decide +kernel)
set_option maxRecDepth 20000 in
theorem gX3_look_X3_lies : GoodIn wsX3_look (va_wsS RX3 76 yX3_lies wsX3_lies) := goodIn_app (goodIn_of _ (by decide +kernel)) ggX3_look_X3_lies
set_option maxRecDepth 20000 in
theorem ggX3_look_X3_isField : GoodIn wsX3_look wsX3_isField := goodIn_r _ [13, 14, 7, 8, 4, 9, 82, 83, 84, 85, 86, 87, 88, 89, 90, 91, 92, 93, 94, 95, 96, 97, 98, 99, 100, 101, 102, 103, 104] rfl (by decide +kernel)
set_option maxRecDepth 20000 in
theorem gX3_look_X3_isField : GoodIn wsX3_look (wsV RX3 114 RX3 yX3_isField wsX3_isField) := goodIn_app (goodIn_of _ (by decide +kernel)) ggX3_look_X3_isField
set_option maxRecDepth 20000 in
theorem ggX3_look_X3_works : GoodIn wsX3_look wsX3_works := goodIn_r _ [18, 19, 20, 21, 22, 23, 24, 25, 4, 26, 27, 28, 29, 30, 31, 32, 33, 34, 35, 36, 37, 10, 11, 12, 13, 14, 7, 8, 9, 38, 39, 40, 41, 42, 43, 44, 45, 46, 47, 48, 49, 50, 51, 52, 53, 54, 55, 56, 57, 58, 59, 60, 61, 62, 63, 64, 65, 66, 67, 68, 69, 70, 71, 72, 73, 74, 75, 76, 77, 82, 83, 84, 85, 86, 87, 88, 89, 90, 91, 92, 93, 94, 95, 96, 97, 98, 99, 100, 101, 102, 103, 104] rfl (by decide +kernel)
set_option maxRecDepth 20000 in
theorem gX3_look_X3_works : GoodIn wsX3_look (wsV RX3 142 RX3 yX3_works wsX3_works) := goodIn_app (goodIn_of _ (by decide +kernel)) ggX3_look_X3_works
set_option maxRecDepth 20000 in
theorem ggX3_look_X3_tells : GoodIn wsX3_look wsX3_tells := goodIn_r _ [81, 29, 31, 32, 56, 33, 34, 35, 36, 4, 37, 19, 10, 11, 12, 13, 14, 7, 8, 9, 82, 83, 84, 85, 86, 87, 88, 89, 90, 91, 92, 93, 94, 95, 96, 97, 98, 99, 100, 101, 102, 103, 104] rfl (by decide +kernel)
set_option maxRecDepth 20000 in
theorem gX3_look_X3_tells : GoodIn wsX3_look (wsV RX3 158 RX3 yX3_tells wsX3_tells) := goodIn_app (goodIn_of _ (by decide +kernel)) ggX3_look_X3_tells
theorem dX3_look_0 : decode cX3_look 0 = .ok (.aload_n 0, 1) := by decide +kernel
theorem dX3_look_1 : decode cX3_look 1 = .ok (.iload_n 1, 1) := by decide +kernel
theorem dX3_look_2 : decode cX3_look 2 = .ok (.invokevirtual 93, 3) := by decide +kernel
theorem dX3_look_5 : decode cX3_look 5 = .ok (.ifCond .eq 22, 3) := by decide +kernel
theorem dX3_look_8 : decode cX3_look 8 = .ok (.iload_n 2, 1) := by decide +kernel
theorem dX3_look_9 : decode cX3_look 9 = .ok (.iconst 0, 1) := by decide +kernel
theorem dX3_look_10 : decode cX3_look 10 = .ok (.sipush 200, 3) := by decide +kernel
theorem dX3_look_13 : decode cX3_look 13 = .ok (.invokestatic 76, 3) := by decide +kernel
theorem dX3_look_16 : decode cX3_look 16 = .ok (.ifCond .eq 11, 3) := by decide +kernel
theorem dX3_look_19 : decode cX3_look 19 = .ok (.aload_n 0, 1) := by decide +kernel
theorem dX3_look_20 : decode cX3_look 20 = .ok (.iload_n 3, 1) := by decide +kernel
theorem dX3_look_21 : decode cX3_look 21 = .ok (.invokevirtual 114, 3) := by decide +kernel
theorem dX3_look_24 : decode cX3_look 24 = .ok (.ifCond .ne 5, 3) := by decide +kernel
theorem dX3_look_27 : decode cX3_look 27 = .ok (.iconst (-1), 1) := by decide +kernel
theorem dX3_look_28 : decode cX3_look 28 = .ok (.ireturn, 1) := by decide +kernel
theorem dX3_look_29 : decode cX3_look 29 = .ok (.aload_n 0, 1) := by decide +kernel
theorem dX3_look_30 : decode cX3_look 30 = .ok (.iload_n 1, 1) := by decide +kernel
theorem dX3_look_31 : decode cX3_look 31 = .ok (.iload_n 2, 1) := by decide +kernel
theorem dX3_look_32 : decode cX3_look 32 = .ok (.iconst (-1), 1) := by decide +kernel
theorem dX3_look_33 : decode cX3_look 33 = .ok (.invokevirtual 142, 3) := by decide +kernel
theorem dX3_look_36 : decode cX3_look 36 = .ok (.istore 5, 2) := by decide +kernel
theorem dX3_look_38 : decode cX3_look 38 = .ok (.aload_n 0, 1) := by decide +kernel
theorem dX3_look_39 : decode cX3_look 39 = .ok (.iload_n 3, 1) := by decide +kernel
theorem dX3_look_40 : decode cX3_look 40 = .ok (.iload 4, 2) := by decide +kernel
theorem dX3_look_42 : decode cX3_look 42 = .ok (.invokevirtual 158, 3) := by decide +kernel
theorem dX3_look_45 : decode cX3_look 45 = .ok (.ireturn, 1) := by decide +kernel

set_option maxRecDepth 20000 in
theorem ggX3_cost_X3_isKnowing : GoodIn wsX3_cost wsX3_isKnowing := goodIn_r _ [10, 11, 12, 13, 9, 14, 83, 84, 85, 86, 87, 88, 89, 90, 91, 92, 93, 94, 95, 96, 97, 98, 99, 100, 101, 102, 103, 104, 105] rfl (by decide +kernel)
set_option maxRecDepth 20000 in
theorem gX3_cost_X3_isKnowing : GoodIn wsX3_cost (wsV RX3 93 RX3 yX3_isKnowing wsX3_isKnowing) := goodIn_app (goodIn_of _ (by decide +kernel)) ggX3_cost_X3_isKnowing
set_option maxRecDepth 20000 in
theorem ggX3_cost_X3_lies : GoodIn wsX3_cost wsX3_lies := goodIn_r _ [14] rfl (by decide +kernel)
set_option maxRecDepth 20000 in
theorem gX3_cost_X3_lies : GoodIn wsX3_cost (va_wsS RX3 76 yX3_lies wsX3_lies) := goodIn_app (goodIn_of _ (by decide +kernel)) ggX3_cost_X3_lies
set_option maxRecDepth 20000 in
theorem ggX3_cost_X3_works : GoodIn wsX3_cost wsX3_works := goodIn_r _ [18, 19, 20, 1, 3, 21, 22, 23, 9, 24, 4, 25, 26, 27, 28, 29, 30, 31, 32, 33, 34, 35, 36, 37, 38, 39, 12, 13, 14, 40, 41, 42, 43, 44, 45, 46, 47, 48, 49, 50, 51, 52, 53, 54, 55, 56, 57, 58, 59, 60, 61, 62, 63, 64, 65, 66, 67, 68, 69, 70, 71, 72, 73, 74, 75, 76, 2, 77, 78, 83, 84, 85, 86, 87, 88, 89, 90, 91, 92, 93, 94, 95, 96, 97, 98, 99, 100, 101, 102, 103, 104, 105] rfl (by decide +kernel)
set_option maxRecDepth 20000 in
theorem gX3_cost_X3_works : GoodIn wsX3_cost (wsV RX3 142 RX3 yX3_works wsX3_works) := goodIn_app (goodIn_of _ (by decide +kernel)) ggX3_cost_X3_works
set_option maxRecDepth 20000 in
theorem ggX3_cost_X3_moneyOf : GoodIn wsX3_cost wsX3_moneyOf := goodIn_r _ [82, 2, 58, 78, 40, 41, 42, 9, 43, 44, 45, 46, 47, 1, 3, 4, 27, 48, 49, 50, 51, 83, 84, 85, 86, 87, 88, 89, 90, 91, 92, 93, 94, 95, 96, 97, 98, 99, 100, 101, 102, 103, 104, 105] rfl (by decide +kernel)
set_option maxRecDepth 20000 in
theorem gX3_cost_X3_moneyOf : GoodIn wsX3_cost (wsV RX3 162 RX3 yX3_moneyOf wsX3_moneyOf) := goodIn_app (goodIn_of _ (by decide +kernel)) ggX3_cost_X3_moneyOf
theorem dX3_cost_0 : decode cX3_cost 0 = .ok (.aload_n 0, 1) := by decide +kernel
theorem dX3_cost_1 : decode cX3_cost 1 = .ok (.iload_n 1, 1) := by decide +kernel
theorem dX3_cost_2 : decode cX3_cost 2 = .ok (.invokevirtual 93, 3) := by decide +kernel
theorem dX3_cost_5 : decode cX3_cost 5 = .ok (.ifCond .eq 25, 3) := by decide +kernel
theorem dX3_cost_8 : decode cX3_cost 8 = .ok (.iload_n 2, 1) := by decide +kernel
theorem dX3_cost_9 : decode cX3_cost 9 = .ok (.iconst 0, 1) := by decide +kernel
theorem dX3_cost_10 : decode cX3_cost 10 = .ok (.iload_n 1, 1) := by decide +kernel
theorem dX3_cost_11 : decode cX3_cost 11 = .ok (.iconst 1, 1) := by decide +kernel
theorem dX3_cost_12 : decode cX3_cost 12 = .ok (.isub, 1) := by decide +kernel
theorem dX3_cost_13 : decode cX3_cost 13 = .ok (.invokestatic 76, 3) := by decide +kernel
theorem dX3_cost_16 : decode cX3_cost 16 = .ok (.ifCond .eq 14, 3) := by decide +kernel
theorem dX3_cost_19 : decode cX3_cost 19 = .ok (.aload_n 0, 1) := by decide +kernel
theorem dX3_cost_20 : decode cX3_cost 20 = .ok (.getfield 7, 3) := by decide +kernel
theorem dX3_cost_23 : decode cX3_cost 23 = .ok (.iload_n 2, 1) := by decide +kernel
theorem dX3_cost_24 : decode cX3_cost 24 = .ok (.iaload, 1) := by decide +kernel
theorem dX3_cost_25 : decode cX3_cost 25 = .ok (.bipush 6, 2) := by decide +kernel
theorem dX3_cost_27 : decode cX3_cost 27 = .ok (.if_icmp .eq 7, 3) := by decide +kernel
theorem dX3_cost_30 : decode cX3_cost 30 = .ok (.ldc2_w 104, 3) := by decide +kernel
theorem dX3_cost_33 : decode cX3_cost 33 = .ok (.lreturn, 1) := by decide +kernel
theorem dX3_cost_34 : decode cX3_cost 34 = .ok (.aload_n 0, 1) := by decide +kernel
theorem dX3_cost_35 : decode cX3_cost 35 = .ok (.iload_n 1, 1) := by decide +kernel
theorem dX3_cost_36 : decode cX3_cost 36 = .ok (.sipush 200, 3) := by decide +kernel
theorem dX3_cost_39 : decode cX3_cost 39 = .ok (.iload_n 2, 1) := by decide +kernel
theorem dX3_cost_40 : decode cX3_cost 40 = .ok (.invokevirtual 142, 3) := by decide +kernel
theorem dX3_cost_43 : decode cX3_cost 43 = .ok (.istore_n 3, 1) := by decide +kernel
theorem dX3_cost_44 : decode cX3_cost 44 = .ok (.aload_n 0, 1) := by decide +kernel
theorem dX3_cost_45 : decode cX3_cost 45 = .ok (.iload_n 1, 1) := by decide +kernel
theorem dX3_cost_46 : decode cX3_cost 46 = .ok (.aload_n 0, 1) := by decide +kernel
theorem dX3_cost_47 : decode cX3_cost 47 = .ok (.getfield 13, 3) := by decide +kernel
theorem dX3_cost_50 : decode cX3_cost 50 = .ok (.iload_n 2, 1) := by decide +kernel
theorem dX3_cost_51 : decode cX3_cost 51 = .ok (.iaload, 1) := by decide +kernel
theorem dX3_cost_52 : decode cX3_cost 52 = .ok (.aload_n 0, 1) := by decide +kernel
theorem dX3_cost_53 : decode cX3_cost 53 = .ok (.getfield 16, 3) := by decide +kernel
theorem dX3_cost_56 : decode cX3_cost 56 = .ok (.iload_n 2, 1) := by decide +kernel
theorem dX3_cost_57 : decode cX3_cost 57 = .ok (.iaload, 1) := by decide +kernel
theorem dX3_cost_58 : decode cX3_cost 58 = .ok (.invokevirtual 162, 3) := by decide +kernel
theorem dX3_cost_61 : decode cX3_cost 61 = .ok (.lstore 4, 2) := by decide +kernel
theorem dX3_cost_63 : decode cX3_cost 63 = .ok (.lload 4, 2) := by decide +kernel
theorem dX3_cost_65 : decode cX3_cost 65 = .ok (.ldc2_w 104, 3) := by decide +kernel
theorem dX3_cost_68 : decode cX3_cost 68 = .ok (.lcmp, 1) := by decide +kernel
theorem dX3_cost_69 : decode cX3_cost 69 = .ok (.ifCond .ne 9, 3) := by decide +kernel
theorem dX3_cost_72 : decode cX3_cost 72 = .ok (.ldc2_w 104, 3) := by decide +kernel
theorem dX3_cost_75 : decode cX3_cost 75 = .ok (.goto 9, 3) := by decide +kernel
theorem dX3_cost_78 : decode cX3_cost 78 = .ok (.ldc2_w 166, 3) := by decide +kernel
theorem dX3_cost_81 : decode cX3_cost 81 = .ok (.lload 4, 2) := by decide +kernel
theorem dX3_cost_83 : decode cX3_cost 83 = .ok (.lmul, 1) := by decide +kernel
theorem dX3_cost_84 : decode cX3_cost 84 = .ok (.lreturn, 1) := by decide +kernel
set_option maxRecDepth 20000 in
theorem ggX3_field_X3_isField : GoodIn wsX3_field wsX3_isField := goodIn_r _ [10, 11, 12, 13, 9, 14, 15, 16, 17, 18, 19, 20, 21, 22, 23, 24, 25, 26, 27, 28, 29, 30, 31, 32, 33, 34, 35, 36, 37] rfl (by decide +kernel)
set_option maxRecDepth 20000 in
theorem gX3_field_X3_isField : GoodIn wsX3_field (wsV RX3 114 RX3 yX3_isField wsX3_isField) := goodIn_app (goodIn_of _ (by decide +kernel)) ggX3_field_X3_isField
theorem dX3_field_0 : decode cX3_field 0 = .ok (.aload_n 0, 1) := by decide +kernel
theorem dX3_field_1 : decode cX3_field 1 = .ok (.iload_n 1, 1) := by decide +kernel
theorem dX3_field_2 : decode cX3_field 2 = .ok (.invokevirtual 114, 3) := by decide +kernel
theorem dX3_field_5 : decode cX3_field 5 = .ok (.ifCond .ne 5, 3) := by decide +kernel
theorem dX3_field_8 : decode cX3_field 8 = .ok (.iconst (-1), 1) := by decide +kernel
theorem dX3_field_9 : decode cX3_field 9 = .ok (.ireturn, 1) := by decide +kernel
theorem dX3_field_10 : decode cX3_field 10 = .ok (.iload_n 2, 1) := by decide +kernel
theorem dX3_field_11 : decode cX3_field 11 = .ok (.tableswitch 103 0 5 #[37, 49, 75, 82, 89, 96], 37) := by decide +kernel
theorem dX3_field_48 : decode cX3_field 48 = .ok (.aload_n 0, 1) := by decide +kernel
theorem dX3_field_49 : decode cX3_field 49 = .ok (.getfield 13, 3) := by decide +kernel
theorem dX3_field_52 : decode cX3_field 52 = .ok (.aload_n 0, 1) := by decide +kernel
theorem dX3_field_53 : decode cX3_field 53 = .ok (.getfield 31, 3) := by decide +kernel
theorem dX3_field_56 : decode cX3_field 56 = .ok (.iload_n 1, 1) := by decide +kernel
theorem dX3_field_57 : decode cX3_field 57 = .ok (.iaload, 1) := by decide +kernel
theorem dX3_field_58 : decode cX3_field 58 = .ok (.iaload, 1) := by decide +kernel
theorem dX3_field_59 : decode cX3_field 59 = .ok (.ireturn, 1) := by decide +kernel
theorem dX3_field_60 : decode cX3_field 60 = .ok (.aload_n 0, 1) := by decide +kernel
theorem dX3_field_61 : decode cX3_field 61 = .ok (.getfield 34, 3) := by decide +kernel
theorem dX3_field_64 : decode cX3_field 64 = .ok (.iload_n 1, 1) := by decide +kernel
theorem dX3_field_65 : decode cX3_field 65 = .ok (.iaload, 1) := by decide +kernel
theorem dX3_field_66 : decode cX3_field 66 = .ok (.iconst (-1), 1) := by decide +kernel
theorem dX3_field_67 : decode cX3_field 67 = .ok (.if_icmp .ne 7, 3) := by decide +kernel
theorem dX3_field_70 : decode cX3_field 70 = .ok (.iconst (-1), 1) := by decide +kernel
theorem dX3_field_71 : decode cX3_field 71 = .ok (.goto 14, 3) := by decide +kernel
theorem dX3_field_74 : decode cX3_field 74 = .ok (.aload_n 0, 1) := by decide +kernel
theorem dX3_field_75 : decode cX3_field 75 = .ok (.getfield 13, 3) := by decide +kernel
theorem dX3_field_78 : decode cX3_field 78 = .ok (.aload_n 0, 1) := by decide +kernel
theorem dX3_field_79 : decode cX3_field 79 = .ok (.getfield 34, 3) := by decide +kernel
theorem dX3_field_82 : decode cX3_field 82 = .ok (.iload_n 1, 1) := by decide +kernel
theorem dX3_field_83 : decode cX3_field 83 = .ok (.iaload, 1) := by decide +kernel
theorem dX3_field_84 : decode cX3_field 84 = .ok (.iaload, 1) := by decide +kernel
theorem dX3_field_85 : decode cX3_field 85 = .ok (.ireturn, 1) := by decide +kernel
theorem dX3_field_86 : decode cX3_field 86 = .ok (.aload_n 0, 1) := by decide +kernel
theorem dX3_field_87 : decode cX3_field 87 = .ok (.getfield 31, 3) := by decide +kernel
theorem dX3_field_90 : decode cX3_field 90 = .ok (.iload_n 1, 1) := by decide +kernel
theorem dX3_field_91 : decode cX3_field 91 = .ok (.iaload, 1) := by decide +kernel
theorem dX3_field_92 : decode cX3_field 92 = .ok (.ireturn, 1) := by decide +kernel
theorem dX3_field_93 : decode cX3_field 93 = .ok (.aload_n 0, 1) := by decide +kernel
theorem dX3_field_94 : decode cX3_field 94 = .ok (.getfield 34, 3) := by decide +kernel
theorem dX3_field_97 : decode cX3_field 97 = .ok (.iload_n 1, 1) := by decide +kernel
theorem dX3_field_98 : decode cX3_field 98 = .ok (.iaload, 1) := by decide +kernel
theorem dX3_field_99 : decode cX3_field 99 = .ok (.ireturn, 1) := by decide +kernel
theorem dX3_field_100 : decode cX3_field 100 = .ok (.aload_n 0, 1) := by decide +kernel
theorem dX3_field_101 : decode cX3_field 101 = .ok (.getfield 37, 3) := by decide +kernel
theorem dX3_field_104 : decode cX3_field 104 = .ok (.iload_n 1, 1) := by decide +kernel
theorem dX3_field_105 : decode cX3_field 105 = .ok (.iaload, 1) := by decide +kernel
theorem dX3_field_106 : decode cX3_field 106 = .ok (.ireturn, 1) := by decide +kernel
theorem dX3_field_107 : decode cX3_field 107 = .ok (.aload_n 0, 1) := by decide +kernel
theorem dX3_field_108 : decode cX3_field 108 = .ok (.getfield 40, 3) := by decide +kernel
theorem dX3_field_111 : decode cX3_field 111 = .ok (.iload_n 1, 1) := by decide +kernel
theorem dX3_field_112 : decode cX3_field 112 = .ok (.iaload, 1) := by decide +kernel
theorem dX3_field_113 : decode cX3_field 113 = .ok (.ireturn, 1) := by decide +kernel
theorem dX3_field_114 : decode cX3_field 114 = .ok (.iconst (-1), 1) := by decide +kernel
theorem dX3_field_115 : decode cX3_field 115 = .ok (.ireturn, 1) := by decide +kernel

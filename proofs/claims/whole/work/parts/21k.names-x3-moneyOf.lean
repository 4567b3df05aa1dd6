set_option maxRecDepth 20000 in
theorem ggX3_moneyOf_X3_averageOf : GoodIn wsX3_moneyOf wsX3_averageOf := goodIn_r _ [8, 9, 10, 11, 7, 12, 13, 14, 15, 16, 17, 18, 19, 20, 21, 22, 23, 24, 25, 26, 27, 28, 29, 30, 31, 32, 33, 34, 35, 36, 37, 38, 39, 40, 41, 42, 43] rfl (by decide +kernel)
set_option maxRecDepth 20000 in
theorem gX3_moneyOf_X3_averageOf : GoodIn wsX3_moneyOf (wsV RX3 97 RX3 yX3_averageOf wsX3_averageOf) := goodIn_app (goodIn_of _ (by decide +kernel)) ggX3_moneyOf_X3_averageOf
set_option maxRecDepth 20000 in
theorem ggX3_moneyOf_X3_nearest : GoodIn wsX3_moneyOf wsX3_nearest := goodIn_r _ [19, 20] rfl (by decide +kernel)
set_option maxRecDepth 20000 in
theorem gX3_moneyOf_X3_nearest : GoodIn wsX3_moneyOf (va_wsS RX3 89 yX3_nearest wsX3_nearest) := goodIn_app (goodIn_of _ (by decide +kernel)) ggX3_moneyOf_X3_nearest
theorem dX3_moneyOf_0 : decode cX3_moneyOf 0 = .ok (.lconst 0, 1) := by decide +kernel
theorem dX3_moneyOf_1 : decode cX3_moneyOf 1 = .ok (.lstore 4, 2) := by decide +kernel
theorem dX3_moneyOf_3 : decode cX3_moneyOf 3 = .ok (.iconst 0, 1) := by decide +kernel
theorem dX3_moneyOf_4 : decode cX3_moneyOf 4 = .ok (.istore 6, 2) := by decide +kernel
theorem dX3_moneyOf_6 : decode cX3_moneyOf 6 = .ok (.iload 6, 2) := by decide +kernel
theorem dX3_moneyOf_8 : decode cX3_moneyOf 8 = .ok (.iconst 3, 1) := by decide +kernel
theorem dX3_moneyOf_9 : decode cX3_moneyOf 9 = .ok (.if_icmp .ge 50, 3) := by decide +kernel
theorem dX3_moneyOf_12 : decode cX3_moneyOf 12 = .ok (.aload_n 0, 1) := by decide +kernel
theorem dX3_moneyOf_13 : decode cX3_moneyOf 13 = .ok (.iload_n 1, 1) := by decide +kernel
theorem dX3_moneyOf_14 : decode cX3_moneyOf 14 = .ok (.iload_n 2, 1) := by decide +kernel
theorem dX3_moneyOf_15 : decode cX3_moneyOf 15 = .ok (.iload 6, 2) := by decide +kernel
theorem dX3_moneyOf_17 : decode cX3_moneyOf 17 = .ok (.invokevirtual 97, 3) := by decide +kernel
theorem dX3_moneyOf_20 : decode cX3_moneyOf 20 = .ok (.istore 7, 2) := by decide +kernel
theorem dX3_moneyOf_22 : decode cX3_moneyOf 22 = .ok (.iload 7, 2) := by decide +kernel
theorem dX3_moneyOf_24 : decode cX3_moneyOf 24 = .ok (.iconst (-1), 1) := by decide +kernel
theorem dX3_moneyOf_25 : decode cX3_moneyOf 25 = .ok (.if_icmp .ne 7, 3) := by decide +kernel
theorem dX3_moneyOf_28 : decode cX3_moneyOf 28 = .ok (.ldc2_w 104, 3) := by decide +kernel
theorem dX3_moneyOf_31 : decode cX3_moneyOf 31 = .ok (.lreturn, 1) := by decide +kernel
theorem dX3_moneyOf_32 : decode cX3_moneyOf 32 = .ok (.lload 4, 2) := by decide +kernel
theorem dX3_moneyOf_34 : decode cX3_moneyOf 34 = .ok (.aload_n 0, 1) := by decide +kernel
theorem dX3_moneyOf_35 : decode cX3_moneyOf 35 = .ok (.getfield 56, 3) := by decide +kernel
theorem dX3_moneyOf_38 : decode cX3_moneyOf 38 = .ok (.iconst 3, 1) := by decide +kernel
theorem dX3_moneyOf_39 : decode cX3_moneyOf 39 = .ok (.iload_n 3, 1) := by decide +kernel
theorem dX3_moneyOf_40 : decode cX3_moneyOf 40 = .ok (.imul, 1) := by decide +kernel
theorem dX3_moneyOf_41 : decode cX3_moneyOf 41 = .ok (.iload 6, 2) := by decide +kernel
theorem dX3_moneyOf_43 : decode cX3_moneyOf 43 = .ok (.iadd, 1) := by decide +kernel
theorem dX3_moneyOf_44 : decode cX3_moneyOf 44 = .ok (.iaload, 1) := by decide +kernel
theorem dX3_moneyOf_45 : decode cX3_moneyOf 45 = .ok (.i2l, 1) := by decide +kernel
theorem dX3_moneyOf_46 : decode cX3_moneyOf 46 = .ok (.iload 7, 2) := by decide +kernel
theorem dX3_moneyOf_48 : decode cX3_moneyOf 48 = .ok (.i2l, 1) := by decide +kernel
theorem dX3_moneyOf_49 : decode cX3_moneyOf 49 = .ok (.lmul, 1) := by decide +kernel
theorem dX3_moneyOf_50 : decode cX3_moneyOf 50 = .ok (.ladd, 1) := by decide +kernel
theorem dX3_moneyOf_51 : decode cX3_moneyOf 51 = .ok (.lstore 4, 2) := by decide +kernel
theorem dX3_moneyOf_53 : decode cX3_moneyOf 53 = .ok (.iinc 6 1, 3) := by decide +kernel
theorem dX3_moneyOf_56 : decode cX3_moneyOf 56 = .ok (.goto (-50), 3) := by decide +kernel
theorem dX3_moneyOf_59 : decode cX3_moneyOf 59 = .ok (.lload 4, 2) := by decide +kernel
theorem dX3_moneyOf_61 : decode cX3_moneyOf 61 = .ok (.ldc2_w 108, 3) := by decide +kernel
theorem dX3_moneyOf_64 : decode cX3_moneyOf 64 = .ok (.invokestatic 89, 3) := by decide +kernel
theorem dX3_moneyOf_67 : decode cX3_moneyOf 67 = .ok (.lreturn, 1) := by decide +kernel
set_option maxRecDepth 20000 in
theorem ggX3_money_X3_isKnowing : GoodIn wsX3_money wsX3_isKnowing := goodIn_r _ [7, 8, 9, 10, 6, 11, 82, 83, 84, 85, 86, 87, 88, 89, 90, 91, 92, 93, 94, 95, 96, 97, 98, 99, 100, 101, 102, 103, 104] rfl (by decide +kernel)
set_option maxRecDepth 20000 in
theorem gX3_money_X3_isKnowing : GoodIn wsX3_money (wsV RX3 93 RX3 yX3_isKnowing wsX3_isKnowing) := goodIn_app (goodIn_of _ (by decide +kernel)) ggX3_money_X3_isKnowing
set_option maxRecDepth 20000 in
theorem ggX3_money_X3_lies : GoodIn wsX3_money wsX3_lies := goodIn_r _ [11] rfl (by decide +kernel)
set_option maxRecDepth 20000 in
theorem gX3_money_X3_lies : GoodIn wsX3_money (va_wsS RX3 76 yX3_lies wsX3_lies) := goodIn_app (goodIn_of _ (by decide +kernel)) ggX3_money_X3_lies
set_option maxRecDepth 20000 in
theorem ggX3_money_X3_isField : GoodIn wsX3_money wsX3_isField := goodIn_r _ [15, 16, 9, 10, 6, 11, 82, 83, 84, 85, 86, 87, 88, 89, 90, 91, 92, 93, 94, 95, 96, 97, 98, 99, 100, 101, 102, 103, 104] rfl (by decide +kernel)
set_option maxRecDepth 20000 in
theorem gX3_money_X3_isField : GoodIn wsX3_money (wsV RX3 114 RX3 yX3_isField wsX3_isField) := goodIn_app (goodIn_of _ (by decide +kernel)) ggX3_money_X3_isField
set_option maxRecDepth 20000 in
theorem ggX3_money_X3_works : GoodIn wsX3_money wsX3_works := goodIn_r _ [20, 2, 21, 22, 23, 24, 25, 26, 6, 27, 28, 29, 30, 31, 32, 33, 34, 35, 36, 37, 38, 12, 13, 14, 15, 16, 9, 10, 11, 39, 40, 41, 42, 43, 44, 45, 46, 47, 48, 49, 50, 51, 52, 53, 54, 55, 56, 57, 58, 59, 60, 61, 62, 63, 64, 65, 66, 67, 68, 69, 70, 71, 72, 73, 74, 75, 1, 76, 77, 82, 83, 84, 85, 86, 87, 88, 89, 90, 91, 92, 93, 94, 95, 96, 97, 98, 99, 100, 101, 102, 103, 104] rfl (by decide +kernel)
set_option maxRecDepth 20000 in
theorem gX3_money_X3_works : GoodIn wsX3_money (wsV RX3 142 RX3 yX3_works wsX3_works) := goodIn_app (goodIn_of _ (by decide +kernel)) ggX3_money_X3_works
set_option maxRecDepth 20000 in
theorem ggX3_money_X3_moneyOf : GoodIn wsX3_money wsX3_moneyOf := goodIn_r _ [81, 1, 57, 77, 39, 40, 41, 6, 42, 43, 44, 45, 46, 22, 23, 28, 31, 47, 48, 49, 50, 82, 83, 84, 85, 86, 87, 88, 89, 90, 91, 92, 93, 94, 95, 96, 97, 98, 99, 100, 101, 102, 103, 104] rfl (by decide +kernel)
set_option maxRecDepth 20000 in
theorem gX3_money_X3_moneyOf : GoodIn wsX3_money (wsV RX3 162 RX3 yX3_moneyOf wsX3_moneyOf) := goodIn_app (goodIn_of _ (by decide +kernel)) ggX3_money_X3_moneyOf
theorem dX3_money_0 : decode cX3_money 0 = .ok (.aload_n 0, 1) := by decide +kernel
theorem dX3_money_1 : decode cX3_money 1 = .ok (.iload_n 1, 1) := by decide +kernel
theorem dX3_money_2 : decode cX3_money 2 = .ok (.invokevirtual 93, 3) := by decide +kernel
theorem dX3_money_5 : decode cX3_money 5 = .ok (.ifCond .eq 22, 3) := by decide +kernel
theorem dX3_money_8 : decode cX3_money 8 = .ok (.iload_n 2, 1) := by decide +kernel
theorem dX3_money_9 : decode cX3_money 9 = .ok (.iconst 1, 1) := by decide +kernel
theorem dX3_money_10 : decode cX3_money 10 = .ok (.sipush 200, 3) := by decide +kernel
theorem dX3_money_13 : decode cX3_money 13 = .ok (.invokestatic 76, 3) := by decide +kernel
theorem dX3_money_16 : decode cX3_money 16 = .ok (.ifCond .eq 11, 3) := by decide +kernel
theorem dX3_money_19 : decode cX3_money 19 = .ok (.aload_n 0, 1) := by decide +kernel
theorem dX3_money_20 : decode cX3_money 20 = .ok (.iload_n 3, 1) := by decide +kernel
theorem dX3_money_21 : decode cX3_money 21 = .ok (.invokevirtual 114, 3) := by decide +kernel
theorem dX3_money_24 : decode cX3_money 24 = .ok (.ifCond .ne 7, 3) := by decide +kernel
theorem dX3_money_27 : decode cX3_money 27 = .ok (.ldc2_w 104, 3) := by decide +kernel
theorem dX3_money_30 : decode cX3_money 30 = .ok (.lreturn, 1) := by decide +kernel
theorem dX3_money_31 : decode cX3_money 31 = .ok (.aload_n 0, 1) := by decide +kernel
theorem dX3_money_32 : decode cX3_money 32 = .ok (.iload_n 1, 1) := by decide +kernel
theorem dX3_money_33 : decode cX3_money 33 = .ok (.iload_n 2, 1) := by decide +kernel
theorem dX3_money_34 : decode cX3_money 34 = .ok (.iconst (-1), 1) := by decide +kernel
theorem dX3_money_35 : decode cX3_money 35 = .ok (.invokevirtual 142, 3) := by decide +kernel
theorem dX3_money_38 : decode cX3_money 38 = .ok (.istore 4, 2) := by decide +kernel
theorem dX3_money_40 : decode cX3_money 40 = .ok (.aload_n 0, 1) := by decide +kernel
theorem dX3_money_41 : decode cX3_money 41 = .ok (.getfield 43, 3) := by decide +kernel
theorem dX3_money_44 : decode cX3_money 44 = .ok (.iload_n 3, 1) := by decide +kernel
theorem dX3_money_45 : decode cX3_money 45 = .ok (.baload, 1) := by decide +kernel
theorem dX3_money_46 : decode cX3_money 46 = .ok (.ifCond .eq 13, 3) := by decide +kernel
theorem dX3_money_49 : decode cX3_money 49 = .ok (.aload_n 0, 1) := by decide +kernel
theorem dX3_money_50 : decode cX3_money 50 = .ok (.iload_n 1, 1) := by decide +kernel
theorem dX3_money_51 : decode cX3_money 51 = .ok (.iload_n 2, 1) := by decide +kernel
theorem dX3_money_52 : decode cX3_money 52 = .ok (.iload_n 3, 1) := by decide +kernel
theorem dX3_money_53 : decode cX3_money 53 = .ok (.invokevirtual 162, 3) := by decide +kernel
theorem dX3_money_56 : decode cX3_money 56 = .ok (.goto 6, 3) := by decide +kernel
theorem dX3_money_59 : decode cX3_money 59 = .ok (.ldc2_w 104, 3) := by decide +kernel
theorem dX3_money_62 : decode cX3_money 62 = .ok (.lreturn, 1) := by decide +kernel

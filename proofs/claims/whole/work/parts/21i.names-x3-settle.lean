set_option maxRecDepth 20000 in
theorem ggX3_settle_X3_lies : GoodIn wsX3_settle wsX3_lies := goodIn_r _ [6] rfl (by decide +kernel)
set_option maxRecDepth 20000 in
theorem gX3_settle_X3_lies : GoodIn wsX3_settle (va_wsS RX3 76 yX3_lies wsX3_lies) := goodIn_app (goodIn_of _ (by decide +kernel)) ggX3_settle_X3_lies
set_option maxRecDepth 20000 in
theorem ggX3_settle_X3_writes : GoodIn wsX3_settle wsX3_writes := goodIn_r _ [10, 11, 1, 12, 13, 14, 15, 16, 17, 87, 88, 89, 90, 91, 92, 93, 94, 95, 96, 97, 98, 99, 100, 101, 102, 103, 104, 105, 106, 107, 108, 109] rfl (by decide +kernel)
set_option maxRecDepth 20000 in
theorem gX3_settle_X3_writes : GoodIn wsX3_settle (wsV RX3 138 RX3 yX3_writes wsX3_writes) := goodIn_app (goodIn_of _ (by decide +kernel)) ggX3_settle_X3_writes
set_option maxRecDepth 20000 in
theorem ggX3_settle_X3_taken : GoodIn wsX3_settle wsX3_taken := goodIn_r _ [21, 1, 22, 23, 24, 5, 25, 17, 26, 27, 28, 29, 30, 31, 32, 11, 12, 33, 34, 35, 36, 13, 14, 37, 15, 38, 39, 40, 41, 42, 43, 44, 45, 46, 47, 48, 3, 4, 6, 49, 50, 51, 52, 53, 54, 55, 56, 57, 58, 59, 60, 61, 62, 63, 64, 16, 65, 66, 67, 68, 69, 70, 71, 72, 73, 74, 75, 76, 77, 78, 79, 80, 81, 82, 83, 84, 85, 86, 87, 88, 89, 90, 91, 92, 93, 94, 95, 96, 97, 98, 99, 100, 101, 102, 103, 104, 105, 106, 107, 108, 109] rfl (by decide +kernel)
set_option maxRecDepth 20000 in
theorem gX3_settle_X3_taken : GoodIn wsX3_settle (wsV RX3 153 RX3 yX3_taken wsX3_taken) := goodIn_app (goodIn_of _ (by decide +kernel)) ggX3_settle_X3_taken
theorem dX3_settle_0 : decode cX3_settle 0 = .ok (.aload_n 0, 1) := by decide +kernel
theorem dX3_settle_1 : decode cX3_settle 1 = .ok (.getfield 72, 3) := by decide +kernel
theorem dX3_settle_4 : decode cX3_settle 4 = .ok (.bipush 80, 2) := by decide +kernel
theorem dX3_settle_6 : decode cX3_settle 6 = .ok (.if_icmp .eq 25, 3) := by decide +kernel
theorem dX3_settle_9 : decode cX3_settle 9 = .ok (.iload_n 1, 1) := by decide +kernel
theorem dX3_settle_10 : decode cX3_settle 10 = .ok (.bipush 8, 2) := by decide +kernel
theorem dX3_settle_12 : decode cX3_settle 12 = .ok (.sipush 200, 3) := by decide +kernel
theorem dX3_settle_15 : decode cX3_settle 15 = .ok (.invokestatic 76, 3) := by decide +kernel
theorem dX3_settle_18 : decode cX3_settle 18 = .ok (.ifCond .eq 13, 3) := by decide +kernel
theorem dX3_settle_21 : decode cX3_settle 21 = .ok (.iload_n 2, 1) := by decide +kernel
theorem dX3_settle_22 : decode cX3_settle 22 = .ok (.iconst 1, 1) := by decide +kernel
theorem dX3_settle_23 : decode cX3_settle 23 = .ok (.ldc 157, 2) := by decide +kernel
theorem dX3_settle_25 : decode cX3_settle 25 = .ok (.invokestatic 76, 3) := by decide +kernel
theorem dX3_settle_28 : decode cX3_settle 28 = .ok (.ifCond .ne 5, 3) := by decide +kernel
theorem dX3_settle_31 : decode cX3_settle 31 = .ok (.iconst (-1), 1) := by decide +kernel
theorem dX3_settle_32 : decode cX3_settle 32 = .ok (.ireturn, 1) := by decide +kernel
theorem dX3_settle_33 : decode cX3_settle 33 = .ok (.aload_n 0, 1) := by decide +kernel
theorem dX3_settle_34 : decode cX3_settle 34 = .ok (.iconst 5, 1) := by decide +kernel
theorem dX3_settle_35 : decode cX3_settle 35 = .ok (.iload_n 1, 1) := by decide +kernel
theorem dX3_settle_36 : decode cX3_settle 36 = .ok (.iconst (-1), 1) := by decide +kernel
theorem dX3_settle_37 : decode cX3_settle 37 = .ok (.iconst (-1), 1) := by decide +kernel
theorem dX3_settle_38 : decode cX3_settle 38 = .ok (.iload_n 2, 1) := by decide +kernel
theorem dX3_settle_39 : decode cX3_settle 39 = .ok (.iconst 0, 1) := by decide +kernel
theorem dX3_settle_40 : decode cX3_settle 40 = .ok (.invokevirtual 138, 3) := by decide +kernel
theorem dX3_settle_43 : decode cX3_settle 43 = .ok (.aload_n 0, 1) := by decide +kernel
theorem dX3_settle_44 : decode cX3_settle 44 = .ok (.invokevirtual 153, 3) := by decide +kernel
theorem dX3_settle_47 : decode cX3_settle 47 = .ok (.ireturn, 1) := by decide +kernel
set_option maxRecDepth 20000 in
theorem ggX3_buy_X3_lies : GoodIn wsX3_buy wsX3_lies := goodIn_r _ [5] rfl (by decide +kernel)
set_option maxRecDepth 20000 in
theorem gX3_buy_X3_lies : GoodIn wsX3_buy (va_wsS RX3 76 yX3_lies wsX3_lies) := goodIn_app (goodIn_of _ (by decide +kernel)) ggX3_buy_X3_lies
set_option maxRecDepth 20000 in
theorem ggX3_buy_X3_isField : GoodIn wsX3_buy wsX3_isField := goodIn_r _ [9, 10, 2, 3, 4, 5, 86, 87, 88, 89, 90, 91, 92, 93, 94, 95, 96, 97, 98, 99, 100, 101, 102, 103, 104, 105, 106, 107, 108] rfl (by decide +kernel)
set_option maxRecDepth 20000 in
theorem gX3_buy_X3_isField : GoodIn wsX3_buy (wsV RX3 114 RX3 yX3_isField wsX3_isField) := goodIn_app (goodIn_of _ (by decide +kernel)) ggX3_buy_X3_isField
set_option maxRecDepth 20000 in
theorem ggX3_buy_X3_writes : GoodIn wsX3_buy wsX3_writes := goodIn_r _ [14, 15, 1, 16, 17, 18, 19, 20, 21, 86, 87, 88, 89, 90, 91, 92, 93, 94, 95, 96, 97, 98, 99, 100, 101, 102, 103, 104, 105, 106, 107, 108] rfl (by decide +kernel)
set_option maxRecDepth 20000 in
theorem gX3_buy_X3_writes : GoodIn wsX3_buy (wsV RX3 138 RX3 yX3_writes wsX3_writes) := goodIn_app (goodIn_of _ (by decide +kernel)) ggX3_buy_X3_writes
set_option maxRecDepth 20000 in
theorem ggX3_buy_X3_taken : GoodIn wsX3_buy wsX3_taken := goodIn_r _ [25, 1, 26, 27, 28, 4, 29, 21, 10, 30, 31, 32, 33, 34, 35, 15, 16, 36, 37, 38, 39, 17, 18, 40, 19, 41, 42, 43, 44, 45, 46, 47, 6, 7, 8, 9, 2, 3, 5, 48, 49, 50, 51, 52, 53, 54, 55, 56, 57, 58, 59, 60, 61, 62, 63, 20, 64, 65, 66, 67, 68, 69, 70, 71, 72, 73, 74, 75, 76, 77, 78, 79, 80, 81, 82, 83, 84, 85, 86, 87, 88, 89, 90, 91, 92, 93, 94, 95, 96, 97, 98, 99, 100, 101, 102, 103, 104, 105, 106, 107, 108] rfl (by decide +kernel)
set_option maxRecDepth 20000 in
theorem gX3_buy_X3_taken : GoodIn wsX3_buy (wsV RX3 153 RX3 yX3_taken wsX3_taken) := goodIn_app (goodIn_of _ (by decide +kernel)) ggX3_buy_X3_taken
theorem dX3_buy_0 : decode cX3_buy 0 = .ok (.aload_n 0, 1) := by decide +kernel
theorem dX3_buy_1 : decode cX3_buy 1 = .ok (.getfield 72, 3) := by decide +kernel
theorem dX3_buy_4 : decode cX3_buy 4 = .ok (.bipush 80, 2) := by decide +kernel
theorem dX3_buy_6 : decode cX3_buy 6 = .ok (.if_icmp .eq 23, 3) := by decide +kernel
theorem dX3_buy_9 : decode cX3_buy 9 = .ok (.iload_n 1, 1) := by decide +kernel
theorem dX3_buy_10 : decode cX3_buy 10 = .ok (.bipush 8, 2) := by decide +kernel
theorem dX3_buy_12 : decode cX3_buy 12 = .ok (.sipush 200, 3) := by decide +kernel
theorem dX3_buy_15 : decode cX3_buy 15 = .ok (.invokestatic 76, 3) := by decide +kernel
theorem dX3_buy_18 : decode cX3_buy 18 = .ok (.ifCond .eq 11, 3) := by decide +kernel
theorem dX3_buy_21 : decode cX3_buy 21 = .ok (.aload_n 0, 1) := by decide +kernel
theorem dX3_buy_22 : decode cX3_buy 22 = .ok (.iload_n 2, 1) := by decide +kernel
theorem dX3_buy_23 : decode cX3_buy 23 = .ok (.invokevirtual 114, 3) := by decide +kernel
theorem dX3_buy_26 : decode cX3_buy 26 = .ok (.ifCond .ne 5, 3) := by decide +kernel
theorem dX3_buy_29 : decode cX3_buy 29 = .ok (.iconst (-1), 1) := by decide +kernel
theorem dX3_buy_30 : decode cX3_buy 30 = .ok (.ireturn, 1) := by decide +kernel
theorem dX3_buy_31 : decode cX3_buy 31 = .ok (.aload_n 0, 1) := by decide +kernel
theorem dX3_buy_32 : decode cX3_buy 32 = .ok (.bipush 6, 2) := by decide +kernel
theorem dX3_buy_34 : decode cX3_buy 34 = .ok (.iload_n 1, 1) := by decide +kernel
theorem dX3_buy_35 : decode cX3_buy 35 = .ok (.iload_n 2, 1) := by decide +kernel
theorem dX3_buy_36 : decode cX3_buy 36 = .ok (.iconst (-1), 1) := by decide +kernel
theorem dX3_buy_37 : decode cX3_buy 37 = .ok (.iconst 0, 1) := by decide +kernel
theorem dX3_buy_38 : decode cX3_buy 38 = .ok (.iconst 0, 1) := by decide +kernel
theorem dX3_buy_39 : decode cX3_buy 39 = .ok (.invokevirtual 138, 3) := by decide +kernel
theorem dX3_buy_42 : decode cX3_buy 42 = .ok (.aload_n 0, 1) := by decide +kernel
theorem dX3_buy_43 : decode cX3_buy 43 = .ok (.invokevirtual 153, 3) := by decide +kernel
theorem dX3_buy_46 : decode cX3_buy 46 = .ok (.ireturn, 1) := by decide +kernel

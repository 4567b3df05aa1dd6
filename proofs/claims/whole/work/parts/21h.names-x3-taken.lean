set_option maxRecDepth 20000 in
theorem ggX3_taken_X3_takes : GoodIn wsX3_taken wsX3_takes := goodIn_r _ [6, 7, 1, 8, 9, 10, 11, 5, 12, 13, 14, 15, 16, 17, 18, 19, 20, 21, 22, 23, 24, 25, 26, 27, 28, 29, 30, 31, 32, 33, 34, 35, 36, 37, 38, 39, 40, 41, 42, 43, 44, 45, 46, 47, 48, 49, 50, 51, 52, 53, 54, 55, 56, 57, 58, 59, 60, 61, 62, 63, 64, 65, 66, 67, 68, 69, 70, 71, 72, 73, 74, 75, 76, 77, 78, 79, 80, 81, 82, 83, 84, 85, 86, 87, 88, 89, 90, 91, 92, 93, 94, 95, 96, 97, 98, 99, 100] rfl (by decide +kernel)
set_option maxRecDepth 20000 in
theorem gX3_taken_X3_takes : GoodIn wsX3_taken (wsV RX3 145 RX3 yX3_takes wsX3_takes) := goodIn_app (goodIn_of _ (by decide +kernel)) ggX3_taken_X3_takes
theorem dX3_taken_0 : decode cX3_taken 0 = .ok (.aload_n 0, 1) := by decide +kernel
theorem dX3_taken_1 : decode cX3_taken 1 = .ok (.iconst 0, 1) := by decide +kernel
theorem dX3_taken_2 : decode cX3_taken 2 = .ok (.invokevirtual 145, 3) := by decide +kernel
theorem dX3_taken_5 : decode cX3_taken 5 = .ok (.ifCond .ne 5, 3) := by decide +kernel
theorem dX3_taken_8 : decode cX3_taken 8 = .ok (.iconst (-1), 1) := by decide +kernel
theorem dX3_taken_9 : decode cX3_taken 9 = .ok (.ireturn, 1) := by decide +kernel
theorem dX3_taken_10 : decode cX3_taken 10 = .ok (.aload_n 0, 1) := by decide +kernel
theorem dX3_taken_11 : decode cX3_taken 11 = .ok (.dup, 1) := by decide +kernel
theorem dX3_taken_12 : decode cX3_taken 12 = .ok (.getfield 72, 3) := by decide +kernel
theorem dX3_taken_15 : decode cX3_taken 15 = .ok (.iconst 1, 1) := by decide +kernel
theorem dX3_taken_16 : decode cX3_taken 16 = .ok (.iadd, 1) := by decide +kernel
theorem dX3_taken_17 : decode cX3_taken 17 = .ok (.putfield 72, 3) := by decide +kernel
theorem dX3_taken_20 : decode cX3_taken 20 = .ok (.aload_n 0, 1) := by decide +kernel
theorem dX3_taken_21 : decode cX3_taken 21 = .ok (.getfield 72, 3) := by decide +kernel
theorem dX3_taken_24 : decode cX3_taken 24 = .ok (.iconst 1, 1) := by decide +kernel
theorem dX3_taken_25 : decode cX3_taken 25 = .ok (.isub, 1) := by decide +kernel
theorem dX3_taken_26 : decode cX3_taken 26 = .ok (.ireturn, 1) := by decide +kernel
set_option maxRecDepth 20000 in
theorem ggX3_sell_X3_lies : GoodIn wsX3_sell wsX3_lies := goodIn_r _ [5] rfl (by decide +kernel)
set_option maxRecDepth 20000 in
theorem gX3_sell_X3_lies : GoodIn wsX3_sell (va_wsS RX3 76 yX3_lies wsX3_lies) := goodIn_app (goodIn_of _ (by decide +kernel)) ggX3_sell_X3_lies
set_option maxRecDepth 20000 in
theorem ggX3_sell_X3_isField : GoodIn wsX3_sell wsX3_isField := goodIn_r _ [9, 10, 2, 3, 4, 5, 86, 87, 88, 89, 90, 91, 92, 93, 94, 95, 96, 97, 98, 99, 100, 101, 102, 103, 104, 105, 106, 107, 108] rfl (by decide +kernel)
set_option maxRecDepth 20000 in
theorem gX3_sell_X3_isField : GoodIn wsX3_sell (wsV RX3 114 RX3 yX3_isField wsX3_isField) := goodIn_app (goodIn_of _ (by decide +kernel)) ggX3_sell_X3_isField
set_option maxRecDepth 20000 in
theorem ggX3_sell_X3_writes : GoodIn wsX3_sell wsX3_writes := goodIn_r _ [14, 15, 1, 16, 17, 18, 19, 20, 21, 86, 87, 88, 89, 90, 91, 92, 93, 94, 95, 96, 97, 98, 99, 100, 101, 102, 103, 104, 105, 106, 107, 108] rfl (by decide +kernel)
set_option maxRecDepth 20000 in
theorem gX3_sell_X3_writes : GoodIn wsX3_sell (wsV RX3 138 RX3 yX3_writes wsX3_writes) := goodIn_app (goodIn_of _ (by decide +kernel)) ggX3_sell_X3_writes
set_option maxRecDepth 20000 in
theorem ggX3_sell_X3_taken : GoodIn wsX3_sell wsX3_taken := goodIn_r _ [25, 1, 26, 27, 28, 4, 29, 21, 10, 30, 31, 32, 33, 34, 35, 15, 16, 36, 37, 38, 39, 17, 18, 40, 19, 41, 42, 43, 44, 45, 46, 47, 6, 7, 8, 9, 2, 3, 5, 48, 49, 50, 51, 52, 53, 54, 55, 56, 57, 58, 59, 60, 61, 62, 63, 20, 64, 65, 66, 67, 68, 69, 70, 71, 72, 73, 74, 75, 76, 77, 78, 79, 80, 81, 82, 83, 84, 85, 86, 87, 88, 89, 90, 91, 92, 93, 94, 95, 96, 97, 98, 99, 100, 101, 102, 103, 104, 105, 106, 107, 108] rfl (by decide +kernel)
set_option maxRecDepth 20000 in
theorem gX3_sell_X3_taken : GoodIn wsX3_sell (wsV RX3 153 RX3 yX3_taken wsX3_taken) := goodIn_app (goodIn_of _ (by decide +kernel)) ggX3_sell_X3_taken
theorem dX3_sell_0 : decode cX3_sell 0 = .ok (.aload_n 0, 1) := by decide +kernel
theorem dX3_sell_1 : decode cX3_sell 1 = .ok (.getfield 72, 3) := by decide +kernel
theorem dX3_sell_4 : decode cX3_sell 4 = .ok (.bipush 80, 2) := by decide +kernel
theorem dX3_sell_6 : decode cX3_sell 6 = .ok (.if_icmp .eq 33, 3) := by decide +kernel
theorem dX3_sell_9 : decode cX3_sell 9 = .ok (.iload_n 1, 1) := by decide +kernel
theorem dX3_sell_10 : decode cX3_sell 10 = .ok (.bipush 8, 2) := by decide +kernel
theorem dX3_sell_12 : decode cX3_sell 12 = .ok (.sipush 200, 3) := by decide +kernel
theorem dX3_sell_15 : decode cX3_sell 15 = .ok (.invokestatic 76, 3) := by decide +kernel
theorem dX3_sell_18 : decode cX3_sell 18 = .ok (.ifCond .eq 21, 3) := by decide +kernel
theorem dX3_sell_21 : decode cX3_sell 21 = .ok (.aload_n 0, 1) := by decide +kernel
theorem dX3_sell_22 : decode cX3_sell 22 = .ok (.iload_n 2, 1) := by decide +kernel
theorem dX3_sell_23 : decode cX3_sell 23 = .ok (.invokevirtual 114, 3) := by decide +kernel
theorem dX3_sell_26 : decode cX3_sell 26 = .ok (.ifCond .eq 13, 3) := by decide +kernel
theorem dX3_sell_29 : decode cX3_sell 29 = .ok (.iload_n 3, 1) := by decide +kernel
theorem dX3_sell_30 : decode cX3_sell 30 = .ok (.iconst 0, 1) := by decide +kernel
theorem dX3_sell_31 : decode cX3_sell 31 = .ok (.bipush 9, 2) := by decide +kernel
theorem dX3_sell_33 : decode cX3_sell 33 = .ok (.invokestatic 76, 3) := by decide +kernel
theorem dX3_sell_36 : decode cX3_sell 36 = .ok (.ifCond .ne 5, 3) := by decide +kernel
theorem dX3_sell_39 : decode cX3_sell 39 = .ok (.iconst (-1), 1) := by decide +kernel
theorem dX3_sell_40 : decode cX3_sell 40 = .ok (.ireturn, 1) := by decide +kernel
theorem dX3_sell_41 : decode cX3_sell 41 = .ok (.aload_n 0, 1) := by decide +kernel
theorem dX3_sell_42 : decode cX3_sell 42 = .ok (.iconst 4, 1) := by decide +kernel
theorem dX3_sell_43 : decode cX3_sell 43 = .ok (.iload_n 1, 1) := by decide +kernel
theorem dX3_sell_44 : decode cX3_sell 44 = .ok (.iload_n 2, 1) := by decide +kernel
theorem dX3_sell_45 : decode cX3_sell 45 = .ok (.iconst (-1), 1) := by decide +kernel
theorem dX3_sell_46 : decode cX3_sell 46 = .ok (.iload_n 3, 1) := by decide +kernel
theorem dX3_sell_47 : decode cX3_sell 47 = .ok (.iconst 0, 1) := by decide +kernel
theorem dX3_sell_48 : decode cX3_sell 48 = .ok (.invokevirtual 138, 3) := by decide +kernel
theorem dX3_sell_51 : decode cX3_sell 51 = .ok (.aload_n 0, 1) := by decide +kernel
theorem dX3_sell_52 : decode cX3_sell 52 = .ok (.invokevirtual 153, 3) := by decide +kernel
theorem dX3_sell_55 : decode cX3_sell 55 = .ok (.ireturn, 1) := by decide +kernel

theorem dX3_writes_0 : decode cX3_writes 0 = .ok (.aload_n 0, 1) := by decide +kernel
theorem dX3_writes_1 : decode cX3_writes 1 = .ok (.getfield 7, 3) := by decide +kernel
theorem dX3_writes_4 : decode cX3_writes 4 = .ok (.aload_n 0, 1) := by decide +kernel
theorem dX3_writes_5 : decode cX3_writes 5 = .ok (.getfield 72, 3) := by decide +kernel
theorem dX3_writes_8 : decode cX3_writes 8 = .ok (.iload_n 1, 1) := by decide +kernel
theorem dX3_writes_9 : decode cX3_writes 9 = .ok (.iastore, 1) := by decide +kernel
theorem dX3_writes_10 : decode cX3_writes 10 = .ok (.aload_n 0, 1) := by decide +kernel
theorem dX3_writes_11 : decode cX3_writes 11 = .ok (.getfield 13, 3) := by decide +kernel
theorem dX3_writes_14 : decode cX3_writes 14 = .ok (.aload_n 0, 1) := by decide +kernel
theorem dX3_writes_15 : decode cX3_writes 15 = .ok (.getfield 72, 3) := by decide +kernel
theorem dX3_writes_18 : decode cX3_writes 18 = .ok (.iload_n 2, 1) := by decide +kernel
theorem dX3_writes_19 : decode cX3_writes 19 = .ok (.iastore, 1) := by decide +kernel
theorem dX3_writes_20 : decode cX3_writes 20 = .ok (.aload_n 0, 1) := by decide +kernel
theorem dX3_writes_21 : decode cX3_writes 21 = .ok (.getfield 16, 3) := by decide +kernel
theorem dX3_writes_24 : decode cX3_writes 24 = .ok (.aload_n 0, 1) := by decide +kernel
theorem dX3_writes_25 : decode cX3_writes 25 = .ok (.getfield 72, 3) := by decide +kernel
theorem dX3_writes_28 : decode cX3_writes 28 = .ok (.iload_n 3, 1) := by decide +kernel
theorem dX3_writes_29 : decode cX3_writes 29 = .ok (.iastore, 1) := by decide +kernel
theorem dX3_writes_30 : decode cX3_writes 30 = .ok (.aload_n 0, 1) := by decide +kernel
theorem dX3_writes_31 : decode cX3_writes 31 = .ok (.getfield 19, 3) := by decide +kernel
theorem dX3_writes_34 : decode cX3_writes 34 = .ok (.aload_n 0, 1) := by decide +kernel
theorem dX3_writes_35 : decode cX3_writes 35 = .ok (.getfield 72, 3) := by decide +kernel
theorem dX3_writes_38 : decode cX3_writes 38 = .ok (.iload 4, 2) := by decide +kernel
theorem dX3_writes_40 : decode cX3_writes 40 = .ok (.iastore, 1) := by decide +kernel
theorem dX3_writes_41 : decode cX3_writes 41 = .ok (.aload_n 0, 1) := by decide +kernel
theorem dX3_writes_42 : decode cX3_writes 42 = .ok (.getfield 22, 3) := by decide +kernel
theorem dX3_writes_45 : decode cX3_writes 45 = .ok (.aload_n 0, 1) := by decide +kernel
theorem dX3_writes_46 : decode cX3_writes 46 = .ok (.getfield 72, 3) := by decide +kernel
theorem dX3_writes_49 : decode cX3_writes 49 = .ok (.iload 5, 2) := by decide +kernel
theorem dX3_writes_51 : decode cX3_writes 51 = .ok (.iastore, 1) := by decide +kernel
theorem dX3_writes_52 : decode cX3_writes 52 = .ok (.aload_n 0, 1) := by decide +kernel
theorem dX3_writes_53 : decode cX3_writes 53 = .ok (.getfield 25, 3) := by decide +kernel
theorem dX3_writes_56 : decode cX3_writes 56 = .ok (.aload_n 0, 1) := by decide +kernel
theorem dX3_writes_57 : decode cX3_writes 57 = .ok (.getfield 72, 3) := by decide +kernel
theorem dX3_writes_60 : decode cX3_writes 60 = .ok (.iload 6, 2) := by decide +kernel
theorem dX3_writes_62 : decode cX3_writes 62 = .ok (.iastore, 1) := by decide +kernel
theorem dX3_writes_63 : decode cX3_writes 63 = .ok (.aload_n 0, 1) := by decide +kernel
theorem dX3_writes_64 : decode cX3_writes 64 = .ok (.getfield 28, 3) := by decide +kernel
theorem dX3_writes_67 : decode cX3_writes 67 = .ok (.aload_n 0, 1) := by decide +kernel
theorem dX3_writes_68 : decode cX3_writes 68 = .ok (.getfield 72, 3) := by decide +kernel
theorem dX3_writes_71 : decode cX3_writes 71 = .ok (.iconst (-1), 1) := by decide +kernel
theorem dX3_writes_72 : decode cX3_writes 72 = .ok (.iastore, 1) := by decide +kernel
theorem dX3_writes_73 : decode cX3_writes 73 = .ok (.return_, 1) := by decide +kernel
set_option maxRecDepth 20000 in
theorem ggX3_price_X3_lies : GoodIn wsX3_price wsX3_lies := goodIn_r _ [5] rfl (by decide +kernel)
set_option maxRecDepth 20000 in
theorem gX3_price_X3_lies : GoodIn wsX3_price (va_wsS RX3 76 yX3_lies wsX3_lies) := goodIn_app (goodIn_of _ (by decide +kernel)) ggX3_price_X3_lies
set_option maxRecDepth 20000 in
theorem ggX3_price_X3_writes : GoodIn wsX3_price wsX3_writes := goodIn_r _ [9, 10, 1, 11, 12, 13, 14, 15, 16, 17, 18, 19, 20, 21, 22, 23, 24, 25, 26, 27, 28, 29, 30, 31, 32, 33, 34, 35, 36, 37, 38, 39] rfl (by decide +kernel)
set_option maxRecDepth 20000 in
theorem gX3_price_X3_writes : GoodIn wsX3_price (wsV RX3 138 RX3 yX3_writes wsX3_writes) := goodIn_app (goodIn_of _ (by decide +kernel)) ggX3_price_X3_writes
theorem dX3_price_0 : decode cX3_price 0 = .ok (.aload_n 0, 1) := by decide +kernel
theorem dX3_price_1 : decode cX3_price 1 = .ok (.getfield 72, 3) := by decide +kernel
theorem dX3_price_4 : decode cX3_price 4 = .ok (.bipush 80, 2) := by decide +kernel
theorem dX3_price_6 : decode cX3_price 6 = .ok (.if_icmp .eq 34, 3) := by decide +kernel
theorem dX3_price_9 : decode cX3_price 9 = .ok (.iload_n 1, 1) := by decide +kernel
theorem dX3_price_10 : decode cX3_price 10 = .ok (.iconst 1, 1) := by decide +kernel
theorem dX3_price_11 : decode cX3_price 11 = .ok (.sipush 200, 3) := by decide +kernel
theorem dX3_price_14 : decode cX3_price 14 = .ok (.invokestatic 76, 3) := by decide +kernel
theorem dX3_price_17 : decode cX3_price 17 = .ok (.ifCond .eq 23, 3) := by decide +kernel
theorem dX3_price_20 : decode cX3_price 20 = .ok (.iload_n 2, 1) := by decide +kernel
theorem dX3_price_21 : decode cX3_price 21 = .ok (.iconst 0, 1) := by decide +kernel
theorem dX3_price_22 : decode cX3_price 22 = .ok (.iconst 2, 1) := by decide +kernel
theorem dX3_price_23 : decode cX3_price 23 = .ok (.invokestatic 76, 3) := by decide +kernel
theorem dX3_price_26 : decode cX3_price 26 = .ok (.ifCond .eq 14, 3) := by decide +kernel
theorem dX3_price_29 : decode cX3_price 29 = .ok (.iload_n 3, 1) := by decide +kernel
theorem dX3_price_30 : decode cX3_price 30 = .ok (.iconst 1, 1) := by decide +kernel
theorem dX3_price_31 : decode cX3_price 31 = .ok (.sipush 1000, 3) := by decide +kernel
theorem dX3_price_34 : decode cX3_price 34 = .ok (.invokestatic 76, 3) := by decide +kernel
theorem dX3_price_37 : decode cX3_price 37 = .ok (.ifCond .ne 5, 3) := by decide +kernel
theorem dX3_price_40 : decode cX3_price 40 = .ok (.iconst (-1), 1) := by decide +kernel
theorem dX3_price_41 : decode cX3_price 41 = .ok (.ireturn, 1) := by decide +kernel
theorem dX3_price_42 : decode cX3_price 42 = .ok (.aload_n 0, 1) := by decide +kernel
theorem dX3_price_43 : decode cX3_price 43 = .ok (.iconst 0, 1) := by decide +kernel
theorem dX3_price_44 : decode cX3_price 44 = .ok (.iload_n 1, 1) := by decide +kernel
theorem dX3_price_45 : decode cX3_price 45 = .ok (.iload_n 2, 1) := by decide +kernel
theorem dX3_price_46 : decode cX3_price 46 = .ok (.iconst (-1), 1) := by decide +kernel
theorem dX3_price_47 : decode cX3_price 47 = .ok (.iload_n 3, 1) := by decide +kernel
theorem dX3_price_48 : decode cX3_price 48 = .ok (.iconst 0, 1) := by decide +kernel
theorem dX3_price_49 : decode cX3_price 49 = .ok (.invokevirtual 138, 3) := by decide +kernel
theorem dX3_price_52 : decode cX3_price 52 = .ok (.aload_n 0, 1) := by decide +kernel
theorem dX3_price_53 : decode cX3_price 53 = .ok (.dup, 1) := by decide +kernel
theorem dX3_price_54 : decode cX3_price 54 = .ok (.getfield 72, 3) := by decide +kernel
theorem dX3_price_57 : decode cX3_price 57 = .ok (.iconst 1, 1) := by decide +kernel
theorem dX3_price_58 : decode cX3_price 58 = .ok (.iadd, 1) := by decide +kernel
theorem dX3_price_59 : decode cX3_price 59 = .ok (.putfield 72, 3) := by decide +kernel
theorem dX3_price_62 : decode cX3_price 62 = .ok (.aload_n 0, 1) := by decide +kernel
theorem dX3_price_63 : decode cX3_price 63 = .ok (.getfield 72, 3) := by decide +kernel
theorem dX3_price_66 : decode cX3_price 66 = .ok (.iconst 1, 1) := by decide +kernel
theorem dX3_price_67 : decode cX3_price 67 = .ok (.isub, 1) := by decide +kernel
theorem dX3_price_68 : decode cX3_price 68 = .ok (.ireturn, 1) := by decide +kernel
theorem dX3_isMade_0 : decode cX3_isMade 0 = .ok (.aload_n 0, 1) := by decide +kernel
theorem dX3_isMade_1 : decode cX3_isMade 1 = .ok (.getfield 31, 3) := by decide +kernel
theorem dX3_isMade_4 : decode cX3_isMade 4 = .ok (.iload_n 1, 1) := by decide +kernel
theorem dX3_isMade_5 : decode cX3_isMade 5 = .ok (.aload_n 0, 1) := by decide +kernel
theorem dX3_isMade_6 : decode cX3_isMade 6 = .ok (.getfield 72, 3) := by decide +kernel
theorem dX3_isMade_9 : decode cX3_isMade 9 = .ok (.iastore, 1) := by decide +kernel
theorem dX3_isMade_10 : decode cX3_isMade 10 = .ok (.aload_n 0, 1) := by decide +kernel
theorem dX3_isMade_11 : decode cX3_isMade 11 = .ok (.getfield 34, 3) := by decide +kernel
theorem dX3_isMade_14 : decode cX3_isMade 14 = .ok (.iload_n 1, 1) := by decide +kernel
theorem dX3_isMade_15 : decode cX3_isMade 15 = .ok (.iconst (-1), 1) := by decide +kernel
theorem dX3_isMade_16 : decode cX3_isMade 16 = .ok (.iastore, 1) := by decide +kernel
theorem dX3_isMade_17 : decode cX3_isMade 17 = .ok (.aload_n 0, 1) := by decide +kernel
theorem dX3_isMade_18 : decode cX3_isMade 18 = .ok (.getfield 37, 3) := by decide +kernel
theorem dX3_isMade_21 : decode cX3_isMade 21 = .ok (.iload_n 1, 1) := by decide +kernel
theorem dX3_isMade_22 : decode cX3_isMade 22 = .ok (.iload_n 2, 1) := by decide +kernel
theorem dX3_isMade_23 : decode cX3_isMade 23 = .ok (.iastore, 1) := by decide +kernel
theorem dX3_isMade_24 : decode cX3_isMade 24 = .ok (.aload_n 0, 1) := by decide +kernel
theorem dX3_isMade_25 : decode cX3_isMade 25 = .ok (.getfield 40, 3) := by decide +kernel
theorem dX3_isMade_28 : decode cX3_isMade 28 = .ok (.iload_n 1, 1) := by decide +kernel
theorem dX3_isMade_29 : decode cX3_isMade 29 = .ok (.iload_n 3, 1) := by decide +kernel
theorem dX3_isMade_30 : decode cX3_isMade 30 = .ok (.iastore, 1) := by decide +kernel
theorem dX3_isMade_31 : decode cX3_isMade 31 = .ok (.return_, 1) := by decide +kernel
set_option maxRecDepth 20000 in
theorem ggX3_takes_X3_works : GoodIn wsX3_takes wsX3_works := goodIn_r _ [8, 9, 10, 11, 12, 13, 14, 15, 7, 16, 17, 18, 19, 20, 21, 22, 23, 24, 25, 26, 27, 28, 29, 30, 31, 3, 32, 33, 34, 35, 36, 37, 38, 39, 40, 41, 42, 43, 44, 45, 46, 47, 48, 49, 50, 1, 51, 52, 53, 54, 55, 56, 57, 58, 59, 60, 61, 62, 63, 64, 65, 66, 67, 68, 69, 70, 71, 72, 73, 74, 75, 76, 77, 78, 79, 80, 81, 82, 83, 84, 85, 86, 87, 88, 89, 90, 91, 92, 93, 94, 95, 96] rfl (by decide +kernel)
set_option maxRecDepth 20000 in
theorem gX3_takes_X3_works : GoodIn wsX3_takes (wsV RX3 142 RX3 yX3_works wsX3_works) := goodIn_app (goodIn_of _ (by decide +kernel)) ggX3_takes_X3_works
theorem dX3_takes_0 : decode cX3_takes 0 = .ok (.iload_n 1, 1) := by decide +kernel
theorem dX3_takes_1 : decode cX3_takes 1 = .ok (.ifCond .le 16, 3) := by decide +kernel
theorem dX3_takes_4 : decode cX3_takes 4 = .ok (.aload_n 0, 1) := by decide +kernel
theorem dX3_takes_5 : decode cX3_takes 5 = .ok (.getfield 28, 3) := by decide +kernel
theorem dX3_takes_8 : decode cX3_takes 8 = .ok (.aload_n 0, 1) := by decide +kernel
theorem dX3_takes_9 : decode cX3_takes 9 = .ok (.getfield 72, 3) := by decide +kernel
theorem dX3_takes_12 : decode cX3_takes 12 = .ok (.aload_n 0, 1) := by decide +kernel
theorem dX3_takes_13 : decode cX3_takes 13 = .ok (.getfield 80, 3) := by decide +kernel
theorem dX3_takes_16 : decode cX3_takes 16 = .ok (.iastore, 1) := by decide +kernel
theorem dX3_takes_17 : decode cX3_takes 17 = .ok (.aload_n 0, 1) := by decide +kernel
theorem dX3_takes_18 : decode cX3_takes 18 = .ok (.dup, 1) := by decide +kernel
theorem dX3_takes_19 : decode cX3_takes 19 = .ok (.getfield 72, 3) := by decide +kernel
theorem dX3_takes_22 : decode cX3_takes 22 = .ok (.iconst 1, 1) := by decide +kernel
theorem dX3_takes_23 : decode cX3_takes 23 = .ok (.iadd, 1) := by decide +kernel
theorem dX3_takes_24 : decode cX3_takes 24 = .ok (.putfield 72, 3) := by decide +kernel
theorem dX3_takes_27 : decode cX3_takes 27 = .ok (.aload_n 0, 1) := by decide +kernel
theorem dX3_takes_28 : decode cX3_takes 28 = .ok (.dup, 1) := by decide +kernel
theorem dX3_takes_29 : decode cX3_takes 29 = .ok (.getfield 80, 3) := by decide +kernel
theorem dX3_takes_32 : decode cX3_takes 32 = .ok (.iload_n 1, 1) := by decide +kernel
theorem dX3_takes_33 : decode cX3_takes 33 = .ok (.iadd, 1) := by decide +kernel
theorem dX3_takes_34 : decode cX3_takes 34 = .ok (.putfield 80, 3) := by decide +kernel
theorem dX3_takes_37 : decode cX3_takes 37 = .ok (.aload_n 0, 1) := by decide +kernel
theorem dX3_takes_38 : decode cX3_takes 38 = .ok (.aload_n 0, 1) := by decide +kernel
theorem dX3_takes_39 : decode cX3_takes 39 = .ok (.getfield 72, 3) := by decide +kernel
theorem dX3_takes_42 : decode cX3_takes 42 = .ok (.sipush 200, 3) := by decide +kernel
theorem dX3_takes_45 : decode cX3_takes 45 = .ok (.iconst (-1), 1) := by decide +kernel
theorem dX3_takes_46 : decode cX3_takes 46 = .ok (.invokevirtual 142, 3) := by decide +kernel
theorem dX3_takes_49 : decode cX3_takes 49 = .ok (.istore_n 2, 1) := by decide +kernel
theorem dX3_takes_50 : decode cX3_takes 50 = .ok (.aload_n 0, 1) := by decide +kernel
theorem dX3_takes_51 : decode cX3_takes 51 = .ok (.dup, 1) := by decide +kernel
theorem dX3_takes_52 : decode cX3_takes 52 = .ok (.getfield 72, 3) := by decide +kernel
theorem dX3_takes_55 : decode cX3_takes 55 = .ok (.iconst 1, 1) := by decide +kernel
theorem dX3_takes_56 : decode cX3_takes 56 = .ok (.isub, 1) := by decide +kernel
theorem dX3_takes_57 : decode cX3_takes 57 = .ok (.putfield 72, 3) := by decide +kernel
theorem dX3_takes_60 : decode cX3_takes 60 = .ok (.aload_n 0, 1) := by decide +kernel
theorem dX3_takes_61 : decode cX3_takes 61 = .ok (.dup, 1) := by decide +kernel
theorem dX3_takes_62 : decode cX3_takes 62 = .ok (.getfield 80, 3) := by decide +kernel
theorem dX3_takes_65 : decode cX3_takes 65 = .ok (.iload_n 1, 1) := by decide +kernel
theorem dX3_takes_66 : decode cX3_takes 66 = .ok (.isub, 1) := by decide +kernel
theorem dX3_takes_67 : decode cX3_takes 67 = .ok (.putfield 80, 3) := by decide +kernel
theorem dX3_takes_70 : decode cX3_takes 70 = .ok (.iload_n 2, 1) := by decide +kernel
theorem dX3_takes_71 : decode cX3_takes 71 = .ok (.ireturn, 1) := by decide +kernel

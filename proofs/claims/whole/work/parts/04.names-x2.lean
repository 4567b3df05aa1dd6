set_option maxRecDepth 20000 in
theorem ggX2_init_X0_init : GoodIn wsX2_init wsX0_init := goodIn_r _ [14, 15, 2, 3, 16, 17, 18, 19, 20, 21, 22, 23, 24, 25, 26, 27, 46, 47, 48, 49, 50, 51, 52, 53, 54, 55, 56, 57, 58, 59] rfl (by decide +kernel)
set_option maxRecDepth 20000 in
theorem gX2_init_X0_init_n9 : GoodIn wsX2_init (wsX0_init) := ggX2_init_X0_init
set_option maxRecDepth 20000 in
theorem ggX2_init_X1_init : GoodIn wsX2_init wsX1_init := goodIn_r _ [30, 31, 2, 3, 32, 33, 16, 34, 35, 36, 37, 38, 39, 40, 41, 42, 43, 44, 45, 63, 64, 65, 66, 67, 68, 69, 70, 71, 72, 73, 74] rfl (by decide +kernel)
set_option maxRecDepth 20000 in
theorem gX2_init_X1_init : GoodIn wsX2_init (wsX1_init) := ggX2_init_X1_init
theorem dX2_init_0 : decode cX2_init 0 = .ok (.aload_n 0, 1) := by decide +kernel
theorem dX2_init_1 : decode cX2_init 1 = .ok (.invokespecial 1, 3) := by decide +kernel
theorem dX2_init_4 : decode cX2_init 4 = .ok (.aload_n 0, 1) := by decide +kernel
theorem dX2_init_5 : decode cX2_init 5 = .ok (.new 7, 3) := by decide +kernel
theorem dX2_init_8 : decode cX2_init 8 = .ok (.dup, 1) := by decide +kernel
theorem dX2_init_9 : decode cX2_init 9 = .ok (.invokespecial 9, 3) := by decide +kernel
theorem dX2_init_12 : decode cX2_init 12 = .ok (.putfield 10, 3) := by decide +kernel
theorem dX2_init_15 : decode cX2_init 15 = .ok (.aload_n 0, 1) := by decide +kernel
theorem dX2_init_16 : decode cX2_init 16 = .ok (.new 16, 3) := by decide +kernel
theorem dX2_init_19 : decode cX2_init 19 = .ok (.dup, 1) := by decide +kernel
theorem dX2_init_20 : decode cX2_init 20 = .ok (.aload_n 0, 1) := by decide +kernel
theorem dX2_init_21 : decode cX2_init 21 = .ok (.getfield 10, 3) := by decide +kernel
theorem dX2_init_24 : decode cX2_init 24 = .ok (.invokespecial 18, 3) := by decide +kernel
theorem dX2_init_27 : decode cX2_init 27 = .ok (.putfield 21, 3) := by decide +kernel
theorem dX2_init_30 : decode cX2_init 30 = .ok (.aload_n 0, 1) := by decide +kernel
theorem dX2_init_31 : decode cX2_init 31 = .ok (.new 16, 3) := by decide +kernel
theorem dX2_init_34 : decode cX2_init 34 = .ok (.dup, 1) := by decide +kernel
theorem dX2_init_35 : decode cX2_init 35 = .ok (.aload_n 0, 1) := by decide +kernel
theorem dX2_init_36 : decode cX2_init 36 = .ok (.getfield 10, 3) := by decide +kernel
theorem dX2_init_39 : decode cX2_init 39 = .ok (.invokespecial 18, 3) := by decide +kernel
theorem dX2_init_42 : decode cX2_init 42 = .ok (.putfield 25, 3) := by decide +kernel
theorem dX2_init_45 : decode cX2_init 45 = .ok (.return_, 1) := by decide +kernel
set_option maxRecDepth 20000 in
theorem ggX2_price_X0_isFull : GoodIn wsX2_price wsX0_isFull := goodIn_r _ [8, 9, 47, 48, 49, 50, 51, 52, 53, 54, 55, 56, 57, 58, 59, 60] rfl (by decide +kernel)
set_option maxRecDepth 20000 in
theorem gX2_price_X0_isFull : GoodIn wsX2_price (wsV RX2 28 RX0 yX0_isFull wsX0_isFull) := goodIn_app (goodIn_of _ (by decide +kernel)) ggX2_price_X0_isFull
set_option maxRecDepth 20000 in
theorem ggX2_price_X2_isWithin : GoodIn wsX2_price wsX2_isWithin := goodIn_r _ [13] rfl (by decide +kernel)
set_option maxRecDepth 20000 in
theorem gX2_price_X2_isWithin : GoodIn wsX2_price (va_wsS RX2 32 yX2_isWithin wsX2_isWithin) := goodIn_app (goodIn_of _ (by decide +kernel)) ggX2_price_X2_isWithin
set_option maxRecDepth 20000 in
theorem ggX2_price_X0_draft : GoodIn wsX2_price wsX0_draft := goodIn_r _ [17, 18, 19, 20, 21, 22, 23, 24, 25, 26, 27, 28, 7, 29, 9, 47, 48, 49, 50, 51, 52, 53, 54, 55, 56, 57, 58, 59, 60] rfl (by decide +kernel)
set_option maxRecDepth 20000 in
theorem gX2_price_X0_draft : GoodIn wsX2_price (wsV RX2 36 RX0 yX0_draft wsX0_draft) := goodIn_app (goodIn_of _ (by decide +kernel)) ggX2_price_X0_draft
set_option maxRecDepth 20000 in
theorem ggX2_price_X0_put : GoodIn wsX2_price wsX0_put := goodIn_r _ [29, 9, 47, 48, 49, 50, 51, 52, 53, 54, 55, 56, 57, 58, 59, 60] rfl (by decide +kernel)
set_option maxRecDepth 20000 in
theorem gX2_price_X0_put : GoodIn wsX2_price (wsV RX2 44 RX0 yX0_put wsX0_put) := goodIn_app (goodIn_of _ (by decide +kernel)) ggX2_price_X0_put
set_option maxRecDepth 20000 in
theorem ggX2_price_X0_keep : GoodIn wsX2_price wsX0_keep := goodIn_r _ [34, 9, 35, 36, 37, 18, 20, 21, 38, 12, 39, 40, 41, 42, 7, 43, 47, 48, 49, 50, 51, 52, 53, 54, 55, 56, 57, 58, 59, 60] rfl (by decide +kernel)
set_option maxRecDepth 20000 in
theorem gX2_price_X0_keep : GoodIn wsX2_price (wsV RX2 51 RX0 yX0_keep wsX0_keep) := goodIn_app (goodIn_of _ (by decide +kernel)) ggX2_price_X0_keep
theorem dX2_price_0 : decode cX2_price 0 = .ok (.aload_n 0, 1) := by decide +kernel
theorem dX2_price_1 : decode cX2_price 1 = .ok (.getfield 10, 3) := by decide +kernel
theorem dX2_price_4 : decode cX2_price 4 = .ok (.invokevirtual 28, 3) := by decide +kernel
theorem dX2_price_7 : decode cX2_price 7 = .ok (.ifCond .ne 34, 3) := by decide +kernel
theorem dX2_price_10 : decode cX2_price 10 = .ok (.iload_n 1, 1) := by decide +kernel
theorem dX2_price_11 : decode cX2_price 11 = .ok (.iconst 1, 1) := by decide +kernel
theorem dX2_price_12 : decode cX2_price 12 = .ok (.sipush 200, 3) := by decide +kernel
theorem dX2_price_15 : decode cX2_price 15 = .ok (.invokestatic 32, 3) := by decide +kernel
theorem dX2_price_18 : decode cX2_price 18 = .ok (.ifCond .eq 23, 3) := by decide +kernel
theorem dX2_price_21 : decode cX2_price 21 = .ok (.iload_n 2, 1) := by decide +kernel
theorem dX2_price_22 : decode cX2_price 22 = .ok (.iconst 0, 1) := by decide +kernel
theorem dX2_price_23 : decode cX2_price 23 = .ok (.iconst 2, 1) := by decide +kernel
theorem dX2_price_24 : decode cX2_price 24 = .ok (.invokestatic 32, 3) := by decide +kernel
theorem dX2_price_27 : decode cX2_price 27 = .ok (.ifCond .eq 14, 3) := by decide +kernel
theorem dX2_price_30 : decode cX2_price 30 = .ok (.iload_n 3, 1) := by decide +kernel
theorem dX2_price_31 : decode cX2_price 31 = .ok (.iconst 1, 1) := by decide +kernel
theorem dX2_price_32 : decode cX2_price 32 = .ok (.sipush 1000, 3) := by decide +kernel
theorem dX2_price_35 : decode cX2_price 35 = .ok (.invokestatic 32, 3) := by decide +kernel
theorem dX2_price_38 : decode cX2_price 38 = .ok (.ifCond .ne 5, 3) := by decide +kernel
theorem dX2_price_41 : decode cX2_price 41 = .ok (.iconst (-1), 1) := by decide +kernel
theorem dX2_price_42 : decode cX2_price 42 = .ok (.ireturn, 1) := by decide +kernel
theorem dX2_price_43 : decode cX2_price 43 = .ok (.aload_n 0, 1) := by decide +kernel
theorem dX2_price_44 : decode cX2_price 44 = .ok (.getfield 10, 3) := by decide +kernel
theorem dX2_price_47 : decode cX2_price 47 = .ok (.iconst 0, 1) := by decide +kernel
theorem dX2_price_48 : decode cX2_price 48 = .ok (.iload_n 1, 1) := by decide +kernel
theorem dX2_price_49 : decode cX2_price 49 = .ok (.invokevirtual 36, 3) := by decide +kernel
theorem dX2_price_52 : decode cX2_price 52 = .ok (.aload_n 0, 1) := by decide +kernel
theorem dX2_price_53 : decode cX2_price 53 = .ok (.getfield 10, 3) := by decide +kernel
theorem dX2_price_56 : decode cX2_price 56 = .ok (.aload_n 0, 1) := by decide +kernel
theorem dX2_price_57 : decode cX2_price 57 = .ok (.getfield 10, 3) := by decide +kernel
theorem dX2_price_60 : decode cX2_price 60 = .ok (.getfield 40, 3) := by decide +kernel
theorem dX2_price_63 : decode cX2_price 63 = .ok (.iload_n 2, 1) := by decide +kernel
theorem dX2_price_64 : decode cX2_price 64 = .ok (.invokevirtual 44, 3) := by decide +kernel
theorem dX2_price_67 : decode cX2_price 67 = .ok (.aload_n 0, 1) := by decide +kernel
theorem dX2_price_68 : decode cX2_price 68 = .ok (.getfield 10, 3) := by decide +kernel
theorem dX2_price_71 : decode cX2_price 71 = .ok (.aload_n 0, 1) := by decide +kernel
theorem dX2_price_72 : decode cX2_price 72 = .ok (.getfield 10, 3) := by decide +kernel
theorem dX2_price_75 : decode cX2_price 75 = .ok (.getfield 48, 3) := by decide +kernel
theorem dX2_price_78 : decode cX2_price 78 = .ok (.iload_n 3, 1) := by decide +kernel
theorem dX2_price_79 : decode cX2_price 79 = .ok (.invokevirtual 44, 3) := by decide +kernel
theorem dX2_price_82 : decode cX2_price 82 = .ok (.aload_n 0, 1) := by decide +kernel
theorem dX2_price_83 : decode cX2_price 83 = .ok (.getfield 10, 3) := by decide +kernel
theorem dX2_price_86 : decode cX2_price 86 = .ok (.iconst 0, 1) := by decide +kernel
theorem dX2_price_87 : decode cX2_price 87 = .ok (.invokevirtual 51, 3) := by decide +kernel
theorem dX2_price_90 : decode cX2_price 90 = .ok (.ireturn, 1) := by decide +kernel
set_option maxRecDepth 20000 in
theorem ggX2_make_X2_isActPossible : GoodIn wsX2_make wsX2_isActPossible := goodIn_r _ [9, 1, 10, 11, 12, 13, 14, 15, 16, 17, 18, 8, 19, 171, 172, 173, 174, 175, 176, 177, 178, 179, 180, 181, 182, 183, 184, 185, 186, 187] rfl (by decide +kernel)
set_option maxRecDepth 20000 in
theorem gX2_make_X2_isActPossible : GoodIn wsX2_make (wsV RX2 55 RX2 yX2_isActPossible wsX2_isActPossible) := goodIn_app (goodIn_of _ (by decide +kernel)) ggX2_make_X2_isActPossible
set_option maxRecDepth 20000 in
theorem ggX2_make_X2_isWithin : GoodIn wsX2_make wsX2_isWithin := goodIn_r _ [19] rfl (by decide +kernel)
set_option maxRecDepth 20000 in
theorem gX2_make_X2_isWithin : GoodIn wsX2_make (va_wsS RX2 32 yX2_isWithin wsX2_isWithin) := goodIn_app (goodIn_of _ (by decide +kernel)) ggX2_make_X2_isWithin
set_option maxRecDepth 20000 in
theorem ggX2_make_X2_isOwner : GoodIn wsX2_make wsX2_isOwner := goodIn_r _ [22, 17, 18, 8, 19] rfl (by decide +kernel)
set_option maxRecDepth 20000 in
theorem gX2_make_X2_isOwner : GoodIn wsX2_make (va_wsS RX2 59 yX2_isOwner wsX2_isOwner) := goodIn_app (goodIn_of _ (by decide +kernel)) ggX2_make_X2_isOwner
set_option maxRecDepth 20000 in
theorem ggX2_make_X0_draft : GoodIn wsX2_make wsX0_draft := goodIn_r _ [26, 27, 28, 29, 30, 31, 32, 33, 34, 35, 36, 37, 14, 38, 16, 174, 175, 176, 177, 178, 179, 180, 181, 182, 183, 184, 185, 186, 187] rfl (by decide +kernel)
set_option maxRecDepth 20000 in
theorem gX2_make_X0_draft : GoodIn wsX2_make (wsV RX2 36 RX0 yX0_draft wsX0_draft) := goodIn_app (goodIn_of _ (by decide +kernel)) ggX2_make_X0_draft
set_option maxRecDepth 20000 in
theorem ggX2_make_X0_put : GoodIn wsX2_make wsX0_put := goodIn_r _ [38, 16, 174, 175, 176, 177, 178, 179, 180, 181, 182, 183, 184, 185, 186, 187] rfl (by decide +kernel)
set_option maxRecDepth 20000 in
theorem gX2_make_X0_put : GoodIn wsX2_make (wsV RX2 44 RX0 yX0_put wsX0_put) := goodIn_app (goodIn_of _ (by decide +kernel)) ggX2_make_X0_put
set_option maxRecDepth 20000 in
theorem ggX2_make_X2_takeDraft : GoodIn wsX2_make wsX2_takeDraft := goodIn_r _ [43, 1, 44, 10, 45, 46, 39, 36, 37, 14, 38, 16, 47, 48, 49, 50, 51, 28, 52, 53, 8, 54, 55, 56, 57, 58, 59, 60, 61, 62, 63, 64, 65, 66, 67, 68, 69, 70, 71, 72, 73, 74, 75, 76, 77, 78, 79, 80, 81, 82, 83, 84, 85, 86, 87, 88, 89, 90, 91, 92, 93, 94, 95, 96, 97, 98, 99, 100, 101, 102, 103, 104, 105, 106, 107, 108, 109, 110, 111, 112, 113, 114, 115, 116, 117, 118, 119, 120, 121, 122, 123, 124, 125, 126, 127, 128, 129, 130, 27, 29, 31, 131, 132, 133, 134, 135, 136, 137, 138, 139, 140, 141, 142, 143, 144, 145, 146, 147, 148, 149, 150, 151, 152, 153, 154, 155, 156, 157, 158, 159, 160, 161, 30, 162, 163, 164, 165, 171, 172, 173, 174, 175, 176, 177, 178, 179, 180, 181, 182, 183, 184, 185, 186, 187, 188, 189, 190, 191, 192, 193, 194, 195, 196, 197, 198, 199] rfl (by decide +kernel)
set_option maxRecDepth 20000 in
theorem gX2_make_X2_takeDraft : GoodIn wsX2_make (wsV RX2 69 RX2 yX2_takeDraft wsX2_takeDraft) := goodIn_app (goodIn_of _ (by decide +kernel)) ggX2_make_X2_takeDraft
set_option maxRecDepth 20000 in
theorem ggX2_make_X2_firstMadeBy : GoodIn wsX2_make wsX2_firstMadeBy := goodIn_r _ [169, 1, 44, 170, 53, 8, 54, 171, 172, 173, 174, 175, 176, 177, 178, 179, 180, 181, 182, 183, 184, 185, 186, 187] rfl (by decide +kernel)
set_option maxRecDepth 20000 in
theorem gX2_make_X2_firstMadeBy : GoodIn wsX2_make (wsV RX2 72 RX2 yX2_firstMadeBy wsX2_firstMadeBy) := goodIn_app (goodIn_of _ (by decide +kernel)) ggX2_make_X2_firstMadeBy
theorem dX2_make_0 : decode cX2_make 0 = .ok (.aload_n 0, 1) := by decide +kernel
theorem dX2_make_1 : decode cX2_make 1 = .ok (.iload_n 1, 1) := by decide +kernel
theorem dX2_make_2 : decode cX2_make 2 = .ok (.iconst 1, 1) := by decide +kernel
theorem dX2_make_3 : decode cX2_make 3 = .ok (.invokevirtual 55, 3) := by decide +kernel
theorem dX2_make_6 : decode cX2_make 6 = .ok (.ifCond .eq 31, 3) := by decide +kernel
theorem dX2_make_9 : decode cX2_make 9 = .ok (.iload_n 2, 1) := by decide +kernel
theorem dX2_make_10 : decode cX2_make 10 = .ok (.iconst 1, 1) := by decide +kernel
theorem dX2_make_11 : decode cX2_make 11 = .ok (.sipush 10000, 3) := by decide +kernel
theorem dX2_make_14 : decode cX2_make 14 = .ok (.invokestatic 32, 3) := by decide +kernel
theorem dX2_make_17 : decode cX2_make 17 = .ok (.ifCond .eq 20, 3) := by decide +kernel
theorem dX2_make_20 : decode cX2_make 20 = .ok (.iload_n 3, 1) := by decide +kernel
theorem dX2_make_21 : decode cX2_make 21 = .ok (.iconst 0, 1) := by decide +kernel
theorem dX2_make_22 : decode cX2_make 22 = .ok (.iconst 2, 1) := by decide +kernel
theorem dX2_make_23 : decode cX2_make 23 = .ok (.invokestatic 32, 3) := by decide +kernel
theorem dX2_make_26 : decode cX2_make 26 = .ok (.ifCond .eq 11, 3) := by decide +kernel
theorem dX2_make_29 : decode cX2_make 29 = .ok (.iload 4, 2) := by decide +kernel
theorem dX2_make_31 : decode cX2_make 31 = .ok (.invokestatic 59, 3) := by decide +kernel
theorem dX2_make_34 : decode cX2_make 34 = .ok (.ifCond .ne 5, 3) := by decide +kernel
theorem dX2_make_37 : decode cX2_make 37 = .ok (.iconst (-1), 1) := by decide +kernel
theorem dX2_make_38 : decode cX2_make 38 = .ok (.ireturn, 1) := by decide +kernel
theorem dX2_make_39 : decode cX2_make 39 = .ok (.aload_n 0, 1) := by decide +kernel
theorem dX2_make_40 : decode cX2_make 40 = .ok (.getfield 10, 3) := by decide +kernel
theorem dX2_make_43 : decode cX2_make 43 = .ok (.iconst 1, 1) := by decide +kernel
theorem dX2_make_44 : decode cX2_make 44 = .ok (.iload_n 1, 1) := by decide +kernel
theorem dX2_make_45 : decode cX2_make 45 = .ok (.invokevirtual 36, 3) := by decide +kernel
theorem dX2_make_48 : decode cX2_make 48 = .ok (.aload_n 0, 1) := by decide +kernel
theorem dX2_make_49 : decode cX2_make 49 = .ok (.getfield 10, 3) := by decide +kernel
theorem dX2_make_52 : decode cX2_make 52 = .ok (.aload_n 0, 1) := by decide +kernel
theorem dX2_make_53 : decode cX2_make 53 = .ok (.getfield 10, 3) := by decide +kernel
theorem dX2_make_56 : decode cX2_make 56 = .ok (.getfield 48, 3) := by decide +kernel
theorem dX2_make_59 : decode cX2_make 59 = .ok (.iload_n 2, 1) := by decide +kernel
theorem dX2_make_60 : decode cX2_make 60 = .ok (.invokevirtual 44, 3) := by decide +kernel
theorem dX2_make_63 : decode cX2_make 63 = .ok (.aload_n 0, 1) := by decide +kernel
theorem dX2_make_64 : decode cX2_make 64 = .ok (.getfield 10, 3) := by decide +kernel
theorem dX2_make_67 : decode cX2_make 67 = .ok (.aload_n 0, 1) := by decide +kernel
theorem dX2_make_68 : decode cX2_make 68 = .ok (.getfield 10, 3) := by decide +kernel
theorem dX2_make_71 : decode cX2_make 71 = .ok (.getfield 63, 3) := by decide +kernel
theorem dX2_make_74 : decode cX2_make 74 = .ok (.iload_n 3, 1) := by decide +kernel
theorem dX2_make_75 : decode cX2_make 75 = .ok (.invokevirtual 44, 3) := by decide +kernel
theorem dX2_make_78 : decode cX2_make 78 = .ok (.aload_n 0, 1) := by decide +kernel
theorem dX2_make_79 : decode cX2_make 79 = .ok (.getfield 10, 3) := by decide +kernel
theorem dX2_make_82 : decode cX2_make 82 = .ok (.aload_n 0, 1) := by decide +kernel
theorem dX2_make_83 : decode cX2_make 83 = .ok (.getfield 10, 3) := by decide +kernel
theorem dX2_make_86 : decode cX2_make 86 = .ok (.getfield 66, 3) := by decide +kernel
theorem dX2_make_89 : decode cX2_make 89 = .ok (.iload 4, 2) := by decide +kernel
theorem dX2_make_91 : decode cX2_make 91 = .ok (.invokevirtual 44, 3) := by decide +kernel
theorem dX2_make_94 : decode cX2_make 94 = .ok (.aload_n 0, 1) := by decide +kernel
theorem dX2_make_95 : decode cX2_make 95 = .ok (.aload_n 0, 1) := by decide +kernel
theorem dX2_make_96 : decode cX2_make 96 = .ok (.iconst 1, 1) := by decide +kernel
theorem dX2_make_97 : decode cX2_make 97 = .ok (.invokevirtual 69, 3) := by decide +kernel
theorem dX2_make_100 : decode cX2_make 100 = .ok (.invokevirtual 72, 3) := by decide +kernel
theorem dX2_make_103 : decode cX2_make 103 = .ok (.ireturn, 1) := by decide +kernel
set_option maxRecDepth 20000 in
theorem ggX2_part_X2_isActPossible : GoodIn wsX2_part wsX2_isActPossible := goodIn_r _ [8, 1, 9, 10, 11, 12, 13, 14, 15, 16, 17, 7, 18, 171, 172, 173, 174, 175, 176, 177, 178, 179, 180, 181, 182, 183, 184, 185, 186, 187] rfl (by decide +kernel)
set_option maxRecDepth 20000 in
theorem gX2_part_X2_isActPossible : GoodIn wsX2_part (wsV RX2 55 RX2 yX2_isActPossible wsX2_isActPossible) := goodIn_app (goodIn_of _ (by decide +kernel)) ggX2_part_X2_isActPossible
set_option maxRecDepth 20000 in
theorem ggX2_part_X2_isField : GoodIn wsX2_part wsX2_isField := goodIn_r _ [22, 1, 9, 16, 17, 7, 18, 171, 172, 173, 174, 175, 176, 177, 178, 179, 180, 181, 182, 183, 184, 185, 186, 187] rfl (by decide +kernel)
set_option maxRecDepth 20000 in
theorem gX2_part_X2_isField : GoodIn wsX2_part (wsV RX2 75 RX2 yX2_isField wsX2_isField) := goodIn_app (goodIn_of _ (by decide +kernel)) ggX2_part_X2_isField
set_option maxRecDepth 20000 in
theorem ggX2_part_X0_draft : GoodIn wsX2_part wsX0_draft := goodIn_r _ [26, 27, 28, 29, 30, 31, 32, 33, 34, 35, 36, 37, 13, 38, 15, 174, 175, 176, 177, 178, 179, 180, 181, 182, 183, 184, 185, 186, 187] rfl (by decide +kernel)
set_option maxRecDepth 20000 in
theorem gX2_part_X0_draft : GoodIn wsX2_part (wsV RX2 36 RX0 yX0_draft wsX0_draft) := goodIn_app (goodIn_of _ (by decide +kernel)) ggX2_part_X0_draft
set_option maxRecDepth 20000 in
theorem ggX2_part_X0_put : GoodIn wsX2_part wsX0_put := goodIn_r _ [38, 15, 174, 175, 176, 177, 178, 179, 180, 181, 182, 183, 184, 185, 186, 187] rfl (by decide +kernel)
set_option maxRecDepth 20000 in
theorem gX2_part_X0_put : GoodIn wsX2_part (wsV RX2 44 RX0 yX0_put wsX0_put) := goodIn_app (goodIn_of _ (by decide +kernel)) ggX2_part_X0_put
set_option maxRecDepth 20000 in
theorem ggX2_part_X2_takeDraft : GoodIn wsX2_part wsX2_takeDraft := goodIn_r _ [43, 1, 44, 9, 45, 46, 39, 36, 37, 13, 38, 15, 47, 48, 49, 50, 51, 28, 52, 53, 7, 54, 55, 56, 57, 58, 59, 60, 61, 62, 63, 64, 65, 66, 67, 68, 69, 70, 71, 72, 73, 74, 75, 76, 77, 78, 79, 80, 81, 82, 83, 84, 85, 86, 87, 88, 89, 90, 91, 92, 93, 94, 95, 96, 97, 98, 99, 100, 101, 102, 103, 104, 105, 106, 107, 108, 109, 110, 111, 112, 113, 114, 115, 116, 117, 118, 119, 120, 121, 122, 123, 124, 125, 126, 127, 128, 129, 130, 27, 29, 31, 131, 132, 133, 134, 135, 136, 137, 138, 139, 140, 141, 142, 143, 144, 145, 146, 147, 148, 149, 150, 151, 152, 153, 154, 155, 156, 157, 158, 159, 160, 161, 30, 162, 163, 164, 165, 171, 172, 173, 174, 175, 176, 177, 178, 179, 180, 181, 182, 183, 184, 185, 186, 187, 188, 189, 190, 191, 192, 193, 194, 195, 196, 197, 198, 199] rfl (by decide +kernel)
set_option maxRecDepth 20000 in
theorem gX2_part_X2_takeDraft : GoodIn wsX2_part (wsV RX2 69 RX2 yX2_takeDraft wsX2_takeDraft) := goodIn_app (goodIn_of _ (by decide +kernel)) ggX2_part_X2_takeDraft
set_option maxRecDepth 20000 in
theorem ggX2_part_X2_firstMadeBy : GoodIn wsX2_part wsX2_firstMadeBy := goodIn_r _ [169, 1, 44, 170, 53, 7, 54, 171, 172, 173, 174, 175, 176, 177, 178, 179, 180, 181, 182, 183, 184, 185, 186, 187] rfl (by decide +kernel)
set_option maxRecDepth 20000 in
theorem gX2_part_X2_firstMadeBy : GoodIn wsX2_part (wsV RX2 72 RX2 yX2_firstMadeBy wsX2_firstMadeBy) := goodIn_app (goodIn_of _ (by decide +kernel)) ggX2_part_X2_firstMadeBy
theorem dX2_part_0 : decode cX2_part 0 = .ok (.aload_n 0, 1) := by decide +kernel
theorem dX2_part_1 : decode cX2_part 1 = .ok (.iload_n 1, 1) := by decide +kernel
theorem dX2_part_2 : decode cX2_part 2 = .ok (.iconst 2, 1) := by decide +kernel
theorem dX2_part_3 : decode cX2_part 3 = .ok (.invokevirtual 55, 3) := by decide +kernel
theorem dX2_part_6 : decode cX2_part 6 = .ok (.ifCond .eq 16, 3) := by decide +kernel
theorem dX2_part_9 : decode cX2_part 9 = .ok (.aload_n 0, 1) := by decide +kernel
theorem dX2_part_10 : decode cX2_part 10 = .ok (.iload_n 2, 1) := by decide +kernel
theorem dX2_part_11 : decode cX2_part 11 = .ok (.invokevirtual 75, 3) := by decide +kernel
theorem dX2_part_14 : decode cX2_part 14 = .ok (.ifCond .eq 8, 3) := by decide +kernel
theorem dX2_part_17 : decode cX2_part 17 = .ok (.iload_n 3, 1) := by decide +kernel
theorem dX2_part_18 : decode cX2_part 18 = .ok (.iconst 1, 1) := by decide +kernel
theorem dX2_part_19 : decode cX2_part 19 = .ok (.if_icmp .ge 5, 3) := by decide +kernel
theorem dX2_part_22 : decode cX2_part 22 = .ok (.iconst (-1), 1) := by decide +kernel
theorem dX2_part_23 : decode cX2_part 23 = .ok (.ireturn, 1) := by decide +kernel
theorem dX2_part_24 : decode cX2_part 24 = .ok (.aload_n 0, 1) := by decide +kernel
theorem dX2_part_25 : decode cX2_part 25 = .ok (.getfield 10, 3) := by decide +kernel
theorem dX2_part_28 : decode cX2_part 28 = .ok (.iconst 2, 1) := by decide +kernel
theorem dX2_part_29 : decode cX2_part 29 = .ok (.iload_n 1, 1) := by decide +kernel
theorem dX2_part_30 : decode cX2_part 30 = .ok (.invokevirtual 36, 3) := by decide +kernel
theorem dX2_part_33 : decode cX2_part 33 = .ok (.aload_n 0, 1) := by decide +kernel
theorem dX2_part_34 : decode cX2_part 34 = .ok (.getfield 10, 3) := by decide +kernel
theorem dX2_part_37 : decode cX2_part 37 = .ok (.aload_n 0, 1) := by decide +kernel
theorem dX2_part_38 : decode cX2_part 38 = .ok (.getfield 10, 3) := by decide +kernel
theorem dX2_part_41 : decode cX2_part 41 = .ok (.getfield 40, 3) := by decide +kernel
theorem dX2_part_44 : decode cX2_part 44 = .ok (.iload_n 2, 1) := by decide +kernel
theorem dX2_part_45 : decode cX2_part 45 = .ok (.invokevirtual 44, 3) := by decide +kernel
theorem dX2_part_48 : decode cX2_part 48 = .ok (.aload_n 0, 1) := by decide +kernel
theorem dX2_part_49 : decode cX2_part 49 = .ok (.getfield 10, 3) := by decide +kernel
theorem dX2_part_52 : decode cX2_part 52 = .ok (.aload_n 0, 1) := by decide +kernel
theorem dX2_part_53 : decode cX2_part 53 = .ok (.getfield 10, 3) := by decide +kernel
theorem dX2_part_56 : decode cX2_part 56 = .ok (.getfield 48, 3) := by decide +kernel
theorem dX2_part_59 : decode cX2_part 59 = .ok (.iload_n 3, 1) := by decide +kernel
theorem dX2_part_60 : decode cX2_part 60 = .ok (.invokevirtual 44, 3) := by decide +kernel
theorem dX2_part_63 : decode cX2_part 63 = .ok (.aload_n 0, 1) := by decide +kernel
theorem dX2_part_64 : decode cX2_part 64 = .ok (.aload_n 0, 1) := by decide +kernel
theorem dX2_part_65 : decode cX2_part 65 = .ok (.iconst 2, 1) := by decide +kernel
theorem dX2_part_66 : decode cX2_part 66 = .ok (.invokevirtual 69, 3) := by decide +kernel
theorem dX2_part_69 : decode cX2_part 69 = .ok (.invokevirtual 72, 3) := by decide +kernel
theorem dX2_part_72 : decode cX2_part 72 = .ok (.ireturn, 1) := by decide +kernel
set_option maxRecDepth 20000 in
theorem ggX2_join_X2_isActPossible : GoodIn wsX2_join wsX2_isActPossible := goodIn_r _ [8, 1, 9, 10, 11, 12, 13, 14, 15, 16, 17, 7, 18, 171, 172, 173, 174, 175, 176, 177, 178, 179, 180, 181, 182, 183, 184, 185, 186, 187] rfl (by decide +kernel)
set_option maxRecDepth 20000 in
theorem gX2_join_X2_isActPossible : GoodIn wsX2_join (wsV RX2 55 RX2 yX2_isActPossible wsX2_isActPossible) := goodIn_app (goodIn_of _ (by decide +kernel)) ggX2_join_X2_isActPossible
set_option maxRecDepth 20000 in
theorem ggX2_join_X2_isField : GoodIn wsX2_join wsX2_isField := goodIn_r _ [22, 1, 9, 16, 17, 7, 18, 171, 172, 173, 174, 175, 176, 177, 178, 179, 180, 181, 182, 183, 184, 185, 186, 187] rfl (by decide +kernel)
set_option maxRecDepth 20000 in
theorem gX2_join_X2_isField : GoodIn wsX2_join (wsV RX2 75 RX2 yX2_isField wsX2_isField) := goodIn_app (goodIn_of _ (by decide +kernel)) ggX2_join_X2_isField
set_option maxRecDepth 20000 in
theorem ggX2_join_X0_draft : GoodIn wsX2_join wsX0_draft := goodIn_r _ [26, 27, 28, 29, 30, 31, 32, 33, 34, 35, 36, 37, 13, 38, 15, 174, 175, 176, 177, 178, 179, 180, 181, 182, 183, 184, 185, 186, 187] rfl (by decide +kernel)
set_option maxRecDepth 20000 in
theorem gX2_join_X0_draft : GoodIn wsX2_join (wsV RX2 36 RX0 yX0_draft wsX0_draft) := goodIn_app (goodIn_of _ (by decide +kernel)) ggX2_join_X0_draft
set_option maxRecDepth 20000 in
theorem ggX2_join_X0_put : GoodIn wsX2_join wsX0_put := goodIn_r _ [38, 15, 174, 175, 176, 177, 178, 179, 180, 181, 182, 183, 184, 185, 186, 187] rfl (by decide +kernel)
set_option maxRecDepth 20000 in
theorem gX2_join_X0_put : GoodIn wsX2_join (wsV RX2 44 RX0 yX0_put wsX0_put) := goodIn_app (goodIn_of _ (by decide +kernel)) ggX2_join_X0_put
set_option maxRecDepth 20000 in
theorem ggX2_join_X2_takeDraft : GoodIn wsX2_join wsX2_takeDraft := goodIn_r _ [43, 1, 44, 9, 45, 46, 39, 36, 37, 13, 38, 15, 47, 48, 49, 50, 51, 28, 52, 53, 7, 54, 55, 56, 57, 58, 59, 60, 61, 62, 63, 64, 65, 66, 67, 68, 69, 70, 71, 72, 73, 74, 75, 76, 77, 78, 79, 80, 81, 82, 83, 84, 85, 86, 87, 88, 89, 90, 91, 92, 93, 94, 95, 96, 97, 98, 99, 100, 101, 102, 103, 104, 105, 106, 107, 108, 109, 110, 111, 112, 113, 114, 115, 116, 117, 118, 119, 120, 121, 122, 123, 124, 125, 126, 127, 128, 129, 130, 27, 29, 31, 131, 132, 133, 134, 135, 136, 137, 138, 139, 140, 141, 142, 143, 144, 145, 146, 147, 148, 149, 150, 151, 152, 153, 154, 155, 156, 157, 158, 159, 160, 161, 30, 162, 163, 164, 165, 171, 172, 173, 174, 175, 176, 177, 178, 179, 180, 181, 182, 183, 184, 185, 186, 187, 188, 189, 190, 191, 192, 193, 194, 195, 196, 197, 198, 199] rfl (by decide +kernel)
set_option maxRecDepth 20000 in
theorem gX2_join_X2_takeDraft : GoodIn wsX2_join (wsV RX2 69 RX2 yX2_takeDraft wsX2_takeDraft) := goodIn_app (goodIn_of _ (by decide +kernel)) ggX2_join_X2_takeDraft
set_option maxRecDepth 20000 in
theorem ggX2_join_X2_firstMadeBy : GoodIn wsX2_join wsX2_firstMadeBy := goodIn_r _ [169, 1, 44, 170, 53, 7, 54, 171, 172, 173, 174, 175, 176, 177, 178, 179, 180, 181, 182, 183, 184, 185, 186, 187] rfl (by decide +kernel)
set_option maxRecDepth 20000 in
theorem gX2_join_X2_firstMadeBy : GoodIn wsX2_join (wsV RX2 72 RX2 yX2_firstMadeBy wsX2_firstMadeBy) := goodIn_app (goodIn_of _ (by decide +kernel)) ggX2_join_X2_firstMadeBy
theorem dX2_join_0 : decode cX2_join 0 = .ok (.aload_n 0, 1) := by decide +kernel
theorem dX2_join_1 : decode cX2_join 1 = .ok (.iload_n 1, 1) := by decide +kernel
theorem dX2_join_2 : decode cX2_join 2 = .ok (.iconst 1, 1) := by decide +kernel
theorem dX2_join_3 : decode cX2_join 3 = .ok (.invokevirtual 55, 3) := by decide +kernel
theorem dX2_join_6 : decode cX2_join 6 = .ok (.ifCond .eq 19, 3) := by decide +kernel
theorem dX2_join_9 : decode cX2_join 9 = .ok (.aload_n 0, 1) := by decide +kernel
theorem dX2_join_10 : decode cX2_join 10 = .ok (.iload_n 2, 1) := by decide +kernel
theorem dX2_join_11 : decode cX2_join 11 = .ok (.invokevirtual 75, 3) := by decide +kernel
theorem dX2_join_14 : decode cX2_join 14 = .ok (.ifCond .eq 11, 3) := by decide +kernel
theorem dX2_join_17 : decode cX2_join 17 = .ok (.aload_n 0, 1) := by decide +kernel
theorem dX2_join_18 : decode cX2_join 18 = .ok (.iload_n 3, 1) := by decide +kernel
theorem dX2_join_19 : decode cX2_join 19 = .ok (.invokevirtual 75, 3) := by decide +kernel
theorem dX2_join_22 : decode cX2_join 22 = .ok (.ifCond .ne 5, 3) := by decide +kernel
theorem dX2_join_25 : decode cX2_join 25 = .ok (.iconst (-1), 1) := by decide +kernel
theorem dX2_join_26 : decode cX2_join 26 = .ok (.ireturn, 1) := by decide +kernel
theorem dX2_join_27 : decode cX2_join 27 = .ok (.aload_n 0, 1) := by decide +kernel
theorem dX2_join_28 : decode cX2_join 28 = .ok (.getfield 10, 3) := by decide +kernel
theorem dX2_join_31 : decode cX2_join 31 = .ok (.iconst 3, 1) := by decide +kernel
theorem dX2_join_32 : decode cX2_join 32 = .ok (.iload_n 1, 1) := by decide +kernel
theorem dX2_join_33 : decode cX2_join 33 = .ok (.invokevirtual 36, 3) := by decide +kernel
theorem dX2_join_36 : decode cX2_join 36 = .ok (.aload_n 0, 1) := by decide +kernel
theorem dX2_join_37 : decode cX2_join 37 = .ok (.getfield 10, 3) := by decide +kernel
theorem dX2_join_40 : decode cX2_join 40 = .ok (.aload_n 0, 1) := by decide +kernel
theorem dX2_join_41 : decode cX2_join 41 = .ok (.getfield 10, 3) := by decide +kernel
theorem dX2_join_44 : decode cX2_join 44 = .ok (.getfield 40, 3) := by decide +kernel
theorem dX2_join_47 : decode cX2_join 47 = .ok (.iload_n 2, 1) := by decide +kernel
theorem dX2_join_48 : decode cX2_join 48 = .ok (.invokevirtual 44, 3) := by decide +kernel
theorem dX2_join_51 : decode cX2_join 51 = .ok (.aload_n 0, 1) := by decide +kernel
theorem dX2_join_52 : decode cX2_join 52 = .ok (.getfield 10, 3) := by decide +kernel
theorem dX2_join_55 : decode cX2_join 55 = .ok (.aload_n 0, 1) := by decide +kernel
theorem dX2_join_56 : decode cX2_join 56 = .ok (.getfield 10, 3) := by decide +kernel
theorem dX2_join_59 : decode cX2_join 59 = .ok (.getfield 78, 3) := by decide +kernel
theorem dX2_join_62 : decode cX2_join 62 = .ok (.iload_n 3, 1) := by decide +kernel
theorem dX2_join_63 : decode cX2_join 63 = .ok (.invokevirtual 44, 3) := by decide +kernel
theorem dX2_join_66 : decode cX2_join 66 = .ok (.aload_n 0, 1) := by decide +kernel
theorem dX2_join_67 : decode cX2_join 67 = .ok (.aload_n 0, 1) := by decide +kernel
theorem dX2_join_68 : decode cX2_join 68 = .ok (.iconst 1, 1) := by decide +kernel
theorem dX2_join_69 : decode cX2_join 69 = .ok (.invokevirtual 69, 3) := by decide +kernel
theorem dX2_join_72 : decode cX2_join 72 = .ok (.invokevirtual 72, 3) := by decide +kernel
theorem dX2_join_75 : decode cX2_join 75 = .ok (.ireturn, 1) := by decide +kernel
set_option maxRecDepth 20000 in
theorem ggX2_sell_X2_isActPossible : GoodIn wsX2_sell wsX2_isActPossible := goodIn_r _ [8, 1, 9, 10, 11, 12, 13, 14, 15, 16, 17, 7, 18, 169, 170, 171, 172, 173, 174, 175, 176, 177, 178, 179, 180, 181, 182, 183, 184, 185] rfl (by decide +kernel)
set_option maxRecDepth 20000 in
theorem gX2_sell_X2_isActPossible : GoodIn wsX2_sell (wsV RX2 55 RX2 yX2_isActPossible wsX2_isActPossible) := goodIn_app (goodIn_of _ (by decide +kernel)) ggX2_sell_X2_isActPossible
set_option maxRecDepth 20000 in
theorem ggX2_sell_X2_isField : GoodIn wsX2_sell wsX2_isField := goodIn_r _ [22, 1, 9, 16, 17, 7, 18, 169, 170, 171, 172, 173, 174, 175, 176, 177, 178, 179, 180, 181, 182, 183, 184, 185] rfl (by decide +kernel)
set_option maxRecDepth 20000 in
theorem gX2_sell_X2_isField : GoodIn wsX2_sell (wsV RX2 75 RX2 yX2_isField wsX2_isField) := goodIn_app (goodIn_of _ (by decide +kernel)) ggX2_sell_X2_isField
set_option maxRecDepth 20000 in
theorem ggX2_sell_X2_isOwner : GoodIn wsX2_sell wsX2_isOwner := goodIn_r _ [25, 16, 17, 7, 18] rfl (by decide +kernel)
set_option maxRecDepth 20000 in
theorem gX2_sell_X2_isOwner : GoodIn wsX2_sell (va_wsS RX2 59 yX2_isOwner wsX2_isOwner) := goodIn_app (goodIn_of _ (by decide +kernel)) ggX2_sell_X2_isOwner
set_option maxRecDepth 20000 in
theorem ggX2_sell_X0_draft : GoodIn wsX2_sell wsX0_draft := goodIn_r _ [29, 30, 31, 32, 33, 34, 35, 36, 37, 38, 39, 40, 13, 41, 15, 172, 173, 174, 175, 176, 177, 178, 179, 180, 181, 182, 183, 184, 185] rfl (by decide +kernel)
set_option maxRecDepth 20000 in
theorem gX2_sell_X0_draft : GoodIn wsX2_sell (wsV RX2 36 RX0 yX0_draft wsX0_draft) := goodIn_app (goodIn_of _ (by decide +kernel)) ggX2_sell_X0_draft
set_option maxRecDepth 20000 in
theorem ggX2_sell_X0_put : GoodIn wsX2_sell wsX0_put := goodIn_r _ [41, 15, 172, 173, 174, 175, 176, 177, 178, 179, 180, 181, 182, 183, 184, 185] rfl (by decide +kernel)
set_option maxRecDepth 20000 in
theorem gX2_sell_X0_put : GoodIn wsX2_sell (wsV RX2 44 RX0 yX0_put wsX0_put) := goodIn_app (goodIn_of _ (by decide +kernel)) ggX2_sell_X0_put
set_option maxRecDepth 20000 in
theorem ggX2_sell_X2_takeDraft : GoodIn wsX2_sell wsX2_takeDraft := goodIn_r _ [46, 1, 47, 9, 48, 49, 42, 39, 40, 13, 41, 15, 50, 51, 52, 53, 54, 31, 55, 56, 7, 57, 58, 59, 60, 61, 62, 63, 64, 65, 66, 67, 68, 69, 70, 71, 72, 73, 74, 75, 76, 77, 78, 79, 80, 81, 82, 83, 84, 85, 86, 87, 88, 89, 90, 91, 92, 93, 94, 95, 96, 97, 98, 99, 100, 101, 102, 103, 104, 105, 106, 107, 108, 109, 110, 111, 112, 113, 114, 115, 116, 117, 118, 119, 120, 121, 122, 123, 124, 125, 126, 127, 128, 129, 130, 131, 132, 133, 30, 32, 34, 134, 135, 136, 137, 138, 139, 140, 141, 142, 143, 144, 145, 146, 147, 148, 149, 150, 151, 152, 153, 154, 155, 156, 157, 158, 159, 160, 161, 162, 163, 164, 33, 165, 166, 167, 168, 169, 170, 171, 172, 173, 174, 175, 176, 177, 178, 179, 180, 181, 182, 183, 184, 185, 186, 187, 188, 189, 190, 191, 192, 193, 194, 195, 196, 197] rfl (by decide +kernel)
set_option maxRecDepth 20000 in
theorem gX2_sell_X2_takeDraft : GoodIn wsX2_sell (wsV RX2 69 RX2 yX2_takeDraft wsX2_takeDraft) := goodIn_app (goodIn_of _ (by decide +kernel)) ggX2_sell_X2_takeDraft
theorem dX2_sell_0 : decode cX2_sell 0 = .ok (.aload_n 0, 1) := by decide +kernel
theorem dX2_sell_1 : decode cX2_sell 1 = .ok (.iload_n 1, 1) := by decide +kernel
theorem dX2_sell_2 : decode cX2_sell 2 = .ok (.iconst 0, 1) := by decide +kernel
theorem dX2_sell_3 : decode cX2_sell 3 = .ok (.invokevirtual 55, 3) := by decide +kernel
theorem dX2_sell_6 : decode cX2_sell 6 = .ok (.ifCond .eq 18, 3) := by decide +kernel
theorem dX2_sell_9 : decode cX2_sell 9 = .ok (.aload_n 0, 1) := by decide +kernel
theorem dX2_sell_10 : decode cX2_sell 10 = .ok (.iload_n 2, 1) := by decide +kernel
theorem dX2_sell_11 : decode cX2_sell 11 = .ok (.invokevirtual 75, 3) := by decide +kernel
theorem dX2_sell_14 : decode cX2_sell 14 = .ok (.ifCond .eq 10, 3) := by decide +kernel
theorem dX2_sell_17 : decode cX2_sell 17 = .ok (.iload_n 3, 1) := by decide +kernel
theorem dX2_sell_18 : decode cX2_sell 18 = .ok (.invokestatic 59, 3) := by decide +kernel
theorem dX2_sell_21 : decode cX2_sell 21 = .ok (.ifCond .ne 5, 3) := by decide +kernel
theorem dX2_sell_24 : decode cX2_sell 24 = .ok (.iconst (-1), 1) := by decide +kernel
theorem dX2_sell_25 : decode cX2_sell 25 = .ok (.ireturn, 1) := by decide +kernel
theorem dX2_sell_26 : decode cX2_sell 26 = .ok (.aload_n 0, 1) := by decide +kernel
theorem dX2_sell_27 : decode cX2_sell 27 = .ok (.getfield 10, 3) := by decide +kernel
theorem dX2_sell_30 : decode cX2_sell 30 = .ok (.iconst 4, 1) := by decide +kernel
theorem dX2_sell_31 : decode cX2_sell 31 = .ok (.iload_n 1, 1) := by decide +kernel
theorem dX2_sell_32 : decode cX2_sell 32 = .ok (.invokevirtual 36, 3) := by decide +kernel
theorem dX2_sell_35 : decode cX2_sell 35 = .ok (.aload_n 0, 1) := by decide +kernel
theorem dX2_sell_36 : decode cX2_sell 36 = .ok (.getfield 10, 3) := by decide +kernel
theorem dX2_sell_39 : decode cX2_sell 39 = .ok (.aload_n 0, 1) := by decide +kernel
theorem dX2_sell_40 : decode cX2_sell 40 = .ok (.getfield 10, 3) := by decide +kernel
theorem dX2_sell_43 : decode cX2_sell 43 = .ok (.getfield 40, 3) := by decide +kernel
theorem dX2_sell_46 : decode cX2_sell 46 = .ok (.iload_n 2, 1) := by decide +kernel
theorem dX2_sell_47 : decode cX2_sell 47 = .ok (.invokevirtual 44, 3) := by decide +kernel
theorem dX2_sell_50 : decode cX2_sell 50 = .ok (.aload_n 0, 1) := by decide +kernel
theorem dX2_sell_51 : decode cX2_sell 51 = .ok (.getfield 10, 3) := by decide +kernel
theorem dX2_sell_54 : decode cX2_sell 54 = .ok (.aload_n 0, 1) := by decide +kernel
theorem dX2_sell_55 : decode cX2_sell 55 = .ok (.getfield 10, 3) := by decide +kernel
theorem dX2_sell_58 : decode cX2_sell 58 = .ok (.getfield 66, 3) := by decide +kernel
theorem dX2_sell_61 : decode cX2_sell 61 = .ok (.iload_n 3, 1) := by decide +kernel
theorem dX2_sell_62 : decode cX2_sell 62 = .ok (.invokevirtual 44, 3) := by decide +kernel
theorem dX2_sell_65 : decode cX2_sell 65 = .ok (.aload_n 0, 1) := by decide +kernel
theorem dX2_sell_66 : decode cX2_sell 66 = .ok (.iconst 0, 1) := by decide +kernel
theorem dX2_sell_67 : decode cX2_sell 67 = .ok (.invokevirtual 69, 3) := by decide +kernel
theorem dX2_sell_70 : decode cX2_sell 70 = .ok (.ireturn, 1) := by decide +kernel
set_option maxRecDepth 20000 in
theorem ggX2_settle_X2_isActPossible : GoodIn wsX2_settle wsX2_isActPossible := goodIn_r _ [8, 2, 9, 10, 11, 12, 13, 14, 15, 16, 17, 7, 18, 162, 163, 164, 165, 166, 167, 168, 169, 170, 171, 172, 173, 174, 175, 176, 177, 178] rfl (by decide +kernel)
set_option maxRecDepth 20000 in
theorem gX2_settle_X2_isActPossible : GoodIn wsX2_settle (wsV RX2 55 RX2 yX2_isActPossible wsX2_isActPossible) := goodIn_app (goodIn_of _ (by decide +kernel)) ggX2_settle_X2_isActPossible
set_option maxRecDepth 20000 in
theorem ggX2_settle_X2_isWithin : GoodIn wsX2_settle wsX2_isWithin := goodIn_r _ [18] rfl (by decide +kernel)
set_option maxRecDepth 20000 in
theorem gX2_settle_X2_isWithin : GoodIn wsX2_settle (va_wsS RX2 32 yX2_isWithin wsX2_isWithin) := goodIn_app (goodIn_of _ (by decide +kernel)) ggX2_settle_X2_isWithin
set_option maxRecDepth 20000 in
theorem ggX2_settle_X0_draft : GoodIn wsX2_settle wsX0_draft := goodIn_r _ [22, 23, 24, 25, 26, 27, 28, 29, 30, 31, 32, 33, 13, 34, 15, 165, 166, 167, 168, 169, 170, 171, 172, 173, 174, 175, 176, 177, 178] rfl (by decide +kernel)
set_option maxRecDepth 20000 in
theorem gX2_settle_X0_draft : GoodIn wsX2_settle (wsV RX2 36 RX0 yX0_draft wsX0_draft) := goodIn_app (goodIn_of _ (by decide +kernel)) ggX2_settle_X0_draft
set_option maxRecDepth 20000 in
theorem ggX2_settle_X0_put : GoodIn wsX2_settle wsX0_put := goodIn_r _ [34, 15, 165, 166, 167, 168, 169, 170, 171, 172, 173, 174, 175, 176, 177, 178] rfl (by decide +kernel)
set_option maxRecDepth 20000 in
theorem gX2_settle_X0_put : GoodIn wsX2_settle (wsV RX2 44 RX0 yX0_put wsX0_put) := goodIn_app (goodIn_of _ (by decide +kernel)) ggX2_settle_X0_put
set_option maxRecDepth 20000 in
theorem ggX2_settle_X2_takeDraft : GoodIn wsX2_settle wsX2_takeDraft := goodIn_r _ [39, 2, 40, 9, 41, 42, 35, 32, 33, 13, 34, 15, 43, 44, 45, 46, 47, 24, 48, 49, 7, 50, 51, 52, 53, 54, 55, 56, 57, 58, 59, 60, 61, 62, 63, 64, 65, 66, 67, 68, 69, 70, 71, 72, 73, 74, 75, 76, 77, 78, 79, 80, 81, 82, 83, 84, 85, 86, 87, 88, 89, 90, 91, 92, 93, 94, 95, 96, 97, 98, 99, 100, 101, 102, 103, 104, 105, 106, 107, 108, 109, 110, 111, 112, 113, 114, 115, 116, 117, 118, 119, 120, 121, 122, 123, 124, 125, 126, 23, 25, 27, 127, 128, 129, 130, 131, 132, 133, 134, 135, 136, 137, 138, 139, 140, 141, 142, 143, 144, 145, 146, 147, 148, 149, 150, 151, 152, 153, 154, 155, 156, 157, 26, 158, 159, 160, 161, 162, 163, 164, 165, 166, 167, 168, 169, 170, 171, 172, 173, 174, 175, 176, 177, 178, 179, 180, 181, 182, 183, 184, 185, 186, 187, 188, 189, 190] rfl (by decide +kernel)
set_option maxRecDepth 20000 in
theorem gX2_settle_X2_takeDraft : GoodIn wsX2_settle (wsV RX2 69 RX2 yX2_takeDraft wsX2_takeDraft) := goodIn_app (goodIn_of _ (by decide +kernel)) ggX2_settle_X2_takeDraft
theorem dX2_settle_0 : decode cX2_settle 0 = .ok (.aload_n 0, 1) := by decide +kernel
theorem dX2_settle_1 : decode cX2_settle 1 = .ok (.iload_n 1, 1) := by decide +kernel
theorem dX2_settle_2 : decode cX2_settle 2 = .ok (.iconst 0, 1) := by decide +kernel
theorem dX2_settle_3 : decode cX2_settle 3 = .ok (.invokevirtual 55, 3) := by decide +kernel
theorem dX2_settle_6 : decode cX2_settle 6 = .ok (.ifCond .eq 13, 3) := by decide +kernel
theorem dX2_settle_9 : decode cX2_settle 9 = .ok (.iload_n 2, 1) := by decide +kernel
theorem dX2_settle_10 : decode cX2_settle 10 = .ok (.iconst 1, 1) := by decide +kernel
theorem dX2_settle_11 : decode cX2_settle 11 = .ok (.ldc 81, 2) := by decide +kernel
theorem dX2_settle_13 : decode cX2_settle 13 = .ok (.invokestatic 32, 3) := by decide +kernel
theorem dX2_settle_16 : decode cX2_settle 16 = .ok (.ifCond .ne 5, 3) := by decide +kernel
theorem dX2_settle_19 : decode cX2_settle 19 = .ok (.iconst (-1), 1) := by decide +kernel
theorem dX2_settle_20 : decode cX2_settle 20 = .ok (.ireturn, 1) := by decide +kernel
theorem dX2_settle_21 : decode cX2_settle 21 = .ok (.aload_n 0, 1) := by decide +kernel
theorem dX2_settle_22 : decode cX2_settle 22 = .ok (.getfield 10, 3) := by decide +kernel
theorem dX2_settle_25 : decode cX2_settle 25 = .ok (.iconst 5, 1) := by decide +kernel
theorem dX2_settle_26 : decode cX2_settle 26 = .ok (.iload_n 1, 1) := by decide +kernel
theorem dX2_settle_27 : decode cX2_settle 27 = .ok (.invokevirtual 36, 3) := by decide +kernel
theorem dX2_settle_30 : decode cX2_settle 30 = .ok (.aload_n 0, 1) := by decide +kernel
theorem dX2_settle_31 : decode cX2_settle 31 = .ok (.getfield 10, 3) := by decide +kernel
theorem dX2_settle_34 : decode cX2_settle 34 = .ok (.aload_n 0, 1) := by decide +kernel
theorem dX2_settle_35 : decode cX2_settle 35 = .ok (.getfield 10, 3) := by decide +kernel
theorem dX2_settle_38 : decode cX2_settle 38 = .ok (.getfield 48, 3) := by decide +kernel
theorem dX2_settle_41 : decode cX2_settle 41 = .ok (.iload_n 2, 1) := by decide +kernel
theorem dX2_settle_42 : decode cX2_settle 42 = .ok (.invokevirtual 44, 3) := by decide +kernel
theorem dX2_settle_45 : decode cX2_settle 45 = .ok (.aload_n 0, 1) := by decide +kernel
theorem dX2_settle_46 : decode cX2_settle 46 = .ok (.iconst 0, 1) := by decide +kernel
theorem dX2_settle_47 : decode cX2_settle 47 = .ok (.invokevirtual 69, 3) := by decide +kernel
theorem dX2_settle_50 : decode cX2_settle 50 = .ok (.ireturn, 1) := by decide +kernel
set_option maxRecDepth 20000 in
theorem ggX2_buy_X2_isActPossible : GoodIn wsX2_buy wsX2_isActPossible := goodIn_r _ [7, 1, 8, 9, 10, 11, 12, 13, 14, 15, 16, 6, 17, 165, 166, 167, 168, 169, 170, 171, 172, 173, 174, 175, 176, 177, 178, 179, 180, 181] rfl (by decide +kernel)
set_option maxRecDepth 20000 in
theorem gX2_buy_X2_isActPossible : GoodIn wsX2_buy (wsV RX2 55 RX2 yX2_isActPossible wsX2_isActPossible) := goodIn_app (goodIn_of _ (by decide +kernel)) ggX2_buy_X2_isActPossible
set_option maxRecDepth 20000 in
theorem ggX2_buy_X2_isField : GoodIn wsX2_buy wsX2_isField := goodIn_r _ [21, 1, 8, 15, 16, 6, 17, 165, 166, 167, 168, 169, 170, 171, 172, 173, 174, 175, 176, 177, 178, 179, 180, 181] rfl (by decide +kernel)
set_option maxRecDepth 20000 in
theorem gX2_buy_X2_isField : GoodIn wsX2_buy (wsV RX2 75 RX2 yX2_isField wsX2_isField) := goodIn_app (goodIn_of _ (by decide +kernel)) ggX2_buy_X2_isField
set_option maxRecDepth 20000 in
theorem ggX2_buy_X0_draft : GoodIn wsX2_buy wsX0_draft := goodIn_r _ [25, 26, 27, 28, 29, 30, 31, 32, 33, 34, 35, 36, 12, 37, 14, 168, 169, 170, 171, 172, 173, 174, 175, 176, 177, 178, 179, 180, 181] rfl (by decide +kernel)
set_option maxRecDepth 20000 in
theorem gX2_buy_X0_draft : GoodIn wsX2_buy (wsV RX2 36 RX0 yX0_draft wsX0_draft) := goodIn_app (goodIn_of _ (by decide +kernel)) ggX2_buy_X0_draft
set_option maxRecDepth 20000 in
theorem ggX2_buy_X0_put : GoodIn wsX2_buy wsX0_put := goodIn_r _ [37, 14, 168, 169, 170, 171, 172, 173, 174, 175, 176, 177, 178, 179, 180, 181] rfl (by decide +kernel)
set_option maxRecDepth 20000 in
theorem gX2_buy_X0_put : GoodIn wsX2_buy (wsV RX2 44 RX0 yX0_put wsX0_put) := goodIn_app (goodIn_of _ (by decide +kernel)) ggX2_buy_X0_put
set_option maxRecDepth 20000 in
theorem ggX2_buy_X2_takeDraft : GoodIn wsX2_buy wsX2_takeDraft := goodIn_r _ [42, 1, 43, 8, 44, 45, 38, 35, 36, 12, 37, 14, 46, 47, 48, 49, 50, 27, 51, 52, 6, 53, 54, 55, 56, 57, 58, 59, 60, 61, 62, 63, 64, 65, 66, 67, 68, 69, 70, 71, 72, 73, 74, 75, 76, 77, 78, 79, 80, 81, 82, 83, 84, 85, 86, 87, 88, 89, 90, 91, 92, 93, 94, 95, 96, 97, 98, 99, 100, 101, 102, 103, 104, 105, 106, 107, 108, 109, 110, 111, 112, 113, 114, 115, 116, 117, 118, 119, 120, 121, 122, 123, 124, 125, 126, 127, 128, 129, 26, 28, 30, 130, 131, 132, 133, 134, 135, 136, 137, 138, 139, 140, 141, 142, 143, 144, 145, 146, 147, 148, 149, 150, 151, 152, 153, 154, 155, 156, 157, 158, 159, 160, 29, 161, 162, 163, 164, 165, 166, 167, 168, 169, 170, 171, 172, 173, 174, 175, 176, 177, 178, 179, 180, 181, 182, 183, 184, 185, 186, 187, 188, 189, 190, 191, 192, 193] rfl (by decide +kernel)
set_option maxRecDepth 20000 in
theorem gX2_buy_X2_takeDraft : GoodIn wsX2_buy (wsV RX2 69 RX2 yX2_takeDraft wsX2_takeDraft) := goodIn_app (goodIn_of _ (by decide +kernel)) ggX2_buy_X2_takeDraft
theorem dX2_buy_0 : decode cX2_buy 0 = .ok (.aload_n 0, 1) := by decide +kernel
theorem dX2_buy_1 : decode cX2_buy 1 = .ok (.iload_n 1, 1) := by decide +kernel
theorem dX2_buy_2 : decode cX2_buy 2 = .ok (.iconst 0, 1) := by decide +kernel
theorem dX2_buy_3 : decode cX2_buy 3 = .ok (.invokevirtual 55, 3) := by decide +kernel
theorem dX2_buy_6 : decode cX2_buy 6 = .ok (.ifCond .eq 11, 3) := by decide +kernel
theorem dX2_buy_9 : decode cX2_buy 9 = .ok (.aload_n 0, 1) := by decide +kernel
theorem dX2_buy_10 : decode cX2_buy 10 = .ok (.iload_n 2, 1) := by decide +kernel
theorem dX2_buy_11 : decode cX2_buy 11 = .ok (.invokevirtual 75, 3) := by decide +kernel
theorem dX2_buy_14 : decode cX2_buy 14 = .ok (.ifCond .ne 5, 3) := by decide +kernel
theorem dX2_buy_17 : decode cX2_buy 17 = .ok (.iconst (-1), 1) := by decide +kernel
theorem dX2_buy_18 : decode cX2_buy 18 = .ok (.ireturn, 1) := by decide +kernel
theorem dX2_buy_19 : decode cX2_buy 19 = .ok (.aload_n 0, 1) := by decide +kernel
theorem dX2_buy_20 : decode cX2_buy 20 = .ok (.getfield 10, 3) := by decide +kernel
theorem dX2_buy_23 : decode cX2_buy 23 = .ok (.bipush 6, 2) := by decide +kernel
theorem dX2_buy_25 : decode cX2_buy 25 = .ok (.iload_n 1, 1) := by decide +kernel
theorem dX2_buy_26 : decode cX2_buy 26 = .ok (.invokevirtual 36, 3) := by decide +kernel
theorem dX2_buy_29 : decode cX2_buy 29 = .ok (.aload_n 0, 1) := by decide +kernel
theorem dX2_buy_30 : decode cX2_buy 30 = .ok (.getfield 10, 3) := by decide +kernel
theorem dX2_buy_33 : decode cX2_buy 33 = .ok (.aload_n 0, 1) := by decide +kernel
theorem dX2_buy_34 : decode cX2_buy 34 = .ok (.getfield 10, 3) := by decide +kernel
theorem dX2_buy_37 : decode cX2_buy 37 = .ok (.getfield 40, 3) := by decide +kernel
theorem dX2_buy_40 : decode cX2_buy 40 = .ok (.iload_n 2, 1) := by decide +kernel
theorem dX2_buy_41 : decode cX2_buy 41 = .ok (.invokevirtual 44, 3) := by decide +kernel
theorem dX2_buy_44 : decode cX2_buy 44 = .ok (.aload_n 0, 1) := by decide +kernel
theorem dX2_buy_45 : decode cX2_buy 45 = .ok (.iconst 0, 1) := by decide +kernel
theorem dX2_buy_46 : decode cX2_buy 46 = .ok (.invokevirtual 69, 3) := by decide +kernel
theorem dX2_buy_49 : decode cX2_buy 49 = .ok (.ireturn, 1) := by decide +kernel
set_option maxRecDepth 20000 in
theorem ggX2_average_X2_isKnowing : GoodIn wsX2_average wsX2_isKnowing := goodIn_r _ [6, 1, 7, 8, 9, 5, 10, 24, 25, 26, 27, 28, 29, 30, 31, 32, 33, 34, 35, 36, 37, 38, 39, 40] rfl (by decide +kernel)
set_option maxRecDepth 20000 in
theorem gX2_average_X2_isKnowing : GoodIn wsX2_average (wsV RX2 82 RX2 yX2_isKnowing wsX2_isKnowing) := goodIn_app (goodIn_of _ (by decide +kernel)) ggX2_average_X2_isKnowing
set_option maxRecDepth 20000 in
theorem ggX2_average_X2_isWithin : GoodIn wsX2_average wsX2_isWithin := goodIn_r _ [10] rfl (by decide +kernel)
set_option maxRecDepth 20000 in
theorem gX2_average_X2_isWithin : GoodIn wsX2_average (va_wsS RX2 32 yX2_isWithin wsX2_isWithin) := goodIn_app (goodIn_of _ (by decide +kernel)) ggX2_average_X2_isWithin
set_option maxRecDepth 20000 in
theorem ggX2_average_X0_mean : GoodIn wsX2_average wsX0_mean := goodIn_r _ [15, 16, 17, 18, 19, 20, 21, 22, 23, 27, 28, 29, 30, 31, 32, 33, 34, 35, 36, 37, 38, 39, 40] rfl (by decide +kernel)
set_option maxRecDepth 20000 in
theorem gX2_average_X0_mean : GoodIn wsX2_average (wsV RX2 85 RX0 yX0_mean wsX0_mean) := goodIn_app (goodIn_of _ (by decide +kernel)) ggX2_average_X0_mean
theorem dX2_average_0 : decode cX2_average 0 = .ok (.aload_n 0, 1) := by decide +kernel
theorem dX2_average_1 : decode cX2_average 1 = .ok (.iload_n 1, 1) := by decide +kernel
theorem dX2_average_2 : decode cX2_average 2 = .ok (.invokevirtual 82, 3) := by decide +kernel
theorem dX2_average_5 : decode cX2_average 5 = .ok (.ifCond .eq 23, 3) := by decide +kernel
theorem dX2_average_8 : decode cX2_average 8 = .ok (.iload_n 2, 1) := by decide +kernel
theorem dX2_average_9 : decode cX2_average 9 = .ok (.iconst 1, 1) := by decide +kernel
theorem dX2_average_10 : decode cX2_average 10 = .ok (.sipush 200, 3) := by decide +kernel
theorem dX2_average_13 : decode cX2_average 13 = .ok (.invokestatic 32, 3) := by decide +kernel
theorem dX2_average_16 : decode cX2_average 16 = .ok (.ifCond .eq 12, 3) := by decide +kernel
theorem dX2_average_19 : decode cX2_average 19 = .ok (.iload_n 3, 1) := by decide +kernel
theorem dX2_average_20 : decode cX2_average 20 = .ok (.iconst 0, 1) := by decide +kernel
theorem dX2_average_21 : decode cX2_average 21 = .ok (.iconst 2, 1) := by decide +kernel
theorem dX2_average_22 : decode cX2_average 22 = .ok (.invokestatic 32, 3) := by decide +kernel
theorem dX2_average_25 : decode cX2_average 25 = .ok (.ifCond .ne 5, 3) := by decide +kernel
theorem dX2_average_28 : decode cX2_average 28 = .ok (.iconst (-1), 1) := by decide +kernel
theorem dX2_average_29 : decode cX2_average 29 = .ok (.ireturn, 1) := by decide +kernel
theorem dX2_average_30 : decode cX2_average 30 = .ok (.aload_n 0, 1) := by decide +kernel
theorem dX2_average_31 : decode cX2_average 31 = .ok (.getfield 10, 3) := by decide +kernel
theorem dX2_average_34 : decode cX2_average 34 = .ok (.iload_n 1, 1) := by decide +kernel
theorem dX2_average_35 : decode cX2_average 35 = .ok (.iload_n 2, 1) := by decide +kernel
theorem dX2_average_36 : decode cX2_average 36 = .ok (.iload_n 3, 1) := by decide +kernel
theorem dX2_average_37 : decode cX2_average 37 = .ok (.invokevirtual 85, 3) := by decide +kernel
theorem dX2_average_40 : decode cX2_average 40 = .ok (.ireturn, 1) := by decide +kernel
set_option maxRecDepth 20000 in
theorem ggX2_look_X2_isKnowing : GoodIn wsX2_look wsX2_isKnowing := goodIn_r _ [6, 7, 8, 9, 10, 5, 11, 124, 125, 126, 127, 128, 129, 130, 131, 132, 133, 134, 135, 136, 137, 138, 139, 140] rfl (by decide +kernel)
set_option maxRecDepth 20000 in
theorem gX2_look_X2_isKnowing : GoodIn wsX2_look (wsV RX2 82 RX2 yX2_isKnowing wsX2_isKnowing) := goodIn_app (goodIn_of _ (by decide +kernel)) ggX2_look_X2_isKnowing
set_option maxRecDepth 20000 in
theorem ggX2_look_X2_isWithin : GoodIn wsX2_look wsX2_isWithin := goodIn_r _ [11] rfl (by decide +kernel)
set_option maxRecDepth 20000 in
theorem gX2_look_X2_isWithin : GoodIn wsX2_look (va_wsS RX2 32 yX2_isWithin wsX2_isWithin) := goodIn_app (goodIn_of _ (by decide +kernel)) ggX2_look_X2_isWithin
set_option maxRecDepth 20000 in
theorem ggX2_look_X2_isField : GoodIn wsX2_look wsX2_isField := goodIn_r _ [15, 7, 16, 9, 10, 5, 11, 124, 125, 126, 127, 128, 129, 130, 131, 132, 133, 134, 135, 136, 137, 138, 139, 140] rfl (by decide +kernel)
set_option maxRecDepth 20000 in
theorem gX2_look_X2_isField : GoodIn wsX2_look (wsV RX2 75 RX2 yX2_isField wsX2_isField) := goodIn_app (goodIn_of _ (by decide +kernel)) ggX2_look_X2_isField
set_option maxRecDepth 20000 in
theorem ggX2_look_X1_show : GoodIn wsX2_look wsX1_show := goodIn_r _ [21, 22, 23, 24, 25, 26, 27, 28, 5, 29, 30, 31, 32, 20, 33, 34, 35, 36, 37, 38, 39, 40, 41, 42, 43, 44, 45, 46, 47, 48, 49, 50, 51, 52, 53, 54, 55, 56, 57, 58, 59, 60, 61, 62, 63, 64, 65, 66, 67, 68, 69, 70, 71, 72, 73, 74, 75, 76, 77, 78, 79, 80, 81, 82, 83, 84, 85, 86, 87, 88, 89, 90, 91, 92, 93, 94, 95, 96, 97, 98, 99, 100, 101, 102, 103, 104, 105, 106, 107, 108, 109, 110, 111, 112, 113, 114, 115, 116, 117, 118, 119, 141, 142, 143, 144, 145, 146, 147, 148, 149, 150, 151, 152, 127, 128, 129, 130, 131, 132, 133, 134, 135, 136, 137, 138, 139, 140] rfl (by decide +kernel)
set_option maxRecDepth 20000 in
theorem gX2_look_X1_show : GoodIn wsX2_look (wsV RX2 89 RX1 yX1_show wsX1_show) := goodIn_app (goodIn_of _ (by decide +kernel)) ggX2_look_X1_show
set_option maxRecDepth 20000 in
theorem ggX2_look_X1_tell : GoodIn wsX2_look wsX1_tell := goodIn_r _ [123, 45, 46, 47, 56, 48, 61, 62, 63, 20, 64, 22, 141, 142, 143, 144, 145, 146, 147, 148, 149, 150, 151, 152] rfl (by decide +kernel)
set_option maxRecDepth 20000 in
theorem gX2_look_X1_tell : GoodIn wsX2_look (wsV RX2 92 RX1 yX1_tell wsX1_tell) := goodIn_app (goodIn_of _ (by decide +kernel)) ggX2_look_X1_tell
theorem dX2_look_0 : decode cX2_look 0 = .ok (.aload_n 0, 1) := by decide +kernel
theorem dX2_look_1 : decode cX2_look 1 = .ok (.iload_n 1, 1) := by decide +kernel
theorem dX2_look_2 : decode cX2_look 2 = .ok (.invokevirtual 82, 3) := by decide +kernel
theorem dX2_look_5 : decode cX2_look 5 = .ok (.ifCond .eq 22, 3) := by decide +kernel
theorem dX2_look_8 : decode cX2_look 8 = .ok (.iload_n 2, 1) := by decide +kernel
theorem dX2_look_9 : decode cX2_look 9 = .ok (.iconst 0, 1) := by decide +kernel
theorem dX2_look_10 : decode cX2_look 10 = .ok (.sipush 200, 3) := by decide +kernel
theorem dX2_look_13 : decode cX2_look 13 = .ok (.invokestatic 32, 3) := by decide +kernel
theorem dX2_look_16 : decode cX2_look 16 = .ok (.ifCond .eq 11, 3) := by decide +kernel
theorem dX2_look_19 : decode cX2_look 19 = .ok (.aload_n 0, 1) := by decide +kernel
theorem dX2_look_20 : decode cX2_look 20 = .ok (.iload_n 3, 1) := by decide +kernel
theorem dX2_look_21 : decode cX2_look 21 = .ok (.invokevirtual 75, 3) := by decide +kernel
theorem dX2_look_24 : decode cX2_look 24 = .ok (.ifCond .ne 5, 3) := by decide +kernel
theorem dX2_look_27 : decode cX2_look 27 = .ok (.iconst (-1), 1) := by decide +kernel
theorem dX2_look_28 : decode cX2_look 28 = .ok (.ireturn, 1) := by decide +kernel
theorem dX2_look_29 : decode cX2_look 29 = .ok (.aload_n 0, 1) := by decide +kernel
theorem dX2_look_30 : decode cX2_look 30 = .ok (.getfield 21, 3) := by decide +kernel
theorem dX2_look_33 : decode cX2_look 33 = .ok (.iload_n 1, 1) := by decide +kernel
theorem dX2_look_34 : decode cX2_look 34 = .ok (.iload_n 2, 1) := by decide +kernel
theorem dX2_look_35 : decode cX2_look 35 = .ok (.iconst (-1), 1) := by decide +kernel
theorem dX2_look_36 : decode cX2_look 36 = .ok (.invokevirtual 89, 3) := by decide +kernel
theorem dX2_look_39 : decode cX2_look 39 = .ok (.pop, 1) := by decide +kernel
theorem dX2_look_40 : decode cX2_look 40 = .ok (.aload_n 0, 1) := by decide +kernel
theorem dX2_look_41 : decode cX2_look 41 = .ok (.getfield 21, 3) := by decide +kernel
theorem dX2_look_44 : decode cX2_look 44 = .ok (.iload_n 3, 1) := by decide +kernel
theorem dX2_look_45 : decode cX2_look 45 = .ok (.iload 4, 2) := by decide +kernel
theorem dX2_look_47 : decode cX2_look 47 = .ok (.invokevirtual 92, 3) := by decide +kernel
theorem dX2_look_50 : decode cX2_look 50 = .ok (.ireturn, 1) := by decide +kernel
set_option maxRecDepth 20000 in
theorem ggX2_money_X2_isKnowing : GoodIn wsX2_money wsX2_isKnowing := goodIn_r _ [7, 8, 9, 10, 11, 6, 12, 132, 133, 134, 135, 136, 137, 138, 139, 140, 141, 142, 143, 144, 145, 146, 147, 148] rfl (by decide +kernel)
set_option maxRecDepth 20000 in
theorem gX2_money_X2_isKnowing : GoodIn wsX2_money (wsV RX2 82 RX2 yX2_isKnowing wsX2_isKnowing) := goodIn_app (goodIn_of _ (by decide +kernel)) ggX2_money_X2_isKnowing
set_option maxRecDepth 20000 in
theorem ggX2_money_X2_isWithin : GoodIn wsX2_money wsX2_isWithin := goodIn_r _ [12] rfl (by decide +kernel)
set_option maxRecDepth 20000 in
theorem gX2_money_X2_isWithin : GoodIn wsX2_money (va_wsS RX2 32 yX2_isWithin wsX2_isWithin) := goodIn_app (goodIn_of _ (by decide +kernel)) ggX2_money_X2_isWithin
set_option maxRecDepth 20000 in
theorem ggX2_money_X2_isField : GoodIn wsX2_money wsX2_isField := goodIn_r _ [16, 8, 17, 10, 11, 6, 12, 132, 133, 134, 135, 136, 137, 138, 139, 140, 141, 142, 143, 144, 145, 146, 147, 148] rfl (by decide +kernel)
set_option maxRecDepth 20000 in
theorem gX2_money_X2_isField : GoodIn wsX2_money (wsV RX2 75 RX2 yX2_isField wsX2_isField) := goodIn_app (goodIn_of _ (by decide +kernel)) ggX2_money_X2_isField
set_option maxRecDepth 20000 in
theorem ggX2_money_X1_show : GoodIn wsX2_money wsX1_show := goodIn_r _ [22, 23, 24, 25, 26, 27, 28, 29, 6, 30, 31, 32, 33, 21, 34, 35, 36, 37, 38, 39, 40, 41, 42, 43, 44, 45, 46, 47, 48, 49, 50, 51, 52, 53, 54, 55, 56, 57, 58, 59, 60, 61, 62, 63, 64, 65, 66, 67, 68, 69, 70, 71, 72, 73, 74, 75, 76, 77, 78, 79, 80, 81, 82, 83, 84, 85, 86, 87, 88, 89, 90, 91, 92, 93, 94, 95, 96, 97, 98, 99, 100, 101, 102, 103, 104, 105, 106, 107, 108, 109, 110, 111, 112, 113, 114, 115, 116, 117, 118, 119, 120, 149, 150, 151, 152, 153, 154, 155, 156, 157, 158, 159, 160, 135, 136, 137, 138, 139, 140, 141, 142, 143, 144, 145, 146, 147, 148] rfl (by decide +kernel)
set_option maxRecDepth 20000 in
theorem gX2_money_X1_show : GoodIn wsX2_money (wsV RX2 89 RX1 yX1_show wsX1_show) := goodIn_app (goodIn_of _ (by decide +kernel)) ggX2_money_X1_show
set_option maxRecDepth 20000 in
theorem ggX2_money_X1_worth : GoodIn wsX2_money wsX1_worth := goodIn_r _ [124, 125, 62, 63, 64, 21, 65, 23, 83, 84, 85, 86, 87, 25, 88, 89, 90, 91, 92, 93, 94, 95, 96, 97, 98, 99, 100, 126, 127, 128, 129, 57, 130, 131, 50, 51, 52, 149, 150, 151, 152, 153, 154, 155, 156, 157, 158, 159, 160, 135, 136, 137, 138, 139, 140, 141, 142, 143, 144, 145, 146, 147, 148] rfl (by decide +kernel)
set_option maxRecDepth 20000 in
theorem gX2_money_X1_worth : GoodIn wsX2_money (wsV RX2 98 RX1 yX1_worth wsX1_worth) := goodIn_app (goodIn_of _ (by decide +kernel)) ggX2_money_X1_worth
theorem dX2_money_0 : decode cX2_money 0 = .ok (.aload_n 0, 1) := by decide +kernel
theorem dX2_money_1 : decode cX2_money 1 = .ok (.iload_n 1, 1) := by decide +kernel
theorem dX2_money_2 : decode cX2_money 2 = .ok (.invokevirtual 82, 3) := by decide +kernel
theorem dX2_money_5 : decode cX2_money 5 = .ok (.ifCond .eq 22, 3) := by decide +kernel
theorem dX2_money_8 : decode cX2_money 8 = .ok (.iload_n 2, 1) := by decide +kernel
theorem dX2_money_9 : decode cX2_money 9 = .ok (.iconst 1, 1) := by decide +kernel
theorem dX2_money_10 : decode cX2_money 10 = .ok (.sipush 200, 3) := by decide +kernel
theorem dX2_money_13 : decode cX2_money 13 = .ok (.invokestatic 32, 3) := by decide +kernel
theorem dX2_money_16 : decode cX2_money 16 = .ok (.ifCond .eq 11, 3) := by decide +kernel
theorem dX2_money_19 : decode cX2_money 19 = .ok (.aload_n 0, 1) := by decide +kernel
theorem dX2_money_20 : decode cX2_money 20 = .ok (.iload_n 3, 1) := by decide +kernel
theorem dX2_money_21 : decode cX2_money 21 = .ok (.invokevirtual 75, 3) := by decide +kernel
theorem dX2_money_24 : decode cX2_money 24 = .ok (.ifCond .ne 7, 3) := by decide +kernel
theorem dX2_money_27 : decode cX2_money 27 = .ok (.ldc2_w 96, 3) := by decide +kernel
theorem dX2_money_30 : decode cX2_money 30 = .ok (.lreturn, 1) := by decide +kernel
theorem dX2_money_31 : decode cX2_money 31 = .ok (.aload_n 0, 1) := by decide +kernel
theorem dX2_money_32 : decode cX2_money 32 = .ok (.getfield 21, 3) := by decide +kernel
theorem dX2_money_35 : decode cX2_money 35 = .ok (.iload_n 1, 1) := by decide +kernel
theorem dX2_money_36 : decode cX2_money 36 = .ok (.iload_n 2, 1) := by decide +kernel
theorem dX2_money_37 : decode cX2_money 37 = .ok (.iconst (-1), 1) := by decide +kernel
theorem dX2_money_38 : decode cX2_money 38 = .ok (.invokevirtual 89, 3) := by decide +kernel
theorem dX2_money_41 : decode cX2_money 41 = .ok (.pop, 1) := by decide +kernel
theorem dX2_money_42 : decode cX2_money 42 = .ok (.aload_n 0, 1) := by decide +kernel
theorem dX2_money_43 : decode cX2_money 43 = .ok (.getfield 21, 3) := by decide +kernel
theorem dX2_money_46 : decode cX2_money 46 = .ok (.iload_n 1, 1) := by decide +kernel
theorem dX2_money_47 : decode cX2_money 47 = .ok (.iload_n 2, 1) := by decide +kernel
theorem dX2_money_48 : decode cX2_money 48 = .ok (.iload_n 3, 1) := by decide +kernel
theorem dX2_money_49 : decode cX2_money 49 = .ok (.invokevirtual 98, 3) := by decide +kernel
theorem dX2_money_52 : decode cX2_money 52 = .ok (.lreturn, 1) := by decide +kernel
set_option maxRecDepth 20000 in
theorem ggX2_owed_X2_isKnowing : GoodIn wsX2_owed wsX2_isKnowing := goodIn_r _ [7, 8, 9, 10, 11, 6, 12, 130, 131, 132, 133, 134, 135, 136, 137, 138, 139, 140, 141, 142, 143, 144, 145, 146] rfl (by decide +kernel)
set_option maxRecDepth 20000 in
theorem gX2_owed_X2_isKnowing : GoodIn wsX2_owed (wsV RX2 82 RX2 yX2_isKnowing wsX2_isKnowing) := goodIn_app (goodIn_of _ (by decide +kernel)) ggX2_owed_X2_isKnowing
set_option maxRecDepth 20000 in
theorem ggX2_owed_X2_isWithin : GoodIn wsX2_owed wsX2_isWithin := goodIn_r _ [12] rfl (by decide +kernel)
set_option maxRecDepth 20000 in
theorem gX2_owed_X2_isWithin : GoodIn wsX2_owed (va_wsS RX2 32 yX2_isWithin wsX2_isWithin) := goodIn_app (goodIn_of _ (by decide +kernel)) ggX2_owed_X2_isWithin
set_option maxRecDepth 20000 in
theorem ggX2_owed_X2_isOwner : GoodIn wsX2_owed wsX2_isOwner := goodIn_r _ [15, 10, 11, 6, 12] rfl (by decide +kernel)
set_option maxRecDepth 20000 in
theorem gX2_owed_X2_isOwner : GoodIn wsX2_owed (va_wsS RX2 59 yX2_isOwner wsX2_isOwner) := goodIn_app (goodIn_of _ (by decide +kernel)) ggX2_owed_X2_isOwner
set_option maxRecDepth 20000 in
theorem ggX2_owed_X1_show : GoodIn wsX2_owed wsX1_show := goodIn_r _ [20, 21, 22, 23, 24, 25, 26, 27, 6, 28, 29, 30, 31, 19, 32, 33, 34, 35, 36, 37, 38, 39, 40, 41, 42, 43, 44, 45, 46, 47, 48, 49, 50, 51, 52, 53, 54, 55, 56, 57, 58, 59, 60, 61, 62, 63, 64, 65, 66, 67, 68, 69, 70, 71, 72, 73, 74, 75, 76, 77, 78, 79, 80, 81, 82, 83, 84, 85, 86, 87, 88, 89, 90, 91, 92, 93, 94, 95, 96, 97, 98, 99, 100, 101, 102, 103, 104, 105, 106, 107, 108, 109, 110, 111, 112, 113, 114, 115, 116, 117, 118, 147, 148, 149, 150, 151, 152, 153, 154, 155, 156, 157, 158, 133, 134, 135, 136, 137, 138, 139, 140, 141, 142, 143, 144, 145, 146] rfl (by decide +kernel)
set_option maxRecDepth 20000 in
theorem gX2_owed_X1_show : GoodIn wsX2_owed (wsV RX2 89 RX1 yX1_show wsX1_show) := goodIn_app (goodIn_of _ (by decide +kernel)) ggX2_owed_X1_show
set_option maxRecDepth 20000 in
theorem ggX2_owed_X1_worthOfAll : GoodIn wsX2_owed wsX1_worthOfAll := goodIn_r _ [122, 21, 46, 123, 81, 82, 83, 19, 84, 85, 23, 86, 87, 88, 89, 90, 91, 92, 93, 94, 95, 96, 97, 98, 124, 125, 126, 127, 55, 128, 129, 48, 49, 50, 147, 148, 149, 150, 151, 152, 153, 154, 155, 156, 157, 158, 133, 134, 135, 136, 137, 138, 139, 140, 141, 142, 143, 144, 145, 146] rfl (by decide +kernel)
set_option maxRecDepth 20000 in
theorem gX2_owed_X1_worthOfAll : GoodIn wsX2_owed (wsV RX2 102 RX1 yX1_worthOfAll wsX1_worthOfAll) := goodIn_app (goodIn_of _ (by decide +kernel)) ggX2_owed_X1_worthOfAll
theorem dX2_owed_0 : decode cX2_owed 0 = .ok (.aload_n 0, 1) := by decide +kernel
theorem dX2_owed_1 : decode cX2_owed 1 = .ok (.iload_n 1, 1) := by decide +kernel
theorem dX2_owed_2 : decode cX2_owed 2 = .ok (.invokevirtual 82, 3) := by decide +kernel
theorem dX2_owed_5 : decode cX2_owed 5 = .ok (.ifCond .eq 26, 3) := by decide +kernel
theorem dX2_owed_8 : decode cX2_owed 8 = .ok (.iload_n 2, 1) := by decide +kernel
theorem dX2_owed_9 : decode cX2_owed 9 = .ok (.iconst 1, 1) := by decide +kernel
theorem dX2_owed_10 : decode cX2_owed 10 = .ok (.sipush 200, 3) := by decide +kernel
theorem dX2_owed_13 : decode cX2_owed 13 = .ok (.invokestatic 32, 3) := by decide +kernel
theorem dX2_owed_16 : decode cX2_owed 16 = .ok (.ifCond .eq 15, 3) := by decide +kernel
theorem dX2_owed_19 : decode cX2_owed 19 = .ok (.iload_n 3, 1) := by decide +kernel
theorem dX2_owed_20 : decode cX2_owed 20 = .ok (.iconst (-1), 1) := by decide +kernel
theorem dX2_owed_21 : decode cX2_owed 21 = .ok (.if_icmp .eq 14, 3) := by decide +kernel
theorem dX2_owed_24 : decode cX2_owed 24 = .ok (.iload_n 3, 1) := by decide +kernel
theorem dX2_owed_25 : decode cX2_owed 25 = .ok (.invokestatic 59, 3) := by decide +kernel
theorem dX2_owed_28 : decode cX2_owed 28 = .ok (.ifCond .ne 7, 3) := by decide +kernel
theorem dX2_owed_31 : decode cX2_owed 31 = .ok (.ldc2_w 96, 3) := by decide +kernel
theorem dX2_owed_34 : decode cX2_owed 34 = .ok (.lreturn, 1) := by decide +kernel
theorem dX2_owed_35 : decode cX2_owed 35 = .ok (.aload_n 0, 1) := by decide +kernel
theorem dX2_owed_36 : decode cX2_owed 36 = .ok (.getfield 21, 3) := by decide +kernel
theorem dX2_owed_39 : decode cX2_owed 39 = .ok (.iload_n 1, 1) := by decide +kernel
theorem dX2_owed_40 : decode cX2_owed 40 = .ok (.iload_n 2, 1) := by decide +kernel
theorem dX2_owed_41 : decode cX2_owed 41 = .ok (.iconst (-1), 1) := by decide +kernel
theorem dX2_owed_42 : decode cX2_owed 42 = .ok (.invokevirtual 89, 3) := by decide +kernel
theorem dX2_owed_45 : decode cX2_owed 45 = .ok (.pop, 1) := by decide +kernel
theorem dX2_owed_46 : decode cX2_owed 46 = .ok (.aload_n 0, 1) := by decide +kernel
theorem dX2_owed_47 : decode cX2_owed 47 = .ok (.getfield 21, 3) := by decide +kernel
theorem dX2_owed_50 : decode cX2_owed 50 = .ok (.iload_n 1, 1) := by decide +kernel
theorem dX2_owed_51 : decode cX2_owed 51 = .ok (.iload_n 2, 1) := by decide +kernel
theorem dX2_owed_52 : decode cX2_owed 52 = .ok (.iload_n 3, 1) := by decide +kernel
theorem dX2_owed_53 : decode cX2_owed 53 = .ok (.invokevirtual 102, 3) := by decide +kernel
theorem dX2_owed_56 : decode cX2_owed 56 = .ok (.lreturn, 1) := by decide +kernel
set_option maxRecDepth 20000 in
theorem ggX2_parish_X2_isKnowing : GoodIn wsX2_parish wsX2_isKnowing := goodIn_r _ [8, 9, 10, 11, 12, 7, 13, 129, 130, 131, 144, 145, 146, 147, 148, 149, 150, 151, 152, 153, 154, 155, 156, 157] rfl (by decide +kernel)
set_option maxRecDepth 20000 in
theorem gX2_parish_X2_isKnowing : GoodIn wsX2_parish (wsV RX2 82 RX2 yX2_isKnowing wsX2_isKnowing) := goodIn_app (goodIn_of _ (by decide +kernel)) ggX2_parish_X2_isKnowing
set_option maxRecDepth 20000 in
theorem ggX2_parish_X2_isWithin : GoodIn wsX2_parish wsX2_isWithin := goodIn_r _ [13] rfl (by decide +kernel)
set_option maxRecDepth 20000 in
theorem gX2_parish_X2_isWithin : GoodIn wsX2_parish (va_wsS RX2 32 yX2_isWithin wsX2_isWithin) := goodIn_app (goodIn_of _ (by decide +kernel)) ggX2_parish_X2_isWithin
set_option maxRecDepth 20000 in
theorem ggX2_parish_X1_show : GoodIn wsX2_parish wsX1_show := goodIn_r _ [18, 19, 20, 21, 22, 23, 24, 25, 7, 26, 27, 28, 29, 17, 30, 31, 32, 33, 34, 35, 36, 37, 38, 39, 40, 41, 42, 43, 44, 45, 46, 47, 48, 49, 50, 51, 52, 53, 54, 55, 56, 57, 58, 59, 60, 61, 62, 63, 64, 65, 66, 67, 68, 69, 70, 71, 72, 73, 74, 75, 76, 77, 78, 79, 80, 81, 82, 83, 84, 85, 86, 87, 88, 89, 90, 91, 92, 93, 94, 95, 96, 97, 98, 99, 100, 101, 102, 103, 104, 105, 106, 107, 108, 109, 110, 111, 112, 113, 114, 115, 116, 132, 133, 134, 135, 136, 137, 138, 139, 140, 141, 142, 143, 144, 145, 146, 147, 148, 149, 150, 151, 152, 153, 154, 155, 156, 157] rfl (by decide +kernel)
set_option maxRecDepth 20000 in
theorem gX2_parish_X1_show : GoodIn wsX2_parish (wsV RX2 89 RX1 yX1_show wsX1_show) := goodIn_app (goodIn_of _ (by decide +kernel)) ggX2_parish_X1_show
set_option maxRecDepth 20000 in
theorem ggX2_parish_X1_howMany : GoodIn wsX2_parish wsX1_howMany := goodIn_r _ [120, 19, 132, 133, 134, 135, 136, 137, 138, 139, 140, 141, 142, 143] rfl (by decide +kernel)
set_option maxRecDepth 20000 in
theorem gX2_parish_X1_howMany : GoodIn wsX2_parish (wsV RX2 105 RX1 yX1_howMany wsX1_howMany) := goodIn_app (goodIn_of _ (by decide +kernel)) ggX2_parish_X1_howMany
set_option maxRecDepth 20000 in
theorem ggX2_parish_X1_sumOf : GoodIn wsX2_parish wsX1_sumOf := goodIn_r _ [124, 19, 125, 126, 127, 17, 128, 42, 43, 44, 53, 45, 58, 59, 60, 61, 132, 133, 134, 135, 136, 137, 138, 139, 140, 141, 142, 143] rfl (by decide +kernel)
set_option maxRecDepth 20000 in
theorem gX2_parish_X1_sumOf : GoodIn wsX2_parish (wsV RX2 109 RX1 yX1_sumOf wsX1_sumOf) := goodIn_app (goodIn_of _ (by decide +kernel)) ggX2_parish_X1_sumOf
theorem dX2_parish_0 : decode cX2_parish 0 = .ok (.aload_n 0, 1) := by decide +kernel
theorem dX2_parish_1 : decode cX2_parish 1 = .ok (.iload_n 1, 1) := by decide +kernel
theorem dX2_parish_2 : decode cX2_parish 2 = .ok (.invokevirtual 82, 3) := by decide +kernel
theorem dX2_parish_5 : decode cX2_parish 5 = .ok (.ifCond .eq 14, 3) := by decide +kernel
theorem dX2_parish_8 : decode cX2_parish 8 = .ok (.iload_n 2, 1) := by decide +kernel
theorem dX2_parish_9 : decode cX2_parish 9 = .ok (.iconst 0, 1) := by decide +kernel
theorem dX2_parish_10 : decode cX2_parish 10 = .ok (.sipush 200, 3) := by decide +kernel
theorem dX2_parish_13 : decode cX2_parish 13 = .ok (.invokestatic 32, 3) := by decide +kernel
theorem dX2_parish_16 : decode cX2_parish 16 = .ok (.ifCond .ne 7, 3) := by decide +kernel
theorem dX2_parish_19 : decode cX2_parish 19 = .ok (.ldc2_w 96, 3) := by decide +kernel
theorem dX2_parish_22 : decode cX2_parish 22 = .ok (.lreturn, 1) := by decide +kernel
theorem dX2_parish_23 : decode cX2_parish 23 = .ok (.aload_n 0, 1) := by decide +kernel
theorem dX2_parish_24 : decode cX2_parish 24 = .ok (.getfield 21, 3) := by decide +kernel
theorem dX2_parish_27 : decode cX2_parish 27 = .ok (.iload_n 1, 1) := by decide +kernel
theorem dX2_parish_28 : decode cX2_parish 28 = .ok (.iload_n 2, 1) := by decide +kernel
theorem dX2_parish_29 : decode cX2_parish 29 = .ok (.iconst (-1), 1) := by decide +kernel
theorem dX2_parish_30 : decode cX2_parish 30 = .ok (.invokevirtual 89, 3) := by decide +kernel
theorem dX2_parish_33 : decode cX2_parish 33 = .ok (.pop, 1) := by decide +kernel
theorem dX2_parish_34 : decode cX2_parish 34 = .ok (.iload_n 3, 1) := by decide +kernel
theorem dX2_parish_35 : decode cX2_parish 35 = .ok (.tableswitch 96 0 6 #[41, 50, 59, 59, 59, 70, 80], 41) := by decide +kernel
theorem dX2_parish_76 : decode cX2_parish 76 = .ok (.aload_n 0, 1) := by decide +kernel
theorem dX2_parish_77 : decode cX2_parish 77 = .ok (.getfield 21, 3) := by decide +kernel
theorem dX2_parish_80 : decode cX2_parish 80 = .ok (.invokevirtual 105, 3) := by decide +kernel
theorem dX2_parish_83 : decode cX2_parish 83 = .ok (.i2l, 1) := by decide +kernel
theorem dX2_parish_84 : decode cX2_parish 84 = .ok (.lreturn, 1) := by decide +kernel
theorem dX2_parish_85 : decode cX2_parish 85 = .ok (.aload_n 0, 1) := by decide +kernel
theorem dX2_parish_86 : decode cX2_parish 86 = .ok (.getfield 21, 3) := by decide +kernel
theorem dX2_parish_89 : decode cX2_parish 89 = .ok (.iconst 0, 1) := by decide +kernel
theorem dX2_parish_90 : decode cX2_parish 90 = .ok (.invokevirtual 109, 3) := by decide +kernel
theorem dX2_parish_93 : decode cX2_parish 93 = .ok (.lreturn, 1) := by decide +kernel
theorem dX2_parish_94 : decode cX2_parish 94 = .ok (.aload_n 0, 1) := by decide +kernel
theorem dX2_parish_95 : decode cX2_parish 95 = .ok (.getfield 21, 3) := by decide +kernel
theorem dX2_parish_98 : decode cX2_parish 98 = .ok (.iload_n 3, 1) := by decide +kernel
theorem dX2_parish_99 : decode cX2_parish 99 = .ok (.iconst 1, 1) := by decide +kernel
theorem dX2_parish_100 : decode cX2_parish 100 = .ok (.iadd, 1) := by decide +kernel
theorem dX2_parish_101 : decode cX2_parish 101 = .ok (.invokevirtual 109, 3) := by decide +kernel
theorem dX2_parish_104 : decode cX2_parish 104 = .ok (.lreturn, 1) := by decide +kernel
theorem dX2_parish_105 : decode cX2_parish 105 = .ok (.aload_n 0, 1) := by decide +kernel
theorem dX2_parish_106 : decode cX2_parish 106 = .ok (.getfield 21, 3) := by decide +kernel
theorem dX2_parish_109 : decode cX2_parish 109 = .ok (.bipush 6, 2) := by decide +kernel
theorem dX2_parish_111 : decode cX2_parish 111 = .ok (.invokevirtual 109, 3) := by decide +kernel
theorem dX2_parish_114 : decode cX2_parish 114 = .ok (.lreturn, 1) := by decide +kernel
theorem dX2_parish_115 : decode cX2_parish 115 = .ok (.aload_n 0, 1) := by decide +kernel
theorem dX2_parish_116 : decode cX2_parish 116 = .ok (.getfield 21, 3) := by decide +kernel
theorem dX2_parish_119 : decode cX2_parish 119 = .ok (.getfield 113, 3) := by decide +kernel
theorem dX2_parish_122 : decode cX2_parish 122 = .ok (.ifCond .eq 7, 3) := by decide +kernel
theorem dX2_parish_125 : decode cX2_parish 125 = .ok (.lconst 1, 1) := by decide +kernel
theorem dX2_parish_126 : decode cX2_parish 126 = .ok (.goto 4, 3) := by decide +kernel
theorem dX2_parish_129 : decode cX2_parish 129 = .ok (.lconst 0, 1) := by decide +kernel
theorem dX2_parish_130 : decode cX2_parish 130 = .ok (.lreturn, 1) := by decide +kernel
theorem dX2_parish_131 : decode cX2_parish 131 = .ok (.ldc2_w 96, 3) := by decide +kernel
theorem dX2_parish_134 : decode cX2_parish 134 = .ok (.lreturn, 1) := by decide +kernel
set_option maxRecDepth 20000 in
theorem ggX2_cost_X2_isKnowing : GoodIn wsX2_cost wsX2_isKnowing := goodIn_r _ [12, 1, 13, 14, 15, 11, 16, 132, 133, 134, 135, 136, 137, 138, 139, 140, 141, 142, 143, 144, 145, 146, 147, 148] rfl (by decide +kernel)
set_option maxRecDepth 20000 in
theorem gX2_cost_X2_isKnowing : GoodIn wsX2_cost (wsV RX2 82 RX2 yX2_isKnowing wsX2_isKnowing) := goodIn_app (goodIn_of _ (by decide +kernel)) ggX2_cost_X2_isKnowing
set_option maxRecDepth 20000 in
theorem ggX2_cost_X2_isWithin : GoodIn wsX2_cost wsX2_isWithin := goodIn_r _ [16] rfl (by decide +kernel)
set_option maxRecDepth 20000 in
theorem gX2_cost_X2_isWithin : GoodIn wsX2_cost (va_wsS RX2 32 yX2_isWithin wsX2_isWithin) := goodIn_app (goodIn_of _ (by decide +kernel)) ggX2_cost_X2_isWithin
set_option maxRecDepth 20000 in
theorem ggX2_cost_X2_at : GoodIn wsX2_cost wsX2_at := goodIn_r _ [19] rfl (by decide +kernel)
set_option maxRecDepth 20000 in
theorem gX2_cost_X2_at : GoodIn wsX2_cost (va_wsS RX2 120 yX2_at wsX2_at) := goodIn_app (goodIn_of _ (by decide +kernel)) ggX2_cost_X2_at
set_option maxRecDepth 20000 in
theorem ggX2_cost_X1_show : GoodIn wsX2_cost wsX1_show := goodIn_r _ [24, 25, 26, 27, 28, 29, 30, 18, 11, 19, 31, 32, 33, 23, 34, 35, 36, 37, 38, 39, 40, 41, 42, 43, 44, 45, 46, 47, 48, 49, 50, 51, 52, 53, 54, 55, 56, 57, 58, 59, 60, 61, 62, 63, 64, 65, 66, 67, 68, 69, 70, 71, 72, 73, 74, 75, 76, 77, 78, 79, 80, 81, 82, 83, 84, 85, 86, 87, 88, 89, 90, 91, 92, 93, 94, 95, 96, 97, 98, 99, 100, 101, 102, 103, 104, 105, 106, 107, 108, 109, 110, 111, 112, 113, 114, 115, 116, 117, 118, 119, 120, 149, 150, 151, 152, 153, 154, 155, 156, 157, 158, 159, 160, 135, 136, 137, 138, 139, 140, 141, 142, 143, 144, 145, 146, 147, 148] rfl (by decide +kernel)
set_option maxRecDepth 20000 in
theorem gX2_cost_X1_show : GoodIn wsX2_cost (wsV RX2 89 RX1 yX1_show wsX1_show) := goodIn_app (goodIn_of _ (by decide +kernel)) ggX2_cost_X1_show
set_option maxRecDepth 20000 in
theorem ggX2_cost_X1_worth : GoodIn wsX2_cost wsX1_worth := goodIn_r _ [124, 125, 62, 63, 64, 23, 65, 25, 83, 84, 85, 86, 87, 27, 88, 89, 90, 91, 92, 93, 94, 95, 96, 97, 98, 99, 100, 126, 127, 128, 129, 57, 130, 131, 50, 51, 52, 149, 150, 151, 152, 153, 154, 155, 156, 157, 158, 159, 160, 135, 136, 137, 138, 139, 140, 141, 142, 143, 144, 145, 146, 147, 148] rfl (by decide +kernel)
set_option maxRecDepth 20000 in
theorem gX2_cost_X1_worth : GoodIn wsX2_cost (wsV RX2 98 RX1 yX1_worth wsX1_worth) := goodIn_app (goodIn_of _ (by decide +kernel)) ggX2_cost_X1_worth
theorem dX2_cost_0 : decode cX2_cost 0 = .ok (.aload_n 0, 1) := by decide +kernel
theorem dX2_cost_1 : decode cX2_cost 1 = .ok (.iload_n 1, 1) := by decide +kernel
theorem dX2_cost_2 : decode cX2_cost 2 = .ok (.invokevirtual 82, 3) := by decide +kernel
theorem dX2_cost_5 : decode cX2_cost 5 = .ok (.ifCond .eq 30, 3) := by decide +kernel
theorem dX2_cost_8 : decode cX2_cost 8 = .ok (.iload_n 2, 1) := by decide +kernel
theorem dX2_cost_9 : decode cX2_cost 9 = .ok (.iconst 0, 1) := by decide +kernel
theorem dX2_cost_10 : decode cX2_cost 10 = .ok (.iload_n 1, 1) := by decide +kernel
theorem dX2_cost_11 : decode cX2_cost 11 = .ok (.iconst 1, 1) := by decide +kernel
theorem dX2_cost_12 : decode cX2_cost 12 = .ok (.isub, 1) := by decide +kernel
theorem dX2_cost_13 : decode cX2_cost 13 = .ok (.invokestatic 32, 3) := by decide +kernel
theorem dX2_cost_16 : decode cX2_cost 16 = .ok (.ifCond .eq 19, 3) := by decide +kernel
theorem dX2_cost_19 : decode cX2_cost 19 = .ok (.aload_n 0, 1) := by decide +kernel
theorem dX2_cost_20 : decode cX2_cost 20 = .ok (.getfield 10, 3) := by decide +kernel
theorem dX2_cost_23 : decode cX2_cost 23 = .ok (.getfield 117, 3) := by decide +kernel
theorem dX2_cost_26 : decode cX2_cost 26 = .ok (.iload_n 2, 1) := by decide +kernel
theorem dX2_cost_27 : decode cX2_cost 27 = .ok (.invokestatic 120, 3) := by decide +kernel
theorem dX2_cost_30 : decode cX2_cost 30 = .ok (.bipush 6, 2) := by decide +kernel
theorem dX2_cost_32 : decode cX2_cost 32 = .ok (.if_icmp .eq 7, 3) := by decide +kernel
theorem dX2_cost_35 : decode cX2_cost 35 = .ok (.ldc2_w 96, 3) := by decide +kernel
theorem dX2_cost_38 : decode cX2_cost 38 = .ok (.lreturn, 1) := by decide +kernel
theorem dX2_cost_39 : decode cX2_cost 39 = .ok (.aload_n 0, 1) := by decide +kernel
theorem dX2_cost_40 : decode cX2_cost 40 = .ok (.getfield 10, 3) := by decide +kernel
theorem dX2_cost_43 : decode cX2_cost 43 = .ok (.getfield 124, 3) := by decide +kernel
theorem dX2_cost_46 : decode cX2_cost 46 = .ok (.iload_n 2, 1) := by decide +kernel
theorem dX2_cost_47 : decode cX2_cost 47 = .ok (.invokestatic 120, 3) := by decide +kernel
theorem dX2_cost_50 : decode cX2_cost 50 = .ok (.istore_n 3, 1) := by decide +kernel
theorem dX2_cost_51 : decode cX2_cost 51 = .ok (.aload_n 0, 1) := by decide +kernel
theorem dX2_cost_52 : decode cX2_cost 52 = .ok (.getfield 21, 3) := by decide +kernel
theorem dX2_cost_55 : decode cX2_cost 55 = .ok (.iload_n 1, 1) := by decide +kernel
theorem dX2_cost_56 : decode cX2_cost 56 = .ok (.iload_n 3, 1) := by decide +kernel
theorem dX2_cost_57 : decode cX2_cost 57 = .ok (.iload_n 2, 1) := by decide +kernel
theorem dX2_cost_58 : decode cX2_cost 58 = .ok (.invokevirtual 89, 3) := by decide +kernel
theorem dX2_cost_61 : decode cX2_cost 61 = .ok (.pop, 1) := by decide +kernel
theorem dX2_cost_62 : decode cX2_cost 62 = .ok (.aload_n 0, 1) := by decide +kernel
theorem dX2_cost_63 : decode cX2_cost 63 = .ok (.getfield 21, 3) := by decide +kernel
theorem dX2_cost_66 : decode cX2_cost 66 = .ok (.iload_n 1, 1) := by decide +kernel
theorem dX2_cost_67 : decode cX2_cost 67 = .ok (.iload_n 3, 1) := by decide +kernel
theorem dX2_cost_68 : decode cX2_cost 68 = .ok (.aload_n 0, 1) := by decide +kernel
theorem dX2_cost_69 : decode cX2_cost 69 = .ok (.getfield 10, 3) := by decide +kernel
theorem dX2_cost_72 : decode cX2_cost 72 = .ok (.getfield 40, 3) := by decide +kernel
theorem dX2_cost_75 : decode cX2_cost 75 = .ok (.iload_n 2, 1) := by decide +kernel
theorem dX2_cost_76 : decode cX2_cost 76 = .ok (.invokestatic 120, 3) := by decide +kernel
theorem dX2_cost_79 : decode cX2_cost 79 = .ok (.invokevirtual 98, 3) := by decide +kernel
theorem dX2_cost_82 : decode cX2_cost 82 = .ok (.lstore 4, 2) := by decide +kernel
theorem dX2_cost_84 : decode cX2_cost 84 = .ok (.lload 4, 2) := by decide +kernel
theorem dX2_cost_86 : decode cX2_cost 86 = .ok (.ldc2_w 96, 3) := by decide +kernel
theorem dX2_cost_89 : decode cX2_cost 89 = .ok (.lcmp, 1) := by decide +kernel
theorem dX2_cost_90 : decode cX2_cost 90 = .ok (.ifCond .ne 9, 3) := by decide +kernel
theorem dX2_cost_93 : decode cX2_cost 93 = .ok (.ldc2_w 96, 3) := by decide +kernel
theorem dX2_cost_96 : decode cX2_cost 96 = .ok (.goto 9, 3) := by decide +kernel
theorem dX2_cost_99 : decode cX2_cost 99 = .ok (.ldc2_w 127, 3) := by decide +kernel
theorem dX2_cost_102 : decode cX2_cost 102 = .ok (.lload 4, 2) := by decide +kernel
theorem dX2_cost_104 : decode cX2_cost 104 = .ok (.lmul, 1) := by decide +kernel
theorem dX2_cost_105 : decode cX2_cost 105 = .ok (.lreturn, 1) := by decide +kernel
set_option maxRecDepth 20000 in
theorem ggX2_field_X2_isField : GoodIn wsX2_field wsX2_isField := goodIn_r _ [11, 1, 12, 13, 14, 10, 15, 19, 20, 21, 22, 23, 24, 25, 26, 27, 28, 29, 30, 31, 32, 33, 34, 35] rfl (by decide +kernel)
set_option maxRecDepth 20000 in
theorem gX2_field_X2_isField : GoodIn wsX2_field (wsV RX2 75 RX2 yX2_isField wsX2_isField) := goodIn_app (goodIn_of _ (by decide +kernel)) ggX2_field_X2_isField
set_option maxRecDepth 20000 in
theorem ggX2_field_X2_at : GoodIn wsX2_field wsX2_at := goodIn_r _ [18] rfl (by decide +kernel)
set_option maxRecDepth 20000 in
theorem gX2_field_X2_at : GoodIn wsX2_field (va_wsS RX2 120 yX2_at wsX2_at) := goodIn_app (goodIn_of _ (by decide +kernel)) ggX2_field_X2_at
theorem dX2_field_0 : decode cX2_field 0 = .ok (.aload_n 0, 1) := by decide +kernel
theorem dX2_field_1 : decode cX2_field 1 = .ok (.iload_n 1, 1) := by decide +kernel
theorem dX2_field_2 : decode cX2_field 2 = .ok (.invokevirtual 75, 3) := by decide +kernel
theorem dX2_field_5 : decode cX2_field 5 = .ok (.ifCond .ne 5, 3) := by decide +kernel
theorem dX2_field_8 : decode cX2_field 8 = .ok (.iconst (-1), 1) := by decide +kernel
theorem dX2_field_9 : decode cX2_field 9 = .ok (.ireturn, 1) := by decide +kernel
theorem dX2_field_10 : decode cX2_field 10 = .ok (.aload_n 0, 1) := by decide +kernel
theorem dX2_field_11 : decode cX2_field 11 = .ok (.getfield 10, 3) := by decide +kernel
theorem dX2_field_14 : decode cX2_field 14 = .ok (.getfield 129, 3) := by decide +kernel
theorem dX2_field_17 : decode cX2_field 17 = .ok (.iload_n 1, 1) := by decide +kernel
theorem dX2_field_18 : decode cX2_field 18 = .ok (.invokestatic 120, 3) := by decide +kernel
theorem dX2_field_21 : decode cX2_field 21 = .ok (.istore_n 3, 1) := by decide +kernel
theorem dX2_field_22 : decode cX2_field 22 = .ok (.aload_n 0, 1) := by decide +kernel
theorem dX2_field_23 : decode cX2_field 23 = .ok (.getfield 10, 3) := by decide +kernel
theorem dX2_field_26 : decode cX2_field 26 = .ok (.getfield 132, 3) := by decide +kernel
theorem dX2_field_29 : decode cX2_field 29 = .ok (.iload_n 1, 1) := by decide +kernel
theorem dX2_field_30 : decode cX2_field 30 = .ok (.invokestatic 120, 3) := by decide +kernel
theorem dX2_field_33 : decode cX2_field 33 = .ok (.istore 4, 2) := by decide +kernel
theorem dX2_field_35 : decode cX2_field 35 = .ok (.iload_n 2, 1) := by decide +kernel
theorem dX2_field_36 : decode cX2_field 36 = .ok (.tableswitch 94 0 5 #[40, 52, 65, 67, 70, 82], 40) := by decide +kernel
theorem dX2_field_76 : decode cX2_field 76 = .ok (.aload_n 0, 1) := by decide +kernel
theorem dX2_field_77 : decode cX2_field 77 = .ok (.getfield 10, 3) := by decide +kernel
theorem dX2_field_80 : decode cX2_field 80 = .ok (.getfield 124, 3) := by decide +kernel
theorem dX2_field_83 : decode cX2_field 83 = .ok (.iload_n 3, 1) := by decide +kernel
theorem dX2_field_84 : decode cX2_field 84 = .ok (.invokestatic 120, 3) := by decide +kernel
theorem dX2_field_87 : decode cX2_field 87 = .ok (.ireturn, 1) := by decide +kernel
theorem dX2_field_88 : decode cX2_field 88 = .ok (.aload_n 0, 1) := by decide +kernel
theorem dX2_field_89 : decode cX2_field 89 = .ok (.getfield 10, 3) := by decide +kernel
theorem dX2_field_92 : decode cX2_field 92 = .ok (.getfield 124, 3) := by decide +kernel
theorem dX2_field_95 : decode cX2_field 95 = .ok (.iload 4, 2) := by decide +kernel
theorem dX2_field_97 : decode cX2_field 97 = .ok (.invokestatic 120, 3) := by decide +kernel
theorem dX2_field_100 : decode cX2_field 100 = .ok (.ireturn, 1) := by decide +kernel
theorem dX2_field_101 : decode cX2_field 101 = .ok (.iload_n 3, 1) := by decide +kernel
theorem dX2_field_102 : decode cX2_field 102 = .ok (.ireturn, 1) := by decide +kernel
theorem dX2_field_103 : decode cX2_field 103 = .ok (.iload 4, 2) := by decide +kernel
theorem dX2_field_105 : decode cX2_field 105 = .ok (.ireturn, 1) := by decide +kernel
theorem dX2_field_106 : decode cX2_field 106 = .ok (.aload_n 0, 1) := by decide +kernel
theorem dX2_field_107 : decode cX2_field 107 = .ok (.getfield 10, 3) := by decide +kernel
theorem dX2_field_110 : decode cX2_field 110 = .ok (.getfield 40, 3) := by decide +kernel
theorem dX2_field_113 : decode cX2_field 113 = .ok (.iload_n 3, 1) := by decide +kernel
theorem dX2_field_114 : decode cX2_field 114 = .ok (.invokestatic 120, 3) := by decide +kernel
theorem dX2_field_117 : decode cX2_field 117 = .ok (.ireturn, 1) := by decide +kernel
theorem dX2_field_118 : decode cX2_field 118 = .ok (.aload_n 0, 1) := by decide +kernel
theorem dX2_field_119 : decode cX2_field 119 = .ok (.getfield 10, 3) := by decide +kernel
theorem dX2_field_122 : decode cX2_field 122 = .ok (.getfield 78, 3) := by decide +kernel
theorem dX2_field_125 : decode cX2_field 125 = .ok (.iload_n 3, 1) := by decide +kernel
theorem dX2_field_126 : decode cX2_field 126 = .ok (.invokestatic 120, 3) := by decide +kernel
theorem dX2_field_129 : decode cX2_field 129 = .ok (.ireturn, 1) := by decide +kernel
theorem dX2_field_130 : decode cX2_field 130 = .ok (.iconst (-1), 1) := by decide +kernel
theorem dX2_field_131 : decode cX2_field 131 = .ok (.ireturn, 1) := by decide +kernel
set_option maxRecDepth 20000 in
theorem ggX2_differ_X2_isKnowing : GoodIn wsX2_differ wsX2_isKnowing := goodIn_r _ [7, 8, 9, 10, 11, 6, 12, 124, 125, 126, 127, 128, 129, 130, 131, 132, 133, 134, 135, 136, 137, 138, 139, 140] rfl (by decide +kernel)
set_option maxRecDepth 20000 in
theorem gX2_differ_X2_isKnowing : GoodIn wsX2_differ (wsV RX2 82 RX2 yX2_isKnowing wsX2_isKnowing) := goodIn_app (goodIn_of _ (by decide +kernel)) ggX2_differ_X2_isKnowing
set_option maxRecDepth 20000 in
theorem ggX2_differ_X2_isWithin : GoodIn wsX2_differ wsX2_isWithin := goodIn_r _ [12] rfl (by decide +kernel)
set_option maxRecDepth 20000 in
theorem gX2_differ_X2_isWithin : GoodIn wsX2_differ (va_wsS RX2 32 yX2_isWithin wsX2_isWithin) := goodIn_app (goodIn_of _ (by decide +kernel)) ggX2_differ_X2_isWithin
set_option maxRecDepth 20000 in
theorem ggX2_differ_X1_show : GoodIn wsX2_differ wsX1_show := goodIn_r _ [17, 18, 19, 20, 21, 22, 23, 24, 6, 25, 26, 27, 28, 16, 29, 30, 31, 32, 33, 34, 35, 36, 37, 38, 39, 40, 41, 42, 43, 44, 45, 46, 47, 48, 49, 50, 51, 52, 53, 54, 55, 56, 57, 58, 59, 60, 61, 62, 63, 64, 65, 66, 67, 68, 69, 70, 71, 72, 73, 74, 75, 76, 77, 78, 79, 80, 81, 82, 83, 84, 85, 86, 87, 88, 89, 90, 91, 92, 93, 94, 95, 96, 97, 98, 99, 100, 101, 102, 103, 104, 105, 106, 107, 108, 109, 110, 111, 112, 113, 114, 115, 141, 142, 143, 144, 145, 146, 147, 148, 149, 150, 151, 152, 127, 128, 129, 130, 131, 132, 133, 134, 135, 136, 137, 138, 139, 140] rfl (by decide +kernel)
set_option maxRecDepth 20000 in
theorem gX2_differ_X1_show : GoodIn wsX2_differ (wsV RX2 89 RX1 yX1_show wsX1_show) := goodIn_app (goodIn_of _ (by decide +kernel)) ggX2_differ_X1_show
set_option maxRecDepth 20000 in
theorem ggX2_differ_X1_isOtherwise : GoodIn wsX2_differ wsX1_isOtherwise := goodIn_r _ [119, 120, 121, 122, 16, 123, 41, 42, 43, 52, 44, 57, 58, 59, 60, 18, 141, 142, 143, 144, 145, 146, 147, 148, 149, 150, 151, 152] rfl (by decide +kernel)
set_option maxRecDepth 20000 in
theorem gX2_differ_X1_isOtherwise : GoodIn wsX2_differ (wsV RX2 135 RX1 yX1_isOtherwise wsX1_isOtherwise) := goodIn_app (goodIn_of _ (by decide +kernel)) ggX2_differ_X1_isOtherwise
theorem dX2_differ_0 : decode cX2_differ 0 = .ok (.aload_n 0, 1) := by decide +kernel
theorem dX2_differ_1 : decode cX2_differ 1 = .ok (.iload_n 1, 1) := by decide +kernel
theorem dX2_differ_2 : decode cX2_differ 2 = .ok (.invokevirtual 82, 3) := by decide +kernel
theorem dX2_differ_5 : decode cX2_differ 5 = .ok (.ifCond .eq 22, 3) := by decide +kernel
theorem dX2_differ_8 : decode cX2_differ 8 = .ok (.aload_n 0, 1) := by decide +kernel
theorem dX2_differ_9 : decode cX2_differ 9 = .ok (.iload_n 2, 1) := by decide +kernel
theorem dX2_differ_10 : decode cX2_differ 10 = .ok (.invokevirtual 82, 3) := by decide +kernel
theorem dX2_differ_13 : decode cX2_differ 13 = .ok (.ifCond .eq 14, 3) := by decide +kernel
theorem dX2_differ_16 : decode cX2_differ 16 = .ok (.iload_n 3, 1) := by decide +kernel
theorem dX2_differ_17 : decode cX2_differ 17 = .ok (.iconst 0, 1) := by decide +kernel
theorem dX2_differ_18 : decode cX2_differ 18 = .ok (.sipush 200, 3) := by decide +kernel
theorem dX2_differ_21 : decode cX2_differ 21 = .ok (.invokestatic 32, 3) := by decide +kernel
theorem dX2_differ_24 : decode cX2_differ 24 = .ok (.ifCond .ne 5, 3) := by decide +kernel
theorem dX2_differ_27 : decode cX2_differ 27 = .ok (.iconst (-1), 1) := by decide +kernel
theorem dX2_differ_28 : decode cX2_differ 28 = .ok (.ireturn, 1) := by decide +kernel
theorem dX2_differ_29 : decode cX2_differ 29 = .ok (.aload_n 0, 1) := by decide +kernel
theorem dX2_differ_30 : decode cX2_differ 30 = .ok (.getfield 21, 3) := by decide +kernel
theorem dX2_differ_33 : decode cX2_differ 33 = .ok (.iload_n 1, 1) := by decide +kernel
theorem dX2_differ_34 : decode cX2_differ 34 = .ok (.iload_n 3, 1) := by decide +kernel
theorem dX2_differ_35 : decode cX2_differ 35 = .ok (.iconst (-1), 1) := by decide +kernel
theorem dX2_differ_36 : decode cX2_differ 36 = .ok (.invokevirtual 89, 3) := by decide +kernel
theorem dX2_differ_39 : decode cX2_differ 39 = .ok (.pop, 1) := by decide +kernel
theorem dX2_differ_40 : decode cX2_differ 40 = .ok (.aload_n 0, 1) := by decide +kernel
theorem dX2_differ_41 : decode cX2_differ 41 = .ok (.getfield 25, 3) := by decide +kernel
theorem dX2_differ_44 : decode cX2_differ 44 = .ok (.iload_n 2, 1) := by decide +kernel
theorem dX2_differ_45 : decode cX2_differ 45 = .ok (.iload_n 3, 1) := by decide +kernel
theorem dX2_differ_46 : decode cX2_differ 46 = .ok (.iconst (-1), 1) := by decide +kernel
theorem dX2_differ_47 : decode cX2_differ 47 = .ok (.invokevirtual 89, 3) := by decide +kernel
theorem dX2_differ_50 : decode cX2_differ 50 = .ok (.pop, 1) := by decide +kernel
theorem dX2_differ_51 : decode cX2_differ 51 = .ok (.iconst 0, 1) := by decide +kernel
theorem dX2_differ_52 : decode cX2_differ 52 = .ok (.istore 5, 2) := by decide +kernel
theorem dX2_differ_54 : decode cX2_differ 54 = .ok (.iconst 0, 1) := by decide +kernel
theorem dX2_differ_55 : decode cX2_differ 55 = .ok (.istore 6, 2) := by decide +kernel
theorem dX2_differ_57 : decode cX2_differ 57 = .ok (.iload 6, 2) := by decide +kernel
theorem dX2_differ_59 : decode cX2_differ 59 = .ok (.bipush 60, 2) := by decide +kernel
theorem dX2_differ_61 : decode cX2_differ 61 = .ok (.if_icmp .ge 38, 3) := by decide +kernel
theorem dX2_differ_64 : decode cX2_differ 64 = .ok (.aload_n 0, 1) := by decide +kernel
theorem dX2_differ_65 : decode cX2_differ 65 = .ok (.getfield 21, 3) := by decide +kernel
theorem dX2_differ_68 : decode cX2_differ 68 = .ok (.aload_n 0, 1) := by decide +kernel
theorem dX2_differ_69 : decode cX2_differ 69 = .ok (.getfield 25, 3) := by decide +kernel
theorem dX2_differ_72 : decode cX2_differ 72 = .ok (.iload 6, 2) := by decide +kernel
theorem dX2_differ_74 : decode cX2_differ 74 = .ok (.invokevirtual 135, 3) := by decide +kernel
theorem dX2_differ_77 : decode cX2_differ 77 = .ok (.ifCond .eq 16, 3) := by decide +kernel
theorem dX2_differ_80 : decode cX2_differ 80 = .ok (.iload 5, 2) := by decide +kernel
theorem dX2_differ_82 : decode cX2_differ 82 = .ok (.iload 4, 2) := by decide +kernel
theorem dX2_differ_84 : decode cX2_differ 84 = .ok (.if_icmp .ne 6, 3) := by decide +kernel
theorem dX2_differ_87 : decode cX2_differ 87 = .ok (.iload 6, 2) := by decide +kernel
theorem dX2_differ_89 : decode cX2_differ 89 = .ok (.ireturn, 1) := by decide +kernel
theorem dX2_differ_90 : decode cX2_differ 90 = .ok (.iinc 5 1, 3) := by decide +kernel
theorem dX2_differ_93 : decode cX2_differ 93 = .ok (.iinc 6 1, 3) := by decide +kernel
theorem dX2_differ_96 : decode cX2_differ 96 = .ok (.goto (-39), 3) := by decide +kernel
theorem dX2_differ_99 : decode cX2_differ 99 = .ok (.iconst (-1), 1) := by decide +kernel
theorem dX2_differ_100 : decode cX2_differ 100 = .ok (.ireturn, 1) := by decide +kernel
set_option maxRecDepth 20000 in
theorem ggX2_entry_X2_isWithin : GoodIn wsX2_entry wsX2_isWithin := goodIn_r _ [9] rfl (by decide +kernel)
set_option maxRecDepth 20000 in
theorem gX2_entry_X2_isWithin : GoodIn wsX2_entry (va_wsS RX2 32 yX2_isWithin wsX2_isWithin) := goodIn_app (goodIn_of _ (by decide +kernel)) ggX2_entry_X2_isWithin
set_option maxRecDepth 20000 in
theorem ggX2_entry_X2_at : GoodIn wsX2_entry wsX2_at := goodIn_r _ [12] rfl (by decide +kernel)
set_option maxRecDepth 20000 in
theorem gX2_entry_X2_at : GoodIn wsX2_entry (va_wsS RX2 120 yX2_at wsX2_at) := goodIn_app (goodIn_of _ (by decide +kernel)) ggX2_entry_X2_at
set_option maxRecDepth 20000 in
theorem ggX2_entry_X2_firstMadeBy : GoodIn wsX2_entry wsX2_firstMadeBy := goodIn_r _ [16, 1, 17, 10, 11, 8, 12, 18, 19, 20, 21, 22, 23, 24, 25, 26, 27, 28, 29, 30, 31, 32, 33, 34] rfl (by decide +kernel)
set_option maxRecDepth 20000 in
theorem gX2_entry_X2_firstMadeBy : GoodIn wsX2_entry (wsV RX2 72 RX2 yX2_firstMadeBy wsX2_firstMadeBy) := goodIn_app (goodIn_of _ (by decide +kernel)) ggX2_entry_X2_firstMadeBy
theorem dX2_entry_0 : decode cX2_entry 0 = .ok (.iload_n 1, 1) := by decide +kernel
theorem dX2_entry_1 : decode cX2_entry 1 = .ok (.iconst 0, 1) := by decide +kernel
theorem dX2_entry_2 : decode cX2_entry 2 = .ok (.aload_n 0, 1) := by decide +kernel
theorem dX2_entry_3 : decode cX2_entry 3 = .ok (.getfield 10, 3) := by decide +kernel
theorem dX2_entry_6 : decode cX2_entry 6 = .ok (.getfield 139, 3) := by decide +kernel
theorem dX2_entry_9 : decode cX2_entry 9 = .ok (.iconst 1, 1) := by decide +kernel
theorem dX2_entry_10 : decode cX2_entry 10 = .ok (.isub, 1) := by decide +kernel
theorem dX2_entry_11 : decode cX2_entry 11 = .ok (.invokestatic 32, 3) := by decide +kernel
theorem dX2_entry_14 : decode cX2_entry 14 = .ok (.ifCond .ne 5, 3) := by decide +kernel
theorem dX2_entry_17 : decode cX2_entry 17 = .ok (.iconst (-1), 1) := by decide +kernel
theorem dX2_entry_18 : decode cX2_entry 18 = .ok (.ireturn, 1) := by decide +kernel
theorem dX2_entry_19 : decode cX2_entry 19 = .ok (.iload_n 2, 1) := by decide +kernel
theorem dX2_entry_20 : decode cX2_entry 20 = .ok (.tableswitch 74 0 3 #[32, 44, 56, 68], 32) := by decide +kernel
theorem dX2_entry_52 : decode cX2_entry 52 = .ok (.aload_n 0, 1) := by decide +kernel
theorem dX2_entry_53 : decode cX2_entry 53 = .ok (.getfield 10, 3) := by decide +kernel
theorem dX2_entry_56 : decode cX2_entry 56 = .ok (.getfield 117, 3) := by decide +kernel
theorem dX2_entry_59 : decode cX2_entry 59 = .ok (.iload_n 1, 1) := by decide +kernel
theorem dX2_entry_60 : decode cX2_entry 60 = .ok (.invokestatic 120, 3) := by decide +kernel
theorem dX2_entry_63 : decode cX2_entry 63 = .ok (.ireturn, 1) := by decide +kernel
theorem dX2_entry_64 : decode cX2_entry 64 = .ok (.aload_n 0, 1) := by decide +kernel
theorem dX2_entry_65 : decode cX2_entry 65 = .ok (.getfield 10, 3) := by decide +kernel
theorem dX2_entry_68 : decode cX2_entry 68 = .ok (.getfield 124, 3) := by decide +kernel
theorem dX2_entry_71 : decode cX2_entry 71 = .ok (.iload_n 1, 1) := by decide +kernel
theorem dX2_entry_72 : decode cX2_entry 72 = .ok (.invokestatic 120, 3) := by decide +kernel
theorem dX2_entry_75 : decode cX2_entry 75 = .ok (.ireturn, 1) := by decide +kernel
theorem dX2_entry_76 : decode cX2_entry 76 = .ok (.aload_n 0, 1) := by decide +kernel
theorem dX2_entry_77 : decode cX2_entry 77 = .ok (.getfield 10, 3) := by decide +kernel
theorem dX2_entry_80 : decode cX2_entry 80 = .ok (.getfield 40, 3) := by decide +kernel
theorem dX2_entry_83 : decode cX2_entry 83 = .ok (.iload_n 1, 1) := by decide +kernel
theorem dX2_entry_84 : decode cX2_entry 84 = .ok (.invokestatic 120, 3) := by decide +kernel
theorem dX2_entry_87 : decode cX2_entry 87 = .ok (.ireturn, 1) := by decide +kernel
theorem dX2_entry_88 : decode cX2_entry 88 = .ok (.aload_n 0, 1) := by decide +kernel
theorem dX2_entry_89 : decode cX2_entry 89 = .ok (.iload_n 1, 1) := by decide +kernel
theorem dX2_entry_90 : decode cX2_entry 90 = .ok (.invokevirtual 72, 3) := by decide +kernel
theorem dX2_entry_93 : decode cX2_entry 93 = .ok (.ireturn, 1) := by decide +kernel
theorem dX2_entry_94 : decode cX2_entry 94 = .ok (.iconst (-1), 1) := by decide +kernel
theorem dX2_entry_95 : decode cX2_entry 95 = .ok (.ireturn, 1) := by decide +kernel
theorem dX2_count_0 : decode cX2_count 0 = .ok (.iload_n 1, 1) := by decide +kernel
theorem dX2_count_1 : decode cX2_count 1 = .ok (.lookupswitch 43 #[(0, 27), (1, 35)], 27) := by decide +kernel
theorem dX2_count_28 : decode cX2_count 28 = .ok (.aload_n 0, 1) := by decide +kernel
theorem dX2_count_29 : decode cX2_count 29 = .ok (.getfield 10, 3) := by decide +kernel
theorem dX2_count_32 : decode cX2_count 32 = .ok (.getfield 139, 3) := by decide +kernel
theorem dX2_count_35 : decode cX2_count 35 = .ok (.ireturn, 1) := by decide +kernel
theorem dX2_count_36 : decode cX2_count 36 = .ok (.aload_n 0, 1) := by decide +kernel
theorem dX2_count_37 : decode cX2_count 37 = .ok (.getfield 10, 3) := by decide +kernel
theorem dX2_count_40 : decode cX2_count 40 = .ok (.getfield 143, 3) := by decide +kernel
theorem dX2_count_43 : decode cX2_count 43 = .ok (.ireturn, 1) := by decide +kernel
theorem dX2_count_44 : decode cX2_count 44 = .ok (.iconst (-1), 1) := by decide +kernel
theorem dX2_count_45 : decode cX2_count 45 = .ok (.ireturn, 1) := by decide +kernel
theorem dX2_isWithin_0 : decode cX2_isWithin 0 = .ok (.iload_n 0, 1) := by decide +kernel
theorem dX2_isWithin_1 : decode cX2_isWithin 1 = .ok (.iload_n 1, 1) := by decide +kernel
theorem dX2_isWithin_2 : decode cX2_isWithin 2 = .ok (.if_icmp .lt 12, 3) := by decide +kernel
theorem dX2_isWithin_5 : decode cX2_isWithin 5 = .ok (.iload_n 0, 1) := by decide +kernel
theorem dX2_isWithin_6 : decode cX2_isWithin 6 = .ok (.iload_n 2, 1) := by decide +kernel
theorem dX2_isWithin_7 : decode cX2_isWithin 7 = .ok (.if_icmp .gt 7, 3) := by decide +kernel
theorem dX2_isWithin_10 : decode cX2_isWithin 10 = .ok (.iconst 1, 1) := by decide +kernel
theorem dX2_isWithin_11 : decode cX2_isWithin 11 = .ok (.goto 4, 3) := by decide +kernel
theorem dX2_isWithin_14 : decode cX2_isWithin 14 = .ok (.iconst 0, 1) := by decide +kernel
theorem dX2_isWithin_15 : decode cX2_isWithin 15 = .ok (.ireturn, 1) := by decide +kernel
set_option maxRecDepth 20000 in
theorem ggX2_isOwner_X2_isWithin : GoodIn wsX2_isOwner wsX2_isWithin := goodIn_r _ [4] rfl (by decide +kernel)
set_option maxRecDepth 20000 in
theorem gX2_isOwner_X2_isWithin : GoodIn wsX2_isOwner (va_wsS RX2 32 yX2_isWithin wsX2_isWithin) := goodIn_app (goodIn_of _ (by decide +kernel)) ggX2_isOwner_X2_isWithin
theorem dX2_isOwner_0 : decode cX2_isOwner 0 = .ok (.iload_n 0, 1) := by decide +kernel
theorem dX2_isOwner_1 : decode cX2_isOwner 1 = .ok (.iconst 0, 1) := by decide +kernel
theorem dX2_isOwner_2 : decode cX2_isOwner 2 = .ok (.bipush 9, 2) := by decide +kernel
theorem dX2_isOwner_4 : decode cX2_isOwner 4 = .ok (.invokestatic 32, 3) := by decide +kernel
theorem dX2_isOwner_7 : decode cX2_isOwner 7 = .ok (.ireturn, 1) := by decide +kernel
theorem dX2_at_0 : decode cX2_at 0 = .ok (.iload_n 1, 1) := by decide +kernel
theorem dX2_at_1 : decode cX2_at 1 = .ok (.ifCond .lt 9, 3) := by decide +kernel
theorem dX2_at_4 : decode cX2_at 4 = .ok (.iload_n 1, 1) := by decide +kernel
theorem dX2_at_5 : decode cX2_at 5 = .ok (.aload_n 0, 1) := by decide +kernel
theorem dX2_at_6 : decode cX2_at 6 = .ok (.arraylength, 1) := by decide +kernel
theorem dX2_at_7 : decode cX2_at 7 = .ok (.if_icmp .lt 7, 3) := by decide +kernel
theorem dX2_at_10 : decode cX2_at 10 = .ok (.iconst (-1), 1) := by decide +kernel
theorem dX2_at_11 : decode cX2_at 11 = .ok (.goto 6, 3) := by decide +kernel
theorem dX2_at_14 : decode cX2_at 14 = .ok (.aload_n 0, 1) := by decide +kernel
theorem dX2_at_15 : decode cX2_at 15 = .ok (.iload_n 1, 1) := by decide +kernel
theorem dX2_at_16 : decode cX2_at 16 = .ok (.iaload, 1) := by decide +kernel
theorem dX2_at_17 : decode cX2_at 17 = .ok (.ireturn, 1) := by decide +kernel
set_option maxRecDepth 20000 in
theorem ggX2_isField_X2_isWithin : GoodIn wsX2_isField wsX2_isWithin := goodIn_r _ [6] rfl (by decide +kernel)
set_option maxRecDepth 20000 in
theorem gX2_isField_X2_isWithin : GoodIn wsX2_isField (va_wsS RX2 32 yX2_isWithin wsX2_isWithin) := goodIn_app (goodIn_of _ (by decide +kernel)) ggX2_isField_X2_isWithin
theorem dX2_isField_0 : decode cX2_isField 0 = .ok (.iload_n 1, 1) := by decide +kernel
theorem dX2_isField_1 : decode cX2_isField 1 = .ok (.iconst 0, 1) := by decide +kernel
theorem dX2_isField_2 : decode cX2_isField 2 = .ok (.aload_n 0, 1) := by decide +kernel
theorem dX2_isField_3 : decode cX2_isField 3 = .ok (.getfield 10, 3) := by decide +kernel
theorem dX2_isField_6 : decode cX2_isField 6 = .ok (.getfield 143, 3) := by decide +kernel
theorem dX2_isField_9 : decode cX2_isField 9 = .ok (.iconst 1, 1) := by decide +kernel
theorem dX2_isField_10 : decode cX2_isField 10 = .ok (.isub, 1) := by decide +kernel
theorem dX2_isField_11 : decode cX2_isField 11 = .ok (.invokestatic 32, 3) := by decide +kernel
theorem dX2_isField_14 : decode cX2_isField 14 = .ok (.ireturn, 1) := by decide +kernel
set_option maxRecDepth 20000 in
theorem ggX2_isKnowing_X2_isWithin : GoodIn wsX2_isKnowing wsX2_isWithin := goodIn_r _ [6] rfl (by decide +kernel)
set_option maxRecDepth 20000 in
theorem gX2_isKnowing_X2_isWithin : GoodIn wsX2_isKnowing (va_wsS RX2 32 yX2_isWithin wsX2_isWithin) := goodIn_app (goodIn_of _ (by decide +kernel)) ggX2_isKnowing_X2_isWithin
theorem dX2_isKnowing_0 : decode cX2_isKnowing 0 = .ok (.iload_n 1, 1) := by decide +kernel
theorem dX2_isKnowing_1 : decode cX2_isKnowing 1 = .ok (.iconst 0, 1) := by decide +kernel
theorem dX2_isKnowing_2 : decode cX2_isKnowing 2 = .ok (.aload_n 0, 1) := by decide +kernel
theorem dX2_isKnowing_3 : decode cX2_isKnowing 3 = .ok (.getfield 10, 3) := by decide +kernel
theorem dX2_isKnowing_6 : decode cX2_isKnowing 6 = .ok (.getfield 139, 3) := by decide +kernel
theorem dX2_isKnowing_9 : decode cX2_isKnowing 9 = .ok (.invokestatic 32, 3) := by decide +kernel
theorem dX2_isKnowing_12 : decode cX2_isKnowing 12 = .ok (.ireturn, 1) := by decide +kernel
set_option maxRecDepth 20000 in
theorem ggX2_isActPossible_X0_isFull : GoodIn wsX2_isActPossible wsX0_isFull := goodIn_r _ [7, 8, 16, 17, 18, 19, 20, 21, 22, 23, 24, 25, 26, 27, 28, 29] rfl (by decide +kernel)
set_option maxRecDepth 20000 in
theorem gX2_isActPossible_X0_isFull : GoodIn wsX2_isActPossible (wsV RX2 28 RX0 yX0_isFull wsX0_isFull) := goodIn_app (goodIn_of _ (by decide +kernel)) ggX2_isActPossible_X0_isFull
set_option maxRecDepth 20000 in
theorem ggX2_isActPossible_X2_isWithin : GoodIn wsX2_isActPossible wsX2_isWithin := goodIn_r _ [12] rfl (by decide +kernel)
set_option maxRecDepth 20000 in
theorem gX2_isActPossible_X2_isWithin : GoodIn wsX2_isActPossible (va_wsS RX2 32 yX2_isWithin wsX2_isWithin) := goodIn_app (goodIn_of _ (by decide +kernel)) ggX2_isActPossible_X2_isWithin
theorem dX2_isActPossible_0 : decode cX2_isActPossible 0 = .ok (.aload_n 0, 1) := by decide +kernel
theorem dX2_isActPossible_1 : decode cX2_isActPossible 1 = .ok (.getfield 10, 3) := by decide +kernel
theorem dX2_isActPossible_4 : decode cX2_isActPossible 4 = .ok (.invokevirtual 28, 3) := by decide +kernel
theorem dX2_isActPossible_7 : decode cX2_isActPossible 7 = .ok (.ifCond .ne 33, 3) := by decide +kernel
theorem dX2_isActPossible_10 : decode cX2_isActPossible 10 = .ok (.iload_n 1, 1) := by decide +kernel
theorem dX2_isActPossible_11 : decode cX2_isActPossible 11 = .ok (.bipush 8, 2) := by decide +kernel
theorem dX2_isActPossible_13 : decode cX2_isActPossible 13 = .ok (.sipush 200, 3) := by decide +kernel
theorem dX2_isActPossible_16 : decode cX2_isActPossible 16 = .ok (.invokestatic 32, 3) := by decide +kernel
theorem dX2_isActPossible_19 : decode cX2_isActPossible 19 = .ok (.ifCond .eq 21, 3) := by decide +kernel
theorem dX2_isActPossible_22 : decode cX2_isActPossible 22 = .ok (.aload_n 0, 1) := by decide +kernel
theorem dX2_isActPossible_23 : decode cX2_isActPossible 23 = .ok (.getfield 10, 3) := by decide +kernel
theorem dX2_isActPossible_26 : decode cX2_isActPossible 26 = .ok (.getfield 143, 3) := by decide +kernel
theorem dX2_isActPossible_29 : decode cX2_isActPossible 29 = .ok (.iload_n 2, 1) := by decide +kernel
theorem dX2_isActPossible_30 : decode cX2_isActPossible 30 = .ok (.iadd, 1) := by decide +kernel
theorem dX2_isActPossible_31 : decode cX2_isActPossible 31 = .ok (.bipush 60, 2) := by decide +kernel
theorem dX2_isActPossible_33 : decode cX2_isActPossible 33 = .ok (.if_icmp .gt 7, 3) := by decide +kernel
theorem dX2_isActPossible_36 : decode cX2_isActPossible 36 = .ok (.iconst 1, 1) := by decide +kernel
theorem dX2_isActPossible_37 : decode cX2_isActPossible 37 = .ok (.goto 4, 3) := by decide +kernel
theorem dX2_isActPossible_40 : decode cX2_isActPossible 40 = .ok (.iconst 0, 1) := by decide +kernel
theorem dX2_isActPossible_41 : decode cX2_isActPossible 41 = .ok (.ireturn, 1) := by decide +kernel
set_option maxRecDepth 20000 in
theorem ggX2_firstMadeBy_X2_at : GoodIn wsX2_firstMadeBy wsX2_at := goodIn_r _ [6] rfl (by decide +kernel)
set_option maxRecDepth 20000 in
theorem gX2_firstMadeBy_X2_at : GoodIn wsX2_firstMadeBy (va_wsS RX2 120 yX2_at wsX2_at) := goodIn_app (goodIn_of _ (by decide +kernel)) ggX2_firstMadeBy_X2_at
theorem dX2_firstMadeBy_0 : decode cX2_firstMadeBy 0 = .ok (.aload_n 0, 1) := by decide +kernel
theorem dX2_firstMadeBy_1 : decode cX2_firstMadeBy 1 = .ok (.getfield 10, 3) := by decide +kernel
theorem dX2_firstMadeBy_4 : decode cX2_firstMadeBy 4 = .ok (.getfield 146, 3) := by decide +kernel
theorem dX2_firstMadeBy_7 : decode cX2_firstMadeBy 7 = .ok (.iload_n 1, 1) := by decide +kernel
theorem dX2_firstMadeBy_8 : decode cX2_firstMadeBy 8 = .ok (.invokestatic 120, 3) := by decide +kernel
theorem dX2_firstMadeBy_11 : decode cX2_firstMadeBy 11 = .ok (.ireturn, 1) := by decide +kernel
set_option maxRecDepth 20000 in
theorem ggX2_takeDraft_X0_put : GoodIn wsX2_takeDraft wsX0_put := goodIn_r _ [10, 11, 140, 141, 142, 143, 144, 145, 146, 147, 148, 149, 150, 151, 152, 153] rfl (by decide +kernel)
set_option maxRecDepth 20000 in
theorem gX2_takeDraft_X0_put : GoodIn wsX2_takeDraft (wsV RX2 44 RX0 yX0_put wsX0_put) := goodIn_app (goodIn_of _ (by decide +kernel)) ggX2_takeDraft_X0_put
set_option maxRecDepth 20000 in
theorem ggX2_takeDraft_X0_fileDraft : GoodIn wsX2_takeDraft wsX0_fileDraft := goodIn_r _ [15, 16, 17, 11, 18, 19, 20, 21, 140, 141, 142, 143, 144, 145, 146, 147, 148, 149, 150, 151, 152, 153] rfl (by decide +kernel)
set_option maxRecDepth 20000 in
theorem gX2_takeDraft_X0_fileDraft : GoodIn wsX2_takeDraft (wsV RX2 149 RX0 yX0_fileDraft wsX0_fileDraft) := goodIn_app (goodIn_of _ (by decide +kernel)) ggX2_takeDraft_X0_fileDraft
set_option maxRecDepth 20000 in
theorem ggX2_takeDraft_X1_show : GoodIn wsX2_takeDraft wsX1_show := goodIn_r _ [26, 27, 28, 29, 30, 31, 32, 19, 20, 21, 33, 34, 35, 25, 36, 37, 38, 39, 40, 41, 42, 43, 44, 45, 46, 47, 48, 49, 50, 51, 52, 53, 54, 55, 56, 57, 58, 59, 60, 61, 62, 63, 64, 65, 66, 67, 68, 69, 70, 71, 72, 73, 74, 75, 76, 77, 78, 79, 80, 81, 82, 83, 84, 85, 86, 87, 88, 89, 90, 91, 92, 9, 93, 94, 95, 96, 97, 17, 98, 99, 100, 101, 102, 103, 104, 105, 106, 107, 108, 109, 110, 111, 112, 113, 114, 115, 116, 117, 118, 119, 120, 154, 155, 156, 157, 158, 159, 160, 161, 162, 163, 164, 165, 140, 141, 142, 143, 144, 145, 146, 147, 148, 149, 150, 151, 152, 153] rfl (by decide +kernel)
set_option maxRecDepth 20000 in
theorem gX2_takeDraft_X1_show : GoodIn wsX2_takeDraft (wsV RX2 89 RX1 yX1_show wsX1_show) := goodIn_app (goodIn_of _ (by decide +kernel)) ggX2_takeDraft_X1_show
set_option maxRecDepth 20000 in
theorem ggX2_takeDraft_X0_withdrawDraft : GoodIn wsX2_takeDraft wsX0_withdrawDraft := goodIn_r _ [124, 16, 18, 11, 140, 141, 142, 143, 144, 145, 146, 147, 148, 149, 150, 151, 152, 153] rfl (by decide +kernel)
set_option maxRecDepth 20000 in
theorem gX2_takeDraft_X0_withdrawDraft : GoodIn wsX2_takeDraft (wsV RX2 152 RX0 yX0_withdrawDraft wsX0_withdrawDraft) := goodIn_app (goodIn_of _ (by decide +kernel)) ggX2_takeDraft_X0_withdrawDraft
set_option maxRecDepth 20000 in
theorem ggX2_takeDraft_X0_keep : GoodIn wsX2_takeDraft wsX0_keep := goodIn_r _ [128, 11, 129, 130, 131, 98, 99, 132, 19, 20, 21, 133, 134, 135, 9, 136, 140, 141, 142, 143, 144, 145, 146, 147, 148, 149, 150, 151, 152, 153] rfl (by decide +kernel)
set_option maxRecDepth 20000 in
theorem gX2_takeDraft_X0_keep : GoodIn wsX2_takeDraft (wsV RX2 51 RX0 yX0_keep wsX0_keep) := goodIn_app (goodIn_of _ (by decide +kernel)) ggX2_takeDraft_X0_keep
theorem dX2_takeDraft_0 : decode cX2_takeDraft 0 = .ok (.iload_n 1, 1) := by decide +kernel
theorem dX2_takeDraft_1 : decode cX2_takeDraft 1 = .ok (.ifCond .le 24, 3) := by decide +kernel
theorem dX2_takeDraft_4 : decode cX2_takeDraft 4 = .ok (.aload_n 0, 1) := by decide +kernel
theorem dX2_takeDraft_5 : decode cX2_takeDraft 5 = .ok (.getfield 10, 3) := by decide +kernel
theorem dX2_takeDraft_8 : decode cX2_takeDraft 8 = .ok (.aload_n 0, 1) := by decide +kernel
theorem dX2_takeDraft_9 : decode cX2_takeDraft 9 = .ok (.getfield 10, 3) := by decide +kernel
theorem dX2_takeDraft_12 : decode cX2_takeDraft 12 = .ok (.getfield 146, 3) := by decide +kernel
theorem dX2_takeDraft_15 : decode cX2_takeDraft 15 = .ok (.aload_n 0, 1) := by decide +kernel
theorem dX2_takeDraft_16 : decode cX2_takeDraft 16 = .ok (.getfield 10, 3) := by decide +kernel
theorem dX2_takeDraft_19 : decode cX2_takeDraft 19 = .ok (.getfield 143, 3) := by decide +kernel
theorem dX2_takeDraft_22 : decode cX2_takeDraft 22 = .ok (.invokevirtual 44, 3) := by decide +kernel
theorem dX2_takeDraft_25 : decode cX2_takeDraft 25 = .ok (.aload_n 0, 1) := by decide +kernel
theorem dX2_takeDraft_26 : decode cX2_takeDraft 26 = .ok (.getfield 10, 3) := by decide +kernel
theorem dX2_takeDraft_29 : decode cX2_takeDraft 29 = .ok (.invokevirtual 149, 3) := by decide +kernel
theorem dX2_takeDraft_32 : decode cX2_takeDraft 32 = .ok (.aload_n 0, 1) := by decide +kernel
theorem dX2_takeDraft_33 : decode cX2_takeDraft 33 = .ok (.getfield 21, 3) := by decide +kernel
theorem dX2_takeDraft_36 : decode cX2_takeDraft 36 = .ok (.aload_n 0, 1) := by decide +kernel
theorem dX2_takeDraft_37 : decode cX2_takeDraft 37 = .ok (.getfield 10, 3) := by decide +kernel
theorem dX2_takeDraft_40 : decode cX2_takeDraft 40 = .ok (.getfield 139, 3) := by decide +kernel
theorem dX2_takeDraft_43 : decode cX2_takeDraft 43 = .ok (.iconst 1, 1) := by decide +kernel
theorem dX2_takeDraft_44 : decode cX2_takeDraft 44 = .ok (.iadd, 1) := by decide +kernel
theorem dX2_takeDraft_45 : decode cX2_takeDraft 45 = .ok (.sipush 200, 3) := by decide +kernel
theorem dX2_takeDraft_48 : decode cX2_takeDraft 48 = .ok (.iconst (-1), 1) := by decide +kernel
theorem dX2_takeDraft_49 : decode cX2_takeDraft 49 = .ok (.invokevirtual 89, 3) := by decide +kernel
theorem dX2_takeDraft_52 : decode cX2_takeDraft 52 = .ok (.ifCond .ne 12, 3) := by decide +kernel
theorem dX2_takeDraft_55 : decode cX2_takeDraft 55 = .ok (.aload_n 0, 1) := by decide +kernel
theorem dX2_takeDraft_56 : decode cX2_takeDraft 56 = .ok (.getfield 10, 3) := by decide +kernel
theorem dX2_takeDraft_59 : decode cX2_takeDraft 59 = .ok (.invokevirtual 152, 3) := by decide +kernel
theorem dX2_takeDraft_62 : decode cX2_takeDraft 62 = .ok (.iconst (-1), 1) := by decide +kernel
theorem dX2_takeDraft_63 : decode cX2_takeDraft 63 = .ok (.ireturn, 1) := by decide +kernel
theorem dX2_takeDraft_64 : decode cX2_takeDraft 64 = .ok (.aload_n 0, 1) := by decide +kernel
theorem dX2_takeDraft_65 : decode cX2_takeDraft 65 = .ok (.getfield 10, 3) := by decide +kernel
theorem dX2_takeDraft_68 : decode cX2_takeDraft 68 = .ok (.iload_n 1, 1) := by decide +kernel
theorem dX2_takeDraft_69 : decode cX2_takeDraft 69 = .ok (.invokevirtual 51, 3) := by decide +kernel
theorem dX2_takeDraft_72 : decode cX2_takeDraft 72 = .ok (.ireturn, 1) := by decide +kernel

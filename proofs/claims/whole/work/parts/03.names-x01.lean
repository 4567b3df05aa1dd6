theorem dX0_init_0 : decode cX0_init 0 = .ok (.aload_n 0, 1) := by decide +kernel
theorem dX0_init_1 : decode cX0_init 1 = .ok (.invokespecial 3, 3) := by decide +kernel
theorem dX0_init_4 : decode cX0_init 4 = .ok (.aload_n 0, 1) := by decide +kernel
theorem dX0_init_5 : decode cX0_init 5 = .ok (.bipush 80, 2) := by decide +kernel
theorem dX0_init_7 : decode cX0_init 7 = .ok (.newarray .int, 2) := by decide +kernel
theorem dX0_init_9 : decode cX0_init 9 = .ok (.putfield 9, 3) := by decide +kernel
theorem dX0_init_12 : decode cX0_init 12 = .ok (.aload_n 0, 1) := by decide +kernel
theorem dX0_init_13 : decode cX0_init 13 = .ok (.bipush 80, 2) := by decide +kernel
theorem dX0_init_15 : decode cX0_init 15 = .ok (.newarray .int, 2) := by decide +kernel
theorem dX0_init_17 : decode cX0_init 17 = .ok (.putfield 15, 3) := by decide +kernel
theorem dX0_init_20 : decode cX0_init 20 = .ok (.aload_n 0, 1) := by decide +kernel
theorem dX0_init_21 : decode cX0_init 21 = .ok (.bipush 80, 2) := by decide +kernel
theorem dX0_init_23 : decode cX0_init 23 = .ok (.newarray .int, 2) := by decide +kernel
theorem dX0_init_25 : decode cX0_init 25 = .ok (.putfield 18, 3) := by decide +kernel
theorem dX0_init_28 : decode cX0_init 28 = .ok (.aload_n 0, 1) := by decide +kernel
theorem dX0_init_29 : decode cX0_init 29 = .ok (.bipush 80, 2) := by decide +kernel
theorem dX0_init_31 : decode cX0_init 31 = .ok (.newarray .int, 2) := by decide +kernel
theorem dX0_init_33 : decode cX0_init 33 = .ok (.putfield 21, 3) := by decide +kernel
theorem dX0_init_36 : decode cX0_init 36 = .ok (.aload_n 0, 1) := by decide +kernel
theorem dX0_init_37 : decode cX0_init 37 = .ok (.bipush 80, 2) := by decide +kernel
theorem dX0_init_39 : decode cX0_init 39 = .ok (.newarray .int, 2) := by decide +kernel
theorem dX0_init_41 : decode cX0_init 41 = .ok (.putfield 24, 3) := by decide +kernel
theorem dX0_init_44 : decode cX0_init 44 = .ok (.aload_n 0, 1) := by decide +kernel
theorem dX0_init_45 : decode cX0_init 45 = .ok (.bipush 80, 2) := by decide +kernel
theorem dX0_init_47 : decode cX0_init 47 = .ok (.newarray .int, 2) := by decide +kernel
theorem dX0_init_49 : decode cX0_init 49 = .ok (.putfield 27, 3) := by decide +kernel
theorem dX0_init_52 : decode cX0_init 52 = .ok (.aload_n 0, 1) := by decide +kernel
theorem dX0_init_53 : decode cX0_init 53 = .ok (.bipush 80, 2) := by decide +kernel
theorem dX0_init_55 : decode cX0_init 55 = .ok (.newarray .int, 2) := by decide +kernel
theorem dX0_init_57 : decode cX0_init 57 = .ok (.putfield 30, 3) := by decide +kernel
theorem dX0_init_60 : decode cX0_init 60 = .ok (.aload_n 0, 1) := by decide +kernel
theorem dX0_init_61 : decode cX0_init 61 = .ok (.bipush 80, 2) := by decide +kernel
theorem dX0_init_63 : decode cX0_init 63 = .ok (.newarray .int, 2) := by decide +kernel
theorem dX0_init_65 : decode cX0_init 65 = .ok (.putfield 33, 3) := by decide +kernel
theorem dX0_init_68 : decode cX0_init 68 = .ok (.aload_n 0, 1) := by decide +kernel
theorem dX0_init_69 : decode cX0_init 69 = .ok (.bipush 80, 2) := by decide +kernel
theorem dX0_init_71 : decode cX0_init 71 = .ok (.newarray .int, 2) := by decide +kernel
theorem dX0_init_73 : decode cX0_init 73 = .ok (.putfield 36, 3) := by decide +kernel
theorem dX0_init_76 : decode cX0_init 76 = .ok (.aload_n 0, 1) := by decide +kernel
theorem dX0_init_77 : decode cX0_init 77 = .ok (.bipush 60, 2) := by decide +kernel
theorem dX0_init_79 : decode cX0_init 79 = .ok (.newarray .int, 2) := by decide +kernel
theorem dX0_init_81 : decode cX0_init 81 = .ok (.putfield 39, 3) := by decide +kernel
theorem dX0_init_84 : decode cX0_init 84 = .ok (.aload_n 0, 1) := by decide +kernel
theorem dX0_init_85 : decode cX0_init 85 = .ok (.bipush 60, 2) := by decide +kernel
theorem dX0_init_87 : decode cX0_init 87 = .ok (.newarray .int, 2) := by decide +kernel
theorem dX0_init_89 : decode cX0_init 89 = .ok (.putfield 42, 3) := by decide +kernel
theorem dX0_init_92 : decode cX0_init 92 = .ok (.return_, 1) := by decide +kernel
theorem dX0_isFull_0 : decode cX0_isFull 0 = .ok (.aload_n 0, 1) := by decide +kernel
theorem dX0_isFull_1 : decode cX0_isFull 1 = .ok (.getfield 45, 3) := by decide +kernel
theorem dX0_isFull_4 : decode cX0_isFull 4 = .ok (.bipush 80, 2) := by decide +kernel
theorem dX0_isFull_6 : decode cX0_isFull 6 = .ok (.if_icmp .lt 7, 3) := by decide +kernel
theorem dX0_isFull_9 : decode cX0_isFull 9 = .ok (.iconst 1, 1) := by decide +kernel
theorem dX0_isFull_10 : decode cX0_isFull 10 = .ok (.goto 4, 3) := by decide +kernel
theorem dX0_isFull_13 : decode cX0_isFull 13 = .ok (.iconst 0, 1) := by decide +kernel
theorem dX0_isFull_14 : decode cX0_isFull 14 = .ok (.ireturn, 1) := by decide +kernel
theorem dX0_put_0 : decode cX0_put 0 = .ok (.aload_n 0, 1) := by decide +kernel
theorem dX0_put_1 : decode cX0_put 1 = .ok (.getfield 45, 3) := by decide +kernel
theorem dX0_put_4 : decode cX0_put 4 = .ok (.ifCond .lt 19, 3) := by decide +kernel
theorem dX0_put_7 : decode cX0_put 7 = .ok (.aload_n 0, 1) := by decide +kernel
theorem dX0_put_8 : decode cX0_put 8 = .ok (.getfield 45, 3) := by decide +kernel
theorem dX0_put_11 : decode cX0_put 11 = .ok (.aload_n 1, 1) := by decide +kernel
theorem dX0_put_12 : decode cX0_put 12 = .ok (.arraylength, 1) := by decide +kernel
theorem dX0_put_13 : decode cX0_put 13 = .ok (.if_icmp .ge 10, 3) := by decide +kernel
theorem dX0_put_16 : decode cX0_put 16 = .ok (.aload_n 1, 1) := by decide +kernel
theorem dX0_put_17 : decode cX0_put 17 = .ok (.aload_n 0, 1) := by decide +kernel
theorem dX0_put_18 : decode cX0_put 18 = .ok (.getfield 45, 3) := by decide +kernel
theorem dX0_put_21 : decode cX0_put 21 = .ok (.iload_n 2, 1) := by decide +kernel
theorem dX0_put_22 : decode cX0_put 22 = .ok (.iastore, 1) := by decide +kernel
theorem dX0_put_23 : decode cX0_put 23 = .ok (.return_, 1) := by decide +kernel
set_option maxRecDepth 20000 in
theorem ggX0_draft_X0_put : GoodIn wsX0_draft wsX0_put := goodIn_r _ [13, 14, 15, 16, 17, 18, 19, 20, 21, 22, 23, 24, 25, 26, 27, 28] rfl (by decide +kernel)
set_option maxRecDepth 20000 in
theorem gX0_draft_X0_put : GoodIn wsX0_draft (wsV RX0 49 RX0 yX0_put wsX0_put) := goodIn_app (goodIn_of _ (by decide +kernel)) ggX0_draft_X0_put
theorem dX0_draft_0 : decode cX0_draft 0 = .ok (.aload_n 0, 1) := by decide +kernel
theorem dX0_draft_1 : decode cX0_draft 1 = .ok (.aload_n 0, 1) := by decide +kernel
theorem dX0_draft_2 : decode cX0_draft 2 = .ok (.getfield 9, 3) := by decide +kernel
theorem dX0_draft_5 : decode cX0_draft 5 = .ok (.iload_n 1, 1) := by decide +kernel
theorem dX0_draft_6 : decode cX0_draft 6 = .ok (.invokevirtual 49, 3) := by decide +kernel
theorem dX0_draft_9 : decode cX0_draft 9 = .ok (.aload_n 0, 1) := by decide +kernel
theorem dX0_draft_10 : decode cX0_draft 10 = .ok (.aload_n 0, 1) := by decide +kernel
theorem dX0_draft_11 : decode cX0_draft 11 = .ok (.getfield 15, 3) := by decide +kernel
theorem dX0_draft_14 : decode cX0_draft 14 = .ok (.iload_n 2, 1) := by decide +kernel
theorem dX0_draft_15 : decode cX0_draft 15 = .ok (.invokevirtual 49, 3) := by decide +kernel
theorem dX0_draft_18 : decode cX0_draft 18 = .ok (.aload_n 0, 1) := by decide +kernel
theorem dX0_draft_19 : decode cX0_draft 19 = .ok (.aload_n 0, 1) := by decide +kernel
theorem dX0_draft_20 : decode cX0_draft 20 = .ok (.getfield 18, 3) := by decide +kernel
theorem dX0_draft_23 : decode cX0_draft 23 = .ok (.iconst (-1), 1) := by decide +kernel
theorem dX0_draft_24 : decode cX0_draft 24 = .ok (.invokevirtual 49, 3) := by decide +kernel
theorem dX0_draft_27 : decode cX0_draft 27 = .ok (.aload_n 0, 1) := by decide +kernel
theorem dX0_draft_28 : decode cX0_draft 28 = .ok (.aload_n 0, 1) := by decide +kernel
theorem dX0_draft_29 : decode cX0_draft 29 = .ok (.getfield 21, 3) := by decide +kernel
theorem dX0_draft_32 : decode cX0_draft 32 = .ok (.iconst (-1), 1) := by decide +kernel
theorem dX0_draft_33 : decode cX0_draft 33 = .ok (.invokevirtual 49, 3) := by decide +kernel
theorem dX0_draft_36 : decode cX0_draft 36 = .ok (.aload_n 0, 1) := by decide +kernel
theorem dX0_draft_37 : decode cX0_draft 37 = .ok (.aload_n 0, 1) := by decide +kernel
theorem dX0_draft_38 : decode cX0_draft 38 = .ok (.getfield 24, 3) := by decide +kernel
theorem dX0_draft_41 : decode cX0_draft 41 = .ok (.iconst (-1), 1) := by decide +kernel
theorem dX0_draft_42 : decode cX0_draft 42 = .ok (.invokevirtual 49, 3) := by decide +kernel
theorem dX0_draft_45 : decode cX0_draft 45 = .ok (.aload_n 0, 1) := by decide +kernel
theorem dX0_draft_46 : decode cX0_draft 46 = .ok (.aload_n 0, 1) := by decide +kernel
theorem dX0_draft_47 : decode cX0_draft 47 = .ok (.getfield 27, 3) := by decide +kernel
theorem dX0_draft_50 : decode cX0_draft 50 = .ok (.iconst (-1), 1) := by decide +kernel
theorem dX0_draft_51 : decode cX0_draft 51 = .ok (.invokevirtual 49, 3) := by decide +kernel
theorem dX0_draft_54 : decode cX0_draft 54 = .ok (.aload_n 0, 1) := by decide +kernel
theorem dX0_draft_55 : decode cX0_draft 55 = .ok (.aload_n 0, 1) := by decide +kernel
theorem dX0_draft_56 : decode cX0_draft 56 = .ok (.getfield 30, 3) := by decide +kernel
theorem dX0_draft_59 : decode cX0_draft 59 = .ok (.iconst (-1), 1) := by decide +kernel
theorem dX0_draft_60 : decode cX0_draft 60 = .ok (.invokevirtual 49, 3) := by decide +kernel
theorem dX0_draft_63 : decode cX0_draft 63 = .ok (.aload_n 0, 1) := by decide +kernel
theorem dX0_draft_64 : decode cX0_draft 64 = .ok (.aload_n 0, 1) := by decide +kernel
theorem dX0_draft_65 : decode cX0_draft 65 = .ok (.getfield 33, 3) := by decide +kernel
theorem dX0_draft_68 : decode cX0_draft 68 = .ok (.iconst (-1), 1) := by decide +kernel
theorem dX0_draft_69 : decode cX0_draft 69 = .ok (.invokevirtual 49, 3) := by decide +kernel
theorem dX0_draft_72 : decode cX0_draft 72 = .ok (.return_, 1) := by decide +kernel
set_option maxRecDepth 20000 in
theorem ggX0_fileDraft_X2_at : GoodIn wsX0_fileDraft wsX2_at := goodIn_r _ [7] rfl (by decide +kernel)
set_option maxRecDepth 20000 in
theorem gX0_fileDraft_X2_at_n56 : GoodIn wsX0_fileDraft (wsX2_at) := ggX0_fileDraft_X2_at
theorem dX0_fileDraft_0 : decode cX0_fileDraft 0 = .ok (.aload_n 0, 1) := by decide +kernel
theorem dX0_fileDraft_1 : decode cX0_fileDraft 1 = .ok (.getfield 53, 3) := by decide +kernel
theorem dX0_fileDraft_4 : decode cX0_fileDraft 4 = .ok (.istore_n 1, 1) := by decide +kernel
theorem dX0_fileDraft_5 : decode cX0_fileDraft 5 = .ok (.iload_n 1, 1) := by decide +kernel
theorem dX0_fileDraft_6 : decode cX0_fileDraft 6 = .ok (.ifCond .lt 9, 3) := by decide +kernel
theorem dX0_fileDraft_9 : decode cX0_fileDraft 9 = .ok (.iload_n 1, 1) := by decide +kernel
theorem dX0_fileDraft_10 : decode cX0_fileDraft 10 = .ok (.bipush 80, 2) := by decide +kernel
theorem dX0_fileDraft_12 : decode cX0_fileDraft 12 = .ok (.if_icmp .lt 4, 3) := by decide +kernel
theorem dX0_fileDraft_15 : decode cX0_fileDraft 15 = .ok (.return_, 1) := by decide +kernel
theorem dX0_fileDraft_16 : decode cX0_fileDraft 16 = .ok (.aload_n 0, 1) := by decide +kernel
theorem dX0_fileDraft_17 : decode cX0_fileDraft 17 = .ok (.getfield 15, 3) := by decide +kernel
theorem dX0_fileDraft_20 : decode cX0_fileDraft 20 = .ok (.aload_n 0, 1) := by decide +kernel
theorem dX0_fileDraft_21 : decode cX0_fileDraft 21 = .ok (.getfield 45, 3) := by decide +kernel
theorem dX0_fileDraft_24 : decode cX0_fileDraft 24 = .ok (.invokestatic 56, 3) := by decide +kernel
theorem dX0_fileDraft_27 : decode cX0_fileDraft 27 = .ok (.istore_n 2, 1) := by decide +kernel
theorem dX0_fileDraft_28 : decode cX0_fileDraft 28 = .ok (.iload_n 1, 1) := by decide +kernel
theorem dX0_fileDraft_29 : decode cX0_fileDraft 29 = .ok (.ifCond .le 42, 3) := by decide +kernel
theorem dX0_fileDraft_32 : decode cX0_fileDraft 32 = .ok (.aload_n 0, 1) := by decide +kernel
theorem dX0_fileDraft_33 : decode cX0_fileDraft 33 = .ok (.getfield 15, 3) := by decide +kernel
theorem dX0_fileDraft_36 : decode cX0_fileDraft 36 = .ok (.aload_n 0, 1) := by decide +kernel
theorem dX0_fileDraft_37 : decode cX0_fileDraft 37 = .ok (.getfield 36, 3) := by decide +kernel
theorem dX0_fileDraft_40 : decode cX0_fileDraft 40 = .ok (.iload_n 1, 1) := by decide +kernel
theorem dX0_fileDraft_41 : decode cX0_fileDraft 41 = .ok (.iconst 1, 1) := by decide +kernel
theorem dX0_fileDraft_42 : decode cX0_fileDraft 42 = .ok (.isub, 1) := by decide +kernel
theorem dX0_fileDraft_43 : decode cX0_fileDraft 43 = .ok (.iaload, 1) := by decide +kernel
theorem dX0_fileDraft_44 : decode cX0_fileDraft 44 = .ok (.invokestatic 56, 3) := by decide +kernel
theorem dX0_fileDraft_47 : decode cX0_fileDraft 47 = .ok (.iload_n 2, 1) := by decide +kernel
theorem dX0_fileDraft_48 : decode cX0_fileDraft 48 = .ok (.if_icmp .le 23, 3) := by decide +kernel
theorem dX0_fileDraft_51 : decode cX0_fileDraft 51 = .ok (.aload_n 0, 1) := by decide +kernel
theorem dX0_fileDraft_52 : decode cX0_fileDraft 52 = .ok (.getfield 36, 3) := by decide +kernel
theorem dX0_fileDraft_55 : decode cX0_fileDraft 55 = .ok (.iload_n 1, 1) := by decide +kernel
theorem dX0_fileDraft_56 : decode cX0_fileDraft 56 = .ok (.aload_n 0, 1) := by decide +kernel
theorem dX0_fileDraft_57 : decode cX0_fileDraft 57 = .ok (.getfield 36, 3) := by decide +kernel
theorem dX0_fileDraft_60 : decode cX0_fileDraft 60 = .ok (.iload_n 1, 1) := by decide +kernel
theorem dX0_fileDraft_61 : decode cX0_fileDraft 61 = .ok (.iconst 1, 1) := by decide +kernel
theorem dX0_fileDraft_62 : decode cX0_fileDraft 62 = .ok (.isub, 1) := by decide +kernel
theorem dX0_fileDraft_63 : decode cX0_fileDraft 63 = .ok (.iaload, 1) := by decide +kernel
theorem dX0_fileDraft_64 : decode cX0_fileDraft 64 = .ok (.iastore, 1) := by decide +kernel
theorem dX0_fileDraft_65 : decode cX0_fileDraft 65 = .ok (.iinc 1 (-1), 3) := by decide +kernel
theorem dX0_fileDraft_68 : decode cX0_fileDraft 68 = .ok (.goto (-40), 3) := by decide +kernel
theorem dX0_fileDraft_71 : decode cX0_fileDraft 71 = .ok (.aload_n 0, 1) := by decide +kernel
theorem dX0_fileDraft_72 : decode cX0_fileDraft 72 = .ok (.getfield 36, 3) := by decide +kernel
theorem dX0_fileDraft_75 : decode cX0_fileDraft 75 = .ok (.iload_n 1, 1) := by decide +kernel
theorem dX0_fileDraft_76 : decode cX0_fileDraft 76 = .ok (.aload_n 0, 1) := by decide +kernel
theorem dX0_fileDraft_77 : decode cX0_fileDraft 77 = .ok (.getfield 45, 3) := by decide +kernel
theorem dX0_fileDraft_80 : decode cX0_fileDraft 80 = .ok (.iastore, 1) := by decide +kernel
theorem dX0_fileDraft_81 : decode cX0_fileDraft 81 = .ok (.aload_n 0, 1) := by decide +kernel
theorem dX0_fileDraft_82 : decode cX0_fileDraft 82 = .ok (.dup, 1) := by decide +kernel
theorem dX0_fileDraft_83 : decode cX0_fileDraft 83 = .ok (.getfield 53, 3) := by decide +kernel
theorem dX0_fileDraft_86 : decode cX0_fileDraft 86 = .ok (.iconst 1, 1) := by decide +kernel
theorem dX0_fileDraft_87 : decode cX0_fileDraft 87 = .ok (.iadd, 1) := by decide +kernel
theorem dX0_fileDraft_88 : decode cX0_fileDraft 88 = .ok (.putfield 53, 3) := by decide +kernel
theorem dX0_fileDraft_91 : decode cX0_fileDraft 91 = .ok (.return_, 1) := by decide +kernel
theorem dX0_withdrawDraft_0 : decode cX0_withdrawDraft 0 = .ok (.iconst 0, 1) := by decide +kernel
theorem dX0_withdrawDraft_1 : decode cX0_withdrawDraft 1 = .ok (.istore_n 1, 1) := by decide +kernel
theorem dX0_withdrawDraft_2 : decode cX0_withdrawDraft 2 = .ok (.iconst 0, 1) := by decide +kernel
theorem dX0_withdrawDraft_3 : decode cX0_withdrawDraft 3 = .ok (.istore_n 2, 1) := by decide +kernel
theorem dX0_withdrawDraft_4 : decode cX0_withdrawDraft 4 = .ok (.iload_n 2, 1) := by decide +kernel
theorem dX0_withdrawDraft_5 : decode cX0_withdrawDraft 5 = .ok (.aload_n 0, 1) := by decide +kernel
theorem dX0_withdrawDraft_6 : decode cX0_withdrawDraft 6 = .ok (.getfield 53, 3) := by decide +kernel
theorem dX0_withdrawDraft_9 : decode cX0_withdrawDraft 9 = .ok (.if_icmp .ge 43, 3) := by decide +kernel
theorem dX0_withdrawDraft_12 : decode cX0_withdrawDraft 12 = .ok (.iload_n 2, 1) := by decide +kernel
theorem dX0_withdrawDraft_13 : decode cX0_withdrawDraft 13 = .ok (.bipush 80, 2) := by decide +kernel
theorem dX0_withdrawDraft_15 : decode cX0_withdrawDraft 15 = .ok (.if_icmp .ge 37, 3) := by decide +kernel
theorem dX0_withdrawDraft_18 : decode cX0_withdrawDraft 18 = .ok (.aload_n 0, 1) := by decide +kernel
theorem dX0_withdrawDraft_19 : decode cX0_withdrawDraft 19 = .ok (.getfield 36, 3) := by decide +kernel
theorem dX0_withdrawDraft_22 : decode cX0_withdrawDraft 22 = .ok (.iload_n 2, 1) := by decide +kernel
theorem dX0_withdrawDraft_23 : decode cX0_withdrawDraft 23 = .ok (.iaload, 1) := by decide +kernel
theorem dX0_withdrawDraft_24 : decode cX0_withdrawDraft 24 = .ok (.aload_n 0, 1) := by decide +kernel
theorem dX0_withdrawDraft_25 : decode cX0_withdrawDraft 25 = .ok (.getfield 45, 3) := by decide +kernel
theorem dX0_withdrawDraft_28 : decode cX0_withdrawDraft 28 = .ok (.if_icmp .eq 18, 3) := by decide +kernel
theorem dX0_withdrawDraft_31 : decode cX0_withdrawDraft 31 = .ok (.aload_n 0, 1) := by decide +kernel
theorem dX0_withdrawDraft_32 : decode cX0_withdrawDraft 32 = .ok (.getfield 36, 3) := by decide +kernel
theorem dX0_withdrawDraft_35 : decode cX0_withdrawDraft 35 = .ok (.iload_n 1, 1) := by decide +kernel
theorem dX0_withdrawDraft_36 : decode cX0_withdrawDraft 36 = .ok (.aload_n 0, 1) := by decide +kernel
theorem dX0_withdrawDraft_37 : decode cX0_withdrawDraft 37 = .ok (.getfield 36, 3) := by decide +kernel
theorem dX0_withdrawDraft_40 : decode cX0_withdrawDraft 40 = .ok (.iload_n 2, 1) := by decide +kernel
theorem dX0_withdrawDraft_41 : decode cX0_withdrawDraft 41 = .ok (.iaload, 1) := by decide +kernel
theorem dX0_withdrawDraft_42 : decode cX0_withdrawDraft 42 = .ok (.iastore, 1) := by decide +kernel
theorem dX0_withdrawDraft_43 : decode cX0_withdrawDraft 43 = .ok (.iinc 1 1, 3) := by decide +kernel
theorem dX0_withdrawDraft_46 : decode cX0_withdrawDraft 46 = .ok (.iinc 2 1, 3) := by decide +kernel
theorem dX0_withdrawDraft_49 : decode cX0_withdrawDraft 49 = .ok (.goto (-45), 3) := by decide +kernel
theorem dX0_withdrawDraft_52 : decode cX0_withdrawDraft 52 = .ok (.aload_n 0, 1) := by decide +kernel
theorem dX0_withdrawDraft_53 : decode cX0_withdrawDraft 53 = .ok (.iload_n 1, 1) := by decide +kernel
theorem dX0_withdrawDraft_54 : decode cX0_withdrawDraft 54 = .ok (.putfield 53, 3) := by decide +kernel
theorem dX0_withdrawDraft_57 : decode cX0_withdrawDraft 57 = .ok (.return_, 1) := by decide +kernel
set_option maxRecDepth 20000 in
theorem ggX0_keep_X2_at : GoodIn wsX0_keep wsX2_at := goodIn_r _ [10] rfl (by decide +kernel)
set_option maxRecDepth 20000 in
theorem gX0_keep_X2_at_n56 : GoodIn wsX0_keep (wsX2_at) := ggX0_keep_X2_at
set_option maxRecDepth 20000 in
theorem ggX0_keep_X0_end : GoodIn wsX0_keep wsX0_end := goodIn_r _ [15, 4, 16, 17, 18, 19, 20, 21, 22, 23, 24, 25, 26, 27, 28, 29] rfl (by decide +kernel)
set_option maxRecDepth 20000 in
theorem gX0_keep_X0_end : GoodIn wsX0_keep (wsV RX0 63 RX0 yX0_end wsX0_end) := goodIn_app (goodIn_of _ (by decide +kernel)) ggX0_keep_X0_end
theorem dX0_keep_0 : decode cX0_keep 0 = .ok (.aload_n 0, 1) := by decide +kernel
theorem dX0_keep_1 : decode cX0_keep 1 = .ok (.getfield 45, 3) := by decide +kernel
theorem dX0_keep_4 : decode cX0_keep 4 = .ok (.istore_n 2, 1) := by decide +kernel
theorem dX0_keep_5 : decode cX0_keep 5 = .ok (.iconst 0, 1) := by decide +kernel
theorem dX0_keep_6 : decode cX0_keep 6 = .ok (.istore_n 3, 1) := by decide +kernel
theorem dX0_keep_7 : decode cX0_keep 7 = .ok (.iload_n 3, 1) := by decide +kernel
theorem dX0_keep_8 : decode cX0_keep 8 = .ok (.iload_n 1, 1) := by decide +kernel
theorem dX0_keep_9 : decode cX0_keep 9 = .ok (.if_icmp .ge 48, 3) := by decide +kernel
theorem dX0_keep_12 : decode cX0_keep 12 = .ok (.aload_n 0, 1) := by decide +kernel
theorem dX0_keep_13 : decode cX0_keep 13 = .ok (.getfield 60, 3) := by decide +kernel
theorem dX0_keep_16 : decode cX0_keep 16 = .ok (.bipush 60, 2) := by decide +kernel
theorem dX0_keep_18 : decode cX0_keep 18 = .ok (.if_icmp .ge 39, 3) := by decide +kernel
theorem dX0_keep_21 : decode cX0_keep 21 = .ok (.aload_n 0, 1) := by decide +kernel
theorem dX0_keep_22 : decode cX0_keep 22 = .ok (.getfield 39, 3) := by decide +kernel
theorem dX0_keep_25 : decode cX0_keep 25 = .ok (.aload_n 0, 1) := by decide +kernel
theorem dX0_keep_26 : decode cX0_keep 26 = .ok (.getfield 60, 3) := by decide +kernel
theorem dX0_keep_29 : decode cX0_keep 29 = .ok (.iload_n 2, 1) := by decide +kernel
theorem dX0_keep_30 : decode cX0_keep 30 = .ok (.iastore, 1) := by decide +kernel
theorem dX0_keep_31 : decode cX0_keep 31 = .ok (.aload_n 0, 1) := by decide +kernel
theorem dX0_keep_32 : decode cX0_keep 32 = .ok (.getfield 42, 3) := by decide +kernel
theorem dX0_keep_35 : decode cX0_keep 35 = .ok (.aload_n 0, 1) := by decide +kernel
theorem dX0_keep_36 : decode cX0_keep 36 = .ok (.getfield 60, 3) := by decide +kernel
theorem dX0_keep_39 : decode cX0_keep 39 = .ok (.iconst (-1), 1) := by decide +kernel
theorem dX0_keep_40 : decode cX0_keep 40 = .ok (.iastore, 1) := by decide +kernel
theorem dX0_keep_41 : decode cX0_keep 41 = .ok (.aload_n 0, 1) := by decide +kernel
theorem dX0_keep_42 : decode cX0_keep 42 = .ok (.dup, 1) := by decide +kernel
theorem dX0_keep_43 : decode cX0_keep 43 = .ok (.getfield 60, 3) := by decide +kernel
theorem dX0_keep_46 : decode cX0_keep 46 = .ok (.iconst 1, 1) := by decide +kernel
theorem dX0_keep_47 : decode cX0_keep 47 = .ok (.iadd, 1) := by decide +kernel
theorem dX0_keep_48 : decode cX0_keep 48 = .ok (.putfield 60, 3) := by decide +kernel
theorem dX0_keep_51 : decode cX0_keep 51 = .ok (.iinc 3 1, 3) := by decide +kernel
theorem dX0_keep_54 : decode cX0_keep 54 = .ok (.goto (-47), 3) := by decide +kernel
theorem dX0_keep_57 : decode cX0_keep 57 = .ok (.aload_n 0, 1) := by decide +kernel
theorem dX0_keep_58 : decode cX0_keep 58 = .ok (.getfield 9, 3) := by decide +kernel
theorem dX0_keep_61 : decode cX0_keep 61 = .ok (.iload_n 2, 1) := by decide +kernel
theorem dX0_keep_62 : decode cX0_keep 62 = .ok (.invokestatic 56, 3) := by decide +kernel
theorem dX0_keep_65 : decode cX0_keep 65 = .ok (.istore_n 3, 1) := by decide +kernel
theorem dX0_keep_66 : decode cX0_keep 66 = .ok (.iload_n 3, 1) := by decide +kernel
theorem dX0_keep_67 : decode cX0_keep 67 = .ok (.iconst 2, 1) := by decide +kernel
theorem dX0_keep_68 : decode cX0_keep 68 = .ok (.if_icmp .eq 8, 3) := by decide +kernel
theorem dX0_keep_71 : decode cX0_keep 71 = .ok (.iload_n 3, 1) := by decide +kernel
theorem dX0_keep_72 : decode cX0_keep 72 = .ok (.iconst 3, 1) := by decide +kernel
theorem dX0_keep_73 : decode cX0_keep 73 = .ok (.if_icmp .ne 29, 3) := by decide +kernel
theorem dX0_keep_76 : decode cX0_keep 76 = .ok (.aload_n 0, 1) := by decide +kernel
theorem dX0_keep_77 : decode cX0_keep 77 = .ok (.aload_n 0, 1) := by decide +kernel
theorem dX0_keep_78 : decode cX0_keep 78 = .ok (.getfield 18, 3) := by decide +kernel
theorem dX0_keep_81 : decode cX0_keep 81 = .ok (.iload_n 2, 1) := by decide +kernel
theorem dX0_keep_82 : decode cX0_keep 82 = .ok (.invokestatic 56, 3) := by decide +kernel
theorem dX0_keep_85 : decode cX0_keep 85 = .ok (.iload_n 2, 1) := by decide +kernel
theorem dX0_keep_86 : decode cX0_keep 86 = .ok (.invokevirtual 63, 3) := by decide +kernel
theorem dX0_keep_89 : decode cX0_keep 89 = .ok (.aload_n 0, 1) := by decide +kernel
theorem dX0_keep_90 : decode cX0_keep 90 = .ok (.aload_n 0, 1) := by decide +kernel
theorem dX0_keep_91 : decode cX0_keep 91 = .ok (.getfield 21, 3) := by decide +kernel
theorem dX0_keep_94 : decode cX0_keep 94 = .ok (.iload_n 2, 1) := by decide +kernel
theorem dX0_keep_95 : decode cX0_keep 95 = .ok (.invokestatic 56, 3) := by decide +kernel
theorem dX0_keep_98 : decode cX0_keep 98 = .ok (.iload_n 2, 1) := by decide +kernel
theorem dX0_keep_99 : decode cX0_keep 99 = .ok (.invokevirtual 63, 3) := by decide +kernel
theorem dX0_keep_102 : decode cX0_keep 102 = .ok (.aload_n 0, 1) := by decide +kernel
theorem dX0_keep_103 : decode cX0_keep 103 = .ok (.dup, 1) := by decide +kernel
theorem dX0_keep_104 : decode cX0_keep 104 = .ok (.getfield 45, 3) := by decide +kernel
theorem dX0_keep_107 : decode cX0_keep 107 = .ok (.iconst 1, 1) := by decide +kernel
theorem dX0_keep_108 : decode cX0_keep 108 = .ok (.iadd, 1) := by decide +kernel
theorem dX0_keep_109 : decode cX0_keep 109 = .ok (.putfield 45, 3) := by decide +kernel
theorem dX0_keep_112 : decode cX0_keep 112 = .ok (.iload_n 2, 1) := by decide +kernel
theorem dX0_keep_113 : decode cX0_keep 113 = .ok (.ireturn, 1) := by decide +kernel
theorem dX0_end_0 : decode cX0_end 0 = .ok (.iload_n 1, 1) := by decide +kernel
theorem dX0_end_1 : decode cX0_end 1 = .ok (.ifCond .lt 16, 3) := by decide +kernel
theorem dX0_end_4 : decode cX0_end 4 = .ok (.iload_n 1, 1) := by decide +kernel
theorem dX0_end_5 : decode cX0_end 5 = .ok (.bipush 60, 2) := by decide +kernel
theorem dX0_end_7 : decode cX0_end 7 = .ok (.if_icmp .ge 10, 3) := by decide +kernel
theorem dX0_end_10 : decode cX0_end 10 = .ok (.aload_n 0, 1) := by decide +kernel
theorem dX0_end_11 : decode cX0_end 11 = .ok (.getfield 42, 3) := by decide +kernel
theorem dX0_end_14 : decode cX0_end 14 = .ok (.iload_n 1, 1) := by decide +kernel
theorem dX0_end_15 : decode cX0_end 15 = .ok (.iload_n 2, 1) := by decide +kernel
theorem dX0_end_16 : decode cX0_end 16 = .ok (.iastore, 1) := by decide +kernel
theorem dX0_end_17 : decode cX0_end 17 = .ok (.return_, 1) := by decide +kernel
theorem dX0_mean_0 : decode cX0_mean 0 = .ok (.iconst 0, 1) := by decide +kernel
theorem dX0_mean_1 : decode cX0_mean 1 = .ok (.istore 4, 2) := by decide +kernel
theorem dX0_mean_3 : decode cX0_mean 3 = .ok (.iconst 0, 1) := by decide +kernel
theorem dX0_mean_4 : decode cX0_mean 4 = .ok (.istore 5, 2) := by decide +kernel
theorem dX0_mean_6 : decode cX0_mean 6 = .ok (.iconst 0, 1) := by decide +kernel
theorem dX0_mean_7 : decode cX0_mean 7 = .ok (.istore 6, 2) := by decide +kernel
theorem dX0_mean_9 : decode cX0_mean 9 = .ok (.iload_n 1, 1) := by decide +kernel
theorem dX0_mean_10 : decode cX0_mean 10 = .ok (.bipush 80, 2) := by decide +kernel
theorem dX0_mean_12 : decode cX0_mean 12 = .ok (.invokestatic 67, 3) := by decide +kernel
theorem dX0_mean_15 : decode cX0_mean 15 = .ok (.iconst 1, 1) := by decide +kernel
theorem dX0_mean_16 : decode cX0_mean 16 = .ok (.isub, 1) := by decide +kernel
theorem dX0_mean_17 : decode cX0_mean 17 = .ok (.istore 7, 2) := by decide +kernel
theorem dX0_mean_19 : decode cX0_mean 19 = .ok (.iload 7, 2) := by decide +kernel
theorem dX0_mean_21 : decode cX0_mean 21 = .ok (.ifCond .lt 88, 3) := by decide +kernel
theorem dX0_mean_24 : decode cX0_mean 24 = .ok (.iload_n 2, 1) := by decide +kernel
theorem dX0_mean_25 : decode cX0_mean 25 = .ok (.aload_n 0, 1) := by decide +kernel
theorem dX0_mean_26 : decode cX0_mean 26 = .ok (.getfield 15, 3) := by decide +kernel
theorem dX0_mean_29 : decode cX0_mean 29 = .ok (.iload 7, 2) := by decide +kernel
theorem dX0_mean_31 : decode cX0_mean 31 = .ok (.iaload, 1) := by decide +kernel
theorem dX0_mean_32 : decode cX0_mean 32 = .ok (.isub, 1) := by decide +kernel
theorem dX0_mean_33 : decode cX0_mean 33 = .ok (.istore 8, 2) := by decide +kernel
theorem dX0_mean_35 : decode cX0_mean 35 = .ok (.aload_n 0, 1) := by decide +kernel
theorem dX0_mean_36 : decode cX0_mean 36 = .ok (.getfield 9, 3) := by decide +kernel
theorem dX0_mean_39 : decode cX0_mean 39 = .ok (.iload 7, 2) := by decide +kernel
theorem dX0_mean_41 : decode cX0_mean 41 = .ok (.iaload, 1) := by decide +kernel
theorem dX0_mean_42 : decode cX0_mean 42 = .ok (.ifCond .ne 61, 3) := by decide +kernel
theorem dX0_mean_45 : decode cX0_mean 45 = .ok (.aload_n 0, 1) := by decide +kernel
theorem dX0_mean_46 : decode cX0_mean 46 = .ok (.getfield 18, 3) := by decide +kernel
theorem dX0_mean_49 : decode cX0_mean 49 = .ok (.iload 7, 2) := by decide +kernel
theorem dX0_mean_51 : decode cX0_mean 51 = .ok (.iaload, 1) := by decide +kernel
theorem dX0_mean_52 : decode cX0_mean 52 = .ok (.iload_n 3, 1) := by decide +kernel
theorem dX0_mean_53 : decode cX0_mean 53 = .ok (.if_icmp .ne 50, 3) := by decide +kernel
theorem dX0_mean_56 : decode cX0_mean 56 = .ok (.iload 8, 2) := by decide +kernel
theorem dX0_mean_58 : decode cX0_mean 58 = .ok (.iconst 1, 1) := by decide +kernel
theorem dX0_mean_59 : decode cX0_mean 59 = .ok (.if_icmp .lt 44, 3) := by decide +kernel
theorem dX0_mean_62 : decode cX0_mean 62 = .ok (.iload 8, 2) := by decide +kernel
theorem dX0_mean_64 : decode cX0_mean 64 = .ok (.bipush 7, 2) := by decide +kernel
theorem dX0_mean_66 : decode cX0_mean 66 = .ok (.if_icmp .gt 37, 3) := by decide +kernel
theorem dX0_mean_69 : decode cX0_mean 69 = .ok (.iload 6, 2) := by decide +kernel
theorem dX0_mean_71 : decode cX0_mean 71 = .ok (.iload 8, 2) := by decide +kernel
theorem dX0_mean_73 : decode cX0_mean 73 = .ok (.ishr, 1) := by decide +kernel
theorem dX0_mean_74 : decode cX0_mean 74 = .ok (.iconst 1, 1) := by decide +kernel
theorem dX0_mean_75 : decode cX0_mean 75 = .ok (.iand, 1) := by decide +kernel
theorem dX0_mean_76 : decode cX0_mean 76 = .ok (.ifCond .ne 27, 3) := by decide +kernel
theorem dX0_mean_79 : decode cX0_mean 79 = .ok (.iload 6, 2) := by decide +kernel
theorem dX0_mean_81 : decode cX0_mean 81 = .ok (.iconst 1, 1) := by decide +kernel
theorem dX0_mean_82 : decode cX0_mean 82 = .ok (.iload 8, 2) := by decide +kernel
theorem dX0_mean_84 : decode cX0_mean 84 = .ok (.ishl, 1) := by decide +kernel
theorem dX0_mean_85 : decode cX0_mean 85 = .ok (.ior, 1) := by decide +kernel
theorem dX0_mean_86 : decode cX0_mean 86 = .ok (.istore 6, 2) := by decide +kernel
theorem dX0_mean_88 : decode cX0_mean 88 = .ok (.iload 4, 2) := by decide +kernel
theorem dX0_mean_90 : decode cX0_mean 90 = .ok (.aload_n 0, 1) := by decide +kernel
theorem dX0_mean_91 : decode cX0_mean 91 = .ok (.getfield 24, 3) := by decide +kernel
theorem dX0_mean_94 : decode cX0_mean 94 = .ok (.iload 7, 2) := by decide +kernel
theorem dX0_mean_96 : decode cX0_mean 96 = .ok (.iaload, 1) := by decide +kernel
theorem dX0_mean_97 : decode cX0_mean 97 = .ok (.iadd, 1) := by decide +kernel
theorem dX0_mean_98 : decode cX0_mean 98 = .ok (.istore 4, 2) := by decide +kernel
theorem dX0_mean_100 : decode cX0_mean 100 = .ok (.iinc 5 1, 3) := by decide +kernel
theorem dX0_mean_103 : decode cX0_mean 103 = .ok (.iinc 7 (-1), 3) := by decide +kernel
theorem dX0_mean_106 : decode cX0_mean 106 = .ok (.goto (-87), 3) := by decide +kernel
theorem dX0_mean_109 : decode cX0_mean 109 = .ok (.iload 5, 2) := by decide +kernel
theorem dX0_mean_111 : decode cX0_mean 111 = .ok (.ifCond .ne 7, 3) := by decide +kernel
theorem dX0_mean_114 : decode cX0_mean 114 = .ok (.iconst (-1), 1) := by decide +kernel
theorem dX0_mean_115 : decode cX0_mean 115 = .ok (.goto 15, 3) := by decide +kernel
theorem dX0_mean_118 : decode cX0_mean 118 = .ok (.iconst 2, 1) := by decide +kernel
theorem dX0_mean_119 : decode cX0_mean 119 = .ok (.iload 4, 2) := by decide +kernel
theorem dX0_mean_121 : decode cX0_mean 121 = .ok (.imul, 1) := by decide +kernel
theorem dX0_mean_122 : decode cX0_mean 122 = .ok (.iload 5, 2) := by decide +kernel
theorem dX0_mean_124 : decode cX0_mean 124 = .ok (.iadd, 1) := by decide +kernel
theorem dX0_mean_125 : decode cX0_mean 125 = .ok (.iconst 2, 1) := by decide +kernel
theorem dX0_mean_126 : decode cX0_mean 126 = .ok (.iload 5, 2) := by decide +kernel
theorem dX0_mean_128 : decode cX0_mean 128 = .ok (.imul, 1) := by decide +kernel
theorem dX0_mean_129 : decode cX0_mean 129 = .ok (.idiv, 1) := by decide +kernel
theorem dX0_mean_130 : decode cX0_mean 130 = .ok (.ireturn, 1) := by decide +kernel
theorem dX1_init_0 : decode cX1_init 0 = .ok (.aload_n 0, 1) := by decide +kernel
theorem dX1_init_1 : decode cX1_init 1 = .ok (.invokespecial 3, 3) := by decide +kernel
theorem dX1_init_4 : decode cX1_init 4 = .ok (.aload_n 0, 1) := by decide +kernel
theorem dX1_init_5 : decode cX1_init 5 = .ok (.bipush 60, 2) := by decide +kernel
theorem dX1_init_7 : decode cX1_init 7 = .ok (.newarray .boolean, 2) := by decide +kernel
theorem dX1_init_9 : decode cX1_init 9 = .ok (.putfield 9, 3) := by decide +kernel
theorem dX1_init_12 : decode cX1_init 12 = .ok (.aload_n 0, 1) := by decide +kernel
theorem dX1_init_13 : decode cX1_init 13 = .ok (.bipush 60, 2) := by decide +kernel
theorem dX1_init_15 : decode cX1_init 15 = .ok (.newarray .int, 2) := by decide +kernel
theorem dX1_init_17 : decode cX1_init 17 = .ok (.putfield 15, 3) := by decide +kernel
theorem dX1_init_20 : decode cX1_init 20 = .ok (.aload_n 0, 1) := by decide +kernel
theorem dX1_init_21 : decode cX1_init 21 = .ok (.bipush 60, 2) := by decide +kernel
theorem dX1_init_23 : decode cX1_init 23 = .ok (.newarray .int, 2) := by decide +kernel
theorem dX1_init_25 : decode cX1_init 25 = .ok (.putfield 19, 3) := by decide +kernel
theorem dX1_init_28 : decode cX1_init 28 = .ok (.aload_n 0, 1) := by decide +kernel
theorem dX1_init_29 : decode cX1_init 29 = .ok (.bipush 60, 2) := by decide +kernel
theorem dX1_init_31 : decode cX1_init 31 = .ok (.newarray .int, 2) := by decide +kernel
theorem dX1_init_33 : decode cX1_init 33 = .ok (.putfield 22, 3) := by decide +kernel
theorem dX1_init_36 : decode cX1_init 36 = .ok (.aload_n 0, 1) := by decide +kernel
theorem dX1_init_37 : decode cX1_init 37 = .ok (.iconst 3, 1) := by decide +kernel
theorem dX1_init_38 : decode cX1_init 38 = .ok (.bipush 60, 2) := by decide +kernel
theorem dX1_init_40 : decode cX1_init 40 = .ok (.multianewarray 25 2, 4) := by decide +kernel
theorem dX1_init_44 : decode cX1_init 44 = .ok (.putfield 27, 3) := by decide +kernel
theorem dX1_init_47 : decode cX1_init 47 = .ok (.aload_n 0, 1) := by decide +kernel
theorem dX1_init_48 : decode cX1_init 48 = .ok (.bipush 60, 2) := by decide +kernel
theorem dX1_init_50 : decode cX1_init 50 = .ok (.newarray .boolean, 2) := by decide +kernel
theorem dX1_init_52 : decode cX1_init 52 = .ok (.putfield 30, 3) := by decide +kernel
theorem dX1_init_55 : decode cX1_init 55 = .ok (.aload_n 0, 1) := by decide +kernel
theorem dX1_init_56 : decode cX1_init 56 = .ok (.bipush 60, 2) := by decide +kernel
theorem dX1_init_58 : decode cX1_init 58 = .ok (.newarray .long, 2) := by decide +kernel
theorem dX1_init_60 : decode cX1_init 60 = .ok (.putfield 33, 3) := by decide +kernel
theorem dX1_init_63 : decode cX1_init 63 = .ok (.aload_n 0, 1) := by decide +kernel
theorem dX1_init_64 : decode cX1_init 64 = .ok (.bipush 60, 2) := by decide +kernel
theorem dX1_init_66 : decode cX1_init 66 = .ok (.newarray .int, 2) := by decide +kernel
theorem dX1_init_68 : decode cX1_init 68 = .ok (.putfield 37, 3) := by decide +kernel
theorem dX1_init_71 : decode cX1_init 71 = .ok (.aload_n 0, 1) := by decide +kernel
theorem dX1_init_72 : decode cX1_init 72 = .ok (.bipush 60, 2) := by decide +kernel
theorem dX1_init_74 : decode cX1_init 74 = .ok (.newarray .long, 2) := by decide +kernel
theorem dX1_init_76 : decode cX1_init 76 = .ok (.putfield 40, 3) := by decide +kernel
theorem dX1_init_79 : decode cX1_init 79 = .ok (.aload_n 0, 1) := by decide +kernel
theorem dX1_init_80 : decode cX1_init 80 = .ok (.iconst 3, 1) := by decide +kernel
theorem dX1_init_81 : decode cX1_init 81 = .ok (.newarray .int, 2) := by decide +kernel
theorem dX1_init_83 : decode cX1_init 83 = .ok (.putfield 43, 3) := by decide +kernel
theorem dX1_init_86 : decode cX1_init 86 = .ok (.aload_n 0, 1) := by decide +kernel
theorem dX1_init_87 : decode cX1_init 87 = .ok (.aload_n 1, 1) := by decide +kernel
theorem dX1_init_88 : decode cX1_init 88 = .ok (.putfield 46, 3) := by decide +kernel
theorem dX1_init_91 : decode cX1_init 91 = .ok (.return_, 1) := by decide +kernel
set_option maxRecDepth 20000 in
theorem ggX1_show_X2_at : GoodIn wsX1_show wsX2_at := goodIn_r _ [9] rfl (by decide +kernel)
set_option maxRecDepth 20000 in
theorem gX1_show_X2_at_n63 : GoodIn wsX1_show (wsX2_at) := ggX1_show_X2_at
set_option maxRecDepth 20000 in
theorem ggX1_show_X1_tryAct : GoodIn wsX1_show wsX1_tryAct := goodIn_r _ [14, 3, 15, 16, 17, 18, 19, 20, 21, 6, 7, 8, 9, 22, 23, 24, 13, 25, 1, 26, 27, 28, 29, 30, 31, 32, 33, 34, 35, 36, 37, 38, 39, 40, 41, 42, 43, 44, 45, 46, 47, 48, 49, 50, 51, 52, 53, 54, 55, 56, 57, 2, 58, 59, 60, 61, 62, 63, 64, 65, 66, 67, 68, 69, 70, 71, 72, 73, 74, 75, 76, 77, 78, 79, 80, 81, 82, 83, 84, 85, 86, 87, 88, 89, 90, 91, 92, 93, 94, 95, 96, 97, 98, 99, 100, 101, 102, 103, 104, 105, 106, 107, 108, 109, 110, 111, 112, 113, 114, 115, 116, 117, 118, 119, 120, 121, 122, 123, 124, 125, 126] rfl (by decide +kernel)
set_option maxRecDepth 20000 in
theorem gX1_show_X1_tryAct : GoodIn wsX1_show (wsV RX1 70 RX1 yX1_tryAct wsX1_tryAct) := goodIn_app (goodIn_of _ (by decide +kernel)) ggX1_show_X1_tryAct
theorem dX1_show_0 : decode cX1_show 0 = .ok (.iconst 0, 1) := by decide +kernel
theorem dX1_show_1 : decode cX1_show 1 = .ok (.istore 4, 2) := by decide +kernel
theorem dX1_show_3 : decode cX1_show 3 = .ok (.iload 4, 2) := by decide +kernel
theorem dX1_show_5 : decode cX1_show 5 = .ok (.bipush 60, 2) := by decide +kernel
theorem dX1_show_7 : decode cX1_show 7 = .ok (.if_icmp .ge 17, 3) := by decide +kernel
theorem dX1_show_10 : decode cX1_show 10 = .ok (.aload_n 0, 1) := by decide +kernel
theorem dX1_show_11 : decode cX1_show 11 = .ok (.getfield 9, 3) := by decide +kernel
theorem dX1_show_14 : decode cX1_show 14 = .ok (.iload 4, 2) := by decide +kernel
theorem dX1_show_16 : decode cX1_show 16 = .ok (.iconst 0, 1) := by decide +kernel
theorem dX1_show_17 : decode cX1_show 17 = .ok (.bastore, 1) := by decide +kernel
theorem dX1_show_18 : decode cX1_show 18 = .ok (.iinc 4 1, 3) := by decide +kernel
theorem dX1_show_21 : decode cX1_show 21 = .ok (.goto (-18), 3) := by decide +kernel
theorem dX1_show_24 : decode cX1_show 24 = .ok (.aload_n 0, 1) := by decide +kernel
theorem dX1_show_25 : decode cX1_show 25 = .ok (.iconst 0, 1) := by decide +kernel
theorem dX1_show_26 : decode cX1_show 26 = .ok (.putfield 50, 3) := by decide +kernel
theorem dX1_show_29 : decode cX1_show 29 = .ok (.iconst 0, 1) := by decide +kernel
theorem dX1_show_30 : decode cX1_show 30 = .ok (.istore 4, 2) := by decide +kernel
theorem dX1_show_32 : decode cX1_show 32 = .ok (.iload 4, 2) := by decide +kernel
theorem dX1_show_34 : decode cX1_show 34 = .ok (.aload_n 0, 1) := by decide +kernel
theorem dX1_show_35 : decode cX1_show 35 = .ok (.getfield 46, 3) := by decide +kernel
theorem dX1_show_38 : decode cX1_show 38 = .ok (.getfield 54, 3) := by decide +kernel
theorem dX1_show_41 : decode cX1_show 41 = .ok (.if_icmp .ge 65, 3) := by decide +kernel
theorem dX1_show_44 : decode cX1_show 44 = .ok (.aload_n 0, 1) := by decide +kernel
theorem dX1_show_45 : decode cX1_show 45 = .ok (.getfield 46, 3) := by decide +kernel
theorem dX1_show_48 : decode cX1_show 48 = .ok (.getfield 60, 3) := by decide +kernel
theorem dX1_show_51 : decode cX1_show 51 = .ok (.iload 4, 2) := by decide +kernel
theorem dX1_show_53 : decode cX1_show 53 = .ok (.invokestatic 63, 3) := by decide +kernel
theorem dX1_show_56 : decode cX1_show 56 = .ok (.istore 5, 2) := by decide +kernel
theorem dX1_show_58 : decode cX1_show 58 = .ok (.iload 5, 2) := by decide +kernel
theorem dX1_show_60 : decode cX1_show 60 = .ok (.iload_n 3, 1) := by decide +kernel
theorem dX1_show_61 : decode cX1_show 61 = .ok (.if_icmp .eq 19, 3) := by decide +kernel
theorem dX1_show_64 : decode cX1_show 64 = .ok (.aload_n 0, 1) := by decide +kernel
theorem dX1_show_65 : decode cX1_show 65 = .ok (.getfield 46, 3) := by decide +kernel
theorem dX1_show_68 : decode cX1_show 68 = .ok (.getfield 67, 3) := by decide +kernel
theorem dX1_show_71 : decode cX1_show 71 = .ok (.iload 5, 2) := by decide +kernel
theorem dX1_show_73 : decode cX1_show 73 = .ok (.invokestatic 63, 3) := by decide +kernel
theorem dX1_show_76 : decode cX1_show 76 = .ok (.iload_n 2, 1) := by decide +kernel
theorem dX1_show_77 : decode cX1_show 77 = .ok (.if_icmp .le 5, 3) := by decide +kernel
theorem dX1_show_80 : decode cX1_show 80 = .ok (.iconst 1, 1) := by decide +kernel
theorem dX1_show_81 : decode cX1_show 81 = .ok (.ireturn, 1) := by decide +kernel
theorem dX1_show_82 : decode cX1_show 82 = .ok (.iload 5, 2) := by decide +kernel
theorem dX1_show_84 : decode cX1_show 84 = .ok (.iload_n 1, 1) := by decide +kernel
theorem dX1_show_85 : decode cX1_show 85 = .ok (.if_icmp .ge 15, 3) := by decide +kernel
theorem dX1_show_88 : decode cX1_show 88 = .ok (.aload_n 0, 1) := by decide +kernel
theorem dX1_show_89 : decode cX1_show 89 = .ok (.iload 5, 2) := by decide +kernel
theorem dX1_show_91 : decode cX1_show 91 = .ok (.iload_n 1, 1) := by decide +kernel
theorem dX1_show_92 : decode cX1_show 92 = .ok (.invokevirtual 70, 3) := by decide +kernel
theorem dX1_show_95 : decode cX1_show 95 = .ok (.ifCond .ne 5, 3) := by decide +kernel
theorem dX1_show_98 : decode cX1_show 98 = .ok (.iconst 0, 1) := by decide +kernel
theorem dX1_show_99 : decode cX1_show 99 = .ok (.ireturn, 1) := by decide +kernel
theorem dX1_show_100 : decode cX1_show 100 = .ok (.iinc 4 1, 3) := by decide +kernel
theorem dX1_show_103 : decode cX1_show 103 = .ok (.goto (-71), 3) := by decide +kernel
theorem dX1_show_106 : decode cX1_show 106 = .ok (.iconst 1, 1) := by decide +kernel
theorem dX1_show_107 : decode cX1_show 107 = .ok (.ireturn, 1) := by decide +kernel
set_option maxRecDepth 20000 in
theorem ggX1_tryAct_X2_at : GoodIn wsX1_tryAct wsX2_at := goodIn_r _ [12] rfl (by decide +kernel)
set_option maxRecDepth 20000 in
theorem gX1_tryAct_X2_at_n63 : GoodIn wsX1_tryAct (wsX2_at) := ggX1_tryAct_X2_at
set_option maxRecDepth 20000 in
theorem ggX1_tryAct_X1_tryMake : GoodIn wsX1_tryAct wsX1_tryMake := goodIn_r _ [17, 18, 19, 20, 21, 22, 23, 24, 16, 25, 26, 27, 28, 29, 30, 95, 96, 97, 98, 99, 100, 101, 102, 103, 104, 105, 106] rfl (by decide +kernel)
set_option maxRecDepth 20000 in
theorem gX1_tryAct_X1_tryMake : GoodIn wsX1_tryAct (wsV RX1 88 RX1 yX1_tryMake wsX1_tryMake) := goodIn_app (goodIn_of _ (by decide +kernel)) ggX1_tryAct_X1_tryMake
set_option maxRecDepth 20000 in
theorem ggX1_tryAct_X1_tryPart : GoodIn wsX1_tryAct wsX1_tryPart := goodIn_r _ [34, 19, 20, 21, 22, 30, 18, 35, 36, 37, 16, 38, 23, 24, 25, 13, 14, 15, 17, 26, 27, 28, 29, 95, 96, 97, 98, 99, 100, 101, 102, 103, 104, 105, 106] rfl (by decide +kernel)
set_option maxRecDepth 20000 in
theorem gX1_tryAct_X1_tryPart : GoodIn wsX1_tryAct (wsV RX1 92 RX1 yX1_tryPart wsX1_tryPart) := goodIn_app (goodIn_of _ (by decide +kernel)) ggX1_tryAct_X1_tryPart
set_option maxRecDepth 20000 in
theorem ggX1_tryAct_X1_tryJoin : GoodIn wsX1_tryAct wsX1_tryJoin := goodIn_r _ [42, 20, 21, 22, 19, 30, 18, 35, 36, 37, 16, 38, 23, 24, 25, 13, 14, 15, 17, 26, 27, 28, 29, 95, 96, 97, 98, 99, 100, 101, 102, 103, 104, 105, 106] rfl (by decide +kernel)
set_option maxRecDepth 20000 in
theorem gX1_tryAct_X1_tryJoin : GoodIn wsX1_tryAct (wsV RX1 98 RX1 yX1_tryJoin wsX1_tryJoin) := goodIn_app (goodIn_of _ (by decide +kernel)) ggX1_tryAct_X1_tryJoin
set_option maxRecDepth 20000 in
theorem ggX1_tryAct_X1_trySell : GoodIn wsX1_tryAct wsX1_trySell := goodIn_r _ [46, 21, 35, 36, 37, 16, 38, 18, 95, 96, 97, 98, 99, 100, 101, 102, 103, 104, 105, 106] rfl (by decide +kernel)
set_option maxRecDepth 20000 in
theorem gX1_tryAct_X1_trySell : GoodIn wsX1_tryAct (wsV RX1 102 RX1 yX1_trySell wsX1_trySell) := goodIn_app (goodIn_of _ (by decide +kernel)) ggX1_tryAct_X1_trySell
set_option maxRecDepth 20000 in
theorem ggX1_tryAct_X1_trySettle : GoodIn wsX1_tryAct wsX1_trySettle := goodIn_r _ [50, 51, 52, 53, 54, 16, 55, 56, 18, 19, 20, 57, 58, 59, 60, 61, 1, 62, 63, 64, 65, 66, 67, 68, 69, 70, 71, 72, 73, 74, 75, 76, 77, 78, 79, 80, 81, 82, 83, 84, 85, 86, 87, 88, 30, 89, 90, 35, 36, 37, 38, 95, 96, 97, 98, 99, 100, 101, 102, 103, 104, 105, 106, 107, 108, 109, 110, 111, 112, 113, 114, 115, 116, 117, 118, 119, 120] rfl (by decide +kernel)
set_option maxRecDepth 20000 in
theorem gX1_tryAct_X1_trySettle : GoodIn wsX1_tryAct (wsV RX1 105 RX1 yX1_trySettle wsX1_trySettle) := goodIn_app (goodIn_of _ (by decide +kernel)) ggX1_tryAct_X1_trySettle
set_option maxRecDepth 20000 in
theorem ggX1_tryAct_X1_tryBuy : GoodIn wsX1_tryAct wsX1_tryBuy := goodIn_r _ [94, 51, 22, 35, 36, 37, 16, 38, 18, 26, 27, 28, 29, 30, 95, 96, 97, 98, 99, 100, 101, 102, 103, 104, 105, 106] rfl (by decide +kernel)
set_option maxRecDepth 20000 in
theorem gX1_tryAct_X1_tryBuy : GoodIn wsX1_tryAct (wsV RX1 108 RX1 yX1_tryBuy wsX1_tryBuy) := goodIn_app (goodIn_of _ (by decide +kernel)) ggX1_tryAct_X1_tryBuy
theorem dX1_tryAct_0 : decode cX1_tryAct 0 = .ok (.aload_n 0, 1) := by decide +kernel
theorem dX1_tryAct_1 : decode cX1_tryAct 1 = .ok (.getfield 46, 3) := by decide +kernel
theorem dX1_tryAct_4 : decode cX1_tryAct 4 = .ok (.getfield 74, 3) := by decide +kernel
theorem dX1_tryAct_7 : decode cX1_tryAct 7 = .ok (.iload_n 1, 1) := by decide +kernel
theorem dX1_tryAct_8 : decode cX1_tryAct 8 = .ok (.invokestatic 63, 3) := by decide +kernel
theorem dX1_tryAct_11 : decode cX1_tryAct 11 = .ok (.istore_n 3, 1) := by decide +kernel
theorem dX1_tryAct_12 : decode cX1_tryAct 12 = .ok (.aload_n 0, 1) := by decide +kernel
theorem dX1_tryAct_13 : decode cX1_tryAct 13 = .ok (.getfield 46, 3) := by decide +kernel
theorem dX1_tryAct_16 : decode cX1_tryAct 16 = .ok (.getfield 77, 3) := by decide +kernel
theorem dX1_tryAct_19 : decode cX1_tryAct 19 = .ok (.iload_n 1, 1) := by decide +kernel
theorem dX1_tryAct_20 : decode cX1_tryAct 20 = .ok (.invokestatic 63, 3) := by decide +kernel
theorem dX1_tryAct_23 : decode cX1_tryAct 23 = .ok (.istore 4, 2) := by decide +kernel
theorem dX1_tryAct_25 : decode cX1_tryAct 25 = .ok (.aload_n 0, 1) := by decide +kernel
theorem dX1_tryAct_26 : decode cX1_tryAct 26 = .ok (.getfield 46, 3) := by decide +kernel
theorem dX1_tryAct_29 : decode cX1_tryAct 29 = .ok (.getfield 80, 3) := by decide +kernel
theorem dX1_tryAct_32 : decode cX1_tryAct 32 = .ok (.iload_n 1, 1) := by decide +kernel
theorem dX1_tryAct_33 : decode cX1_tryAct 33 = .ok (.invokestatic 63, 3) := by decide +kernel
theorem dX1_tryAct_36 : decode cX1_tryAct 36 = .ok (.istore 5, 2) := by decide +kernel
theorem dX1_tryAct_38 : decode cX1_tryAct 38 = .ok (.aload_n 0, 1) := by decide +kernel
theorem dX1_tryAct_39 : decode cX1_tryAct 39 = .ok (.getfield 46, 3) := by decide +kernel
theorem dX1_tryAct_42 : decode cX1_tryAct 42 = .ok (.getfield 83, 3) := by decide +kernel
theorem dX1_tryAct_45 : decode cX1_tryAct 45 = .ok (.iload_n 1, 1) := by decide +kernel
theorem dX1_tryAct_46 : decode cX1_tryAct 46 = .ok (.invokestatic 63, 3) := by decide +kernel
theorem dX1_tryAct_49 : decode cX1_tryAct 49 = .ok (.tableswitch 145 1 6 #[39, 70, 84, 103, 120, 139], 39) := by decide +kernel
theorem dX1_tryAct_88 : decode cX1_tryAct 88 = .ok (.aload_n 0, 1) := by decide +kernel
theorem dX1_tryAct_89 : decode cX1_tryAct 89 = .ok (.iload 4, 2) := by decide +kernel
theorem dX1_tryAct_91 : decode cX1_tryAct 91 = .ok (.iload 5, 2) := by decide +kernel
theorem dX1_tryAct_93 : decode cX1_tryAct 93 = .ok (.aload_n 0, 1) := by decide +kernel
theorem dX1_tryAct_94 : decode cX1_tryAct 94 = .ok (.getfield 46, 3) := by decide +kernel
theorem dX1_tryAct_97 : decode cX1_tryAct 97 = .ok (.getfield 86, 3) := by decide +kernel
theorem dX1_tryAct_100 : decode cX1_tryAct 100 = .ok (.iload_n 1, 1) := by decide +kernel
theorem dX1_tryAct_101 : decode cX1_tryAct 101 = .ok (.invokestatic 63, 3) := by decide +kernel
theorem dX1_tryAct_104 : decode cX1_tryAct 104 = .ok (.aload_n 0, 1) := by decide +kernel
theorem dX1_tryAct_105 : decode cX1_tryAct 105 = .ok (.getfield 46, 3) := by decide +kernel
theorem dX1_tryAct_108 : decode cX1_tryAct 108 = .ok (.getfield 87, 3) := by decide +kernel
theorem dX1_tryAct_111 : decode cX1_tryAct 111 = .ok (.iload_n 1, 1) := by decide +kernel
theorem dX1_tryAct_112 : decode cX1_tryAct 112 = .ok (.invokestatic 63, 3) := by decide +kernel
theorem dX1_tryAct_115 : decode cX1_tryAct 115 = .ok (.invokevirtual 88, 3) := by decide +kernel
theorem dX1_tryAct_118 : decode cX1_tryAct 118 = .ok (.ireturn, 1) := by decide +kernel
theorem dX1_tryAct_119 : decode cX1_tryAct 119 = .ok (.aload_n 0, 1) := by decide +kernel
theorem dX1_tryAct_120 : decode cX1_tryAct 120 = .ok (.iload_n 3, 1) := by decide +kernel
theorem dX1_tryAct_121 : decode cX1_tryAct 121 = .ok (.iload 5, 2) := by decide +kernel
theorem dX1_tryAct_123 : decode cX1_tryAct 123 = .ok (.iload 4, 2) := by decide +kernel
theorem dX1_tryAct_125 : decode cX1_tryAct 125 = .ok (.iload 4, 2) := by decide +kernel
theorem dX1_tryAct_127 : decode cX1_tryAct 127 = .ok (.iconst 1, 1) := by decide +kernel
theorem dX1_tryAct_128 : decode cX1_tryAct 128 = .ok (.iadd, 1) := by decide +kernel
theorem dX1_tryAct_129 : decode cX1_tryAct 129 = .ok (.invokevirtual 92, 3) := by decide +kernel
theorem dX1_tryAct_132 : decode cX1_tryAct 132 = .ok (.ireturn, 1) := by decide +kernel
theorem dX1_tryAct_133 : decode cX1_tryAct 133 = .ok (.aload_n 0, 1) := by decide +kernel
theorem dX1_tryAct_134 : decode cX1_tryAct 134 = .ok (.iload_n 3, 1) := by decide +kernel
theorem dX1_tryAct_135 : decode cX1_tryAct 135 = .ok (.aload_n 0, 1) := by decide +kernel
theorem dX1_tryAct_136 : decode cX1_tryAct 136 = .ok (.getfield 46, 3) := by decide +kernel
theorem dX1_tryAct_139 : decode cX1_tryAct 139 = .ok (.getfield 95, 3) := by decide +kernel
theorem dX1_tryAct_142 : decode cX1_tryAct 142 = .ok (.iload_n 1, 1) := by decide +kernel
theorem dX1_tryAct_143 : decode cX1_tryAct 143 = .ok (.invokestatic 63, 3) := by decide +kernel
theorem dX1_tryAct_146 : decode cX1_tryAct 146 = .ok (.iload 4, 2) := by decide +kernel
theorem dX1_tryAct_148 : decode cX1_tryAct 148 = .ok (.invokevirtual 98, 3) := by decide +kernel
theorem dX1_tryAct_151 : decode cX1_tryAct 151 = .ok (.ireturn, 1) := by decide +kernel
theorem dX1_tryAct_152 : decode cX1_tryAct 152 = .ok (.aload_n 0, 1) := by decide +kernel
theorem dX1_tryAct_153 : decode cX1_tryAct 153 = .ok (.iload_n 3, 1) := by decide +kernel
theorem dX1_tryAct_154 : decode cX1_tryAct 154 = .ok (.aload_n 0, 1) := by decide +kernel
theorem dX1_tryAct_155 : decode cX1_tryAct 155 = .ok (.getfield 46, 3) := by decide +kernel
theorem dX1_tryAct_158 : decode cX1_tryAct 158 = .ok (.getfield 87, 3) := by decide +kernel
theorem dX1_tryAct_161 : decode cX1_tryAct 161 = .ok (.iload_n 1, 1) := by decide +kernel
theorem dX1_tryAct_162 : decode cX1_tryAct 162 = .ok (.invokestatic 63, 3) := by decide +kernel
theorem dX1_tryAct_165 : decode cX1_tryAct 165 = .ok (.invokevirtual 102, 3) := by decide +kernel
theorem dX1_tryAct_168 : decode cX1_tryAct 168 = .ok (.ireturn, 1) := by decide +kernel
theorem dX1_tryAct_169 : decode cX1_tryAct 169 = .ok (.aload_n 0, 1) := by decide +kernel
theorem dX1_tryAct_170 : decode cX1_tryAct 170 = .ok (.iload 5, 2) := by decide +kernel
theorem dX1_tryAct_172 : decode cX1_tryAct 172 = .ok (.iload_n 2, 1) := by decide +kernel
theorem dX1_tryAct_173 : decode cX1_tryAct 173 = .ok (.aload_n 0, 1) := by decide +kernel
theorem dX1_tryAct_174 : decode cX1_tryAct 174 = .ok (.getfield 46, 3) := by decide +kernel
theorem dX1_tryAct_177 : decode cX1_tryAct 177 = .ok (.getfield 67, 3) := by decide +kernel
theorem dX1_tryAct_180 : decode cX1_tryAct 180 = .ok (.iload_n 1, 1) := by decide +kernel
theorem dX1_tryAct_181 : decode cX1_tryAct 181 = .ok (.invokestatic 63, 3) := by decide +kernel
theorem dX1_tryAct_184 : decode cX1_tryAct 184 = .ok (.invokevirtual 105, 3) := by decide +kernel
theorem dX1_tryAct_187 : decode cX1_tryAct 187 = .ok (.ireturn, 1) := by decide +kernel
theorem dX1_tryAct_188 : decode cX1_tryAct 188 = .ok (.aload_n 0, 1) := by decide +kernel
theorem dX1_tryAct_189 : decode cX1_tryAct 189 = .ok (.iload_n 3, 1) := by decide +kernel
theorem dX1_tryAct_190 : decode cX1_tryAct 190 = .ok (.invokevirtual 108, 3) := by decide +kernel
theorem dX1_tryAct_193 : decode cX1_tryAct 193 = .ok (.ireturn, 1) := by decide +kernel
theorem dX1_tryAct_194 : decode cX1_tryAct 194 = .ok (.iconst 0, 1) := by decide +kernel
theorem dX1_tryAct_195 : decode cX1_tryAct 195 = .ok (.ireturn, 1) := by decide +kernel
theorem dX1_isNumber_0 : decode cX1_isNumber 0 = .ok (.iload_n 0, 1) := by decide +kernel
theorem dX1_isNumber_1 : decode cX1_isNumber 1 = .ok (.ifCond .lt 13, 3) := by decide +kernel
theorem dX1_isNumber_4 : decode cX1_isNumber 4 = .ok (.iload_n 0, 1) := by decide +kernel
theorem dX1_isNumber_5 : decode cX1_isNumber 5 = .ok (.bipush 60, 2) := by decide +kernel
theorem dX1_isNumber_7 : decode cX1_isNumber 7 = .ok (.if_icmp .ge 7, 3) := by decide +kernel
theorem dX1_isNumber_10 : decode cX1_isNumber 10 = .ok (.iconst 1, 1) := by decide +kernel
theorem dX1_isNumber_11 : decode cX1_isNumber 11 = .ok (.goto 4, 3) := by decide +kernel
theorem dX1_isNumber_14 : decode cX1_isNumber 14 = .ok (.iconst 0, 1) := by decide +kernel
theorem dX1_isNumber_15 : decode cX1_isNumber 15 = .ok (.ireturn, 1) := by decide +kernel
theorem dX1_isThere_0 : decode cX1_isThere 0 = .ok (.iload_n 1, 1) := by decide +kernel
theorem dX1_isThere_1 : decode cX1_isThere 1 = .ok (.ifCond .lt 22, 3) := by decide +kernel
theorem dX1_isThere_4 : decode cX1_isThere 4 = .ok (.iload_n 1, 1) := by decide +kernel
theorem dX1_isThere_5 : decode cX1_isThere 5 = .ok (.bipush 60, 2) := by decide +kernel
theorem dX1_isThere_7 : decode cX1_isThere 7 = .ok (.if_icmp .ge 16, 3) := by decide +kernel
theorem dX1_isThere_10 : decode cX1_isThere 10 = .ok (.aload_n 0, 1) := by decide +kernel
theorem dX1_isThere_11 : decode cX1_isThere 11 = .ok (.getfield 9, 3) := by decide +kernel
theorem dX1_isThere_14 : decode cX1_isThere 14 = .ok (.iload_n 1, 1) := by decide +kernel
theorem dX1_isThere_15 : decode cX1_isThere 15 = .ok (.baload, 1) := by decide +kernel
theorem dX1_isThere_16 : decode cX1_isThere 16 = .ok (.ifCond .eq 7, 3) := by decide +kernel
theorem dX1_isThere_19 : decode cX1_isThere 19 = .ok (.iconst 1, 1) := by decide +kernel
theorem dX1_isThere_20 : decode cX1_isThere 20 = .ok (.goto 4, 3) := by decide +kernel
theorem dX1_isThere_23 : decode cX1_isThere 23 = .ok (.iconst 0, 1) := by decide +kernel
theorem dX1_isThere_24 : decode cX1_isThere 24 = .ok (.ireturn, 1) := by decide +kernel
set_option maxRecDepth 20000 in
theorem ggX1_tryMake_X1_isNumber : GoodIn wsX1_tryMake wsX1_isNumber := goodIn_r _ [9] rfl (by decide +kernel)
set_option maxRecDepth 20000 in
theorem gX1_tryMake_X1_isNumber : GoodIn wsX1_tryMake (va_wsS RX1 112 yX1_isNumber wsX1_isNumber) := goodIn_app (goodIn_of _ (by decide +kernel)) ggX1_tryMake_X1_isNumber
set_option maxRecDepth 20000 in
theorem ggX1_tryMake_X1_clearCharge : GoodIn wsX1_tryMake wsX1_clearCharge := goodIn_r _ [13, 14, 15, 16, 17, 18, 19, 20, 21, 22, 23, 24, 25, 26] rfl (by decide +kernel)
set_option maxRecDepth 20000 in
theorem gX1_tryMake_X1_clearCharge : GoodIn wsX1_tryMake (wsV RX1 115 RX1 yX1_clearCharge wsX1_clearCharge) := goodIn_app (goodIn_of _ (by decide +kernel)) ggX1_tryMake_X1_clearCharge
theorem dX1_tryMake_0 : decode cX1_tryMake 0 = .ok (.iload_n 1, 1) := by decide +kernel
theorem dX1_tryMake_1 : decode cX1_tryMake 1 = .ok (.invokestatic 112, 3) := by decide +kernel
theorem dX1_tryMake_4 : decode cX1_tryMake 4 = .ok (.ifCond .ne 5, 3) := by decide +kernel
theorem dX1_tryMake_7 : decode cX1_tryMake 7 = .ok (.iconst 0, 1) := by decide +kernel
theorem dX1_tryMake_8 : decode cX1_tryMake 8 = .ok (.ireturn, 1) := by decide +kernel
theorem dX1_tryMake_9 : decode cX1_tryMake 9 = .ok (.aload_n 0, 1) := by decide +kernel
theorem dX1_tryMake_10 : decode cX1_tryMake 10 = .ok (.getfield 9, 3) := by decide +kernel
theorem dX1_tryMake_13 : decode cX1_tryMake 13 = .ok (.iload_n 1, 1) := by decide +kernel
theorem dX1_tryMake_14 : decode cX1_tryMake 14 = .ok (.iconst 1, 1) := by decide +kernel
theorem dX1_tryMake_15 : decode cX1_tryMake 15 = .ok (.bastore, 1) := by decide +kernel
theorem dX1_tryMake_16 : decode cX1_tryMake 16 = .ok (.aload_n 0, 1) := by decide +kernel
theorem dX1_tryMake_17 : decode cX1_tryMake 17 = .ok (.getfield 15, 3) := by decide +kernel
theorem dX1_tryMake_20 : decode cX1_tryMake 20 = .ok (.iload_n 1, 1) := by decide +kernel
theorem dX1_tryMake_21 : decode cX1_tryMake 21 = .ok (.iload_n 2, 1) := by decide +kernel
theorem dX1_tryMake_22 : decode cX1_tryMake 22 = .ok (.iastore, 1) := by decide +kernel
theorem dX1_tryMake_23 : decode cX1_tryMake 23 = .ok (.aload_n 0, 1) := by decide +kernel
theorem dX1_tryMake_24 : decode cX1_tryMake 24 = .ok (.getfield 19, 3) := by decide +kernel
theorem dX1_tryMake_27 : decode cX1_tryMake 27 = .ok (.iload_n 1, 1) := by decide +kernel
theorem dX1_tryMake_28 : decode cX1_tryMake 28 = .ok (.iload_n 3, 1) := by decide +kernel
theorem dX1_tryMake_29 : decode cX1_tryMake 29 = .ok (.iastore, 1) := by decide +kernel
theorem dX1_tryMake_30 : decode cX1_tryMake 30 = .ok (.aload_n 0, 1) := by decide +kernel
theorem dX1_tryMake_31 : decode cX1_tryMake 31 = .ok (.getfield 22, 3) := by decide +kernel
theorem dX1_tryMake_34 : decode cX1_tryMake 34 = .ok (.iload_n 1, 1) := by decide +kernel
theorem dX1_tryMake_35 : decode cX1_tryMake 35 = .ok (.iload 4, 2) := by decide +kernel
theorem dX1_tryMake_37 : decode cX1_tryMake 37 = .ok (.iastore, 1) := by decide +kernel
theorem dX1_tryMake_38 : decode cX1_tryMake 38 = .ok (.aload_n 0, 1) := by decide +kernel
theorem dX1_tryMake_39 : decode cX1_tryMake 39 = .ok (.getfield 30, 3) := by decide +kernel
theorem dX1_tryMake_42 : decode cX1_tryMake 42 = .ok (.iload_n 1, 1) := by decide +kernel
theorem dX1_tryMake_43 : decode cX1_tryMake 43 = .ok (.iconst 0, 1) := by decide +kernel
theorem dX1_tryMake_44 : decode cX1_tryMake 44 = .ok (.bastore, 1) := by decide +kernel
theorem dX1_tryMake_45 : decode cX1_tryMake 45 = .ok (.aload_n 0, 1) := by decide +kernel
theorem dX1_tryMake_46 : decode cX1_tryMake 46 = .ok (.iload_n 1, 1) := by decide +kernel
theorem dX1_tryMake_47 : decode cX1_tryMake 47 = .ok (.invokevirtual 115, 3) := by decide +kernel
theorem dX1_tryMake_50 : decode cX1_tryMake 50 = .ok (.iconst 1, 1) := by decide +kernel
theorem dX1_tryMake_51 : decode cX1_tryMake 51 = .ok (.ireturn, 1) := by decide +kernel
theorem dX1_clearCharge_0 : decode cX1_clearCharge 0 = .ok (.iconst 0, 1) := by decide +kernel
theorem dX1_clearCharge_1 : decode cX1_clearCharge 1 = .ok (.istore_n 2, 1) := by decide +kernel
theorem dX1_clearCharge_2 : decode cX1_clearCharge 2 = .ok (.iload_n 2, 1) := by decide +kernel
theorem dX1_clearCharge_3 : decode cX1_clearCharge 3 = .ok (.iconst 3, 1) := by decide +kernel
theorem dX1_clearCharge_4 : decode cX1_clearCharge 4 = .ok (.if_icmp .ge 28, 3) := by decide +kernel
theorem dX1_clearCharge_7 : decode cX1_clearCharge 7 = .ok (.iload_n 1, 1) := by decide +kernel
theorem dX1_clearCharge_8 : decode cX1_clearCharge 8 = .ok (.ifCond .lt 24, 3) := by decide +kernel
theorem dX1_clearCharge_11 : decode cX1_clearCharge 11 = .ok (.iload_n 1, 1) := by decide +kernel
theorem dX1_clearCharge_12 : decode cX1_clearCharge 12 = .ok (.bipush 60, 2) := by decide +kernel
theorem dX1_clearCharge_14 : decode cX1_clearCharge 14 = .ok (.if_icmp .ge 18, 3) := by decide +kernel
theorem dX1_clearCharge_17 : decode cX1_clearCharge 17 = .ok (.aload_n 0, 1) := by decide +kernel
theorem dX1_clearCharge_18 : decode cX1_clearCharge 18 = .ok (.getfield 27, 3) := by decide +kernel
theorem dX1_clearCharge_21 : decode cX1_clearCharge 21 = .ok (.iload_n 2, 1) := by decide +kernel
theorem dX1_clearCharge_22 : decode cX1_clearCharge 22 = .ok (.aaload, 1) := by decide +kernel
theorem dX1_clearCharge_23 : decode cX1_clearCharge 23 = .ok (.iload_n 1, 1) := by decide +kernel
theorem dX1_clearCharge_24 : decode cX1_clearCharge 24 = .ok (.iconst 0, 1) := by decide +kernel
theorem dX1_clearCharge_25 : decode cX1_clearCharge 25 = .ok (.iastore, 1) := by decide +kernel
theorem dX1_clearCharge_26 : decode cX1_clearCharge 26 = .ok (.iinc 2 1, 3) := by decide +kernel
theorem dX1_clearCharge_29 : decode cX1_clearCharge 29 = .ok (.goto (-27), 3) := by decide +kernel
theorem dX1_clearCharge_32 : decode cX1_clearCharge 32 = .ok (.return_, 1) := by decide +kernel
set_option maxRecDepth 20000 in
theorem ggX1_tryPart_X1_isThere : GoodIn wsX1_tryPart wsX1_isThere := goodIn_r _ [11, 6, 23, 24, 25, 26, 27, 28, 29, 30, 31, 32, 33, 34] rfl (by decide +kernel)
set_option maxRecDepth 20000 in
theorem gX1_tryPart_X1_isThere : GoodIn wsX1_tryPart (wsV RX1 119 RX1 yX1_isThere wsX1_isThere) := goodIn_app (goodIn_of _ (by decide +kernel)) ggX1_tryPart_X1_isThere
set_option maxRecDepth 20000 in
theorem ggX1_tryPart_X1_isNumber : GoodIn wsX1_tryPart wsX1_isNumber := goodIn_r _ [14] rfl (by decide +kernel)
set_option maxRecDepth 20000 in
theorem gX1_tryPart_X1_isNumber : GoodIn wsX1_tryPart (va_wsS RX1 112 yX1_isNumber wsX1_isNumber) := goodIn_app (goodIn_of _ (by decide +kernel)) ggX1_tryPart_X1_isNumber
set_option maxRecDepth 20000 in
theorem ggX1_tryPart_X1_tryMake : GoodIn wsX1_tryPart wsX1_tryMake := goodIn_r _ [18, 6, 1, 2, 3, 4, 12, 13, 10, 14, 19, 20, 21, 22, 5, 23, 24, 25, 26, 27, 28, 29, 30, 31, 32, 33, 34] rfl (by decide +kernel)
set_option maxRecDepth 20000 in
theorem gX1_tryPart_X1_tryMake : GoodIn wsX1_tryPart (wsV RX1 88 RX1 yX1_tryMake wsX1_tryMake) := goodIn_app (goodIn_of _ (by decide +kernel)) ggX1_tryPart_X1_tryMake
theorem dX1_tryPart_0 : decode cX1_tryPart 0 = .ok (.aload_n 0, 1) := by decide +kernel
theorem dX1_tryPart_1 : decode cX1_tryPart 1 = .ok (.iload_n 1, 1) := by decide +kernel
theorem dX1_tryPart_2 : decode cX1_tryPart 2 = .ok (.invokevirtual 119, 3) := by decide +kernel
theorem dX1_tryPart_5 : decode cX1_tryPart 5 = .ok (.ifCond .eq 33, 3) := by decide +kernel
theorem dX1_tryPart_8 : decode cX1_tryPart 8 = .ok (.iload_n 3, 1) := by decide +kernel
theorem dX1_tryPart_9 : decode cX1_tryPart 9 = .ok (.invokestatic 112, 3) := by decide +kernel
theorem dX1_tryPart_12 : decode cX1_tryPart 12 = .ok (.ifCond .eq 26, 3) := by decide +kernel
theorem dX1_tryPart_15 : decode cX1_tryPart 15 = .ok (.iload 4, 2) := by decide +kernel
theorem dX1_tryPart_17 : decode cX1_tryPart 17 = .ok (.invokestatic 112, 3) := by decide +kernel
theorem dX1_tryPart_20 : decode cX1_tryPart 20 = .ok (.ifCond .eq 18, 3) := by decide +kernel
theorem dX1_tryPart_23 : decode cX1_tryPart 23 = .ok (.iload_n 2, 1) := by decide +kernel
theorem dX1_tryPart_24 : decode cX1_tryPart 24 = .ok (.iconst 1, 1) := by decide +kernel
theorem dX1_tryPart_25 : decode cX1_tryPart 25 = .ok (.if_icmp .lt 13, 3) := by decide +kernel
theorem dX1_tryPart_28 : decode cX1_tryPart 28 = .ok (.aload_n 0, 1) := by decide +kernel
theorem dX1_tryPart_29 : decode cX1_tryPart 29 = .ok (.getfield 15, 3) := by decide +kernel
theorem dX1_tryPart_32 : decode cX1_tryPart 32 = .ok (.iload_n 1, 1) := by decide +kernel
theorem dX1_tryPart_33 : decode cX1_tryPart 33 = .ok (.iaload, 1) := by decide +kernel
theorem dX1_tryPart_34 : decode cX1_tryPart 34 = .ok (.iload_n 2, 1) := by decide +kernel
theorem dX1_tryPart_35 : decode cX1_tryPart 35 = .ok (.if_icmp .gt 5, 3) := by decide +kernel
theorem dX1_tryPart_38 : decode cX1_tryPart 38 = .ok (.iconst 0, 1) := by decide +kernel
theorem dX1_tryPart_39 : decode cX1_tryPart 39 = .ok (.ireturn, 1) := by decide +kernel
theorem dX1_tryPart_40 : decode cX1_tryPart 40 = .ok (.aload_n 0, 1) := by decide +kernel
theorem dX1_tryPart_41 : decode cX1_tryPart 41 = .ok (.getfield 15, 3) := by decide +kernel
theorem dX1_tryPart_44 : decode cX1_tryPart 44 = .ok (.iload_n 1, 1) := by decide +kernel
theorem dX1_tryPart_45 : decode cX1_tryPart 45 = .ok (.iaload, 1) := by decide +kernel
theorem dX1_tryPart_46 : decode cX1_tryPart 46 = .ok (.istore 5, 2) := by decide +kernel
theorem dX1_tryPart_48 : decode cX1_tryPart 48 = .ok (.aload_n 0, 1) := by decide +kernel
theorem dX1_tryPart_49 : decode cX1_tryPart 49 = .ok (.iload_n 3, 1) := by decide +kernel
theorem dX1_tryPart_50 : decode cX1_tryPart 50 = .ok (.iload_n 2, 1) := by decide +kernel
theorem dX1_tryPart_51 : decode cX1_tryPart 51 = .ok (.aload_n 0, 1) := by decide +kernel
theorem dX1_tryPart_52 : decode cX1_tryPart 52 = .ok (.getfield 19, 3) := by decide +kernel
theorem dX1_tryPart_55 : decode cX1_tryPart 55 = .ok (.iload_n 1, 1) := by decide +kernel
theorem dX1_tryPart_56 : decode cX1_tryPart 56 = .ok (.iaload, 1) := by decide +kernel
theorem dX1_tryPart_57 : decode cX1_tryPart 57 = .ok (.aload_n 0, 1) := by decide +kernel
theorem dX1_tryPart_58 : decode cX1_tryPart 58 = .ok (.getfield 22, 3) := by decide +kernel
theorem dX1_tryPart_61 : decode cX1_tryPart 61 = .ok (.iload_n 1, 1) := by decide +kernel
theorem dX1_tryPart_62 : decode cX1_tryPart 62 = .ok (.iaload, 1) := by decide +kernel
theorem dX1_tryPart_63 : decode cX1_tryPart 63 = .ok (.invokevirtual 88, 3) := by decide +kernel
theorem dX1_tryPart_66 : decode cX1_tryPart 66 = .ok (.pop, 1) := by decide +kernel
theorem dX1_tryPart_67 : decode cX1_tryPart 67 = .ok (.aload_n 0, 1) := by decide +kernel
theorem dX1_tryPart_68 : decode cX1_tryPart 68 = .ok (.iload 4, 2) := by decide +kernel
theorem dX1_tryPart_70 : decode cX1_tryPart 70 = .ok (.iload 5, 2) := by decide +kernel
theorem dX1_tryPart_72 : decode cX1_tryPart 72 = .ok (.iload_n 2, 1) := by decide +kernel
theorem dX1_tryPart_73 : decode cX1_tryPart 73 = .ok (.isub, 1) := by decide +kernel
theorem dX1_tryPart_74 : decode cX1_tryPart 74 = .ok (.aload_n 0, 1) := by decide +kernel
theorem dX1_tryPart_75 : decode cX1_tryPart 75 = .ok (.getfield 19, 3) := by decide +kernel
theorem dX1_tryPart_78 : decode cX1_tryPart 78 = .ok (.iload_n 1, 1) := by decide +kernel
theorem dX1_tryPart_79 : decode cX1_tryPart 79 = .ok (.iaload, 1) := by decide +kernel
theorem dX1_tryPart_80 : decode cX1_tryPart 80 = .ok (.aload_n 0, 1) := by decide +kernel
theorem dX1_tryPart_81 : decode cX1_tryPart 81 = .ok (.getfield 22, 3) := by decide +kernel
theorem dX1_tryPart_84 : decode cX1_tryPart 84 = .ok (.iload_n 1, 1) := by decide +kernel
theorem dX1_tryPart_85 : decode cX1_tryPart 85 = .ok (.iaload, 1) := by decide +kernel
theorem dX1_tryPart_86 : decode cX1_tryPart 86 = .ok (.invokevirtual 88, 3) := by decide +kernel
theorem dX1_tryPart_89 : decode cX1_tryPart 89 = .ok (.pop, 1) := by decide +kernel
theorem dX1_tryPart_90 : decode cX1_tryPart 90 = .ok (.aload_n 0, 1) := by decide +kernel
theorem dX1_tryPart_91 : decode cX1_tryPart 91 = .ok (.getfield 30, 3) := by decide +kernel
theorem dX1_tryPart_94 : decode cX1_tryPart 94 = .ok (.iload_n 3, 1) := by decide +kernel
theorem dX1_tryPart_95 : decode cX1_tryPart 95 = .ok (.aload_n 0, 1) := by decide +kernel
theorem dX1_tryPart_96 : decode cX1_tryPart 96 = .ok (.getfield 30, 3) := by decide +kernel
theorem dX1_tryPart_99 : decode cX1_tryPart 99 = .ok (.iload_n 1, 1) := by decide +kernel
theorem dX1_tryPart_100 : decode cX1_tryPart 100 = .ok (.baload, 1) := by decide +kernel
theorem dX1_tryPart_101 : decode cX1_tryPart 101 = .ok (.bastore, 1) := by decide +kernel
theorem dX1_tryPart_102 : decode cX1_tryPart 102 = .ok (.aload_n 0, 1) := by decide +kernel
theorem dX1_tryPart_103 : decode cX1_tryPart 103 = .ok (.getfield 30, 3) := by decide +kernel
theorem dX1_tryPart_106 : decode cX1_tryPart 106 = .ok (.iload 4, 2) := by decide +kernel
theorem dX1_tryPart_108 : decode cX1_tryPart 108 = .ok (.aload_n 0, 1) := by decide +kernel
theorem dX1_tryPart_109 : decode cX1_tryPart 109 = .ok (.getfield 30, 3) := by decide +kernel
theorem dX1_tryPart_112 : decode cX1_tryPart 112 = .ok (.iload_n 1, 1) := by decide +kernel
theorem dX1_tryPart_113 : decode cX1_tryPart 113 = .ok (.baload, 1) := by decide +kernel
theorem dX1_tryPart_114 : decode cX1_tryPart 114 = .ok (.bastore, 1) := by decide +kernel
theorem dX1_tryPart_115 : decode cX1_tryPart 115 = .ok (.iconst 0, 1) := by decide +kernel
theorem dX1_tryPart_116 : decode cX1_tryPart 116 = .ok (.istore 6, 2) := by decide +kernel
theorem dX1_tryPart_118 : decode cX1_tryPart 118 = .ok (.iload 6, 2) := by decide +kernel
theorem dX1_tryPart_120 : decode cX1_tryPart 120 = .ok (.iconst 3, 1) := by decide +kernel
theorem dX1_tryPart_121 : decode cX1_tryPart 121 = .ok (.if_icmp .ge 62, 3) := by decide +kernel
theorem dX1_tryPart_124 : decode cX1_tryPart 124 = .ok (.aload_n 0, 1) := by decide +kernel
theorem dX1_tryPart_125 : decode cX1_tryPart 125 = .ok (.getfield 27, 3) := by decide +kernel
theorem dX1_tryPart_128 : decode cX1_tryPart 128 = .ok (.iload 6, 2) := by decide +kernel
theorem dX1_tryPart_130 : decode cX1_tryPart 130 = .ok (.aaload, 1) := by decide +kernel
theorem dX1_tryPart_131 : decode cX1_tryPart 131 = .ok (.iload_n 1, 1) := by decide +kernel
theorem dX1_tryPart_132 : decode cX1_tryPart 132 = .ok (.iaload, 1) := by decide +kernel
theorem dX1_tryPart_133 : decode cX1_tryPart 133 = .ok (.istore 7, 2) := by decide +kernel
theorem dX1_tryPart_135 : decode cX1_tryPart 135 = .ok (.aload_n 0, 1) := by decide +kernel
theorem dX1_tryPart_136 : decode cX1_tryPart 136 = .ok (.getfield 27, 3) := by decide +kernel
theorem dX1_tryPart_139 : decode cX1_tryPart 139 = .ok (.iload 6, 2) := by decide +kernel
theorem dX1_tryPart_141 : decode cX1_tryPart 141 = .ok (.aaload, 1) := by decide +kernel
theorem dX1_tryPart_142 : decode cX1_tryPart 142 = .ok (.iload_n 3, 1) := by decide +kernel
theorem dX1_tryPart_143 : decode cX1_tryPart 143 = .ok (.iload 7, 2) := by decide +kernel
theorem dX1_tryPart_145 : decode cX1_tryPart 145 = .ok (.i2l, 1) := by decide +kernel
theorem dX1_tryPart_146 : decode cX1_tryPart 146 = .ok (.iload_n 2, 1) := by decide +kernel
theorem dX1_tryPart_147 : decode cX1_tryPart 147 = .ok (.i2l, 1) := by decide +kernel
theorem dX1_tryPart_148 : decode cX1_tryPart 148 = .ok (.lmul, 1) := by decide +kernel
theorem dX1_tryPart_149 : decode cX1_tryPart 149 = .ok (.iload 5, 2) := by decide +kernel
theorem dX1_tryPart_151 : decode cX1_tryPart 151 = .ok (.i2l, 1) := by decide +kernel
theorem dX1_tryPart_152 : decode cX1_tryPart 152 = .ok (.ldiv, 1) := by decide +kernel
theorem dX1_tryPart_153 : decode cX1_tryPart 153 = .ok (.l2i, 1) := by decide +kernel
theorem dX1_tryPart_154 : decode cX1_tryPart 154 = .ok (.iastore, 1) := by decide +kernel
theorem dX1_tryPart_155 : decode cX1_tryPart 155 = .ok (.aload_n 0, 1) := by decide +kernel
theorem dX1_tryPart_156 : decode cX1_tryPart 156 = .ok (.getfield 27, 3) := by decide +kernel
theorem dX1_tryPart_159 : decode cX1_tryPart 159 = .ok (.iload 6, 2) := by decide +kernel
theorem dX1_tryPart_161 : decode cX1_tryPart 161 = .ok (.aaload, 1) := by decide +kernel
theorem dX1_tryPart_162 : decode cX1_tryPart 162 = .ok (.iload 4, 2) := by decide +kernel
theorem dX1_tryPart_164 : decode cX1_tryPart 164 = .ok (.iload 7, 2) := by decide +kernel
theorem dX1_tryPart_166 : decode cX1_tryPart 166 = .ok (.aload_n 0, 1) := by decide +kernel
theorem dX1_tryPart_167 : decode cX1_tryPart 167 = .ok (.getfield 27, 3) := by decide +kernel
theorem dX1_tryPart_170 : decode cX1_tryPart 170 = .ok (.iload 6, 2) := by decide +kernel
theorem dX1_tryPart_172 : decode cX1_tryPart 172 = .ok (.aaload, 1) := by decide +kernel
theorem dX1_tryPart_173 : decode cX1_tryPart 173 = .ok (.iload_n 3, 1) := by decide +kernel
theorem dX1_tryPart_174 : decode cX1_tryPart 174 = .ok (.iaload, 1) := by decide +kernel
theorem dX1_tryPart_175 : decode cX1_tryPart 175 = .ok (.isub, 1) := by decide +kernel
theorem dX1_tryPart_176 : decode cX1_tryPart 176 = .ok (.iastore, 1) := by decide +kernel
theorem dX1_tryPart_177 : decode cX1_tryPart 177 = .ok (.iinc 6 1, 3) := by decide +kernel
theorem dX1_tryPart_180 : decode cX1_tryPart 180 = .ok (.goto (-62), 3) := by decide +kernel
theorem dX1_tryPart_183 : decode cX1_tryPart 183 = .ok (.aload_n 0, 1) := by decide +kernel
theorem dX1_tryPart_184 : decode cX1_tryPart 184 = .ok (.getfield 9, 3) := by decide +kernel
theorem dX1_tryPart_187 : decode cX1_tryPart 187 = .ok (.iload_n 1, 1) := by decide +kernel
theorem dX1_tryPart_188 : decode cX1_tryPart 188 = .ok (.iconst 0, 1) := by decide +kernel
theorem dX1_tryPart_189 : decode cX1_tryPart 189 = .ok (.bastore, 1) := by decide +kernel
theorem dX1_tryPart_190 : decode cX1_tryPart 190 = .ok (.iconst 1, 1) := by decide +kernel
theorem dX1_tryPart_191 : decode cX1_tryPart 191 = .ok (.ireturn, 1) := by decide +kernel
set_option maxRecDepth 20000 in
theorem ggX1_tryJoin_X1_isThere : GoodIn wsX1_tryJoin wsX1_isThere := goodIn_r _ [11, 6, 23, 24, 25, 26, 27, 28, 29, 30, 31, 32, 33, 34] rfl (by decide +kernel)
set_option maxRecDepth 20000 in
theorem gX1_tryJoin_X1_isThere : GoodIn wsX1_tryJoin (wsV RX1 119 RX1 yX1_isThere wsX1_isThere) := goodIn_app (goodIn_of _ (by decide +kernel)) ggX1_tryJoin_X1_isThere
set_option maxRecDepth 20000 in
theorem ggX1_tryJoin_X1_isNumber : GoodIn wsX1_tryJoin wsX1_isNumber := goodIn_r _ [14] rfl (by decide +kernel)
set_option maxRecDepth 20000 in
theorem gX1_tryJoin_X1_isNumber : GoodIn wsX1_tryJoin (va_wsS RX1 112 yX1_isNumber wsX1_isNumber) := goodIn_app (goodIn_of _ (by decide +kernel)) ggX1_tryJoin_X1_isNumber
set_option maxRecDepth 20000 in
theorem ggX1_tryJoin_X1_tryMake : GoodIn wsX1_tryJoin wsX1_tryMake := goodIn_r _ [18, 6, 4, 1, 2, 3, 12, 13, 10, 14, 19, 20, 21, 22, 5, 23, 24, 25, 26, 27, 28, 29, 30, 31, 32, 33, 34] rfl (by decide +kernel)
set_option maxRecDepth 20000 in
theorem gX1_tryJoin_X1_tryMake : GoodIn wsX1_tryJoin (wsV RX1 88 RX1 yX1_tryMake wsX1_tryMake) := goodIn_app (goodIn_of _ (by decide +kernel)) ggX1_tryJoin_X1_tryMake
theorem dX1_tryJoin_0 : decode cX1_tryJoin 0 = .ok (.iload_n 1, 1) := by decide +kernel
theorem dX1_tryJoin_1 : decode cX1_tryJoin 1 = .ok (.iload_n 2, 1) := by decide +kernel
theorem dX1_tryJoin_2 : decode cX1_tryJoin 2 = .ok (.if_icmp .eq 71, 3) := by decide +kernel
theorem dX1_tryJoin_5 : decode cX1_tryJoin 5 = .ok (.aload_n 0, 1) := by decide +kernel
theorem dX1_tryJoin_6 : decode cX1_tryJoin 6 = .ok (.iload_n 1, 1) := by decide +kernel
theorem dX1_tryJoin_7 : decode cX1_tryJoin 7 = .ok (.invokevirtual 119, 3) := by decide +kernel
theorem dX1_tryJoin_10 : decode cX1_tryJoin 10 = .ok (.ifCond .eq 63, 3) := by decide +kernel
theorem dX1_tryJoin_13 : decode cX1_tryJoin 13 = .ok (.aload_n 0, 1) := by decide +kernel
theorem dX1_tryJoin_14 : decode cX1_tryJoin 14 = .ok (.iload_n 2, 1) := by decide +kernel
theorem dX1_tryJoin_15 : decode cX1_tryJoin 15 = .ok (.invokevirtual 119, 3) := by decide +kernel
theorem dX1_tryJoin_18 : decode cX1_tryJoin 18 = .ok (.ifCond .eq 55, 3) := by decide +kernel
theorem dX1_tryJoin_21 : decode cX1_tryJoin 21 = .ok (.iload_n 3, 1) := by decide +kernel
theorem dX1_tryJoin_22 : decode cX1_tryJoin 22 = .ok (.invokestatic 112, 3) := by decide +kernel
theorem dX1_tryJoin_25 : decode cX1_tryJoin 25 = .ok (.ifCond .eq 48, 3) := by decide +kernel
theorem dX1_tryJoin_28 : decode cX1_tryJoin 28 = .ok (.aload_n 0, 1) := by decide +kernel
theorem dX1_tryJoin_29 : decode cX1_tryJoin 29 = .ok (.getfield 19, 3) := by decide +kernel
theorem dX1_tryJoin_32 : decode cX1_tryJoin 32 = .ok (.iload_n 1, 1) := by decide +kernel
theorem dX1_tryJoin_33 : decode cX1_tryJoin 33 = .ok (.iaload, 1) := by decide +kernel
theorem dX1_tryJoin_34 : decode cX1_tryJoin 34 = .ok (.aload_n 0, 1) := by decide +kernel
theorem dX1_tryJoin_35 : decode cX1_tryJoin 35 = .ok (.getfield 19, 3) := by decide +kernel
theorem dX1_tryJoin_38 : decode cX1_tryJoin 38 = .ok (.iload_n 2, 1) := by decide +kernel
theorem dX1_tryJoin_39 : decode cX1_tryJoin 39 = .ok (.iaload, 1) := by decide +kernel
theorem dX1_tryJoin_40 : decode cX1_tryJoin 40 = .ok (.if_icmp .ne 33, 3) := by decide +kernel
theorem dX1_tryJoin_43 : decode cX1_tryJoin 43 = .ok (.aload_n 0, 1) := by decide +kernel
theorem dX1_tryJoin_44 : decode cX1_tryJoin 44 = .ok (.getfield 22, 3) := by decide +kernel
theorem dX1_tryJoin_47 : decode cX1_tryJoin 47 = .ok (.iload_n 1, 1) := by decide +kernel
theorem dX1_tryJoin_48 : decode cX1_tryJoin 48 = .ok (.iaload, 1) := by decide +kernel
theorem dX1_tryJoin_49 : decode cX1_tryJoin 49 = .ok (.aload_n 0, 1) := by decide +kernel
theorem dX1_tryJoin_50 : decode cX1_tryJoin 50 = .ok (.getfield 22, 3) := by decide +kernel
theorem dX1_tryJoin_53 : decode cX1_tryJoin 53 = .ok (.iload_n 2, 1) := by decide +kernel
theorem dX1_tryJoin_54 : decode cX1_tryJoin 54 = .ok (.iaload, 1) := by decide +kernel
theorem dX1_tryJoin_55 : decode cX1_tryJoin 55 = .ok (.if_icmp .ne 18, 3) := by decide +kernel
theorem dX1_tryJoin_58 : decode cX1_tryJoin 58 = .ok (.aload_n 0, 1) := by decide +kernel
theorem dX1_tryJoin_59 : decode cX1_tryJoin 59 = .ok (.getfield 30, 3) := by decide +kernel
theorem dX1_tryJoin_62 : decode cX1_tryJoin 62 = .ok (.iload_n 1, 1) := by decide +kernel
theorem dX1_tryJoin_63 : decode cX1_tryJoin 63 = .ok (.baload, 1) := by decide +kernel
theorem dX1_tryJoin_64 : decode cX1_tryJoin 64 = .ok (.aload_n 0, 1) := by decide +kernel
theorem dX1_tryJoin_65 : decode cX1_tryJoin 65 = .ok (.getfield 30, 3) := by decide +kernel
theorem dX1_tryJoin_68 : decode cX1_tryJoin 68 = .ok (.iload_n 2, 1) := by decide +kernel
theorem dX1_tryJoin_69 : decode cX1_tryJoin 69 = .ok (.baload, 1) := by decide +kernel
theorem dX1_tryJoin_70 : decode cX1_tryJoin 70 = .ok (.if_icmp .eq 5, 3) := by decide +kernel
theorem dX1_tryJoin_73 : decode cX1_tryJoin 73 = .ok (.iconst 0, 1) := by decide +kernel
theorem dX1_tryJoin_74 : decode cX1_tryJoin 74 = .ok (.ireturn, 1) := by decide +kernel
theorem dX1_tryJoin_75 : decode cX1_tryJoin 75 = .ok (.aload_n 0, 1) := by decide +kernel
theorem dX1_tryJoin_76 : decode cX1_tryJoin 76 = .ok (.iload_n 3, 1) := by decide +kernel
theorem dX1_tryJoin_77 : decode cX1_tryJoin 77 = .ok (.aload_n 0, 1) := by decide +kernel
theorem dX1_tryJoin_78 : decode cX1_tryJoin 78 = .ok (.getfield 15, 3) := by decide +kernel
theorem dX1_tryJoin_81 : decode cX1_tryJoin 81 = .ok (.iload_n 1, 1) := by decide +kernel
theorem dX1_tryJoin_82 : decode cX1_tryJoin 82 = .ok (.iaload, 1) := by decide +kernel
theorem dX1_tryJoin_83 : decode cX1_tryJoin 83 = .ok (.aload_n 0, 1) := by decide +kernel
theorem dX1_tryJoin_84 : decode cX1_tryJoin 84 = .ok (.getfield 15, 3) := by decide +kernel
theorem dX1_tryJoin_87 : decode cX1_tryJoin 87 = .ok (.iload_n 2, 1) := by decide +kernel
theorem dX1_tryJoin_88 : decode cX1_tryJoin 88 = .ok (.iaload, 1) := by decide +kernel
theorem dX1_tryJoin_89 : decode cX1_tryJoin 89 = .ok (.iadd, 1) := by decide +kernel
theorem dX1_tryJoin_90 : decode cX1_tryJoin 90 = .ok (.aload_n 0, 1) := by decide +kernel
theorem dX1_tryJoin_91 : decode cX1_tryJoin 91 = .ok (.getfield 19, 3) := by decide +kernel
theorem dX1_tryJoin_94 : decode cX1_tryJoin 94 = .ok (.iload_n 1, 1) := by decide +kernel
theorem dX1_tryJoin_95 : decode cX1_tryJoin 95 = .ok (.iaload, 1) := by decide +kernel
theorem dX1_tryJoin_96 : decode cX1_tryJoin 96 = .ok (.aload_n 0, 1) := by decide +kernel
theorem dX1_tryJoin_97 : decode cX1_tryJoin 97 = .ok (.getfield 22, 3) := by decide +kernel
theorem dX1_tryJoin_100 : decode cX1_tryJoin 100 = .ok (.iload_n 1, 1) := by decide +kernel
theorem dX1_tryJoin_101 : decode cX1_tryJoin 101 = .ok (.iaload, 1) := by decide +kernel
theorem dX1_tryJoin_102 : decode cX1_tryJoin 102 = .ok (.invokevirtual 88, 3) := by decide +kernel
theorem dX1_tryJoin_105 : decode cX1_tryJoin 105 = .ok (.pop, 1) := by decide +kernel
theorem dX1_tryJoin_106 : decode cX1_tryJoin 106 = .ok (.aload_n 0, 1) := by decide +kernel
theorem dX1_tryJoin_107 : decode cX1_tryJoin 107 = .ok (.getfield 30, 3) := by decide +kernel
theorem dX1_tryJoin_110 : decode cX1_tryJoin 110 = .ok (.iload_n 3, 1) := by decide +kernel
theorem dX1_tryJoin_111 : decode cX1_tryJoin 111 = .ok (.aload_n 0, 1) := by decide +kernel
theorem dX1_tryJoin_112 : decode cX1_tryJoin 112 = .ok (.getfield 30, 3) := by decide +kernel
theorem dX1_tryJoin_115 : decode cX1_tryJoin 115 = .ok (.iload_n 1, 1) := by decide +kernel
theorem dX1_tryJoin_116 : decode cX1_tryJoin 116 = .ok (.baload, 1) := by decide +kernel
theorem dX1_tryJoin_117 : decode cX1_tryJoin 117 = .ok (.bastore, 1) := by decide +kernel
theorem dX1_tryJoin_118 : decode cX1_tryJoin 118 = .ok (.iconst 0, 1) := by decide +kernel
theorem dX1_tryJoin_119 : decode cX1_tryJoin 119 = .ok (.istore 4, 2) := by decide +kernel
theorem dX1_tryJoin_121 : decode cX1_tryJoin 121 = .ok (.iload 4, 2) := by decide +kernel
theorem dX1_tryJoin_123 : decode cX1_tryJoin 123 = .ok (.iconst 3, 1) := by decide +kernel
theorem dX1_tryJoin_124 : decode cX1_tryJoin 124 = .ok (.if_icmp .ge 37, 3) := by decide +kernel
theorem dX1_tryJoin_127 : decode cX1_tryJoin 127 = .ok (.aload_n 0, 1) := by decide +kernel
theorem dX1_tryJoin_128 : decode cX1_tryJoin 128 = .ok (.getfield 27, 3) := by decide +kernel
theorem dX1_tryJoin_131 : decode cX1_tryJoin 131 = .ok (.iload 4, 2) := by decide +kernel
theorem dX1_tryJoin_133 : decode cX1_tryJoin 133 = .ok (.aaload, 1) := by decide +kernel
theorem dX1_tryJoin_134 : decode cX1_tryJoin 134 = .ok (.iload_n 3, 1) := by decide +kernel
theorem dX1_tryJoin_135 : decode cX1_tryJoin 135 = .ok (.aload_n 0, 1) := by decide +kernel
theorem dX1_tryJoin_136 : decode cX1_tryJoin 136 = .ok (.getfield 27, 3) := by decide +kernel
theorem dX1_tryJoin_139 : decode cX1_tryJoin 139 = .ok (.iload 4, 2) := by decide +kernel
theorem dX1_tryJoin_141 : decode cX1_tryJoin 141 = .ok (.aaload, 1) := by decide +kernel
theorem dX1_tryJoin_142 : decode cX1_tryJoin 142 = .ok (.iload_n 1, 1) := by decide +kernel
theorem dX1_tryJoin_143 : decode cX1_tryJoin 143 = .ok (.iaload, 1) := by decide +kernel
theorem dX1_tryJoin_144 : decode cX1_tryJoin 144 = .ok (.aload_n 0, 1) := by decide +kernel
theorem dX1_tryJoin_145 : decode cX1_tryJoin 145 = .ok (.getfield 27, 3) := by decide +kernel
theorem dX1_tryJoin_148 : decode cX1_tryJoin 148 = .ok (.iload 4, 2) := by decide +kernel
theorem dX1_tryJoin_150 : decode cX1_tryJoin 150 = .ok (.aaload, 1) := by decide +kernel
theorem dX1_tryJoin_151 : decode cX1_tryJoin 151 = .ok (.iload_n 2, 1) := by decide +kernel
theorem dX1_tryJoin_152 : decode cX1_tryJoin 152 = .ok (.iaload, 1) := by decide +kernel
theorem dX1_tryJoin_153 : decode cX1_tryJoin 153 = .ok (.iadd, 1) := by decide +kernel
theorem dX1_tryJoin_154 : decode cX1_tryJoin 154 = .ok (.iastore, 1) := by decide +kernel
theorem dX1_tryJoin_155 : decode cX1_tryJoin 155 = .ok (.iinc 4 1, 3) := by decide +kernel
theorem dX1_tryJoin_158 : decode cX1_tryJoin 158 = .ok (.goto (-37), 3) := by decide +kernel
theorem dX1_tryJoin_161 : decode cX1_tryJoin 161 = .ok (.aload_n 0, 1) := by decide +kernel
theorem dX1_tryJoin_162 : decode cX1_tryJoin 162 = .ok (.getfield 9, 3) := by decide +kernel
theorem dX1_tryJoin_165 : decode cX1_tryJoin 165 = .ok (.iload_n 1, 1) := by decide +kernel
theorem dX1_tryJoin_166 : decode cX1_tryJoin 166 = .ok (.iconst 0, 1) := by decide +kernel
theorem dX1_tryJoin_167 : decode cX1_tryJoin 167 = .ok (.bastore, 1) := by decide +kernel
theorem dX1_tryJoin_168 : decode cX1_tryJoin 168 = .ok (.aload_n 0, 1) := by decide +kernel
theorem dX1_tryJoin_169 : decode cX1_tryJoin 169 = .ok (.getfield 9, 3) := by decide +kernel
theorem dX1_tryJoin_172 : decode cX1_tryJoin 172 = .ok (.iload_n 2, 1) := by decide +kernel
theorem dX1_tryJoin_173 : decode cX1_tryJoin 173 = .ok (.iconst 0, 1) := by decide +kernel
theorem dX1_tryJoin_174 : decode cX1_tryJoin 174 = .ok (.bastore, 1) := by decide +kernel
theorem dX1_tryJoin_175 : decode cX1_tryJoin 175 = .ok (.iconst 1, 1) := by decide +kernel
theorem dX1_tryJoin_176 : decode cX1_tryJoin 176 = .ok (.ireturn, 1) := by decide +kernel
set_option maxRecDepth 20000 in
theorem ggX1_trySell_X1_isThere : GoodIn wsX1_trySell wsX1_isThere := goodIn_r _ [6, 7, 8, 9, 10, 11, 12, 13, 14, 15, 16, 17, 18, 19] rfl (by decide +kernel)
set_option maxRecDepth 20000 in
theorem gX1_trySell_X1_isThere : GoodIn wsX1_trySell (wsV RX1 119 RX1 yX1_isThere wsX1_isThere) := goodIn_app (goodIn_of _ (by decide +kernel)) ggX1_trySell_X1_isThere
theorem dX1_trySell_0 : decode cX1_trySell 0 = .ok (.aload_n 0, 1) := by decide +kernel
theorem dX1_trySell_1 : decode cX1_trySell 1 = .ok (.iload_n 1, 1) := by decide +kernel
theorem dX1_trySell_2 : decode cX1_trySell 2 = .ok (.invokevirtual 119, 3) := by decide +kernel
theorem dX1_trySell_5 : decode cX1_trySell 5 = .ok (.ifCond .eq 13, 3) := by decide +kernel
theorem dX1_trySell_8 : decode cX1_trySell 8 = .ok (.aload_n 0, 1) := by decide +kernel
theorem dX1_trySell_9 : decode cX1_trySell 9 = .ok (.getfield 22, 3) := by decide +kernel
theorem dX1_trySell_12 : decode cX1_trySell 12 = .ok (.iload_n 1, 1) := by decide +kernel
theorem dX1_trySell_13 : decode cX1_trySell 13 = .ok (.iaload, 1) := by decide +kernel
theorem dX1_trySell_14 : decode cX1_trySell 14 = .ok (.iload_n 2, 1) := by decide +kernel
theorem dX1_trySell_15 : decode cX1_trySell 15 = .ok (.if_icmp .ne 5, 3) := by decide +kernel
theorem dX1_trySell_18 : decode cX1_trySell 18 = .ok (.iconst 0, 1) := by decide +kernel
theorem dX1_trySell_19 : decode cX1_trySell 19 = .ok (.ireturn, 1) := by decide +kernel
theorem dX1_trySell_20 : decode cX1_trySell 20 = .ok (.aload_n 0, 1) := by decide +kernel
theorem dX1_trySell_21 : decode cX1_trySell 21 = .ok (.getfield 22, 3) := by decide +kernel
theorem dX1_trySell_24 : decode cX1_trySell 24 = .ok (.iload_n 1, 1) := by decide +kernel
theorem dX1_trySell_25 : decode cX1_trySell 25 = .ok (.iload_n 2, 1) := by decide +kernel
theorem dX1_trySell_26 : decode cX1_trySell 26 = .ok (.iastore, 1) := by decide +kernel
theorem dX1_trySell_27 : decode cX1_trySell 27 = .ok (.iconst 1, 1) := by decide +kernel
theorem dX1_trySell_28 : decode cX1_trySell 28 = .ok (.ireturn, 1) := by decide +kernel
set_option maxRecDepth 20000 in
theorem ggX1_tryBuy_X1_isThere : GoodIn wsX1_tryBuy wsX1_isThere := goodIn_r _ [7, 8, 14, 15, 16, 17, 18, 19, 20, 21, 22, 23, 24, 25] rfl (by decide +kernel)
set_option maxRecDepth 20000 in
theorem gX1_tryBuy_X1_isThere : GoodIn wsX1_tryBuy (wsV RX1 119 RX1 yX1_isThere wsX1_isThere) := goodIn_app (goodIn_of _ (by decide +kernel)) ggX1_tryBuy_X1_isThere
set_option maxRecDepth 20000 in
theorem ggX1_tryBuy_X1_clearCharge : GoodIn wsX1_tryBuy wsX1_clearCharge := goodIn_r _ [12, 13, 14, 15, 16, 17, 18, 19, 20, 21, 22, 23, 24, 25] rfl (by decide +kernel)
set_option maxRecDepth 20000 in
theorem gX1_tryBuy_X1_clearCharge : GoodIn wsX1_tryBuy (wsV RX1 115 RX1 yX1_clearCharge wsX1_clearCharge) := goodIn_app (goodIn_of _ (by decide +kernel)) ggX1_tryBuy_X1_clearCharge
theorem dX1_tryBuy_0 : decode cX1_tryBuy 0 = .ok (.aload_n 0, 1) := by decide +kernel
theorem dX1_tryBuy_1 : decode cX1_tryBuy 1 = .ok (.getfield 50, 3) := by decide +kernel
theorem dX1_tryBuy_4 : decode cX1_tryBuy 4 = .ok (.ifCond .eq 20, 3) := by decide +kernel
theorem dX1_tryBuy_7 : decode cX1_tryBuy 7 = .ok (.aload_n 0, 1) := by decide +kernel
theorem dX1_tryBuy_8 : decode cX1_tryBuy 8 = .ok (.iload_n 1, 1) := by decide +kernel
theorem dX1_tryBuy_9 : decode cX1_tryBuy 9 = .ok (.invokevirtual 119, 3) := by decide +kernel
theorem dX1_tryBuy_12 : decode cX1_tryBuy 12 = .ok (.ifCond .eq 12, 3) := by decide +kernel
theorem dX1_tryBuy_15 : decode cX1_tryBuy 15 = .ok (.aload_n 0, 1) := by decide +kernel
theorem dX1_tryBuy_16 : decode cX1_tryBuy 16 = .ok (.getfield 30, 3) := by decide +kernel
theorem dX1_tryBuy_19 : decode cX1_tryBuy 19 = .ok (.iload_n 1, 1) := by decide +kernel
theorem dX1_tryBuy_20 : decode cX1_tryBuy 20 = .ok (.baload, 1) := by decide +kernel
theorem dX1_tryBuy_21 : decode cX1_tryBuy 21 = .ok (.ifCond .eq 5, 3) := by decide +kernel
theorem dX1_tryBuy_24 : decode cX1_tryBuy 24 = .ok (.iconst 0, 1) := by decide +kernel
theorem dX1_tryBuy_25 : decode cX1_tryBuy 25 = .ok (.ireturn, 1) := by decide +kernel
theorem dX1_tryBuy_26 : decode cX1_tryBuy 26 = .ok (.aload_n 0, 1) := by decide +kernel
theorem dX1_tryBuy_27 : decode cX1_tryBuy 27 = .ok (.getfield 30, 3) := by decide +kernel
theorem dX1_tryBuy_30 : decode cX1_tryBuy 30 = .ok (.iload_n 1, 1) := by decide +kernel
theorem dX1_tryBuy_31 : decode cX1_tryBuy 31 = .ok (.iconst 1, 1) := by decide +kernel
theorem dX1_tryBuy_32 : decode cX1_tryBuy 32 = .ok (.bastore, 1) := by decide +kernel
theorem dX1_tryBuy_33 : decode cX1_tryBuy 33 = .ok (.aload_n 0, 1) := by decide +kernel
theorem dX1_tryBuy_34 : decode cX1_tryBuy 34 = .ok (.iload_n 1, 1) := by decide +kernel
theorem dX1_tryBuy_35 : decode cX1_tryBuy 35 = .ok (.invokevirtual 115, 3) := by decide +kernel
theorem dX1_tryBuy_38 : decode cX1_tryBuy 38 = .ok (.iconst 1, 1) := by decide +kernel
theorem dX1_tryBuy_39 : decode cX1_tryBuy 39 = .ok (.ireturn, 1) := by decide +kernel
set_option maxRecDepth 20000 in
theorem ggX1_trySettle_X1_weighAll : GoodIn wsX1_trySettle wsX1_weighAll := goodIn_r _ [6, 7, 8, 9, 10, 51, 52, 53, 54, 55, 56, 57, 58, 59, 60, 61, 62] rfl (by decide +kernel)
set_option maxRecDepth 20000 in
theorem gX1_trySettle_X1_weighAll : GoodIn wsX1_trySettle (wsV RX1 122 RX1 yX1_weighAll wsX1_weighAll) := goodIn_app (goodIn_of _ (by decide +kernel)) ggX1_trySettle_X1_weighAll
set_option maxRecDepth 20000 in
theorem ggX1_trySettle_X1_areMeansKnown : GoodIn wsX1_trySettle wsX1_areMeansKnown := goodIn_r _ [14, 15, 16, 17, 18, 19, 20, 21, 22, 23, 24, 25, 26, 27, 28, 29, 51, 52, 53, 54, 55, 56, 57, 58, 59, 60, 61, 62, 63, 64, 65, 66, 67, 68, 69, 70, 71, 72, 73, 74, 75, 76] rfl (by decide +kernel)
set_option maxRecDepth 20000 in
theorem gX1_trySettle_X1_areMeansKnown : GoodIn wsX1_trySettle (wsV RX1 126 RX1 yX1_areMeansKnown wsX1_areMeansKnown) := goodIn_app (goodIn_of _ (by decide +kernel)) ggX1_trySettle_X1_areMeansKnown
set_option maxRecDepth 20000 in
theorem ggX1_trySettle_X1_shareOut : GoodIn wsX1_trySettle wsX1_shareOut := goodIn_r _ [33, 7, 34, 35, 36, 37, 38, 5, 39, 51, 52, 53, 54, 55, 56, 57, 58, 59, 60, 61, 62] rfl (by decide +kernel)
set_option maxRecDepth 20000 in
theorem gX1_trySettle_X1_shareOut : GoodIn wsX1_trySettle (wsV RX1 129 RX1 yX1_shareOut wsX1_shareOut) := goodIn_app (goodIn_of _ (by decide +kernel)) ggX1_trySettle_X1_shareOut
set_option maxRecDepth 20000 in
theorem ggX1_trySettle_X1_chargeShare : GoodIn wsX1_trySettle wsX1_chargeShare := goodIn_r _ [43, 34, 15, 44, 45, 46, 47, 48, 49, 5, 50, 8, 51, 52, 53, 54, 55, 56, 57, 58, 59, 60, 61, 62] rfl (by decide +kernel)
set_option maxRecDepth 20000 in
theorem gX1_trySettle_X1_chargeShare : GoodIn wsX1_trySettle (wsV RX1 133 RX1 yX1_chargeShare wsX1_chargeShare) := goodIn_app (goodIn_of _ (by decide +kernel)) ggX1_trySettle_X1_chargeShare
theorem dX1_trySettle_0 : decode cX1_trySettle 0 = .ok (.aload_n 0, 1) := by decide +kernel
theorem dX1_trySettle_1 : decode cX1_trySettle 1 = .ok (.invokevirtual 122, 3) := by decide +kernel
theorem dX1_trySettle_4 : decode cX1_trySettle 4 = .ok (.lstore 4, 2) := by decide +kernel
theorem dX1_trySettle_6 : decode cX1_trySettle 6 = .ok (.aload_n 0, 1) := by decide +kernel
theorem dX1_trySettle_7 : decode cX1_trySettle 7 = .ok (.getfield 50, 3) := by decide +kernel
theorem dX1_trySettle_10 : decode cX1_trySettle 10 = .ok (.ifCond .ne 19, 3) := by decide +kernel
theorem dX1_trySettle_13 : decode cX1_trySettle 13 = .ok (.lload 4, 2) := by decide +kernel
theorem dX1_trySettle_15 : decode cX1_trySettle 15 = .ok (.lconst 0, 1) := by decide +kernel
theorem dX1_trySettle_16 : decode cX1_trySettle 16 = .ok (.lcmp, 1) := by decide +kernel
theorem dX1_trySettle_17 : decode cX1_trySettle 17 = .ok (.ifCond .le 12, 3) := by decide +kernel
theorem dX1_trySettle_20 : decode cX1_trySettle 20 = .ok (.aload_n 0, 1) := by decide +kernel
theorem dX1_trySettle_21 : decode cX1_trySettle 21 = .ok (.iload_n 2, 1) := by decide +kernel
theorem dX1_trySettle_22 : decode cX1_trySettle 22 = .ok (.iload_n 3, 1) := by decide +kernel
theorem dX1_trySettle_23 : decode cX1_trySettle 23 = .ok (.invokevirtual 126, 3) := by decide +kernel
theorem dX1_trySettle_26 : decode cX1_trySettle 26 = .ok (.ifCond .ne 5, 3) := by decide +kernel
theorem dX1_trySettle_29 : decode cX1_trySettle 29 = .ok (.iconst 0, 1) := by decide +kernel
theorem dX1_trySettle_30 : decode cX1_trySettle 30 = .ok (.ireturn, 1) := by decide +kernel
theorem dX1_trySettle_31 : decode cX1_trySettle 31 = .ok (.aload_n 0, 1) := by decide +kernel
theorem dX1_trySettle_32 : decode cX1_trySettle 32 = .ok (.iload_n 1, 1) := by decide +kernel
theorem dX1_trySettle_33 : decode cX1_trySettle 33 = .ok (.lload 4, 2) := by decide +kernel
theorem dX1_trySettle_35 : decode cX1_trySettle 35 = .ok (.invokevirtual 129, 3) := by decide +kernel
theorem dX1_trySettle_38 : decode cX1_trySettle 38 = .ok (.iconst 0, 1) := by decide +kernel
theorem dX1_trySettle_39 : decode cX1_trySettle 39 = .ok (.istore 6, 2) := by decide +kernel
theorem dX1_trySettle_41 : decode cX1_trySettle 41 = .ok (.iload 6, 2) := by decide +kernel
theorem dX1_trySettle_43 : decode cX1_trySettle 43 = .ok (.bipush 60, 2) := by decide +kernel
theorem dX1_trySettle_45 : decode cX1_trySettle 45 = .ok (.if_icmp .ge 15, 3) := by decide +kernel
theorem dX1_trySettle_48 : decode cX1_trySettle 48 = .ok (.aload_n 0, 1) := by decide +kernel
theorem dX1_trySettle_49 : decode cX1_trySettle 49 = .ok (.iload 6, 2) := by decide +kernel
theorem dX1_trySettle_51 : decode cX1_trySettle 51 = .ok (.invokevirtual 133, 3) := by decide +kernel
theorem dX1_trySettle_54 : decode cX1_trySettle 54 = .ok (.iinc 6 1, 3) := by decide +kernel
theorem dX1_trySettle_57 : decode cX1_trySettle 57 = .ok (.goto (-16), 3) := by decide +kernel
theorem dX1_trySettle_60 : decode cX1_trySettle 60 = .ok (.aload_n 0, 1) := by decide +kernel
theorem dX1_trySettle_61 : decode cX1_trySettle 61 = .ok (.iconst 1, 1) := by decide +kernel
theorem dX1_trySettle_62 : decode cX1_trySettle 62 = .ok (.putfield 50, 3) := by decide +kernel
theorem dX1_trySettle_65 : decode cX1_trySettle 65 = .ok (.iconst 1, 1) := by decide +kernel
theorem dX1_trySettle_66 : decode cX1_trySettle 66 = .ok (.ireturn, 1) := by decide +kernel
theorem dX1_weighAll_0 : decode cX1_weighAll 0 = .ok (.lconst 0, 1) := by decide +kernel
theorem dX1_weighAll_1 : decode cX1_weighAll 1 = .ok (.lstore_n 1, 1) := by decide +kernel
theorem dX1_weighAll_2 : decode cX1_weighAll 2 = .ok (.iconst 0, 1) := by decide +kernel
theorem dX1_weighAll_3 : decode cX1_weighAll 3 = .ok (.istore_n 3, 1) := by decide +kernel
theorem dX1_weighAll_4 : decode cX1_weighAll 4 = .ok (.iload_n 3, 1) := by decide +kernel
theorem dX1_weighAll_5 : decode cX1_weighAll 5 = .ok (.bipush 60, 2) := by decide +kernel
theorem dX1_weighAll_7 : decode cX1_weighAll 7 = .ok (.if_icmp .ge 54, 3) := by decide +kernel
theorem dX1_weighAll_10 : decode cX1_weighAll 10 = .ok (.aload_n 0, 1) := by decide +kernel
theorem dX1_weighAll_11 : decode cX1_weighAll 11 = .ok (.getfield 33, 3) := by decide +kernel
theorem dX1_weighAll_14 : decode cX1_weighAll 14 = .ok (.iload_n 3, 1) := by decide +kernel
theorem dX1_weighAll_15 : decode cX1_weighAll 15 = .ok (.aload_n 0, 1) := by decide +kernel
theorem dX1_weighAll_16 : decode cX1_weighAll 16 = .ok (.getfield 9, 3) := by decide +kernel
theorem dX1_weighAll_19 : decode cX1_weighAll 19 = .ok (.iload_n 3, 1) := by decide +kernel
theorem dX1_weighAll_20 : decode cX1_weighAll 20 = .ok (.baload, 1) := by decide +kernel
theorem dX1_weighAll_21 : decode cX1_weighAll 21 = .ok (.ifCond .eq 23, 3) := by decide +kernel
theorem dX1_weighAll_24 : decode cX1_weighAll 24 = .ok (.aload_n 0, 1) := by decide +kernel
theorem dX1_weighAll_25 : decode cX1_weighAll 25 = .ok (.getfield 15, 3) := by decide +kernel
theorem dX1_weighAll_28 : decode cX1_weighAll 28 = .ok (.iload_n 3, 1) := by decide +kernel
theorem dX1_weighAll_29 : decode cX1_weighAll 29 = .ok (.iaload, 1) := by decide +kernel
theorem dX1_weighAll_30 : decode cX1_weighAll 30 = .ok (.i2l, 1) := by decide +kernel
theorem dX1_weighAll_31 : decode cX1_weighAll 31 = .ok (.iconst 3, 1) := by decide +kernel
theorem dX1_weighAll_32 : decode cX1_weighAll 32 = .ok (.aload_n 0, 1) := by decide +kernel
theorem dX1_weighAll_33 : decode cX1_weighAll 33 = .ok (.getfield 19, 3) := by decide +kernel
theorem dX1_weighAll_36 : decode cX1_weighAll 36 = .ok (.iload_n 3, 1) := by decide +kernel
theorem dX1_weighAll_37 : decode cX1_weighAll 37 = .ok (.iaload, 1) := by decide +kernel
theorem dX1_weighAll_38 : decode cX1_weighAll 38 = .ok (.isub, 1) := by decide +kernel
theorem dX1_weighAll_39 : decode cX1_weighAll 39 = .ok (.i2l, 1) := by decide +kernel
theorem dX1_weighAll_40 : decode cX1_weighAll 40 = .ok (.lmul, 1) := by decide +kernel
theorem dX1_weighAll_41 : decode cX1_weighAll 41 = .ok (.goto 4, 3) := by decide +kernel
theorem dX1_weighAll_44 : decode cX1_weighAll 44 = .ok (.lconst 0, 1) := by decide +kernel
theorem dX1_weighAll_45 : decode cX1_weighAll 45 = .ok (.lastore, 1) := by decide +kernel
theorem dX1_weighAll_46 : decode cX1_weighAll 46 = .ok (.lload_n 1, 1) := by decide +kernel
theorem dX1_weighAll_47 : decode cX1_weighAll 47 = .ok (.aload_n 0, 1) := by decide +kernel
theorem dX1_weighAll_48 : decode cX1_weighAll 48 = .ok (.getfield 33, 3) := by decide +kernel
theorem dX1_weighAll_51 : decode cX1_weighAll 51 = .ok (.iload_n 3, 1) := by decide +kernel
theorem dX1_weighAll_52 : decode cX1_weighAll 52 = .ok (.laload, 1) := by decide +kernel
theorem dX1_weighAll_53 : decode cX1_weighAll 53 = .ok (.ladd, 1) := by decide +kernel
theorem dX1_weighAll_54 : decode cX1_weighAll 54 = .ok (.lstore_n 1, 1) := by decide +kernel
theorem dX1_weighAll_55 : decode cX1_weighAll 55 = .ok (.iinc 3 1, 3) := by decide +kernel
theorem dX1_weighAll_58 : decode cX1_weighAll 58 = .ok (.goto (-54), 3) := by decide +kernel
theorem dX1_weighAll_61 : decode cX1_weighAll 61 = .ok (.lload_n 1, 1) := by decide +kernel
theorem dX1_weighAll_62 : decode cX1_weighAll 62 = .ok (.lreturn, 1) := by decide +kernel
set_option maxRecDepth 20000 in
theorem ggX1_shareOut_X1_greatestRemainder : GoodIn wsX1_shareOut wsX1_greatestRemainder := goodIn_r _ [8, 3, 9, 10, 11, 12, 13, 14, 15, 16, 17, 18, 19, 20] rfl (by decide +kernel)
set_option maxRecDepth 20000 in
theorem gX1_shareOut_X1_greatestRemainder : GoodIn wsX1_shareOut (wsV RX1 136 RX1 yX1_greatestRemainder wsX1_greatestRemainder) := goodIn_app (goodIn_of _ (by decide +kernel)) ggX1_shareOut_X1_greatestRemainder
theorem dX1_shareOut_0 : decode cX1_shareOut 0 = .ok (.iload_n 1, 1) := by decide +kernel
theorem dX1_shareOut_1 : decode cX1_shareOut 1 = .ok (.istore 4, 2) := by decide +kernel
theorem dX1_shareOut_3 : decode cX1_shareOut 3 = .ok (.iconst 0, 1) := by decide +kernel
theorem dX1_shareOut_4 : decode cX1_shareOut 4 = .ok (.istore 5, 2) := by decide +kernel
theorem dX1_shareOut_6 : decode cX1_shareOut 6 = .ok (.iload 5, 2) := by decide +kernel
theorem dX1_shareOut_8 : decode cX1_shareOut 8 = .ok (.bipush 60, 2) := by decide +kernel
theorem dX1_shareOut_10 : decode cX1_shareOut 10 = .ok (.if_icmp .ge 62, 3) := by decide +kernel
theorem dX1_shareOut_13 : decode cX1_shareOut 13 = .ok (.lload_n 2, 1) := by decide +kernel
theorem dX1_shareOut_14 : decode cX1_shareOut 14 = .ok (.lconst 0, 1) := by decide +kernel
theorem dX1_shareOut_15 : decode cX1_shareOut 15 = .ok (.lcmp, 1) := by decide +kernel
theorem dX1_shareOut_16 : decode cX1_shareOut 16 = .ok (.ifCond .le 56, 3) := by decide +kernel
theorem dX1_shareOut_19 : decode cX1_shareOut 19 = .ok (.iload_n 1, 1) := by decide +kernel
theorem dX1_shareOut_20 : decode cX1_shareOut 20 = .ok (.i2l, 1) := by decide +kernel
theorem dX1_shareOut_21 : decode cX1_shareOut 21 = .ok (.aload_n 0, 1) := by decide +kernel
theorem dX1_shareOut_22 : decode cX1_shareOut 22 = .ok (.getfield 33, 3) := by decide +kernel
theorem dX1_shareOut_25 : decode cX1_shareOut 25 = .ok (.iload 5, 2) := by decide +kernel
theorem dX1_shareOut_27 : decode cX1_shareOut 27 = .ok (.laload, 1) := by decide +kernel
theorem dX1_shareOut_28 : decode cX1_shareOut 28 = .ok (.lmul, 1) := by decide +kernel
theorem dX1_shareOut_29 : decode cX1_shareOut 29 = .ok (.lstore 6, 2) := by decide +kernel
theorem dX1_shareOut_31 : decode cX1_shareOut 31 = .ok (.aload_n 0, 1) := by decide +kernel
theorem dX1_shareOut_32 : decode cX1_shareOut 32 = .ok (.getfield 37, 3) := by decide +kernel
theorem dX1_shareOut_35 : decode cX1_shareOut 35 = .ok (.iload 5, 2) := by decide +kernel
theorem dX1_shareOut_37 : decode cX1_shareOut 37 = .ok (.lload 6, 2) := by decide +kernel
theorem dX1_shareOut_39 : decode cX1_shareOut 39 = .ok (.lload_n 2, 1) := by decide +kernel
theorem dX1_shareOut_40 : decode cX1_shareOut 40 = .ok (.ldiv, 1) := by decide +kernel
theorem dX1_shareOut_41 : decode cX1_shareOut 41 = .ok (.l2i, 1) := by decide +kernel
theorem dX1_shareOut_42 : decode cX1_shareOut 42 = .ok (.iastore, 1) := by decide +kernel
theorem dX1_shareOut_43 : decode cX1_shareOut 43 = .ok (.aload_n 0, 1) := by decide +kernel
theorem dX1_shareOut_44 : decode cX1_shareOut 44 = .ok (.getfield 40, 3) := by decide +kernel
theorem dX1_shareOut_47 : decode cX1_shareOut 47 = .ok (.iload 5, 2) := by decide +kernel
theorem dX1_shareOut_49 : decode cX1_shareOut 49 = .ok (.lload 6, 2) := by decide +kernel
theorem dX1_shareOut_51 : decode cX1_shareOut 51 = .ok (.lload_n 2, 1) := by decide +kernel
theorem dX1_shareOut_52 : decode cX1_shareOut 52 = .ok (.lrem, 1) := by decide +kernel
theorem dX1_shareOut_53 : decode cX1_shareOut 53 = .ok (.lastore, 1) := by decide +kernel
theorem dX1_shareOut_54 : decode cX1_shareOut 54 = .ok (.iload 4, 2) := by decide +kernel
theorem dX1_shareOut_56 : decode cX1_shareOut 56 = .ok (.aload_n 0, 1) := by decide +kernel
theorem dX1_shareOut_57 : decode cX1_shareOut 57 = .ok (.getfield 37, 3) := by decide +kernel
theorem dX1_shareOut_60 : decode cX1_shareOut 60 = .ok (.iload 5, 2) := by decide +kernel
theorem dX1_shareOut_62 : decode cX1_shareOut 62 = .ok (.iaload, 1) := by decide +kernel
theorem dX1_shareOut_63 : decode cX1_shareOut 63 = .ok (.isub, 1) := by decide +kernel
theorem dX1_shareOut_64 : decode cX1_shareOut 64 = .ok (.istore 4, 2) := by decide +kernel
theorem dX1_shareOut_66 : decode cX1_shareOut 66 = .ok (.iinc 5 1, 3) := by decide +kernel
theorem dX1_shareOut_69 : decode cX1_shareOut 69 = .ok (.goto (-63), 3) := by decide +kernel
theorem dX1_shareOut_72 : decode cX1_shareOut 72 = .ok (.iconst 0, 1) := by decide +kernel
theorem dX1_shareOut_73 : decode cX1_shareOut 73 = .ok (.istore 5, 2) := by decide +kernel
theorem dX1_shareOut_75 : decode cX1_shareOut 75 = .ok (.iload 5, 2) := by decide +kernel
theorem dX1_shareOut_77 : decode cX1_shareOut 77 = .ok (.iload 4, 2) := by decide +kernel
theorem dX1_shareOut_79 : decode cX1_shareOut 79 = .ok (.if_icmp .ge 41, 3) := by decide +kernel
theorem dX1_shareOut_82 : decode cX1_shareOut 82 = .ok (.iload 5, 2) := by decide +kernel
theorem dX1_shareOut_84 : decode cX1_shareOut 84 = .ok (.bipush 60, 2) := by decide +kernel
theorem dX1_shareOut_86 : decode cX1_shareOut 86 = .ok (.if_icmp .ge 34, 3) := by decide +kernel
theorem dX1_shareOut_89 : decode cX1_shareOut 89 = .ok (.aload_n 0, 1) := by decide +kernel
theorem dX1_shareOut_90 : decode cX1_shareOut 90 = .ok (.invokevirtual 136, 3) := by decide +kernel
theorem dX1_shareOut_93 : decode cX1_shareOut 93 = .ok (.istore 6, 2) := by decide +kernel
theorem dX1_shareOut_95 : decode cX1_shareOut 95 = .ok (.aload_n 0, 1) := by decide +kernel
theorem dX1_shareOut_96 : decode cX1_shareOut 96 = .ok (.getfield 37, 3) := by decide +kernel
theorem dX1_shareOut_99 : decode cX1_shareOut 99 = .ok (.iload 6, 2) := by decide +kernel
theorem dX1_shareOut_101 : decode cX1_shareOut 101 = .ok (.dup2, 1) := by decide +kernel
theorem dX1_shareOut_102 : decode cX1_shareOut 102 = .ok (.iaload, 1) := by decide +kernel
theorem dX1_shareOut_103 : decode cX1_shareOut 103 = .ok (.iconst 1, 1) := by decide +kernel
theorem dX1_shareOut_104 : decode cX1_shareOut 104 = .ok (.iadd, 1) := by decide +kernel
theorem dX1_shareOut_105 : decode cX1_shareOut 105 = .ok (.iastore, 1) := by decide +kernel
theorem dX1_shareOut_106 : decode cX1_shareOut 106 = .ok (.aload_n 0, 1) := by decide +kernel
theorem dX1_shareOut_107 : decode cX1_shareOut 107 = .ok (.getfield 40, 3) := by decide +kernel
theorem dX1_shareOut_110 : decode cX1_shareOut 110 = .ok (.iload 6, 2) := by decide +kernel
theorem dX1_shareOut_112 : decode cX1_shareOut 112 = .ok (.lconst 0, 1) := by decide +kernel
theorem dX1_shareOut_113 : decode cX1_shareOut 113 = .ok (.lastore, 1) := by decide +kernel
theorem dX1_shareOut_114 : decode cX1_shareOut 114 = .ok (.iinc 5 1, 3) := by decide +kernel
theorem dX1_shareOut_117 : decode cX1_shareOut 117 = .ok (.goto (-42), 3) := by decide +kernel
theorem dX1_shareOut_120 : decode cX1_shareOut 120 = .ok (.return_, 1) := by decide +kernel
theorem dX1_greatestRemainder_0 : decode cX1_greatestRemainder 0 = .ok (.iconst 0, 1) := by decide +kernel
theorem dX1_greatestRemainder_1 : decode cX1_greatestRemainder 1 = .ok (.istore_n 1, 1) := by decide +kernel
theorem dX1_greatestRemainder_2 : decode cX1_greatestRemainder 2 = .ok (.iconst 1, 1) := by decide +kernel
theorem dX1_greatestRemainder_3 : decode cX1_greatestRemainder 3 = .ok (.istore_n 2, 1) := by decide +kernel
theorem dX1_greatestRemainder_4 : decode cX1_greatestRemainder 4 = .ok (.iload_n 2, 1) := by decide +kernel
theorem dX1_greatestRemainder_5 : decode cX1_greatestRemainder 5 = .ok (.bipush 60, 2) := by decide +kernel
theorem dX1_greatestRemainder_7 : decode cX1_greatestRemainder 7 = .ok (.if_icmp .ge 27, 3) := by decide +kernel
theorem dX1_greatestRemainder_10 : decode cX1_greatestRemainder 10 = .ok (.aload_n 0, 1) := by decide +kernel
theorem dX1_greatestRemainder_11 : decode cX1_greatestRemainder 11 = .ok (.getfield 40, 3) := by decide +kernel
theorem dX1_greatestRemainder_14 : decode cX1_greatestRemainder 14 = .ok (.iload_n 2, 1) := by decide +kernel
theorem dX1_greatestRemainder_15 : decode cX1_greatestRemainder 15 = .ok (.laload, 1) := by decide +kernel
theorem dX1_greatestRemainder_16 : decode cX1_greatestRemainder 16 = .ok (.aload_n 0, 1) := by decide +kernel
theorem dX1_greatestRemainder_17 : decode cX1_greatestRemainder 17 = .ok (.getfield 40, 3) := by decide +kernel
theorem dX1_greatestRemainder_20 : decode cX1_greatestRemainder 20 = .ok (.iload_n 1, 1) := by decide +kernel
theorem dX1_greatestRemainder_21 : decode cX1_greatestRemainder 21 = .ok (.laload, 1) := by decide +kernel
theorem dX1_greatestRemainder_22 : decode cX1_greatestRemainder 22 = .ok (.lcmp, 1) := by decide +kernel
theorem dX1_greatestRemainder_23 : decode cX1_greatestRemainder 23 = .ok (.ifCond .le 5, 3) := by decide +kernel
theorem dX1_greatestRemainder_26 : decode cX1_greatestRemainder 26 = .ok (.iload_n 2, 1) := by decide +kernel
theorem dX1_greatestRemainder_27 : decode cX1_greatestRemainder 27 = .ok (.istore_n 1, 1) := by decide +kernel
theorem dX1_greatestRemainder_28 : decode cX1_greatestRemainder 28 = .ok (.iinc 2 1, 3) := by decide +kernel
theorem dX1_greatestRemainder_31 : decode cX1_greatestRemainder 31 = .ok (.goto (-27), 3) := by decide +kernel
theorem dX1_greatestRemainder_34 : decode cX1_greatestRemainder 34 = .ok (.iload_n 1, 1) := by decide +kernel
theorem dX1_greatestRemainder_35 : decode cX1_greatestRemainder 35 = .ok (.ireturn, 1) := by decide +kernel
set_option maxRecDepth 20000 in
theorem ggX1_chargeShare_X1_isThere : GoodIn wsX1_chargeShare wsX1_isThere := goodIn_r _ [10, 11, 12, 13, 14, 15, 16, 17, 18, 19, 20, 21, 22, 23] rfl (by decide +kernel)
set_option maxRecDepth 20000 in
theorem gX1_chargeShare_X1_isThere : GoodIn wsX1_chargeShare (wsV RX1 119 RX1 yX1_isThere wsX1_isThere) := goodIn_app (goodIn_of _ (by decide +kernel)) ggX1_chargeShare_X1_isThere
theorem dX1_chargeShare_0 : decode cX1_chargeShare 0 = .ok (.aload_n 0, 1) := by decide +kernel
theorem dX1_chargeShare_1 : decode cX1_chargeShare 1 = .ok (.iload_n 1, 1) := by decide +kernel
theorem dX1_chargeShare_2 : decode cX1_chargeShare 2 = .ok (.invokevirtual 119, 3) := by decide +kernel
theorem dX1_chargeShare_5 : decode cX1_chargeShare 5 = .ok (.ifCond .ne 4, 3) := by decide +kernel
theorem dX1_chargeShare_8 : decode cX1_chargeShare 8 = .ok (.return_, 1) := by decide +kernel
theorem dX1_chargeShare_9 : decode cX1_chargeShare 9 = .ok (.aload_n 0, 1) := by decide +kernel
theorem dX1_chargeShare_10 : decode cX1_chargeShare 10 = .ok (.getfield 37, 3) := by decide +kernel
theorem dX1_chargeShare_13 : decode cX1_chargeShare 13 = .ok (.iload_n 1, 1) := by decide +kernel
theorem dX1_chargeShare_14 : decode cX1_chargeShare 14 = .ok (.iaload, 1) := by decide +kernel
theorem dX1_chargeShare_15 : decode cX1_chargeShare 15 = .ok (.iconst 3, 1) := by decide +kernel
theorem dX1_chargeShare_16 : decode cX1_chargeShare 16 = .ok (.irem, 1) := by decide +kernel
theorem dX1_chargeShare_17 : decode cX1_chargeShare 17 = .ok (.istore_n 2, 1) := by decide +kernel
theorem dX1_chargeShare_18 : decode cX1_chargeShare 18 = .ok (.iconst 0, 1) := by decide +kernel
theorem dX1_chargeShare_19 : decode cX1_chargeShare 19 = .ok (.istore_n 3, 1) := by decide +kernel
theorem dX1_chargeShare_20 : decode cX1_chargeShare 20 = .ok (.iload_n 3, 1) := by decide +kernel
theorem dX1_chargeShare_21 : decode cX1_chargeShare 21 = .ok (.iconst 3, 1) := by decide +kernel
theorem dX1_chargeShare_22 : decode cX1_chargeShare 22 = .ok (.if_icmp .ge 72, 3) := by decide +kernel
theorem dX1_chargeShare_25 : decode cX1_chargeShare 25 = .ok (.aload_n 0, 1) := by decide +kernel
theorem dX1_chargeShare_26 : decode cX1_chargeShare 26 = .ok (.getfield 37, 3) := by decide +kernel
theorem dX1_chargeShare_29 : decode cX1_chargeShare 29 = .ok (.iload_n 1, 1) := by decide +kernel
theorem dX1_chargeShare_30 : decode cX1_chargeShare 30 = .ok (.iaload, 1) := by decide +kernel
theorem dX1_chargeShare_31 : decode cX1_chargeShare 31 = .ok (.iconst 3, 1) := by decide +kernel
theorem dX1_chargeShare_32 : decode cX1_chargeShare 32 = .ok (.idiv, 1) := by decide +kernel
theorem dX1_chargeShare_33 : decode cX1_chargeShare 33 = .ok (.iload_n 3, 1) := by decide +kernel
theorem dX1_chargeShare_34 : decode cX1_chargeShare 34 = .ok (.iload_n 2, 1) := by decide +kernel
theorem dX1_chargeShare_35 : decode cX1_chargeShare 35 = .ok (.if_icmp .ge 7, 3) := by decide +kernel
theorem dX1_chargeShare_38 : decode cX1_chargeShare 38 = .ok (.iconst 1, 1) := by decide +kernel
theorem dX1_chargeShare_39 : decode cX1_chargeShare 39 = .ok (.goto 4, 3) := by decide +kernel
theorem dX1_chargeShare_42 : decode cX1_chargeShare 42 = .ok (.iconst 0, 1) := by decide +kernel
theorem dX1_chargeShare_43 : decode cX1_chargeShare 43 = .ok (.iadd, 1) := by decide +kernel
theorem dX1_chargeShare_44 : decode cX1_chargeShare 44 = .ok (.i2l, 1) := by decide +kernel
theorem dX1_chargeShare_45 : decode cX1_chargeShare 45 = .ok (.lstore 4, 2) := by decide +kernel
theorem dX1_chargeShare_47 : decode cX1_chargeShare 47 = .ok (.aload_n 0, 1) := by decide +kernel
theorem dX1_chargeShare_48 : decode cX1_chargeShare 48 = .ok (.getfield 43, 3) := by decide +kernel
theorem dX1_chargeShare_51 : decode cX1_chargeShare 51 = .ok (.iload_n 3, 1) := by decide +kernel
theorem dX1_chargeShare_52 : decode cX1_chargeShare 52 = .ok (.iaload, 1) := by decide +kernel
theorem dX1_chargeShare_53 : decode cX1_chargeShare 53 = .ok (.i2l, 1) := by decide +kernel
theorem dX1_chargeShare_54 : decode cX1_chargeShare 54 = .ok (.lstore 6, 2) := by decide +kernel
theorem dX1_chargeShare_56 : decode cX1_chargeShare 56 = .ok (.lload 6, 2) := by decide +kernel
theorem dX1_chargeShare_58 : decode cX1_chargeShare 58 = .ok (.lconst 0, 1) := by decide +kernel
theorem dX1_chargeShare_59 : decode cX1_chargeShare 59 = .ok (.lcmp, 1) := by decide +kernel
theorem dX1_chargeShare_60 : decode cX1_chargeShare 60 = .ok (.ifCond .le 28, 3) := by decide +kernel
theorem dX1_chargeShare_63 : decode cX1_chargeShare 63 = .ok (.aload_n 0, 1) := by decide +kernel
theorem dX1_chargeShare_64 : decode cX1_chargeShare 64 = .ok (.getfield 27, 3) := by decide +kernel
theorem dX1_chargeShare_67 : decode cX1_chargeShare 67 = .ok (.iload_n 3, 1) := by decide +kernel
theorem dX1_chargeShare_68 : decode cX1_chargeShare 68 = .ok (.aaload, 1) := by decide +kernel
theorem dX1_chargeShare_69 : decode cX1_chargeShare 69 = .ok (.iload_n 1, 1) := by decide +kernel
theorem dX1_chargeShare_70 : decode cX1_chargeShare 70 = .ok (.ldc2_w 140, 3) := by decide +kernel
theorem dX1_chargeShare_73 : decode cX1_chargeShare 73 = .ok (.lload 4, 2) := by decide +kernel
theorem dX1_chargeShare_75 : decode cX1_chargeShare 75 = .ok (.lmul, 1) := by decide +kernel
theorem dX1_chargeShare_76 : decode cX1_chargeShare 76 = .ok (.lload 6, 2) := by decide +kernel
theorem dX1_chargeShare_78 : decode cX1_chargeShare 78 = .ok (.ladd, 1) := by decide +kernel
theorem dX1_chargeShare_79 : decode cX1_chargeShare 79 = .ok (.ldc2_w 142, 3) := by decide +kernel
theorem dX1_chargeShare_82 : decode cX1_chargeShare 82 = .ok (.lload 6, 2) := by decide +kernel
theorem dX1_chargeShare_84 : decode cX1_chargeShare 84 = .ok (.lmul, 1) := by decide +kernel
theorem dX1_chargeShare_85 : decode cX1_chargeShare 85 = .ok (.ldiv, 1) := by decide +kernel
theorem dX1_chargeShare_86 : decode cX1_chargeShare 86 = .ok (.l2i, 1) := by decide +kernel
theorem dX1_chargeShare_87 : decode cX1_chargeShare 87 = .ok (.iastore, 1) := by decide +kernel
theorem dX1_chargeShare_88 : decode cX1_chargeShare 88 = .ok (.iinc 3 1, 3) := by decide +kernel
theorem dX1_chargeShare_91 : decode cX1_chargeShare 91 = .ok (.goto (-71), 3) := by decide +kernel
theorem dX1_chargeShare_94 : decode cX1_chargeShare 94 = .ok (.return_, 1) := by decide +kernel
set_option maxRecDepth 20000 in
theorem ggX1_areMeansKnown_X0_mean : GoodIn wsX1_areMeansKnown wsX0_mean := goodIn_r _ [7, 8, 9, 10, 11, 12, 13, 14, 15, 28, 29, 30, 31, 32, 33, 34, 35, 36, 37, 38, 39, 40, 41] rfl (by decide +kernel)
set_option maxRecDepth 20000 in
theorem gX1_areMeansKnown_X0_mean : GoodIn wsX1_areMeansKnown (wsV RX1 144 RX0 yX0_mean wsX0_mean) := goodIn_app (goodIn_of _ (by decide +kernel)) ggX1_areMeansKnown_X0_mean
theorem dX1_areMeansKnown_0 : decode cX1_areMeansKnown 0 = .ok (.iconst 0, 1) := by decide +kernel
theorem dX1_areMeansKnown_1 : decode cX1_areMeansKnown 1 = .ok (.istore_n 3, 1) := by decide +kernel
theorem dX1_areMeansKnown_2 : decode cX1_areMeansKnown 2 = .ok (.iload_n 3, 1) := by decide +kernel
theorem dX1_areMeansKnown_3 : decode cX1_areMeansKnown 3 = .ok (.iconst 3, 1) := by decide +kernel
theorem dX1_areMeansKnown_4 : decode cX1_areMeansKnown 4 = .ok (.if_icmp .ge 37, 3) := by decide +kernel
theorem dX1_areMeansKnown_7 : decode cX1_areMeansKnown 7 = .ok (.aload_n 0, 1) := by decide +kernel
theorem dX1_areMeansKnown_8 : decode cX1_areMeansKnown 8 = .ok (.getfield 43, 3) := by decide +kernel
theorem dX1_areMeansKnown_11 : decode cX1_areMeansKnown 11 = .ok (.iload_n 3, 1) := by decide +kernel
theorem dX1_areMeansKnown_12 : decode cX1_areMeansKnown 12 = .ok (.aload_n 0, 1) := by decide +kernel
theorem dX1_areMeansKnown_13 : decode cX1_areMeansKnown 13 = .ok (.getfield 46, 3) := by decide +kernel
theorem dX1_areMeansKnown_16 : decode cX1_areMeansKnown 16 = .ok (.iload_n 1, 1) := by decide +kernel
theorem dX1_areMeansKnown_17 : decode cX1_areMeansKnown 17 = .ok (.iload_n 2, 1) := by decide +kernel
theorem dX1_areMeansKnown_18 : decode cX1_areMeansKnown 18 = .ok (.iload_n 3, 1) := by decide +kernel
theorem dX1_areMeansKnown_19 : decode cX1_areMeansKnown 19 = .ok (.invokevirtual 144, 3) := by decide +kernel
theorem dX1_areMeansKnown_22 : decode cX1_areMeansKnown 22 = .ok (.iastore, 1) := by decide +kernel
theorem dX1_areMeansKnown_23 : decode cX1_areMeansKnown 23 = .ok (.aload_n 0, 1) := by decide +kernel
theorem dX1_areMeansKnown_24 : decode cX1_areMeansKnown 24 = .ok (.getfield 43, 3) := by decide +kernel
theorem dX1_areMeansKnown_27 : decode cX1_areMeansKnown 27 = .ok (.iload_n 3, 1) := by decide +kernel
theorem dX1_areMeansKnown_28 : decode cX1_areMeansKnown 28 = .ok (.iaload, 1) := by decide +kernel
theorem dX1_areMeansKnown_29 : decode cX1_areMeansKnown 29 = .ok (.iconst (-1), 1) := by decide +kernel
theorem dX1_areMeansKnown_30 : decode cX1_areMeansKnown 30 = .ok (.if_icmp .ne 5, 3) := by decide +kernel
theorem dX1_areMeansKnown_33 : decode cX1_areMeansKnown 33 = .ok (.iconst 0, 1) := by decide +kernel
theorem dX1_areMeansKnown_34 : decode cX1_areMeansKnown 34 = .ok (.ireturn, 1) := by decide +kernel
theorem dX1_areMeansKnown_35 : decode cX1_areMeansKnown 35 = .ok (.iinc 3 1, 3) := by decide +kernel
theorem dX1_areMeansKnown_38 : decode cX1_areMeansKnown 38 = .ok (.goto (-36), 3) := by decide +kernel
theorem dX1_areMeansKnown_41 : decode cX1_areMeansKnown 41 = .ok (.iconst 1, 1) := by decide +kernel
theorem dX1_areMeansKnown_42 : decode cX1_areMeansKnown 42 = .ok (.ireturn, 1) := by decide +kernel
set_option maxRecDepth 20000 in
theorem ggX1_worth_X1_isThere : GoodIn wsX1_worth wsX1_isThere := goodIn_r _ [6, 7, 37, 38, 39, 40, 41, 42, 43, 44, 45, 46, 47, 48] rfl (by decide +kernel)
set_option maxRecDepth 20000 in
theorem gX1_worth_X1_isThere : GoodIn wsX1_worth (wsV RX1 119 RX1 yX1_isThere wsX1_isThere) := goodIn_app (goodIn_of _ (by decide +kernel)) ggX1_worth_X1_isThere
set_option maxRecDepth 20000 in
theorem ggX1_worth_X1_areMeansKnown : GoodIn wsX1_worth wsX1_areMeansKnown := goodIn_r _ [11, 12, 13, 14, 15, 16, 17, 18, 19, 20, 21, 22, 23, 24, 25, 26, 37, 38, 39, 40, 41, 42, 43, 44, 45, 46, 47, 48, 49, 50, 51, 52, 53, 54, 55, 56, 57, 58, 59, 60, 61, 62] rfl (by decide +kernel)
set_option maxRecDepth 20000 in
theorem gX1_worth_X1_areMeansKnown : GoodIn wsX1_worth (wsV RX1 126 RX1 yX1_areMeansKnown wsX1_areMeansKnown) := goodIn_app (goodIn_of _ (by decide +kernel)) ggX1_worth_X1_areMeansKnown
set_option maxRecDepth 20000 in
theorem ggX1_worth_X1_worthByMeans : GoodIn wsX1_worth wsX1_worthByMeans := goodIn_r _ [30, 31, 12, 32, 33, 34, 35, 5, 36, 37, 38, 39, 40, 41, 42, 43, 44, 45, 46, 47, 48] rfl (by decide +kernel)
set_option maxRecDepth 20000 in
theorem gX1_worth_X1_worthByMeans : GoodIn wsX1_worth (wsV RX1 148 RX1 yX1_worthByMeans wsX1_worthByMeans) := goodIn_app (goodIn_of _ (by decide +kernel)) ggX1_worth_X1_worthByMeans
theorem dX1_worth_0 : decode cX1_worth 0 = .ok (.aload_n 0, 1) := by decide +kernel
theorem dX1_worth_1 : decode cX1_worth 1 = .ok (.iload_n 3, 1) := by decide +kernel
theorem dX1_worth_2 : decode cX1_worth 2 = .ok (.invokevirtual 119, 3) := by decide +kernel
theorem dX1_worth_5 : decode cX1_worth 5 = .ok (.ifCond .eq 20, 3) := by decide +kernel
theorem dX1_worth_8 : decode cX1_worth 8 = .ok (.aload_n 0, 1) := by decide +kernel
theorem dX1_worth_9 : decode cX1_worth 9 = .ok (.iload_n 1, 1) := by decide +kernel
theorem dX1_worth_10 : decode cX1_worth 10 = .ok (.iload_n 2, 1) := by decide +kernel
theorem dX1_worth_11 : decode cX1_worth 11 = .ok (.invokevirtual 126, 3) := by decide +kernel
theorem dX1_worth_14 : decode cX1_worth 14 = .ok (.ifCond .eq 11, 3) := by decide +kernel
theorem dX1_worth_17 : decode cX1_worth 17 = .ok (.aload_n 0, 1) := by decide +kernel
theorem dX1_worth_18 : decode cX1_worth 18 = .ok (.iload_n 3, 1) := by decide +kernel
theorem dX1_worth_19 : decode cX1_worth 19 = .ok (.invokevirtual 148, 3) := by decide +kernel
theorem dX1_worth_22 : decode cX1_worth 22 = .ok (.goto 6, 3) := by decide +kernel
theorem dX1_worth_25 : decode cX1_worth 25 = .ok (.ldc2_w 152, 3) := by decide +kernel
theorem dX1_worth_28 : decode cX1_worth 28 = .ok (.lreturn, 1) := by decide +kernel
set_option maxRecDepth 20000 in
theorem ggX1_worthByMeans_X1_isNumber : GoodIn wsX1_worthByMeans wsX1_isNumber := goodIn_r _ [8] rfl (by decide +kernel)
set_option maxRecDepth 20000 in
theorem gX1_worthByMeans_X1_isNumber : GoodIn wsX1_worthByMeans (va_wsS RX1 112 yX1_isNumber wsX1_isNumber) := goodIn_app (goodIn_of _ (by decide +kernel)) ggX1_worthByMeans_X1_isNumber
theorem dX1_worthByMeans_0 : decode cX1_worthByMeans 0 = .ok (.lconst 0, 1) := by decide +kernel
theorem dX1_worthByMeans_1 : decode cX1_worthByMeans 1 = .ok (.lstore_n 2, 1) := by decide +kernel
theorem dX1_worthByMeans_2 : decode cX1_worthByMeans 2 = .ok (.iconst 0, 1) := by decide +kernel
theorem dX1_worthByMeans_3 : decode cX1_worthByMeans 3 = .ok (.istore 4, 2) := by decide +kernel
theorem dX1_worthByMeans_5 : decode cX1_worthByMeans 5 = .ok (.iload 4, 2) := by decide +kernel
theorem dX1_worthByMeans_7 : decode cX1_worthByMeans 7 = .ok (.iconst 3, 1) := by decide +kernel
theorem dX1_worthByMeans_8 : decode cX1_worthByMeans 8 = .ok (.if_icmp .ge 38, 3) := by decide +kernel
theorem dX1_worthByMeans_11 : decode cX1_worthByMeans 11 = .ok (.iload_n 1, 1) := by decide +kernel
theorem dX1_worthByMeans_12 : decode cX1_worthByMeans 12 = .ok (.invokestatic 112, 3) := by decide +kernel
theorem dX1_worthByMeans_15 : decode cX1_worthByMeans 15 = .ok (.ifCond .eq 31, 3) := by decide +kernel
theorem dX1_worthByMeans_18 : decode cX1_worthByMeans 18 = .ok (.lload_n 2, 1) := by decide +kernel
theorem dX1_worthByMeans_19 : decode cX1_worthByMeans 19 = .ok (.aload_n 0, 1) := by decide +kernel
theorem dX1_worthByMeans_20 : decode cX1_worthByMeans 20 = .ok (.getfield 27, 3) := by decide +kernel
theorem dX1_worthByMeans_23 : decode cX1_worthByMeans 23 = .ok (.iload 4, 2) := by decide +kernel
theorem dX1_worthByMeans_25 : decode cX1_worthByMeans 25 = .ok (.aaload, 1) := by decide +kernel
theorem dX1_worthByMeans_26 : decode cX1_worthByMeans 26 = .ok (.iload_n 1, 1) := by decide +kernel
theorem dX1_worthByMeans_27 : decode cX1_worthByMeans 27 = .ok (.iaload, 1) := by decide +kernel
theorem dX1_worthByMeans_28 : decode cX1_worthByMeans 28 = .ok (.i2l, 1) := by decide +kernel
theorem dX1_worthByMeans_29 : decode cX1_worthByMeans 29 = .ok (.aload_n 0, 1) := by decide +kernel
theorem dX1_worthByMeans_30 : decode cX1_worthByMeans 30 = .ok (.getfield 43, 3) := by decide +kernel
theorem dX1_worthByMeans_33 : decode cX1_worthByMeans 33 = .ok (.iload 4, 2) := by decide +kernel
theorem dX1_worthByMeans_35 : decode cX1_worthByMeans 35 = .ok (.iaload, 1) := by decide +kernel
theorem dX1_worthByMeans_36 : decode cX1_worthByMeans 36 = .ok (.i2l, 1) := by decide +kernel
theorem dX1_worthByMeans_37 : decode cX1_worthByMeans 37 = .ok (.lmul, 1) := by decide +kernel
theorem dX1_worthByMeans_38 : decode cX1_worthByMeans 38 = .ok (.ladd, 1) := by decide +kernel
theorem dX1_worthByMeans_39 : decode cX1_worthByMeans 39 = .ok (.lstore_n 2, 1) := by decide +kernel
theorem dX1_worthByMeans_40 : decode cX1_worthByMeans 40 = .ok (.iinc 4 1, 3) := by decide +kernel
theorem dX1_worthByMeans_43 : decode cX1_worthByMeans 43 = .ok (.goto (-38), 3) := by decide +kernel
theorem dX1_worthByMeans_46 : decode cX1_worthByMeans 46 = .ok (.lload_n 2, 1) := by decide +kernel
theorem dX1_worthByMeans_47 : decode cX1_worthByMeans 47 = .ok (.ldc2_w 154, 3) := by decide +kernel
theorem dX1_worthByMeans_50 : decode cX1_worthByMeans 50 = .ok (.ladd, 1) := by decide +kernel
theorem dX1_worthByMeans_51 : decode cX1_worthByMeans 51 = .ok (.ldc2_w 156, 3) := by decide +kernel
theorem dX1_worthByMeans_54 : decode cX1_worthByMeans 54 = .ok (.ldiv, 1) := by decide +kernel
theorem dX1_worthByMeans_55 : decode cX1_worthByMeans 55 = .ok (.lreturn, 1) := by decide +kernel
set_option maxRecDepth 20000 in
theorem ggX1_worthOfAll_X1_areMeansKnown : GoodIn wsX1_worthOfAll wsX1_areMeansKnown := goodIn_r _ [8, 9, 10, 11, 12, 13, 14, 15, 16, 17, 18, 19, 20, 21, 22, 23, 34, 35, 36, 37, 38, 39, 40, 41, 42, 43, 44, 45, 46, 47, 48, 49, 50, 51, 52, 53, 54, 55, 56, 57, 58, 59] rfl (by decide +kernel)
set_option maxRecDepth 20000 in
theorem gX1_worthOfAll_X1_areMeansKnown : GoodIn wsX1_worthOfAll (wsV RX1 126 RX1 yX1_areMeansKnown wsX1_areMeansKnown) := goodIn_app (goodIn_of _ (by decide +kernel)) ggX1_worthOfAll_X1_areMeansKnown
set_option maxRecDepth 20000 in
theorem ggX1_worthOfAll_X1_worthByMeans : GoodIn wsX1_worthOfAll wsX1_worthByMeans := goodIn_r _ [27, 28, 9, 29, 30, 31, 32, 7, 33, 34, 35, 36, 37, 38, 39, 40, 41, 42, 43, 44, 45] rfl (by decide +kernel)
set_option maxRecDepth 20000 in
theorem gX1_worthOfAll_X1_worthByMeans : GoodIn wsX1_worthOfAll (wsV RX1 148 RX1 yX1_worthByMeans wsX1_worthByMeans) := goodIn_app (goodIn_of _ (by decide +kernel)) ggX1_worthOfAll_X1_worthByMeans
theorem dX1_worthOfAll_0 : decode cX1_worthOfAll 0 = .ok (.aload_n 0, 1) := by decide +kernel
theorem dX1_worthOfAll_1 : decode cX1_worthOfAll 1 = .ok (.iload_n 1, 1) := by decide +kernel
theorem dX1_worthOfAll_2 : decode cX1_worthOfAll 2 = .ok (.iload_n 2, 1) := by decide +kernel
theorem dX1_worthOfAll_3 : decode cX1_worthOfAll 3 = .ok (.invokevirtual 126, 3) := by decide +kernel
theorem dX1_worthOfAll_6 : decode cX1_worthOfAll 6 = .ok (.istore 4, 2) := by decide +kernel
theorem dX1_worthOfAll_8 : decode cX1_worthOfAll 8 = .ok (.lconst 0, 1) := by decide +kernel
theorem dX1_worthOfAll_9 : decode cX1_worthOfAll 9 = .ok (.lstore 5, 2) := by decide +kernel
theorem dX1_worthOfAll_11 : decode cX1_worthOfAll 11 = .ok (.iconst 0, 1) := by decide +kernel
theorem dX1_worthOfAll_12 : decode cX1_worthOfAll 12 = .ok (.istore 7, 2) := by decide +kernel
theorem dX1_worthOfAll_14 : decode cX1_worthOfAll 14 = .ok (.iload 7, 2) := by decide +kernel
theorem dX1_worthOfAll_16 : decode cX1_worthOfAll 16 = .ok (.bipush 60, 2) := by decide +kernel
theorem dX1_worthOfAll_18 : decode cX1_worthOfAll 18 = .ok (.if_icmp .ge 55, 3) := by decide +kernel
theorem dX1_worthOfAll_21 : decode cX1_worthOfAll 21 = .ok (.aload_n 0, 1) := by decide +kernel
theorem dX1_worthOfAll_22 : decode cX1_worthOfAll 22 = .ok (.getfield 9, 3) := by decide +kernel
theorem dX1_worthOfAll_25 : decode cX1_worthOfAll 25 = .ok (.iload 7, 2) := by decide +kernel
theorem dX1_worthOfAll_27 : decode cX1_worthOfAll 27 = .ok (.baload, 1) := by decide +kernel
theorem dX1_worthOfAll_28 : decode cX1_worthOfAll 28 = .ok (.ifCond .eq 39, 3) := by decide +kernel
theorem dX1_worthOfAll_31 : decode cX1_worthOfAll 31 = .ok (.iload_n 3, 1) := by decide +kernel
theorem dX1_worthOfAll_32 : decode cX1_worthOfAll 32 = .ok (.iconst (-1), 1) := by decide +kernel
theorem dX1_worthOfAll_33 : decode cX1_worthOfAll 33 = .ok (.if_icmp .eq 14, 3) := by decide +kernel
theorem dX1_worthOfAll_36 : decode cX1_worthOfAll 36 = .ok (.aload_n 0, 1) := by decide +kernel
theorem dX1_worthOfAll_37 : decode cX1_worthOfAll 37 = .ok (.getfield 22, 3) := by decide +kernel
theorem dX1_worthOfAll_40 : decode cX1_worthOfAll 40 = .ok (.iload 7, 2) := by decide +kernel
theorem dX1_worthOfAll_42 : decode cX1_worthOfAll 42 = .ok (.iaload, 1) := by decide +kernel
theorem dX1_worthOfAll_43 : decode cX1_worthOfAll 43 = .ok (.iload_n 3, 1) := by decide +kernel
theorem dX1_worthOfAll_44 : decode cX1_worthOfAll 44 = .ok (.if_icmp .ne 23, 3) := by decide +kernel
theorem dX1_worthOfAll_47 : decode cX1_worthOfAll 47 = .ok (.iload 4, 2) := by decide +kernel
theorem dX1_worthOfAll_49 : decode cX1_worthOfAll 49 = .ok (.ifCond .ne 7, 3) := by decide +kernel
theorem dX1_worthOfAll_52 : decode cX1_worthOfAll 52 = .ok (.ldc2_w 152, 3) := by decide +kernel
theorem dX1_worthOfAll_55 : decode cX1_worthOfAll 55 = .ok (.lreturn, 1) := by decide +kernel
theorem dX1_worthOfAll_56 : decode cX1_worthOfAll 56 = .ok (.lload 5, 2) := by decide +kernel
theorem dX1_worthOfAll_58 : decode cX1_worthOfAll 58 = .ok (.aload_n 0, 1) := by decide +kernel
theorem dX1_worthOfAll_59 : decode cX1_worthOfAll 59 = .ok (.iload 7, 2) := by decide +kernel
theorem dX1_worthOfAll_61 : decode cX1_worthOfAll 61 = .ok (.invokevirtual 148, 3) := by decide +kernel
theorem dX1_worthOfAll_64 : decode cX1_worthOfAll 64 = .ok (.ladd, 1) := by decide +kernel
theorem dX1_worthOfAll_65 : decode cX1_worthOfAll 65 = .ok (.lstore 5, 2) := by decide +kernel
theorem dX1_worthOfAll_67 : decode cX1_worthOfAll 67 = .ok (.iinc 7 1, 3) := by decide +kernel
theorem dX1_worthOfAll_70 : decode cX1_worthOfAll 70 = .ok (.goto (-56), 3) := by decide +kernel
theorem dX1_worthOfAll_73 : decode cX1_worthOfAll 73 = .ok (.lload 5, 2) := by decide +kernel
theorem dX1_worthOfAll_75 : decode cX1_worthOfAll 75 = .ok (.lreturn, 1) := by decide +kernel
set_option maxRecDepth 20000 in
theorem ggX1_tell_X1_isThere : GoodIn wsX1_tell wsX1_isThere := goodIn_r _ [10, 11, 12, 13, 14, 15, 16, 17, 18, 19, 20, 21, 22, 23] rfl (by decide +kernel)
set_option maxRecDepth 20000 in
theorem gX1_tell_X1_isThere : GoodIn wsX1_tell (wsV RX1 119 RX1 yX1_isThere wsX1_isThere) := goodIn_app (goodIn_of _ (by decide +kernel)) ggX1_tell_X1_isThere
theorem dX1_tell_0 : decode cX1_tell 0 = .ok (.aload_n 0, 1) := by decide +kernel
theorem dX1_tell_1 : decode cX1_tell 1 = .ok (.iload_n 1, 1) := by decide +kernel
theorem dX1_tell_2 : decode cX1_tell 2 = .ok (.invokevirtual 119, 3) := by decide +kernel
theorem dX1_tell_5 : decode cX1_tell 5 = .ok (.ifCond .ne 5, 3) := by decide +kernel
theorem dX1_tell_8 : decode cX1_tell 8 = .ok (.iconst (-1), 1) := by decide +kernel
theorem dX1_tell_9 : decode cX1_tell 9 = .ok (.ireturn, 1) := by decide +kernel
theorem dX1_tell_10 : decode cX1_tell 10 = .ok (.iload_n 2, 1) := by decide +kernel
theorem dX1_tell_11 : decode cX1_tell 11 = .ok (.tableswitch 88 0 6 #[41, 48, 55, 62, 62, 62, 73], 41) := by decide +kernel
theorem dX1_tell_52 : decode cX1_tell 52 = .ok (.aload_n 0, 1) := by decide +kernel
theorem dX1_tell_53 : decode cX1_tell 53 = .ok (.getfield 15, 3) := by decide +kernel
theorem dX1_tell_56 : decode cX1_tell 56 = .ok (.iload_n 1, 1) := by decide +kernel
theorem dX1_tell_57 : decode cX1_tell 57 = .ok (.iaload, 1) := by decide +kernel
theorem dX1_tell_58 : decode cX1_tell 58 = .ok (.ireturn, 1) := by decide +kernel
theorem dX1_tell_59 : decode cX1_tell 59 = .ok (.aload_n 0, 1) := by decide +kernel
theorem dX1_tell_60 : decode cX1_tell 60 = .ok (.getfield 19, 3) := by decide +kernel
theorem dX1_tell_63 : decode cX1_tell 63 = .ok (.iload_n 1, 1) := by decide +kernel
theorem dX1_tell_64 : decode cX1_tell 64 = .ok (.iaload, 1) := by decide +kernel
theorem dX1_tell_65 : decode cX1_tell 65 = .ok (.ireturn, 1) := by decide +kernel
theorem dX1_tell_66 : decode cX1_tell 66 = .ok (.aload_n 0, 1) := by decide +kernel
theorem dX1_tell_67 : decode cX1_tell 67 = .ok (.getfield 22, 3) := by decide +kernel
theorem dX1_tell_70 : decode cX1_tell 70 = .ok (.iload_n 1, 1) := by decide +kernel
theorem dX1_tell_71 : decode cX1_tell 71 = .ok (.iaload, 1) := by decide +kernel
theorem dX1_tell_72 : decode cX1_tell 72 = .ok (.ireturn, 1) := by decide +kernel
theorem dX1_tell_73 : decode cX1_tell 73 = .ok (.aload_n 0, 1) := by decide +kernel
theorem dX1_tell_74 : decode cX1_tell 74 = .ok (.getfield 27, 3) := by decide +kernel
theorem dX1_tell_77 : decode cX1_tell 77 = .ok (.iload_n 2, 1) := by decide +kernel
theorem dX1_tell_78 : decode cX1_tell 78 = .ok (.iconst 3, 1) := by decide +kernel
theorem dX1_tell_79 : decode cX1_tell 79 = .ok (.isub, 1) := by decide +kernel
theorem dX1_tell_80 : decode cX1_tell 80 = .ok (.aaload, 1) := by decide +kernel
theorem dX1_tell_81 : decode cX1_tell 81 = .ok (.iload_n 1, 1) := by decide +kernel
theorem dX1_tell_82 : decode cX1_tell 82 = .ok (.iaload, 1) := by decide +kernel
theorem dX1_tell_83 : decode cX1_tell 83 = .ok (.ireturn, 1) := by decide +kernel
theorem dX1_tell_84 : decode cX1_tell 84 = .ok (.aload_n 0, 1) := by decide +kernel
theorem dX1_tell_85 : decode cX1_tell 85 = .ok (.getfield 30, 3) := by decide +kernel
theorem dX1_tell_88 : decode cX1_tell 88 = .ok (.iload_n 1, 1) := by decide +kernel
theorem dX1_tell_89 : decode cX1_tell 89 = .ok (.baload, 1) := by decide +kernel
theorem dX1_tell_90 : decode cX1_tell 90 = .ok (.ifCond .eq 7, 3) := by decide +kernel
theorem dX1_tell_93 : decode cX1_tell 93 = .ok (.iconst 1, 1) := by decide +kernel
theorem dX1_tell_94 : decode cX1_tell 94 = .ok (.goto 4, 3) := by decide +kernel
theorem dX1_tell_97 : decode cX1_tell 97 = .ok (.iconst 0, 1) := by decide +kernel
theorem dX1_tell_98 : decode cX1_tell 98 = .ok (.ireturn, 1) := by decide +kernel
theorem dX1_tell_99 : decode cX1_tell 99 = .ok (.iconst (-1), 1) := by decide +kernel
theorem dX1_tell_100 : decode cX1_tell 100 = .ok (.ireturn, 1) := by decide +kernel
theorem dX1_howMany_0 : decode cX1_howMany 0 = .ok (.iconst 0, 1) := by decide +kernel
theorem dX1_howMany_1 : decode cX1_howMany 1 = .ok (.istore_n 1, 1) := by decide +kernel
theorem dX1_howMany_2 : decode cX1_howMany 2 = .ok (.iconst 0, 1) := by decide +kernel
theorem dX1_howMany_3 : decode cX1_howMany 3 = .ok (.istore_n 2, 1) := by decide +kernel
theorem dX1_howMany_4 : decode cX1_howMany 4 = .ok (.iload_n 2, 1) := by decide +kernel
theorem dX1_howMany_5 : decode cX1_howMany 5 = .ok (.bipush 60, 2) := by decide +kernel
theorem dX1_howMany_7 : decode cX1_howMany 7 = .ok (.if_icmp .ge 26, 3) := by decide +kernel
theorem dX1_howMany_10 : decode cX1_howMany 10 = .ok (.iload_n 1, 1) := by decide +kernel
theorem dX1_howMany_11 : decode cX1_howMany 11 = .ok (.aload_n 0, 1) := by decide +kernel
theorem dX1_howMany_12 : decode cX1_howMany 12 = .ok (.getfield 9, 3) := by decide +kernel
theorem dX1_howMany_15 : decode cX1_howMany 15 = .ok (.iload_n 2, 1) := by decide +kernel
theorem dX1_howMany_16 : decode cX1_howMany 16 = .ok (.baload, 1) := by decide +kernel
theorem dX1_howMany_17 : decode cX1_howMany 17 = .ok (.ifCond .eq 7, 3) := by decide +kernel
theorem dX1_howMany_20 : decode cX1_howMany 20 = .ok (.iconst 1, 1) := by decide +kernel
theorem dX1_howMany_21 : decode cX1_howMany 21 = .ok (.goto 4, 3) := by decide +kernel
theorem dX1_howMany_24 : decode cX1_howMany 24 = .ok (.iconst 0, 1) := by decide +kernel
theorem dX1_howMany_25 : decode cX1_howMany 25 = .ok (.iadd, 1) := by decide +kernel
theorem dX1_howMany_26 : decode cX1_howMany 26 = .ok (.istore_n 1, 1) := by decide +kernel
theorem dX1_howMany_27 : decode cX1_howMany 27 = .ok (.iinc 2 1, 3) := by decide +kernel
theorem dX1_howMany_30 : decode cX1_howMany 30 = .ok (.goto (-26), 3) := by decide +kernel
theorem dX1_howMany_33 : decode cX1_howMany 33 = .ok (.iload_n 1, 1) := by decide +kernel
theorem dX1_howMany_34 : decode cX1_howMany 34 = .ok (.ireturn, 1) := by decide +kernel
set_option maxRecDepth 20000 in
theorem ggX1_sumOf_X1_tell : GoodIn wsX1_sumOf wsX1_tell := goodIn_r _ [6, 7, 8, 9, 10, 11, 12, 13, 14, 5, 15, 1, 16, 17, 18, 19, 20, 21, 22, 23, 24, 25, 26, 27] rfl (by decide +kernel)
set_option maxRecDepth 20000 in
theorem gX1_sumOf_X1_tell : GoodIn wsX1_sumOf (wsV RX1 158 RX1 yX1_tell wsX1_tell) := goodIn_app (goodIn_of _ (by decide +kernel)) ggX1_sumOf_X1_tell
theorem dX1_sumOf_0 : decode cX1_sumOf 0 = .ok (.lconst 0, 1) := by decide +kernel
theorem dX1_sumOf_1 : decode cX1_sumOf 1 = .ok (.lstore_n 2, 1) := by decide +kernel
theorem dX1_sumOf_2 : decode cX1_sumOf 2 = .ok (.iconst 0, 1) := by decide +kernel
theorem dX1_sumOf_3 : decode cX1_sumOf 3 = .ok (.istore 4, 2) := by decide +kernel
theorem dX1_sumOf_5 : decode cX1_sumOf 5 = .ok (.iload 4, 2) := by decide +kernel
theorem dX1_sumOf_7 : decode cX1_sumOf 7 = .ok (.bipush 60, 2) := by decide +kernel
theorem dX1_sumOf_9 : decode cX1_sumOf 9 = .ok (.if_icmp .ge 34, 3) := by decide +kernel
theorem dX1_sumOf_12 : decode cX1_sumOf 12 = .ok (.lload_n 2, 1) := by decide +kernel
theorem dX1_sumOf_13 : decode cX1_sumOf 13 = .ok (.aload_n 0, 1) := by decide +kernel
theorem dX1_sumOf_14 : decode cX1_sumOf 14 = .ok (.getfield 9, 3) := by decide +kernel
theorem dX1_sumOf_17 : decode cX1_sumOf 17 = .ok (.iload 4, 2) := by decide +kernel
theorem dX1_sumOf_19 : decode cX1_sumOf 19 = .ok (.baload, 1) := by decide +kernel
theorem dX1_sumOf_20 : decode cX1_sumOf 20 = .ok (.ifCond .eq 14, 3) := by decide +kernel
theorem dX1_sumOf_23 : decode cX1_sumOf 23 = .ok (.aload_n 0, 1) := by decide +kernel
theorem dX1_sumOf_24 : decode cX1_sumOf 24 = .ok (.iload 4, 2) := by decide +kernel
theorem dX1_sumOf_26 : decode cX1_sumOf 26 = .ok (.iload_n 1, 1) := by decide +kernel
theorem dX1_sumOf_27 : decode cX1_sumOf 27 = .ok (.invokevirtual 158, 3) := by decide +kernel
theorem dX1_sumOf_30 : decode cX1_sumOf 30 = .ok (.i2l, 1) := by decide +kernel
theorem dX1_sumOf_31 : decode cX1_sumOf 31 = .ok (.goto 4, 3) := by decide +kernel
theorem dX1_sumOf_34 : decode cX1_sumOf 34 = .ok (.lconst 0, 1) := by decide +kernel
theorem dX1_sumOf_35 : decode cX1_sumOf 35 = .ok (.ladd, 1) := by decide +kernel
theorem dX1_sumOf_36 : decode cX1_sumOf 36 = .ok (.lstore_n 2, 1) := by decide +kernel
theorem dX1_sumOf_37 : decode cX1_sumOf 37 = .ok (.iinc 4 1, 3) := by decide +kernel
theorem dX1_sumOf_40 : decode cX1_sumOf 40 = .ok (.goto (-35), 3) := by decide +kernel
theorem dX1_sumOf_43 : decode cX1_sumOf 43 = .ok (.lload_n 2, 1) := by decide +kernel
theorem dX1_sumOf_44 : decode cX1_sumOf 44 = .ok (.lreturn, 1) := by decide +kernel
set_option maxRecDepth 20000 in
theorem ggX1_isOtherwise_X1_tell : GoodIn wsX1_isOtherwise wsX1_tell := goodIn_r _ [5, 6, 7, 8, 9, 10, 11, 12, 13, 4, 14, 15, 16, 17, 18, 19, 20, 21, 22, 23, 24, 25, 26, 27] rfl (by decide +kernel)
set_option maxRecDepth 20000 in
theorem gX1_isOtherwise_X1_tell : GoodIn wsX1_isOtherwise (wsV RX1 158 RX1 yX1_tell wsX1_tell) := goodIn_app (goodIn_of _ (by decide +kernel)) ggX1_isOtherwise_X1_tell
theorem dX1_isOtherwise_0 : decode cX1_isOtherwise 0 = .ok (.iconst 0, 1) := by decide +kernel
theorem dX1_isOtherwise_1 : decode cX1_isOtherwise 1 = .ok (.istore_n 3, 1) := by decide +kernel
theorem dX1_isOtherwise_2 : decode cX1_isOtherwise 2 = .ok (.iload_n 3, 1) := by decide +kernel
theorem dX1_isOtherwise_3 : decode cX1_isOtherwise 3 = .ok (.bipush 7, 2) := by decide +kernel
theorem dX1_isOtherwise_5 : decode cX1_isOtherwise 5 = .ok (.if_icmp .ge 26, 3) := by decide +kernel
theorem dX1_isOtherwise_8 : decode cX1_isOtherwise 8 = .ok (.aload_n 0, 1) := by decide +kernel
theorem dX1_isOtherwise_9 : decode cX1_isOtherwise 9 = .ok (.iload_n 2, 1) := by decide +kernel
theorem dX1_isOtherwise_10 : decode cX1_isOtherwise 10 = .ok (.iload_n 3, 1) := by decide +kernel
theorem dX1_isOtherwise_11 : decode cX1_isOtherwise 11 = .ok (.invokevirtual 158, 3) := by decide +kernel
theorem dX1_isOtherwise_14 : decode cX1_isOtherwise 14 = .ok (.aload_n 1, 1) := by decide +kernel
theorem dX1_isOtherwise_15 : decode cX1_isOtherwise 15 = .ok (.iload_n 2, 1) := by decide +kernel
theorem dX1_isOtherwise_16 : decode cX1_isOtherwise 16 = .ok (.iload_n 3, 1) := by decide +kernel
theorem dX1_isOtherwise_17 : decode cX1_isOtherwise 17 = .ok (.invokevirtual 158, 3) := by decide +kernel
theorem dX1_isOtherwise_20 : decode cX1_isOtherwise 20 = .ok (.if_icmp .eq 5, 3) := by decide +kernel
theorem dX1_isOtherwise_23 : decode cX1_isOtherwise 23 = .ok (.iconst 1, 1) := by decide +kernel
theorem dX1_isOtherwise_24 : decode cX1_isOtherwise 24 = .ok (.ireturn, 1) := by decide +kernel
theorem dX1_isOtherwise_25 : decode cX1_isOtherwise 25 = .ok (.iinc 3 1, 3) := by decide +kernel
theorem dX1_isOtherwise_28 : decode cX1_isOtherwise 28 = .ok (.goto (-26), 3) := by decide +kernel
theorem dX1_isOtherwise_31 : decode cX1_isOtherwise 31 = .ok (.iconst 0, 1) := by decide +kernel
theorem dX1_isOtherwise_32 : decode cX1_isOtherwise 32 = .ok (.ireturn, 1) := by decide +kernel

theorem dX0_init_0 : decode cX0_init 0 = .ok (.aload_n 0, 1) := by decide +kernel
theorem dX0_init_1 : decode cX0_init 1 = .ok (.invokespecial 1, 3) := by decide +kernel
theorem dX0_init_4 : decode cX0_init 4 = .ok (.aload_n 0, 1) := by decide +kernel
theorem dX0_init_5 : decode cX0_init 5 = .ok (.bipush 16, 2) := by decide +kernel
theorem dX0_init_7 : decode cX0_init 7 = .ok (.newarray .int, 2) := by decide +kernel
theorem dX0_init_9 : decode cX0_init 9 = .ok (.putfield 9, 3) := by decide +kernel
theorem dX0_init_12 : decode cX0_init 12 = .ok (.aload_n 0, 1) := by decide +kernel
theorem dX0_init_13 : decode cX0_init 13 = .ok (.bipush 16, 2) := by decide +kernel
theorem dX0_init_15 : decode cX0_init 15 = .ok (.newarray .int, 2) := by decide +kernel
theorem dX0_init_17 : decode cX0_init 17 = .ok (.putfield 13, 3) := by decide +kernel
theorem dX0_init_20 : decode cX0_init 20 = .ok (.aload_n 0, 1) := by decide +kernel
theorem dX0_init_21 : decode cX0_init 21 = .ok (.sipush 160, 3) := by decide +kernel
theorem dX0_init_24 : decode cX0_init 24 = .ok (.newarray .int, 2) := by decide +kernel
theorem dX0_init_26 : decode cX0_init 26 = .ok (.putfield 16, 3) := by decide +kernel
theorem dX0_init_29 : decode cX0_init 29 = .ok (.aload_n 0, 1) := by decide +kernel
theorem dX0_init_30 : decode cX0_init 30 = .ok (.iconst 0, 1) := by decide +kernel
theorem dX0_init_31 : decode cX0_init 31 = .ok (.putfield 19, 3) := by decide +kernel
theorem dX0_init_34 : decode cX0_init 34 = .ok (.return_, 1) := by decide +kernel
theorem dX0_begin_0 : decode cX0_begin 0 = .ok (.getstatic 23, 3) := by decide +kernel
theorem dX0_begin_3 : decode cX0_begin 3 = .ok (.iload_n 1, 1) := by decide +kernel
theorem dX0_begin_4 : decode cX0_begin 4 = .ok (.ifCond .eq 8, 3) := by decide +kernel
theorem dX0_begin_7 : decode cX0_begin 7 = .ok (.bipush 16, 2) := by decide +kernel
theorem dX0_begin_9 : decode cX0_begin 9 = .ok (.goto 4, 3) := by decide +kernel
theorem dX0_begin_12 : decode cX0_begin 12 = .ok (.iconst 0, 1) := by decide +kernel
theorem dX0_begin_13 : decode cX0_begin 13 = .ok (.aload_n 0, 1) := by decide +kernel
theorem dX0_begin_14 : decode cX0_begin 14 = .ok (.getfield 9, 3) := by decide +kernel
theorem dX0_begin_17 : decode cX0_begin 17 = .ok (.iconst 0, 1) := by decide +kernel
theorem dX0_begin_18 : decode cX0_begin 18 = .ok (.bipush 16, 2) := by decide +kernel
theorem dX0_begin_20 : decode cX0_begin 20 = .ok (.invokestatic 26, 3) := by decide +kernel
theorem dX0_begin_23 : decode cX0_begin 23 = .ok (.aload_n 0, 1) := by decide +kernel
theorem dX0_begin_24 : decode cX0_begin 24 = .ok (.iconst 0, 1) := by decide +kernel
theorem dX0_begin_25 : decode cX0_begin 25 = .ok (.putfield 19, 3) := by decide +kernel
theorem dX0_begin_28 : decode cX0_begin 28 = .ok (.return_, 1) := by decide +kernel
set_option maxRecDepth 20000 in
theorem ggX0_take_X0_mixBlock : GoodIn wsX0_take wsX0_mixBlock := goodIn_r _ [7, 8, 9, 10, 11, 12, 13, 14, 15, 16, 6, 17, 2, 18, 19, 20, 21, 22, 23, 24, 25, 26, 27, 28, 29, 30, 31, 32, 33, 34, 35, 36, 37, 38, 39, 40, 41, 42, 43, 44, 45, 46, 47, 48] (by decide +kernel) (by decide +kernel)
set_option maxRecDepth 20000 in
theorem gX0_take_X0_mixBlock : GoodIn wsX0_take (wsV RX0 32 RX0 yX0_mixBlock wsX0_mixBlock) := goodIn_app (goodIn_of _ (by decide +kernel)) ggX0_take_X0_mixBlock
theorem dX0_take_0 : decode cX0_take 0 = .ok (.aload_n 0, 1) := by decide +kernel
theorem dX0_take_1 : decode cX0_take 1 = .ok (.getfield 19, 3) := by decide +kernel
theorem dX0_take_4 : decode cX0_take 4 = .ok (.iconst 2, 1) := by decide +kernel
theorem dX0_take_5 : decode cX0_take 5 = .ok (.ishr, 1) := by decide +kernel
theorem dX0_take_6 : decode cX0_take 6 = .ok (.istore_n 2, 1) := by decide +kernel
theorem dX0_take_7 : decode cX0_take 7 = .ok (.aload_n 0, 1) := by decide +kernel
theorem dX0_take_8 : decode cX0_take 8 = .ok (.getfield 16, 3) := by decide +kernel
theorem dX0_take_11 : decode cX0_take 11 = .ok (.iload_n 2, 1) := by decide +kernel
theorem dX0_take_12 : decode cX0_take 12 = .ok (.aload_n 0, 1) := by decide +kernel
theorem dX0_take_13 : decode cX0_take 13 = .ok (.getfield 16, 3) := by decide +kernel
theorem dX0_take_16 : decode cX0_take 16 = .ok (.iload_n 2, 1) := by decide +kernel
theorem dX0_take_17 : decode cX0_take 17 = .ok (.iaload, 1) := by decide +kernel
theorem dX0_take_18 : decode cX0_take 18 = .ok (.bipush 8, 2) := by decide +kernel
theorem dX0_take_20 : decode cX0_take 20 = .ok (.ishl, 1) := by decide +kernel
theorem dX0_take_21 : decode cX0_take 21 = .ok (.iload_n 1, 1) := by decide +kernel
theorem dX0_take_22 : decode cX0_take 22 = .ok (.ior, 1) := by decide +kernel
theorem dX0_take_23 : decode cX0_take 23 = .ok (.iastore, 1) := by decide +kernel
theorem dX0_take_24 : decode cX0_take 24 = .ok (.aload_n 0, 1) := by decide +kernel
theorem dX0_take_25 : decode cX0_take 25 = .ok (.dup, 1) := by decide +kernel
theorem dX0_take_26 : decode cX0_take 26 = .ok (.getfield 19, 3) := by decide +kernel
theorem dX0_take_29 : decode cX0_take 29 = .ok (.iconst 1, 1) := by decide +kernel
theorem dX0_take_30 : decode cX0_take 30 = .ok (.iadd, 1) := by decide +kernel
theorem dX0_take_31 : decode cX0_take 31 = .ok (.putfield 19, 3) := by decide +kernel
theorem dX0_take_34 : decode cX0_take 34 = .ok (.aload_n 0, 1) := by decide +kernel
theorem dX0_take_35 : decode cX0_take 35 = .ok (.getfield 19, 3) := by decide +kernel
theorem dX0_take_38 : decode cX0_take 38 = .ok (.sipush 128, 3) := by decide +kernel
theorem dX0_take_41 : decode cX0_take 41 = .ok (.if_icmp .ne 12, 3) := by decide +kernel
theorem dX0_take_44 : decode cX0_take 44 = .ok (.aload_n 0, 1) := by decide +kernel
theorem dX0_take_45 : decode cX0_take 45 = .ok (.invokevirtual 32, 3) := by decide +kernel
theorem dX0_take_48 : decode cX0_take 48 = .ok (.aload_n 0, 1) := by decide +kernel
theorem dX0_take_49 : decode cX0_take 49 = .ok (.iconst 0, 1) := by decide +kernel
theorem dX0_take_50 : decode cX0_take 50 = .ok (.putfield 19, 3) := by decide +kernel
theorem dX0_take_53 : decode cX0_take 53 = .ok (.return_, 1) := by decide +kernel
set_option maxRecDepth 20000 in
theorem ggX0_end_X0_take : GoodIn wsX0_end wsX0_take := goodIn_r _ [6, 7, 1, 8, 9, 10, 5, 11, 12, 13, 14, 15, 16, 17, 18, 19, 20, 21, 22, 23, 24, 25, 26, 27, 28, 29, 30, 31, 32, 33, 34, 35, 36, 37, 38, 39, 40, 41, 42, 43, 44, 45, 46, 47, 48, 49, 50, 51, 52] (by decide +kernel) (by decide +kernel)
set_option maxRecDepth 20000 in
theorem gX0_end_X0_take : GoodIn wsX0_end (wsV RX0 35 RX0 yX0_take wsX0_take) := goodIn_app (goodIn_of _ (by decide +kernel)) ggX0_end_X0_take
set_option maxRecDepth 20000 in
theorem ggX0_end_X0_mixBlock : GoodIn wsX0_end wsX0_mixBlock := goodIn_r _ [11, 12, 13, 14, 15, 16, 17, 18, 19, 20, 5, 21, 1, 22, 23, 24, 25, 26, 27, 28, 29, 30, 31, 32, 33, 34, 35, 36, 37, 38, 39, 40, 41, 42, 43, 44, 45, 46, 47, 48, 49, 50, 51, 52] (by decide +kernel) (by decide +kernel)
set_option maxRecDepth 20000 in
theorem gX0_end_X0_mixBlock : GoodIn wsX0_end (wsV RX0 32 RX0 yX0_mixBlock wsX0_mixBlock) := goodIn_app (goodIn_of _ (by decide +kernel)) ggX0_end_X0_mixBlock
theorem dX0_end_0 : decode cX0_end 0 = .ok (.aload_n 0, 1) := by decide +kernel
theorem dX0_end_1 : decode cX0_end 1 = .ok (.sipush 128, 3) := by decide +kernel
theorem dX0_end_4 : decode cX0_end 4 = .ok (.invokevirtual 35, 3) := by decide +kernel
theorem dX0_end_7 : decode cX0_end 7 = .ok (.bipush 111, 2) := by decide +kernel
theorem dX0_end_9 : decode cX0_end 9 = .ok (.iload_n 1, 1) := by decide +kernel
theorem dX0_end_10 : decode cX0_end 10 = .ok (.isub, 1) := by decide +kernel
theorem dX0_end_11 : decode cX0_end 11 = .ok (.bipush 127, 2) := by decide +kernel
theorem dX0_end_13 : decode cX0_end 13 = .ok (.iand, 1) := by decide +kernel
theorem dX0_end_14 : decode cX0_end 14 = .ok (.istore_n 2, 1) := by decide +kernel
theorem dX0_end_15 : decode cX0_end 15 = .ok (.iconst 0, 1) := by decide +kernel
theorem dX0_end_16 : decode cX0_end 16 = .ok (.istore_n 3, 1) := by decide +kernel
theorem dX0_end_17 : decode cX0_end 17 = .ok (.iload_n 3, 1) := by decide +kernel
theorem dX0_end_18 : decode cX0_end 18 = .ok (.iload_n 2, 1) := by decide +kernel
theorem dX0_end_19 : decode cX0_end 19 = .ok (.if_icmp .ge 14, 3) := by decide +kernel
theorem dX0_end_22 : decode cX0_end 22 = .ok (.aload_n 0, 1) := by decide +kernel
theorem dX0_end_23 : decode cX0_end 23 = .ok (.iconst 0, 1) := by decide +kernel
theorem dX0_end_24 : decode cX0_end 24 = .ok (.invokevirtual 35, 3) := by decide +kernel
theorem dX0_end_27 : decode cX0_end 27 = .ok (.iinc 3 1, 3) := by decide +kernel
theorem dX0_end_30 : decode cX0_end 30 = .ok (.goto (-13), 3) := by decide +kernel
theorem dX0_end_33 : decode cX0_end 33 = .ok (.aload_n 0, 1) := by decide +kernel
theorem dX0_end_34 : decode cX0_end 34 = .ok (.getfield 16, 3) := by decide +kernel
theorem dX0_end_37 : decode cX0_end 37 = .ok (.bipush 28, 2) := by decide +kernel
theorem dX0_end_39 : decode cX0_end 39 = .ok (.iconst 0, 1) := by decide +kernel
theorem dX0_end_40 : decode cX0_end 40 = .ok (.iastore, 1) := by decide +kernel
theorem dX0_end_41 : decode cX0_end 41 = .ok (.aload_n 0, 1) := by decide +kernel
theorem dX0_end_42 : decode cX0_end 42 = .ok (.getfield 16, 3) := by decide +kernel
theorem dX0_end_45 : decode cX0_end 45 = .ok (.bipush 29, 2) := by decide +kernel
theorem dX0_end_47 : decode cX0_end 47 = .ok (.iconst 0, 1) := by decide +kernel
theorem dX0_end_48 : decode cX0_end 48 = .ok (.iastore, 1) := by decide +kernel
theorem dX0_end_49 : decode cX0_end 49 = .ok (.aload_n 0, 1) := by decide +kernel
theorem dX0_end_50 : decode cX0_end 50 = .ok (.getfield 16, 3) := by decide +kernel
theorem dX0_end_53 : decode cX0_end 53 = .ok (.bipush 30, 2) := by decide +kernel
theorem dX0_end_55 : decode cX0_end 55 = .ok (.iload_n 1, 1) := by decide +kernel
theorem dX0_end_56 : decode cX0_end 56 = .ok (.bipush 29, 2) := by decide +kernel
theorem dX0_end_58 : decode cX0_end 58 = .ok (.iushr, 1) := by decide +kernel
theorem dX0_end_59 : decode cX0_end 59 = .ok (.iastore, 1) := by decide +kernel
theorem dX0_end_60 : decode cX0_end 60 = .ok (.aload_n 0, 1) := by decide +kernel
theorem dX0_end_61 : decode cX0_end 61 = .ok (.getfield 16, 3) := by decide +kernel
theorem dX0_end_64 : decode cX0_end 64 = .ok (.bipush 31, 2) := by decide +kernel
theorem dX0_end_66 : decode cX0_end 66 = .ok (.iload_n 1, 1) := by decide +kernel
theorem dX0_end_67 : decode cX0_end 67 = .ok (.iconst 3, 1) := by decide +kernel
theorem dX0_end_68 : decode cX0_end 68 = .ok (.ishl, 1) := by decide +kernel
theorem dX0_end_69 : decode cX0_end 69 = .ok (.iastore, 1) := by decide +kernel
theorem dX0_end_70 : decode cX0_end 70 = .ok (.aload_n 0, 1) := by decide +kernel
theorem dX0_end_71 : decode cX0_end 71 = .ok (.invokevirtual 32, 3) := by decide +kernel
theorem dX0_end_74 : decode cX0_end 74 = .ok (.return_, 1) := by decide +kernel
theorem dX0_wordAt_0 : decode cX0_wordAt 0 = .ok (.aload_n 0, 1) := by decide +kernel
theorem dX0_wordAt_1 : decode cX0_wordAt 1 = .ok (.getfield 9, 3) := by decide +kernel
theorem dX0_wordAt_4 : decode cX0_wordAt 4 = .ok (.iload_n 1, 1) := by decide +kernel
theorem dX0_wordAt_5 : decode cX0_wordAt 5 = .ok (.iaload, 1) := by decide +kernel
theorem dX0_wordAt_6 : decode cX0_wordAt 6 = .ok (.ireturn, 1) := by decide +kernel
set_option maxRecDepth 20000 in
theorem ggX0_mixBlock_X0_extend : GoodIn wsX0_mixBlock wsX0_extend := goodIn_r _ [11, 12, 13, 14, 15, 16, 17, 18, 19, 20, 40, 41, 42, 43] (by decide +kernel) (by decide +kernel)
set_option maxRecDepth 20000 in
theorem gX0_mixBlock_X0_extend : GoodIn wsX0_mixBlock (wsV RX0 39 RX0 yX0_extend wsX0_extend) := goodIn_app (goodIn_of _ (by decide +kernel)) ggX0_mixBlock_X0_extend
set_option maxRecDepth 20000 in
theorem ggX0_mixBlock_X0_mixRound : GoodIn wsX0_mixBlock wsX0_mixRound := goodIn_r _ [24, 2, 25, 12, 3, 4, 5, 6, 26, 27, 10, 28, 13, 14, 15, 16, 17, 18, 19, 20, 29, 30, 31, 32, 33, 34, 35, 36, 37, 38, 39, 40, 41, 42, 43] (by decide +kernel) (by decide +kernel)
set_option maxRecDepth 20000 in
theorem gX0_mixBlock_X0_mixRound : GoodIn wsX0_mixBlock (wsV RX0 42 RX0 yX0_mixRound wsX0_mixRound) := goodIn_app (goodIn_of _ (by decide +kernel)) ggX0_mixBlock_X0_mixRound
set_option maxRecDepth 20000 in
theorem ggX0_mixBlock_X2_addTo : GoodIn wsX0_mixBlock wsX2_addTo := goodIn_r _ [17, 18, 19, 14, 20] (by decide +kernel) (by decide +kernel)
set_option maxRecDepth 20000 in
theorem gX0_mixBlock_X2_addTo_n45 : GoodIn wsX0_mixBlock (wsX2_addTo) := ggX0_mixBlock_X2_addTo
theorem dX0_mixBlock_0 : decode cX0_mixBlock 0 = .ok (.bipush 32, 2) := by decide +kernel
theorem dX0_mixBlock_2 : decode cX0_mixBlock 2 = .ok (.istore_n 1, 1) := by decide +kernel
theorem dX0_mixBlock_3 : decode cX0_mixBlock 3 = .ok (.iload_n 1, 1) := by decide +kernel
theorem dX0_mixBlock_4 : decode cX0_mixBlock 4 = .ok (.sipush 160, 3) := by decide +kernel
theorem dX0_mixBlock_7 : decode cX0_mixBlock 7 = .ok (.if_icmp .ge 14, 3) := by decide +kernel
theorem dX0_mixBlock_10 : decode cX0_mixBlock 10 = .ok (.aload_n 0, 1) := by decide +kernel
theorem dX0_mixBlock_11 : decode cX0_mixBlock 11 = .ok (.iload_n 1, 1) := by decide +kernel
theorem dX0_mixBlock_12 : decode cX0_mixBlock 12 = .ok (.invokevirtual 39, 3) := by decide +kernel
theorem dX0_mixBlock_15 : decode cX0_mixBlock 15 = .ok (.iinc 1 2, 3) := by decide +kernel
theorem dX0_mixBlock_18 : decode cX0_mixBlock 18 = .ok (.goto (-15), 3) := by decide +kernel
theorem dX0_mixBlock_21 : decode cX0_mixBlock 21 = .ok (.aload_n 0, 1) := by decide +kernel
theorem dX0_mixBlock_22 : decode cX0_mixBlock 22 = .ok (.getfield 9, 3) := by decide +kernel
theorem dX0_mixBlock_25 : decode cX0_mixBlock 25 = .ok (.iconst 0, 1) := by decide +kernel
theorem dX0_mixBlock_26 : decode cX0_mixBlock 26 = .ok (.aload_n 0, 1) := by decide +kernel
theorem dX0_mixBlock_27 : decode cX0_mixBlock 27 = .ok (.getfield 13, 3) := by decide +kernel
theorem dX0_mixBlock_30 : decode cX0_mixBlock 30 = .ok (.iconst 0, 1) := by decide +kernel
theorem dX0_mixBlock_31 : decode cX0_mixBlock 31 = .ok (.bipush 16, 2) := by decide +kernel
theorem dX0_mixBlock_33 : decode cX0_mixBlock 33 = .ok (.invokestatic 26, 3) := by decide +kernel
theorem dX0_mixBlock_36 : decode cX0_mixBlock 36 = .ok (.iconst 0, 1) := by decide +kernel
theorem dX0_mixBlock_37 : decode cX0_mixBlock 37 = .ok (.istore_n 1, 1) := by decide +kernel
theorem dX0_mixBlock_38 : decode cX0_mixBlock 38 = .ok (.iload_n 1, 1) := by decide +kernel
theorem dX0_mixBlock_39 : decode cX0_mixBlock 39 = .ok (.sipush 160, 3) := by decide +kernel
theorem dX0_mixBlock_42 : decode cX0_mixBlock 42 = .ok (.if_icmp .ge 14, 3) := by decide +kernel
theorem dX0_mixBlock_45 : decode cX0_mixBlock 45 = .ok (.aload_n 0, 1) := by decide +kernel
theorem dX0_mixBlock_46 : decode cX0_mixBlock 46 = .ok (.iload_n 1, 1) := by decide +kernel
theorem dX0_mixBlock_47 : decode cX0_mixBlock 47 = .ok (.invokevirtual 42, 3) := by decide +kernel
theorem dX0_mixBlock_50 : decode cX0_mixBlock 50 = .ok (.iinc 1 2, 3) := by decide +kernel
theorem dX0_mixBlock_53 : decode cX0_mixBlock 53 = .ok (.goto (-15), 3) := by decide +kernel
theorem dX0_mixBlock_56 : decode cX0_mixBlock 56 = .ok (.iconst 0, 1) := by decide +kernel
theorem dX0_mixBlock_57 : decode cX0_mixBlock 57 = .ok (.istore_n 1, 1) := by decide +kernel
theorem dX0_mixBlock_58 : decode cX0_mixBlock 58 = .ok (.iload_n 1, 1) := by decide +kernel
theorem dX0_mixBlock_59 : decode cX0_mixBlock 59 = .ok (.bipush 16, 2) := by decide +kernel
theorem dX0_mixBlock_61 : decode cX0_mixBlock 61 = .ok (.if_icmp .ge 31, 3) := by decide +kernel
theorem dX0_mixBlock_64 : decode cX0_mixBlock 64 = .ok (.aload_n 0, 1) := by decide +kernel
theorem dX0_mixBlock_65 : decode cX0_mixBlock 65 = .ok (.getfield 9, 3) := by decide +kernel
theorem dX0_mixBlock_68 : decode cX0_mixBlock 68 = .ok (.iload_n 1, 1) := by decide +kernel
theorem dX0_mixBlock_69 : decode cX0_mixBlock 69 = .ok (.aload_n 0, 1) := by decide +kernel
theorem dX0_mixBlock_70 : decode cX0_mixBlock 70 = .ok (.getfield 13, 3) := by decide +kernel
theorem dX0_mixBlock_73 : decode cX0_mixBlock 73 = .ok (.iload_n 1, 1) := by decide +kernel
theorem dX0_mixBlock_74 : decode cX0_mixBlock 74 = .ok (.iaload, 1) := by decide +kernel
theorem dX0_mixBlock_75 : decode cX0_mixBlock 75 = .ok (.aload_n 0, 1) := by decide +kernel
theorem dX0_mixBlock_76 : decode cX0_mixBlock 76 = .ok (.getfield 13, 3) := by decide +kernel
theorem dX0_mixBlock_79 : decode cX0_mixBlock 79 = .ok (.iload_n 1, 1) := by decide +kernel
theorem dX0_mixBlock_80 : decode cX0_mixBlock 80 = .ok (.iconst 1, 1) := by decide +kernel
theorem dX0_mixBlock_81 : decode cX0_mixBlock 81 = .ok (.iadd, 1) := by decide +kernel
theorem dX0_mixBlock_82 : decode cX0_mixBlock 82 = .ok (.iaload, 1) := by decide +kernel
theorem dX0_mixBlock_83 : decode cX0_mixBlock 83 = .ok (.invokestatic 45, 3) := by decide +kernel
theorem dX0_mixBlock_86 : decode cX0_mixBlock 86 = .ok (.iinc 1 2, 3) := by decide +kernel
theorem dX0_mixBlock_89 : decode cX0_mixBlock 89 = .ok (.goto (-31), 3) := by decide +kernel
theorem dX0_mixBlock_92 : decode cX0_mixBlock 92 = .ok (.return_, 1) := by decide +kernel
set_option maxRecDepth 20000 in
theorem ggX0_extend_X2_turned : GoodIn wsX0_extend wsX2_turned := goodIn_r _ [4] (by decide +kernel) (by decide +kernel)
set_option maxRecDepth 20000 in
theorem gX0_extend_X2_turned_n51 : GoodIn wsX0_extend (wsX2_turned) := ggX0_extend_X2_turned
set_option maxRecDepth 20000 in
theorem ggX0_extend_X2_addTo : GoodIn wsX0_extend wsX2_addTo := goodIn_r _ [6, 7, 8, 3, 9] (by decide +kernel) (by decide +kernel)
set_option maxRecDepth 20000 in
theorem gX0_extend_X2_addTo_n45 : GoodIn wsX0_extend (wsX2_addTo) := ggX0_extend_X2_addTo
theorem dX0_extend_0 : decode cX0_extend 0 = .ok (.aload_n 0, 1) := by decide +kernel
theorem dX0_extend_1 : decode cX0_extend 1 = .ok (.getfield 16, 3) := by decide +kernel
theorem dX0_extend_4 : decode cX0_extend 4 = .ok (.iload_n 1, 1) := by decide +kernel
theorem dX0_extend_5 : decode cX0_extend 5 = .ok (.bipush 30, 2) := by decide +kernel
theorem dX0_extend_7 : decode cX0_extend 7 = .ok (.isub, 1) := by decide +kernel
theorem dX0_extend_8 : decode cX0_extend 8 = .ok (.iaload, 1) := by decide +kernel
theorem dX0_extend_9 : decode cX0_extend 9 = .ok (.istore_n 2, 1) := by decide +kernel
theorem dX0_extend_10 : decode cX0_extend 10 = .ok (.aload_n 0, 1) := by decide +kernel
theorem dX0_extend_11 : decode cX0_extend 11 = .ok (.getfield 16, 3) := by decide +kernel
theorem dX0_extend_14 : decode cX0_extend 14 = .ok (.iload_n 1, 1) := by decide +kernel
theorem dX0_extend_15 : decode cX0_extend 15 = .ok (.bipush 29, 2) := by decide +kernel
theorem dX0_extend_17 : decode cX0_extend 17 = .ok (.isub, 1) := by decide +kernel
theorem dX0_extend_18 : decode cX0_extend 18 = .ok (.iaload, 1) := by decide +kernel
theorem dX0_extend_19 : decode cX0_extend 19 = .ok (.istore_n 3, 1) := by decide +kernel
theorem dX0_extend_20 : decode cX0_extend 20 = .ok (.aload_n 0, 1) := by decide +kernel
theorem dX0_extend_21 : decode cX0_extend 21 = .ok (.getfield 16, 3) := by decide +kernel
theorem dX0_extend_24 : decode cX0_extend 24 = .ok (.iload_n 1, 1) := by decide +kernel
theorem dX0_extend_25 : decode cX0_extend 25 = .ok (.iconst 4, 1) := by decide +kernel
theorem dX0_extend_26 : decode cX0_extend 26 = .ok (.isub, 1) := by decide +kernel
theorem dX0_extend_27 : decode cX0_extend 27 = .ok (.iaload, 1) := by decide +kernel
theorem dX0_extend_28 : decode cX0_extend 28 = .ok (.istore 4, 2) := by decide +kernel
theorem dX0_extend_30 : decode cX0_extend 30 = .ok (.aload_n 0, 1) := by decide +kernel
theorem dX0_extend_31 : decode cX0_extend 31 = .ok (.getfield 16, 3) := by decide +kernel
theorem dX0_extend_34 : decode cX0_extend 34 = .ok (.iload_n 1, 1) := by decide +kernel
theorem dX0_extend_35 : decode cX0_extend 35 = .ok (.iconst 3, 1) := by decide +kernel
theorem dX0_extend_36 : decode cX0_extend 36 = .ok (.isub, 1) := by decide +kernel
theorem dX0_extend_37 : decode cX0_extend 37 = .ok (.iaload, 1) := by decide +kernel
theorem dX0_extend_38 : decode cX0_extend 38 = .ok (.istore 5, 2) := by decide +kernel
theorem dX0_extend_40 : decode cX0_extend 40 = .ok (.aload_n 0, 1) := by decide +kernel
theorem dX0_extend_41 : decode cX0_extend 41 = .ok (.getfield 16, 3) := by decide +kernel
theorem dX0_extend_44 : decode cX0_extend 44 = .ok (.iload_n 1, 1) := by decide +kernel
theorem dX0_extend_45 : decode cX0_extend 45 = .ok (.aload_n 0, 1) := by decide +kernel
theorem dX0_extend_46 : decode cX0_extend 46 = .ok (.getfield 16, 3) := by decide +kernel
theorem dX0_extend_49 : decode cX0_extend 49 = .ok (.iload_n 1, 1) := by decide +kernel
theorem dX0_extend_50 : decode cX0_extend 50 = .ok (.bipush 32, 2) := by decide +kernel
theorem dX0_extend_52 : decode cX0_extend 52 = .ok (.isub, 1) := by decide +kernel
theorem dX0_extend_53 : decode cX0_extend 53 = .ok (.iaload, 1) := by decide +kernel
theorem dX0_extend_54 : decode cX0_extend 54 = .ok (.iastore, 1) := by decide +kernel
theorem dX0_extend_55 : decode cX0_extend 55 = .ok (.aload_n 0, 1) := by decide +kernel
theorem dX0_extend_56 : decode cX0_extend 56 = .ok (.getfield 16, 3) := by decide +kernel
theorem dX0_extend_59 : decode cX0_extend 59 = .ok (.iload_n 1, 1) := by decide +kernel
theorem dX0_extend_60 : decode cX0_extend 60 = .ok (.iconst 1, 1) := by decide +kernel
theorem dX0_extend_61 : decode cX0_extend 61 = .ok (.iadd, 1) := by decide +kernel
theorem dX0_extend_62 : decode cX0_extend 62 = .ok (.aload_n 0, 1) := by decide +kernel
theorem dX0_extend_63 : decode cX0_extend 63 = .ok (.getfield 16, 3) := by decide +kernel
theorem dX0_extend_66 : decode cX0_extend 66 = .ok (.iload_n 1, 1) := by decide +kernel
theorem dX0_extend_67 : decode cX0_extend 67 = .ok (.bipush 31, 2) := by decide +kernel
theorem dX0_extend_69 : decode cX0_extend 69 = .ok (.isub, 1) := by decide +kernel
theorem dX0_extend_70 : decode cX0_extend 70 = .ok (.iaload, 1) := by decide +kernel
theorem dX0_extend_71 : decode cX0_extend 71 = .ok (.iastore, 1) := by decide +kernel
theorem dX0_extend_72 : decode cX0_extend 72 = .ok (.aload_n 0, 1) := by decide +kernel
theorem dX0_extend_73 : decode cX0_extend 73 = .ok (.getfield 16, 3) := by decide +kernel
theorem dX0_extend_76 : decode cX0_extend 76 = .ok (.iload_n 1, 1) := by decide +kernel
theorem dX0_extend_77 : decode cX0_extend 77 = .ok (.iload_n 2, 1) := by decide +kernel
theorem dX0_extend_78 : decode cX0_extend 78 = .ok (.iload_n 3, 1) := by decide +kernel
theorem dX0_extend_79 : decode cX0_extend 79 = .ok (.iconst 1, 1) := by decide +kernel
theorem dX0_extend_80 : decode cX0_extend 80 = .ok (.invokestatic 51, 3) := by decide +kernel
theorem dX0_extend_83 : decode cX0_extend 83 = .ok (.iload_n 2, 1) := by decide +kernel
theorem dX0_extend_84 : decode cX0_extend 84 = .ok (.iload_n 3, 1) := by decide +kernel
theorem dX0_extend_85 : decode cX0_extend 85 = .ok (.bipush 8, 2) := by decide +kernel
theorem dX0_extend_87 : decode cX0_extend 87 = .ok (.invokestatic 51, 3) := by decide +kernel
theorem dX0_extend_90 : decode cX0_extend 90 = .ok (.ixor, 1) := by decide +kernel
theorem dX0_extend_91 : decode cX0_extend 91 = .ok (.iload_n 2, 1) := by decide +kernel
theorem dX0_extend_92 : decode cX0_extend 92 = .ok (.bipush 7, 2) := by decide +kernel
theorem dX0_extend_94 : decode cX0_extend 94 = .ok (.iushr, 1) := by decide +kernel
theorem dX0_extend_95 : decode cX0_extend 95 = .ok (.ixor, 1) := by decide +kernel
theorem dX0_extend_96 : decode cX0_extend 96 = .ok (.iload_n 3, 1) := by decide +kernel
theorem dX0_extend_97 : decode cX0_extend 97 = .ok (.iload_n 2, 1) := by decide +kernel
theorem dX0_extend_98 : decode cX0_extend 98 = .ok (.iconst 1, 1) := by decide +kernel
theorem dX0_extend_99 : decode cX0_extend 99 = .ok (.invokestatic 51, 3) := by decide +kernel
theorem dX0_extend_102 : decode cX0_extend 102 = .ok (.iload_n 3, 1) := by decide +kernel
theorem dX0_extend_103 : decode cX0_extend 103 = .ok (.iload_n 2, 1) := by decide +kernel
theorem dX0_extend_104 : decode cX0_extend 104 = .ok (.bipush 8, 2) := by decide +kernel
theorem dX0_extend_106 : decode cX0_extend 106 = .ok (.invokestatic 51, 3) := by decide +kernel
theorem dX0_extend_109 : decode cX0_extend 109 = .ok (.ixor, 1) := by decide +kernel
theorem dX0_extend_110 : decode cX0_extend 110 = .ok (.iload_n 3, 1) := by decide +kernel
theorem dX0_extend_111 : decode cX0_extend 111 = .ok (.iload_n 2, 1) := by decide +kernel
theorem dX0_extend_112 : decode cX0_extend 112 = .ok (.bipush 7, 2) := by decide +kernel
theorem dX0_extend_114 : decode cX0_extend 114 = .ok (.invokestatic 51, 3) := by decide +kernel
theorem dX0_extend_117 : decode cX0_extend 117 = .ok (.ixor, 1) := by decide +kernel
theorem dX0_extend_118 : decode cX0_extend 118 = .ok (.invokestatic 45, 3) := by decide +kernel
theorem dX0_extend_121 : decode cX0_extend 121 = .ok (.aload_n 0, 1) := by decide +kernel
theorem dX0_extend_122 : decode cX0_extend 122 = .ok (.getfield 16, 3) := by decide +kernel
theorem dX0_extend_125 : decode cX0_extend 125 = .ok (.iload_n 1, 1) := by decide +kernel
theorem dX0_extend_126 : decode cX0_extend 126 = .ok (.aload_n 0, 1) := by decide +kernel
theorem dX0_extend_127 : decode cX0_extend 127 = .ok (.getfield 16, 3) := by decide +kernel
theorem dX0_extend_130 : decode cX0_extend 130 = .ok (.iload_n 1, 1) := by decide +kernel
theorem dX0_extend_131 : decode cX0_extend 131 = .ok (.bipush 14, 2) := by decide +kernel
theorem dX0_extend_133 : decode cX0_extend 133 = .ok (.isub, 1) := by decide +kernel
theorem dX0_extend_134 : decode cX0_extend 134 = .ok (.iaload, 1) := by decide +kernel
theorem dX0_extend_135 : decode cX0_extend 135 = .ok (.aload_n 0, 1) := by decide +kernel
theorem dX0_extend_136 : decode cX0_extend 136 = .ok (.getfield 16, 3) := by decide +kernel
theorem dX0_extend_139 : decode cX0_extend 139 = .ok (.iload_n 1, 1) := by decide +kernel
theorem dX0_extend_140 : decode cX0_extend 140 = .ok (.bipush 13, 2) := by decide +kernel
theorem dX0_extend_142 : decode cX0_extend 142 = .ok (.isub, 1) := by decide +kernel
theorem dX0_extend_143 : decode cX0_extend 143 = .ok (.iaload, 1) := by decide +kernel
theorem dX0_extend_144 : decode cX0_extend 144 = .ok (.invokestatic 45, 3) := by decide +kernel
theorem dX0_extend_147 : decode cX0_extend 147 = .ok (.aload_n 0, 1) := by decide +kernel
theorem dX0_extend_148 : decode cX0_extend 148 = .ok (.getfield 16, 3) := by decide +kernel
theorem dX0_extend_151 : decode cX0_extend 151 = .ok (.iload_n 1, 1) := by decide +kernel
theorem dX0_extend_152 : decode cX0_extend 152 = .ok (.iload 4, 2) := by decide +kernel
theorem dX0_extend_154 : decode cX0_extend 154 = .ok (.iload 5, 2) := by decide +kernel
theorem dX0_extend_156 : decode cX0_extend 156 = .ok (.bipush 19, 2) := by decide +kernel
theorem dX0_extend_158 : decode cX0_extend 158 = .ok (.invokestatic 51, 3) := by decide +kernel
theorem dX0_extend_161 : decode cX0_extend 161 = .ok (.iload 4, 2) := by decide +kernel
theorem dX0_extend_163 : decode cX0_extend 163 = .ok (.iload 5, 2) := by decide +kernel
theorem dX0_extend_165 : decode cX0_extend 165 = .ok (.bipush 61, 2) := by decide +kernel
theorem dX0_extend_167 : decode cX0_extend 167 = .ok (.invokestatic 51, 3) := by decide +kernel
theorem dX0_extend_170 : decode cX0_extend 170 = .ok (.ixor, 1) := by decide +kernel
theorem dX0_extend_171 : decode cX0_extend 171 = .ok (.iload 4, 2) := by decide +kernel
theorem dX0_extend_173 : decode cX0_extend 173 = .ok (.bipush 6, 2) := by decide +kernel
theorem dX0_extend_175 : decode cX0_extend 175 = .ok (.iushr, 1) := by decide +kernel
theorem dX0_extend_176 : decode cX0_extend 176 = .ok (.ixor, 1) := by decide +kernel
theorem dX0_extend_177 : decode cX0_extend 177 = .ok (.iload 5, 2) := by decide +kernel
theorem dX0_extend_179 : decode cX0_extend 179 = .ok (.iload 4, 2) := by decide +kernel
theorem dX0_extend_181 : decode cX0_extend 181 = .ok (.bipush 19, 2) := by decide +kernel
theorem dX0_extend_183 : decode cX0_extend 183 = .ok (.invokestatic 51, 3) := by decide +kernel
theorem dX0_extend_186 : decode cX0_extend 186 = .ok (.iload 5, 2) := by decide +kernel
theorem dX0_extend_188 : decode cX0_extend 188 = .ok (.iload 4, 2) := by decide +kernel
theorem dX0_extend_190 : decode cX0_extend 190 = .ok (.bipush 61, 2) := by decide +kernel
theorem dX0_extend_192 : decode cX0_extend 192 = .ok (.invokestatic 51, 3) := by decide +kernel
theorem dX0_extend_195 : decode cX0_extend 195 = .ok (.ixor, 1) := by decide +kernel
theorem dX0_extend_196 : decode cX0_extend 196 = .ok (.iload 5, 2) := by decide +kernel
theorem dX0_extend_198 : decode cX0_extend 198 = .ok (.iload 4, 2) := by decide +kernel
theorem dX0_extend_200 : decode cX0_extend 200 = .ok (.bipush 6, 2) := by decide +kernel
theorem dX0_extend_202 : decode cX0_extend 202 = .ok (.invokestatic 51, 3) := by decide +kernel
theorem dX0_extend_205 : decode cX0_extend 205 = .ok (.ixor, 1) := by decide +kernel
theorem dX0_extend_206 : decode cX0_extend 206 = .ok (.invokestatic 45, 3) := by decide +kernel
theorem dX0_extend_209 : decode cX0_extend 209 = .ok (.return_, 1) := by decide +kernel
set_option maxRecDepth 20000 in
theorem ggX0_mixRound_X0_turnsOfE : GoodIn wsX0_mixRound wsX0_turnsOfE := goodIn_r _ [11, 12, 13, 14] (by decide +kernel) (by decide +kernel)
set_option maxRecDepth 20000 in
theorem gX0_mixRound_X0_turnsOfE : GoodIn wsX0_mixRound (va_wsS RX0 55 yX0_turnsOfE wsX0_turnsOfE) := goodIn_app (goodIn_of _ (by decide +kernel)) ggX0_mixRound_X0_turnsOfE
set_option maxRecDepth 20000 in
theorem ggX0_mixRound_X2_addTo : GoodIn wsX0_mixRound wsX2_addTo := goodIn_r _ [16, 17, 18, 13, 19] (by decide +kernel) (by decide +kernel)
set_option maxRecDepth 20000 in
theorem gX0_mixRound_X2_addTo_n45 : GoodIn wsX0_mixRound (wsX2_addTo) := ggX0_mixRound_X2_addTo
set_option maxRecDepth 20000 in
theorem ggX0_mixRound_X0_chosen : GoodIn wsX0_mixRound wsX0_chosen := goodIn_r _ [23, 1, 31, 32, 33, 34] (by decide +kernel) (by decide +kernel)
set_option maxRecDepth 20000 in
theorem gX0_mixRound_X0_chosen : GoodIn wsX0_mixRound (wsV RX0 59 RX0 yX0_chosen wsX0_chosen) := goodIn_app (goodIn_of _ (by decide +kernel)) ggX0_mixRound_X0_chosen
set_option maxRecDepth 20000 in
theorem ggX0_mixRound_X0_majority : GoodIn wsX0_mixRound wsX0_majority := goodIn_r _ [27, 1, 31, 32, 33, 34] (by decide +kernel) (by decide +kernel)
set_option maxRecDepth 20000 in
theorem gX0_mixRound_X0_majority : GoodIn wsX0_mixRound (wsV RX0 66 RX0 yX0_majority wsX0_majority) := goodIn_app (goodIn_of _ (by decide +kernel)) ggX0_mixRound_X0_majority
set_option maxRecDepth 20000 in
theorem ggX0_mixRound_X0_turnsOfA : GoodIn wsX0_mixRound wsX0_turnsOfA := goodIn_r _ [30, 12, 13, 14] (by decide +kernel) (by decide +kernel)
set_option maxRecDepth 20000 in
theorem gX0_mixRound_X0_turnsOfA : GoodIn wsX0_mixRound (va_wsS RX0 69 yX0_turnsOfA wsX0_turnsOfA) := goodIn_app (goodIn_of _ (by decide +kernel)) ggX0_mixRound_X0_turnsOfA
theorem dX0_mixRound_0 : decode cX0_mixRound 0 = .ok (.aload_n 0, 1) := by decide +kernel
theorem dX0_mixRound_1 : decode cX0_mixRound 1 = .ok (.getfield 13, 3) := by decide +kernel
theorem dX0_mixRound_4 : decode cX0_mixRound 4 = .ok (.bipush 14, 2) := by decide +kernel
theorem dX0_mixRound_6 : decode cX0_mixRound 6 = .ok (.aload_n 0, 1) := by decide +kernel
theorem dX0_mixRound_7 : decode cX0_mixRound 7 = .ok (.getfield 13, 3) := by decide +kernel
theorem dX0_mixRound_10 : decode cX0_mixRound 10 = .ok (.bipush 8, 2) := by decide +kernel
theorem dX0_mixRound_12 : decode cX0_mixRound 12 = .ok (.iaload, 1) := by decide +kernel
theorem dX0_mixRound_13 : decode cX0_mixRound 13 = .ok (.aload_n 0, 1) := by decide +kernel
theorem dX0_mixRound_14 : decode cX0_mixRound 14 = .ok (.getfield 13, 3) := by decide +kernel
theorem dX0_mixRound_17 : decode cX0_mixRound 17 = .ok (.bipush 9, 2) := by decide +kernel
theorem dX0_mixRound_19 : decode cX0_mixRound 19 = .ok (.iaload, 1) := by decide +kernel
theorem dX0_mixRound_20 : decode cX0_mixRound 20 = .ok (.invokestatic 55, 3) := by decide +kernel
theorem dX0_mixRound_23 : decode cX0_mixRound 23 = .ok (.aload_n 0, 1) := by decide +kernel
theorem dX0_mixRound_24 : decode cX0_mixRound 24 = .ok (.getfield 13, 3) := by decide +kernel
theorem dX0_mixRound_27 : decode cX0_mixRound 27 = .ok (.bipush 9, 2) := by decide +kernel
theorem dX0_mixRound_29 : decode cX0_mixRound 29 = .ok (.iaload, 1) := by decide +kernel
theorem dX0_mixRound_30 : decode cX0_mixRound 30 = .ok (.aload_n 0, 1) := by decide +kernel
theorem dX0_mixRound_31 : decode cX0_mixRound 31 = .ok (.getfield 13, 3) := by decide +kernel
theorem dX0_mixRound_34 : decode cX0_mixRound 34 = .ok (.bipush 8, 2) := by decide +kernel
theorem dX0_mixRound_36 : decode cX0_mixRound 36 = .ok (.iaload, 1) := by decide +kernel
theorem dX0_mixRound_37 : decode cX0_mixRound 37 = .ok (.invokestatic 55, 3) := by decide +kernel
theorem dX0_mixRound_40 : decode cX0_mixRound 40 = .ok (.invokestatic 45, 3) := by decide +kernel
theorem dX0_mixRound_43 : decode cX0_mixRound 43 = .ok (.aload_n 0, 1) := by decide +kernel
theorem dX0_mixRound_44 : decode cX0_mixRound 44 = .ok (.getfield 13, 3) := by decide +kernel
theorem dX0_mixRound_47 : decode cX0_mixRound 47 = .ok (.bipush 14, 2) := by decide +kernel
theorem dX0_mixRound_49 : decode cX0_mixRound 49 = .ok (.aload_n 0, 1) := by decide +kernel
theorem dX0_mixRound_50 : decode cX0_mixRound 50 = .ok (.iconst 0, 1) := by decide +kernel
theorem dX0_mixRound_51 : decode cX0_mixRound 51 = .ok (.invokevirtual 59, 3) := by decide +kernel
theorem dX0_mixRound_54 : decode cX0_mixRound 54 = .ok (.aload_n 0, 1) := by decide +kernel
theorem dX0_mixRound_55 : decode cX0_mixRound 55 = .ok (.iconst 1, 1) := by decide +kernel
theorem dX0_mixRound_56 : decode cX0_mixRound 56 = .ok (.invokevirtual 59, 3) := by decide +kernel
theorem dX0_mixRound_59 : decode cX0_mixRound 59 = .ok (.invokestatic 45, 3) := by decide +kernel
theorem dX0_mixRound_62 : decode cX0_mixRound 62 = .ok (.aload_n 0, 1) := by decide +kernel
theorem dX0_mixRound_63 : decode cX0_mixRound 63 = .ok (.getfield 13, 3) := by decide +kernel
theorem dX0_mixRound_66 : decode cX0_mixRound 66 = .ok (.bipush 14, 2) := by decide +kernel
theorem dX0_mixRound_68 : decode cX0_mixRound 68 = .ok (.getstatic 63, 3) := by decide +kernel
theorem dX0_mixRound_71 : decode cX0_mixRound 71 = .ok (.iload_n 1, 1) := by decide +kernel
theorem dX0_mixRound_72 : decode cX0_mixRound 72 = .ok (.iaload, 1) := by decide +kernel
theorem dX0_mixRound_73 : decode cX0_mixRound 73 = .ok (.getstatic 63, 3) := by decide +kernel
theorem dX0_mixRound_76 : decode cX0_mixRound 76 = .ok (.iload_n 1, 1) := by decide +kernel
theorem dX0_mixRound_77 : decode cX0_mixRound 77 = .ok (.iconst 1, 1) := by decide +kernel
theorem dX0_mixRound_78 : decode cX0_mixRound 78 = .ok (.iadd, 1) := by decide +kernel
theorem dX0_mixRound_79 : decode cX0_mixRound 79 = .ok (.iaload, 1) := by decide +kernel
theorem dX0_mixRound_80 : decode cX0_mixRound 80 = .ok (.invokestatic 45, 3) := by decide +kernel
theorem dX0_mixRound_83 : decode cX0_mixRound 83 = .ok (.aload_n 0, 1) := by decide +kernel
theorem dX0_mixRound_84 : decode cX0_mixRound 84 = .ok (.getfield 13, 3) := by decide +kernel
theorem dX0_mixRound_87 : decode cX0_mixRound 87 = .ok (.bipush 14, 2) := by decide +kernel
theorem dX0_mixRound_89 : decode cX0_mixRound 89 = .ok (.aload_n 0, 1) := by decide +kernel
theorem dX0_mixRound_90 : decode cX0_mixRound 90 = .ok (.getfield 16, 3) := by decide +kernel
theorem dX0_mixRound_93 : decode cX0_mixRound 93 = .ok (.iload_n 1, 1) := by decide +kernel
theorem dX0_mixRound_94 : decode cX0_mixRound 94 = .ok (.iaload, 1) := by decide +kernel
theorem dX0_mixRound_95 : decode cX0_mixRound 95 = .ok (.aload_n 0, 1) := by decide +kernel
theorem dX0_mixRound_96 : decode cX0_mixRound 96 = .ok (.getfield 16, 3) := by decide +kernel
theorem dX0_mixRound_99 : decode cX0_mixRound 99 = .ok (.iload_n 1, 1) := by decide +kernel
theorem dX0_mixRound_100 : decode cX0_mixRound 100 = .ok (.iconst 1, 1) := by decide +kernel
theorem dX0_mixRound_101 : decode cX0_mixRound 101 = .ok (.iadd, 1) := by decide +kernel
theorem dX0_mixRound_102 : decode cX0_mixRound 102 = .ok (.iaload, 1) := by decide +kernel
theorem dX0_mixRound_103 : decode cX0_mixRound 103 = .ok (.invokestatic 45, 3) := by decide +kernel
theorem dX0_mixRound_106 : decode cX0_mixRound 106 = .ok (.aload_n 0, 1) := by decide +kernel
theorem dX0_mixRound_107 : decode cX0_mixRound 107 = .ok (.getfield 13, 3) := by decide +kernel
theorem dX0_mixRound_110 : decode cX0_mixRound 110 = .ok (.bipush 14, 2) := by decide +kernel
theorem dX0_mixRound_112 : decode cX0_mixRound 112 = .ok (.iaload, 1) := by decide +kernel
theorem dX0_mixRound_113 : decode cX0_mixRound 113 = .ok (.istore_n 2, 1) := by decide +kernel
theorem dX0_mixRound_114 : decode cX0_mixRound 114 = .ok (.aload_n 0, 1) := by decide +kernel
theorem dX0_mixRound_115 : decode cX0_mixRound 115 = .ok (.getfield 13, 3) := by decide +kernel
theorem dX0_mixRound_118 : decode cX0_mixRound 118 = .ok (.bipush 15, 2) := by decide +kernel
theorem dX0_mixRound_120 : decode cX0_mixRound 120 = .ok (.iaload, 1) := by decide +kernel
theorem dX0_mixRound_121 : decode cX0_mixRound 121 = .ok (.istore_n 3, 1) := by decide +kernel
theorem dX0_mixRound_122 : decode cX0_mixRound 122 = .ok (.aload_n 0, 1) := by decide +kernel
theorem dX0_mixRound_123 : decode cX0_mixRound 123 = .ok (.iconst 0, 1) := by decide +kernel
theorem dX0_mixRound_124 : decode cX0_mixRound 124 = .ok (.invokevirtual 66, 3) := by decide +kernel
theorem dX0_mixRound_127 : decode cX0_mixRound 127 = .ok (.istore 4, 2) := by decide +kernel

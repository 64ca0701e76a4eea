theorem dX1_mixPair_0 : decode cX1_mixPair 0 = .ok (.aload_n 0, 1) := by decide +kernel
theorem dX1_mixPair_1 : decode cX1_mixPair 1 = .ok (.getfield 7, 3) := by decide +kernel
theorem dX1_mixPair_4 : decode cX1_mixPair 4 = .ok (.iload_n 1, 1) := by decide +kernel
theorem dX1_mixPair_5 : decode cX1_mixPair 5 = .ok (.aload_n 0, 1) := by decide +kernel
theorem dX1_mixPair_6 : decode cX1_mixPair 6 = .ok (.getfield 7, 3) := by decide +kernel
theorem dX1_mixPair_9 : decode cX1_mixPair 9 = .ok (.iload_n 2, 1) := by decide +kernel
theorem dX1_mixPair_10 : decode cX1_mixPair 10 = .ok (.iaload, 1) := by decide +kernel
theorem dX1_mixPair_11 : decode cX1_mixPair 11 = .ok (.aload_n 0, 1) := by decide +kernel
theorem dX1_mixPair_12 : decode cX1_mixPair 12 = .ok (.getfield 7, 3) := by decide +kernel
theorem dX1_mixPair_15 : decode cX1_mixPair 15 = .ok (.iload_n 2, 1) := by decide +kernel
theorem dX1_mixPair_16 : decode cX1_mixPair 16 = .ok (.iconst 1, 1) := by decide +kernel
theorem dX1_mixPair_17 : decode cX1_mixPair 17 = .ok (.iadd, 1) := by decide +kernel
theorem dX1_mixPair_18 : decode cX1_mixPair 18 = .ok (.iaload, 1) := by decide +kernel
theorem dX1_mixPair_19 : decode cX1_mixPair 19 = .ok (.invokestatic 50, 3) := by decide +kernel
theorem dX1_mixPair_22 : decode cX1_mixPair 22 = .ok (.aload_n 0, 1) := by decide +kernel
theorem dX1_mixPair_23 : decode cX1_mixPair 23 = .ok (.iload_n 2, 1) := by decide +kernel
theorem dX1_mixPair_24 : decode cX1_mixPair 24 = .ok (.iload_n 3, 1) := by decide +kernel
theorem dX1_mixPair_25 : decode cX1_mixPair 25 = .ok (.invokevirtual 46, 3) := by decide +kernel
theorem dX1_mixPair_28 : decode cX1_mixPair 28 = .ok (.aload_n 0, 1) := by decide +kernel
theorem dX1_mixPair_29 : decode cX1_mixPair 29 = .ok (.getfield 7, 3) := by decide +kernel
theorem dX1_mixPair_32 : decode cX1_mixPair 32 = .ok (.iload_n 2, 1) := by decide +kernel
theorem dX1_mixPair_33 : decode cX1_mixPair 33 = .ok (.dup2, 1) := by decide +kernel
theorem dX1_mixPair_34 : decode cX1_mixPair 34 = .ok (.iaload, 1) := by decide +kernel
theorem dX1_mixPair_35 : decode cX1_mixPair 35 = .ok (.aload_n 0, 1) := by decide +kernel
theorem dX1_mixPair_36 : decode cX1_mixPair 36 = .ok (.getfield 7, 3) := by decide +kernel
theorem dX1_mixPair_39 : decode cX1_mixPair 39 = .ok (.iload_n 1, 1) := by decide +kernel
theorem dX1_mixPair_40 : decode cX1_mixPair 40 = .ok (.iaload, 1) := by decide +kernel
theorem dX1_mixPair_41 : decode cX1_mixPair 41 = .ok (.ixor, 1) := by decide +kernel
theorem dX1_mixPair_42 : decode cX1_mixPair 42 = .ok (.iastore, 1) := by decide +kernel
theorem dX1_mixPair_43 : decode cX1_mixPair 43 = .ok (.aload_n 0, 1) := by decide +kernel
theorem dX1_mixPair_44 : decode cX1_mixPair 44 = .ok (.getfield 7, 3) := by decide +kernel
theorem dX1_mixPair_47 : decode cX1_mixPair 47 = .ok (.iload_n 2, 1) := by decide +kernel
theorem dX1_mixPair_48 : decode cX1_mixPair 48 = .ok (.iconst 1, 1) := by decide +kernel
theorem dX1_mixPair_49 : decode cX1_mixPair 49 = .ok (.iadd, 1) := by decide +kernel
theorem dX1_mixPair_50 : decode cX1_mixPair 50 = .ok (.dup2, 1) := by decide +kernel
theorem dX1_mixPair_51 : decode cX1_mixPair 51 = .ok (.iaload, 1) := by decide +kernel
theorem dX1_mixPair_52 : decode cX1_mixPair 52 = .ok (.aload_n 0, 1) := by decide +kernel
theorem dX1_mixPair_53 : decode cX1_mixPair 53 = .ok (.getfield 7, 3) := by decide +kernel
theorem dX1_mixPair_56 : decode cX1_mixPair 56 = .ok (.iload_n 1, 1) := by decide +kernel
theorem dX1_mixPair_57 : decode cX1_mixPair 57 = .ok (.iconst 1, 1) := by decide +kernel
theorem dX1_mixPair_58 : decode cX1_mixPair 58 = .ok (.iadd, 1) := by decide +kernel
theorem dX1_mixPair_59 : decode cX1_mixPair 59 = .ok (.iaload, 1) := by decide +kernel
theorem dX1_mixPair_60 : decode cX1_mixPair 60 = .ok (.ixor, 1) := by decide +kernel
theorem dX1_mixPair_61 : decode cX1_mixPair 61 = .ok (.iastore, 1) := by decide +kernel
theorem dX1_mixPair_62 : decode cX1_mixPair 62 = .ok (.return_, 1) := by decide +kernel
set_option maxRecDepth 20000 in
theorem ggX1_turnLeft_X2_turned : GoodIn wsX1_turnLeft wsX2_turned := goodIn_r _ [4] (by decide +kernel) (by decide +kernel)
set_option maxRecDepth 20000 in
theorem gX1_turnLeft_X2_turned_n26 : GoodIn wsX1_turnLeft (wsX2_turned) := ggX1_turnLeft_X2_turned
theorem dX1_turnLeft_0 : decode cX1_turnLeft 0 = .ok (.aload_n 0, 1) := by decide +kernel
theorem dX1_turnLeft_1 : decode cX1_turnLeft 1 = .ok (.getfield 7, 3) := by decide +kernel
theorem dX1_turnLeft_4 : decode cX1_turnLeft 4 = .ok (.iload_n 1, 1) := by decide +kernel
theorem dX1_turnLeft_5 : decode cX1_turnLeft 5 = .ok (.iaload, 1) := by decide +kernel
theorem dX1_turnLeft_6 : decode cX1_turnLeft 6 = .ok (.istore_n 3, 1) := by decide +kernel
theorem dX1_turnLeft_7 : decode cX1_turnLeft 7 = .ok (.aload_n 0, 1) := by decide +kernel
theorem dX1_turnLeft_8 : decode cX1_turnLeft 8 = .ok (.getfield 7, 3) := by decide +kernel
theorem dX1_turnLeft_11 : decode cX1_turnLeft 11 = .ok (.iload_n 1, 1) := by decide +kernel
theorem dX1_turnLeft_12 : decode cX1_turnLeft 12 = .ok (.iconst 1, 1) := by decide +kernel
theorem dX1_turnLeft_13 : decode cX1_turnLeft 13 = .ok (.iadd, 1) := by decide +kernel
theorem dX1_turnLeft_14 : decode cX1_turnLeft 14 = .ok (.iaload, 1) := by decide +kernel
theorem dX1_turnLeft_15 : decode cX1_turnLeft 15 = .ok (.istore 4, 2) := by decide +kernel
theorem dX1_turnLeft_17 : decode cX1_turnLeft 17 = .ok (.aload_n 0, 1) := by decide +kernel
theorem dX1_turnLeft_18 : decode cX1_turnLeft 18 = .ok (.getfield 7, 3) := by decide +kernel
theorem dX1_turnLeft_21 : decode cX1_turnLeft 21 = .ok (.iload_n 1, 1) := by decide +kernel
theorem dX1_turnLeft_22 : decode cX1_turnLeft 22 = .ok (.iload_n 3, 1) := by decide +kernel
theorem dX1_turnLeft_23 : decode cX1_turnLeft 23 = .ok (.iload 4, 2) := by decide +kernel
theorem dX1_turnLeft_25 : decode cX1_turnLeft 25 = .ok (.iload_n 2, 1) := by decide +kernel
theorem dX1_turnLeft_26 : decode cX1_turnLeft 26 = .ok (.ineg, 1) := by decide +kernel
theorem dX1_turnLeft_27 : decode cX1_turnLeft 27 = .ok (.invokestatic 26, 3) := by decide +kernel
theorem dX1_turnLeft_30 : decode cX1_turnLeft 30 = .ok (.iastore, 1) := by decide +kernel
theorem dX1_turnLeft_31 : decode cX1_turnLeft 31 = .ok (.aload_n 0, 1) := by decide +kernel
theorem dX1_turnLeft_32 : decode cX1_turnLeft 32 = .ok (.getfield 7, 3) := by decide +kernel
theorem dX1_turnLeft_35 : decode cX1_turnLeft 35 = .ok (.iload_n 1, 1) := by decide +kernel
theorem dX1_turnLeft_36 : decode cX1_turnLeft 36 = .ok (.iconst 1, 1) := by decide +kernel
theorem dX1_turnLeft_37 : decode cX1_turnLeft 37 = .ok (.iadd, 1) := by decide +kernel
theorem dX1_turnLeft_38 : decode cX1_turnLeft 38 = .ok (.iload 4, 2) := by decide +kernel
theorem dX1_turnLeft_40 : decode cX1_turnLeft 40 = .ok (.iload_n 3, 1) := by decide +kernel
theorem dX1_turnLeft_41 : decode cX1_turnLeft 41 = .ok (.iload_n 2, 1) := by decide +kernel
theorem dX1_turnLeft_42 : decode cX1_turnLeft 42 = .ok (.ineg, 1) := by decide +kernel
theorem dX1_turnLeft_43 : decode cX1_turnLeft 43 = .ok (.invokestatic 26, 3) := by decide +kernel
theorem dX1_turnLeft_46 : decode cX1_turnLeft 46 = .ok (.iastore, 1) := by decide +kernel
theorem dX1_turnLeft_47 : decode cX1_turnLeft 47 = .ok (.return_, 1) := by decide +kernel
set_option maxRecDepth 20000 in
theorem ggX2_init_X0_init : GoodIn wsX2_init wsX0_init := goodIn_r _ [19, 20, 2, 3, 12, 21, 22, 23, 24, 32, 33, 34, 35] (by decide +kernel) (by decide +kernel)
set_option maxRecDepth 20000 in
theorem gX2_init_X0_init_n9 : GoodIn wsX2_init (wsX0_init) := ggX2_init_X0_init
set_option maxRecDepth 20000 in
theorem ggX2_init_X1_init : GoodIn wsX2_init wsX1_init := goodIn_r _ [26, 27, 2, 3, 12, 28, 29, 30, 31, 43, 44, 45, 46] (by decide +kernel) (by decide +kernel)
set_option maxRecDepth 20000 in
theorem gX2_init_X1_init_n18 : GoodIn wsX2_init (wsX1_init) := ggX2_init_X1_init
theorem dX2_init_0 : decode cX2_init 0 = .ok (.aload_n 0, 1) := by decide +kernel
theorem dX2_init_1 : decode cX2_init 1 = .ok (.invokespecial 1, 3) := by decide +kernel
theorem dX2_init_4 : decode cX2_init 4 = .ok (.aload_n 0, 1) := by decide +kernel
theorem dX2_init_5 : decode cX2_init 5 = .ok (.new 7, 3) := by decide +kernel
theorem dX2_init_8 : decode cX2_init 8 = .ok (.dup, 1) := by decide +kernel
theorem dX2_init_9 : decode cX2_init 9 = .ok (.invokespecial 9, 3) := by decide +kernel
theorem dX2_init_12 : decode cX2_init 12 = .ok (.putfield 10, 3) := by decide +kernel
theorem dX2_init_15 : decode cX2_init 15 = .ok (.aload_n 0, 1) := by decide +kernel
theorem dX2_init_16 : decode cX2_init 16 = .ok (.new 16, 3) := by decide +kernel
theorem dX2_init_19 : decode cX2_init 19 = .ok (.dup, 1) := by decide +kernel
theorem dX2_init_20 : decode cX2_init 20 = .ok (.invokespecial 18, 3) := by decide +kernel
theorem dX2_init_23 : decode cX2_init 23 = .ok (.putfield 19, 3) := by decide +kernel
theorem dX2_init_26 : decode cX2_init 26 = .ok (.aload_n 0, 1) := by decide +kernel
theorem dX2_init_27 : decode cX2_init 27 = .ok (.iconst 4, 1) := by decide +kernel
theorem dX2_init_28 : decode cX2_init 28 = .ok (.newarray .int, 2) := by decide +kernel
theorem dX2_init_30 : decode cX2_init 30 = .ok (.putfield 23, 3) := by decide +kernel
theorem dX2_init_33 : decode cX2_init 33 = .ok (.aload_n 0, 1) := by decide +kernel
theorem dX2_init_34 : decode cX2_init 34 = .ok (.iconst 0, 1) := by decide +kernel
theorem dX2_init_35 : decode cX2_init 35 = .ok (.putfield 27, 3) := by decide +kernel
theorem dX2_init_38 : decode cX2_init 38 = .ok (.aload_n 0, 1) := by decide +kernel
theorem dX2_init_39 : decode cX2_init 39 = .ok (.iconst 0, 1) := by decide +kernel
theorem dX2_init_40 : decode cX2_init 40 = .ok (.putfield 31, 3) := by decide +kernel
theorem dX2_init_43 : decode cX2_init 43 = .ok (.aload_n 0, 1) := by decide +kernel
theorem dX2_init_44 : decode cX2_init 44 = .ok (.iconst 0, 1) := by decide +kernel
theorem dX2_init_45 : decode cX2_init 45 = .ok (.putfield 34, 3) := by decide +kernel
theorem dX2_init_48 : decode cX2_init 48 = .ok (.aload_n 0, 1) := by decide +kernel
theorem dX2_init_49 : decode cX2_init 49 = .ok (.iconst 0, 1) := by decide +kernel
theorem dX2_init_50 : decode cX2_init 50 = .ok (.putfield 38, 3) := by decide +kernel
theorem dX2_init_53 : decode cX2_init 53 = .ok (.return_, 1) := by decide +kernel
theorem dX2_init__0 : decode cX2_init_ 0 = .ok (.aload_n 0, 1) := by decide +kernel
theorem dX2_init__1 : decode cX2_init_ 1 = .ok (.iconst 1, 1) := by decide +kernel
theorem dX2_init__2 : decode cX2_init_ 2 = .ok (.putfield 27, 3) := by decide +kernel
theorem dX2_init__5 : decode cX2_init_ 5 = .ok (.return_, 1) := by decide +kernel
set_option maxRecDepth 20000 in
theorem ggX2_beginSha_X0_begin : GoodIn wsX2_beginSha wsX0_begin := goodIn_r _ [7, 8, 9, 10, 11, 12, 13, 14, 30, 31, 32, 33] (by decide +kernel) (by decide +kernel)
set_option maxRecDepth 20000 in
theorem gX2_beginSha_X0_begin : GoodIn wsX2_beginSha (wsV RX2 41 RX0 yX0_begin wsX0_begin) := goodIn_app (goodIn_of _ (by decide +kernel)) ggX2_beginSha_X0_begin
set_option maxRecDepth 20000 in
theorem ggX2_beginSha_X2_openAs : GoodIn wsX2_beginSha wsX2_openAs := goodIn_r _ [19, 20, 21, 22, 23, 24, 25, 26, 27, 28, 29] (by decide +kernel) (by decide +kernel)
set_option maxRecDepth 20000 in
theorem gX2_beginSha_X2_openAs : GoodIn wsX2_beginSha (wsV RX2 45 RX2 yX2_openAs wsX2_openAs) := goodIn_app (goodIn_of _ (by decide +kernel)) ggX2_beginSha_X2_openAs
theorem dX2_beginSha_0 : decode cX2_beginSha 0 = .ok (.aload_n 0, 1) := by decide +kernel
theorem dX2_beginSha_1 : decode cX2_beginSha 1 = .ok (.getfield 27, 3) := by decide +kernel
theorem dX2_beginSha_4 : decode cX2_beginSha 4 = .ok (.ifCond .eq 17, 3) := by decide +kernel
theorem dX2_beginSha_7 : decode cX2_beginSha 7 = .ok (.iload_n 1, 1) := by decide +kernel
theorem dX2_beginSha_8 : decode cX2_beginSha 8 = .ok (.sipush 512, 3) := by decide +kernel
theorem dX2_beginSha_11 : decode cX2_beginSha 11 = .ok (.if_icmp .eq 12, 3) := by decide +kernel
theorem dX2_beginSha_14 : decode cX2_beginSha 14 = .ok (.iload_n 1, 1) := by decide +kernel
theorem dX2_beginSha_15 : decode cX2_beginSha 15 = .ok (.sipush 384, 3) := by decide +kernel
theorem dX2_beginSha_18 : decode cX2_beginSha 18 = .ok (.if_icmp .eq 5, 3) := by decide +kernel
theorem dX2_beginSha_21 : decode cX2_beginSha 21 = .ok (.iconst 0, 1) := by decide +kernel
theorem dX2_beginSha_22 : decode cX2_beginSha 22 = .ok (.ireturn, 1) := by decide +kernel
theorem dX2_beginSha_23 : decode cX2_beginSha 23 = .ok (.aload_n 0, 1) := by decide +kernel
theorem dX2_beginSha_24 : decode cX2_beginSha 24 = .ok (.getfield 10, 3) := by decide +kernel
theorem dX2_beginSha_27 : decode cX2_beginSha 27 = .ok (.iload_n 1, 1) := by decide +kernel
theorem dX2_beginSha_28 : decode cX2_beginSha 28 = .ok (.sipush 384, 3) := by decide +kernel
theorem dX2_beginSha_31 : decode cX2_beginSha 31 = .ok (.if_icmp .ne 7, 3) := by decide +kernel
theorem dX2_beginSha_34 : decode cX2_beginSha 34 = .ok (.iconst 1, 1) := by decide +kernel
theorem dX2_beginSha_35 : decode cX2_beginSha 35 = .ok (.goto 4, 3) := by decide +kernel
theorem dX2_beginSha_38 : decode cX2_beginSha 38 = .ok (.iconst 0, 1) := by decide +kernel
theorem dX2_beginSha_39 : decode cX2_beginSha 39 = .ok (.invokevirtual 41, 3) := by decide +kernel
theorem dX2_beginSha_42 : decode cX2_beginSha 42 = .ok (.aload_n 0, 1) := by decide +kernel
theorem dX2_beginSha_43 : decode cX2_beginSha 43 = .ok (.iload_n 1, 1) := by decide +kernel
theorem dX2_beginSha_44 : decode cX2_beginSha 44 = .ok (.sipush 384, 3) := by decide +kernel
theorem dX2_beginSha_47 : decode cX2_beginSha 47 = .ok (.if_icmp .ne 7, 3) := by decide +kernel
theorem dX2_beginSha_50 : decode cX2_beginSha 50 = .ok (.iconst 2, 1) := by decide +kernel
theorem dX2_beginSha_51 : decode cX2_beginSha 51 = .ok (.goto 4, 3) := by decide +kernel
theorem dX2_beginSha_54 : decode cX2_beginSha 54 = .ok (.iconst 1, 1) := by decide +kernel
theorem dX2_beginSha_55 : decode cX2_beginSha 55 = .ok (.invokevirtual 45, 3) := by decide +kernel
theorem dX2_beginSha_58 : decode cX2_beginSha 58 = .ok (.iconst 1, 1) := by decide +kernel
theorem dX2_beginSha_59 : decode cX2_beginSha 59 = .ok (.ireturn, 1) := by decide +kernel
theorem dX2_sipKey_0 : decode cX2_sipKey 0 = .ok (.iload_n 1, 1) := by decide +kernel
theorem dX2_sipKey_1 : decode cX2_sipKey 1 = .ok (.ifCond .lt 8, 3) := by decide +kernel
theorem dX2_sipKey_4 : decode cX2_sipKey 4 = .ok (.iload_n 1, 1) := by decide +kernel
theorem dX2_sipKey_5 : decode cX2_sipKey 5 = .ok (.iconst 4, 1) := by decide +kernel
theorem dX2_sipKey_6 : decode cX2_sipKey 6 = .ok (.if_icmp .lt 5, 3) := by decide +kernel
theorem dX2_sipKey_9 : decode cX2_sipKey 9 = .ok (.iconst 0, 1) := by decide +kernel
theorem dX2_sipKey_10 : decode cX2_sipKey 10 = .ok (.ireturn, 1) := by decide +kernel
theorem dX2_sipKey_11 : decode cX2_sipKey 11 = .ok (.aload_n 0, 1) := by decide +kernel
theorem dX2_sipKey_12 : decode cX2_sipKey 12 = .ok (.getfield 23, 3) := by decide +kernel
theorem dX2_sipKey_15 : decode cX2_sipKey 15 = .ok (.iload_n 1, 1) := by decide +kernel
theorem dX2_sipKey_16 : decode cX2_sipKey 16 = .ok (.iload_n 2, 1) := by decide +kernel
theorem dX2_sipKey_17 : decode cX2_sipKey 17 = .ok (.iastore, 1) := by decide +kernel
theorem dX2_sipKey_18 : decode cX2_sipKey 18 = .ok (.iconst 1, 1) := by decide +kernel
theorem dX2_sipKey_19 : decode cX2_sipKey 19 = .ok (.ireturn, 1) := by decide +kernel
set_option maxRecDepth 20000 in
theorem ggX2_beginSip_X1_begin : GoodIn wsX2_beginSip wsX1_begin := goodIn_r _ [8, 9, 10, 11, 27, 28, 29, 30] (by decide +kernel) (by decide +kernel)
set_option maxRecDepth 20000 in
theorem gX2_beginSip_X1_begin : GoodIn wsX2_beginSip (wsV RX2 49 RX1 yX1_begin wsX1_begin) := goodIn_app (goodIn_of _ (by decide +kernel)) ggX2_beginSip_X1_begin
set_option maxRecDepth 20000 in
theorem ggX2_beginSip_X2_openAs : GoodIn wsX2_beginSip wsX2_openAs := goodIn_r _ [16, 17, 18, 19, 20, 21, 22, 23, 24, 25, 26] (by decide +kernel) (by decide +kernel)
set_option maxRecDepth 20000 in
theorem gX2_beginSip_X2_openAs : GoodIn wsX2_beginSip (wsV RX2 45 RX2 yX2_openAs wsX2_openAs) := goodIn_app (goodIn_of _ (by decide +kernel)) ggX2_beginSip_X2_openAs
theorem dX2_beginSip_0 : decode cX2_beginSip 0 = .ok (.aload_n 0, 1) := by decide +kernel
theorem dX2_beginSip_1 : decode cX2_beginSip 1 = .ok (.getfield 27, 3) := by decide +kernel
theorem dX2_beginSip_4 : decode cX2_beginSip 4 = .ok (.ifCond .ne 5, 3) := by decide +kernel
theorem dX2_beginSip_7 : decode cX2_beginSip 7 = .ok (.iconst 0, 1) := by decide +kernel
theorem dX2_beginSip_8 : decode cX2_beginSip 8 = .ok (.ireturn, 1) := by decide +kernel
theorem dX2_beginSip_9 : decode cX2_beginSip 9 = .ok (.aload_n 0, 1) := by decide +kernel
theorem dX2_beginSip_10 : decode cX2_beginSip 10 = .ok (.getfield 19, 3) := by decide +kernel
theorem dX2_beginSip_13 : decode cX2_beginSip 13 = .ok (.aload_n 0, 1) := by decide +kernel
theorem dX2_beginSip_14 : decode cX2_beginSip 14 = .ok (.getfield 23, 3) := by decide +kernel
theorem dX2_beginSip_17 : decode cX2_beginSip 17 = .ok (.invokevirtual 49, 3) := by decide +kernel
theorem dX2_beginSip_20 : decode cX2_beginSip 20 = .ok (.aload_n 0, 1) := by decide +kernel
theorem dX2_beginSip_21 : decode cX2_beginSip 21 = .ok (.iconst 3, 1) := by decide +kernel
theorem dX2_beginSip_22 : decode cX2_beginSip 22 = .ok (.invokevirtual 45, 3) := by decide +kernel
theorem dX2_beginSip_25 : decode cX2_beginSip 25 = .ok (.iconst 1, 1) := by decide +kernel
theorem dX2_beginSip_26 : decode cX2_beginSip 26 = .ok (.ireturn, 1) := by decide +kernel
set_option maxRecDepth 20000 in
theorem ggX2_update_X2_take : GoodIn wsX2_update wsX2_take := goodIn_r _ [6, 7, 8, 9, 10, 11, 12, 13, 14, 15, 16, 17, 18, 19, 5, 20, 21, 22, 23, 24, 25, 26, 27, 28, 29, 30, 31, 32, 33, 34, 35, 36, 37, 38, 39, 40, 41, 42, 43, 44, 45, 46, 47, 48, 49, 50, 51, 52, 53, 54, 55, 56, 57, 58, 59, 60, 61, 62, 63, 64, 65, 66, 67, 68, 69, 70, 71, 72, 73, 74, 75, 76, 77, 78, 79, 80, 81, 82, 83, 84, 85, 86, 87, 88, 89, 90, 91, 92, 93, 94, 95, 96, 97] (by decide +kernel) (by decide +kernel)
set_option maxRecDepth 20000 in
theorem gX2_update_X2_take : GoodIn wsX2_update (wsV RX2 52 RX2 yX2_take wsX2_take) := goodIn_app (goodIn_of _ (by decide +kernel)) ggX2_update_X2_take
theorem dX2_update_0 : decode cX2_update 0 = .ok (.aload_n 0, 1) := by decide +kernel
theorem dX2_update_1 : decode cX2_update 1 = .ok (.getfield 31, 3) := by decide +kernel
theorem dX2_update_4 : decode cX2_update 4 = .ok (.ifCond .eq 14, 3) := by decide +kernel
theorem dX2_update_7 : decode cX2_update 7 = .ok (.iload_n 1, 1) := by decide +kernel
theorem dX2_update_8 : decode cX2_update 8 = .ok (.ifCond .lt 10, 3) := by decide +kernel
theorem dX2_update_11 : decode cX2_update 11 = .ok (.iload_n 1, 1) := by decide +kernel
theorem dX2_update_12 : decode cX2_update 12 = .ok (.sipush 255, 3) := by decide +kernel
theorem dX2_update_15 : decode cX2_update 15 = .ok (.if_icmp .le 5, 3) := by decide +kernel
theorem dX2_update_18 : decode cX2_update 18 = .ok (.iconst 0, 1) := by decide +kernel
theorem dX2_update_19 : decode cX2_update 19 = .ok (.ireturn, 1) := by decide +kernel
theorem dX2_update_20 : decode cX2_update 20 = .ok (.aload_n 0, 1) := by decide +kernel
theorem dX2_update_21 : decode cX2_update 21 = .ok (.iload_n 1, 1) := by decide +kernel
theorem dX2_update_22 : decode cX2_update 22 = .ok (.invokevirtual 52, 3) := by decide +kernel
theorem dX2_update_25 : decode cX2_update 25 = .ok (.iconst 1, 1) := by decide +kernel
theorem dX2_update_26 : decode cX2_update 26 = .ok (.ireturn, 1) := by decide +kernel
set_option maxRecDepth 20000 in
theorem ggX2_updates_X2_take : GoodIn wsX2_updates wsX2_take := goodIn_r _ [6, 7, 8, 9, 10, 11, 12, 13, 14, 15, 16, 17, 18, 19, 5, 20, 21, 22, 23, 24, 25, 26, 27, 28, 29, 30, 31, 32, 33, 34, 35, 36, 37, 38, 39, 40, 41, 42, 43, 44, 45, 46, 47, 48, 49, 50, 51, 52, 53, 54, 55, 56, 57, 58, 59, 60, 61, 62, 63, 64, 65, 66, 67, 68, 69, 70, 71, 72, 73, 74, 75, 76, 77, 78, 79, 80, 81, 82, 83, 84, 85, 86, 87, 88, 89, 90, 91, 92, 93, 94, 95, 96, 97] (by decide +kernel) (by decide +kernel)
set_option maxRecDepth 20000 in
theorem gX2_updates_X2_take : GoodIn wsX2_updates (wsV RX2 52 RX2 yX2_take wsX2_take) := goodIn_app (goodIn_of _ (by decide +kernel)) ggX2_updates_X2_take
theorem dX2_updates_0 : decode cX2_updates 0 = .ok (.aload_n 0, 1) := by decide +kernel
theorem dX2_updates_1 : decode cX2_updates 1 = .ok (.getfield 31, 3) := by decide +kernel
theorem dX2_updates_4 : decode cX2_updates 4 = .ok (.ifCond .eq 14, 3) := by decide +kernel
theorem dX2_updates_7 : decode cX2_updates 7 = .ok (.iload_n 1, 1) := by decide +kernel
theorem dX2_updates_8 : decode cX2_updates 8 = .ok (.ifCond .lt 10, 3) := by decide +kernel
theorem dX2_updates_11 : decode cX2_updates 11 = .ok (.iload_n 1, 1) := by decide +kernel
theorem dX2_updates_12 : decode cX2_updates 12 = .ok (.sipush 2000, 3) := by decide +kernel
theorem dX2_updates_15 : decode cX2_updates 15 = .ok (.if_icmp .le 5, 3) := by decide +kernel
theorem dX2_updates_18 : decode cX2_updates 18 = .ok (.iconst 0, 1) := by decide +kernel
theorem dX2_updates_19 : decode cX2_updates 19 = .ok (.ireturn, 1) := by decide +kernel
theorem dX2_updates_20 : decode cX2_updates 20 = .ok (.iconst 0, 1) := by decide +kernel
theorem dX2_updates_21 : decode cX2_updates 21 = .ok (.istore 4, 2) := by decide +kernel
theorem dX2_updates_23 : decode cX2_updates 23 = .ok (.iload 4, 2) := by decide +kernel
theorem dX2_updates_25 : decode cX2_updates 25 = .ok (.iload_n 1, 1) := by decide +kernel
theorem dX2_updates_26 : decode cX2_updates 26 = .ok (.if_icmp .ge 23, 3) := by decide +kernel
theorem dX2_updates_29 : decode cX2_updates 29 = .ok (.aload_n 0, 1) := by decide +kernel
theorem dX2_updates_30 : decode cX2_updates 30 = .ok (.iload_n 2, 1) := by decide +kernel
theorem dX2_updates_31 : decode cX2_updates 31 = .ok (.iload 4, 2) := by decide +kernel
theorem dX2_updates_33 : decode cX2_updates 33 = .ok (.iload_n 3, 1) := by decide +kernel
theorem dX2_updates_34 : decode cX2_updates 34 = .ok (.imul, 1) := by decide +kernel
theorem dX2_updates_35 : decode cX2_updates 35 = .ok (.iadd, 1) := by decide +kernel
theorem dX2_updates_36 : decode cX2_updates 36 = .ok (.sipush 255, 3) := by decide +kernel
theorem dX2_updates_39 : decode cX2_updates 39 = .ok (.iand, 1) := by decide +kernel
theorem dX2_updates_40 : decode cX2_updates 40 = .ok (.invokevirtual 52, 3) := by decide +kernel
theorem dX2_updates_43 : decode cX2_updates 43 = .ok (.iinc 4 1, 3) := by decide +kernel
theorem dX2_updates_46 : decode cX2_updates 46 = .ok (.goto (-23), 3) := by decide +kernel
theorem dX2_updates_49 : decode cX2_updates 49 = .ok (.iconst 1, 1) := by decide +kernel
theorem dX2_updates_50 : decode cX2_updates 50 = .ok (.ireturn, 1) := by decide +kernel
set_option maxRecDepth 20000 in
theorem ggX2_close_X1_end : GoodIn wsX2_close wsX1_end := goodIn_r _ [10, 11, 12, 13, 14, 9, 15, 16, 17, 18, 19, 20, 21, 22, 23, 24, 25, 26, 27, 28, 29, 30, 31, 32, 33, 34, 35, 36, 37, 38, 39, 40, 41, 42, 94, 95, 96, 97] (by decide +kernel) (by decide +kernel)
set_option maxRecDepth 20000 in
theorem gX2_close_X1_end : GoodIn wsX2_close (wsV RX2 55 RX1 yX1_end wsX1_end) := goodIn_app (goodIn_of _ (by decide +kernel)) ggX2_close_X1_end
set_option maxRecDepth 20000 in
theorem ggX2_close_X0_end : GoodIn wsX2_close wsX0_end := goodIn_r _ [47, 48, 49, 50, 51, 46, 52, 53, 54, 55, 56, 57, 58, 59, 60, 61, 62, 63, 64, 65, 66, 67, 19, 20, 21, 34, 35, 36, 37, 38, 68, 69, 70, 71, 72, 73, 74, 75, 76, 77, 78, 79, 80, 81, 82, 83, 84, 85, 86, 98, 99, 100, 101] (by decide +kernel) (by decide +kernel)
set_option maxRecDepth 20000 in
theorem gX2_close_X0_end : GoodIn wsX2_close (wsV RX2 58 RX0 yX0_end wsX0_end) := goodIn_app (goodIn_of _ (by decide +kernel)) ggX2_close_X0_end
theorem dX2_close_0 : decode cX2_close 0 = .ok (.aload_n 0, 1) := by decide +kernel
theorem dX2_close_1 : decode cX2_close 1 = .ok (.getfield 31, 3) := by decide +kernel
theorem dX2_close_4 : decode cX2_close 4 = .ok (.ifCond .ne 5, 3) := by decide +kernel
theorem dX2_close_7 : decode cX2_close 7 = .ok (.iconst 0, 1) := by decide +kernel
theorem dX2_close_8 : decode cX2_close 8 = .ok (.ireturn, 1) := by decide +kernel
theorem dX2_close_9 : decode cX2_close 9 = .ok (.aload_n 0, 1) := by decide +kernel
theorem dX2_close_10 : decode cX2_close 10 = .ok (.getfield 34, 3) := by decide +kernel
theorem dX2_close_13 : decode cX2_close 13 = .ok (.iconst 3, 1) := by decide +kernel
theorem dX2_close_14 : decode cX2_close 14 = .ok (.if_icmp .ne 17, 3) := by decide +kernel
theorem dX2_close_17 : decode cX2_close 17 = .ok (.aload_n 0, 1) := by decide +kernel
theorem dX2_close_18 : decode cX2_close 18 = .ok (.getfield 19, 3) := by decide +kernel
theorem dX2_close_21 : decode cX2_close 21 = .ok (.aload_n 0, 1) := by decide +kernel
theorem dX2_close_22 : decode cX2_close 22 = .ok (.getfield 38, 3) := by decide +kernel
theorem dX2_close_25 : decode cX2_close 25 = .ok (.invokevirtual 55, 3) := by decide +kernel
theorem dX2_close_28 : decode cX2_close 28 = .ok (.goto 14, 3) := by decide +kernel
theorem dX2_close_31 : decode cX2_close 31 = .ok (.aload_n 0, 1) := by decide +kernel
theorem dX2_close_32 : decode cX2_close 32 = .ok (.getfield 10, 3) := by decide +kernel
theorem dX2_close_35 : decode cX2_close 35 = .ok (.aload_n 0, 1) := by decide +kernel
theorem dX2_close_36 : decode cX2_close 36 = .ok (.getfield 38, 3) := by decide +kernel
theorem dX2_close_39 : decode cX2_close 39 = .ok (.invokevirtual 58, 3) := by decide +kernel
theorem dX2_close_42 : decode cX2_close 42 = .ok (.aload_n 0, 1) := by decide +kernel
theorem dX2_close_43 : decode cX2_close 43 = .ok (.iconst 0, 1) := by decide +kernel
theorem dX2_close_44 : decode cX2_close 44 = .ok (.putfield 31, 3) := by decide +kernel
theorem dX2_close_47 : decode cX2_close 47 = .ok (.iconst 1, 1) := by decide +kernel
theorem dX2_close_48 : decode cX2_close 48 = .ok (.ireturn, 1) := by decide +kernel
set_option maxRecDepth 20000 in
theorem ggX2_word_X2_wordsOf : GoodIn wsX2_word wsX2_wordsOf := goodIn_r _ [8] (by decide +kernel) (by decide +kernel)
set_option maxRecDepth 20000 in
theorem gX2_word_X2_wordsOf : GoodIn wsX2_word (va_wsS RX2 59 yX2_wordsOf wsX2_wordsOf) := goodIn_app (goodIn_of _ (by decide +kernel)) ggX2_word_X2_wordsOf
set_option maxRecDepth 20000 in
theorem ggX2_word_X1_wordAt : GoodIn wsX2_word wsX1_wordAt := goodIn_r _ [13, 14, 28, 29, 30, 31] (by decide +kernel) (by decide +kernel)
set_option maxRecDepth 20000 in
theorem gX2_word_X1_wordAt : GoodIn wsX2_word (wsV RX2 63 RX1 yX1_wordAt wsX1_wordAt) := goodIn_app (goodIn_of _ (by decide +kernel)) ggX2_word_X1_wordAt
set_option maxRecDepth 20000 in
theorem ggX2_word_X0_wordAt : GoodIn wsX2_word wsX0_wordAt := goodIn_r _ [19, 20, 32, 33, 34, 35] (by decide +kernel) (by decide +kernel)
set_option maxRecDepth 20000 in
theorem gX2_word_X0_wordAt : GoodIn wsX2_word (wsV RX2 66 RX0 yX0_wordAt wsX0_wordAt) := goodIn_app (goodIn_of _ (by decide +kernel)) ggX2_word_X0_wordAt
theorem dX2_word_0 : decode cX2_word 0 = .ok (.aload_n 0, 1) := by decide +kernel
theorem dX2_word_1 : decode cX2_word 1 = .ok (.getfield 31, 3) := by decide +kernel
theorem dX2_word_4 : decode cX2_word 4 = .ok (.ifCond .ne 18, 3) := by decide +kernel
theorem dX2_word_7 : decode cX2_word 7 = .ok (.iload_n 1, 1) := by decide +kernel
theorem dX2_word_8 : decode cX2_word 8 = .ok (.ifCond .lt 14, 3) := by decide +kernel
theorem dX2_word_11 : decode cX2_word 11 = .ok (.iload_n 1, 1) := by decide +kernel
theorem dX2_word_12 : decode cX2_word 12 = .ok (.aload_n 0, 1) := by decide +kernel
theorem dX2_word_13 : decode cX2_word 13 = .ok (.getfield 34, 3) := by decide +kernel
theorem dX2_word_16 : decode cX2_word 16 = .ok (.invokestatic 59, 3) := by decide +kernel
theorem dX2_word_19 : decode cX2_word 19 = .ok (.if_icmp .lt 5, 3) := by decide +kernel
theorem dX2_word_22 : decode cX2_word 22 = .ok (.iconst 0, 1) := by decide +kernel
theorem dX2_word_23 : decode cX2_word 23 = .ok (.ireturn, 1) := by decide +kernel
theorem dX2_word_24 : decode cX2_word 24 = .ok (.aload_n 0, 1) := by decide +kernel
theorem dX2_word_25 : decode cX2_word 25 = .ok (.getfield 34, 3) := by decide +kernel
theorem dX2_word_28 : decode cX2_word 28 = .ok (.iconst 3, 1) := by decide +kernel
theorem dX2_word_29 : decode cX2_word 29 = .ok (.if_icmp .ne 14, 3) := by decide +kernel
theorem dX2_word_32 : decode cX2_word 32 = .ok (.aload_n 0, 1) := by decide +kernel
theorem dX2_word_33 : decode cX2_word 33 = .ok (.getfield 19, 3) := by decide +kernel
theorem dX2_word_36 : decode cX2_word 36 = .ok (.iload_n 1, 1) := by decide +kernel
theorem dX2_word_37 : decode cX2_word 37 = .ok (.invokevirtual 63, 3) := by decide +kernel
theorem dX2_word_40 : decode cX2_word 40 = .ok (.goto 11, 3) := by decide +kernel
theorem dX2_word_43 : decode cX2_word 43 = .ok (.aload_n 0, 1) := by decide +kernel
theorem dX2_word_44 : decode cX2_word 44 = .ok (.getfield 10, 3) := by decide +kernel
theorem dX2_word_47 : decode cX2_word 47 = .ok (.iload_n 1, 1) := by decide +kernel
theorem dX2_word_48 : decode cX2_word 48 = .ok (.invokevirtual 66, 3) := by decide +kernel
theorem dX2_word_51 : decode cX2_word 51 = .ok (.ireturn, 1) := by decide +kernel
theorem dX2_length_0 : decode cX2_length 0 = .ok (.aload_n 0, 1) := by decide +kernel
theorem dX2_length_1 : decode cX2_length 1 = .ok (.getfield 38, 3) := by decide +kernel
theorem dX2_length_4 : decode cX2_length 4 = .ok (.ireturn, 1) := by decide +kernel
theorem dX2_state_0 : decode cX2_state 0 = .ok (.aload_n 0, 1) := by decide +kernel
theorem dX2_state_1 : decode cX2_state 1 = .ok (.getfield 34, 3) := by decide +kernel
theorem dX2_state_4 : decode cX2_state 4 = .ok (.ifCond .eq 10, 3) := by decide +kernel
theorem dX2_state_7 : decode cX2_state 7 = .ok (.aload_n 0, 1) := by decide +kernel
theorem dX2_state_8 : decode cX2_state 8 = .ok (.getfield 31, 3) := by decide +kernel
theorem dX2_state_11 : decode cX2_state 11 = .ok (.ifCond .eq 10, 3) := by decide +kernel
theorem dX2_state_14 : decode cX2_state 14 = .ok (.aload_n 0, 1) := by decide +kernel
theorem dX2_state_15 : decode cX2_state 15 = .ok (.getfield 34, 3) := by decide +kernel
theorem dX2_state_18 : decode cX2_state 18 = .ok (.goto 9, 3) := by decide +kernel
theorem dX2_state_21 : decode cX2_state 21 = .ok (.aload_n 0, 1) := by decide +kernel
theorem dX2_state_22 : decode cX2_state 22 = .ok (.getfield 34, 3) := by decide +kernel
theorem dX2_state_25 : decode cX2_state 25 = .ok (.iconst 4, 1) := by decide +kernel
theorem dX2_state_26 : decode cX2_state 26 = .ok (.iadd, 1) := by decide +kernel
theorem dX2_state_27 : decode cX2_state 27 = .ok (.ireturn, 1) := by decide +kernel
theorem dX2_add64Lo_0 : decode cX2_add64Lo 0 = .ok (.iload_n 2, 1) := by decide +kernel
theorem dX2_add64Lo_1 : decode cX2_add64Lo 1 = .ok (.iload 4, 2) := by decide +kernel
theorem dX2_add64Lo_3 : decode cX2_add64Lo 3 = .ok (.iadd, 1) := by decide +kernel
theorem dX2_add64Lo_4 : decode cX2_add64Lo 4 = .ok (.ireturn, 1) := by decide +kernel
set_option maxRecDepth 20000 in
theorem ggX2_add64Hi_X2_carry : GoodIn wsX2_add64Hi wsX2_carry := goodIn_r _ [4] (by decide +kernel) (by decide +kernel)
set_option maxRecDepth 20000 in
theorem gX2_add64Hi_X2_carry : GoodIn wsX2_add64Hi (va_wsS RX2 67 yX2_carry wsX2_carry) := goodIn_app (goodIn_of _ (by decide +kernel)) ggX2_add64Hi_X2_carry
theorem dX2_add64Hi_0 : decode cX2_add64Hi 0 = .ok (.iload_n 1, 1) := by decide +kernel
theorem dX2_add64Hi_1 : decode cX2_add64Hi 1 = .ok (.iload_n 3, 1) := by decide +kernel
theorem dX2_add64Hi_2 : decode cX2_add64Hi 2 = .ok (.iadd, 1) := by decide +kernel
theorem dX2_add64Hi_3 : decode cX2_add64Hi 3 = .ok (.iload_n 2, 1) := by decide +kernel
theorem dX2_add64Hi_4 : decode cX2_add64Hi 4 = .ok (.iload 4, 2) := by decide +kernel
theorem dX2_add64Hi_6 : decode cX2_add64Hi 6 = .ok (.invokestatic 67, 3) := by decide +kernel
theorem dX2_add64Hi_9 : decode cX2_add64Hi 9 = .ok (.iadd, 1) := by decide +kernel
theorem dX2_add64Hi_10 : decode cX2_add64Hi 10 = .ok (.ireturn, 1) := by decide +kernel
set_option maxRecDepth 20000 in
theorem ggX2_rotr64Hi_X2_turned : GoodIn wsX2_rotr64Hi wsX2_turned := goodIn_r _ [4] (by decide +kernel) (by decide +kernel)
set_option maxRecDepth 20000 in
theorem gX2_rotr64Hi_X2_turned : GoodIn wsX2_rotr64Hi (va_wsS RX2 71 yX2_turned wsX2_turned) := goodIn_app (goodIn_of _ (by decide +kernel)) ggX2_rotr64Hi_X2_turned
theorem dX2_rotr64Hi_0 : decode cX2_rotr64Hi 0 = .ok (.iload_n 1, 1) := by decide +kernel
theorem dX2_rotr64Hi_1 : decode cX2_rotr64Hi 1 = .ok (.iload_n 2, 1) := by decide +kernel
theorem dX2_rotr64Hi_2 : decode cX2_rotr64Hi 2 = .ok (.iload_n 3, 1) := by decide +kernel
theorem dX2_rotr64Hi_3 : decode cX2_rotr64Hi 3 = .ok (.invokestatic 71, 3) := by decide +kernel
theorem dX2_rotr64Hi_6 : decode cX2_rotr64Hi 6 = .ok (.ireturn, 1) := by decide +kernel
set_option maxRecDepth 20000 in
theorem ggX2_rotr64Lo_X2_turned : GoodIn wsX2_rotr64Lo wsX2_turned := goodIn_r _ [4] (by decide +kernel) (by decide +kernel)
set_option maxRecDepth 20000 in
theorem gX2_rotr64Lo_X2_turned : GoodIn wsX2_rotr64Lo (va_wsS RX2 71 yX2_turned wsX2_turned) := goodIn_app (goodIn_of _ (by decide +kernel)) ggX2_rotr64Lo_X2_turned
theorem dX2_rotr64Lo_0 : decode cX2_rotr64Lo 0 = .ok (.iload_n 2, 1) := by decide +kernel
theorem dX2_rotr64Lo_1 : decode cX2_rotr64Lo 1 = .ok (.iload_n 1, 1) := by decide +kernel
theorem dX2_rotr64Lo_2 : decode cX2_rotr64Lo 2 = .ok (.iload_n 3, 1) := by decide +kernel
theorem dX2_rotr64Lo_3 : decode cX2_rotr64Lo 3 = .ok (.invokestatic 71, 3) := by decide +kernel
theorem dX2_rotr64Lo_6 : decode cX2_rotr64Lo 6 = .ok (.ireturn, 1) := by decide +kernel
theorem dX2_openAs_0 : decode cX2_openAs 0 = .ok (.aload_n 0, 1) := by decide +kernel
theorem dX2_openAs_1 : decode cX2_openAs 1 = .ok (.iload_n 1, 1) := by decide +kernel
theorem dX2_openAs_2 : decode cX2_openAs 2 = .ok (.putfield 34, 3) := by decide +kernel
theorem dX2_openAs_5 : decode cX2_openAs 5 = .ok (.aload_n 0, 1) := by decide +kernel
theorem dX2_openAs_6 : decode cX2_openAs 6 = .ok (.iconst 1, 1) := by decide +kernel
theorem dX2_openAs_7 : decode cX2_openAs 7 = .ok (.putfield 31, 3) := by decide +kernel
theorem dX2_openAs_10 : decode cX2_openAs 10 = .ok (.aload_n 0, 1) := by decide +kernel
theorem dX2_openAs_11 : decode cX2_openAs 11 = .ok (.iconst 0, 1) := by decide +kernel
theorem dX2_openAs_12 : decode cX2_openAs 12 = .ok (.putfield 38, 3) := by decide +kernel
theorem dX2_openAs_15 : decode cX2_openAs 15 = .ok (.return_, 1) := by decide +kernel
set_option maxRecDepth 20000 in
theorem ggX2_take_X1_take : GoodIn wsX2_take wsX1_take := goodIn_r _ [9, 10, 11, 12, 13, 14, 15, 16, 17, 18, 8, 19, 20, 21, 22, 23, 24, 25, 26, 27, 28, 29, 30, 31, 32, 33, 34, 35, 36, 37, 85, 86, 87, 88] (by decide +kernel) (by decide +kernel)
set_option maxRecDepth 20000 in
theorem gX2_take_X1_take : GoodIn wsX2_take (wsV RX2 75 RX1 yX1_take wsX1_take) := goodIn_app (goodIn_of _ (by decide +kernel)) ggX2_take_X1_take
set_option maxRecDepth 20000 in
theorem ggX2_take_X0_take : GoodIn wsX2_take wsX0_take := goodIn_r _ [42, 43, 44, 45, 46, 47, 41, 48, 49, 50, 51, 52, 53, 54, 55, 56, 57, 58, 13, 14, 15, 29, 30, 31, 32, 33, 59, 60, 61, 62, 63, 64, 65, 66, 67, 68, 69, 70, 71, 72, 73, 74, 75, 76, 77, 89, 90, 91, 92] (by decide +kernel) (by decide +kernel)
set_option maxRecDepth 20000 in
theorem gX2_take_X0_take : GoodIn wsX2_take (wsV RX2 76 RX0 yX0_take wsX0_take) := goodIn_app (goodIn_of _ (by decide +kernel)) ggX2_take_X0_take
theorem dX2_take_0 : decode cX2_take 0 = .ok (.aload_n 0, 1) := by decide +kernel
theorem dX2_take_1 : decode cX2_take 1 = .ok (.getfield 34, 3) := by decide +kernel
theorem dX2_take_4 : decode cX2_take 4 = .ok (.iconst 3, 1) := by decide +kernel
theorem dX2_take_5 : decode cX2_take 5 = .ok (.if_icmp .ne 14, 3) := by decide +kernel
theorem dX2_take_8 : decode cX2_take 8 = .ok (.aload_n 0, 1) := by decide +kernel
theorem dX2_take_9 : decode cX2_take 9 = .ok (.getfield 19, 3) := by decide +kernel
theorem dX2_take_12 : decode cX2_take 12 = .ok (.iload_n 1, 1) := by decide +kernel
theorem dX2_take_13 : decode cX2_take 13 = .ok (.invokevirtual 75, 3) := by decide +kernel
theorem dX2_take_16 : decode cX2_take 16 = .ok (.goto 11, 3) := by decide +kernel
theorem dX2_take_19 : decode cX2_take 19 = .ok (.aload_n 0, 1) := by decide +kernel
theorem dX2_take_20 : decode cX2_take 20 = .ok (.getfield 10, 3) := by decide +kernel
theorem dX2_take_23 : decode cX2_take 23 = .ok (.iload_n 1, 1) := by decide +kernel
theorem dX2_take_24 : decode cX2_take 24 = .ok (.invokevirtual 76, 3) := by decide +kernel
theorem dX2_take_27 : decode cX2_take 27 = .ok (.aload_n 0, 1) := by decide +kernel
theorem dX2_take_28 : decode cX2_take 28 = .ok (.dup, 1) := by decide +kernel
theorem dX2_take_29 : decode cX2_take 29 = .ok (.getfield 38, 3) := by decide +kernel
theorem dX2_take_32 : decode cX2_take 32 = .ok (.iconst 1, 1) := by decide +kernel
theorem dX2_take_33 : decode cX2_take 33 = .ok (.iadd, 1) := by decide +kernel
theorem dX2_take_34 : decode cX2_take 34 = .ok (.putfield 38, 3) := by decide +kernel
theorem dX2_take_37 : decode cX2_take 37 = .ok (.return_, 1) := by decide +kernel
theorem dX2_wordsOf_0 : decode cX2_wordsOf 0 = .ok (.iload_n 0, 1) := by decide +kernel
theorem dX2_wordsOf_1 : decode cX2_wordsOf 1 = .ok (.tableswitch 35 1 3 #[27, 30, 33], 27) := by decide +kernel
theorem dX2_wordsOf_28 : decode cX2_wordsOf 28 = .ok (.bipush 16, 2) := by decide +kernel
theorem dX2_wordsOf_30 : decode cX2_wordsOf 30 = .ok (.ireturn, 1) := by decide +kernel
theorem dX2_wordsOf_31 : decode cX2_wordsOf 31 = .ok (.bipush 12, 2) := by decide +kernel
theorem dX2_wordsOf_33 : decode cX2_wordsOf 33 = .ok (.ireturn, 1) := by decide +kernel
theorem dX2_wordsOf_34 : decode cX2_wordsOf 34 = .ok (.iconst 2, 1) := by decide +kernel
theorem dX2_wordsOf_35 : decode cX2_wordsOf 35 = .ok (.ireturn, 1) := by decide +kernel
theorem dX2_wordsOf_36 : decode cX2_wordsOf 36 = .ok (.iconst 0, 1) := by decide +kernel
theorem dX2_wordsOf_37 : decode cX2_wordsOf 37 = .ok (.ireturn, 1) := by decide +kernel
theorem dX2_carry_0 : decode cX2_carry 0 = .ok (.iload_n 0, 1) := by decide +kernel

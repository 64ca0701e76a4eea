theorem dX3_close_8 : decode cX3_close 8 = .ok (.ireturn, 1) := by decide +kernel
theorem dX3_close_9 : decode cX3_close 9 = .ok (.aload_n 0, 1) := by decide +kernel
theorem dX3_close_10 : decode cX3_close 10 = .ok (.getfield 82, 3) := by decide +kernel
theorem dX3_close_13 : decode cX3_close 13 = .ok (.iconst 3, 1) := by decide +kernel
theorem dX3_close_14 : decode cX3_close 14 = .ok (.if_icmp .ne 81, 3) := by decide +kernel
theorem dX3_close_17 : decode cX3_close 17 = .ok (.aload_n 0, 1) := by decide +kernel
theorem dX3_close_18 : decode cX3_close 18 = .ok (.getfield 92, 3) := by decide +kernel
theorem dX3_close_21 : decode cX3_close 21 = .ok (.bipush 7, 2) := by decide +kernel
theorem dX3_close_23 : decode cX3_close 23 = .ok (.if_icmp .ge 11, 3) := by decide +kernel
theorem dX3_close_26 : decode cX3_close 26 = .ok (.aload_n 0, 1) := by decide +kernel
theorem dX3_close_27 : decode cX3_close 27 = .ok (.iconst 0, 1) := by decide +kernel
theorem dX3_close_28 : decode cX3_close 28 = .ok (.invokevirtual 123, 3) := by decide +kernel
theorem dX3_close_31 : decode cX3_close 31 = .ok (.goto (-14), 3) := by decide +kernel
theorem dX3_close_34 : decode cX3_close 34 = .ok (.aload_n 0, 1) := by decide +kernel
theorem dX3_close_35 : decode cX3_close 35 = .ok (.aload_n 0, 1) := by decide +kernel
theorem dX3_close_36 : decode cX3_close 36 = .ok (.getfield 89, 3) := by decide +kernel
theorem dX3_close_39 : decode cX3_close 39 = .ok (.sipush 255, 3) := by decide +kernel
theorem dX3_close_42 : decode cX3_close 42 = .ok (.iand, 1) := by decide +kernel
theorem dX3_close_43 : decode cX3_close 43 = .ok (.invokevirtual 123, 3) := by decide +kernel
theorem dX3_close_46 : decode cX3_close 46 = .ok (.aload_n 0, 1) := by decide +kernel
theorem dX3_close_47 : decode cX3_close 47 = .ok (.getfield 16, 3) := by decide +kernel
theorem dX3_close_50 : decode cX3_close 50 = .ok (.iconst 2, 1) := by decide +kernel
theorem dX3_close_51 : decode cX3_close 51 = .ok (.dup2, 1) := by decide +kernel
theorem dX3_close_52 : decode cX3_close 52 = .ok (.laload, 1) := by decide +kernel
theorem dX3_close_53 : decode cX3_close 53 = .ok (.ldc2_w 126, 3) := by decide +kernel
theorem dX3_close_56 : decode cX3_close 56 = .ok (.lxor, 1) := by decide +kernel
theorem dX3_close_57 : decode cX3_close 57 = .ok (.lastore, 1) := by decide +kernel
theorem dX3_close_58 : decode cX3_close 58 = .ok (.aload_n 0, 1) := by decide +kernel
theorem dX3_close_59 : decode cX3_close 59 = .ok (.iconst 4, 1) := by decide +kernel
theorem dX3_close_60 : decode cX3_close 60 = .ok (.invokevirtual 74, 3) := by decide +kernel
theorem dX3_close_63 : decode cX3_close 63 = .ok (.aload_n 0, 1) := by decide +kernel
theorem dX3_close_64 : decode cX3_close 64 = .ok (.getfield 16, 3) := by decide +kernel
theorem dX3_close_67 : decode cX3_close 67 = .ok (.iconst 0, 1) := by decide +kernel
theorem dX3_close_68 : decode cX3_close 68 = .ok (.dup2, 1) := by decide +kernel
theorem dX3_close_69 : decode cX3_close 69 = .ok (.laload, 1) := by decide +kernel
theorem dX3_close_70 : decode cX3_close 70 = .ok (.aload_n 0, 1) := by decide +kernel
theorem dX3_close_71 : decode cX3_close 71 = .ok (.getfield 16, 3) := by decide +kernel
theorem dX3_close_74 : decode cX3_close 74 = .ok (.iconst 1, 1) := by decide +kernel
theorem dX3_close_75 : decode cX3_close 75 = .ok (.laload, 1) := by decide +kernel
theorem dX3_close_76 : decode cX3_close 76 = .ok (.aload_n 0, 1) := by decide +kernel
theorem dX3_close_77 : decode cX3_close 77 = .ok (.getfield 16, 3) := by decide +kernel
theorem dX3_close_80 : decode cX3_close 80 = .ok (.iconst 2, 1) := by decide +kernel
theorem dX3_close_81 : decode cX3_close 81 = .ok (.laload, 1) := by decide +kernel
theorem dX3_close_82 : decode cX3_close 82 = .ok (.lxor, 1) := by decide +kernel
theorem dX3_close_83 : decode cX3_close 83 = .ok (.aload_n 0, 1) := by decide +kernel
theorem dX3_close_84 : decode cX3_close 84 = .ok (.getfield 16, 3) := by decide +kernel
theorem dX3_close_87 : decode cX3_close 87 = .ok (.iconst 3, 1) := by decide +kernel
theorem dX3_close_88 : decode cX3_close 88 = .ok (.laload, 1) := by decide +kernel
theorem dX3_close_89 : decode cX3_close 89 = .ok (.lxor, 1) := by decide +kernel
theorem dX3_close_90 : decode cX3_close 90 = .ok (.lxor, 1) := by decide +kernel
theorem dX3_close_91 : decode cX3_close 91 = .ok (.lastore, 1) := by decide +kernel
theorem dX3_close_92 : decode cX3_close 92 = .ok (.goto 77, 3) := by decide +kernel
theorem dX3_close_95 : decode cX3_close 95 = .ok (.aload_n 0, 1) := by decide +kernel
theorem dX3_close_96 : decode cX3_close 96 = .ok (.sipush 128, 3) := by decide +kernel
theorem dX3_close_99 : decode cX3_close 99 = .ok (.invokevirtual 123, 3) := by decide +kernel
theorem dX3_close_102 : decode cX3_close 102 = .ok (.aload_n 0, 1) := by decide +kernel
theorem dX3_close_103 : decode cX3_close 103 = .ok (.getfield 92, 3) := by decide +kernel
theorem dX3_close_106 : decode cX3_close 106 = .ok (.bipush 112, 2) := by decide +kernel
theorem dX3_close_108 : decode cX3_close 108 = .ok (.if_icmp .eq 11, 3) := by decide +kernel
theorem dX3_close_111 : decode cX3_close 111 = .ok (.aload_n 0, 1) := by decide +kernel
theorem dX3_close_112 : decode cX3_close 112 = .ok (.iconst 0, 1) := by decide +kernel
theorem dX3_close_113 : decode cX3_close 113 = .ok (.invokevirtual 123, 3) := by decide +kernel
theorem dX3_close_116 : decode cX3_close 116 = .ok (.goto (-14), 3) := by decide +kernel
theorem dX3_close_119 : decode cX3_close 119 = .ok (.iconst 0, 1) := by decide +kernel
theorem dX3_close_120 : decode cX3_close 120 = .ok (.istore_n 1, 1) := by decide +kernel
theorem dX3_close_121 : decode cX3_close 121 = .ok (.iload_n 1, 1) := by decide +kernel
theorem dX3_close_122 : decode cX3_close 122 = .ok (.bipush 16, 2) := by decide +kernel
theorem dX3_close_124 : decode cX3_close 124 = .ok (.if_icmp .ge 45, 3) := by decide +kernel
theorem dX3_close_127 : decode cX3_close 127 = .ok (.aload_n 0, 1) := by decide +kernel
theorem dX3_close_128 : decode cX3_close 128 = .ok (.iload_n 1, 1) := by decide +kernel
theorem dX3_close_129 : decode cX3_close 129 = .ok (.bipush 8, 2) := by decide +kernel
theorem dX3_close_131 : decode cX3_close 131 = .ok (.if_icmp .ge 7, 3) := by decide +kernel
theorem dX3_close_134 : decode cX3_close 134 = .ok (.iconst 0, 1) := by decide +kernel
theorem dX3_close_135 : decode cX3_close 135 = .ok (.goto 25, 3) := by decide +kernel
theorem dX3_close_138 : decode cX3_close 138 = .ok (.ldc2_w 128, 3) := by decide +kernel
theorem dX3_close_141 : decode cX3_close 141 = .ok (.aload_n 0, 1) := by decide +kernel
theorem dX3_close_142 : decode cX3_close 142 = .ok (.getfield 89, 3) := by decide +kernel
theorem dX3_close_145 : decode cX3_close 145 = .ok (.i2l, 1) := by decide +kernel
theorem dX3_close_146 : decode cX3_close 146 = .ok (.lmul, 1) := by decide +kernel
theorem dX3_close_147 : decode cX3_close 147 = .ok (.bipush 120, 2) := by decide +kernel
theorem dX3_close_149 : decode cX3_close 149 = .ok (.bipush 8, 2) := by decide +kernel
theorem dX3_close_151 : decode cX3_close 151 = .ok (.iload_n 1, 1) := by decide +kernel
theorem dX3_close_152 : decode cX3_close 152 = .ok (.imul, 1) := by decide +kernel
theorem dX3_close_153 : decode cX3_close 153 = .ok (.isub, 1) := by decide +kernel
theorem dX3_close_154 : decode cX3_close 154 = .ok (.lshr, 1) := by decide +kernel
theorem dX3_close_155 : decode cX3_close 155 = .ok (.ldc2_w 126, 3) := by decide +kernel
theorem dX3_close_158 : decode cX3_close 158 = .ok (.land, 1) := by decide +kernel
theorem dX3_close_159 : decode cX3_close 159 = .ok (.l2i, 1) := by decide +kernel
theorem dX3_close_160 : decode cX3_close 160 = .ok (.invokevirtual 123, 3) := by decide +kernel
theorem dX3_close_163 : decode cX3_close 163 = .ok (.iinc 1 1, 3) := by decide +kernel
theorem dX3_close_166 : decode cX3_close 166 = .ok (.goto (-45), 3) := by decide +kernel
theorem dX3_close_169 : decode cX3_close 169 = .ok (.aload_n 0, 1) := by decide +kernel
theorem dX3_close_170 : decode cX3_close 170 = .ok (.iconst 1, 1) := by decide +kernel
theorem dX3_close_171 : decode cX3_close 171 = .ok (.putfield 86, 3) := by decide +kernel
theorem dX3_close_174 : decode cX3_close 174 = .ok (.iconst 1, 1) := by decide +kernel
theorem dX3_close_175 : decode cX3_close 175 = .ok (.ireturn, 1) := by decide +kernel
theorem dX3_word_0 : decode cX3_word 0 = .ok (.aload_n 0, 1) := by decide +kernel
theorem dX3_word_1 : decode cX3_word 1 = .ok (.getfield 82, 3) := by decide +kernel
theorem dX3_word_4 : decode cX3_word 4 = .ok (.iconst 1, 1) := by decide +kernel
theorem dX3_word_5 : decode cX3_word 5 = .ok (.if_icmp .ne 8, 3) := by decide +kernel
theorem dX3_word_8 : decode cX3_word 8 = .ok (.bipush 16, 2) := by decide +kernel
theorem dX3_word_10 : decode cX3_word 10 = .ok (.goto 17, 3) := by decide +kernel
theorem dX3_word_13 : decode cX3_word 13 = .ok (.aload_n 0, 1) := by decide +kernel
theorem dX3_word_14 : decode cX3_word 14 = .ok (.getfield 82, 3) := by decide +kernel
theorem dX3_word_17 : decode cX3_word 17 = .ok (.iconst 2, 1) := by decide +kernel
theorem dX3_word_18 : decode cX3_word 18 = .ok (.if_icmp .ne 8, 3) := by decide +kernel
theorem dX3_word_21 : decode cX3_word 21 = .ok (.bipush 12, 2) := by decide +kernel
theorem dX3_word_23 : decode cX3_word 23 = .ok (.goto 4, 3) := by decide +kernel
theorem dX3_word_26 : decode cX3_word 26 = .ok (.iconst 2, 1) := by decide +kernel
theorem dX3_word_27 : decode cX3_word 27 = .ok (.istore_n 2, 1) := by decide +kernel
theorem dX3_word_28 : decode cX3_word 28 = .ok (.aload_n 0, 1) := by decide +kernel
theorem dX3_word_29 : decode cX3_word 29 = .ok (.getfield 86, 3) := by decide +kernel
theorem dX3_word_32 : decode cX3_word 32 = .ok (.ifCond .eq 12, 3) := by decide +kernel
theorem dX3_word_35 : decode cX3_word 35 = .ok (.iload_n 1, 1) := by decide +kernel
theorem dX3_word_36 : decode cX3_word 36 = .ok (.ifCond .lt 8, 3) := by decide +kernel
theorem dX3_word_39 : decode cX3_word 39 = .ok (.iload_n 1, 1) := by decide +kernel
theorem dX3_word_40 : decode cX3_word 40 = .ok (.iload_n 2, 1) := by decide +kernel
theorem dX3_word_41 : decode cX3_word 41 = .ok (.if_icmp .lt 5, 3) := by decide +kernel
theorem dX3_word_44 : decode cX3_word 44 = .ok (.iconst 0, 1) := by decide +kernel
theorem dX3_word_45 : decode cX3_word 45 = .ok (.ireturn, 1) := by decide +kernel
theorem dX3_word_46 : decode cX3_word 46 = .ok (.iload_n 1, 1) := by decide +kernel
theorem dX3_word_47 : decode cX3_word 47 = .ok (.iconst 2, 1) := by decide +kernel
theorem dX3_word_48 : decode cX3_word 48 = .ok (.irem, 1) := by decide +kernel
theorem dX3_word_49 : decode cX3_word 49 = .ok (.ifCond .ne 17, 3) := by decide +kernel
theorem dX3_word_52 : decode cX3_word 52 = .ok (.aload_n 0, 1) := by decide +kernel
theorem dX3_word_53 : decode cX3_word 53 = .ok (.getfield 16, 3) := by decide +kernel
theorem dX3_word_56 : decode cX3_word 56 = .ok (.iload_n 1, 1) := by decide +kernel
theorem dX3_word_57 : decode cX3_word 57 = .ok (.iconst 2, 1) := by decide +kernel
theorem dX3_word_58 : decode cX3_word 58 = .ok (.idiv, 1) := by decide +kernel
theorem dX3_word_59 : decode cX3_word 59 = .ok (.laload, 1) := by decide +kernel
theorem dX3_word_60 : decode cX3_word 60 = .ok (.bipush 32, 2) := by decide +kernel
theorem dX3_word_62 : decode cX3_word 62 = .ok (.lshr, 1) := by decide +kernel
theorem dX3_word_63 : decode cX3_word 63 = .ok (.goto 11, 3) := by decide +kernel
theorem dX3_word_66 : decode cX3_word 66 = .ok (.aload_n 0, 1) := by decide +kernel
theorem dX3_word_67 : decode cX3_word 67 = .ok (.getfield 16, 3) := by decide +kernel
theorem dX3_word_70 : decode cX3_word 70 = .ok (.iload_n 1, 1) := by decide +kernel
theorem dX3_word_71 : decode cX3_word 71 = .ok (.iconst 2, 1) := by decide +kernel
theorem dX3_word_72 : decode cX3_word 72 = .ok (.idiv, 1) := by decide +kernel
theorem dX3_word_73 : decode cX3_word 73 = .ok (.laload, 1) := by decide +kernel
theorem dX3_word_74 : decode cX3_word 74 = .ok (.l2i, 1) := by decide +kernel
theorem dX3_word_75 : decode cX3_word 75 = .ok (.ireturn, 1) := by decide +kernel
theorem dX3_length_0 : decode cX3_length 0 = .ok (.aload_n 0, 1) := by decide +kernel
theorem dX3_length_1 : decode cX3_length 1 = .ok (.getfield 89, 3) := by decide +kernel
theorem dX3_length_4 : decode cX3_length 4 = .ok (.ireturn, 1) := by decide +kernel
theorem dX3_state_0 : decode cX3_state 0 = .ok (.aload_n 0, 1) := by decide +kernel
theorem dX3_state_1 : decode cX3_state 1 = .ok (.getfield 86, 3) := by decide +kernel
theorem dX3_state_4 : decode cX3_state 4 = .ok (.ifCond .eq 12, 3) := by decide +kernel
theorem dX3_state_7 : decode cX3_state 7 = .ok (.aload_n 0, 1) := by decide +kernel
theorem dX3_state_8 : decode cX3_state 8 = .ok (.getfield 82, 3) := by decide +kernel
theorem dX3_state_11 : decode cX3_state 11 = .ok (.iconst 4, 1) := by decide +kernel
theorem dX3_state_12 : decode cX3_state 12 = .ok (.iadd, 1) := by decide +kernel
theorem dX3_state_13 : decode cX3_state 13 = .ok (.goto 7, 3) := by decide +kernel
theorem dX3_state_16 : decode cX3_state 16 = .ok (.aload_n 0, 1) := by decide +kernel
theorem dX3_state_17 : decode cX3_state 17 = .ok (.getfield 82, 3) := by decide +kernel
theorem dX3_state_20 : decode cX3_state 20 = .ok (.ireturn, 1) := by decide +kernel
set_option maxRecDepth 20000 in
theorem ggL_law_X2_init : GoodIn wsL_law wsX2_init := goodIn_r _ [8, 9, 10, 11, 12, 13, 14, 15, 16, 17, 18, 19, 20, 21, 22, 23, 24, 25, 26, 27, 28, 29, 30, 31, 32, 33, 34, 35, 36, 37, 38, 39, 356, 357, 358, 359, 332, 333, 334, 335, 336, 337, 338, 360, 361, 362, 363] (by decide +kernel) (by decide +kernel)
set_option maxRecDepth 20000 in
theorem gL_law_X2_init : GoodIn wsL_law (wsX2_init) := ggL_law_X2_init
set_option maxRecDepth 20000 in
theorem ggL_law_X3_init : GoodIn wsL_law wsX3_init := goodIn_r _ [42, 43, 10, 11, 20, 44, 45, 46, 47, 48, 49, 50, 51, 52, 53, 54, 55, 56, 5, 57, 58, 59, 60, 61, 62, 63, 64, 65, 66, 67, 68, 69, 339, 340, 341, 342, 343, 344, 345, 346, 347, 348, 349, 350, 351, 352, 353, 354, 355] (by decide +kernel) (by decide +kernel)
set_option maxRecDepth 20000 in
theorem gL_law_X3_init : GoodIn wsL_law (wsX3_init) := ggL_law_X3_init
set_option maxRecDepth 20000 in
theorem ggL_law_X2_init_ : GoodIn wsL_law wsX2_init_ := goodIn_r _ [73, 22, 332, 333, 334, 335, 336, 337, 338] (by decide +kernel) (by decide +kernel)
set_option maxRecDepth 20000 in
theorem gL_law_X2_init_ : GoodIn wsL_law (wsV RL 13 RX2 yX2_init_ wsX2_init_) := goodIn_app (goodIn_of _ (by decide +kernel)) ggL_law_X2_init_
set_option maxRecDepth 20000 in
theorem ggL_law_X3_init_ : GoodIn wsL_law wsX3_init_ := goodIn_r _ [77, 78, 339, 340, 341, 342, 343, 344, 345, 346, 347, 348, 349, 350, 351, 352, 353, 354, 355] (by decide +kernel) (by decide +kernel)
set_option maxRecDepth 20000 in
theorem gL_law_X3_init_ : GoodIn wsL_law (wsV RL 16 RX3 yX3_init_ wsX3_init_) := goodIn_app (goodIn_of _ (by decide +kernel)) ggL_law_X3_init_
set_option maxRecDepth 20000 in
theorem ggL_law_X2_beginSha : GoodIn wsL_law wsX2_beginSha := goodIn_r _ [82, 22, 15, 83, 84, 85, 14, 86, 87, 29, 88, 89, 90, 91, 32, 92, 93, 94, 2, 95, 24, 23, 25, 332, 333, 334, 335, 336, 337, 338, 356, 357, 358, 359] (by decide +kernel) (by decide +kernel)
set_option maxRecDepth 20000 in
theorem gL_law_X2_beginSha : GoodIn wsL_law (wsV RL 17 RX2 yX2_beginSha wsX2_beginSha) := goodIn_app (goodIn_of _ (by decide +kernel)) ggL_law_X2_beginSha
set_option maxRecDepth 20000 in
theorem ggL_law_X3_beginSha : GoodIn wsL_law wsX3_beginSha := goodIn_r _ [99, 78, 47, 49, 100, 101, 102, 5, 103, 104, 105, 106, 107, 339, 340, 341, 342, 343, 344, 345, 346, 347, 348, 349, 350, 351, 352, 353, 354, 355] (by decide +kernel) (by decide +kernel)
set_option maxRecDepth 20000 in
theorem gL_law_X3_beginSha : GoodIn wsL_law (wsV RL 21 RX3 yX3_beginSha wsX3_beginSha) := goodIn_app (goodIn_of _ (by decide +kernel)) ggL_law_X3_beginSha
set_option maxRecDepth 20000 in
theorem ggL_law_X2_sipKey : GoodIn wsL_law wsX2_sipKey := goodIn_r _ [111, 21, 332, 333, 334, 335, 336, 337, 338] (by decide +kernel) (by decide +kernel)
set_option maxRecDepth 20000 in
theorem gL_law_X2_sipKey : GoodIn wsL_law (wsV RL 22 RX2 yX2_sipKey wsX2_sipKey) := goodIn_app (goodIn_of _ (by decide +kernel)) ggL_law_X2_sipKey
set_option maxRecDepth 20000 in
theorem ggL_law_X3_sipKey : GoodIn wsL_law wsX3_sipKey := goodIn_r _ [115, 44, 339, 340, 341, 342, 343, 344, 345, 346, 347, 348, 349, 350, 351, 352, 353, 354, 355] (by decide +kernel) (by decide +kernel)
set_option maxRecDepth 20000 in
theorem gL_law_X3_sipKey : GoodIn wsL_law (wsV RL 26 RX3 yX3_sipKey wsX3_sipKey) := goodIn_app (goodIn_of _ (by decide +kernel)) ggL_law_X3_sipKey
set_option maxRecDepth 20000 in
theorem ggL_law_X2_beginSip : GoodIn wsL_law wsX2_beginSip := goodIn_r _ [119, 22, 19, 21, 120, 121, 122, 18, 123, 36, 124, 39, 92, 93, 94, 2, 95, 24, 23, 25, 332, 333, 334, 335, 336, 337, 338, 360, 361, 362, 363] (by decide +kernel) (by decide +kernel)
set_option maxRecDepth 20000 in
theorem gL_law_X2_beginSip : GoodIn wsL_law (wsV RL 27 RX2 yX2_beginSip wsX2_beginSip) := goodIn_app (goodIn_of _ (by decide +kernel)) ggL_law_X2_beginSip
set_option maxRecDepth 20000 in
theorem ggL_law_X3_beginSip : GoodIn wsL_law wsX3_beginSip := goodIn_r _ [128, 78, 44, 129, 130, 47, 131, 132, 133, 134, 100, 101, 102, 5, 103, 104, 105, 106, 107, 135, 136, 137, 138, 339, 340, 341, 342, 343, 344, 345, 346, 347, 348, 349, 350, 351, 352, 353, 354, 355] (by decide +kernel) (by decide +kernel)
set_option maxRecDepth 20000 in
theorem gL_law_X3_beginSip : GoodIn wsL_law (wsV RL 31 RX3 yX3_beginSip wsX3_beginSip) := goodIn_app (goodIn_of _ (by decide +kernel)) ggL_law_X3_beginSip
set_option maxRecDepth 20000 in
theorem ggL_law_X2_update : GoodIn wsL_law wsX2_update := goodIn_r _ [142, 23, 143, 144, 145, 2, 146, 24, 19, 15, 25, 147, 148, 149, 18, 150, 38, 37, 39, 151, 152, 153, 154, 155, 156, 36, 157, 158, 159, 160, 161, 162, 163, 164, 165, 166, 167, 168, 169, 170, 171, 172, 173, 174, 175, 176, 14, 177, 32, 31, 178, 179, 180, 181, 29, 30, 88, 89, 90, 91, 182, 183, 184, 185, 186, 187, 188, 189, 190, 191, 192, 193, 194, 195, 196, 197, 198, 199, 200, 201, 202, 203, 204, 332, 333, 334, 335, 336, 337, 338, 360, 361, 362, 363, 356, 357, 358, 359] (by decide +kernel) (by decide +kernel)
set_option maxRecDepth 20000 in
theorem gL_law_X2_update : GoodIn wsL_law (wsV RL 32 RX2 yX2_update wsX2_update) := goodIn_app (goodIn_of _ (by decide +kernel)) ggL_law_X2_update
set_option maxRecDepth 20000 in
theorem ggL_law_X3_update : GoodIn wsL_law wsX3_update := goodIn_r _ [208, 106, 209, 210, 211, 5, 212, 104, 105, 213, 214, 215, 216, 45, 107, 217, 218, 219, 220, 47, 221, 222, 223, 224, 225, 226, 227, 228, 229, 230, 231, 232, 233, 234, 50, 51, 235, 48, 339, 340, 341, 342, 343, 344, 345, 346, 347, 348, 349, 350, 351, 352, 353, 354, 355] (by decide +kernel) (by decide +kernel)
set_option maxRecDepth 20000 in
theorem gL_law_X3_update : GoodIn wsL_law (wsV RL 35 RX3 yX3_update wsX3_update) := goodIn_app (goodIn_of _ (by decide +kernel)) ggL_law_X3_update
set_option maxRecDepth 20000 in
theorem ggL_law_X2_updates : GoodIn wsL_law wsX2_updates := goodIn_r _ [239, 23, 143, 144, 145, 2, 146, 24, 19, 15, 25, 147, 148, 149, 18, 150, 38, 37, 39, 151, 152, 153, 154, 155, 156, 36, 157, 158, 159, 160, 161, 162, 163, 164, 165, 166, 167, 168, 169, 170, 171, 172, 173, 174, 175, 176, 14, 177, 32, 31, 178, 179, 180, 181, 29, 30, 88, 89, 90, 91, 182, 183, 184, 185, 186, 187, 188, 189, 190, 191, 192, 193, 194, 195, 196, 197, 198, 199, 200, 201, 202, 203, 204, 332, 333, 334, 335, 336, 337, 338, 360, 361, 362, 363, 356, 357, 358, 359] (by decide +kernel) (by decide +kernel)
set_option maxRecDepth 20000 in
theorem gL_law_X2_updates : GoodIn wsL_law (wsV RL 36 RX2 yX2_updates wsX2_updates) := goodIn_app (goodIn_of _ (by decide +kernel)) ggL_law_X2_updates
set_option maxRecDepth 20000 in
theorem ggL_law_X3_updates : GoodIn wsL_law wsX3_updates := goodIn_r _ [243, 106, 209, 210, 211, 5, 212, 104, 105, 213, 214, 215, 216, 45, 107, 217, 218, 219, 220, 47, 221, 222, 223, 224, 225, 226, 227, 228, 229, 230, 231, 232, 233, 234, 50, 51, 235, 48, 339, 340, 341, 342, 343, 344, 345, 346, 347, 348, 349, 350, 351, 352, 353, 354, 355] (by decide +kernel) (by decide +kernel)
set_option maxRecDepth 20000 in
theorem gL_law_X3_updates : GoodIn wsL_law (wsV RL 40 RX3 yX3_updates wsX3_updates) := goodIn_app (goodIn_of _ (by decide +kernel)) ggL_law_X3_updates
set_option maxRecDepth 20000 in
theorem ggL_law_X2_close : GoodIn wsL_law wsX2_close := goodIn_r _ [247, 23, 24, 19, 25, 15, 248, 249, 250, 18, 251, 36, 252, 148, 149, 150, 38, 37, 39, 151, 2, 152, 153, 154, 155, 156, 157, 158, 159, 160, 161, 162, 163, 164, 165, 166, 167, 168, 169, 170, 171, 172, 173, 253, 254, 255, 14, 256, 31, 257, 175, 176, 177, 32, 178, 179, 180, 181, 29, 30, 88, 89, 90, 91, 182, 183, 184, 185, 186, 187, 188, 189, 190, 191, 192, 193, 194, 195, 196, 197, 198, 199, 200, 201, 202, 203, 204, 332, 333, 334, 335, 336, 337, 338, 360, 361, 362, 363, 356, 357, 358, 359] (by decide +kernel) (by decide +kernel)
set_option maxRecDepth 20000 in
theorem gL_law_X2_close : GoodIn wsL_law (wsV RL 41 RX2 yX2_close wsX2_close) := goodIn_app (goodIn_of _ (by decide +kernel)) ggL_law_X2_close
set_option maxRecDepth 20000 in
theorem ggL_law_X3_close : GoodIn wsL_law wsX3_close := goodIn_r _ [261, 104, 107, 106, 47, 262, 263, 105, 209, 210, 211, 5, 212, 213, 214, 215, 216, 45, 217, 218, 219, 220, 221, 222, 223, 224, 225, 226, 227, 228, 229, 230, 231, 232, 233, 234, 50, 51, 235, 48, 339, 340, 341, 342, 343, 344, 345, 346, 347, 348, 349, 350, 351, 352, 353, 354, 355] (by decide +kernel) (by decide +kernel)
set_option maxRecDepth 20000 in
theorem gL_law_X3_close : GoodIn wsL_law (wsV RL 44 RX3 yX3_close wsX3_close) := goodIn_app (goodIn_of _ (by decide +kernel)) ggL_law_X3_close
set_option maxRecDepth 20000 in
theorem ggL_law_X2_word : GoodIn wsL_law wsX2_word := goodIn_r _ [267, 23, 24, 19, 15, 268, 269, 2, 270, 271, 272, 273, 18, 274, 36, 275, 276, 277, 14, 278, 29, 332, 333, 334, 335, 336, 337, 338, 360, 361, 362, 363, 356, 357, 358, 359] (by decide +kernel) (by decide +kernel)
set_option maxRecDepth 20000 in
theorem gL_law_X2_word : GoodIn wsL_law (wsV RL 45 RX2 yX2_word wsX2_word) := goodIn_app (goodIn_of _ (by decide +kernel)) ggL_law_X2_word
set_option maxRecDepth 20000 in
theorem ggL_law_X3_word : GoodIn wsL_law wsX3_word := goodIn_r _ [282, 104, 105, 47, 339, 340, 341, 342, 343, 344, 345, 346, 347, 348, 349, 350, 351, 352, 353, 354, 355] (by decide +kernel) (by decide +kernel)
set_option maxRecDepth 20000 in
theorem gL_law_X3_word : GoodIn wsL_law (wsV RL 49 RX3 yX3_word wsX3_word) := goodIn_app (goodIn_of _ (by decide +kernel)) ggL_law_X3_word
set_option maxRecDepth 20000 in
theorem ggL_law_X2_length : GoodIn wsL_law wsX2_length := goodIn_r _ [286, 25, 332, 333, 334, 335, 336, 337, 338] (by decide +kernel) (by decide +kernel)
set_option maxRecDepth 20000 in
theorem gL_law_X2_length : GoodIn wsL_law (wsV RL 50 RX2 yX2_length wsX2_length) := goodIn_app (goodIn_of _ (by decide +kernel)) ggL_law_X2_length
set_option maxRecDepth 20000 in
theorem ggL_law_X3_length : GoodIn wsL_law wsX3_length := goodIn_r _ [290, 106, 339, 340, 341, 342, 343, 344, 345, 346, 347, 348, 349, 350, 351, 352, 353, 354, 355] (by decide +kernel) (by decide +kernel)
set_option maxRecDepth 20000 in
theorem gL_law_X3_length : GoodIn wsL_law (wsV RL 54 RX3 yX3_length wsX3_length) := goodIn_app (goodIn_of _ (by decide +kernel)) ggL_law_X3_length
set_option maxRecDepth 20000 in
theorem ggL_law_X2_state : GoodIn wsL_law wsX2_state := goodIn_r _ [294, 24, 23, 332, 333, 334, 335, 336, 337, 338] (by decide +kernel) (by decide +kernel)
set_option maxRecDepth 20000 in
theorem gL_law_X2_state : GoodIn wsL_law (wsV RL 55 RX2 yX2_state wsX2_state) := goodIn_app (goodIn_of _ (by decide +kernel)) ggL_law_X2_state
set_option maxRecDepth 20000 in
theorem ggL_law_X3_state : GoodIn wsL_law wsX3_state := goodIn_r _ [298, 105, 104, 339, 340, 341, 342, 343, 344, 345, 346, 347, 348, 349, 350, 351, 352, 353, 354, 355] (by decide +kernel) (by decide +kernel)
set_option maxRecDepth 20000 in
theorem gL_law_X3_state : GoodIn wsL_law (wsV RL 58 RX3 yX3_state wsX3_state) := goodIn_app (goodIn_of _ (by decide +kernel)) ggL_law_X3_state
set_option maxRecDepth 20000 in
theorem ggL_law_X2_add64Lo : GoodIn wsL_law wsX2_add64Lo := goodIn_r _ [302] (by decide +kernel) (by decide +kernel)
set_option maxRecDepth 20000 in
theorem gL_law_X2_add64Lo : GoodIn wsL_law (wsV RL 59 RX2 yX2_add64Lo wsX2_add64Lo) := goodIn_app (goodIn_of _ (by decide +kernel)) ggL_law_X2_add64Lo
set_option maxRecDepth 20000 in
theorem ggL_law_X3_add64Lo : GoodIn wsL_law wsX3_add64Lo := goodIn_r _ [306, 135, 136, 5, 137, 138] (by decide +kernel) (by decide +kernel)
set_option maxRecDepth 20000 in
theorem gL_law_X3_add64Lo : GoodIn wsL_law (wsV RL 63 RX3 yX3_add64Lo wsX3_add64Lo) := goodIn_app (goodIn_of _ (by decide +kernel)) ggL_law_X3_add64Lo
set_option maxRecDepth 20000 in
theorem ggL_law_X2_add64Hi : GoodIn wsL_law wsX2_add64Hi := goodIn_r _ [310, 167, 168, 2, 169] (by decide +kernel) (by decide +kernel)
set_option maxRecDepth 20000 in
theorem gL_law_X2_add64Hi : GoodIn wsL_law (wsV RL 64 RX2 yX2_add64Hi wsX2_add64Hi) := goodIn_app (goodIn_of _ (by decide +kernel)) ggL_law_X2_add64Hi
set_option maxRecDepth 20000 in
theorem ggL_law_X3_add64Hi : GoodIn wsL_law wsX3_add64Hi := goodIn_r _ [314, 135, 136, 5, 137, 138] (by decide +kernel) (by decide +kernel)
set_option maxRecDepth 20000 in
theorem gL_law_X3_add64Hi : GoodIn wsL_law (wsV RL 67 RX3 yX3_add64Hi wsX3_add64Hi) := goodIn_app (goodIn_of _ (by decide +kernel)) ggL_law_X3_add64Hi
set_option maxRecDepth 20000 in
theorem ggL_law_X2_rotr64Hi : GoodIn wsL_law wsX2_rotr64Hi := goodIn_r _ [318, 319, 151, 2, 152] (by decide +kernel) (by decide +kernel)
set_option maxRecDepth 20000 in
theorem gL_law_X2_rotr64Hi : GoodIn wsL_law (wsV RL 68 RX2 yX2_rotr64Hi wsX2_rotr64Hi) := goodIn_app (goodIn_of _ (by decide +kernel)) ggL_law_X2_rotr64Hi
set_option maxRecDepth 20000 in
theorem ggL_law_X3_rotr64Hi : GoodIn wsL_law wsX3_rotr64Hi := goodIn_r _ [323, 135, 136, 5, 137, 138, 228, 229, 230] (by decide +kernel) (by decide +kernel)
set_option maxRecDepth 20000 in
theorem gL_law_X3_rotr64Hi : GoodIn wsL_law (wsV RL 72 RX3 yX3_rotr64Hi wsX3_rotr64Hi) := goodIn_app (goodIn_of _ (by decide +kernel)) ggL_law_X3_rotr64Hi
set_option maxRecDepth 20000 in
theorem ggL_law_X2_rotr64Lo : GoodIn wsL_law wsX2_rotr64Lo := goodIn_r _ [327, 319, 151, 2, 152] (by decide +kernel) (by decide +kernel)
set_option maxRecDepth 20000 in
theorem gL_law_X2_rotr64Lo : GoodIn wsL_law (wsV RL 73 RX2 yX2_rotr64Lo wsX2_rotr64Lo) := goodIn_app (goodIn_of _ (by decide +kernel)) ggL_law_X2_rotr64Lo
set_option maxRecDepth 20000 in
theorem ggL_law_X3_rotr64Lo : GoodIn wsL_law wsX3_rotr64Lo := goodIn_r _ [331, 135, 136, 5, 137, 138, 228, 229, 230] (by decide +kernel) (by decide +kernel)
set_option maxRecDepth 20000 in
theorem gL_law_X3_rotr64Lo : GoodIn wsL_law (wsV RL 76 RX3 yX3_rotr64Lo wsX3_rotr64Lo) := goodIn_app (goodIn_of _ (by decide +kernel)) ggL_law_X3_rotr64Lo
theorem dL_law_0 : decode cL_law 0 = .ok (.new 7, 3) := by decide +kernel
theorem dL_law_3 : decode cL_law 3 = .ok (.dup, 1) := by decide +kernel
theorem dL_law_4 : decode cL_law 4 = .ok (.invokespecial 9, 3) := by decide +kernel
theorem dL_law_7 : decode cL_law 7 = .ok (.astore_n 1, 1) := by decide +kernel
theorem dL_law_8 : decode cL_law 8 = .ok (.new 10, 3) := by decide +kernel
theorem dL_law_11 : decode cL_law 11 = .ok (.dup, 1) := by decide +kernel
theorem dL_law_12 : decode cL_law 12 = .ok (.invokespecial 12, 3) := by decide +kernel
theorem dL_law_15 : decode cL_law 15 = .ok (.astore_n 2, 1) := by decide +kernel
theorem dL_law_16 : decode cL_law 16 = .ok (.iconst 0, 1) := by decide +kernel
theorem dL_law_17 : decode cL_law 17 = .ok (.istore_n 3, 1) := by decide +kernel
theorem dL_law_18 : decode cL_law 18 = .ok (.iload_n 3, 1) := by decide +kernel
theorem dL_law_19 : decode cL_law 19 = .ok (.aload_n 0, 1) := by decide +kernel
theorem dL_law_20 : decode cL_law 20 = .ok (.arraylength, 1) := by decide +kernel
theorem dL_law_21 : decode cL_law 21 = .ok (.iconst 5, 1) := by decide +kernel
theorem dL_law_22 : decode cL_law 22 = .ok (.isub, 1) := by decide +kernel
theorem dL_law_23 : decode cL_law 23 = .ok (.if_icmp .gt 487, 3) := by decide +kernel
theorem dL_law_26 : decode cL_law 26 = .ok (.aload_n 0, 1) := by decide +kernel
theorem dL_law_27 : decode cL_law 27 = .ok (.iload_n 3, 1) := by decide +kernel
theorem dL_law_28 : decode cL_law 28 = .ok (.iaload, 1) := by decide +kernel
theorem dL_law_29 : decode cL_law 29 = .ok (.bipush 15, 2) := by decide +kernel
theorem dL_law_31 : decode cL_law 31 = .ok (.iand, 1) := by decide +kernel
theorem dL_law_32 : decode cL_law 32 = .ok (.tableswitch 472 0 13 #[72, 83, 106, 139, 152, 175, 218, 231, 254, 267, 280, 333, 386, 429], 72) := by decide +kernel
theorem dL_law_104 : decode cL_law 104 = .ok (.aload_n 1, 1) := by decide +kernel
theorem dL_law_105 : decode cL_law 105 = .ok (.invokevirtual 13, 3) := by decide +kernel
theorem dL_law_108 : decode cL_law 108 = .ok (.aload_n 2, 1) := by decide +kernel
theorem dL_law_109 : decode cL_law 109 = .ok (.invokevirtual 16, 3) := by decide +kernel
theorem dL_law_112 : decode cL_law 112 = .ok (.goto 392, 3) := by decide +kernel
theorem dL_law_115 : decode cL_law 115 = .ok (.aload_n 1, 1) := by decide +kernel
theorem dL_law_116 : decode cL_law 116 = .ok (.aload_n 0, 1) := by decide +kernel
theorem dL_law_117 : decode cL_law 117 = .ok (.iload_n 3, 1) := by decide +kernel
theorem dL_law_118 : decode cL_law 118 = .ok (.iconst 1, 1) := by decide +kernel
theorem dL_law_119 : decode cL_law 119 = .ok (.iadd, 1) := by decide +kernel
theorem dL_law_120 : decode cL_law 120 = .ok (.iaload, 1) := by decide +kernel
theorem dL_law_121 : decode cL_law 121 = .ok (.invokevirtual 17, 3) := by decide +kernel
theorem dL_law_124 : decode cL_law 124 = .ok (.aload_n 2, 1) := by decide +kernel
theorem dL_law_125 : decode cL_law 125 = .ok (.aload_n 0, 1) := by decide +kernel
theorem dL_law_126 : decode cL_law 126 = .ok (.iload_n 3, 1) := by decide +kernel
theorem dL_law_127 : decode cL_law 127 = .ok (.iconst 1, 1) := by decide +kernel
theorem dL_law_128 : decode cL_law 128 = .ok (.iadd, 1) := by decide +kernel
theorem dL_law_129 : decode cL_law 129 = .ok (.iaload, 1) := by decide +kernel
theorem dL_law_130 : decode cL_law 130 = .ok (.invokevirtual 21, 3) := by decide +kernel
theorem dL_law_133 : decode cL_law 133 = .ok (.if_icmp .eq 371, 3) := by decide +kernel
theorem dL_law_136 : decode cL_law 136 = .ok (.iconst 0, 1) := by decide +kernel
theorem dL_law_137 : decode cL_law 137 = .ok (.ireturn, 1) := by decide +kernel
theorem dL_law_138 : decode cL_law 138 = .ok (.aload_n 1, 1) := by decide +kernel
theorem dL_law_139 : decode cL_law 139 = .ok (.aload_n 0, 1) := by decide +kernel
theorem dL_law_140 : decode cL_law 140 = .ok (.iload_n 3, 1) := by decide +kernel
theorem dL_law_141 : decode cL_law 141 = .ok (.iconst 1, 1) := by decide +kernel
theorem dL_law_142 : decode cL_law 142 = .ok (.iadd, 1) := by decide +kernel
theorem dL_law_143 : decode cL_law 143 = .ok (.iaload, 1) := by decide +kernel
theorem dL_law_144 : decode cL_law 144 = .ok (.aload_n 0, 1) := by decide +kernel
theorem dL_law_145 : decode cL_law 145 = .ok (.iload_n 3, 1) := by decide +kernel
theorem dL_law_146 : decode cL_law 146 = .ok (.iconst 2, 1) := by decide +kernel
theorem dL_law_147 : decode cL_law 147 = .ok (.iadd, 1) := by decide +kernel
theorem dL_law_148 : decode cL_law 148 = .ok (.iaload, 1) := by decide +kernel
theorem dL_law_149 : decode cL_law 149 = .ok (.invokevirtual 22, 3) := by decide +kernel
theorem dL_law_152 : decode cL_law 152 = .ok (.aload_n 2, 1) := by decide +kernel
theorem dL_law_153 : decode cL_law 153 = .ok (.aload_n 0, 1) := by decide +kernel
theorem dL_law_154 : decode cL_law 154 = .ok (.iload_n 3, 1) := by decide +kernel
theorem dL_law_155 : decode cL_law 155 = .ok (.iconst 1, 1) := by decide +kernel
theorem dL_law_156 : decode cL_law 156 = .ok (.iadd, 1) := by decide +kernel
theorem dL_law_157 : decode cL_law 157 = .ok (.iaload, 1) := by decide +kernel
theorem dL_law_158 : decode cL_law 158 = .ok (.aload_n 0, 1) := by decide +kernel
theorem dL_law_159 : decode cL_law 159 = .ok (.iload_n 3, 1) := by decide +kernel
theorem dL_law_160 : decode cL_law 160 = .ok (.iconst 2, 1) := by decide +kernel
theorem dL_law_161 : decode cL_law 161 = .ok (.iadd, 1) := by decide +kernel
theorem dL_law_162 : decode cL_law 162 = .ok (.iaload, 1) := by decide +kernel
theorem dL_law_163 : decode cL_law 163 = .ok (.invokevirtual 26, 3) := by decide +kernel
theorem dL_law_166 : decode cL_law 166 = .ok (.if_icmp .eq 338, 3) := by decide +kernel
theorem dL_law_169 : decode cL_law 169 = .ok (.iconst 0, 1) := by decide +kernel
theorem dL_law_170 : decode cL_law 170 = .ok (.ireturn, 1) := by decide +kernel
theorem dL_law_171 : decode cL_law 171 = .ok (.aload_n 1, 1) := by decide +kernel
theorem dL_law_172 : decode cL_law 172 = .ok (.invokevirtual 27, 3) := by decide +kernel
theorem dL_law_175 : decode cL_law 175 = .ok (.aload_n 2, 1) := by decide +kernel
theorem dL_law_176 : decode cL_law 176 = .ok (.invokevirtual 31, 3) := by decide +kernel
theorem dL_law_179 : decode cL_law 179 = .ok (.if_icmp .eq 325, 3) := by decide +kernel
theorem dL_law_182 : decode cL_law 182 = .ok (.iconst 0, 1) := by decide +kernel
theorem dL_law_183 : decode cL_law 183 = .ok (.ireturn, 1) := by decide +kernel
theorem dL_law_184 : decode cL_law 184 = .ok (.aload_n 1, 1) := by decide +kernel
theorem dL_law_185 : decode cL_law 185 = .ok (.aload_n 0, 1) := by decide +kernel
theorem dL_law_186 : decode cL_law 186 = .ok (.iload_n 3, 1) := by decide +kernel
theorem dL_law_187 : decode cL_law 187 = .ok (.iconst 1, 1) := by decide +kernel
theorem dL_law_188 : decode cL_law 188 = .ok (.iadd, 1) := by decide +kernel
theorem dL_law_189 : decode cL_law 189 = .ok (.iaload, 1) := by decide +kernel
theorem dL_law_190 : decode cL_law 190 = .ok (.invokevirtual 32, 3) := by decide +kernel
theorem dL_law_193 : decode cL_law 193 = .ok (.aload_n 2, 1) := by decide +kernel
theorem dL_law_194 : decode cL_law 194 = .ok (.aload_n 0, 1) := by decide +kernel
theorem dL_law_195 : decode cL_law 195 = .ok (.iload_n 3, 1) := by decide +kernel
theorem dL_law_196 : decode cL_law 196 = .ok (.iconst 1, 1) := by decide +kernel
theorem dL_law_197 : decode cL_law 197 = .ok (.iadd, 1) := by decide +kernel
theorem dL_law_198 : decode cL_law 198 = .ok (.iaload, 1) := by decide +kernel
theorem dL_law_199 : decode cL_law 199 = .ok (.invokevirtual 35, 3) := by decide +kernel
theorem dL_law_202 : decode cL_law 202 = .ok (.if_icmp .eq 302, 3) := by decide +kernel
theorem dL_law_205 : decode cL_law 205 = .ok (.iconst 0, 1) := by decide +kernel
theorem dL_law_206 : decode cL_law 206 = .ok (.ireturn, 1) := by decide +kernel
theorem dL_law_207 : decode cL_law 207 = .ok (.aload_n 1, 1) := by decide +kernel
theorem dL_law_208 : decode cL_law 208 = .ok (.aload_n 0, 1) := by decide +kernel
theorem dL_law_209 : decode cL_law 209 = .ok (.iload_n 3, 1) := by decide +kernel
theorem dL_law_210 : decode cL_law 210 = .ok (.iconst 1, 1) := by decide +kernel
theorem dL_law_211 : decode cL_law 211 = .ok (.iadd, 1) := by decide +kernel
theorem dL_law_212 : decode cL_law 212 = .ok (.iaload, 1) := by decide +kernel
theorem dL_law_213 : decode cL_law 213 = .ok (.aload_n 0, 1) := by decide +kernel
theorem dL_law_214 : decode cL_law 214 = .ok (.iload_n 3, 1) := by decide +kernel
theorem dL_law_215 : decode cL_law 215 = .ok (.iconst 2, 1) := by decide +kernel
theorem dL_law_216 : decode cL_law 216 = .ok (.iadd, 1) := by decide +kernel
theorem dL_law_217 : decode cL_law 217 = .ok (.iaload, 1) := by decide +kernel
theorem dL_law_218 : decode cL_law 218 = .ok (.aload_n 0, 1) := by decide +kernel
theorem dL_law_219 : decode cL_law 219 = .ok (.iload_n 3, 1) := by decide +kernel
theorem dL_law_220 : decode cL_law 220 = .ok (.iconst 3, 1) := by decide +kernel
theorem dL_law_221 : decode cL_law 221 = .ok (.iadd, 1) := by decide +kernel
theorem dL_law_222 : decode cL_law 222 = .ok (.iaload, 1) := by decide +kernel
theorem dL_law_223 : decode cL_law 223 = .ok (.invokevirtual 36, 3) := by decide +kernel
theorem dL_law_226 : decode cL_law 226 = .ok (.aload_n 2, 1) := by decide +kernel
theorem dL_law_227 : decode cL_law 227 = .ok (.aload_n 0, 1) := by decide +kernel
theorem dL_law_228 : decode cL_law 228 = .ok (.iload_n 3, 1) := by decide +kernel
theorem dL_law_229 : decode cL_law 229 = .ok (.iconst 1, 1) := by decide +kernel
theorem dL_law_230 : decode cL_law 230 = .ok (.iadd, 1) := by decide +kernel
theorem dL_law_231 : decode cL_law 231 = .ok (.iaload, 1) := by decide +kernel
theorem dL_law_232 : decode cL_law 232 = .ok (.aload_n 0, 1) := by decide +kernel
theorem dL_law_233 : decode cL_law 233 = .ok (.iload_n 3, 1) := by decide +kernel
theorem dL_law_234 : decode cL_law 234 = .ok (.iconst 2, 1) := by decide +kernel
theorem dL_law_235 : decode cL_law 235 = .ok (.iadd, 1) := by decide +kernel
theorem dL_law_236 : decode cL_law 236 = .ok (.iaload, 1) := by decide +kernel
theorem dL_law_237 : decode cL_law 237 = .ok (.aload_n 0, 1) := by decide +kernel
theorem dL_law_238 : decode cL_law 238 = .ok (.iload_n 3, 1) := by decide +kernel
theorem dL_law_239 : decode cL_law 239 = .ok (.iconst 3, 1) := by decide +kernel
theorem dL_law_240 : decode cL_law 240 = .ok (.iadd, 1) := by decide +kernel
theorem dL_law_241 : decode cL_law 241 = .ok (.iaload, 1) := by decide +kernel
theorem dL_law_242 : decode cL_law 242 = .ok (.invokevirtual 40, 3) := by decide +kernel
theorem dL_law_245 : decode cL_law 245 = .ok (.if_icmp .eq 259, 3) := by decide +kernel
theorem dL_law_248 : decode cL_law 248 = .ok (.iconst 0, 1) := by decide +kernel
theorem dL_law_249 : decode cL_law 249 = .ok (.ireturn, 1) := by decide +kernel
theorem dL_law_250 : decode cL_law 250 = .ok (.aload_n 1, 1) := by decide +kernel
theorem dL_law_251 : decode cL_law 251 = .ok (.invokevirtual 41, 3) := by decide +kernel
theorem dL_law_254 : decode cL_law 254 = .ok (.aload_n 2, 1) := by decide +kernel
theorem dL_law_255 : decode cL_law 255 = .ok (.invokevirtual 44, 3) := by decide +kernel
theorem dL_law_258 : decode cL_law 258 = .ok (.if_icmp .eq 246, 3) := by decide +kernel
theorem dL_law_261 : decode cL_law 261 = .ok (.iconst 0, 1) := by decide +kernel
theorem dL_law_262 : decode cL_law 262 = .ok (.ireturn, 1) := by decide +kernel
theorem dL_law_263 : decode cL_law 263 = .ok (.aload_n 1, 1) := by decide +kernel
theorem dL_law_264 : decode cL_law 264 = .ok (.aload_n 0, 1) := by decide +kernel
theorem dL_law_265 : decode cL_law 265 = .ok (.iload_n 3, 1) := by decide +kernel
theorem dL_law_266 : decode cL_law 266 = .ok (.iconst 1, 1) := by decide +kernel
theorem dL_law_267 : decode cL_law 267 = .ok (.iadd, 1) := by decide +kernel
theorem dL_law_268 : decode cL_law 268 = .ok (.iaload, 1) := by decide +kernel

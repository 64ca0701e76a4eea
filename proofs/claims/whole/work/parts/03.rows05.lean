theorem dX3_sipRounds_72 : decode cX3_sipRounds 72 = .ok (.bipush 16, 2) := by decide +kernel
theorem dX3_sipRounds_74 : decode cX3_sipRounds 74 = .ok (.invokestatic 71, 3) := by decide +kernel
theorem dX3_sipRounds_77 : decode cX3_sipRounds 77 = .ok (.aload_n 0, 1) := by decide +kernel
theorem dX3_sipRounds_78 : decode cX3_sipRounds 78 = .ok (.getfield 16, 3) := by decide +kernel
theorem dX3_sipRounds_81 : decode cX3_sipRounds 81 = .ok (.iconst 2, 1) := by decide +kernel
theorem dX3_sipRounds_82 : decode cX3_sipRounds 82 = .ok (.laload, 1) := by decide +kernel
theorem dX3_sipRounds_83 : decode cX3_sipRounds 83 = .ok (.lxor, 1) := by decide +kernel
theorem dX3_sipRounds_84 : decode cX3_sipRounds 84 = .ok (.lastore, 1) := by decide +kernel
theorem dX3_sipRounds_85 : decode cX3_sipRounds 85 = .ok (.aload_n 0, 1) := by decide +kernel
theorem dX3_sipRounds_86 : decode cX3_sipRounds 86 = .ok (.getfield 16, 3) := by decide +kernel
theorem dX3_sipRounds_89 : decode cX3_sipRounds 89 = .ok (.iconst 0, 1) := by decide +kernel
theorem dX3_sipRounds_90 : decode cX3_sipRounds 90 = .ok (.aload_n 0, 1) := by decide +kernel
theorem dX3_sipRounds_91 : decode cX3_sipRounds 91 = .ok (.getfield 16, 3) := by decide +kernel
theorem dX3_sipRounds_94 : decode cX3_sipRounds 94 = .ok (.iconst 0, 1) := by decide +kernel
theorem dX3_sipRounds_95 : decode cX3_sipRounds 95 = .ok (.laload, 1) := by decide +kernel
theorem dX3_sipRounds_96 : decode cX3_sipRounds 96 = .ok (.bipush 32, 2) := by decide +kernel
theorem dX3_sipRounds_98 : decode cX3_sipRounds 98 = .ok (.invokestatic 71, 3) := by decide +kernel
theorem dX3_sipRounds_101 : decode cX3_sipRounds 101 = .ok (.lastore, 1) := by decide +kernel
theorem dX3_sipRounds_102 : decode cX3_sipRounds 102 = .ok (.aload_n 0, 1) := by decide +kernel
theorem dX3_sipRounds_103 : decode cX3_sipRounds 103 = .ok (.getfield 16, 3) := by decide +kernel
theorem dX3_sipRounds_106 : decode cX3_sipRounds 106 = .ok (.iconst 2, 1) := by decide +kernel
theorem dX3_sipRounds_107 : decode cX3_sipRounds 107 = .ok (.dup2, 1) := by decide +kernel
theorem dX3_sipRounds_108 : decode cX3_sipRounds 108 = .ok (.laload, 1) := by decide +kernel
theorem dX3_sipRounds_109 : decode cX3_sipRounds 109 = .ok (.aload_n 0, 1) := by decide +kernel
theorem dX3_sipRounds_110 : decode cX3_sipRounds 110 = .ok (.getfield 16, 3) := by decide +kernel
theorem dX3_sipRounds_113 : decode cX3_sipRounds 113 = .ok (.iconst 1, 1) := by decide +kernel
theorem dX3_sipRounds_114 : decode cX3_sipRounds 114 = .ok (.laload, 1) := by decide +kernel
theorem dX3_sipRounds_115 : decode cX3_sipRounds 115 = .ok (.ladd, 1) := by decide +kernel
theorem dX3_sipRounds_116 : decode cX3_sipRounds 116 = .ok (.lastore, 1) := by decide +kernel
theorem dX3_sipRounds_117 : decode cX3_sipRounds 117 = .ok (.aload_n 0, 1) := by decide +kernel
theorem dX3_sipRounds_118 : decode cX3_sipRounds 118 = .ok (.getfield 16, 3) := by decide +kernel
theorem dX3_sipRounds_121 : decode cX3_sipRounds 121 = .ok (.iconst 0, 1) := by decide +kernel
theorem dX3_sipRounds_122 : decode cX3_sipRounds 122 = .ok (.dup2, 1) := by decide +kernel
theorem dX3_sipRounds_123 : decode cX3_sipRounds 123 = .ok (.laload, 1) := by decide +kernel
theorem dX3_sipRounds_124 : decode cX3_sipRounds 124 = .ok (.aload_n 0, 1) := by decide +kernel
theorem dX3_sipRounds_125 : decode cX3_sipRounds 125 = .ok (.getfield 16, 3) := by decide +kernel
theorem dX3_sipRounds_128 : decode cX3_sipRounds 128 = .ok (.iconst 3, 1) := by decide +kernel
theorem dX3_sipRounds_129 : decode cX3_sipRounds 129 = .ok (.laload, 1) := by decide +kernel
theorem dX3_sipRounds_130 : decode cX3_sipRounds 130 = .ok (.ladd, 1) := by decide +kernel
theorem dX3_sipRounds_131 : decode cX3_sipRounds 131 = .ok (.lastore, 1) := by decide +kernel
theorem dX3_sipRounds_132 : decode cX3_sipRounds 132 = .ok (.aload_n 0, 1) := by decide +kernel
theorem dX3_sipRounds_133 : decode cX3_sipRounds 133 = .ok (.getfield 16, 3) := by decide +kernel
theorem dX3_sipRounds_136 : decode cX3_sipRounds 136 = .ok (.iconst 1, 1) := by decide +kernel
theorem dX3_sipRounds_137 : decode cX3_sipRounds 137 = .ok (.aload_n 0, 1) := by decide +kernel
theorem dX3_sipRounds_138 : decode cX3_sipRounds 138 = .ok (.getfield 16, 3) := by decide +kernel
theorem dX3_sipRounds_141 : decode cX3_sipRounds 141 = .ok (.iconst 1, 1) := by decide +kernel
theorem dX3_sipRounds_142 : decode cX3_sipRounds 142 = .ok (.laload, 1) := by decide +kernel
theorem dX3_sipRounds_143 : decode cX3_sipRounds 143 = .ok (.bipush 17, 2) := by decide +kernel
theorem dX3_sipRounds_145 : decode cX3_sipRounds 145 = .ok (.invokestatic 71, 3) := by decide +kernel
theorem dX3_sipRounds_148 : decode cX3_sipRounds 148 = .ok (.aload_n 0, 1) := by decide +kernel
theorem dX3_sipRounds_149 : decode cX3_sipRounds 149 = .ok (.getfield 16, 3) := by decide +kernel
theorem dX3_sipRounds_152 : decode cX3_sipRounds 152 = .ok (.iconst 2, 1) := by decide +kernel
theorem dX3_sipRounds_153 : decode cX3_sipRounds 153 = .ok (.laload, 1) := by decide +kernel
theorem dX3_sipRounds_154 : decode cX3_sipRounds 154 = .ok (.lxor, 1) := by decide +kernel
theorem dX3_sipRounds_155 : decode cX3_sipRounds 155 = .ok (.lastore, 1) := by decide +kernel
theorem dX3_sipRounds_156 : decode cX3_sipRounds 156 = .ok (.aload_n 0, 1) := by decide +kernel
theorem dX3_sipRounds_157 : decode cX3_sipRounds 157 = .ok (.getfield 16, 3) := by decide +kernel
theorem dX3_sipRounds_160 : decode cX3_sipRounds 160 = .ok (.iconst 3, 1) := by decide +kernel
theorem dX3_sipRounds_161 : decode cX3_sipRounds 161 = .ok (.aload_n 0, 1) := by decide +kernel
theorem dX3_sipRounds_162 : decode cX3_sipRounds 162 = .ok (.getfield 16, 3) := by decide +kernel
theorem dX3_sipRounds_165 : decode cX3_sipRounds 165 = .ok (.iconst 3, 1) := by decide +kernel
theorem dX3_sipRounds_166 : decode cX3_sipRounds 166 = .ok (.laload, 1) := by decide +kernel
theorem dX3_sipRounds_167 : decode cX3_sipRounds 167 = .ok (.bipush 21, 2) := by decide +kernel
theorem dX3_sipRounds_169 : decode cX3_sipRounds 169 = .ok (.invokestatic 71, 3) := by decide +kernel
theorem dX3_sipRounds_172 : decode cX3_sipRounds 172 = .ok (.aload_n 0, 1) := by decide +kernel
theorem dX3_sipRounds_173 : decode cX3_sipRounds 173 = .ok (.getfield 16, 3) := by decide +kernel
theorem dX3_sipRounds_176 : decode cX3_sipRounds 176 = .ok (.iconst 0, 1) := by decide +kernel
theorem dX3_sipRounds_177 : decode cX3_sipRounds 177 = .ok (.laload, 1) := by decide +kernel
theorem dX3_sipRounds_178 : decode cX3_sipRounds 178 = .ok (.lxor, 1) := by decide +kernel
theorem dX3_sipRounds_179 : decode cX3_sipRounds 179 = .ok (.lastore, 1) := by decide +kernel
theorem dX3_sipRounds_180 : decode cX3_sipRounds 180 = .ok (.aload_n 0, 1) := by decide +kernel
theorem dX3_sipRounds_181 : decode cX3_sipRounds 181 = .ok (.getfield 16, 3) := by decide +kernel
theorem dX3_sipRounds_184 : decode cX3_sipRounds 184 = .ok (.iconst 2, 1) := by decide +kernel
theorem dX3_sipRounds_185 : decode cX3_sipRounds 185 = .ok (.aload_n 0, 1) := by decide +kernel
theorem dX3_sipRounds_186 : decode cX3_sipRounds 186 = .ok (.getfield 16, 3) := by decide +kernel
theorem dX3_sipRounds_189 : decode cX3_sipRounds 189 = .ok (.iconst 2, 1) := by decide +kernel
theorem dX3_sipRounds_190 : decode cX3_sipRounds 190 = .ok (.laload, 1) := by decide +kernel
theorem dX3_sipRounds_191 : decode cX3_sipRounds 191 = .ok (.bipush 32, 2) := by decide +kernel
theorem dX3_sipRounds_193 : decode cX3_sipRounds 193 = .ok (.invokestatic 71, 3) := by decide +kernel
theorem dX3_sipRounds_196 : decode cX3_sipRounds 196 = .ok (.lastore, 1) := by decide +kernel
theorem dX3_sipRounds_197 : decode cX3_sipRounds 197 = .ok (.iinc 2 1, 3) := by decide +kernel
theorem dX3_sipRounds_200 : decode cX3_sipRounds 200 = .ok (.goto (-198), 3) := by decide +kernel
theorem dX3_sipRounds_203 : decode cX3_sipRounds 203 = .ok (.return_, 1) := by decide +kernel
set_option maxRecDepth 20000 in
theorem ggX3_sipBlock_X3_sipRounds : GoodIn wsX3_sipBlock wsX3_sipRounds := goodIn_r _ [7, 2, 8, 9, 6, 10, 11, 12, 13, 14, 15, 16, 17, 18, 19, 20, 21, 22, 23, 24, 25, 26, 27, 28, 29, 30] (by decide +kernel) (by decide +kernel)
set_option maxRecDepth 20000 in
theorem gX3_sipBlock_X3_sipRounds : GoodIn wsX3_sipBlock (wsV RX3 74 RX3 yX3_sipRounds wsX3_sipRounds) := goodIn_app (goodIn_of _ (by decide +kernel)) ggX3_sipBlock_X3_sipRounds
theorem dX3_sipBlock_0 : decode cX3_sipBlock 0 = .ok (.lconst 0, 1) := by decide +kernel
theorem dX3_sipBlock_1 : decode cX3_sipBlock 1 = .ok (.lstore_n 1, 1) := by decide +kernel
theorem dX3_sipBlock_2 : decode cX3_sipBlock 2 = .ok (.bipush 7, 2) := by decide +kernel
theorem dX3_sipBlock_4 : decode cX3_sipBlock 4 = .ok (.istore_n 3, 1) := by decide +kernel
theorem dX3_sipBlock_5 : decode cX3_sipBlock 5 = .ok (.iload_n 3, 1) := by decide +kernel
theorem dX3_sipBlock_6 : decode cX3_sipBlock 6 = .ok (.ifCond .lt 22, 3) := by decide +kernel
theorem dX3_sipBlock_9 : decode cX3_sipBlock 9 = .ok (.lload_n 1, 1) := by decide +kernel
theorem dX3_sipBlock_10 : decode cX3_sipBlock 10 = .ok (.bipush 8, 2) := by decide +kernel
theorem dX3_sipBlock_12 : decode cX3_sipBlock 12 = .ok (.lshl, 1) := by decide +kernel
theorem dX3_sipBlock_13 : decode cX3_sipBlock 13 = .ok (.aload_n 0, 1) := by decide +kernel
theorem dX3_sipBlock_14 : decode cX3_sipBlock 14 = .ok (.getfield 13, 3) := by decide +kernel
theorem dX3_sipBlock_17 : decode cX3_sipBlock 17 = .ok (.iload_n 3, 1) := by decide +kernel
theorem dX3_sipBlock_18 : decode cX3_sipBlock 18 = .ok (.iaload, 1) := by decide +kernel
theorem dX3_sipBlock_19 : decode cX3_sipBlock 19 = .ok (.i2l, 1) := by decide +kernel
theorem dX3_sipBlock_20 : decode cX3_sipBlock 20 = .ok (.lor, 1) := by decide +kernel
theorem dX3_sipBlock_21 : decode cX3_sipBlock 21 = .ok (.lstore_n 1, 1) := by decide +kernel
theorem dX3_sipBlock_22 : decode cX3_sipBlock 22 = .ok (.iinc 3 (-1), 3) := by decide +kernel
theorem dX3_sipBlock_25 : decode cX3_sipBlock 25 = .ok (.goto (-20), 3) := by decide +kernel
theorem dX3_sipBlock_28 : decode cX3_sipBlock 28 = .ok (.aload_n 0, 1) := by decide +kernel
theorem dX3_sipBlock_29 : decode cX3_sipBlock 29 = .ok (.getfield 16, 3) := by decide +kernel
theorem dX3_sipBlock_32 : decode cX3_sipBlock 32 = .ok (.iconst 3, 1) := by decide +kernel
theorem dX3_sipBlock_33 : decode cX3_sipBlock 33 = .ok (.dup2, 1) := by decide +kernel
theorem dX3_sipBlock_34 : decode cX3_sipBlock 34 = .ok (.laload, 1) := by decide +kernel
theorem dX3_sipBlock_35 : decode cX3_sipBlock 35 = .ok (.lload_n 1, 1) := by decide +kernel
theorem dX3_sipBlock_36 : decode cX3_sipBlock 36 = .ok (.lxor, 1) := by decide +kernel
theorem dX3_sipBlock_37 : decode cX3_sipBlock 37 = .ok (.lastore, 1) := by decide +kernel
theorem dX3_sipBlock_38 : decode cX3_sipBlock 38 = .ok (.aload_n 0, 1) := by decide +kernel
theorem dX3_sipBlock_39 : decode cX3_sipBlock 39 = .ok (.iconst 2, 1) := by decide +kernel
theorem dX3_sipBlock_40 : decode cX3_sipBlock 40 = .ok (.invokevirtual 74, 3) := by decide +kernel
theorem dX3_sipBlock_43 : decode cX3_sipBlock 43 = .ok (.aload_n 0, 1) := by decide +kernel
theorem dX3_sipBlock_44 : decode cX3_sipBlock 44 = .ok (.getfield 16, 3) := by decide +kernel
theorem dX3_sipBlock_47 : decode cX3_sipBlock 47 = .ok (.iconst 0, 1) := by decide +kernel
theorem dX3_sipBlock_48 : decode cX3_sipBlock 48 = .ok (.dup2, 1) := by decide +kernel
theorem dX3_sipBlock_49 : decode cX3_sipBlock 49 = .ok (.laload, 1) := by decide +kernel
theorem dX3_sipBlock_50 : decode cX3_sipBlock 50 = .ok (.lload_n 1, 1) := by decide +kernel
theorem dX3_sipBlock_51 : decode cX3_sipBlock 51 = .ok (.lxor, 1) := by decide +kernel
theorem dX3_sipBlock_52 : decode cX3_sipBlock 52 = .ok (.lastore, 1) := by decide +kernel
theorem dX3_sipBlock_53 : decode cX3_sipBlock 53 = .ok (.return_, 1) := by decide +kernel
theorem dX3_init__0 : decode cX3_init_ 0 = .ok (.aload_n 0, 1) := by decide +kernel
theorem dX3_init__1 : decode cX3_init_ 1 = .ok (.iconst 1, 1) := by decide +kernel
theorem dX3_init__2 : decode cX3_init_ 2 = .ok (.putfield 78, 3) := by decide +kernel
theorem dX3_init__5 : decode cX3_init_ 5 = .ok (.return_, 1) := by decide +kernel
theorem dX3_begin_0 : decode cX3_begin 0 = .ok (.aload_n 0, 1) := by decide +kernel
theorem dX3_begin_1 : decode cX3_begin 1 = .ok (.iload_n 1, 1) := by decide +kernel
theorem dX3_begin_2 : decode cX3_begin 2 = .ok (.putfield 82, 3) := by decide +kernel
theorem dX3_begin_5 : decode cX3_begin 5 = .ok (.aload_n 0, 1) := by decide +kernel
theorem dX3_begin_6 : decode cX3_begin 6 = .ok (.iconst 0, 1) := by decide +kernel
theorem dX3_begin_7 : decode cX3_begin 7 = .ok (.putfield 86, 3) := by decide +kernel
theorem dX3_begin_10 : decode cX3_begin 10 = .ok (.aload_n 0, 1) := by decide +kernel
theorem dX3_begin_11 : decode cX3_begin 11 = .ok (.iconst 0, 1) := by decide +kernel
theorem dX3_begin_12 : decode cX3_begin 12 = .ok (.putfield 89, 3) := by decide +kernel
theorem dX3_begin_15 : decode cX3_begin 15 = .ok (.aload_n 0, 1) := by decide +kernel
theorem dX3_begin_16 : decode cX3_begin 16 = .ok (.iconst 0, 1) := by decide +kernel
theorem dX3_begin_17 : decode cX3_begin 17 = .ok (.putfield 92, 3) := by decide +kernel
theorem dX3_begin_20 : decode cX3_begin 20 = .ok (.return_, 1) := by decide +kernel
set_option maxRecDepth 20000 in
theorem ggX3_beginSha_X3_begin : GoodIn wsX3_beginSha wsX3_begin := goodIn_r _ [8, 9, 10, 11, 12, 13, 14, 15, 16, 17, 18, 19, 20, 21, 22, 23, 24, 25, 26, 27, 28, 29] (by decide +kernel) (by decide +kernel)
set_option maxRecDepth 20000 in
theorem gX3_beginSha_X3_begin : GoodIn wsX3_beginSha (wsV RX3 95 RX3 yX3_begin wsX3_begin) := goodIn_app (goodIn_of _ (by decide +kernel)) ggX3_beginSha_X3_begin
theorem dX3_beginSha_0 : decode cX3_beginSha 0 = .ok (.aload_n 0, 1) := by decide +kernel
theorem dX3_beginSha_1 : decode cX3_beginSha 1 = .ok (.getfield 78, 3) := by decide +kernel
theorem dX3_beginSha_4 : decode cX3_beginSha 4 = .ok (.ifCond .eq 21, 3) := by decide +kernel
theorem dX3_beginSha_7 : decode cX3_beginSha 7 = .ok (.iload_n 1, 1) := by decide +kernel
theorem dX3_beginSha_8 : decode cX3_beginSha 8 = .ok (.sipush 384, 3) := by decide +kernel
theorem dX3_beginSha_11 : decode cX3_beginSha 11 = .ok (.if_icmp .eq 10, 3) := by decide +kernel
theorem dX3_beginSha_14 : decode cX3_beginSha 14 = .ok (.iload_n 1, 1) := by decide +kernel
theorem dX3_beginSha_15 : decode cX3_beginSha 15 = .ok (.sipush 512, 3) := by decide +kernel
theorem dX3_beginSha_18 : decode cX3_beginSha 18 = .ok (.if_icmp .ne 7, 3) := by decide +kernel
theorem dX3_beginSha_21 : decode cX3_beginSha 21 = .ok (.iconst 1, 1) := by decide +kernel
theorem dX3_beginSha_22 : decode cX3_beginSha 22 = .ok (.goto 4, 3) := by decide +kernel
theorem dX3_beginSha_25 : decode cX3_beginSha 25 = .ok (.iconst 0, 1) := by decide +kernel
theorem dX3_beginSha_26 : decode cX3_beginSha 26 = .ok (.istore_n 2, 1) := by decide +kernel
theorem dX3_beginSha_27 : decode cX3_beginSha 27 = .ok (.iload_n 2, 1) := by decide +kernel
theorem dX3_beginSha_28 : decode cX3_beginSha 28 = .ok (.ifCond .eq 59, 3) := by decide +kernel
theorem dX3_beginSha_31 : decode cX3_beginSha 31 = .ok (.aload_n 0, 1) := by decide +kernel
theorem dX3_beginSha_32 : decode cX3_beginSha 32 = .ok (.iload_n 1, 1) := by decide +kernel
theorem dX3_beginSha_33 : decode cX3_beginSha 33 = .ok (.sipush 384, 3) := by decide +kernel
theorem dX3_beginSha_36 : decode cX3_beginSha 36 = .ok (.if_icmp .ne 7, 3) := by decide +kernel
theorem dX3_beginSha_39 : decode cX3_beginSha 39 = .ok (.iconst 2, 1) := by decide +kernel
theorem dX3_beginSha_40 : decode cX3_beginSha 40 = .ok (.goto 4, 3) := by decide +kernel
theorem dX3_beginSha_43 : decode cX3_beginSha 43 = .ok (.iconst 1, 1) := by decide +kernel
theorem dX3_beginSha_44 : decode cX3_beginSha 44 = .ok (.invokevirtual 95, 3) := by decide +kernel
theorem dX3_beginSha_47 : decode cX3_beginSha 47 = .ok (.iconst 0, 1) := by decide +kernel
theorem dX3_beginSha_48 : decode cX3_beginSha 48 = .ok (.istore_n 3, 1) := by decide +kernel
theorem dX3_beginSha_49 : decode cX3_beginSha 49 = .ok (.iload_n 3, 1) := by decide +kernel
theorem dX3_beginSha_50 : decode cX3_beginSha 50 = .ok (.bipush 8, 2) := by decide +kernel
theorem dX3_beginSha_52 : decode cX3_beginSha 52 = .ok (.if_icmp .ge 35, 3) := by decide +kernel
theorem dX3_beginSha_55 : decode cX3_beginSha 55 = .ok (.aload_n 0, 1) := by decide +kernel
theorem dX3_beginSha_56 : decode cX3_beginSha 56 = .ok (.getfield 16, 3) := by decide +kernel
theorem dX3_beginSha_59 : decode cX3_beginSha 59 = .ok (.iload_n 3, 1) := by decide +kernel
theorem dX3_beginSha_60 : decode cX3_beginSha 60 = .ok (.aload_n 0, 1) := by decide +kernel
theorem dX3_beginSha_61 : decode cX3_beginSha 61 = .ok (.getfield 23, 3) := by decide +kernel
theorem dX3_beginSha_64 : decode cX3_beginSha 64 = .ok (.iload_n 1, 1) := by decide +kernel
theorem dX3_beginSha_65 : decode cX3_beginSha 65 = .ok (.sipush 384, 3) := by decide +kernel
theorem dX3_beginSha_68 : decode cX3_beginSha 68 = .ok (.if_icmp .ne 10, 3) := by decide +kernel
theorem dX3_beginSha_71 : decode cX3_beginSha 71 = .ok (.bipush 8, 2) := by decide +kernel
theorem dX3_beginSha_73 : decode cX3_beginSha 73 = .ok (.iload_n 3, 1) := by decide +kernel
theorem dX3_beginSha_74 : decode cX3_beginSha 74 = .ok (.iadd, 1) := by decide +kernel
theorem dX3_beginSha_75 : decode cX3_beginSha 75 = .ok (.goto 4, 3) := by decide +kernel
theorem dX3_beginSha_78 : decode cX3_beginSha 78 = .ok (.iload_n 3, 1) := by decide +kernel
theorem dX3_beginSha_79 : decode cX3_beginSha 79 = .ok (.laload, 1) := by decide +kernel
theorem dX3_beginSha_80 : decode cX3_beginSha 80 = .ok (.lastore, 1) := by decide +kernel
theorem dX3_beginSha_81 : decode cX3_beginSha 81 = .ok (.iinc 3 1, 3) := by decide +kernel
theorem dX3_beginSha_84 : decode cX3_beginSha 84 = .ok (.goto (-35), 3) := by decide +kernel
theorem dX3_beginSha_87 : decode cX3_beginSha 87 = .ok (.iload_n 2, 1) := by decide +kernel
theorem dX3_beginSha_88 : decode cX3_beginSha 88 = .ok (.ireturn, 1) := by decide +kernel
theorem dX3_sipKey_0 : decode cX3_sipKey 0 = .ok (.iload_n 1, 1) := by decide +kernel
theorem dX3_sipKey_1 : decode cX3_sipKey 1 = .ok (.ifCond .lt 8, 3) := by decide +kernel
theorem dX3_sipKey_4 : decode cX3_sipKey 4 = .ok (.iload_n 1, 1) := by decide +kernel
theorem dX3_sipKey_5 : decode cX3_sipKey 5 = .ok (.iconst 3, 1) := by decide +kernel
theorem dX3_sipKey_6 : decode cX3_sipKey 6 = .ok (.if_icmp .le 5, 3) := by decide +kernel
theorem dX3_sipKey_9 : decode cX3_sipKey 9 = .ok (.iconst 0, 1) := by decide +kernel
theorem dX3_sipKey_10 : decode cX3_sipKey 10 = .ok (.ireturn, 1) := by decide +kernel
theorem dX3_sipKey_11 : decode cX3_sipKey 11 = .ok (.aload_n 0, 1) := by decide +kernel
theorem dX3_sipKey_12 : decode cX3_sipKey 12 = .ok (.getfield 7, 3) := by decide +kernel
theorem dX3_sipKey_15 : decode cX3_sipKey 15 = .ok (.iload_n 1, 1) := by decide +kernel
theorem dX3_sipKey_16 : decode cX3_sipKey 16 = .ok (.iload_n 2, 1) := by decide +kernel
theorem dX3_sipKey_17 : decode cX3_sipKey 17 = .ok (.iastore, 1) := by decide +kernel
theorem dX3_sipKey_18 : decode cX3_sipKey 18 = .ok (.iconst 1, 1) := by decide +kernel
theorem dX3_sipKey_19 : decode cX3_sipKey 19 = .ok (.ireturn, 1) := by decide +kernel
set_option maxRecDepth 20000 in
theorem ggX3_beginSip_X3_begin : GoodIn wsX3_beginSip wsX3_begin := goodIn_r _ [14, 15, 16, 17, 18, 23, 24, 25, 26, 27, 28, 29, 30, 31, 32, 33, 34, 35, 36, 37, 38, 39] (by decide +kernel) (by decide +kernel)
set_option maxRecDepth 20000 in
theorem gX3_beginSip_X3_begin : GoodIn wsX3_beginSip (wsV RX3 95 RX3 yX3_begin wsX3_begin) := goodIn_app (goodIn_of _ (by decide +kernel)) ggX3_beginSip_X3_begin
set_option maxRecDepth 20000 in
theorem ggX3_beginSip_X3_of : GoodIn wsX3_beginSip wsX3_of := goodIn_r _ [21, 22] (by decide +kernel) (by decide +kernel)
set_option maxRecDepth 20000 in
theorem gX3_beginSip_X3_of : GoodIn wsX3_beginSip (va_wsS RX3 65 yX3_of wsX3_of) := goodIn_app (goodIn_of _ (by decide +kernel)) ggX3_beginSip_X3_of
theorem dX3_beginSip_0 : decode cX3_beginSip 0 = .ok (.aload_n 0, 1) := by decide +kernel
theorem dX3_beginSip_1 : decode cX3_beginSip 1 = .ok (.getfield 78, 3) := by decide +kernel
theorem dX3_beginSip_4 : decode cX3_beginSip 4 = .ok (.ifCond .ne 5, 3) := by decide +kernel
theorem dX3_beginSip_7 : decode cX3_beginSip 7 = .ok (.iconst 0, 1) := by decide +kernel
theorem dX3_beginSip_8 : decode cX3_beginSip 8 = .ok (.ireturn, 1) := by decide +kernel
theorem dX3_beginSip_9 : decode cX3_beginSip 9 = .ok (.aload_n 0, 1) := by decide +kernel
theorem dX3_beginSip_10 : decode cX3_beginSip 10 = .ok (.iconst 3, 1) := by decide +kernel
theorem dX3_beginSip_11 : decode cX3_beginSip 11 = .ok (.invokevirtual 95, 3) := by decide +kernel
theorem dX3_beginSip_14 : decode cX3_beginSip 14 = .ok (.aload_n 0, 1) := by decide +kernel
theorem dX3_beginSip_15 : decode cX3_beginSip 15 = .ok (.aload_n 0, 1) := by decide +kernel
theorem dX3_beginSip_16 : decode cX3_beginSip 16 = .ok (.getfield 7, 3) := by decide +kernel
theorem dX3_beginSip_19 : decode cX3_beginSip 19 = .ok (.iconst 1, 1) := by decide +kernel
theorem dX3_beginSip_20 : decode cX3_beginSip 20 = .ok (.iaload, 1) := by decide +kernel
theorem dX3_beginSip_21 : decode cX3_beginSip 21 = .ok (.aload_n 0, 1) := by decide +kernel
theorem dX3_beginSip_22 : decode cX3_beginSip 22 = .ok (.getfield 7, 3) := by decide +kernel
theorem dX3_beginSip_25 : decode cX3_beginSip 25 = .ok (.iconst 0, 1) := by decide +kernel
theorem dX3_beginSip_26 : decode cX3_beginSip 26 = .ok (.iaload, 1) := by decide +kernel
theorem dX3_beginSip_27 : decode cX3_beginSip 27 = .ok (.invokestatic 65, 3) := by decide +kernel
theorem dX3_beginSip_30 : decode cX3_beginSip 30 = .ok (.putfield 98, 3) := by decide +kernel
theorem dX3_beginSip_33 : decode cX3_beginSip 33 = .ok (.aload_n 0, 1) := by decide +kernel
theorem dX3_beginSip_34 : decode cX3_beginSip 34 = .ok (.aload_n 0, 1) := by decide +kernel
theorem dX3_beginSip_35 : decode cX3_beginSip 35 = .ok (.getfield 7, 3) := by decide +kernel
theorem dX3_beginSip_38 : decode cX3_beginSip 38 = .ok (.iconst 3, 1) := by decide +kernel
theorem dX3_beginSip_39 : decode cX3_beginSip 39 = .ok (.iaload, 1) := by decide +kernel
theorem dX3_beginSip_40 : decode cX3_beginSip 40 = .ok (.aload_n 0, 1) := by decide +kernel
theorem dX3_beginSip_41 : decode cX3_beginSip 41 = .ok (.getfield 7, 3) := by decide +kernel
theorem dX3_beginSip_44 : decode cX3_beginSip 44 = .ok (.iconst 2, 1) := by decide +kernel
theorem dX3_beginSip_45 : decode cX3_beginSip 45 = .ok (.iaload, 1) := by decide +kernel
theorem dX3_beginSip_46 : decode cX3_beginSip 46 = .ok (.invokestatic 65, 3) := by decide +kernel
theorem dX3_beginSip_49 : decode cX3_beginSip 49 = .ok (.putfield 102, 3) := by decide +kernel
theorem dX3_beginSip_52 : decode cX3_beginSip 52 = .ok (.aload_n 0, 1) := by decide +kernel
theorem dX3_beginSip_53 : decode cX3_beginSip 53 = .ok (.getfield 16, 3) := by decide +kernel
theorem dX3_beginSip_56 : decode cX3_beginSip 56 = .ok (.iconst 0, 1) := by decide +kernel
theorem dX3_beginSip_57 : decode cX3_beginSip 57 = .ok (.aload_n 0, 1) := by decide +kernel
theorem dX3_beginSip_58 : decode cX3_beginSip 58 = .ok (.getfield 98, 3) := by decide +kernel
theorem dX3_beginSip_61 : decode cX3_beginSip 61 = .ok (.ldc2_w 105, 3) := by decide +kernel
theorem dX3_beginSip_64 : decode cX3_beginSip 64 = .ok (.lxor, 1) := by decide +kernel
theorem dX3_beginSip_65 : decode cX3_beginSip 65 = .ok (.lastore, 1) := by decide +kernel
theorem dX3_beginSip_66 : decode cX3_beginSip 66 = .ok (.aload_n 0, 1) := by decide +kernel
theorem dX3_beginSip_67 : decode cX3_beginSip 67 = .ok (.getfield 16, 3) := by decide +kernel
theorem dX3_beginSip_70 : decode cX3_beginSip 70 = .ok (.iconst 1, 1) := by decide +kernel
theorem dX3_beginSip_71 : decode cX3_beginSip 71 = .ok (.aload_n 0, 1) := by decide +kernel
theorem dX3_beginSip_72 : decode cX3_beginSip 72 = .ok (.getfield 102, 3) := by decide +kernel
theorem dX3_beginSip_75 : decode cX3_beginSip 75 = .ok (.ldc2_w 107, 3) := by decide +kernel
theorem dX3_beginSip_78 : decode cX3_beginSip 78 = .ok (.lxor, 1) := by decide +kernel
theorem dX3_beginSip_79 : decode cX3_beginSip 79 = .ok (.lastore, 1) := by decide +kernel
theorem dX3_beginSip_80 : decode cX3_beginSip 80 = .ok (.aload_n 0, 1) := by decide +kernel
theorem dX3_beginSip_81 : decode cX3_beginSip 81 = .ok (.getfield 16, 3) := by decide +kernel
theorem dX3_beginSip_84 : decode cX3_beginSip 84 = .ok (.iconst 2, 1) := by decide +kernel
theorem dX3_beginSip_85 : decode cX3_beginSip 85 = .ok (.aload_n 0, 1) := by decide +kernel
theorem dX3_beginSip_86 : decode cX3_beginSip 86 = .ok (.getfield 98, 3) := by decide +kernel
theorem dX3_beginSip_89 : decode cX3_beginSip 89 = .ok (.ldc2_w 109, 3) := by decide +kernel
theorem dX3_beginSip_92 : decode cX3_beginSip 92 = .ok (.lxor, 1) := by decide +kernel
theorem dX3_beginSip_93 : decode cX3_beginSip 93 = .ok (.lastore, 1) := by decide +kernel
theorem dX3_beginSip_94 : decode cX3_beginSip 94 = .ok (.aload_n 0, 1) := by decide +kernel
theorem dX3_beginSip_95 : decode cX3_beginSip 95 = .ok (.getfield 16, 3) := by decide +kernel
theorem dX3_beginSip_98 : decode cX3_beginSip 98 = .ok (.iconst 3, 1) := by decide +kernel
theorem dX3_beginSip_99 : decode cX3_beginSip 99 = .ok (.aload_n 0, 1) := by decide +kernel
theorem dX3_beginSip_100 : decode cX3_beginSip 100 = .ok (.getfield 102, 3) := by decide +kernel
theorem dX3_beginSip_103 : decode cX3_beginSip 103 = .ok (.ldc2_w 111, 3) := by decide +kernel
theorem dX3_beginSip_106 : decode cX3_beginSip 106 = .ok (.lxor, 1) := by decide +kernel
theorem dX3_beginSip_107 : decode cX3_beginSip 107 = .ok (.lastore, 1) := by decide +kernel
theorem dX3_beginSip_108 : decode cX3_beginSip 108 = .ok (.iconst 1, 1) := by decide +kernel
theorem dX3_beginSip_109 : decode cX3_beginSip 109 = .ok (.ireturn, 1) := by decide +kernel
set_option maxRecDepth 20000 in
theorem ggX3_take_X3_sipBlock : GoodIn wsX3_take wsX3_sipBlock := goodIn_r _ [8, 1, 9, 10, 11, 12, 7, 13, 14, 15, 16, 17, 18, 19, 28, 29, 30, 31, 32, 33, 34, 35, 36, 37, 38, 39, 40, 41, 42, 43, 44] (by decide +kernel) (by decide +kernel)
set_option maxRecDepth 20000 in
theorem gX3_take_X3_sipBlock : GoodIn wsX3_take (wsV RX3 113 RX3 yX3_sipBlock wsX3_sipBlock) := goodIn_app (goodIn_of _ (by decide +kernel)) ggX3_take_X3_sipBlock
set_option maxRecDepth 20000 in
theorem ggX3_take_X3_shaBlock : GoodIn wsX3_take wsX3_shaBlock := goodIn_r _ [23, 1, 24, 25, 9, 26, 27, 17, 18, 7, 19, 28, 29, 30, 31, 32, 33, 34, 35, 36, 37, 38, 39, 40, 41, 42, 43, 44] (by decide +kernel) (by decide +kernel)
set_option maxRecDepth 20000 in
theorem gX3_take_X3_shaBlock : GoodIn wsX3_take (wsV RX3 116 RX3 yX3_shaBlock wsX3_shaBlock) := goodIn_app (goodIn_of _ (by decide +kernel)) ggX3_take_X3_shaBlock
theorem dX3_take_0 : decode cX3_take 0 = .ok (.aload_n 0, 1) := by decide +kernel
theorem dX3_take_1 : decode cX3_take 1 = .ok (.getfield 13, 3) := by decide +kernel
theorem dX3_take_4 : decode cX3_take 4 = .ok (.aload_n 0, 1) := by decide +kernel
theorem dX3_take_5 : decode cX3_take 5 = .ok (.getfield 92, 3) := by decide +kernel
theorem dX3_take_8 : decode cX3_take 8 = .ok (.iload_n 1, 1) := by decide +kernel
theorem dX3_take_9 : decode cX3_take 9 = .ok (.iastore, 1) := by decide +kernel
theorem dX3_take_10 : decode cX3_take 10 = .ok (.aload_n 0, 1) := by decide +kernel
theorem dX3_take_11 : decode cX3_take 11 = .ok (.dup, 1) := by decide +kernel
theorem dX3_take_12 : decode cX3_take 12 = .ok (.getfield 92, 3) := by decide +kernel
theorem dX3_take_15 : decode cX3_take 15 = .ok (.iconst 1, 1) := by decide +kernel
theorem dX3_take_16 : decode cX3_take 16 = .ok (.iadd, 1) := by decide +kernel
theorem dX3_take_17 : decode cX3_take 17 = .ok (.putfield 92, 3) := by decide +kernel
theorem dX3_take_20 : decode cX3_take 20 = .ok (.aload_n 0, 1) := by decide +kernel
theorem dX3_take_21 : decode cX3_take 21 = .ok (.getfield 82, 3) := by decide +kernel
theorem dX3_take_24 : decode cX3_take 24 = .ok (.iconst 3, 1) := by decide +kernel
theorem dX3_take_25 : decode cX3_take 25 = .ok (.if_icmp .ne 24, 3) := by decide +kernel
theorem dX3_take_28 : decode cX3_take 28 = .ok (.aload_n 0, 1) := by decide +kernel
theorem dX3_take_29 : decode cX3_take 29 = .ok (.getfield 92, 3) := by decide +kernel
theorem dX3_take_32 : decode cX3_take 32 = .ok (.bipush 8, 2) := by decide +kernel
theorem dX3_take_34 : decode cX3_take 34 = .ok (.if_icmp .ne 15, 3) := by decide +kernel
theorem dX3_take_37 : decode cX3_take 37 = .ok (.aload_n 0, 1) := by decide +kernel
theorem dX3_take_38 : decode cX3_take 38 = .ok (.invokevirtual 113, 3) := by decide +kernel
theorem dX3_take_41 : decode cX3_take 41 = .ok (.aload_n 0, 1) := by decide +kernel
theorem dX3_take_42 : decode cX3_take 42 = .ok (.iconst 0, 1) := by decide +kernel
theorem dX3_take_43 : decode cX3_take 43 = .ok (.putfield 92, 3) := by decide +kernel
theorem dX3_take_46 : decode cX3_take 46 = .ok (.goto 22, 3) := by decide +kernel
theorem dX3_take_49 : decode cX3_take 49 = .ok (.aload_n 0, 1) := by decide +kernel
theorem dX3_take_50 : decode cX3_take 50 = .ok (.getfield 92, 3) := by decide +kernel
theorem dX3_take_53 : decode cX3_take 53 = .ok (.sipush 128, 3) := by decide +kernel
theorem dX3_take_56 : decode cX3_take 56 = .ok (.if_icmp .ne 12, 3) := by decide +kernel
theorem dX3_take_59 : decode cX3_take 59 = .ok (.aload_n 0, 1) := by decide +kernel
theorem dX3_take_60 : decode cX3_take 60 = .ok (.invokevirtual 116, 3) := by decide +kernel
theorem dX3_take_63 : decode cX3_take 63 = .ok (.aload_n 0, 1) := by decide +kernel
theorem dX3_take_64 : decode cX3_take 64 = .ok (.iconst 0, 1) := by decide +kernel
theorem dX3_take_65 : decode cX3_take 65 = .ok (.putfield 92, 3) := by decide +kernel
theorem dX3_take_68 : decode cX3_take 68 = .ok (.return_, 1) := by decide +kernel
theorem dX3_isOpen_0 : decode cX3_isOpen 0 = .ok (.aload_n 0, 1) := by decide +kernel
theorem dX3_isOpen_1 : decode cX3_isOpen 1 = .ok (.getfield 82, 3) := by decide +kernel
theorem dX3_isOpen_4 : decode cX3_isOpen 4 = .ok (.ifCond .le 14, 3) := by decide +kernel
theorem dX3_isOpen_7 : decode cX3_isOpen 7 = .ok (.aload_n 0, 1) := by decide +kernel
theorem dX3_isOpen_8 : decode cX3_isOpen 8 = .ok (.getfield 86, 3) := by decide +kernel
theorem dX3_isOpen_11 : decode cX3_isOpen 11 = .ok (.ifCond .ne 7, 3) := by decide +kernel
theorem dX3_isOpen_14 : decode cX3_isOpen 14 = .ok (.iconst 1, 1) := by decide +kernel
theorem dX3_isOpen_15 : decode cX3_isOpen 15 = .ok (.goto 4, 3) := by decide +kernel
theorem dX3_isOpen_18 : decode cX3_isOpen 18 = .ok (.iconst 0, 1) := by decide +kernel
theorem dX3_isOpen_19 : decode cX3_isOpen 19 = .ok (.ireturn, 1) := by decide +kernel
set_option maxRecDepth 20000 in
theorem ggX3_update_X3_isOpen : GoodIn wsX3_update wsX3_isOpen := goodIn_r _ [6, 7, 8, 38, 39, 40, 41, 42, 43, 44, 45, 46, 47, 48, 49, 50, 51, 52, 53, 54] (by decide +kernel) (by decide +kernel)
set_option maxRecDepth 20000 in
theorem gX3_update_X3_isOpen : GoodIn wsX3_update (wsV RX3 119 RX3 yX3_isOpen wsX3_isOpen) := goodIn_app (goodIn_of _ (by decide +kernel)) ggX3_update_X3_isOpen
set_option maxRecDepth 20000 in
theorem ggX3_update_X3_take : GoodIn wsX3_update wsX3_take := goodIn_r _ [12, 13, 14, 7, 15, 16, 17, 5, 18, 19, 20, 21, 22, 23, 24, 25, 26, 27, 28, 29, 30, 31, 32, 33, 34, 35, 36, 37, 38, 39, 40, 41, 42, 43, 44, 45, 46, 47, 48, 49, 50, 51, 52, 53, 54] (by decide +kernel) (by decide +kernel)
set_option maxRecDepth 20000 in
theorem gX3_update_X3_take : GoodIn wsX3_update (wsV RX3 123 RX3 yX3_take wsX3_take) := goodIn_app (goodIn_of _ (by decide +kernel)) ggX3_update_X3_take
theorem dX3_update_0 : decode cX3_update 0 = .ok (.iload_n 1, 1) := by decide +kernel
theorem dX3_update_1 : decode cX3_update 1 = .ok (.ifCond .lt 17, 3) := by decide +kernel
theorem dX3_update_4 : decode cX3_update 4 = .ok (.iload_n 1, 1) := by decide +kernel
theorem dX3_update_5 : decode cX3_update 5 = .ok (.sipush 255, 3) := by decide +kernel
theorem dX3_update_8 : decode cX3_update 8 = .ok (.if_icmp .gt 10, 3) := by decide +kernel
theorem dX3_update_11 : decode cX3_update 11 = .ok (.aload_n 0, 1) := by decide +kernel
theorem dX3_update_12 : decode cX3_update 12 = .ok (.invokevirtual 119, 3) := by decide +kernel
theorem dX3_update_15 : decode cX3_update 15 = .ok (.ifCond .ne 5, 3) := by decide +kernel
theorem dX3_update_18 : decode cX3_update 18 = .ok (.iconst 0, 1) := by decide +kernel
theorem dX3_update_19 : decode cX3_update 19 = .ok (.ireturn, 1) := by decide +kernel
theorem dX3_update_20 : decode cX3_update 20 = .ok (.aload_n 0, 1) := by decide +kernel
theorem dX3_update_21 : decode cX3_update 21 = .ok (.iload_n 1, 1) := by decide +kernel
theorem dX3_update_22 : decode cX3_update 22 = .ok (.invokevirtual 123, 3) := by decide +kernel
theorem dX3_update_25 : decode cX3_update 25 = .ok (.aload_n 0, 1) := by decide +kernel
theorem dX3_update_26 : decode cX3_update 26 = .ok (.dup, 1) := by decide +kernel
theorem dX3_update_27 : decode cX3_update 27 = .ok (.getfield 89, 3) := by decide +kernel
theorem dX3_update_30 : decode cX3_update 30 = .ok (.iconst 1, 1) := by decide +kernel
theorem dX3_update_31 : decode cX3_update 31 = .ok (.iadd, 1) := by decide +kernel
theorem dX3_update_32 : decode cX3_update 32 = .ok (.putfield 89, 3) := by decide +kernel
theorem dX3_update_35 : decode cX3_update 35 = .ok (.iconst 1, 1) := by decide +kernel
theorem dX3_update_36 : decode cX3_update 36 = .ok (.ireturn, 1) := by decide +kernel
set_option maxRecDepth 20000 in
theorem ggX3_updates_X3_isOpen : GoodIn wsX3_updates wsX3_isOpen := goodIn_r _ [6, 7, 8, 38, 39, 40, 41, 42, 43, 44, 45, 46, 47, 48, 49, 50, 51, 52, 53, 54] (by decide +kernel) (by decide +kernel)
set_option maxRecDepth 20000 in
theorem gX3_updates_X3_isOpen : GoodIn wsX3_updates (wsV RX3 119 RX3 yX3_isOpen wsX3_isOpen) := goodIn_app (goodIn_of _ (by decide +kernel)) ggX3_updates_X3_isOpen
set_option maxRecDepth 20000 in
theorem ggX3_updates_X3_take : GoodIn wsX3_updates wsX3_take := goodIn_r _ [12, 13, 14, 7, 15, 16, 17, 5, 18, 19, 20, 21, 22, 23, 24, 25, 26, 27, 28, 29, 30, 31, 32, 33, 34, 35, 36, 37, 38, 39, 40, 41, 42, 43, 44, 45, 46, 47, 48, 49, 50, 51, 52, 53, 54] (by decide +kernel) (by decide +kernel)
set_option maxRecDepth 20000 in
theorem gX3_updates_X3_take : GoodIn wsX3_updates (wsV RX3 123 RX3 yX3_take wsX3_take) := goodIn_app (goodIn_of _ (by decide +kernel)) ggX3_updates_X3_take
theorem dX3_updates_0 : decode cX3_updates 0 = .ok (.iload_n 1, 1) := by decide +kernel
theorem dX3_updates_1 : decode cX3_updates 1 = .ok (.ifCond .lt 17, 3) := by decide +kernel
theorem dX3_updates_4 : decode cX3_updates 4 = .ok (.iload_n 1, 1) := by decide +kernel
theorem dX3_updates_5 : decode cX3_updates 5 = .ok (.sipush 2000, 3) := by decide +kernel
theorem dX3_updates_8 : decode cX3_updates 8 = .ok (.if_icmp .gt 10, 3) := by decide +kernel
theorem dX3_updates_11 : decode cX3_updates 11 = .ok (.aload_n 0, 1) := by decide +kernel
theorem dX3_updates_12 : decode cX3_updates 12 = .ok (.invokevirtual 119, 3) := by decide +kernel
theorem dX3_updates_15 : decode cX3_updates 15 = .ok (.ifCond .ne 5, 3) := by decide +kernel
theorem dX3_updates_18 : decode cX3_updates 18 = .ok (.iconst 0, 1) := by decide +kernel
theorem dX3_updates_19 : decode cX3_updates 19 = .ok (.ireturn, 1) := by decide +kernel
theorem dX3_updates_20 : decode cX3_updates 20 = .ok (.iconst 0, 1) := by decide +kernel
theorem dX3_updates_21 : decode cX3_updates 21 = .ok (.istore 4, 2) := by decide +kernel
theorem dX3_updates_23 : decode cX3_updates 23 = .ok (.iload 4, 2) := by decide +kernel
theorem dX3_updates_25 : decode cX3_updates 25 = .ok (.iload_n 1, 1) := by decide +kernel
theorem dX3_updates_26 : decode cX3_updates 26 = .ok (.if_icmp .ge 23, 3) := by decide +kernel
theorem dX3_updates_29 : decode cX3_updates 29 = .ok (.aload_n 0, 1) := by decide +kernel
theorem dX3_updates_30 : decode cX3_updates 30 = .ok (.iload_n 2, 1) := by decide +kernel
theorem dX3_updates_31 : decode cX3_updates 31 = .ok (.iload 4, 2) := by decide +kernel
theorem dX3_updates_33 : decode cX3_updates 33 = .ok (.iload_n 3, 1) := by decide +kernel
theorem dX3_updates_34 : decode cX3_updates 34 = .ok (.imul, 1) := by decide +kernel
theorem dX3_updates_35 : decode cX3_updates 35 = .ok (.iadd, 1) := by decide +kernel
theorem dX3_updates_36 : decode cX3_updates 36 = .ok (.sipush 255, 3) := by decide +kernel
theorem dX3_updates_39 : decode cX3_updates 39 = .ok (.iand, 1) := by decide +kernel
theorem dX3_updates_40 : decode cX3_updates 40 = .ok (.invokevirtual 123, 3) := by decide +kernel
theorem dX3_updates_43 : decode cX3_updates 43 = .ok (.iinc 4 1, 3) := by decide +kernel
theorem dX3_updates_46 : decode cX3_updates 46 = .ok (.goto (-23), 3) := by decide +kernel
theorem dX3_updates_49 : decode cX3_updates 49 = .ok (.aload_n 0, 1) := by decide +kernel
theorem dX3_updates_50 : decode cX3_updates 50 = .ok (.dup, 1) := by decide +kernel
theorem dX3_updates_51 : decode cX3_updates 51 = .ok (.getfield 89, 3) := by decide +kernel
theorem dX3_updates_54 : decode cX3_updates 54 = .ok (.iload_n 1, 1) := by decide +kernel
theorem dX3_updates_55 : decode cX3_updates 55 = .ok (.iadd, 1) := by decide +kernel
theorem dX3_updates_56 : decode cX3_updates 56 = .ok (.putfield 89, 3) := by decide +kernel
theorem dX3_updates_59 : decode cX3_updates 59 = .ok (.iconst 1, 1) := by decide +kernel
theorem dX3_updates_60 : decode cX3_updates 60 = .ok (.ireturn, 1) := by decide +kernel
set_option maxRecDepth 20000 in
theorem ggX3_close_X3_isOpen : GoodIn wsX3_close wsX3_isOpen := goodIn_r _ [12, 1, 7, 40, 41, 42, 43, 44, 45, 46, 47, 48, 49, 50, 51, 52, 53, 54, 55, 56] (by decide +kernel) (by decide +kernel)
set_option maxRecDepth 20000 in
theorem gX3_close_X3_isOpen : GoodIn wsX3_close (wsV RX3 119 RX3 yX3_isOpen wsX3_isOpen) := goodIn_app (goodIn_of _ (by decide +kernel)) ggX3_close_X3_isOpen
set_option maxRecDepth 20000 in
theorem ggX3_close_X3_take : GoodIn wsX3_close wsX3_take := goodIn_r _ [16, 17, 2, 1, 18, 19, 20, 11, 21, 4, 22, 23, 24, 25, 26, 27, 28, 29, 30, 31, 32, 33, 34, 35, 36, 37, 38, 39, 40, 41, 42, 43, 44, 45, 46, 47, 48, 49, 50, 51, 52, 53, 54, 55, 56] (by decide +kernel) (by decide +kernel)
set_option maxRecDepth 20000 in
theorem gX3_close_X3_take : GoodIn wsX3_close (wsV RX3 123 RX3 yX3_take wsX3_take) := goodIn_app (goodIn_of _ (by decide +kernel)) ggX3_close_X3_take
set_option maxRecDepth 20000 in
theorem ggX3_close_X3_sipRounds : GoodIn wsX3_close wsX3_sipRounds := goodIn_r _ [25, 4, 26, 27, 11, 28, 29, 30, 31, 40, 41, 42, 43, 44, 45, 46, 47, 48, 49, 50, 51, 52, 53, 54, 55, 56] (by decide +kernel) (by decide +kernel)
set_option maxRecDepth 20000 in
theorem gX3_close_X3_sipRounds : GoodIn wsX3_close (wsV RX3 74 RX3 yX3_sipRounds wsX3_sipRounds) := goodIn_app (goodIn_of _ (by decide +kernel)) ggX3_close_X3_sipRounds
theorem dX3_close_0 : decode cX3_close 0 = .ok (.aload_n 0, 1) := by decide +kernel
theorem dX3_close_1 : decode cX3_close 1 = .ok (.invokevirtual 119, 3) := by decide +kernel
theorem dX3_close_4 : decode cX3_close 4 = .ok (.ifCond .ne 5, 3) := by decide +kernel
theorem dX3_close_7 : decode cX3_close 7 = .ok (.iconst 0, 1) := by decide +kernel

set_option maxRecDepth 20000 in
theorem ggX3_left_X3_right : GoodIn wsX3_left wsX3_right := goodIn_r _ [4] (by decide +kernel) (by decide +kernel)
set_option maxRecDepth 20000 in
theorem gX3_left_X3_right : GoodIn wsX3_left (va_wsS RX3 61 yX3_right wsX3_right) := goodIn_app (goodIn_of _ (by decide +kernel)) ggX3_left_X3_right
theorem dX3_left_0 : decode cX3_left 0 = .ok (.lload_n 0, 1) := by decide +kernel
theorem dX3_left_1 : decode cX3_left 1 = .ok (.bipush 64, 2) := by decide +kernel
theorem dX3_left_3 : decode cX3_left 3 = .ok (.iload_n 2, 1) := by decide +kernel
theorem dX3_left_4 : decode cX3_left 4 = .ok (.isub, 1) := by decide +kernel
theorem dX3_left_5 : decode cX3_left 5 = .ok (.invokestatic 61, 3) := by decide +kernel
theorem dX3_left_8 : decode cX3_left 8 = .ok (.lreturn, 1) := by decide +kernel
set_option maxRecDepth 20000 in
theorem ggX3_add64Lo_X3_of : GoodIn wsX3_add64Lo wsX3_of := goodIn_r _ [4, 5] (by decide +kernel) (by decide +kernel)
set_option maxRecDepth 20000 in
theorem gX3_add64Lo_X3_of : GoodIn wsX3_add64Lo (va_wsS RX3 65 yX3_of wsX3_of) := goodIn_app (goodIn_of _ (by decide +kernel)) ggX3_add64Lo_X3_of
theorem dX3_add64Lo_0 : decode cX3_add64Lo 0 = .ok (.iload_n 1, 1) := by decide +kernel
theorem dX3_add64Lo_1 : decode cX3_add64Lo 1 = .ok (.iload_n 2, 1) := by decide +kernel
theorem dX3_add64Lo_2 : decode cX3_add64Lo 2 = .ok (.invokestatic 65, 3) := by decide +kernel
theorem dX3_add64Lo_5 : decode cX3_add64Lo 5 = .ok (.iload_n 3, 1) := by decide +kernel
theorem dX3_add64Lo_6 : decode cX3_add64Lo 6 = .ok (.iload 4, 2) := by decide +kernel
theorem dX3_add64Lo_8 : decode cX3_add64Lo 8 = .ok (.invokestatic 65, 3) := by decide +kernel
theorem dX3_add64Lo_11 : decode cX3_add64Lo 11 = .ok (.ladd, 1) := by decide +kernel
theorem dX3_add64Lo_12 : decode cX3_add64Lo 12 = .ok (.l2i, 1) := by decide +kernel
theorem dX3_add64Lo_13 : decode cX3_add64Lo 13 = .ok (.ireturn, 1) := by decide +kernel
set_option maxRecDepth 20000 in
theorem ggX3_add64Hi_X3_of : GoodIn wsX3_add64Hi wsX3_of := goodIn_r _ [4, 5] (by decide +kernel) (by decide +kernel)
set_option maxRecDepth 20000 in
theorem gX3_add64Hi_X3_of : GoodIn wsX3_add64Hi (va_wsS RX3 65 yX3_of wsX3_of) := goodIn_app (goodIn_of _ (by decide +kernel)) ggX3_add64Hi_X3_of
theorem dX3_add64Hi_0 : decode cX3_add64Hi 0 = .ok (.iload_n 1, 1) := by decide +kernel
theorem dX3_add64Hi_1 : decode cX3_add64Hi 1 = .ok (.iload_n 2, 1) := by decide +kernel
theorem dX3_add64Hi_2 : decode cX3_add64Hi 2 = .ok (.invokestatic 65, 3) := by decide +kernel
theorem dX3_add64Hi_5 : decode cX3_add64Hi 5 = .ok (.iload_n 3, 1) := by decide +kernel
theorem dX3_add64Hi_6 : decode cX3_add64Hi 6 = .ok (.iload 4, 2) := by decide +kernel
theorem dX3_add64Hi_8 : decode cX3_add64Hi 8 = .ok (.invokestatic 65, 3) := by decide +kernel
theorem dX3_add64Hi_11 : decode cX3_add64Hi 11 = .ok (.ladd, 1) := by decide +kernel
theorem dX3_add64Hi_12 : decode cX3_add64Hi 12 = .ok (.bipush 32, 2) := by decide +kernel
theorem dX3_add64Hi_14 : decode cX3_add64Hi 14 = .ok (.lshr, 1) := by decide +kernel
theorem dX3_add64Hi_15 : decode cX3_add64Hi 15 = .ok (.l2i, 1) := by decide +kernel
theorem dX3_add64Hi_16 : decode cX3_add64Hi 16 = .ok (.ireturn, 1) := by decide +kernel
set_option maxRecDepth 20000 in
theorem ggX3_rotr64Hi_X3_of : GoodIn wsX3_rotr64Hi wsX3_of := goodIn_r _ [4, 5] (by decide +kernel) (by decide +kernel)
set_option maxRecDepth 20000 in
theorem gX3_rotr64Hi_X3_of : GoodIn wsX3_rotr64Hi (va_wsS RX3 65 yX3_of wsX3_of) := goodIn_app (goodIn_of _ (by decide +kernel)) ggX3_rotr64Hi_X3_of
set_option maxRecDepth 20000 in
theorem ggX3_rotr64Hi_X3_right : GoodIn wsX3_rotr64Hi wsX3_right := goodIn_r _ [8] (by decide +kernel) (by decide +kernel)
set_option maxRecDepth 20000 in
theorem gX3_rotr64Hi_X3_right : GoodIn wsX3_rotr64Hi (va_wsS RX3 61 yX3_right wsX3_right) := goodIn_app (goodIn_of _ (by decide +kernel)) ggX3_rotr64Hi_X3_right
theorem dX3_rotr64Hi_0 : decode cX3_rotr64Hi 0 = .ok (.iload_n 1, 1) := by decide +kernel
theorem dX3_rotr64Hi_1 : decode cX3_rotr64Hi 1 = .ok (.iload_n 2, 1) := by decide +kernel
theorem dX3_rotr64Hi_2 : decode cX3_rotr64Hi 2 = .ok (.invokestatic 65, 3) := by decide +kernel
theorem dX3_rotr64Hi_5 : decode cX3_rotr64Hi 5 = .ok (.iload_n 3, 1) := by decide +kernel
theorem dX3_rotr64Hi_6 : decode cX3_rotr64Hi 6 = .ok (.invokestatic 61, 3) := by decide +kernel
theorem dX3_rotr64Hi_9 : decode cX3_rotr64Hi 9 = .ok (.bipush 32, 2) := by decide +kernel
theorem dX3_rotr64Hi_11 : decode cX3_rotr64Hi 11 = .ok (.lshr, 1) := by decide +kernel
theorem dX3_rotr64Hi_12 : decode cX3_rotr64Hi 12 = .ok (.l2i, 1) := by decide +kernel
theorem dX3_rotr64Hi_13 : decode cX3_rotr64Hi 13 = .ok (.ireturn, 1) := by decide +kernel
set_option maxRecDepth 20000 in
theorem ggX3_rotr64Lo_X3_of : GoodIn wsX3_rotr64Lo wsX3_of := goodIn_r _ [4, 5] (by decide +kernel) (by decide +kernel)
set_option maxRecDepth 20000 in
theorem gX3_rotr64Lo_X3_of : GoodIn wsX3_rotr64Lo (va_wsS RX3 65 yX3_of wsX3_of) := goodIn_app (goodIn_of _ (by decide +kernel)) ggX3_rotr64Lo_X3_of
set_option maxRecDepth 20000 in
theorem ggX3_rotr64Lo_X3_right : GoodIn wsX3_rotr64Lo wsX3_right := goodIn_r _ [8] (by decide +kernel) (by decide +kernel)
set_option maxRecDepth 20000 in
theorem gX3_rotr64Lo_X3_right : GoodIn wsX3_rotr64Lo (va_wsS RX3 61 yX3_right wsX3_right) := goodIn_app (goodIn_of _ (by decide +kernel)) ggX3_rotr64Lo_X3_right
theorem dX3_rotr64Lo_0 : decode cX3_rotr64Lo 0 = .ok (.iload_n 1, 1) := by decide +kernel
theorem dX3_rotr64Lo_1 : decode cX3_rotr64Lo 1 = .ok (.iload_n 2, 1) := by decide +kernel
theorem dX3_rotr64Lo_2 : decode cX3_rotr64Lo 2 = .ok (.invokestatic 65, 3) := by decide +kernel
theorem dX3_rotr64Lo_5 : decode cX3_rotr64Lo 5 = .ok (.iload_n 3, 1) := by decide +kernel
theorem dX3_rotr64Lo_6 : decode cX3_rotr64Lo 6 = .ok (.invokestatic 61, 3) := by decide +kernel
theorem dX3_rotr64Lo_9 : decode cX3_rotr64Lo 9 = .ok (.l2i, 1) := by decide +kernel
theorem dX3_rotr64Lo_10 : decode cX3_rotr64Lo 10 = .ok (.ireturn, 1) := by decide +kernel
set_option maxRecDepth 20000 in
theorem ggX3_shaBlock_X3_right : GoodIn wsX3_shaBlock wsX3_right := goodIn_r _ [10] (by decide +kernel) (by decide +kernel)
set_option maxRecDepth 20000 in
theorem gX3_shaBlock_X3_right : GoodIn wsX3_shaBlock (va_wsS RX3 61 yX3_right wsX3_right) := goodIn_app (goodIn_of _ (by decide +kernel)) ggX3_shaBlock_X3_right
theorem dX3_shaBlock_0 : decode cX3_shaBlock 0 = .ok (.iconst 0, 1) := by decide +kernel
theorem dX3_shaBlock_1 : decode cX3_shaBlock 1 = .ok (.istore_n 1, 1) := by decide +kernel
theorem dX3_shaBlock_2 : decode cX3_shaBlock 2 = .ok (.iload_n 1, 1) := by decide +kernel
theorem dX3_shaBlock_3 : decode cX3_shaBlock 3 = .ok (.bipush 80, 2) := by decide +kernel
theorem dX3_shaBlock_5 : decode cX3_shaBlock 5 = .ok (.if_icmp .ge 155, 3) := by decide +kernel
theorem dX3_shaBlock_8 : decode cX3_shaBlock 8 = .ok (.iload_n 1, 1) := by decide +kernel
theorem dX3_shaBlock_9 : decode cX3_shaBlock 9 = .ok (.bipush 16, 2) := by decide +kernel
theorem dX3_shaBlock_11 : decode cX3_shaBlock 11 = .ok (.if_icmp .ge 50, 3) := by decide +kernel
theorem dX3_shaBlock_14 : decode cX3_shaBlock 14 = .ok (.lconst 0, 1) := by decide +kernel
theorem dX3_shaBlock_15 : decode cX3_shaBlock 15 = .ok (.lstore_n 2, 1) := by decide +kernel
theorem dX3_shaBlock_16 : decode cX3_shaBlock 16 = .ok (.iconst 0, 1) := by decide +kernel
theorem dX3_shaBlock_17 : decode cX3_shaBlock 17 = .ok (.istore 4, 2) := by decide +kernel
theorem dX3_shaBlock_19 : decode cX3_shaBlock 19 = .ok (.iload 4, 2) := by decide +kernel
theorem dX3_shaBlock_21 : decode cX3_shaBlock 21 = .ok (.bipush 8, 2) := by decide +kernel
theorem dX3_shaBlock_23 : decode cX3_shaBlock 23 = .ok (.if_icmp .ge 28, 3) := by decide +kernel
theorem dX3_shaBlock_26 : decode cX3_shaBlock 26 = .ok (.lload_n 2, 1) := by decide +kernel
theorem dX3_shaBlock_27 : decode cX3_shaBlock 27 = .ok (.bipush 8, 2) := by decide +kernel
theorem dX3_shaBlock_29 : decode cX3_shaBlock 29 = .ok (.lshl, 1) := by decide +kernel
theorem dX3_shaBlock_30 : decode cX3_shaBlock 30 = .ok (.aload_n 0, 1) := by decide +kernel
theorem dX3_shaBlock_31 : decode cX3_shaBlock 31 = .ok (.getfield 13, 3) := by decide +kernel
theorem dX3_shaBlock_34 : decode cX3_shaBlock 34 = .ok (.bipush 8, 2) := by decide +kernel
theorem dX3_shaBlock_36 : decode cX3_shaBlock 36 = .ok (.iload_n 1, 1) := by decide +kernel
theorem dX3_shaBlock_37 : decode cX3_shaBlock 37 = .ok (.imul, 1) := by decide +kernel
theorem dX3_shaBlock_38 : decode cX3_shaBlock 38 = .ok (.iload 4, 2) := by decide +kernel
theorem dX3_shaBlock_40 : decode cX3_shaBlock 40 = .ok (.iadd, 1) := by decide +kernel
theorem dX3_shaBlock_41 : decode cX3_shaBlock 41 = .ok (.iaload, 1) := by decide +kernel
theorem dX3_shaBlock_42 : decode cX3_shaBlock 42 = .ok (.i2l, 1) := by decide +kernel
theorem dX3_shaBlock_43 : decode cX3_shaBlock 43 = .ok (.lor, 1) := by decide +kernel
theorem dX3_shaBlock_44 : decode cX3_shaBlock 44 = .ok (.lstore_n 2, 1) := by decide +kernel
theorem dX3_shaBlock_45 : decode cX3_shaBlock 45 = .ok (.iinc 4 1, 3) := by decide +kernel
theorem dX3_shaBlock_48 : decode cX3_shaBlock 48 = .ok (.goto (-29), 3) := by decide +kernel
theorem dX3_shaBlock_51 : decode cX3_shaBlock 51 = .ok (.aload_n 0, 1) := by decide +kernel
theorem dX3_shaBlock_52 : decode cX3_shaBlock 52 = .ok (.getfield 26, 3) := by decide +kernel
theorem dX3_shaBlock_55 : decode cX3_shaBlock 55 = .ok (.iload_n 1, 1) := by decide +kernel
theorem dX3_shaBlock_56 : decode cX3_shaBlock 56 = .ok (.lload_n 2, 1) := by decide +kernel
theorem dX3_shaBlock_57 : decode cX3_shaBlock 57 = .ok (.lastore, 1) := by decide +kernel
theorem dX3_shaBlock_58 : decode cX3_shaBlock 58 = .ok (.goto 96, 3) := by decide +kernel
theorem dX3_shaBlock_61 : decode cX3_shaBlock 61 = .ok (.aload_n 0, 1) := by decide +kernel
theorem dX3_shaBlock_62 : decode cX3_shaBlock 62 = .ok (.getfield 26, 3) := by decide +kernel
theorem dX3_shaBlock_65 : decode cX3_shaBlock 65 = .ok (.iload_n 1, 1) := by decide +kernel
theorem dX3_shaBlock_66 : decode cX3_shaBlock 66 = .ok (.bipush 15, 2) := by decide +kernel
theorem dX3_shaBlock_68 : decode cX3_shaBlock 68 = .ok (.isub, 1) := by decide +kernel
theorem dX3_shaBlock_69 : decode cX3_shaBlock 69 = .ok (.laload, 1) := by decide +kernel
theorem dX3_shaBlock_70 : decode cX3_shaBlock 70 = .ok (.lstore_n 2, 1) := by decide +kernel
theorem dX3_shaBlock_71 : decode cX3_shaBlock 71 = .ok (.aload_n 0, 1) := by decide +kernel
theorem dX3_shaBlock_72 : decode cX3_shaBlock 72 = .ok (.getfield 26, 3) := by decide +kernel
theorem dX3_shaBlock_75 : decode cX3_shaBlock 75 = .ok (.iload_n 1, 1) := by decide +kernel
theorem dX3_shaBlock_76 : decode cX3_shaBlock 76 = .ok (.iconst 2, 1) := by decide +kernel
theorem dX3_shaBlock_77 : decode cX3_shaBlock 77 = .ok (.isub, 1) := by decide +kernel
theorem dX3_shaBlock_78 : decode cX3_shaBlock 78 = .ok (.laload, 1) := by decide +kernel
theorem dX3_shaBlock_79 : decode cX3_shaBlock 79 = .ok (.lstore 4, 2) := by decide +kernel
theorem dX3_shaBlock_81 : decode cX3_shaBlock 81 = .ok (.lload_n 2, 1) := by decide +kernel
theorem dX3_shaBlock_82 : decode cX3_shaBlock 82 = .ok (.iconst 1, 1) := by decide +kernel
theorem dX3_shaBlock_83 : decode cX3_shaBlock 83 = .ok (.invokestatic 61, 3) := by decide +kernel
theorem dX3_shaBlock_86 : decode cX3_shaBlock 86 = .ok (.lload_n 2, 1) := by decide +kernel
theorem dX3_shaBlock_87 : decode cX3_shaBlock 87 = .ok (.bipush 8, 2) := by decide +kernel
theorem dX3_shaBlock_89 : decode cX3_shaBlock 89 = .ok (.invokestatic 61, 3) := by decide +kernel
theorem dX3_shaBlock_92 : decode cX3_shaBlock 92 = .ok (.lxor, 1) := by decide +kernel
theorem dX3_shaBlock_93 : decode cX3_shaBlock 93 = .ok (.lload_n 2, 1) := by decide +kernel
theorem dX3_shaBlock_94 : decode cX3_shaBlock 94 = .ok (.bipush 7, 2) := by decide +kernel
theorem dX3_shaBlock_96 : decode cX3_shaBlock 96 = .ok (.lushr, 1) := by decide +kernel
theorem dX3_shaBlock_97 : decode cX3_shaBlock 97 = .ok (.lxor, 1) := by decide +kernel
theorem dX3_shaBlock_98 : decode cX3_shaBlock 98 = .ok (.lstore 6, 2) := by decide +kernel
theorem dX3_shaBlock_100 : decode cX3_shaBlock 100 = .ok (.lload 4, 2) := by decide +kernel
theorem dX3_shaBlock_102 : decode cX3_shaBlock 102 = .ok (.bipush 19, 2) := by decide +kernel
theorem dX3_shaBlock_104 : decode cX3_shaBlock 104 = .ok (.invokestatic 61, 3) := by decide +kernel
theorem dX3_shaBlock_107 : decode cX3_shaBlock 107 = .ok (.lload 4, 2) := by decide +kernel
theorem dX3_shaBlock_109 : decode cX3_shaBlock 109 = .ok (.bipush 61, 2) := by decide +kernel
theorem dX3_shaBlock_111 : decode cX3_shaBlock 111 = .ok (.invokestatic 61, 3) := by decide +kernel
theorem dX3_shaBlock_114 : decode cX3_shaBlock 114 = .ok (.lxor, 1) := by decide +kernel
theorem dX3_shaBlock_115 : decode cX3_shaBlock 115 = .ok (.lload 4, 2) := by decide +kernel
theorem dX3_shaBlock_117 : decode cX3_shaBlock 117 = .ok (.bipush 6, 2) := by decide +kernel
theorem dX3_shaBlock_119 : decode cX3_shaBlock 119 = .ok (.lushr, 1) := by decide +kernel
theorem dX3_shaBlock_120 : decode cX3_shaBlock 120 = .ok (.lxor, 1) := by decide +kernel
theorem dX3_shaBlock_121 : decode cX3_shaBlock 121 = .ok (.lstore 8, 2) := by decide +kernel
theorem dX3_shaBlock_123 : decode cX3_shaBlock 123 = .ok (.aload_n 0, 1) := by decide +kernel
theorem dX3_shaBlock_124 : decode cX3_shaBlock 124 = .ok (.getfield 26, 3) := by decide +kernel
theorem dX3_shaBlock_127 : decode cX3_shaBlock 127 = .ok (.iload_n 1, 1) := by decide +kernel
theorem dX3_shaBlock_128 : decode cX3_shaBlock 128 = .ok (.aload_n 0, 1) := by decide +kernel
theorem dX3_shaBlock_129 : decode cX3_shaBlock 129 = .ok (.getfield 26, 3) := by decide +kernel
theorem dX3_shaBlock_132 : decode cX3_shaBlock 132 = .ok (.iload_n 1, 1) := by decide +kernel
theorem dX3_shaBlock_133 : decode cX3_shaBlock 133 = .ok (.bipush 16, 2) := by decide +kernel
theorem dX3_shaBlock_135 : decode cX3_shaBlock 135 = .ok (.isub, 1) := by decide +kernel
theorem dX3_shaBlock_136 : decode cX3_shaBlock 136 = .ok (.laload, 1) := by decide +kernel
theorem dX3_shaBlock_137 : decode cX3_shaBlock 137 = .ok (.lload 6, 2) := by decide +kernel
theorem dX3_shaBlock_139 : decode cX3_shaBlock 139 = .ok (.ladd, 1) := by decide +kernel
theorem dX3_shaBlock_140 : decode cX3_shaBlock 140 = .ok (.aload_n 0, 1) := by decide +kernel
theorem dX3_shaBlock_141 : decode cX3_shaBlock 141 = .ok (.getfield 26, 3) := by decide +kernel
theorem dX3_shaBlock_144 : decode cX3_shaBlock 144 = .ok (.iload_n 1, 1) := by decide +kernel
theorem dX3_shaBlock_145 : decode cX3_shaBlock 145 = .ok (.bipush 7, 2) := by decide +kernel
theorem dX3_shaBlock_147 : decode cX3_shaBlock 147 = .ok (.isub, 1) := by decide +kernel
theorem dX3_shaBlock_148 : decode cX3_shaBlock 148 = .ok (.laload, 1) := by decide +kernel
theorem dX3_shaBlock_149 : decode cX3_shaBlock 149 = .ok (.ladd, 1) := by decide +kernel
theorem dX3_shaBlock_150 : decode cX3_shaBlock 150 = .ok (.lload 8, 2) := by decide +kernel
theorem dX3_shaBlock_152 : decode cX3_shaBlock 152 = .ok (.ladd, 1) := by decide +kernel
theorem dX3_shaBlock_153 : decode cX3_shaBlock 153 = .ok (.lastore, 1) := by decide +kernel
theorem dX3_shaBlock_154 : decode cX3_shaBlock 154 = .ok (.iinc 1 1, 3) := by decide +kernel
theorem dX3_shaBlock_157 : decode cX3_shaBlock 157 = .ok (.goto (-155), 3) := by decide +kernel
theorem dX3_shaBlock_160 : decode cX3_shaBlock 160 = .ok (.iconst 0, 1) := by decide +kernel
theorem dX3_shaBlock_161 : decode cX3_shaBlock 161 = .ok (.istore_n 1, 1) := by decide +kernel
theorem dX3_shaBlock_162 : decode cX3_shaBlock 162 = .ok (.iload_n 1, 1) := by decide +kernel
theorem dX3_shaBlock_163 : decode cX3_shaBlock 163 = .ok (.bipush 8, 2) := by decide +kernel
theorem dX3_shaBlock_165 : decode cX3_shaBlock 165 = .ok (.if_icmp .ge 21, 3) := by decide +kernel
theorem dX3_shaBlock_168 : decode cX3_shaBlock 168 = .ok (.aload_n 0, 1) := by decide +kernel
theorem dX3_shaBlock_169 : decode cX3_shaBlock 169 = .ok (.getfield 29, 3) := by decide +kernel
theorem dX3_shaBlock_172 : decode cX3_shaBlock 172 = .ok (.iload_n 1, 1) := by decide +kernel
theorem dX3_shaBlock_173 : decode cX3_shaBlock 173 = .ok (.aload_n 0, 1) := by decide +kernel
theorem dX3_shaBlock_174 : decode cX3_shaBlock 174 = .ok (.getfield 16, 3) := by decide +kernel
theorem dX3_shaBlock_177 : decode cX3_shaBlock 177 = .ok (.iload_n 1, 1) := by decide +kernel
theorem dX3_shaBlock_178 : decode cX3_shaBlock 178 = .ok (.laload, 1) := by decide +kernel
theorem dX3_shaBlock_179 : decode cX3_shaBlock 179 = .ok (.lastore, 1) := by decide +kernel
theorem dX3_shaBlock_180 : decode cX3_shaBlock 180 = .ok (.iinc 1 1, 3) := by decide +kernel
theorem dX3_shaBlock_183 : decode cX3_shaBlock 183 = .ok (.goto (-21), 3) := by decide +kernel
theorem dX3_shaBlock_186 : decode cX3_shaBlock 186 = .ok (.iconst 0, 1) := by decide +kernel
theorem dX3_shaBlock_187 : decode cX3_shaBlock 187 = .ok (.istore_n 1, 1) := by decide +kernel
theorem dX3_shaBlock_188 : decode cX3_shaBlock 188 = .ok (.iload_n 1, 1) := by decide +kernel
theorem dX3_shaBlock_189 : decode cX3_shaBlock 189 = .ok (.bipush 80, 2) := by decide +kernel
theorem dX3_shaBlock_191 : decode cX3_shaBlock 191 = .ok (.if_icmp .ge 241, 3) := by decide +kernel
theorem dX3_shaBlock_194 : decode cX3_shaBlock 194 = .ok (.bipush 80, 2) := by decide +kernel
theorem dX3_shaBlock_196 : decode cX3_shaBlock 196 = .ok (.iload_n 1, 1) := by decide +kernel
theorem dX3_shaBlock_197 : decode cX3_shaBlock 197 = .ok (.isub, 1) := by decide +kernel
theorem dX3_shaBlock_198 : decode cX3_shaBlock 198 = .ok (.bipush 8, 2) := by decide +kernel
theorem dX3_shaBlock_200 : decode cX3_shaBlock 200 = .ok (.irem, 1) := by decide +kernel
theorem dX3_shaBlock_201 : decode cX3_shaBlock 201 = .ok (.istore_n 2, 1) := by decide +kernel
theorem dX3_shaBlock_202 : decode cX3_shaBlock 202 = .ok (.aload_n 0, 1) := by decide +kernel
theorem dX3_shaBlock_203 : decode cX3_shaBlock 203 = .ok (.getfield 29, 3) := by decide +kernel
theorem dX3_shaBlock_206 : decode cX3_shaBlock 206 = .ok (.iload_n 2, 1) := by decide +kernel
theorem dX3_shaBlock_207 : decode cX3_shaBlock 207 = .ok (.iconst 4, 1) := by decide +kernel
theorem dX3_shaBlock_208 : decode cX3_shaBlock 208 = .ok (.iadd, 1) := by decide +kernel
theorem dX3_shaBlock_209 : decode cX3_shaBlock 209 = .ok (.bipush 8, 2) := by decide +kernel
theorem dX3_shaBlock_211 : decode cX3_shaBlock 211 = .ok (.irem, 1) := by decide +kernel
theorem dX3_shaBlock_212 : decode cX3_shaBlock 212 = .ok (.laload, 1) := by decide +kernel
theorem dX3_shaBlock_213 : decode cX3_shaBlock 213 = .ok (.lstore_n 3, 1) := by decide +kernel
theorem dX3_shaBlock_214 : decode cX3_shaBlock 214 = .ok (.aload_n 0, 1) := by decide +kernel
theorem dX3_shaBlock_215 : decode cX3_shaBlock 215 = .ok (.getfield 29, 3) := by decide +kernel
theorem dX3_shaBlock_218 : decode cX3_shaBlock 218 = .ok (.iload_n 2, 1) := by decide +kernel
theorem dX3_shaBlock_219 : decode cX3_shaBlock 219 = .ok (.iconst 5, 1) := by decide +kernel
theorem dX3_shaBlock_220 : decode cX3_shaBlock 220 = .ok (.iadd, 1) := by decide +kernel
theorem dX3_shaBlock_221 : decode cX3_shaBlock 221 = .ok (.bipush 8, 2) := by decide +kernel
theorem dX3_shaBlock_223 : decode cX3_shaBlock 223 = .ok (.irem, 1) := by decide +kernel
theorem dX3_shaBlock_224 : decode cX3_shaBlock 224 = .ok (.laload, 1) := by decide +kernel
theorem dX3_shaBlock_225 : decode cX3_shaBlock 225 = .ok (.lstore 5, 2) := by decide +kernel
theorem dX3_shaBlock_227 : decode cX3_shaBlock 227 = .ok (.aload_n 0, 1) := by decide +kernel
theorem dX3_shaBlock_228 : decode cX3_shaBlock 228 = .ok (.getfield 29, 3) := by decide +kernel
theorem dX3_shaBlock_231 : decode cX3_shaBlock 231 = .ok (.iload_n 2, 1) := by decide +kernel
theorem dX3_shaBlock_232 : decode cX3_shaBlock 232 = .ok (.bipush 6, 2) := by decide +kernel
theorem dX3_shaBlock_234 : decode cX3_shaBlock 234 = .ok (.iadd, 1) := by decide +kernel
theorem dX3_shaBlock_235 : decode cX3_shaBlock 235 = .ok (.bipush 8, 2) := by decide +kernel
theorem dX3_shaBlock_237 : decode cX3_shaBlock 237 = .ok (.irem, 1) := by decide +kernel
theorem dX3_shaBlock_238 : decode cX3_shaBlock 238 = .ok (.laload, 1) := by decide +kernel
theorem dX3_shaBlock_239 : decode cX3_shaBlock 239 = .ok (.lstore 7, 2) := by decide +kernel
theorem dX3_shaBlock_241 : decode cX3_shaBlock 241 = .ok (.aload_n 0, 1) := by decide +kernel
theorem dX3_shaBlock_242 : decode cX3_shaBlock 242 = .ok (.getfield 29, 3) := by decide +kernel
theorem dX3_shaBlock_245 : decode cX3_shaBlock 245 = .ok (.iload_n 2, 1) := by decide +kernel
theorem dX3_shaBlock_246 : decode cX3_shaBlock 246 = .ok (.bipush 7, 2) := by decide +kernel
theorem dX3_shaBlock_248 : decode cX3_shaBlock 248 = .ok (.iadd, 1) := by decide +kernel
theorem dX3_shaBlock_249 : decode cX3_shaBlock 249 = .ok (.bipush 8, 2) := by decide +kernel
theorem dX3_shaBlock_251 : decode cX3_shaBlock 251 = .ok (.irem, 1) := by decide +kernel
theorem dX3_shaBlock_252 : decode cX3_shaBlock 252 = .ok (.laload, 1) := by decide +kernel
theorem dX3_shaBlock_253 : decode cX3_shaBlock 253 = .ok (.lload_n 3, 1) := by decide +kernel
theorem dX3_shaBlock_254 : decode cX3_shaBlock 254 = .ok (.bipush 14, 2) := by decide +kernel
theorem dX3_shaBlock_256 : decode cX3_shaBlock 256 = .ok (.invokestatic 61, 3) := by decide +kernel
theorem dX3_shaBlock_259 : decode cX3_shaBlock 259 = .ok (.lload_n 3, 1) := by decide +kernel
theorem dX3_shaBlock_260 : decode cX3_shaBlock 260 = .ok (.bipush 18, 2) := by decide +kernel
theorem dX3_shaBlock_262 : decode cX3_shaBlock 262 = .ok (.invokestatic 61, 3) := by decide +kernel
theorem dX3_shaBlock_265 : decode cX3_shaBlock 265 = .ok (.lxor, 1) := by decide +kernel
theorem dX3_shaBlock_266 : decode cX3_shaBlock 266 = .ok (.lload_n 3, 1) := by decide +kernel
theorem dX3_shaBlock_267 : decode cX3_shaBlock 267 = .ok (.bipush 41, 2) := by decide +kernel
theorem dX3_shaBlock_269 : decode cX3_shaBlock 269 = .ok (.invokestatic 61, 3) := by decide +kernel
theorem dX3_shaBlock_272 : decode cX3_shaBlock 272 = .ok (.lxor, 1) := by decide +kernel
theorem dX3_shaBlock_273 : decode cX3_shaBlock 273 = .ok (.ladd, 1) := by decide +kernel
theorem dX3_shaBlock_274 : decode cX3_shaBlock 274 = .ok (.lload_n 3, 1) := by decide +kernel
theorem dX3_shaBlock_275 : decode cX3_shaBlock 275 = .ok (.lload 5, 2) := by decide +kernel
theorem dX3_shaBlock_277 : decode cX3_shaBlock 277 = .ok (.land, 1) := by decide +kernel
theorem dX3_shaBlock_278 : decode cX3_shaBlock 278 = .ok (.lload_n 3, 1) := by decide +kernel
theorem dX3_shaBlock_279 : decode cX3_shaBlock 279 = .ok (.ldc2_w 69, 3) := by decide +kernel
theorem dX3_shaBlock_282 : decode cX3_shaBlock 282 = .ok (.lxor, 1) := by decide +kernel
theorem dX3_shaBlock_283 : decode cX3_shaBlock 283 = .ok (.lload 7, 2) := by decide +kernel
theorem dX3_shaBlock_285 : decode cX3_shaBlock 285 = .ok (.land, 1) := by decide +kernel
theorem dX3_shaBlock_286 : decode cX3_shaBlock 286 = .ok (.lxor, 1) := by decide +kernel
theorem dX3_shaBlock_287 : decode cX3_shaBlock 287 = .ok (.ladd, 1) := by decide +kernel
theorem dX3_shaBlock_288 : decode cX3_shaBlock 288 = .ok (.aload_n 0, 1) := by decide +kernel
theorem dX3_shaBlock_289 : decode cX3_shaBlock 289 = .ok (.getfield 20, 3) := by decide +kernel
theorem dX3_shaBlock_292 : decode cX3_shaBlock 292 = .ok (.iload_n 1, 1) := by decide +kernel
theorem dX3_shaBlock_293 : decode cX3_shaBlock 293 = .ok (.laload, 1) := by decide +kernel
theorem dX3_shaBlock_294 : decode cX3_shaBlock 294 = .ok (.ladd, 1) := by decide +kernel
theorem dX3_shaBlock_295 : decode cX3_shaBlock 295 = .ok (.aload_n 0, 1) := by decide +kernel
theorem dX3_shaBlock_296 : decode cX3_shaBlock 296 = .ok (.getfield 26, 3) := by decide +kernel
theorem dX3_shaBlock_299 : decode cX3_shaBlock 299 = .ok (.iload_n 1, 1) := by decide +kernel
theorem dX3_shaBlock_300 : decode cX3_shaBlock 300 = .ok (.laload, 1) := by decide +kernel
theorem dX3_shaBlock_301 : decode cX3_shaBlock 301 = .ok (.ladd, 1) := by decide +kernel
theorem dX3_shaBlock_302 : decode cX3_shaBlock 302 = .ok (.lstore 9, 2) := by decide +kernel
theorem dX3_shaBlock_304 : decode cX3_shaBlock 304 = .ok (.aload_n 0, 1) := by decide +kernel
theorem dX3_shaBlock_305 : decode cX3_shaBlock 305 = .ok (.getfield 29, 3) := by decide +kernel
theorem dX3_shaBlock_308 : decode cX3_shaBlock 308 = .ok (.iload_n 2, 1) := by decide +kernel
theorem dX3_shaBlock_309 : decode cX3_shaBlock 309 = .ok (.iconst 1, 1) := by decide +kernel
theorem dX3_shaBlock_310 : decode cX3_shaBlock 310 = .ok (.iadd, 1) := by decide +kernel
theorem dX3_shaBlock_311 : decode cX3_shaBlock 311 = .ok (.bipush 8, 2) := by decide +kernel
theorem dX3_shaBlock_313 : decode cX3_shaBlock 313 = .ok (.irem, 1) := by decide +kernel
theorem dX3_shaBlock_314 : decode cX3_shaBlock 314 = .ok (.laload, 1) := by decide +kernel
theorem dX3_shaBlock_315 : decode cX3_shaBlock 315 = .ok (.lstore 11, 2) := by decide +kernel
theorem dX3_shaBlock_317 : decode cX3_shaBlock 317 = .ok (.aload_n 0, 1) := by decide +kernel
theorem dX3_shaBlock_318 : decode cX3_shaBlock 318 = .ok (.getfield 29, 3) := by decide +kernel
theorem dX3_shaBlock_321 : decode cX3_shaBlock 321 = .ok (.iload_n 2, 1) := by decide +kernel
theorem dX3_shaBlock_322 : decode cX3_shaBlock 322 = .ok (.iconst 2, 1) := by decide +kernel
theorem dX3_shaBlock_323 : decode cX3_shaBlock 323 = .ok (.iadd, 1) := by decide +kernel
theorem dX3_shaBlock_324 : decode cX3_shaBlock 324 = .ok (.bipush 8, 2) := by decide +kernel
theorem dX3_shaBlock_326 : decode cX3_shaBlock 326 = .ok (.irem, 1) := by decide +kernel
theorem dX3_shaBlock_327 : decode cX3_shaBlock 327 = .ok (.laload, 1) := by decide +kernel
theorem dX3_shaBlock_328 : decode cX3_shaBlock 328 = .ok (.lstore 13, 2) := by decide +kernel
theorem dX3_shaBlock_330 : decode cX3_shaBlock 330 = .ok (.aload_n 0, 1) := by decide +kernel
theorem dX3_shaBlock_331 : decode cX3_shaBlock 331 = .ok (.getfield 29, 3) := by decide +kernel
theorem dX3_shaBlock_334 : decode cX3_shaBlock 334 = .ok (.iload_n 2, 1) := by decide +kernel
theorem dX3_shaBlock_335 : decode cX3_shaBlock 335 = .ok (.laload, 1) := by decide +kernel
theorem dX3_shaBlock_336 : decode cX3_shaBlock 336 = .ok (.bipush 28, 2) := by decide +kernel
theorem dX3_shaBlock_338 : decode cX3_shaBlock 338 = .ok (.invokestatic 61, 3) := by decide +kernel
theorem dX3_shaBlock_341 : decode cX3_shaBlock 341 = .ok (.aload_n 0, 1) := by decide +kernel
theorem dX3_shaBlock_342 : decode cX3_shaBlock 342 = .ok (.getfield 29, 3) := by decide +kernel
theorem dX3_shaBlock_345 : decode cX3_shaBlock 345 = .ok (.iload_n 2, 1) := by decide +kernel
theorem dX3_shaBlock_346 : decode cX3_shaBlock 346 = .ok (.laload, 1) := by decide +kernel
theorem dX3_shaBlock_347 : decode cX3_shaBlock 347 = .ok (.bipush 34, 2) := by decide +kernel
theorem dX3_shaBlock_349 : decode cX3_shaBlock 349 = .ok (.invokestatic 61, 3) := by decide +kernel
theorem dX3_shaBlock_352 : decode cX3_shaBlock 352 = .ok (.lxor, 1) := by decide +kernel
theorem dX3_shaBlock_353 : decode cX3_shaBlock 353 = .ok (.aload_n 0, 1) := by decide +kernel
theorem dX3_shaBlock_354 : decode cX3_shaBlock 354 = .ok (.getfield 29, 3) := by decide +kernel
theorem dX3_shaBlock_357 : decode cX3_shaBlock 357 = .ok (.iload_n 2, 1) := by decide +kernel
theorem dX3_shaBlock_358 : decode cX3_shaBlock 358 = .ok (.laload, 1) := by decide +kernel
theorem dX3_shaBlock_359 : decode cX3_shaBlock 359 = .ok (.bipush 39, 2) := by decide +kernel
theorem dX3_shaBlock_361 : decode cX3_shaBlock 361 = .ok (.invokestatic 61, 3) := by decide +kernel
theorem dX3_shaBlock_364 : decode cX3_shaBlock 364 = .ok (.lxor, 1) := by decide +kernel
theorem dX3_shaBlock_365 : decode cX3_shaBlock 365 = .ok (.aload_n 0, 1) := by decide +kernel
theorem dX3_shaBlock_366 : decode cX3_shaBlock 366 = .ok (.getfield 29, 3) := by decide +kernel
theorem dX3_shaBlock_369 : decode cX3_shaBlock 369 = .ok (.iload_n 2, 1) := by decide +kernel
theorem dX3_shaBlock_370 : decode cX3_shaBlock 370 = .ok (.laload, 1) := by decide +kernel
theorem dX3_shaBlock_371 : decode cX3_shaBlock 371 = .ok (.lload 11, 2) := by decide +kernel
theorem dX3_shaBlock_373 : decode cX3_shaBlock 373 = .ok (.land, 1) := by decide +kernel
theorem dX3_shaBlock_374 : decode cX3_shaBlock 374 = .ok (.aload_n 0, 1) := by decide +kernel
theorem dX3_shaBlock_375 : decode cX3_shaBlock 375 = .ok (.getfield 29, 3) := by decide +kernel
theorem dX3_shaBlock_378 : decode cX3_shaBlock 378 = .ok (.iload_n 2, 1) := by decide +kernel
theorem dX3_shaBlock_379 : decode cX3_shaBlock 379 = .ok (.laload, 1) := by decide +kernel
theorem dX3_shaBlock_380 : decode cX3_shaBlock 380 = .ok (.lload 13, 2) := by decide +kernel
theorem dX3_shaBlock_382 : decode cX3_shaBlock 382 = .ok (.land, 1) := by decide +kernel
theorem dX3_shaBlock_383 : decode cX3_shaBlock 383 = .ok (.lor, 1) := by decide +kernel
theorem dX3_shaBlock_384 : decode cX3_shaBlock 384 = .ok (.lload 11, 2) := by decide +kernel
theorem dX3_shaBlock_386 : decode cX3_shaBlock 386 = .ok (.lload 13, 2) := by decide +kernel
theorem dX3_shaBlock_388 : decode cX3_shaBlock 388 = .ok (.land, 1) := by decide +kernel
theorem dX3_shaBlock_389 : decode cX3_shaBlock 389 = .ok (.lor, 1) := by decide +kernel
theorem dX3_shaBlock_390 : decode cX3_shaBlock 390 = .ok (.ladd, 1) := by decide +kernel
theorem dX3_shaBlock_391 : decode cX3_shaBlock 391 = .ok (.lstore 15, 2) := by decide +kernel
theorem dX3_shaBlock_393 : decode cX3_shaBlock 393 = .ok (.aload_n 0, 1) := by decide +kernel
theorem dX3_shaBlock_394 : decode cX3_shaBlock 394 = .ok (.getfield 29, 3) := by decide +kernel
theorem dX3_shaBlock_397 : decode cX3_shaBlock 397 = .ok (.iload_n 2, 1) := by decide +kernel
theorem dX3_shaBlock_398 : decode cX3_shaBlock 398 = .ok (.iconst 3, 1) := by decide +kernel
theorem dX3_shaBlock_399 : decode cX3_shaBlock 399 = .ok (.iadd, 1) := by decide +kernel
theorem dX3_shaBlock_400 : decode cX3_shaBlock 400 = .ok (.bipush 8, 2) := by decide +kernel
theorem dX3_shaBlock_402 : decode cX3_shaBlock 402 = .ok (.irem, 1) := by decide +kernel
theorem dX3_shaBlock_403 : decode cX3_shaBlock 403 = .ok (.dup2, 1) := by decide +kernel
theorem dX3_shaBlock_404 : decode cX3_shaBlock 404 = .ok (.laload, 1) := by decide +kernel
theorem dX3_shaBlock_405 : decode cX3_shaBlock 405 = .ok (.lload 9, 2) := by decide +kernel
theorem dX3_shaBlock_407 : decode cX3_shaBlock 407 = .ok (.ladd, 1) := by decide +kernel
theorem dX3_shaBlock_408 : decode cX3_shaBlock 408 = .ok (.lastore, 1) := by decide +kernel
theorem dX3_shaBlock_409 : decode cX3_shaBlock 409 = .ok (.aload_n 0, 1) := by decide +kernel
theorem dX3_shaBlock_410 : decode cX3_shaBlock 410 = .ok (.getfield 29, 3) := by decide +kernel
theorem dX3_shaBlock_413 : decode cX3_shaBlock 413 = .ok (.iload_n 2, 1) := by decide +kernel
theorem dX3_shaBlock_414 : decode cX3_shaBlock 414 = .ok (.bipush 7, 2) := by decide +kernel
theorem dX3_shaBlock_416 : decode cX3_shaBlock 416 = .ok (.iadd, 1) := by decide +kernel
theorem dX3_shaBlock_417 : decode cX3_shaBlock 417 = .ok (.bipush 8, 2) := by decide +kernel
theorem dX3_shaBlock_419 : decode cX3_shaBlock 419 = .ok (.irem, 1) := by decide +kernel
theorem dX3_shaBlock_420 : decode cX3_shaBlock 420 = .ok (.lload 9, 2) := by decide +kernel
theorem dX3_shaBlock_422 : decode cX3_shaBlock 422 = .ok (.lload 15, 2) := by decide +kernel
theorem dX3_shaBlock_424 : decode cX3_shaBlock 424 = .ok (.ladd, 1) := by decide +kernel
theorem dX3_shaBlock_425 : decode cX3_shaBlock 425 = .ok (.lastore, 1) := by decide +kernel
theorem dX3_shaBlock_426 : decode cX3_shaBlock 426 = .ok (.iinc 1 1, 3) := by decide +kernel
theorem dX3_shaBlock_429 : decode cX3_shaBlock 429 = .ok (.goto (-241), 3) := by decide +kernel
theorem dX3_shaBlock_432 : decode cX3_shaBlock 432 = .ok (.iconst 0, 1) := by decide +kernel
theorem dX3_shaBlock_433 : decode cX3_shaBlock 433 = .ok (.istore_n 1, 1) := by decide +kernel
theorem dX3_shaBlock_434 : decode cX3_shaBlock 434 = .ok (.iload_n 1, 1) := by decide +kernel
theorem dX3_shaBlock_435 : decode cX3_shaBlock 435 = .ok (.bipush 8, 2) := by decide +kernel
theorem dX3_shaBlock_437 : decode cX3_shaBlock 437 = .ok (.if_icmp .ge 24, 3) := by decide +kernel
theorem dX3_shaBlock_440 : decode cX3_shaBlock 440 = .ok (.aload_n 0, 1) := by decide +kernel
theorem dX3_shaBlock_441 : decode cX3_shaBlock 441 = .ok (.getfield 16, 3) := by decide +kernel
theorem dX3_shaBlock_444 : decode cX3_shaBlock 444 = .ok (.iload_n 1, 1) := by decide +kernel
theorem dX3_shaBlock_445 : decode cX3_shaBlock 445 = .ok (.dup2, 1) := by decide +kernel
theorem dX3_shaBlock_446 : decode cX3_shaBlock 446 = .ok (.laload, 1) := by decide +kernel
theorem dX3_shaBlock_447 : decode cX3_shaBlock 447 = .ok (.aload_n 0, 1) := by decide +kernel
theorem dX3_shaBlock_448 : decode cX3_shaBlock 448 = .ok (.getfield 29, 3) := by decide +kernel
theorem dX3_shaBlock_451 : decode cX3_shaBlock 451 = .ok (.iload_n 1, 1) := by decide +kernel
theorem dX3_shaBlock_452 : decode cX3_shaBlock 452 = .ok (.laload, 1) := by decide +kernel
theorem dX3_shaBlock_453 : decode cX3_shaBlock 453 = .ok (.ladd, 1) := by decide +kernel
theorem dX3_shaBlock_454 : decode cX3_shaBlock 454 = .ok (.lastore, 1) := by decide +kernel
theorem dX3_shaBlock_455 : decode cX3_shaBlock 455 = .ok (.iinc 1 1, 3) := by decide +kernel
theorem dX3_shaBlock_458 : decode cX3_shaBlock 458 = .ok (.goto (-24), 3) := by decide +kernel
theorem dX3_shaBlock_461 : decode cX3_shaBlock 461 = .ok (.return_, 1) := by decide +kernel
set_option maxRecDepth 20000 in
theorem ggX3_sipRounds_X3_left : GoodIn wsX3_sipRounds wsX3_left := goodIn_r _ [5, 6, 7, 4, 8] (by decide +kernel) (by decide +kernel)
set_option maxRecDepth 20000 in
theorem gX3_sipRounds_X3_left : GoodIn wsX3_sipRounds (va_wsS RX3 71 yX3_left wsX3_left) := goodIn_app (goodIn_of _ (by decide +kernel)) ggX3_sipRounds_X3_left
theorem dX3_sipRounds_0 : decode cX3_sipRounds 0 = .ok (.iconst 0, 1) := by decide +kernel
theorem dX3_sipRounds_1 : decode cX3_sipRounds 1 = .ok (.istore_n 2, 1) := by decide +kernel
theorem dX3_sipRounds_2 : decode cX3_sipRounds 2 = .ok (.iload_n 2, 1) := by decide +kernel
theorem dX3_sipRounds_3 : decode cX3_sipRounds 3 = .ok (.iload_n 1, 1) := by decide +kernel
theorem dX3_sipRounds_4 : decode cX3_sipRounds 4 = .ok (.if_icmp .ge 199, 3) := by decide +kernel
theorem dX3_sipRounds_7 : decode cX3_sipRounds 7 = .ok (.aload_n 0, 1) := by decide +kernel
theorem dX3_sipRounds_8 : decode cX3_sipRounds 8 = .ok (.getfield 16, 3) := by decide +kernel
theorem dX3_sipRounds_11 : decode cX3_sipRounds 11 = .ok (.iconst 0, 1) := by decide +kernel
theorem dX3_sipRounds_12 : decode cX3_sipRounds 12 = .ok (.dup2, 1) := by decide +kernel
theorem dX3_sipRounds_13 : decode cX3_sipRounds 13 = .ok (.laload, 1) := by decide +kernel
theorem dX3_sipRounds_14 : decode cX3_sipRounds 14 = .ok (.aload_n 0, 1) := by decide +kernel
theorem dX3_sipRounds_15 : decode cX3_sipRounds 15 = .ok (.getfield 16, 3) := by decide +kernel
theorem dX3_sipRounds_18 : decode cX3_sipRounds 18 = .ok (.iconst 1, 1) := by decide +kernel
theorem dX3_sipRounds_19 : decode cX3_sipRounds 19 = .ok (.laload, 1) := by decide +kernel
theorem dX3_sipRounds_20 : decode cX3_sipRounds 20 = .ok (.ladd, 1) := by decide +kernel
theorem dX3_sipRounds_21 : decode cX3_sipRounds 21 = .ok (.lastore, 1) := by decide +kernel
theorem dX3_sipRounds_22 : decode cX3_sipRounds 22 = .ok (.aload_n 0, 1) := by decide +kernel
theorem dX3_sipRounds_23 : decode cX3_sipRounds 23 = .ok (.getfield 16, 3) := by decide +kernel
theorem dX3_sipRounds_26 : decode cX3_sipRounds 26 = .ok (.iconst 2, 1) := by decide +kernel
theorem dX3_sipRounds_27 : decode cX3_sipRounds 27 = .ok (.dup2, 1) := by decide +kernel
theorem dX3_sipRounds_28 : decode cX3_sipRounds 28 = .ok (.laload, 1) := by decide +kernel
theorem dX3_sipRounds_29 : decode cX3_sipRounds 29 = .ok (.aload_n 0, 1) := by decide +kernel
theorem dX3_sipRounds_30 : decode cX3_sipRounds 30 = .ok (.getfield 16, 3) := by decide +kernel
theorem dX3_sipRounds_33 : decode cX3_sipRounds 33 = .ok (.iconst 3, 1) := by decide +kernel
theorem dX3_sipRounds_34 : decode cX3_sipRounds 34 = .ok (.laload, 1) := by decide +kernel
theorem dX3_sipRounds_35 : decode cX3_sipRounds 35 = .ok (.ladd, 1) := by decide +kernel
theorem dX3_sipRounds_36 : decode cX3_sipRounds 36 = .ok (.lastore, 1) := by decide +kernel
theorem dX3_sipRounds_37 : decode cX3_sipRounds 37 = .ok (.aload_n 0, 1) := by decide +kernel
theorem dX3_sipRounds_38 : decode cX3_sipRounds 38 = .ok (.getfield 16, 3) := by decide +kernel
theorem dX3_sipRounds_41 : decode cX3_sipRounds 41 = .ok (.iconst 1, 1) := by decide +kernel
theorem dX3_sipRounds_42 : decode cX3_sipRounds 42 = .ok (.aload_n 0, 1) := by decide +kernel
theorem dX3_sipRounds_43 : decode cX3_sipRounds 43 = .ok (.getfield 16, 3) := by decide +kernel
theorem dX3_sipRounds_46 : decode cX3_sipRounds 46 = .ok (.iconst 1, 1) := by decide +kernel
theorem dX3_sipRounds_47 : decode cX3_sipRounds 47 = .ok (.laload, 1) := by decide +kernel
theorem dX3_sipRounds_48 : decode cX3_sipRounds 48 = .ok (.bipush 13, 2) := by decide +kernel
theorem dX3_sipRounds_50 : decode cX3_sipRounds 50 = .ok (.invokestatic 71, 3) := by decide +kernel
theorem dX3_sipRounds_53 : decode cX3_sipRounds 53 = .ok (.aload_n 0, 1) := by decide +kernel
theorem dX3_sipRounds_54 : decode cX3_sipRounds 54 = .ok (.getfield 16, 3) := by decide +kernel
theorem dX3_sipRounds_57 : decode cX3_sipRounds 57 = .ok (.iconst 0, 1) := by decide +kernel
theorem dX3_sipRounds_58 : decode cX3_sipRounds 58 = .ok (.laload, 1) := by decide +kernel
theorem dX3_sipRounds_59 : decode cX3_sipRounds 59 = .ok (.lxor, 1) := by decide +kernel
theorem dX3_sipRounds_60 : decode cX3_sipRounds 60 = .ok (.lastore, 1) := by decide +kernel
theorem dX3_sipRounds_61 : decode cX3_sipRounds 61 = .ok (.aload_n 0, 1) := by decide +kernel
theorem dX3_sipRounds_62 : decode cX3_sipRounds 62 = .ok (.getfield 16, 3) := by decide +kernel
theorem dX3_sipRounds_65 : decode cX3_sipRounds 65 = .ok (.iconst 3, 1) := by decide +kernel
theorem dX3_sipRounds_66 : decode cX3_sipRounds 66 = .ok (.aload_n 0, 1) := by decide +kernel
theorem dX3_sipRounds_67 : decode cX3_sipRounds 67 = .ok (.getfield 16, 3) := by decide +kernel
theorem dX3_sipRounds_70 : decode cX3_sipRounds 70 = .ok (.iconst 3, 1) := by decide +kernel
theorem dX3_sipRounds_71 : decode cX3_sipRounds 71 = .ok (.laload, 1) := by decide +kernel

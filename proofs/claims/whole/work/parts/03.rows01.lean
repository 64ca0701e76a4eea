theorem dX0_mixRound_129 : decode cX0_mixRound 129 = .ok (.aload_n 0, 1) := by decide +kernel
theorem dX0_mixRound_130 : decode cX0_mixRound 130 = .ok (.iconst 1, 1) := by decide +kernel
theorem dX0_mixRound_131 : decode cX0_mixRound 131 = .ok (.invokevirtual 66, 3) := by decide +kernel
theorem dX0_mixRound_134 : decode cX0_mixRound 134 = .ok (.istore 5, 2) := by decide +kernel
theorem dX0_mixRound_136 : decode cX0_mixRound 136 = .ok (.aload_n 0, 1) := by decide +kernel
theorem dX0_mixRound_137 : decode cX0_mixRound 137 = .ok (.getfield 13, 3) := by decide +kernel
theorem dX0_mixRound_140 : decode cX0_mixRound 140 = .ok (.iconst 0, 1) := by decide +kernel
theorem dX0_mixRound_141 : decode cX0_mixRound 141 = .ok (.aload_n 0, 1) := by decide +kernel
theorem dX0_mixRound_142 : decode cX0_mixRound 142 = .ok (.getfield 13, 3) := by decide +kernel
theorem dX0_mixRound_145 : decode cX0_mixRound 145 = .ok (.iconst 2, 1) := by decide +kernel
theorem dX0_mixRound_146 : decode cX0_mixRound 146 = .ok (.bipush 14, 2) := by decide +kernel
theorem dX0_mixRound_148 : decode cX0_mixRound 148 = .ok (.invokestatic 26, 3) := by decide +kernel
theorem dX0_mixRound_151 : decode cX0_mixRound 151 = .ok (.aload_n 0, 1) := by decide +kernel
theorem dX0_mixRound_152 : decode cX0_mixRound 152 = .ok (.getfield 13, 3) := by decide +kernel
theorem dX0_mixRound_155 : decode cX0_mixRound 155 = .ok (.bipush 8, 2) := by decide +kernel
theorem dX0_mixRound_157 : decode cX0_mixRound 157 = .ok (.iload_n 2, 1) := by decide +kernel
theorem dX0_mixRound_158 : decode cX0_mixRound 158 = .ok (.iload_n 3, 1) := by decide +kernel
theorem dX0_mixRound_159 : decode cX0_mixRound 159 = .ok (.invokestatic 45, 3) := by decide +kernel
theorem dX0_mixRound_162 : decode cX0_mixRound 162 = .ok (.aload_n 0, 1) := by decide +kernel
theorem dX0_mixRound_163 : decode cX0_mixRound 163 = .ok (.getfield 13, 3) := by decide +kernel
theorem dX0_mixRound_166 : decode cX0_mixRound 166 = .ok (.iconst 0, 1) := by decide +kernel
theorem dX0_mixRound_167 : decode cX0_mixRound 167 = .ok (.iload_n 2, 1) := by decide +kernel
theorem dX0_mixRound_168 : decode cX0_mixRound 168 = .ok (.iastore, 1) := by decide +kernel
theorem dX0_mixRound_169 : decode cX0_mixRound 169 = .ok (.aload_n 0, 1) := by decide +kernel
theorem dX0_mixRound_170 : decode cX0_mixRound 170 = .ok (.getfield 13, 3) := by decide +kernel
theorem dX0_mixRound_173 : decode cX0_mixRound 173 = .ok (.iconst 1, 1) := by decide +kernel
theorem dX0_mixRound_174 : decode cX0_mixRound 174 = .ok (.iload_n 3, 1) := by decide +kernel
theorem dX0_mixRound_175 : decode cX0_mixRound 175 = .ok (.iastore, 1) := by decide +kernel
theorem dX0_mixRound_176 : decode cX0_mixRound 176 = .ok (.aload_n 0, 1) := by decide +kernel
theorem dX0_mixRound_177 : decode cX0_mixRound 177 = .ok (.getfield 13, 3) := by decide +kernel
theorem dX0_mixRound_180 : decode cX0_mixRound 180 = .ok (.iconst 0, 1) := by decide +kernel
theorem dX0_mixRound_181 : decode cX0_mixRound 181 = .ok (.aload_n 0, 1) := by decide +kernel
theorem dX0_mixRound_182 : decode cX0_mixRound 182 = .ok (.getfield 13, 3) := by decide +kernel
theorem dX0_mixRound_185 : decode cX0_mixRound 185 = .ok (.iconst 2, 1) := by decide +kernel
theorem dX0_mixRound_186 : decode cX0_mixRound 186 = .ok (.iaload, 1) := by decide +kernel
theorem dX0_mixRound_187 : decode cX0_mixRound 187 = .ok (.aload_n 0, 1) := by decide +kernel
theorem dX0_mixRound_188 : decode cX0_mixRound 188 = .ok (.getfield 13, 3) := by decide +kernel
theorem dX0_mixRound_191 : decode cX0_mixRound 191 = .ok (.iconst 3, 1) := by decide +kernel
theorem dX0_mixRound_192 : decode cX0_mixRound 192 = .ok (.iaload, 1) := by decide +kernel
theorem dX0_mixRound_193 : decode cX0_mixRound 193 = .ok (.invokestatic 69, 3) := by decide +kernel
theorem dX0_mixRound_196 : decode cX0_mixRound 196 = .ok (.aload_n 0, 1) := by decide +kernel
theorem dX0_mixRound_197 : decode cX0_mixRound 197 = .ok (.getfield 13, 3) := by decide +kernel
theorem dX0_mixRound_200 : decode cX0_mixRound 200 = .ok (.iconst 3, 1) := by decide +kernel
theorem dX0_mixRound_201 : decode cX0_mixRound 201 = .ok (.iaload, 1) := by decide +kernel
theorem dX0_mixRound_202 : decode cX0_mixRound 202 = .ok (.aload_n 0, 1) := by decide +kernel
theorem dX0_mixRound_203 : decode cX0_mixRound 203 = .ok (.getfield 13, 3) := by decide +kernel
theorem dX0_mixRound_206 : decode cX0_mixRound 206 = .ok (.iconst 2, 1) := by decide +kernel
theorem dX0_mixRound_207 : decode cX0_mixRound 207 = .ok (.iaload, 1) := by decide +kernel
theorem dX0_mixRound_208 : decode cX0_mixRound 208 = .ok (.invokestatic 69, 3) := by decide +kernel
theorem dX0_mixRound_211 : decode cX0_mixRound 211 = .ok (.invokestatic 45, 3) := by decide +kernel
theorem dX0_mixRound_214 : decode cX0_mixRound 214 = .ok (.aload_n 0, 1) := by decide +kernel
theorem dX0_mixRound_215 : decode cX0_mixRound 215 = .ok (.getfield 13, 3) := by decide +kernel
theorem dX0_mixRound_218 : decode cX0_mixRound 218 = .ok (.iconst 0, 1) := by decide +kernel
theorem dX0_mixRound_219 : decode cX0_mixRound 219 = .ok (.iload 4, 2) := by decide +kernel
theorem dX0_mixRound_221 : decode cX0_mixRound 221 = .ok (.iload 5, 2) := by decide +kernel
theorem dX0_mixRound_223 : decode cX0_mixRound 223 = .ok (.invokestatic 45, 3) := by decide +kernel
theorem dX0_mixRound_226 : decode cX0_mixRound 226 = .ok (.return_, 1) := by decide +kernel
theorem dX0_chosen_0 : decode cX0_chosen 0 = .ok (.aload_n 0, 1) := by decide +kernel
theorem dX0_chosen_1 : decode cX0_chosen 1 = .ok (.getfield 13, 3) := by decide +kernel
theorem dX0_chosen_4 : decode cX0_chosen 4 = .ok (.bipush 8, 2) := by decide +kernel
theorem dX0_chosen_6 : decode cX0_chosen 6 = .ok (.iload_n 1, 1) := by decide +kernel
theorem dX0_chosen_7 : decode cX0_chosen 7 = .ok (.iadd, 1) := by decide +kernel
theorem dX0_chosen_8 : decode cX0_chosen 8 = .ok (.iaload, 1) := by decide +kernel
theorem dX0_chosen_9 : decode cX0_chosen 9 = .ok (.istore_n 2, 1) := by decide +kernel
theorem dX0_chosen_10 : decode cX0_chosen 10 = .ok (.iload_n 2, 1) := by decide +kernel
theorem dX0_chosen_11 : decode cX0_chosen 11 = .ok (.aload_n 0, 1) := by decide +kernel
theorem dX0_chosen_12 : decode cX0_chosen 12 = .ok (.getfield 13, 3) := by decide +kernel
theorem dX0_chosen_15 : decode cX0_chosen 15 = .ok (.bipush 10, 2) := by decide +kernel
theorem dX0_chosen_17 : decode cX0_chosen 17 = .ok (.iload_n 1, 1) := by decide +kernel
theorem dX0_chosen_18 : decode cX0_chosen 18 = .ok (.iadd, 1) := by decide +kernel
theorem dX0_chosen_19 : decode cX0_chosen 19 = .ok (.iaload, 1) := by decide +kernel
theorem dX0_chosen_20 : decode cX0_chosen 20 = .ok (.iand, 1) := by decide +kernel
theorem dX0_chosen_21 : decode cX0_chosen 21 = .ok (.iload_n 2, 1) := by decide +kernel
theorem dX0_chosen_22 : decode cX0_chosen 22 = .ok (.iconst (-1), 1) := by decide +kernel
theorem dX0_chosen_23 : decode cX0_chosen 23 = .ok (.ixor, 1) := by decide +kernel
theorem dX0_chosen_24 : decode cX0_chosen 24 = .ok (.aload_n 0, 1) := by decide +kernel
theorem dX0_chosen_25 : decode cX0_chosen 25 = .ok (.getfield 13, 3) := by decide +kernel
theorem dX0_chosen_28 : decode cX0_chosen 28 = .ok (.bipush 12, 2) := by decide +kernel
theorem dX0_chosen_30 : decode cX0_chosen 30 = .ok (.iload_n 1, 1) := by decide +kernel
theorem dX0_chosen_31 : decode cX0_chosen 31 = .ok (.iadd, 1) := by decide +kernel
theorem dX0_chosen_32 : decode cX0_chosen 32 = .ok (.iaload, 1) := by decide +kernel
theorem dX0_chosen_33 : decode cX0_chosen 33 = .ok (.iand, 1) := by decide +kernel
theorem dX0_chosen_34 : decode cX0_chosen 34 = .ok (.ixor, 1) := by decide +kernel
theorem dX0_chosen_35 : decode cX0_chosen 35 = .ok (.ireturn, 1) := by decide +kernel
theorem dX0_majority_0 : decode cX0_majority 0 = .ok (.aload_n 0, 1) := by decide +kernel
theorem dX0_majority_1 : decode cX0_majority 1 = .ok (.getfield 13, 3) := by decide +kernel
theorem dX0_majority_4 : decode cX0_majority 4 = .ok (.iconst 0, 1) := by decide +kernel
theorem dX0_majority_5 : decode cX0_majority 5 = .ok (.iload_n 1, 1) := by decide +kernel
theorem dX0_majority_6 : decode cX0_majority 6 = .ok (.iadd, 1) := by decide +kernel
theorem dX0_majority_7 : decode cX0_majority 7 = .ok (.iaload, 1) := by decide +kernel
theorem dX0_majority_8 : decode cX0_majority 8 = .ok (.istore_n 2, 1) := by decide +kernel
theorem dX0_majority_9 : decode cX0_majority 9 = .ok (.aload_n 0, 1) := by decide +kernel
theorem dX0_majority_10 : decode cX0_majority 10 = .ok (.getfield 13, 3) := by decide +kernel
theorem dX0_majority_13 : decode cX0_majority 13 = .ok (.iconst 2, 1) := by decide +kernel
theorem dX0_majority_14 : decode cX0_majority 14 = .ok (.iload_n 1, 1) := by decide +kernel
theorem dX0_majority_15 : decode cX0_majority 15 = .ok (.iadd, 1) := by decide +kernel
theorem dX0_majority_16 : decode cX0_majority 16 = .ok (.iaload, 1) := by decide +kernel
theorem dX0_majority_17 : decode cX0_majority 17 = .ok (.istore_n 3, 1) := by decide +kernel
theorem dX0_majority_18 : decode cX0_majority 18 = .ok (.aload_n 0, 1) := by decide +kernel
theorem dX0_majority_19 : decode cX0_majority 19 = .ok (.getfield 13, 3) := by decide +kernel
theorem dX0_majority_22 : decode cX0_majority 22 = .ok (.iconst 4, 1) := by decide +kernel
theorem dX0_majority_23 : decode cX0_majority 23 = .ok (.iload_n 1, 1) := by decide +kernel
theorem dX0_majority_24 : decode cX0_majority 24 = .ok (.iadd, 1) := by decide +kernel
theorem dX0_majority_25 : decode cX0_majority 25 = .ok (.iaload, 1) := by decide +kernel
theorem dX0_majority_26 : decode cX0_majority 26 = .ok (.istore 4, 2) := by decide +kernel
theorem dX0_majority_28 : decode cX0_majority 28 = .ok (.iload_n 2, 1) := by decide +kernel
theorem dX0_majority_29 : decode cX0_majority 29 = .ok (.iload_n 3, 1) := by decide +kernel
theorem dX0_majority_30 : decode cX0_majority 30 = .ok (.iand, 1) := by decide +kernel
theorem dX0_majority_31 : decode cX0_majority 31 = .ok (.iload_n 2, 1) := by decide +kernel
theorem dX0_majority_32 : decode cX0_majority 32 = .ok (.iload 4, 2) := by decide +kernel
theorem dX0_majority_34 : decode cX0_majority 34 = .ok (.iand, 1) := by decide +kernel
theorem dX0_majority_35 : decode cX0_majority 35 = .ok (.ixor, 1) := by decide +kernel
theorem dX0_majority_36 : decode cX0_majority 36 = .ok (.iload_n 3, 1) := by decide +kernel
theorem dX0_majority_37 : decode cX0_majority 37 = .ok (.iload 4, 2) := by decide +kernel
theorem dX0_majority_39 : decode cX0_majority 39 = .ok (.iand, 1) := by decide +kernel
theorem dX0_majority_40 : decode cX0_majority 40 = .ok (.ixor, 1) := by decide +kernel
theorem dX0_majority_41 : decode cX0_majority 41 = .ok (.ireturn, 1) := by decide +kernel
set_option maxRecDepth 20000 in
theorem ggX0_turnsOfA_X2_turned : GoodIn wsX0_turnsOfA wsX2_turned := goodIn_r _ [3] (by decide +kernel) (by decide +kernel)
set_option maxRecDepth 20000 in
theorem gX0_turnsOfA_X2_turned_n51 : GoodIn wsX0_turnsOfA (wsX2_turned) := ggX0_turnsOfA_X2_turned
theorem dX0_turnsOfA_0 : decode cX0_turnsOfA 0 = .ok (.iload_n 0, 1) := by decide +kernel
theorem dX0_turnsOfA_1 : decode cX0_turnsOfA 1 = .ok (.iload_n 1, 1) := by decide +kernel
theorem dX0_turnsOfA_2 : decode cX0_turnsOfA 2 = .ok (.bipush 28, 2) := by decide +kernel
theorem dX0_turnsOfA_4 : decode cX0_turnsOfA 4 = .ok (.invokestatic 51, 3) := by decide +kernel
theorem dX0_turnsOfA_7 : decode cX0_turnsOfA 7 = .ok (.iload_n 0, 1) := by decide +kernel
theorem dX0_turnsOfA_8 : decode cX0_turnsOfA 8 = .ok (.iload_n 1, 1) := by decide +kernel
theorem dX0_turnsOfA_9 : decode cX0_turnsOfA 9 = .ok (.bipush 34, 2) := by decide +kernel
theorem dX0_turnsOfA_11 : decode cX0_turnsOfA 11 = .ok (.invokestatic 51, 3) := by decide +kernel
theorem dX0_turnsOfA_14 : decode cX0_turnsOfA 14 = .ok (.ixor, 1) := by decide +kernel
theorem dX0_turnsOfA_15 : decode cX0_turnsOfA 15 = .ok (.iload_n 0, 1) := by decide +kernel
theorem dX0_turnsOfA_16 : decode cX0_turnsOfA 16 = .ok (.iload_n 1, 1) := by decide +kernel
theorem dX0_turnsOfA_17 : decode cX0_turnsOfA 17 = .ok (.bipush 39, 2) := by decide +kernel
theorem dX0_turnsOfA_19 : decode cX0_turnsOfA 19 = .ok (.invokestatic 51, 3) := by decide +kernel
theorem dX0_turnsOfA_22 : decode cX0_turnsOfA 22 = .ok (.ixor, 1) := by decide +kernel
theorem dX0_turnsOfA_23 : decode cX0_turnsOfA 23 = .ok (.ireturn, 1) := by decide +kernel
set_option maxRecDepth 20000 in
theorem ggX0_turnsOfE_X2_turned : GoodIn wsX0_turnsOfE wsX2_turned := goodIn_r _ [3] (by decide +kernel) (by decide +kernel)
set_option maxRecDepth 20000 in
theorem gX0_turnsOfE_X2_turned_n51 : GoodIn wsX0_turnsOfE (wsX2_turned) := ggX0_turnsOfE_X2_turned
theorem dX0_turnsOfE_0 : decode cX0_turnsOfE 0 = .ok (.iload_n 0, 1) := by decide +kernel
theorem dX0_turnsOfE_1 : decode cX0_turnsOfE 1 = .ok (.iload_n 1, 1) := by decide +kernel
theorem dX0_turnsOfE_2 : decode cX0_turnsOfE 2 = .ok (.bipush 14, 2) := by decide +kernel
theorem dX0_turnsOfE_4 : decode cX0_turnsOfE 4 = .ok (.invokestatic 51, 3) := by decide +kernel
theorem dX0_turnsOfE_7 : decode cX0_turnsOfE 7 = .ok (.iload_n 0, 1) := by decide +kernel
theorem dX0_turnsOfE_8 : decode cX0_turnsOfE 8 = .ok (.iload_n 1, 1) := by decide +kernel
theorem dX0_turnsOfE_9 : decode cX0_turnsOfE 9 = .ok (.bipush 18, 2) := by decide +kernel
theorem dX0_turnsOfE_11 : decode cX0_turnsOfE 11 = .ok (.invokestatic 51, 3) := by decide +kernel
theorem dX0_turnsOfE_14 : decode cX0_turnsOfE 14 = .ok (.ixor, 1) := by decide +kernel
theorem dX0_turnsOfE_15 : decode cX0_turnsOfE 15 = .ok (.iload_n 0, 1) := by decide +kernel
theorem dX0_turnsOfE_16 : decode cX0_turnsOfE 16 = .ok (.iload_n 1, 1) := by decide +kernel
theorem dX0_turnsOfE_17 : decode cX0_turnsOfE 17 = .ok (.bipush 41, 2) := by decide +kernel
theorem dX0_turnsOfE_19 : decode cX0_turnsOfE 19 = .ok (.invokestatic 51, 3) := by decide +kernel
theorem dX0_turnsOfE_22 : decode cX0_turnsOfE 22 = .ok (.ixor, 1) := by decide +kernel
theorem dX0_turnsOfE_23 : decode cX0_turnsOfE 23 = .ok (.ireturn, 1) := by decide +kernel
theorem dX1_init_0 : decode cX1_init 0 = .ok (.aload_n 0, 1) := by decide +kernel
theorem dX1_init_1 : decode cX1_init 1 = .ok (.invokespecial 1, 3) := by decide +kernel
theorem dX1_init_4 : decode cX1_init 4 = .ok (.aload_n 0, 1) := by decide +kernel
theorem dX1_init_5 : decode cX1_init 5 = .ok (.bipush 8, 2) := by decide +kernel
theorem dX1_init_7 : decode cX1_init 7 = .ok (.newarray .int, 2) := by decide +kernel
theorem dX1_init_9 : decode cX1_init 9 = .ok (.putfield 7, 3) := by decide +kernel
theorem dX1_init_12 : decode cX1_init 12 = .ok (.aload_n 0, 1) := by decide +kernel
theorem dX1_init_13 : decode cX1_init 13 = .ok (.iconst 0, 1) := by decide +kernel
theorem dX1_init_14 : decode cX1_init 14 = .ok (.putfield 13, 3) := by decide +kernel
theorem dX1_init_17 : decode cX1_init 17 = .ok (.aload_n 0, 1) := by decide +kernel
theorem dX1_init_18 : decode cX1_init 18 = .ok (.iconst 0, 1) := by decide +kernel
theorem dX1_init_19 : decode cX1_init 19 = .ok (.putfield 17, 3) := by decide +kernel
theorem dX1_init_22 : decode cX1_init 22 = .ok (.aload_n 0, 1) := by decide +kernel
theorem dX1_init_23 : decode cX1_init 23 = .ok (.iconst 0, 1) := by decide +kernel
theorem dX1_init_24 : decode cX1_init 24 = .ok (.putfield 20, 3) := by decide +kernel
theorem dX1_init_27 : decode cX1_init 27 = .ok (.return_, 1) := by decide +kernel
theorem dX1_begin_0 : decode cX1_begin 0 = .ok (.iconst 0, 1) := by decide +kernel
theorem dX1_begin_1 : decode cX1_begin 1 = .ok (.istore_n 2, 1) := by decide +kernel
theorem dX1_begin_2 : decode cX1_begin 2 = .ok (.iload_n 2, 1) := by decide +kernel
theorem dX1_begin_3 : decode cX1_begin 3 = .ok (.bipush 6, 2) := by decide +kernel
theorem dX1_begin_5 : decode cX1_begin 5 = .ok (.if_icmp .gt 49, 3) := by decide +kernel
theorem dX1_begin_8 : decode cX1_begin 8 = .ok (.iload_n 2, 1) := by decide +kernel
theorem dX1_begin_9 : decode cX1_begin 9 = .ok (.iconst 2, 1) := by decide +kernel
theorem dX1_begin_10 : decode cX1_begin 10 = .ok (.iand, 1) := by decide +kernel
theorem dX1_begin_11 : decode cX1_begin 11 = .ok (.istore_n 3, 1) := by decide +kernel
theorem dX1_begin_12 : decode cX1_begin 12 = .ok (.aload_n 0, 1) := by decide +kernel
theorem dX1_begin_13 : decode cX1_begin 13 = .ok (.getfield 7, 3) := by decide +kernel
theorem dX1_begin_16 : decode cX1_begin 16 = .ok (.iload_n 2, 1) := by decide +kernel
theorem dX1_begin_17 : decode cX1_begin 17 = .ok (.getstatic 23, 3) := by decide +kernel
theorem dX1_begin_20 : decode cX1_begin 20 = .ok (.iload_n 2, 1) := by decide +kernel
theorem dX1_begin_21 : decode cX1_begin 21 = .ok (.iaload, 1) := by decide +kernel
theorem dX1_begin_22 : decode cX1_begin 22 = .ok (.aload_n 1, 1) := by decide +kernel
theorem dX1_begin_23 : decode cX1_begin 23 = .ok (.iload_n 3, 1) := by decide +kernel
theorem dX1_begin_24 : decode cX1_begin 24 = .ok (.iconst 1, 1) := by decide +kernel
theorem dX1_begin_25 : decode cX1_begin 25 = .ok (.iadd, 1) := by decide +kernel
theorem dX1_begin_26 : decode cX1_begin 26 = .ok (.iaload, 1) := by decide +kernel
theorem dX1_begin_27 : decode cX1_begin 27 = .ok (.ixor, 1) := by decide +kernel
theorem dX1_begin_28 : decode cX1_begin 28 = .ok (.iastore, 1) := by decide +kernel
theorem dX1_begin_29 : decode cX1_begin 29 = .ok (.aload_n 0, 1) := by decide +kernel
theorem dX1_begin_30 : decode cX1_begin 30 = .ok (.getfield 7, 3) := by decide +kernel
theorem dX1_begin_33 : decode cX1_begin 33 = .ok (.iload_n 2, 1) := by decide +kernel
theorem dX1_begin_34 : decode cX1_begin 34 = .ok (.iconst 1, 1) := by decide +kernel
theorem dX1_begin_35 : decode cX1_begin 35 = .ok (.iadd, 1) := by decide +kernel
theorem dX1_begin_36 : decode cX1_begin 36 = .ok (.getstatic 23, 3) := by decide +kernel
theorem dX1_begin_39 : decode cX1_begin 39 = .ok (.iload_n 2, 1) := by decide +kernel
theorem dX1_begin_40 : decode cX1_begin 40 = .ok (.iconst 1, 1) := by decide +kernel
theorem dX1_begin_41 : decode cX1_begin 41 = .ok (.iadd, 1) := by decide +kernel
theorem dX1_begin_42 : decode cX1_begin 42 = .ok (.iaload, 1) := by decide +kernel
theorem dX1_begin_43 : decode cX1_begin 43 = .ok (.aload_n 1, 1) := by decide +kernel
theorem dX1_begin_44 : decode cX1_begin 44 = .ok (.iload_n 3, 1) := by decide +kernel
theorem dX1_begin_45 : decode cX1_begin 45 = .ok (.iaload, 1) := by decide +kernel
theorem dX1_begin_46 : decode cX1_begin 46 = .ok (.ixor, 1) := by decide +kernel
theorem dX1_begin_47 : decode cX1_begin 47 = .ok (.iastore, 1) := by decide +kernel
theorem dX1_begin_48 : decode cX1_begin 48 = .ok (.iinc 2 2, 3) := by decide +kernel
theorem dX1_begin_51 : decode cX1_begin 51 = .ok (.goto (-49), 3) := by decide +kernel
theorem dX1_begin_54 : decode cX1_begin 54 = .ok (.aload_n 0, 1) := by decide +kernel
theorem dX1_begin_55 : decode cX1_begin 55 = .ok (.iconst 0, 1) := by decide +kernel
theorem dX1_begin_56 : decode cX1_begin 56 = .ok (.putfield 20, 3) := by decide +kernel
theorem dX1_begin_59 : decode cX1_begin 59 = .ok (.return_, 1) := by decide +kernel
set_option maxRecDepth 20000 in
theorem ggX1_take_X2_turned : GoodIn wsX1_take wsX2_turned := goodIn_r _ [6] (by decide +kernel) (by decide +kernel)
set_option maxRecDepth 20000 in
theorem gX1_take_X2_turned_n26 : GoodIn wsX1_take (wsX2_turned) := ggX1_take_X2_turned
set_option maxRecDepth 20000 in
theorem ggX1_take_X1_mixGroup : GoodIn wsX1_take wsX1_mixGroup := goodIn_r _ [11, 12, 2, 1, 13, 14, 15, 10, 16, 17, 18, 19, 20, 21, 5, 22, 23, 24, 25, 26, 27, 28, 29, 4, 6, 30, 31, 32, 33] (by decide +kernel) (by decide +kernel)
set_option maxRecDepth 20000 in
theorem gX1_take_X1_mixGroup : GoodIn wsX1_take (wsV RX1 32 RX1 yX1_mixGroup wsX1_mixGroup) := goodIn_app (goodIn_of _ (by decide +kernel)) ggX1_take_X1_mixGroup
theorem dX1_take_0 : decode cX1_take 0 = .ok (.aload_n 0, 1) := by decide +kernel
theorem dX1_take_1 : decode cX1_take 1 = .ok (.aload_n 0, 1) := by decide +kernel
theorem dX1_take_2 : decode cX1_take 2 = .ok (.getfield 17, 3) := by decide +kernel
theorem dX1_take_5 : decode cX1_take 5 = .ok (.aload_n 0, 1) := by decide +kernel
theorem dX1_take_6 : decode cX1_take 6 = .ok (.getfield 13, 3) := by decide +kernel
theorem dX1_take_9 : decode cX1_take 9 = .ok (.bipush 8, 2) := by decide +kernel
theorem dX1_take_11 : decode cX1_take 11 = .ok (.invokestatic 26, 3) := by decide +kernel
theorem dX1_take_14 : decode cX1_take 14 = .ok (.putfield 17, 3) := by decide +kernel
theorem dX1_take_17 : decode cX1_take 17 = .ok (.aload_n 0, 1) := by decide +kernel
theorem dX1_take_18 : decode cX1_take 18 = .ok (.aload_n 0, 1) := by decide +kernel
theorem dX1_take_19 : decode cX1_take 19 = .ok (.getfield 13, 3) := by decide +kernel
theorem dX1_take_22 : decode cX1_take 22 = .ok (.bipush 8, 2) := by decide +kernel
theorem dX1_take_24 : decode cX1_take 24 = .ok (.iushr, 1) := by decide +kernel
theorem dX1_take_25 : decode cX1_take 25 = .ok (.iload_n 1, 1) := by decide +kernel
theorem dX1_take_26 : decode cX1_take 26 = .ok (.bipush 24, 2) := by decide +kernel
theorem dX1_take_28 : decode cX1_take 28 = .ok (.ishl, 1) := by decide +kernel
theorem dX1_take_29 : decode cX1_take 29 = .ok (.ior, 1) := by decide +kernel
theorem dX1_take_30 : decode cX1_take 30 = .ok (.putfield 13, 3) := by decide +kernel
theorem dX1_take_33 : decode cX1_take 33 = .ok (.aload_n 0, 1) := by decide +kernel
theorem dX1_take_34 : decode cX1_take 34 = .ok (.dup, 1) := by decide +kernel
theorem dX1_take_35 : decode cX1_take 35 = .ok (.getfield 20, 3) := by decide +kernel
theorem dX1_take_38 : decode cX1_take 38 = .ok (.iconst 1, 1) := by decide +kernel
theorem dX1_take_39 : decode cX1_take 39 = .ok (.iadd, 1) := by decide +kernel
theorem dX1_take_40 : decode cX1_take 40 = .ok (.putfield 20, 3) := by decide +kernel
theorem dX1_take_43 : decode cX1_take 43 = .ok (.aload_n 0, 1) := by decide +kernel
theorem dX1_take_44 : decode cX1_take 44 = .ok (.getfield 20, 3) := by decide +kernel
theorem dX1_take_47 : decode cX1_take 47 = .ok (.bipush 8, 2) := by decide +kernel
theorem dX1_take_49 : decode cX1_take 49 = .ok (.if_icmp .ne 12, 3) := by decide +kernel
theorem dX1_take_52 : decode cX1_take 52 = .ok (.aload_n 0, 1) := by decide +kernel
theorem dX1_take_53 : decode cX1_take 53 = .ok (.invokevirtual 32, 3) := by decide +kernel
theorem dX1_take_56 : decode cX1_take 56 = .ok (.aload_n 0, 1) := by decide +kernel
theorem dX1_take_57 : decode cX1_take 57 = .ok (.iconst 0, 1) := by decide +kernel
theorem dX1_take_58 : decode cX1_take 58 = .ok (.putfield 20, 3) := by decide +kernel
theorem dX1_take_61 : decode cX1_take 61 = .ok (.return_, 1) := by decide +kernel
set_option maxRecDepth 20000 in
theorem ggX1_end_X1_take : GoodIn wsX1_end wsX1_take := goodIn_r _ [6, 7, 8, 9, 10, 11, 12, 13, 14, 15, 5, 16, 1, 17, 18, 19, 20, 21, 22, 23, 24, 25, 26, 27, 28, 29, 30, 31, 32, 33, 34, 35, 36, 37] (by decide +kernel) (by decide +kernel)
set_option maxRecDepth 20000 in
theorem gX1_end_X1_take : GoodIn wsX1_end (wsV RX1 35 RX1 yX1_take wsX1_take) := goodIn_app (goodIn_of _ (by decide +kernel)) ggX1_end_X1_take
set_option maxRecDepth 20000 in
theorem ggX1_end_X1_mixRound : GoodIn wsX1_end wsX1_mixRound := goodIn_r _ [20, 21, 22, 23, 5, 24, 1, 25, 11, 26, 27, 28, 29, 30, 31, 32, 33, 10, 12, 34, 35, 36, 37] (by decide +kernel) (by decide +kernel)
set_option maxRecDepth 20000 in
theorem gX1_end_X1_mixRound : GoodIn wsX1_end (wsV RX1 39 RX1 yX1_mixRound wsX1_mixRound) := goodIn_app (goodIn_of _ (by decide +kernel)) ggX1_end_X1_mixRound
theorem dX1_end_0 : decode cX1_end 0 = .ok (.bipush 7, 2) := by decide +kernel
theorem dX1_end_2 : decode cX1_end 2 = .ok (.iload_n 1, 1) := by decide +kernel
theorem dX1_end_3 : decode cX1_end 3 = .ok (.isub, 1) := by decide +kernel
theorem dX1_end_4 : decode cX1_end 4 = .ok (.bipush 7, 2) := by decide +kernel
theorem dX1_end_6 : decode cX1_end 6 = .ok (.iand, 1) := by decide +kernel
theorem dX1_end_7 : decode cX1_end 7 = .ok (.istore_n 2, 1) := by decide +kernel
theorem dX1_end_8 : decode cX1_end 8 = .ok (.iconst 0, 1) := by decide +kernel
theorem dX1_end_9 : decode cX1_end 9 = .ok (.istore_n 3, 1) := by decide +kernel
theorem dX1_end_10 : decode cX1_end 10 = .ok (.iload_n 3, 1) := by decide +kernel
theorem dX1_end_11 : decode cX1_end 11 = .ok (.iload_n 2, 1) := by decide +kernel
theorem dX1_end_12 : decode cX1_end 12 = .ok (.if_icmp .ge 14, 3) := by decide +kernel
theorem dX1_end_15 : decode cX1_end 15 = .ok (.aload_n 0, 1) := by decide +kernel
theorem dX1_end_16 : decode cX1_end 16 = .ok (.iconst 0, 1) := by decide +kernel
theorem dX1_end_17 : decode cX1_end 17 = .ok (.invokevirtual 35, 3) := by decide +kernel
theorem dX1_end_20 : decode cX1_end 20 = .ok (.iinc 3 1, 3) := by decide +kernel
theorem dX1_end_23 : decode cX1_end 23 = .ok (.goto (-13), 3) := by decide +kernel
theorem dX1_end_26 : decode cX1_end 26 = .ok (.aload_n 0, 1) := by decide +kernel
theorem dX1_end_27 : decode cX1_end 27 = .ok (.iload_n 1, 1) := by decide +kernel
theorem dX1_end_28 : decode cX1_end 28 = .ok (.sipush 255, 3) := by decide +kernel
theorem dX1_end_31 : decode cX1_end 31 = .ok (.iand, 1) := by decide +kernel
theorem dX1_end_32 : decode cX1_end 32 = .ok (.invokevirtual 35, 3) := by decide +kernel
theorem dX1_end_35 : decode cX1_end 35 = .ok (.aload_n 0, 1) := by decide +kernel
theorem dX1_end_36 : decode cX1_end 36 = .ok (.getfield 7, 3) := by decide +kernel
theorem dX1_end_39 : decode cX1_end 39 = .ok (.iconst 5, 1) := by decide +kernel
theorem dX1_end_40 : decode cX1_end 40 = .ok (.dup2, 1) := by decide +kernel
theorem dX1_end_41 : decode cX1_end 41 = .ok (.iaload, 1) := by decide +kernel
theorem dX1_end_42 : decode cX1_end 42 = .ok (.sipush 255, 3) := by decide +kernel
theorem dX1_end_45 : decode cX1_end 45 = .ok (.ixor, 1) := by decide +kernel
theorem dX1_end_46 : decode cX1_end 46 = .ok (.iastore, 1) := by decide +kernel
theorem dX1_end_47 : decode cX1_end 47 = .ok (.iconst 0, 1) := by decide +kernel
theorem dX1_end_48 : decode cX1_end 48 = .ok (.istore_n 3, 1) := by decide +kernel
theorem dX1_end_49 : decode cX1_end 49 = .ok (.iload_n 3, 1) := by decide +kernel
theorem dX1_end_50 : decode cX1_end 50 = .ok (.iconst 4, 1) := by decide +kernel
theorem dX1_end_51 : decode cX1_end 51 = .ok (.if_icmp .ge 13, 3) := by decide +kernel
theorem dX1_end_54 : decode cX1_end 54 = .ok (.aload_n 0, 1) := by decide +kernel
theorem dX1_end_55 : decode cX1_end 55 = .ok (.invokevirtual 39, 3) := by decide +kernel
theorem dX1_end_58 : decode cX1_end 58 = .ok (.iinc 3 1, 3) := by decide +kernel
theorem dX1_end_61 : decode cX1_end 61 = .ok (.goto (-12), 3) := by decide +kernel
theorem dX1_end_64 : decode cX1_end 64 = .ok (.return_, 1) := by decide +kernel
theorem dX1_wordAt_0 : decode cX1_wordAt 0 = .ok (.aload_n 0, 1) := by decide +kernel
theorem dX1_wordAt_1 : decode cX1_wordAt 1 = .ok (.getfield 7, 3) := by decide +kernel
theorem dX1_wordAt_4 : decode cX1_wordAt 4 = .ok (.iconst 0, 1) := by decide +kernel
theorem dX1_wordAt_5 : decode cX1_wordAt 5 = .ok (.iload_n 1, 1) := by decide +kernel
theorem dX1_wordAt_6 : decode cX1_wordAt 6 = .ok (.iadd, 1) := by decide +kernel
theorem dX1_wordAt_7 : decode cX1_wordAt 7 = .ok (.iaload, 1) := by decide +kernel
theorem dX1_wordAt_8 : decode cX1_wordAt 8 = .ok (.aload_n 0, 1) := by decide +kernel
theorem dX1_wordAt_9 : decode cX1_wordAt 9 = .ok (.getfield 7, 3) := by decide +kernel
theorem dX1_wordAt_12 : decode cX1_wordAt 12 = .ok (.iconst 2, 1) := by decide +kernel
theorem dX1_wordAt_13 : decode cX1_wordAt 13 = .ok (.iload_n 1, 1) := by decide +kernel
theorem dX1_wordAt_14 : decode cX1_wordAt 14 = .ok (.iadd, 1) := by decide +kernel
theorem dX1_wordAt_15 : decode cX1_wordAt 15 = .ok (.iaload, 1) := by decide +kernel
theorem dX1_wordAt_16 : decode cX1_wordAt 16 = .ok (.ixor, 1) := by decide +kernel
theorem dX1_wordAt_17 : decode cX1_wordAt 17 = .ok (.aload_n 0, 1) := by decide +kernel
theorem dX1_wordAt_18 : decode cX1_wordAt 18 = .ok (.getfield 7, 3) := by decide +kernel
theorem dX1_wordAt_21 : decode cX1_wordAt 21 = .ok (.iconst 4, 1) := by decide +kernel
theorem dX1_wordAt_22 : decode cX1_wordAt 22 = .ok (.iload_n 1, 1) := by decide +kernel
theorem dX1_wordAt_23 : decode cX1_wordAt 23 = .ok (.iadd, 1) := by decide +kernel
theorem dX1_wordAt_24 : decode cX1_wordAt 24 = .ok (.iaload, 1) := by decide +kernel
theorem dX1_wordAt_25 : decode cX1_wordAt 25 = .ok (.ixor, 1) := by decide +kernel
theorem dX1_wordAt_26 : decode cX1_wordAt 26 = .ok (.aload_n 0, 1) := by decide +kernel
theorem dX1_wordAt_27 : decode cX1_wordAt 27 = .ok (.getfield 7, 3) := by decide +kernel
theorem dX1_wordAt_30 : decode cX1_wordAt 30 = .ok (.bipush 6, 2) := by decide +kernel
theorem dX1_wordAt_32 : decode cX1_wordAt 32 = .ok (.iload_n 1, 1) := by decide +kernel
theorem dX1_wordAt_33 : decode cX1_wordAt 33 = .ok (.iadd, 1) := by decide +kernel
theorem dX1_wordAt_34 : decode cX1_wordAt 34 = .ok (.iaload, 1) := by decide +kernel
theorem dX1_wordAt_35 : decode cX1_wordAt 35 = .ok (.ixor, 1) := by decide +kernel
theorem dX1_wordAt_36 : decode cX1_wordAt 36 = .ok (.ireturn, 1) := by decide +kernel
set_option maxRecDepth 20000 in
theorem ggX1_mixGroup_X1_mixRound : GoodIn wsX1_mixGroup wsX1_mixRound := goodIn_r _ [8, 9, 10, 11, 7, 12, 1, 13, 14, 15, 16, 17, 18, 19, 20, 21, 22, 23, 24, 25, 26, 27, 28] (by decide +kernel) (by decide +kernel)
set_option maxRecDepth 20000 in
theorem gX1_mixGroup_X1_mixRound : GoodIn wsX1_mixGroup (wsV RX1 39 RX1 yX1_mixRound wsX1_mixRound) := goodIn_app (goodIn_of _ (by decide +kernel)) ggX1_mixGroup_X1_mixRound
theorem dX1_mixGroup_0 : decode cX1_mixGroup 0 = .ok (.aload_n 0, 1) := by decide +kernel
theorem dX1_mixGroup_1 : decode cX1_mixGroup 1 = .ok (.getfield 7, 3) := by decide +kernel
theorem dX1_mixGroup_4 : decode cX1_mixGroup 4 = .ok (.bipush 6, 2) := by decide +kernel
theorem dX1_mixGroup_6 : decode cX1_mixGroup 6 = .ok (.dup2, 1) := by decide +kernel
theorem dX1_mixGroup_7 : decode cX1_mixGroup 7 = .ok (.iaload, 1) := by decide +kernel
theorem dX1_mixGroup_8 : decode cX1_mixGroup 8 = .ok (.aload_n 0, 1) := by decide +kernel
theorem dX1_mixGroup_9 : decode cX1_mixGroup 9 = .ok (.getfield 13, 3) := by decide +kernel
theorem dX1_mixGroup_12 : decode cX1_mixGroup 12 = .ok (.ixor, 1) := by decide +kernel
theorem dX1_mixGroup_13 : decode cX1_mixGroup 13 = .ok (.iastore, 1) := by decide +kernel
theorem dX1_mixGroup_14 : decode cX1_mixGroup 14 = .ok (.aload_n 0, 1) := by decide +kernel
theorem dX1_mixGroup_15 : decode cX1_mixGroup 15 = .ok (.getfield 7, 3) := by decide +kernel
theorem dX1_mixGroup_18 : decode cX1_mixGroup 18 = .ok (.bipush 7, 2) := by decide +kernel
theorem dX1_mixGroup_20 : decode cX1_mixGroup 20 = .ok (.dup2, 1) := by decide +kernel
theorem dX1_mixGroup_21 : decode cX1_mixGroup 21 = .ok (.iaload, 1) := by decide +kernel
theorem dX1_mixGroup_22 : decode cX1_mixGroup 22 = .ok (.aload_n 0, 1) := by decide +kernel
theorem dX1_mixGroup_23 : decode cX1_mixGroup 23 = .ok (.getfield 17, 3) := by decide +kernel
theorem dX1_mixGroup_26 : decode cX1_mixGroup 26 = .ok (.ixor, 1) := by decide +kernel
theorem dX1_mixGroup_27 : decode cX1_mixGroup 27 = .ok (.iastore, 1) := by decide +kernel
theorem dX1_mixGroup_28 : decode cX1_mixGroup 28 = .ok (.aload_n 0, 1) := by decide +kernel
theorem dX1_mixGroup_29 : decode cX1_mixGroup 29 = .ok (.invokevirtual 39, 3) := by decide +kernel
theorem dX1_mixGroup_32 : decode cX1_mixGroup 32 = .ok (.aload_n 0, 1) := by decide +kernel
theorem dX1_mixGroup_33 : decode cX1_mixGroup 33 = .ok (.invokevirtual 39, 3) := by decide +kernel
theorem dX1_mixGroup_36 : decode cX1_mixGroup 36 = .ok (.aload_n 0, 1) := by decide +kernel
theorem dX1_mixGroup_37 : decode cX1_mixGroup 37 = .ok (.getfield 7, 3) := by decide +kernel
theorem dX1_mixGroup_40 : decode cX1_mixGroup 40 = .ok (.iconst 0, 1) := by decide +kernel
theorem dX1_mixGroup_41 : decode cX1_mixGroup 41 = .ok (.dup2, 1) := by decide +kernel
theorem dX1_mixGroup_42 : decode cX1_mixGroup 42 = .ok (.iaload, 1) := by decide +kernel
theorem dX1_mixGroup_43 : decode cX1_mixGroup 43 = .ok (.aload_n 0, 1) := by decide +kernel
theorem dX1_mixGroup_44 : decode cX1_mixGroup 44 = .ok (.getfield 13, 3) := by decide +kernel
theorem dX1_mixGroup_47 : decode cX1_mixGroup 47 = .ok (.ixor, 1) := by decide +kernel
theorem dX1_mixGroup_48 : decode cX1_mixGroup 48 = .ok (.iastore, 1) := by decide +kernel
theorem dX1_mixGroup_49 : decode cX1_mixGroup 49 = .ok (.aload_n 0, 1) := by decide +kernel
theorem dX1_mixGroup_50 : decode cX1_mixGroup 50 = .ok (.getfield 7, 3) := by decide +kernel
theorem dX1_mixGroup_53 : decode cX1_mixGroup 53 = .ok (.iconst 1, 1) := by decide +kernel
theorem dX1_mixGroup_54 : decode cX1_mixGroup 54 = .ok (.dup2, 1) := by decide +kernel
theorem dX1_mixGroup_55 : decode cX1_mixGroup 55 = .ok (.iaload, 1) := by decide +kernel
theorem dX1_mixGroup_56 : decode cX1_mixGroup 56 = .ok (.aload_n 0, 1) := by decide +kernel
theorem dX1_mixGroup_57 : decode cX1_mixGroup 57 = .ok (.getfield 17, 3) := by decide +kernel
theorem dX1_mixGroup_60 : decode cX1_mixGroup 60 = .ok (.ixor, 1) := by decide +kernel
theorem dX1_mixGroup_61 : decode cX1_mixGroup 61 = .ok (.iastore, 1) := by decide +kernel
theorem dX1_mixGroup_62 : decode cX1_mixGroup 62 = .ok (.return_, 1) := by decide +kernel
set_option maxRecDepth 20000 in
theorem ggX1_mixRound_X1_mixPair : GoodIn wsX1_mixRound wsX1_mixPair := goodIn_r _ [5, 6, 7, 8, 9, 10, 11, 12, 13, 14, 15, 4, 16, 17, 18, 19, 20, 21, 22] (by decide +kernel) (by decide +kernel)
set_option maxRecDepth 20000 in
theorem gX1_mixRound_X1_mixPair : GoodIn wsX1_mixRound (wsV RX1 42 RX1 yX1_mixPair wsX1_mixPair) := goodIn_app (goodIn_of _ (by decide +kernel)) ggX1_mixRound_X1_mixPair
set_option maxRecDepth 20000 in
theorem ggX1_mixRound_X1_turnLeft : GoodIn wsX1_mixRound wsX1_turnLeft := goodIn_r _ [16, 6, 17, 8, 18, 19, 20, 21, 22] (by decide +kernel) (by decide +kernel)
set_option maxRecDepth 20000 in
theorem gX1_mixRound_X1_turnLeft : GoodIn wsX1_mixRound (wsV RX1 46 RX1 yX1_turnLeft wsX1_turnLeft) := goodIn_app (goodIn_of _ (by decide +kernel)) ggX1_mixRound_X1_turnLeft
theorem dX1_mixRound_0 : decode cX1_mixRound 0 = .ok (.aload_n 0, 1) := by decide +kernel
theorem dX1_mixRound_1 : decode cX1_mixRound 1 = .ok (.iconst 0, 1) := by decide +kernel
theorem dX1_mixRound_2 : decode cX1_mixRound 2 = .ok (.iconst 2, 1) := by decide +kernel
theorem dX1_mixRound_3 : decode cX1_mixRound 3 = .ok (.bipush 13, 2) := by decide +kernel
theorem dX1_mixRound_5 : decode cX1_mixRound 5 = .ok (.invokevirtual 42, 3) := by decide +kernel
theorem dX1_mixRound_8 : decode cX1_mixRound 8 = .ok (.aload_n 0, 1) := by decide +kernel
theorem dX1_mixRound_9 : decode cX1_mixRound 9 = .ok (.iconst 0, 1) := by decide +kernel
theorem dX1_mixRound_10 : decode cX1_mixRound 10 = .ok (.bipush 32, 2) := by decide +kernel
theorem dX1_mixRound_12 : decode cX1_mixRound 12 = .ok (.invokevirtual 46, 3) := by decide +kernel
theorem dX1_mixRound_15 : decode cX1_mixRound 15 = .ok (.aload_n 0, 1) := by decide +kernel
theorem dX1_mixRound_16 : decode cX1_mixRound 16 = .ok (.iconst 4, 1) := by decide +kernel
theorem dX1_mixRound_17 : decode cX1_mixRound 17 = .ok (.bipush 6, 2) := by decide +kernel
theorem dX1_mixRound_19 : decode cX1_mixRound 19 = .ok (.bipush 16, 2) := by decide +kernel
theorem dX1_mixRound_21 : decode cX1_mixRound 21 = .ok (.invokevirtual 42, 3) := by decide +kernel
theorem dX1_mixRound_24 : decode cX1_mixRound 24 = .ok (.aload_n 0, 1) := by decide +kernel
theorem dX1_mixRound_25 : decode cX1_mixRound 25 = .ok (.iconst 0, 1) := by decide +kernel
theorem dX1_mixRound_26 : decode cX1_mixRound 26 = .ok (.bipush 6, 2) := by decide +kernel
theorem dX1_mixRound_28 : decode cX1_mixRound 28 = .ok (.bipush 21, 2) := by decide +kernel
theorem dX1_mixRound_30 : decode cX1_mixRound 30 = .ok (.invokevirtual 42, 3) := by decide +kernel
theorem dX1_mixRound_33 : decode cX1_mixRound 33 = .ok (.aload_n 0, 1) := by decide +kernel
theorem dX1_mixRound_34 : decode cX1_mixRound 34 = .ok (.iconst 4, 1) := by decide +kernel
theorem dX1_mixRound_35 : decode cX1_mixRound 35 = .ok (.iconst 2, 1) := by decide +kernel
theorem dX1_mixRound_36 : decode cX1_mixRound 36 = .ok (.bipush 17, 2) := by decide +kernel
theorem dX1_mixRound_38 : decode cX1_mixRound 38 = .ok (.invokevirtual 42, 3) := by decide +kernel
theorem dX1_mixRound_41 : decode cX1_mixRound 41 = .ok (.aload_n 0, 1) := by decide +kernel
theorem dX1_mixRound_42 : decode cX1_mixRound 42 = .ok (.iconst 4, 1) := by decide +kernel
theorem dX1_mixRound_43 : decode cX1_mixRound 43 = .ok (.bipush 32, 2) := by decide +kernel
theorem dX1_mixRound_45 : decode cX1_mixRound 45 = .ok (.invokevirtual 46, 3) := by decide +kernel
theorem dX1_mixRound_48 : decode cX1_mixRound 48 = .ok (.return_, 1) := by decide +kernel
set_option maxRecDepth 20000 in
theorem ggX1_mixPair_X2_addTo : GoodIn wsX1_mixPair wsX2_addTo := goodIn_r _ [4, 5, 6, 3, 7] (by decide +kernel) (by decide +kernel)
set_option maxRecDepth 20000 in
theorem gX1_mixPair_X2_addTo_n50 : GoodIn wsX1_mixPair (wsX2_addTo) := ggX1_mixPair_X2_addTo
set_option maxRecDepth 20000 in
theorem ggX1_mixPair_X1_turnLeft : GoodIn wsX1_mixPair wsX1_turnLeft := goodIn_r _ [12, 1, 13, 3, 14, 15, 16, 17, 18] (by decide +kernel) (by decide +kernel)
set_option maxRecDepth 20000 in
theorem gX1_mixPair_X1_turnLeft : GoodIn wsX1_mixPair (wsV RX1 46 RX1 yX1_turnLeft wsX1_turnLeft) := goodIn_app (goodIn_of _ (by decide +kernel)) ggX1_mixPair_X1_turnLeft

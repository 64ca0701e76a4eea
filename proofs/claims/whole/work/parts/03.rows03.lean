theorem dX2_carry_1 : decode cX2_carry 1 = .ok (.iload_n 1, 1) := by decide +kernel
theorem dX2_carry_2 : decode cX2_carry 2 = .ok (.iand, 1) := by decide +kernel
theorem dX2_carry_3 : decode cX2_carry 3 = .ok (.iload_n 0, 1) := by decide +kernel
theorem dX2_carry_4 : decode cX2_carry 4 = .ok (.iload_n 1, 1) := by decide +kernel
theorem dX2_carry_5 : decode cX2_carry 5 = .ok (.ior, 1) := by decide +kernel
theorem dX2_carry_6 : decode cX2_carry 6 = .ok (.iload_n 0, 1) := by decide +kernel
theorem dX2_carry_7 : decode cX2_carry 7 = .ok (.iload_n 1, 1) := by decide +kernel
theorem dX2_carry_8 : decode cX2_carry 8 = .ok (.iadd, 1) := by decide +kernel
theorem dX2_carry_9 : decode cX2_carry 9 = .ok (.iconst (-1), 1) := by decide +kernel
theorem dX2_carry_10 : decode cX2_carry 10 = .ok (.ixor, 1) := by decide +kernel
theorem dX2_carry_11 : decode cX2_carry 11 = .ok (.iand, 1) := by decide +kernel
theorem dX2_carry_12 : decode cX2_carry 12 = .ok (.ior, 1) := by decide +kernel
theorem dX2_carry_13 : decode cX2_carry 13 = .ok (.bipush 31, 2) := by decide +kernel
theorem dX2_carry_15 : decode cX2_carry 15 = .ok (.iushr, 1) := by decide +kernel
theorem dX2_carry_16 : decode cX2_carry 16 = .ok (.ireturn, 1) := by decide +kernel
set_option maxRecDepth 20000 in
theorem ggX2_addTo_X2_carry : GoodIn wsX2_addTo wsX2_carry := goodIn_r _ [4] (by decide +kernel) (by decide +kernel)
set_option maxRecDepth 20000 in
theorem gX2_addTo_X2_carry : GoodIn wsX2_addTo (va_wsS RX2 67 yX2_carry wsX2_carry) := goodIn_app (goodIn_of _ (by decide +kernel)) ggX2_addTo_X2_carry
theorem dX2_addTo_0 : decode cX2_addTo 0 = .ok (.aload_n 0, 1) := by decide +kernel
theorem dX2_addTo_1 : decode cX2_addTo 1 = .ok (.iload_n 1, 1) := by decide +kernel
theorem dX2_addTo_2 : decode cX2_addTo 2 = .ok (.dup2, 1) := by decide +kernel
theorem dX2_addTo_3 : decode cX2_addTo 3 = .ok (.iaload, 1) := by decide +kernel
theorem dX2_addTo_4 : decode cX2_addTo 4 = .ok (.iload_n 2, 1) := by decide +kernel
theorem dX2_addTo_5 : decode cX2_addTo 5 = .ok (.aload_n 0, 1) := by decide +kernel
theorem dX2_addTo_6 : decode cX2_addTo 6 = .ok (.iload_n 1, 1) := by decide +kernel
theorem dX2_addTo_7 : decode cX2_addTo 7 = .ok (.iconst 1, 1) := by decide +kernel
theorem dX2_addTo_8 : decode cX2_addTo 8 = .ok (.iadd, 1) := by decide +kernel
theorem dX2_addTo_9 : decode cX2_addTo 9 = .ok (.iaload, 1) := by decide +kernel
theorem dX2_addTo_10 : decode cX2_addTo 10 = .ok (.iload_n 3, 1) := by decide +kernel
theorem dX2_addTo_11 : decode cX2_addTo 11 = .ok (.invokestatic 67, 3) := by decide +kernel
theorem dX2_addTo_14 : decode cX2_addTo 14 = .ok (.iadd, 1) := by decide +kernel
theorem dX2_addTo_15 : decode cX2_addTo 15 = .ok (.iadd, 1) := by decide +kernel
theorem dX2_addTo_16 : decode cX2_addTo 16 = .ok (.iastore, 1) := by decide +kernel
theorem dX2_addTo_17 : decode cX2_addTo 17 = .ok (.aload_n 0, 1) := by decide +kernel
theorem dX2_addTo_18 : decode cX2_addTo 18 = .ok (.iload_n 1, 1) := by decide +kernel
theorem dX2_addTo_19 : decode cX2_addTo 19 = .ok (.iconst 1, 1) := by decide +kernel
theorem dX2_addTo_20 : decode cX2_addTo 20 = .ok (.iadd, 1) := by decide +kernel
theorem dX2_addTo_21 : decode cX2_addTo 21 = .ok (.dup2, 1) := by decide +kernel
theorem dX2_addTo_22 : decode cX2_addTo 22 = .ok (.iaload, 1) := by decide +kernel
theorem dX2_addTo_23 : decode cX2_addTo 23 = .ok (.iload_n 3, 1) := by decide +kernel
theorem dX2_addTo_24 : decode cX2_addTo 24 = .ok (.iadd, 1) := by decide +kernel
theorem dX2_addTo_25 : decode cX2_addTo 25 = .ok (.iastore, 1) := by decide +kernel
theorem dX2_addTo_26 : decode cX2_addTo 26 = .ok (.return_, 1) := by decide +kernel
theorem dX2_turned_0 : decode cX2_turned 0 = .ok (.iload_n 2, 1) := by decide +kernel
theorem dX2_turned_1 : decode cX2_turned 1 = .ok (.bipush 32, 2) := by decide +kernel
theorem dX2_turned_3 : decode cX2_turned 3 = .ok (.iand, 1) := by decide +kernel
theorem dX2_turned_4 : decode cX2_turned 4 = .ok (.ifCond .ne 7, 3) := by decide +kernel
theorem dX2_turned_7 : decode cX2_turned 7 = .ok (.iload_n 1, 1) := by decide +kernel
theorem dX2_turned_8 : decode cX2_turned 8 = .ok (.goto 4, 3) := by decide +kernel
theorem dX2_turned_11 : decode cX2_turned 11 = .ok (.iload_n 0, 1) := by decide +kernel
theorem dX2_turned_12 : decode cX2_turned 12 = .ok (.istore_n 3, 1) := by decide +kernel
theorem dX2_turned_13 : decode cX2_turned 13 = .ok (.iload_n 2, 1) := by decide +kernel
theorem dX2_turned_14 : decode cX2_turned 14 = .ok (.bipush 32, 2) := by decide +kernel
theorem dX2_turned_16 : decode cX2_turned 16 = .ok (.iand, 1) := by decide +kernel
theorem dX2_turned_17 : decode cX2_turned 17 = .ok (.ifCond .ne 7, 3) := by decide +kernel
theorem dX2_turned_20 : decode cX2_turned 20 = .ok (.iload_n 0, 1) := by decide +kernel
theorem dX2_turned_21 : decode cX2_turned 21 = .ok (.goto 4, 3) := by decide +kernel
theorem dX2_turned_24 : decode cX2_turned 24 = .ok (.iload_n 1, 1) := by decide +kernel
theorem dX2_turned_25 : decode cX2_turned 25 = .ok (.istore 4, 2) := by decide +kernel
theorem dX2_turned_27 : decode cX2_turned 27 = .ok (.iload_n 2, 1) := by decide +kernel
theorem dX2_turned_28 : decode cX2_turned 28 = .ok (.bipush 31, 2) := by decide +kernel
theorem dX2_turned_30 : decode cX2_turned 30 = .ok (.iand, 1) := by decide +kernel
theorem dX2_turned_31 : decode cX2_turned 31 = .ok (.istore 5, 2) := by decide +kernel
theorem dX2_turned_33 : decode cX2_turned 33 = .ok (.iload 4, 2) := by decide +kernel
theorem dX2_turned_35 : decode cX2_turned 35 = .ok (.iload 5, 2) := by decide +kernel
theorem dX2_turned_37 : decode cX2_turned 37 = .ok (.iushr, 1) := by decide +kernel
theorem dX2_turned_38 : decode cX2_turned 38 = .ok (.iload_n 3, 1) := by decide +kernel
theorem dX2_turned_39 : decode cX2_turned 39 = .ok (.iconst 1, 1) := by decide +kernel
theorem dX2_turned_40 : decode cX2_turned 40 = .ok (.ishl, 1) := by decide +kernel
theorem dX2_turned_41 : decode cX2_turned 41 = .ok (.bipush 31, 2) := by decide +kernel
theorem dX2_turned_43 : decode cX2_turned 43 = .ok (.iload 5, 2) := by decide +kernel
theorem dX2_turned_45 : decode cX2_turned 45 = .ok (.isub, 1) := by decide +kernel
theorem dX2_turned_46 : decode cX2_turned 46 = .ok (.ishl, 1) := by decide +kernel
theorem dX2_turned_47 : decode cX2_turned 47 = .ok (.ior, 1) := by decide +kernel
theorem dX2_turned_48 : decode cX2_turned 48 = .ok (.ireturn, 1) := by decide +kernel
set_option maxRecDepth 20000 in
theorem ggX3_init_X3_isPrime : GoodIn wsX3_init wsX3_isPrime := goodIn_r _ [19] (by decide +kernel) (by decide +kernel)
set_option maxRecDepth 20000 in
theorem gX3_init_X3_isPrime : GoodIn wsX3_init (va_wsS RX3 41 yX3_isPrime wsX3_isPrime) := goodIn_app (goodIn_of _ (by decide +kernel)) ggX3_init_X3_isPrime
set_option maxRecDepth 20000 in
theorem ggX3_init_X3_rootOf : GoodIn wsX3_init wsX3_rootOf := goodIn_r _ [23, 13, 24, 25, 26, 18, 27, 14, 15, 28, 29, 30, 31, 32, 33, 34, 35, 36, 37, 38, 39, 40, 41, 42, 43, 44, 45, 46, 47, 48] (by decide +kernel) (by decide +kernel)
set_option maxRecDepth 20000 in
theorem gX3_init_X3_rootOf : GoodIn wsX3_init (wsV RX3 45 RX3 yX3_rootOf wsX3_rootOf) := goodIn_app (goodIn_of _ (by decide +kernel)) ggX3_init_X3_rootOf
theorem dX3_init_0 : decode cX3_init 0 = .ok (.aload_n 0, 1) := by decide +kernel
theorem dX3_init_1 : decode cX3_init 1 = .ok (.invokespecial 1, 3) := by decide +kernel
theorem dX3_init_4 : decode cX3_init 4 = .ok (.aload_n 0, 1) := by decide +kernel
theorem dX3_init_5 : decode cX3_init 5 = .ok (.iconst 4, 1) := by decide +kernel
theorem dX3_init_6 : decode cX3_init 6 = .ok (.newarray .int, 2) := by decide +kernel
theorem dX3_init_8 : decode cX3_init 8 = .ok (.putfield 7, 3) := by decide +kernel
theorem dX3_init_11 : decode cX3_init 11 = .ok (.aload_n 0, 1) := by decide +kernel
theorem dX3_init_12 : decode cX3_init 12 = .ok (.sipush 128, 3) := by decide +kernel
theorem dX3_init_15 : decode cX3_init 15 = .ok (.newarray .int, 2) := by decide +kernel
theorem dX3_init_17 : decode cX3_init 17 = .ok (.putfield 13, 3) := by decide +kernel
theorem dX3_init_20 : decode cX3_init 20 = .ok (.aload_n 0, 1) := by decide +kernel
theorem dX3_init_21 : decode cX3_init 21 = .ok (.bipush 8, 2) := by decide +kernel
theorem dX3_init_23 : decode cX3_init 23 = .ok (.newarray .long, 2) := by decide +kernel
theorem dX3_init_25 : decode cX3_init 25 = .ok (.putfield 16, 3) := by decide +kernel
theorem dX3_init_28 : decode cX3_init 28 = .ok (.aload_n 0, 1) := by decide +kernel
theorem dX3_init_29 : decode cX3_init 29 = .ok (.bipush 80, 2) := by decide +kernel
theorem dX3_init_31 : decode cX3_init 31 = .ok (.newarray .long, 2) := by decide +kernel
theorem dX3_init_33 : decode cX3_init 33 = .ok (.putfield 20, 3) := by decide +kernel
theorem dX3_init_36 : decode cX3_init 36 = .ok (.aload_n 0, 1) := by decide +kernel
theorem dX3_init_37 : decode cX3_init 37 = .ok (.bipush 16, 2) := by decide +kernel
theorem dX3_init_39 : decode cX3_init 39 = .ok (.newarray .long, 2) := by decide +kernel
theorem dX3_init_41 : decode cX3_init 41 = .ok (.putfield 23, 3) := by decide +kernel
theorem dX3_init_44 : decode cX3_init 44 = .ok (.aload_n 0, 1) := by decide +kernel
theorem dX3_init_45 : decode cX3_init 45 = .ok (.bipush 80, 2) := by decide +kernel
theorem dX3_init_47 : decode cX3_init 47 = .ok (.newarray .long, 2) := by decide +kernel
theorem dX3_init_49 : decode cX3_init 49 = .ok (.putfield 26, 3) := by decide +kernel
theorem dX3_init_52 : decode cX3_init 52 = .ok (.aload_n 0, 1) := by decide +kernel
theorem dX3_init_53 : decode cX3_init 53 = .ok (.bipush 8, 2) := by decide +kernel
theorem dX3_init_55 : decode cX3_init 55 = .ok (.newarray .long, 2) := by decide +kernel
theorem dX3_init_57 : decode cX3_init 57 = .ok (.putfield 29, 3) := by decide +kernel
theorem dX3_init_60 : decode cX3_init 60 = .ok (.aload_n 0, 1) := by decide +kernel
theorem dX3_init_61 : decode cX3_init 61 = .ok (.iconst 5, 1) := by decide +kernel
theorem dX3_init_62 : decode cX3_init 62 = .ok (.newarray .long, 2) := by decide +kernel
theorem dX3_init_64 : decode cX3_init 64 = .ok (.putfield 32, 3) := by decide +kernel
theorem dX3_init_67 : decode cX3_init 67 = .ok (.aload_n 0, 1) := by decide +kernel
theorem dX3_init_68 : decode cX3_init 68 = .ok (.bipush 10, 2) := by decide +kernel
theorem dX3_init_70 : decode cX3_init 70 = .ok (.newarray .long, 2) := by decide +kernel
theorem dX3_init_72 : decode cX3_init 72 = .ok (.putfield 35, 3) := by decide +kernel
theorem dX3_init_75 : decode cX3_init 75 = .ok (.aload_n 0, 1) := by decide +kernel
theorem dX3_init_76 : decode cX3_init 76 = .ok (.bipush 15, 2) := by decide +kernel
theorem dX3_init_78 : decode cX3_init 78 = .ok (.newarray .long, 2) := by decide +kernel
theorem dX3_init_80 : decode cX3_init 80 = .ok (.putfield 38, 3) := by decide +kernel
theorem dX3_init_83 : decode cX3_init 83 = .ok (.iconst 2, 1) := by decide +kernel
theorem dX3_init_84 : decode cX3_init 84 = .ok (.istore_n 1, 1) := by decide +kernel
theorem dX3_init_85 : decode cX3_init 85 = .ok (.iconst 0, 1) := by decide +kernel
theorem dX3_init_86 : decode cX3_init 86 = .ok (.istore_n 2, 1) := by decide +kernel
theorem dX3_init_87 : decode cX3_init 87 = .ok (.iload_n 2, 1) := by decide +kernel
theorem dX3_init_88 : decode cX3_init 88 = .ok (.bipush 80, 2) := by decide +kernel
theorem dX3_init_90 : decode cX3_init 90 = .ok (.if_icmp .ge 55, 3) := by decide +kernel
theorem dX3_init_93 : decode cX3_init 93 = .ok (.iload_n 1, 1) := by decide +kernel
theorem dX3_init_94 : decode cX3_init 94 = .ok (.invokestatic 41, 3) := by decide +kernel
theorem dX3_init_97 : decode cX3_init 97 = .ok (.ifCond .ne 9, 3) := by decide +kernel
theorem dX3_init_100 : decode cX3_init 100 = .ok (.iinc 1 1, 3) := by decide +kernel
theorem dX3_init_103 : decode cX3_init 103 = .ok (.goto (-10), 3) := by decide +kernel
theorem dX3_init_106 : decode cX3_init 106 = .ok (.aload_n 0, 1) := by decide +kernel
theorem dX3_init_107 : decode cX3_init 107 = .ok (.getfield 20, 3) := by decide +kernel
theorem dX3_init_110 : decode cX3_init 110 = .ok (.iload_n 2, 1) := by decide +kernel
theorem dX3_init_111 : decode cX3_init 111 = .ok (.aload_n 0, 1) := by decide +kernel
theorem dX3_init_112 : decode cX3_init 112 = .ok (.iload_n 1, 1) := by decide +kernel
theorem dX3_init_113 : decode cX3_init 113 = .ok (.iconst 1, 1) := by decide +kernel
theorem dX3_init_114 : decode cX3_init 114 = .ok (.invokevirtual 45, 3) := by decide +kernel
theorem dX3_init_117 : decode cX3_init 117 = .ok (.lastore, 1) := by decide +kernel
theorem dX3_init_118 : decode cX3_init 118 = .ok (.iload_n 2, 1) := by decide +kernel
theorem dX3_init_119 : decode cX3_init 119 = .ok (.bipush 16, 2) := by decide +kernel
theorem dX3_init_121 : decode cX3_init 121 = .ok (.if_icmp .ge 15, 3) := by decide +kernel
theorem dX3_init_124 : decode cX3_init 124 = .ok (.aload_n 0, 1) := by decide +kernel
theorem dX3_init_125 : decode cX3_init 125 = .ok (.getfield 23, 3) := by decide +kernel
theorem dX3_init_128 : decode cX3_init 128 = .ok (.iload_n 2, 1) := by decide +kernel
theorem dX3_init_129 : decode cX3_init 129 = .ok (.aload_n 0, 1) := by decide +kernel
theorem dX3_init_130 : decode cX3_init 130 = .ok (.iload_n 1, 1) := by decide +kernel
theorem dX3_init_131 : decode cX3_init 131 = .ok (.iconst 0, 1) := by decide +kernel
theorem dX3_init_132 : decode cX3_init 132 = .ok (.invokevirtual 45, 3) := by decide +kernel
theorem dX3_init_135 : decode cX3_init 135 = .ok (.lastore, 1) := by decide +kernel
theorem dX3_init_136 : decode cX3_init 136 = .ok (.iinc 1 1, 3) := by decide +kernel
theorem dX3_init_139 : decode cX3_init 139 = .ok (.iinc 2 1, 3) := by decide +kernel
theorem dX3_init_142 : decode cX3_init 142 = .ok (.goto (-55), 3) := by decide +kernel
theorem dX3_init_145 : decode cX3_init 145 = .ok (.return_, 1) := by decide +kernel
theorem dX3_isPrime_0 : decode cX3_isPrime 0 = .ok (.iconst 2, 1) := by decide +kernel
theorem dX3_isPrime_1 : decode cX3_isPrime 1 = .ok (.istore_n 1, 1) := by decide +kernel
theorem dX3_isPrime_2 : decode cX3_isPrime 2 = .ok (.iload_n 1, 1) := by decide +kernel
theorem dX3_isPrime_3 : decode cX3_isPrime 3 = .ok (.iload_n 1, 1) := by decide +kernel
theorem dX3_isPrime_4 : decode cX3_isPrime 4 = .ok (.imul, 1) := by decide +kernel
theorem dX3_isPrime_5 : decode cX3_isPrime 5 = .ok (.iload_n 0, 1) := by decide +kernel
theorem dX3_isPrime_6 : decode cX3_isPrime 6 = .ok (.if_icmp .gt 17, 3) := by decide +kernel
theorem dX3_isPrime_9 : decode cX3_isPrime 9 = .ok (.iload_n 0, 1) := by decide +kernel
theorem dX3_isPrime_10 : decode cX3_isPrime 10 = .ok (.iload_n 1, 1) := by decide +kernel
theorem dX3_isPrime_11 : decode cX3_isPrime 11 = .ok (.irem, 1) := by decide +kernel
theorem dX3_isPrime_12 : decode cX3_isPrime 12 = .ok (.ifCond .ne 5, 3) := by decide +kernel
theorem dX3_isPrime_15 : decode cX3_isPrime 15 = .ok (.iconst 0, 1) := by decide +kernel
theorem dX3_isPrime_16 : decode cX3_isPrime 16 = .ok (.ireturn, 1) := by decide +kernel
theorem dX3_isPrime_17 : decode cX3_isPrime 17 = .ok (.iinc 1 1, 3) := by decide +kernel
theorem dX3_isPrime_20 : decode cX3_isPrime 20 = .ok (.goto (-18), 3) := by decide +kernel
theorem dX3_isPrime_23 : decode cX3_isPrime 23 = .ok (.iconst 1, 1) := by decide +kernel
theorem dX3_isPrime_24 : decode cX3_isPrime 24 = .ok (.ireturn, 1) := by decide +kernel
theorem dX3_multiply_0 : decode cX3_multiply 0 = .ok (.iconst 0, 1) := by decide +kernel
theorem dX3_multiply_1 : decode cX3_multiply 1 = .ok (.istore 5, 2) := by decide +kernel
theorem dX3_multiply_3 : decode cX3_multiply 3 = .ok (.iload 5, 2) := by decide +kernel
theorem dX3_multiply_5 : decode cX3_multiply 5 = .ok (.iload_n 1, 1) := by decide +kernel
theorem dX3_multiply_6 : decode cX3_multiply 6 = .ok (.iload_n 3, 1) := by decide +kernel
theorem dX3_multiply_7 : decode cX3_multiply 7 = .ok (.iadd, 1) := by decide +kernel
theorem dX3_multiply_8 : decode cX3_multiply 8 = .ok (.if_icmp .ge 15, 3) := by decide +kernel
theorem dX3_multiply_11 : decode cX3_multiply 11 = .ok (.aload 4, 2) := by decide +kernel
theorem dX3_multiply_13 : decode cX3_multiply 13 = .ok (.iload 5, 2) := by decide +kernel
theorem dX3_multiply_15 : decode cX3_multiply 15 = .ok (.lconst 0, 1) := by decide +kernel
theorem dX3_multiply_16 : decode cX3_multiply 16 = .ok (.lastore, 1) := by decide +kernel
theorem dX3_multiply_17 : decode cX3_multiply 17 = .ok (.iinc 5 1, 3) := by decide +kernel
theorem dX3_multiply_20 : decode cX3_multiply 20 = .ok (.goto (-17), 3) := by decide +kernel
theorem dX3_multiply_23 : decode cX3_multiply 23 = .ok (.iconst 0, 1) := by decide +kernel
theorem dX3_multiply_24 : decode cX3_multiply 24 = .ok (.istore 5, 2) := by decide +kernel
theorem dX3_multiply_26 : decode cX3_multiply 26 = .ok (.iload 5, 2) := by decide +kernel
theorem dX3_multiply_28 : decode cX3_multiply 28 = .ok (.iload_n 1, 1) := by decide +kernel
theorem dX3_multiply_29 : decode cX3_multiply 29 = .ok (.if_icmp .ge 80, 3) := by decide +kernel
theorem dX3_multiply_32 : decode cX3_multiply 32 = .ok (.lconst 0, 1) := by decide +kernel
theorem dX3_multiply_33 : decode cX3_multiply 33 = .ok (.lstore 6, 2) := by decide +kernel
theorem dX3_multiply_35 : decode cX3_multiply 35 = .ok (.iconst 0, 1) := by decide +kernel
theorem dX3_multiply_36 : decode cX3_multiply 36 = .ok (.istore 8, 2) := by decide +kernel
theorem dX3_multiply_38 : decode cX3_multiply 38 = .ok (.iload 8, 2) := by decide +kernel
theorem dX3_multiply_40 : decode cX3_multiply 40 = .ok (.iload_n 3, 1) := by decide +kernel
theorem dX3_multiply_41 : decode cX3_multiply 41 = .ok (.if_icmp .ge 53, 3) := by decide +kernel
theorem dX3_multiply_44 : decode cX3_multiply 44 = .ok (.aload 4, 2) := by decide +kernel
theorem dX3_multiply_46 : decode cX3_multiply 46 = .ok (.iload 5, 2) := by decide +kernel
theorem dX3_multiply_48 : decode cX3_multiply 48 = .ok (.iload 8, 2) := by decide +kernel
theorem dX3_multiply_50 : decode cX3_multiply 50 = .ok (.iadd, 1) := by decide +kernel
theorem dX3_multiply_51 : decode cX3_multiply 51 = .ok (.laload, 1) := by decide +kernel
theorem dX3_multiply_52 : decode cX3_multiply 52 = .ok (.aload_n 0, 1) := by decide +kernel
theorem dX3_multiply_53 : decode cX3_multiply 53 = .ok (.iload 5, 2) := by decide +kernel
theorem dX3_multiply_55 : decode cX3_multiply 55 = .ok (.laload, 1) := by decide +kernel
theorem dX3_multiply_56 : decode cX3_multiply 56 = .ok (.aload_n 2, 1) := by decide +kernel
theorem dX3_multiply_57 : decode cX3_multiply 57 = .ok (.iload 8, 2) := by decide +kernel
theorem dX3_multiply_59 : decode cX3_multiply 59 = .ok (.laload, 1) := by decide +kernel
theorem dX3_multiply_60 : decode cX3_multiply 60 = .ok (.lmul, 1) := by decide +kernel
theorem dX3_multiply_61 : decode cX3_multiply 61 = .ok (.ladd, 1) := by decide +kernel
theorem dX3_multiply_62 : decode cX3_multiply 62 = .ok (.lload 6, 2) := by decide +kernel
theorem dX3_multiply_64 : decode cX3_multiply 64 = .ok (.ladd, 1) := by decide +kernel
theorem dX3_multiply_65 : decode cX3_multiply 65 = .ok (.lstore 9, 2) := by decide +kernel
theorem dX3_multiply_67 : decode cX3_multiply 67 = .ok (.aload 4, 2) := by decide +kernel
theorem dX3_multiply_69 : decode cX3_multiply 69 = .ok (.iload 5, 2) := by decide +kernel
theorem dX3_multiply_71 : decode cX3_multiply 71 = .ok (.iload 8, 2) := by decide +kernel
theorem dX3_multiply_73 : decode cX3_multiply 73 = .ok (.iadd, 1) := by decide +kernel
theorem dX3_multiply_74 : decode cX3_multiply 74 = .ok (.lload 9, 2) := by decide +kernel
theorem dX3_multiply_76 : decode cX3_multiply 76 = .ok (.ldc2_w 49, 3) := by decide +kernel
theorem dX3_multiply_79 : decode cX3_multiply 79 = .ok (.land, 1) := by decide +kernel
theorem dX3_multiply_80 : decode cX3_multiply 80 = .ok (.lastore, 1) := by decide +kernel
theorem dX3_multiply_81 : decode cX3_multiply 81 = .ok (.lload 9, 2) := by decide +kernel
theorem dX3_multiply_83 : decode cX3_multiply 83 = .ok (.bipush 16, 2) := by decide +kernel
theorem dX3_multiply_85 : decode cX3_multiply 85 = .ok (.lshr, 1) := by decide +kernel
theorem dX3_multiply_86 : decode cX3_multiply 86 = .ok (.lstore 6, 2) := by decide +kernel
theorem dX3_multiply_88 : decode cX3_multiply 88 = .ok (.iinc 8 1, 3) := by decide +kernel
theorem dX3_multiply_91 : decode cX3_multiply 91 = .ok (.goto (-53), 3) := by decide +kernel
theorem dX3_multiply_94 : decode cX3_multiply 94 = .ok (.aload 4, 2) := by decide +kernel
theorem dX3_multiply_96 : decode cX3_multiply 96 = .ok (.iload 5, 2) := by decide +kernel
theorem dX3_multiply_98 : decode cX3_multiply 98 = .ok (.iload_n 3, 1) := by decide +kernel
theorem dX3_multiply_99 : decode cX3_multiply 99 = .ok (.iadd, 1) := by decide +kernel
theorem dX3_multiply_100 : decode cX3_multiply 100 = .ok (.lload 6, 2) := by decide +kernel
theorem dX3_multiply_102 : decode cX3_multiply 102 = .ok (.lastore, 1) := by decide +kernel
theorem dX3_multiply_103 : decode cX3_multiply 103 = .ok (.iinc 5 1, 3) := by decide +kernel
theorem dX3_multiply_106 : decode cX3_multiply 106 = .ok (.goto (-80), 3) := by decide +kernel
theorem dX3_multiply_109 : decode cX3_multiply 109 = .ok (.return_, 1) := by decide +kernel
set_option maxRecDepth 20000 in
theorem ggX3_isBelow_X3_multiply : GoodIn wsX3_isBelow wsX3_multiply := goodIn_r _ [7, 8] (by decide +kernel) (by decide +kernel)
set_option maxRecDepth 20000 in
theorem gX3_isBelow_X3_multiply : GoodIn wsX3_isBelow (va_wsS RX3 51 yX3_multiply wsX3_multiply) := goodIn_app (goodIn_of _ (by decide +kernel)) ggX3_isBelow_X3_multiply
theorem dX3_isBelow_0 : decode cX3_isBelow 0 = .ok (.aload_n 0, 1) := by decide +kernel
theorem dX3_isBelow_1 : decode cX3_isBelow 1 = .ok (.getfield 32, 3) := by decide +kernel
theorem dX3_isBelow_4 : decode cX3_isBelow 4 = .ok (.iconst 5, 1) := by decide +kernel
theorem dX3_isBelow_5 : decode cX3_isBelow 5 = .ok (.aload_n 0, 1) := by decide +kernel
theorem dX3_isBelow_6 : decode cX3_isBelow 6 = .ok (.getfield 32, 3) := by decide +kernel
theorem dX3_isBelow_9 : decode cX3_isBelow 9 = .ok (.iconst 5, 1) := by decide +kernel
theorem dX3_isBelow_10 : decode cX3_isBelow 10 = .ok (.aload_n 0, 1) := by decide +kernel
theorem dX3_isBelow_11 : decode cX3_isBelow 11 = .ok (.getfield 35, 3) := by decide +kernel
theorem dX3_isBelow_14 : decode cX3_isBelow 14 = .ok (.invokestatic 51, 3) := by decide +kernel
theorem dX3_isBelow_17 : decode cX3_isBelow 17 = .ok (.iload_n 2, 1) := by decide +kernel
theorem dX3_isBelow_18 : decode cX3_isBelow 18 = .ok (.ifCond .ne 33, 3) := by decide +kernel
theorem dX3_isBelow_21 : decode cX3_isBelow 21 = .ok (.aload_n 0, 1) := by decide +kernel
theorem dX3_isBelow_22 : decode cX3_isBelow 22 = .ok (.getfield 35, 3) := by decide +kernel
theorem dX3_isBelow_25 : decode cX3_isBelow 25 = .ok (.bipush 8, 2) := by decide +kernel
theorem dX3_isBelow_27 : decode cX3_isBelow 27 = .ok (.laload, 1) := by decide +kernel
theorem dX3_isBelow_28 : decode cX3_isBelow 28 = .ok (.aload_n 0, 1) := by decide +kernel
theorem dX3_isBelow_29 : decode cX3_isBelow 29 = .ok (.getfield 35, 3) := by decide +kernel
theorem dX3_isBelow_32 : decode cX3_isBelow 32 = .ok (.bipush 9, 2) := by decide +kernel
theorem dX3_isBelow_34 : decode cX3_isBelow 34 = .ok (.laload, 1) := by decide +kernel
theorem dX3_isBelow_35 : decode cX3_isBelow 35 = .ok (.bipush 16, 2) := by decide +kernel
theorem dX3_isBelow_37 : decode cX3_isBelow 37 = .ok (.lshl, 1) := by decide +kernel
theorem dX3_isBelow_38 : decode cX3_isBelow 38 = .ok (.ladd, 1) := by decide +kernel
theorem dX3_isBelow_39 : decode cX3_isBelow 39 = .ok (.iload_n 1, 1) := by decide +kernel
theorem dX3_isBelow_40 : decode cX3_isBelow 40 = .ok (.i2l, 1) := by decide +kernel
theorem dX3_isBelow_41 : decode cX3_isBelow 41 = .ok (.lcmp, 1) := by decide +kernel
theorem dX3_isBelow_42 : decode cX3_isBelow 42 = .ok (.ifCond .ge 7, 3) := by decide +kernel
theorem dX3_isBelow_45 : decode cX3_isBelow 45 = .ok (.iconst 1, 1) := by decide +kernel
theorem dX3_isBelow_46 : decode cX3_isBelow 46 = .ok (.goto 4, 3) := by decide +kernel
theorem dX3_isBelow_49 : decode cX3_isBelow 49 = .ok (.iconst 0, 1) := by decide +kernel
theorem dX3_isBelow_50 : decode cX3_isBelow 50 = .ok (.ireturn, 1) := by decide +kernel
theorem dX3_isBelow_51 : decode cX3_isBelow 51 = .ok (.aload_n 0, 1) := by decide +kernel
theorem dX3_isBelow_52 : decode cX3_isBelow 52 = .ok (.getfield 35, 3) := by decide +kernel
theorem dX3_isBelow_55 : decode cX3_isBelow 55 = .ok (.bipush 10, 2) := by decide +kernel
theorem dX3_isBelow_57 : decode cX3_isBelow 57 = .ok (.aload_n 0, 1) := by decide +kernel
theorem dX3_isBelow_58 : decode cX3_isBelow 58 = .ok (.getfield 32, 3) := by decide +kernel
theorem dX3_isBelow_61 : decode cX3_isBelow 61 = .ok (.iconst 5, 1) := by decide +kernel
theorem dX3_isBelow_62 : decode cX3_isBelow 62 = .ok (.aload_n 0, 1) := by decide +kernel
theorem dX3_isBelow_63 : decode cX3_isBelow 63 = .ok (.getfield 38, 3) := by decide +kernel
theorem dX3_isBelow_66 : decode cX3_isBelow 66 = .ok (.invokestatic 51, 3) := by decide +kernel
theorem dX3_isBelow_69 : decode cX3_isBelow 69 = .ok (.aload_n 0, 1) := by decide +kernel
theorem dX3_isBelow_70 : decode cX3_isBelow 70 = .ok (.getfield 38, 3) := by decide +kernel
theorem dX3_isBelow_73 : decode cX3_isBelow 73 = .ok (.bipush 12, 2) := by decide +kernel
theorem dX3_isBelow_75 : decode cX3_isBelow 75 = .ok (.laload, 1) := by decide +kernel
theorem dX3_isBelow_76 : decode cX3_isBelow 76 = .ok (.aload_n 0, 1) := by decide +kernel
theorem dX3_isBelow_77 : decode cX3_isBelow 77 = .ok (.getfield 38, 3) := by decide +kernel
theorem dX3_isBelow_80 : decode cX3_isBelow 80 = .ok (.bipush 13, 2) := by decide +kernel
theorem dX3_isBelow_82 : decode cX3_isBelow 82 = .ok (.laload, 1) := by decide +kernel
theorem dX3_isBelow_83 : decode cX3_isBelow 83 = .ok (.bipush 16, 2) := by decide +kernel
theorem dX3_isBelow_85 : decode cX3_isBelow 85 = .ok (.lshl, 1) := by decide +kernel
theorem dX3_isBelow_86 : decode cX3_isBelow 86 = .ok (.ladd, 1) := by decide +kernel
theorem dX3_isBelow_87 : decode cX3_isBelow 87 = .ok (.aload_n 0, 1) := by decide +kernel
theorem dX3_isBelow_88 : decode cX3_isBelow 88 = .ok (.getfield 38, 3) := by decide +kernel
theorem dX3_isBelow_91 : decode cX3_isBelow 91 = .ok (.bipush 14, 2) := by decide +kernel
theorem dX3_isBelow_93 : decode cX3_isBelow 93 = .ok (.laload, 1) := by decide +kernel
theorem dX3_isBelow_94 : decode cX3_isBelow 94 = .ok (.bipush 32, 2) := by decide +kernel
theorem dX3_isBelow_96 : decode cX3_isBelow 96 = .ok (.lshl, 1) := by decide +kernel
theorem dX3_isBelow_97 : decode cX3_isBelow 97 = .ok (.ladd, 1) := by decide +kernel
theorem dX3_isBelow_98 : decode cX3_isBelow 98 = .ok (.iload_n 1, 1) := by decide +kernel
theorem dX3_isBelow_99 : decode cX3_isBelow 99 = .ok (.i2l, 1) := by decide +kernel
theorem dX3_isBelow_100 : decode cX3_isBelow 100 = .ok (.lcmp, 1) := by decide +kernel
theorem dX3_isBelow_101 : decode cX3_isBelow 101 = .ok (.ifCond .ge 7, 3) := by decide +kernel
theorem dX3_isBelow_104 : decode cX3_isBelow 104 = .ok (.iconst 1, 1) := by decide +kernel
theorem dX3_isBelow_105 : decode cX3_isBelow 105 = .ok (.goto 4, 3) := by decide +kernel
theorem dX3_isBelow_108 : decode cX3_isBelow 108 = .ok (.iconst 0, 1) := by decide +kernel
theorem dX3_isBelow_109 : decode cX3_isBelow 109 = .ok (.ireturn, 1) := by decide +kernel
set_option maxRecDepth 20000 in
theorem ggX3_rootOf_X3_isBelow : GoodIn wsX3_rootOf wsX3_isBelow := goodIn_r _ [6, 1, 7, 8, 9, 10, 5, 11, 12, 13, 14, 15, 16, 17, 18, 19, 20, 21, 22, 23, 24, 25, 26, 27, 28, 29] (by decide +kernel) (by decide +kernel)
set_option maxRecDepth 20000 in
theorem gX3_rootOf_X3_isBelow : GoodIn wsX3_rootOf (wsV RX3 55 RX3 yX3_isBelow wsX3_isBelow) := goodIn_app (goodIn_of _ (by decide +kernel)) ggX3_rootOf_X3_isBelow
theorem dX3_rootOf_0 : decode cX3_rootOf 0 = .ok (.iconst 0, 1) := by decide +kernel
theorem dX3_rootOf_1 : decode cX3_rootOf 1 = .ok (.istore_n 3, 1) := by decide +kernel
theorem dX3_rootOf_2 : decode cX3_rootOf 2 = .ok (.iload_n 3, 1) := by decide +kernel
theorem dX3_rootOf_3 : decode cX3_rootOf 3 = .ok (.iconst 5, 1) := by decide +kernel
theorem dX3_rootOf_4 : decode cX3_rootOf 4 = .ok (.if_icmp .ge 16, 3) := by decide +kernel
theorem dX3_rootOf_7 : decode cX3_rootOf 7 = .ok (.aload_n 0, 1) := by decide +kernel
theorem dX3_rootOf_8 : decode cX3_rootOf 8 = .ok (.getfield 32, 3) := by decide +kernel
theorem dX3_rootOf_11 : decode cX3_rootOf 11 = .ok (.iload_n 3, 1) := by decide +kernel
theorem dX3_rootOf_12 : decode cX3_rootOf 12 = .ok (.lconst 0, 1) := by decide +kernel
theorem dX3_rootOf_13 : decode cX3_rootOf 13 = .ok (.lastore, 1) := by decide +kernel
theorem dX3_rootOf_14 : decode cX3_rootOf 14 = .ok (.iinc 3 1, 3) := by decide +kernel
theorem dX3_rootOf_17 : decode cX3_rootOf 17 = .ok (.goto (-15), 3) := by decide +kernel
theorem dX3_rootOf_20 : decode cX3_rootOf 20 = .ok (.bipush 69, 2) := by decide +kernel
theorem dX3_rootOf_22 : decode cX3_rootOf 22 = .ok (.istore_n 3, 1) := by decide +kernel
theorem dX3_rootOf_23 : decode cX3_rootOf 23 = .ok (.iload_n 3, 1) := by decide +kernel
theorem dX3_rootOf_24 : decode cX3_rootOf 24 = .ok (.ifCond .lt 54, 3) := by decide +kernel
theorem dX3_rootOf_27 : decode cX3_rootOf 27 = .ok (.aload_n 0, 1) := by decide +kernel
theorem dX3_rootOf_28 : decode cX3_rootOf 28 = .ok (.getfield 32, 3) := by decide +kernel
theorem dX3_rootOf_31 : decode cX3_rootOf 31 = .ok (.iload_n 3, 1) := by decide +kernel
theorem dX3_rootOf_32 : decode cX3_rootOf 32 = .ok (.bipush 16, 2) := by decide +kernel
theorem dX3_rootOf_34 : decode cX3_rootOf 34 = .ok (.idiv, 1) := by decide +kernel
theorem dX3_rootOf_35 : decode cX3_rootOf 35 = .ok (.dup2, 1) := by decide +kernel
theorem dX3_rootOf_36 : decode cX3_rootOf 36 = .ok (.laload, 1) := by decide +kernel
theorem dX3_rootOf_37 : decode cX3_rootOf 37 = .ok (.lconst 1, 1) := by decide +kernel
theorem dX3_rootOf_38 : decode cX3_rootOf 38 = .ok (.iload_n 3, 1) := by decide +kernel
theorem dX3_rootOf_39 : decode cX3_rootOf 39 = .ok (.bipush 16, 2) := by decide +kernel
theorem dX3_rootOf_41 : decode cX3_rootOf 41 = .ok (.irem, 1) := by decide +kernel
theorem dX3_rootOf_42 : decode cX3_rootOf 42 = .ok (.lshl, 1) := by decide +kernel
theorem dX3_rootOf_43 : decode cX3_rootOf 43 = .ok (.ladd, 1) := by decide +kernel
theorem dX3_rootOf_44 : decode cX3_rootOf 44 = .ok (.lastore, 1) := by decide +kernel
theorem dX3_rootOf_45 : decode cX3_rootOf 45 = .ok (.aload_n 0, 1) := by decide +kernel
theorem dX3_rootOf_46 : decode cX3_rootOf 46 = .ok (.iload_n 1, 1) := by decide +kernel
theorem dX3_rootOf_47 : decode cX3_rootOf 47 = .ok (.iload_n 2, 1) := by decide +kernel
theorem dX3_rootOf_48 : decode cX3_rootOf 48 = .ok (.invokevirtual 55, 3) := by decide +kernel
theorem dX3_rootOf_51 : decode cX3_rootOf 51 = .ok (.ifCond .ne 21, 3) := by decide +kernel
theorem dX3_rootOf_54 : decode cX3_rootOf 54 = .ok (.aload_n 0, 1) := by decide +kernel
theorem dX3_rootOf_55 : decode cX3_rootOf 55 = .ok (.getfield 32, 3) := by decide +kernel
theorem dX3_rootOf_58 : decode cX3_rootOf 58 = .ok (.iload_n 3, 1) := by decide +kernel
theorem dX3_rootOf_59 : decode cX3_rootOf 59 = .ok (.bipush 16, 2) := by decide +kernel
theorem dX3_rootOf_61 : decode cX3_rootOf 61 = .ok (.idiv, 1) := by decide +kernel
theorem dX3_rootOf_62 : decode cX3_rootOf 62 = .ok (.dup2, 1) := by decide +kernel
theorem dX3_rootOf_63 : decode cX3_rootOf 63 = .ok (.laload, 1) := by decide +kernel
theorem dX3_rootOf_64 : decode cX3_rootOf 64 = .ok (.lconst 1, 1) := by decide +kernel
theorem dX3_rootOf_65 : decode cX3_rootOf 65 = .ok (.iload_n 3, 1) := by decide +kernel
theorem dX3_rootOf_66 : decode cX3_rootOf 66 = .ok (.bipush 16, 2) := by decide +kernel
theorem dX3_rootOf_68 : decode cX3_rootOf 68 = .ok (.irem, 1) := by decide +kernel
theorem dX3_rootOf_69 : decode cX3_rootOf 69 = .ok (.lshl, 1) := by decide +kernel
theorem dX3_rootOf_70 : decode cX3_rootOf 70 = .ok (.lsub, 1) := by decide +kernel
theorem dX3_rootOf_71 : decode cX3_rootOf 71 = .ok (.lastore, 1) := by decide +kernel
theorem dX3_rootOf_72 : decode cX3_rootOf 72 = .ok (.iinc 3 (-1), 3) := by decide +kernel
theorem dX3_rootOf_75 : decode cX3_rootOf 75 = .ok (.goto (-52), 3) := by decide +kernel
theorem dX3_rootOf_78 : decode cX3_rootOf 78 = .ok (.aload_n 0, 1) := by decide +kernel
theorem dX3_rootOf_79 : decode cX3_rootOf 79 = .ok (.getfield 32, 3) := by decide +kernel
theorem dX3_rootOf_82 : decode cX3_rootOf 82 = .ok (.iconst 3, 1) := by decide +kernel
theorem dX3_rootOf_83 : decode cX3_rootOf 83 = .ok (.laload, 1) := by decide +kernel
theorem dX3_rootOf_84 : decode cX3_rootOf 84 = .ok (.bipush 48, 2) := by decide +kernel
theorem dX3_rootOf_86 : decode cX3_rootOf 86 = .ok (.lshl, 1) := by decide +kernel
theorem dX3_rootOf_87 : decode cX3_rootOf 87 = .ok (.aload_n 0, 1) := by decide +kernel
theorem dX3_rootOf_88 : decode cX3_rootOf 88 = .ok (.getfield 32, 3) := by decide +kernel
theorem dX3_rootOf_91 : decode cX3_rootOf 91 = .ok (.iconst 2, 1) := by decide +kernel
theorem dX3_rootOf_92 : decode cX3_rootOf 92 = .ok (.laload, 1) := by decide +kernel
theorem dX3_rootOf_93 : decode cX3_rootOf 93 = .ok (.bipush 32, 2) := by decide +kernel
theorem dX3_rootOf_95 : decode cX3_rootOf 95 = .ok (.lshl, 1) := by decide +kernel
theorem dX3_rootOf_96 : decode cX3_rootOf 96 = .ok (.lor, 1) := by decide +kernel
theorem dX3_rootOf_97 : decode cX3_rootOf 97 = .ok (.aload_n 0, 1) := by decide +kernel
theorem dX3_rootOf_98 : decode cX3_rootOf 98 = .ok (.getfield 32, 3) := by decide +kernel
theorem dX3_rootOf_101 : decode cX3_rootOf 101 = .ok (.iconst 1, 1) := by decide +kernel
theorem dX3_rootOf_102 : decode cX3_rootOf 102 = .ok (.laload, 1) := by decide +kernel
theorem dX3_rootOf_103 : decode cX3_rootOf 103 = .ok (.bipush 16, 2) := by decide +kernel
theorem dX3_rootOf_105 : decode cX3_rootOf 105 = .ok (.lshl, 1) := by decide +kernel
theorem dX3_rootOf_106 : decode cX3_rootOf 106 = .ok (.lor, 1) := by decide +kernel
theorem dX3_rootOf_107 : decode cX3_rootOf 107 = .ok (.aload_n 0, 1) := by decide +kernel
theorem dX3_rootOf_108 : decode cX3_rootOf 108 = .ok (.getfield 32, 3) := by decide +kernel
theorem dX3_rootOf_111 : decode cX3_rootOf 111 = .ok (.iconst 0, 1) := by decide +kernel
theorem dX3_rootOf_112 : decode cX3_rootOf 112 = .ok (.laload, 1) := by decide +kernel
theorem dX3_rootOf_113 : decode cX3_rootOf 113 = .ok (.lor, 1) := by decide +kernel
theorem dX3_rootOf_114 : decode cX3_rootOf 114 = .ok (.lreturn, 1) := by decide +kernel
theorem dX3_of_0 : decode cX3_of 0 = .ok (.iload_n 0, 1) := by decide +kernel
theorem dX3_of_1 : decode cX3_of 1 = .ok (.i2l, 1) := by decide +kernel
theorem dX3_of_2 : decode cX3_of 2 = .ok (.bipush 32, 2) := by decide +kernel
theorem dX3_of_4 : decode cX3_of 4 = .ok (.lshl, 1) := by decide +kernel
theorem dX3_of_5 : decode cX3_of 5 = .ok (.iload_n 1, 1) := by decide +kernel
theorem dX3_of_6 : decode cX3_of 6 = .ok (.i2l, 1) := by decide +kernel
theorem dX3_of_7 : decode cX3_of 7 = .ok (.ldc2_w 59, 3) := by decide +kernel
theorem dX3_of_10 : decode cX3_of 10 = .ok (.land, 1) := by decide +kernel
theorem dX3_of_11 : decode cX3_of 11 = .ok (.lor, 1) := by decide +kernel
theorem dX3_of_12 : decode cX3_of 12 = .ok (.lreturn, 1) := by decide +kernel
theorem dX3_right_0 : decode cX3_right 0 = .ok (.iload_n 2, 1) := by decide +kernel
theorem dX3_right_1 : decode cX3_right 1 = .ok (.bipush 63, 2) := by decide +kernel
theorem dX3_right_3 : decode cX3_right 3 = .ok (.iand, 1) := by decide +kernel
theorem dX3_right_4 : decode cX3_right 4 = .ok (.istore_n 3, 1) := by decide +kernel
theorem dX3_right_5 : decode cX3_right 5 = .ok (.iload_n 3, 1) := by decide +kernel
theorem dX3_right_6 : decode cX3_right 6 = .ok (.ifCond .ne 7, 3) := by decide +kernel
theorem dX3_right_9 : decode cX3_right 9 = .ok (.lload_n 0, 1) := by decide +kernel
theorem dX3_right_10 : decode cX3_right 10 = .ok (.goto 13, 3) := by decide +kernel
theorem dX3_right_13 : decode cX3_right 13 = .ok (.lload_n 0, 1) := by decide +kernel
theorem dX3_right_14 : decode cX3_right 14 = .ok (.iload_n 3, 1) := by decide +kernel
theorem dX3_right_15 : decode cX3_right 15 = .ok (.lushr, 1) := by decide +kernel
theorem dX3_right_16 : decode cX3_right 16 = .ok (.lload_n 0, 1) := by decide +kernel
theorem dX3_right_17 : decode cX3_right 17 = .ok (.bipush 64, 2) := by decide +kernel
theorem dX3_right_19 : decode cX3_right 19 = .ok (.iload_n 3, 1) := by decide +kernel
theorem dX3_right_20 : decode cX3_right 20 = .ok (.isub, 1) := by decide +kernel
theorem dX3_right_21 : decode cX3_right 21 = .ok (.lshl, 1) := by decide +kernel
theorem dX3_right_22 : decode cX3_right 22 = .ok (.lor, 1) := by decide +kernel
theorem dX3_right_23 : decode cX3_right 23 = .ok (.lreturn, 1) := by decide +kernel

set_option maxRecDepth 20000 in
theorem ggX6_init_X6_layTable : GoodIn wsX6_init wsX6_layTable := goodIn_r _ [25, 10, 26, 11, 9, 27, 28, 29, 30, 24, 31, 32, 33, 34, 35, 36, 37, 38, 39, 40, 41, 49, 50, 51, 52, 53, 54, 55, 56, 57, 58, 59, 60, 61, 62, 63, 64, 65, 66, 67] (by decide +kernel) (by decide +kernel)
set_option maxRecDepth 20000 in
theorem gX6_init_X6_layTable : GoodIn wsX6_init (wsV RX6 57 RX6 yX6_layTable wsX6_layTable) := goodIn_app (goodIn_of _ (by decide +kernel)) ggX6_init_X6_layTable
set_option maxRecDepth 20000 in
theorem ggX6_init_X6_starts : GoodIn wsX6_init wsX6_starts := goodIn_r _ [45, 46, 47, 4, 5, 48, 8, 7, 49, 50, 51, 52, 53, 54, 55, 56, 57, 58, 59, 60, 61, 62, 63, 64, 65, 66, 67] (by decide +kernel) (by decide +kernel)
set_option maxRecDepth 20000 in
theorem gX6_init_X6_starts : GoodIn wsX6_init (wsV RX6 61 RX6 yX6_starts wsX6_starts) := goodIn_app (goodIn_of _ (by decide +kernel)) ggX6_init_X6_starts
theorem dX6_init_0 : decode cX6_init 0 = .ok (.aload_n 0, 1) := by decide +kernel
theorem dX6_init_1 : decode cX6_init 1 = .ok (.invokespecial 1, 3) := by decide +kernel
theorem dX6_init_4 : decode cX6_init 4 = .ok (.aload_n 0, 1) := by decide +kernel
theorem dX6_init_5 : decode cX6_init 5 = .ok (.iconst (-1), 1) := by decide +kernel
theorem dX6_init_6 : decode cX6_init 6 = .ok (.putfield 9, 3) := by decide +kernel
theorem dX6_init_9 : decode cX6_init 9 = .ok (.aload_n 0, 1) := by decide +kernel
theorem dX6_init_10 : decode cX6_init 10 = .ok (.iconst (-1), 1) := by decide +kernel
theorem dX6_init_11 : decode cX6_init 11 = .ok (.putfield 13, 3) := by decide +kernel
theorem dX6_init_14 : decode cX6_init 14 = .ok (.aload_n 0, 1) := by decide +kernel
theorem dX6_init_15 : decode cX6_init 15 = .ok (.iconst 2, 1) := by decide +kernel
theorem dX6_init_16 : decode cX6_init 16 = .ok (.newarray .int, 2) := by decide +kernel
theorem dX6_init_18 : decode cX6_init 18 = .ok (.putfield 16, 3) := by decide +kernel
theorem dX6_init_21 : decode cX6_init 21 = .ok (.aload_n 0, 1) := by decide +kernel
theorem dX6_init_22 : decode cX6_init 22 = .ok (.bipush 32, 2) := by decide +kernel
theorem dX6_init_24 : decode cX6_init 24 = .ok (.newarray .int, 2) := by decide +kernel
theorem dX6_init_26 : decode cX6_init 26 = .ok (.putfield 20, 3) := by decide +kernel
theorem dX6_init_29 : decode cX6_init 29 = .ok (.aload_n 0, 1) := by decide +kernel
theorem dX6_init_30 : decode cX6_init 30 = .ok (.iconst 5, 1) := by decide +kernel
theorem dX6_init_31 : decode cX6_init 31 = .ok (.newarray .int, 2) := by decide +kernel
theorem dX6_init_33 : decode cX6_init 33 = .ok (.putfield 23, 3) := by decide +kernel
theorem dX6_init_36 : decode cX6_init 36 = .ok (.aload_n 0, 1) := by decide +kernel
theorem dX6_init_37 : decode cX6_init 37 = .ok (.sipush 225, 3) := by decide +kernel
theorem dX6_init_40 : decode cX6_init 40 = .ok (.newarray .int, 2) := by decide +kernel
theorem dX6_init_42 : decode cX6_init 42 = .ok (.putfield 26, 3) := by decide +kernel
theorem dX6_init_45 : decode cX6_init 45 = .ok (.aload_n 0, 1) := by decide +kernel
theorem dX6_init_46 : decode cX6_init 46 = .ok (.sipush 225, 3) := by decide +kernel
theorem dX6_init_49 : decode cX6_init 49 = .ok (.newarray .int, 2) := by decide +kernel
theorem dX6_init_51 : decode cX6_init 51 = .ok (.putfield 29, 3) := by decide +kernel
theorem dX6_init_54 : decode cX6_init 54 = .ok (.aload_n 0, 1) := by decide +kernel
theorem dX6_init_55 : decode cX6_init 55 = .ok (.sipush 225, 3) := by decide +kernel
theorem dX6_init_58 : decode cX6_init 58 = .ok (.newarray .int, 2) := by decide +kernel
theorem dX6_init_60 : decode cX6_init 60 = .ok (.putfield 32, 3) := by decide +kernel
theorem dX6_init_63 : decode cX6_init 63 = .ok (.aload_n 0, 1) := by decide +kernel
theorem dX6_init_64 : decode cX6_init 64 = .ok (.sipush 160, 3) := by decide +kernel
theorem dX6_init_67 : decode cX6_init 67 = .ok (.newarray .int, 2) := by decide +kernel
theorem dX6_init_69 : decode cX6_init 69 = .ok (.putfield 35, 3) := by decide +kernel
theorem dX6_init_72 : decode cX6_init 72 = .ok (.aload_n 0, 1) := by decide +kernel
theorem dX6_init_73 : decode cX6_init 73 = .ok (.iconst 5, 1) := by decide +kernel
theorem dX6_init_74 : decode cX6_init 74 = .ok (.newarray .int, 2) := by decide +kernel
theorem dX6_init_76 : decode cX6_init 76 = .ok (.putfield 38, 3) := by decide +kernel
theorem dX6_init_79 : decode cX6_init 79 = .ok (.aload_n 0, 1) := by decide +kernel
theorem dX6_init_80 : decode cX6_init 80 = .ok (.iconst 5, 1) := by decide +kernel
theorem dX6_init_81 : decode cX6_init 81 = .ok (.newarray .int, 2) := by decide +kernel
theorem dX6_init_83 : decode cX6_init 83 = .ok (.putfield 41, 3) := by decide +kernel
theorem dX6_init_86 : decode cX6_init 86 = .ok (.aload_n 0, 1) := by decide +kernel
theorem dX6_init_87 : decode cX6_init 87 = .ok (.iconst 5, 1) := by decide +kernel
theorem dX6_init_88 : decode cX6_init 88 = .ok (.newarray .int, 2) := by decide +kernel
theorem dX6_init_90 : decode cX6_init 90 = .ok (.putfield 44, 3) := by decide +kernel
theorem dX6_init_93 : decode cX6_init 93 = .ok (.aload_n 0, 1) := by decide +kernel
theorem dX6_init_94 : decode cX6_init 94 = .ok (.iconst 5, 1) := by decide +kernel
theorem dX6_init_95 : decode cX6_init 95 = .ok (.newarray .int, 2) := by decide +kernel
theorem dX6_init_97 : decode cX6_init 97 = .ok (.putfield 47, 3) := by decide +kernel
theorem dX6_init_100 : decode cX6_init 100 = .ok (.aload_n 0, 1) := by decide +kernel
theorem dX6_init_101 : decode cX6_init 101 = .ok (.iconst 5, 1) := by decide +kernel
theorem dX6_init_102 : decode cX6_init 102 = .ok (.newarray .long, 2) := by decide +kernel
theorem dX6_init_104 : decode cX6_init 104 = .ok (.putfield 50, 3) := by decide +kernel
theorem dX6_init_107 : decode cX6_init 107 = .ok (.aload_n 0, 1) := by decide +kernel
theorem dX6_init_108 : decode cX6_init 108 = .ok (.bipush 15, 2) := by decide +kernel
theorem dX6_init_110 : decode cX6_init 110 = .ok (.newarray .int, 2) := by decide +kernel
theorem dX6_init_112 : decode cX6_init 112 = .ok (.putfield 54, 3) := by decide +kernel
theorem dX6_init_115 : decode cX6_init 115 = .ok (.aload_n 0, 1) := by decide +kernel
theorem dX6_init_116 : decode cX6_init 116 = .ok (.getfield 23, 3) := by decide +kernel
theorem dX6_init_119 : decode cX6_init 119 = .ok (.iconst 0, 1) := by decide +kernel
theorem dX6_init_120 : decode cX6_init 120 = .ok (.iconst 1, 1) := by decide +kernel
theorem dX6_init_121 : decode cX6_init 121 = .ok (.iastore, 1) := by decide +kernel
theorem dX6_init_122 : decode cX6_init 122 = .ok (.aload_n 0, 1) := by decide +kernel
theorem dX6_init_123 : decode cX6_init 123 = .ok (.getfield 23, 3) := by decide +kernel
theorem dX6_init_126 : decode cX6_init 126 = .ok (.iconst 1, 1) := by decide +kernel
theorem dX6_init_127 : decode cX6_init 127 = .ok (.iconst 4, 1) := by decide +kernel
theorem dX6_init_128 : decode cX6_init 128 = .ok (.iastore, 1) := by decide +kernel
theorem dX6_init_129 : decode cX6_init 129 = .ok (.aload_n 0, 1) := by decide +kernel
theorem dX6_init_130 : decode cX6_init 130 = .ok (.getfield 23, 3) := by decide +kernel
theorem dX6_init_133 : decode cX6_init 133 = .ok (.iconst 2, 1) := by decide +kernel
theorem dX6_init_134 : decode cX6_init 134 = .ok (.bipush 6, 2) := by decide +kernel
theorem dX6_init_136 : decode cX6_init 136 = .ok (.iastore, 1) := by decide +kernel
theorem dX6_init_137 : decode cX6_init 137 = .ok (.aload_n 0, 1) := by decide +kernel
theorem dX6_init_138 : decode cX6_init 138 = .ok (.getfield 23, 3) := by decide +kernel
theorem dX6_init_141 : decode cX6_init 141 = .ok (.iconst 3, 1) := by decide +kernel
theorem dX6_init_142 : decode cX6_init 142 = .ok (.iconst 4, 1) := by decide +kernel
theorem dX6_init_143 : decode cX6_init 143 = .ok (.iastore, 1) := by decide +kernel
theorem dX6_init_144 : decode cX6_init 144 = .ok (.aload_n 0, 1) := by decide +kernel
theorem dX6_init_145 : decode cX6_init 145 = .ok (.getfield 23, 3) := by decide +kernel
theorem dX6_init_148 : decode cX6_init 148 = .ok (.iconst 4, 1) := by decide +kernel
theorem dX6_init_149 : decode cX6_init 149 = .ok (.iconst 1, 1) := by decide +kernel
theorem dX6_init_150 : decode cX6_init 150 = .ok (.iastore, 1) := by decide +kernel
theorem dX6_init_151 : decode cX6_init 151 = .ok (.aload_n 0, 1) := by decide +kernel
theorem dX6_init_152 : decode cX6_init 152 = .ok (.bipush 40, 2) := by decide +kernel
theorem dX6_init_154 : decode cX6_init 154 = .ok (.invokevirtual 57, 3) := by decide +kernel
theorem dX6_init_157 : decode cX6_init 157 = .ok (.iconst 0, 1) := by decide +kernel
theorem dX6_init_158 : decode cX6_init 158 = .ok (.istore_n 1, 1) := by decide +kernel
theorem dX6_init_159 : decode cX6_init 159 = .ok (.iload_n 1, 1) := by decide +kernel
theorem dX6_init_160 : decode cX6_init 160 = .ok (.sipush 225, 3) := by decide +kernel
theorem dX6_init_163 : decode cX6_init 163 = .ok (.if_icmp .ge 21, 3) := by decide +kernel
theorem dX6_init_166 : decode cX6_init 166 = .ok (.aload_n 0, 1) := by decide +kernel
theorem dX6_init_167 : decode cX6_init 167 = .ok (.getfield 32, 3) := by decide +kernel
theorem dX6_init_170 : decode cX6_init 170 = .ok (.iload_n 1, 1) := by decide +kernel
theorem dX6_init_171 : decode cX6_init 171 = .ok (.aload_n 0, 1) := by decide +kernel
theorem dX6_init_172 : decode cX6_init 172 = .ok (.getfield 26, 3) := by decide +kernel
theorem dX6_init_175 : decode cX6_init 175 = .ok (.iload_n 1, 1) := by decide +kernel
theorem dX6_init_176 : decode cX6_init 176 = .ok (.iaload, 1) := by decide +kernel
theorem dX6_init_177 : decode cX6_init 177 = .ok (.iastore, 1) := by decide +kernel
theorem dX6_init_178 : decode cX6_init 178 = .ok (.iinc 1 1, 3) := by decide +kernel
theorem dX6_init_181 : decode cX6_init 181 = .ok (.goto (-22), 3) := by decide +kernel
theorem dX6_init_184 : decode cX6_init 184 = .ok (.aload_n 0, 1) := by decide +kernel
theorem dX6_init_185 : decode cX6_init 185 = .ok (.iconst 2, 1) := by decide +kernel
theorem dX6_init_186 : decode cX6_init 186 = .ok (.invokevirtual 61, 3) := by decide +kernel
theorem dX6_init_189 : decode cX6_init 189 = .ok (.return_, 1) := by decide +kernel
theorem dX6_thrown_0 : decode cX6_thrown 0 = .ok (.aload_n 0, 1) := by decide +kernel
theorem dX6_thrown_1 : decode cX6_thrown 1 = .ok (.getfield 64, 3) := by decide +kernel
theorem dX6_thrown_4 : decode cX6_thrown 4 = .ok (.ireturn, 1) := by decide +kernel
theorem dX6_fails_0 : decode cX6_fails 0 = .ok (.aload_n 0, 1) := by decide +kernel
theorem dX6_fails_1 : decode cX6_fails 1 = .ok (.iload_n 1, 1) := by decide +kernel
theorem dX6_fails_2 : decode cX6_fails 2 = .ok (.putfield 64, 3) := by decide +kernel
theorem dX6_fails_5 : decode cX6_fails 5 = .ok (.iconst 0, 1) := by decide +kernel
theorem dX6_fails_6 : decode cX6_fails 6 = .ok (.ireturn, 1) := by decide +kernel
theorem dX6_in_0 : decode cX6_in 0 = .ok (.iload_n 0, 1) := by decide +kernel
theorem dX6_in_1 : decode cX6_in 1 = .ok (.iload_n 1, 1) := by decide +kernel
theorem dX6_in_2 : decode cX6_in 2 = .ok (.if_icmp .lt 12, 3) := by decide +kernel
theorem dX6_in_5 : decode cX6_in 5 = .ok (.iload_n 0, 1) := by decide +kernel
theorem dX6_in_6 : decode cX6_in 6 = .ok (.iload_n 2, 1) := by decide +kernel
theorem dX6_in_7 : decode cX6_in 7 = .ok (.if_icmp .gt 7, 3) := by decide +kernel
theorem dX6_in_10 : decode cX6_in 10 = .ok (.iconst 1, 1) := by decide +kernel
theorem dX6_in_11 : decode cX6_in 11 = .ok (.goto 4, 3) := by decide +kernel
theorem dX6_in_14 : decode cX6_in 14 = .ok (.iconst 0, 1) := by decide +kernel
theorem dX6_in_15 : decode cX6_in 15 = .ok (.ireturn, 1) := by decide +kernel
set_option maxRecDepth 20000 in
theorem ggX6_isShared_X6_in : GoodIn wsX6_isShared wsX6_in := goodIn_r _ [4] (by decide +kernel) (by decide +kernel)
set_option maxRecDepth 20000 in
theorem gX6_isShared_X6_in : GoodIn wsX6_isShared (va_wsS RX6 67 yX6_in wsX6_in) := goodIn_app (goodIn_of _ (by decide +kernel)) ggX6_isShared_X6_in
theorem dX6_isShared_0 : decode cX6_isShared 0 = .ok (.iload_n 0, 1) := by decide +kernel
theorem dX6_isShared_1 : decode cX6_isShared 1 = .ok (.iconst 5, 1) := by decide +kernel
theorem dX6_isShared_2 : decode cX6_isShared 2 = .ok (.bipush 12, 2) := by decide +kernel
theorem dX6_isShared_4 : decode cX6_isShared 4 = .ok (.invokestatic 67, 3) := by decide +kernel
theorem dX6_isShared_7 : decode cX6_isShared 7 = .ok (.ireturn, 1) := by decide +kernel
theorem dX6_isRosette_0 : decode cX6_isRosette 0 = .ok (.iload_n 0, 1) := by decide +kernel
theorem dX6_isRosette_1 : decode cX6_isRosette 1 = .ok (.iconst 4, 1) := by decide +kernel
theorem dX6_isRosette_2 : decode cX6_isRosette 2 = .ok (.if_icmp .eq 15, 3) := by decide +kernel
theorem dX6_isRosette_5 : decode cX6_isRosette 5 = .ok (.iload_n 0, 1) := by decide +kernel
theorem dX6_isRosette_6 : decode cX6_isRosette 6 = .ok (.bipush 8, 2) := by decide +kernel
theorem dX6_isRosette_8 : decode cX6_isRosette 8 = .ok (.if_icmp .eq 9, 3) := by decide +kernel
theorem dX6_isRosette_11 : decode cX6_isRosette 11 = .ok (.iload_n 0, 1) := by decide +kernel
theorem dX6_isRosette_12 : decode cX6_isRosette 12 = .ok (.bipush 14, 2) := by decide +kernel
theorem dX6_isRosette_14 : decode cX6_isRosette 14 = .ok (.if_icmp .ne 7, 3) := by decide +kernel
theorem dX6_isRosette_17 : decode cX6_isRosette 17 = .ok (.iconst 1, 1) := by decide +kernel
theorem dX6_isRosette_18 : decode cX6_isRosette 18 = .ok (.goto 4, 3) := by decide +kernel
theorem dX6_isRosette_21 : decode cX6_isRosette 21 = .ok (.iconst 0, 1) := by decide +kernel
theorem dX6_isRosette_22 : decode cX6_isRosette 22 = .ok (.ireturn, 1) := by decide +kernel
set_option maxRecDepth 20000 in
theorem ggX6_behindThrow_X6_isShared : GoodIn wsX6_behindThrow wsX6_isShared := goodIn_r _ [6, 7, 8, 5, 9] (by decide +kernel) (by decide +kernel)
set_option maxRecDepth 20000 in
theorem gX6_behindThrow_X6_isShared : GoodIn wsX6_behindThrow (va_wsS RX6 72 yX6_isShared wsX6_isShared) := goodIn_app (goodIn_of _ (by decide +kernel)) ggX6_behindThrow_X6_isShared
set_option maxRecDepth 20000 in
theorem ggX6_behindThrow_X6_isRosette : GoodIn wsX6_behindThrow wsX6_isRosette := goodIn_r _ [12] (by decide +kernel) (by decide +kernel)
set_option maxRecDepth 20000 in
theorem gX6_behindThrow_X6_isRosette : GoodIn wsX6_behindThrow (va_wsS RX6 76 yX6_isRosette wsX6_isRosette) := goodIn_app (goodIn_of _ (by decide +kernel)) ggX6_behindThrow_X6_isRosette
theorem dX6_behindThrow_0 : decode cX6_behindThrow 0 = .ok (.iload_n 1, 1) := by decide +kernel
theorem dX6_behindThrow_1 : decode cX6_behindThrow 1 = .ok (.iload_n 3, 1) := by decide +kernel
theorem dX6_behindThrow_2 : decode cX6_behindThrow 2 = .ok (.iadd, 1) := by decide +kernel
theorem dX6_behindThrow_3 : decode cX6_behindThrow 3 = .ok (.istore 4, 2) := by decide +kernel
theorem dX6_behindThrow_5 : decode cX6_behindThrow 5 = .ok (.iload_n 3, 1) := by decide +kernel
theorem dX6_behindThrow_6 : decode cX6_behindThrow 6 = .ok (.ifCond .eq 23, 3) := by decide +kernel
theorem dX6_behindThrow_9 : decode cX6_behindThrow 9 = .ok (.iload 4, 2) := by decide +kernel
theorem dX6_behindThrow_11 : decode cX6_behindThrow 11 = .ok (.bipush 15, 2) := by decide +kernel
theorem dX6_behindThrow_13 : decode cX6_behindThrow 13 = .ok (.if_icmp .gt 16, 3) := by decide +kernel
theorem dX6_behindThrow_16 : decode cX6_behindThrow 16 = .ok (.iload 4, 2) := by decide +kernel
theorem dX6_behindThrow_18 : decode cX6_behindThrow 18 = .ok (.bipush 8, 2) := by decide +kernel
theorem dX6_behindThrow_20 : decode cX6_behindThrow 20 = .ok (.if_icmp .ne 24, 3) := by decide +kernel
theorem dX6_behindThrow_23 : decode cX6_behindThrow 23 = .ok (.iload_n 2, 1) := by decide +kernel
theorem dX6_behindThrow_24 : decode cX6_behindThrow 24 = .ok (.bipush 8, 2) := by decide +kernel
theorem dX6_behindThrow_26 : decode cX6_behindThrow 26 = .ok (.if_icmp .ne 18, 3) := by decide +kernel
theorem dX6_behindThrow_29 : decode cX6_behindThrow 29 = .ok (.ldc 71, 2) := by decide +kernel
theorem dX6_behindThrow_31 : decode cX6_behindThrow 31 = .ok (.aload_n 0, 1) := by decide +kernel
theorem dX6_behindThrow_32 : decode cX6_behindThrow 32 = .ok (.getfield 29, 3) := by decide +kernel
theorem dX6_behindThrow_35 : decode cX6_behindThrow 35 = .ok (.bipush 15, 2) := by decide +kernel
theorem dX6_behindThrow_37 : decode cX6_behindThrow 37 = .ok (.iload_n 2, 1) := by decide +kernel
theorem dX6_behindThrow_38 : decode cX6_behindThrow 38 = .ok (.imul, 1) := by decide +kernel
theorem dX6_behindThrow_39 : decode cX6_behindThrow 39 = .ok (.iload_n 1, 1) := by decide +kernel
theorem dX6_behindThrow_40 : decode cX6_behindThrow 40 = .ok (.iadd, 1) := by decide +kernel
theorem dX6_behindThrow_41 : decode cX6_behindThrow 41 = .ok (.iaload, 1) := by decide +kernel
theorem dX6_behindThrow_42 : decode cX6_behindThrow 42 = .ok (.isub, 1) := by decide +kernel
theorem dX6_behindThrow_43 : decode cX6_behindThrow 43 = .ok (.ireturn, 1) := by decide +kernel
theorem dX6_behindThrow_44 : decode cX6_behindThrow 44 = .ok (.iload 4, 2) := by decide +kernel
theorem dX6_behindThrow_46 : decode cX6_behindThrow 46 = .ok (.bipush 15, 2) := by decide +kernel
theorem dX6_behindThrow_48 : decode cX6_behindThrow 48 = .ok (.if_icmp .ne 6, 3) := by decide +kernel
theorem dX6_behindThrow_51 : decode cX6_behindThrow 51 = .ok (.ldc 71, 2) := by decide +kernel
theorem dX6_behindThrow_53 : decode cX6_behindThrow 53 = .ok (.ireturn, 1) := by decide +kernel
theorem dX6_behindThrow_54 : decode cX6_behindThrow 54 = .ok (.iload 4, 2) := by decide +kernel
theorem dX6_behindThrow_56 : decode cX6_behindThrow 56 = .ok (.invokestatic 72, 3) := by decide +kernel
theorem dX6_behindThrow_59 : decode cX6_behindThrow 59 = .ok (.ifCond .eq 13, 3) := by decide +kernel
theorem dX6_behindThrow_62 : decode cX6_behindThrow 62 = .ok (.iload_n 2, 1) := by decide +kernel
theorem dX6_behindThrow_63 : decode cX6_behindThrow 63 = .ok (.iload 4, 2) := by decide +kernel
theorem dX6_behindThrow_65 : decode cX6_behindThrow 65 = .ok (.if_icmp .ne 7, 3) := by decide +kernel
theorem dX6_behindThrow_68 : decode cX6_behindThrow 68 = .ok (.iconst 0, 1) := by decide +kernel
theorem dX6_behindThrow_69 : decode cX6_behindThrow 69 = .ok (.goto 4, 3) := by decide +kernel
theorem dX6_behindThrow_72 : decode cX6_behindThrow 72 = .ok (.iload_n 2, 1) := by decide +kernel
theorem dX6_behindThrow_73 : decode cX6_behindThrow 73 = .ok (.istore 5, 2) := by decide +kernel
theorem dX6_behindThrow_75 : decode cX6_behindThrow 75 = .ok (.iload 4, 2) := by decide +kernel
theorem dX6_behindThrow_77 : decode cX6_behindThrow 77 = .ok (.invokestatic 76, 3) := by decide +kernel
theorem dX6_behindThrow_80 : decode cX6_behindThrow 80 = .ok (.ifCond .eq 19, 3) := by decide +kernel
theorem dX6_behindThrow_83 : decode cX6_behindThrow 83 = .ok (.aload_n 0, 1) := by decide +kernel
theorem dX6_behindThrow_84 : decode cX6_behindThrow 84 = .ok (.getfield 29, 3) := by decide +kernel
theorem dX6_behindThrow_87 : decode cX6_behindThrow 87 = .ok (.bipush 15, 2) := by decide +kernel
theorem dX6_behindThrow_89 : decode cX6_behindThrow 89 = .ok (.iload 4, 2) := by decide +kernel
theorem dX6_behindThrow_91 : decode cX6_behindThrow 91 = .ok (.imul, 1) := by decide +kernel
theorem dX6_behindThrow_92 : decode cX6_behindThrow 92 = .ok (.iload 5, 2) := by decide +kernel
theorem dX6_behindThrow_94 : decode cX6_behindThrow 94 = .ok (.iadd, 1) := by decide +kernel
theorem dX6_behindThrow_95 : decode cX6_behindThrow 95 = .ok (.iaload, 1) := by decide +kernel
theorem dX6_behindThrow_96 : decode cX6_behindThrow 96 = .ok (.goto 19, 3) := by decide +kernel
theorem dX6_behindThrow_99 : decode cX6_behindThrow 99 = .ok (.ldc 71, 2) := by decide +kernel
theorem dX6_behindThrow_101 : decode cX6_behindThrow 101 = .ok (.aload_n 0, 1) := by decide +kernel
theorem dX6_behindThrow_102 : decode cX6_behindThrow 102 = .ok (.getfield 29, 3) := by decide +kernel
theorem dX6_behindThrow_105 : decode cX6_behindThrow 105 = .ok (.bipush 15, 2) := by decide +kernel
theorem dX6_behindThrow_107 : decode cX6_behindThrow 107 = .ok (.iload 5, 2) := by decide +kernel
theorem dX6_behindThrow_109 : decode cX6_behindThrow 109 = .ok (.imul, 1) := by decide +kernel
theorem dX6_behindThrow_110 : decode cX6_behindThrow 110 = .ok (.iload 4, 2) := by decide +kernel
theorem dX6_behindThrow_112 : decode cX6_behindThrow 112 = .ok (.iadd, 1) := by decide +kernel
theorem dX6_behindThrow_113 : decode cX6_behindThrow 113 = .ok (.iaload, 1) := by decide +kernel
theorem dX6_behindThrow_114 : decode cX6_behindThrow 114 = .ok (.isub, 1) := by decide +kernel
theorem dX6_behindThrow_115 : decode cX6_behindThrow 115 = .ok (.ireturn, 1) := by decide +kernel
set_option maxRecDepth 20000 in
theorem ggX6_layTable_X6_behindThrow : GoodIn wsX6_layTable wsX6_behindThrow := goodIn_r _ [10, 11, 3, 12, 13, 9, 14, 15, 16, 17, 18, 19, 20, 21, 22, 23, 24, 25, 26, 27, 28, 29, 30, 31, 32, 33, 34, 35, 36, 37, 38, 39] (by decide +kernel) (by decide +kernel)
set_option maxRecDepth 20000 in
theorem gX6_layTable_X6_behindThrow : GoodIn wsX6_layTable (wsV RX6 80 RX6 yX6_behindThrow wsX6_behindThrow) := goodIn_app (goodIn_of _ (by decide +kernel)) ggX6_layTable_X6_behindThrow
theorem dX6_layTable_0 : decode cX6_layTable 0 = .ok (.iconst 0, 1) := by decide +kernel
theorem dX6_layTable_1 : decode cX6_layTable 1 = .ok (.istore_n 2, 1) := by decide +kernel
theorem dX6_layTable_2 : decode cX6_layTable 2 = .ok (.iload_n 2, 1) := by decide +kernel
theorem dX6_layTable_3 : decode cX6_layTable 3 = .ok (.sipush 225, 3) := by decide +kernel
theorem dX6_layTable_6 : decode cX6_layTable 6 = .ok (.if_icmp .ge 17, 3) := by decide +kernel
theorem dX6_layTable_9 : decode cX6_layTable 9 = .ok (.aload_n 0, 1) := by decide +kernel
theorem dX6_layTable_10 : decode cX6_layTable 10 = .ok (.getfield 26, 3) := by decide +kernel
theorem dX6_layTable_13 : decode cX6_layTable 13 = .ok (.iload_n 2, 1) := by decide +kernel
theorem dX6_layTable_14 : decode cX6_layTable 14 = .ok (.ldc 79, 2) := by decide +kernel
theorem dX6_layTable_16 : decode cX6_layTable 16 = .ok (.iastore, 1) := by decide +kernel
theorem dX6_layTable_17 : decode cX6_layTable 17 = .ok (.iinc 2 1, 3) := by decide +kernel
theorem dX6_layTable_20 : decode cX6_layTable 20 = .ok (.goto (-18), 3) := by decide +kernel
theorem dX6_layTable_23 : decode cX6_layTable 23 = .ok (.iconst 0, 1) := by decide +kernel
theorem dX6_layTable_24 : decode cX6_layTable 24 = .ok (.istore_n 2, 1) := by decide +kernel
theorem dX6_layTable_25 : decode cX6_layTable 25 = .ok (.iload_n 2, 1) := by decide +kernel
theorem dX6_layTable_26 : decode cX6_layTable 26 = .ok (.iload_n 1, 1) := by decide +kernel
theorem dX6_layTable_27 : decode cX6_layTable 27 = .ok (.if_icmp .ge 111, 3) := by decide +kernel
theorem dX6_layTable_30 : decode cX6_layTable 30 = .ok (.iconst 0, 1) := by decide +kernel
theorem dX6_layTable_31 : decode cX6_layTable 31 = .ok (.istore_n 3, 1) := by decide +kernel
theorem dX6_layTable_32 : decode cX6_layTable 32 = .ok (.iload_n 3, 1) := by decide +kernel
theorem dX6_layTable_33 : decode cX6_layTable 33 = .ok (.sipush 225, 3) := by decide +kernel
theorem dX6_layTable_36 : decode cX6_layTable 36 = .ok (.if_icmp .ge 21, 3) := by decide +kernel
theorem dX6_layTable_39 : decode cX6_layTable 39 = .ok (.aload_n 0, 1) := by decide +kernel
theorem dX6_layTable_40 : decode cX6_layTable 40 = .ok (.getfield 29, 3) := by decide +kernel
theorem dX6_layTable_43 : decode cX6_layTable 43 = .ok (.iload_n 3, 1) := by decide +kernel
theorem dX6_layTable_44 : decode cX6_layTable 44 = .ok (.aload_n 0, 1) := by decide +kernel
theorem dX6_layTable_45 : decode cX6_layTable 45 = .ok (.getfield 26, 3) := by decide +kernel
theorem dX6_layTable_48 : decode cX6_layTable 48 = .ok (.iload_n 3, 1) := by decide +kernel
theorem dX6_layTable_49 : decode cX6_layTable 49 = .ok (.iaload, 1) := by decide +kernel
theorem dX6_layTable_50 : decode cX6_layTable 50 = .ok (.iastore, 1) := by decide +kernel
theorem dX6_layTable_51 : decode cX6_layTable 51 = .ok (.iinc 3 1, 3) := by decide +kernel
theorem dX6_layTable_54 : decode cX6_layTable 54 = .ok (.goto (-22), 3) := by decide +kernel
theorem dX6_layTable_57 : decode cX6_layTable 57 = .ok (.iconst 0, 1) := by decide +kernel
theorem dX6_layTable_58 : decode cX6_layTable 58 = .ok (.istore_n 3, 1) := by decide +kernel
theorem dX6_layTable_59 : decode cX6_layTable 59 = .ok (.iload_n 3, 1) := by decide +kernel
theorem dX6_layTable_60 : decode cX6_layTable 60 = .ok (.sipush 225, 3) := by decide +kernel
theorem dX6_layTable_63 : decode cX6_layTable 63 = .ok (.if_icmp .ge 69, 3) := by decide +kernel
theorem dX6_layTable_66 : decode cX6_layTable 66 = .ok (.lconst 0, 1) := by decide +kernel
theorem dX6_layTable_67 : decode cX6_layTable 67 = .ok (.lstore 4, 2) := by decide +kernel
theorem dX6_layTable_69 : decode cX6_layTable 69 = .ok (.iconst 0, 1) := by decide +kernel
theorem dX6_layTable_70 : decode cX6_layTable 70 = .ok (.istore 6, 2) := by decide +kernel
theorem dX6_layTable_72 : decode cX6_layTable 72 = .ok (.iload 6, 2) := by decide +kernel
theorem dX6_layTable_74 : decode cX6_layTable 74 = .ok (.iconst 5, 1) := by decide +kernel
theorem dX6_layTable_75 : decode cX6_layTable 75 = .ok (.if_icmp .ge 38, 3) := by decide +kernel
theorem dX6_layTable_78 : decode cX6_layTable 78 = .ok (.lload 4, 2) := by decide +kernel
theorem dX6_layTable_80 : decode cX6_layTable 80 = .ok (.aload_n 0, 1) := by decide +kernel
theorem dX6_layTable_81 : decode cX6_layTable 81 = .ok (.getfield 23, 3) := by decide +kernel
theorem dX6_layTable_84 : decode cX6_layTable 84 = .ok (.iload 6, 2) := by decide +kernel
theorem dX6_layTable_86 : decode cX6_layTable 86 = .ok (.iaload, 1) := by decide +kernel
theorem dX6_layTable_87 : decode cX6_layTable 87 = .ok (.i2l, 1) := by decide +kernel
theorem dX6_layTable_88 : decode cX6_layTable 88 = .ok (.aload_n 0, 1) := by decide +kernel
theorem dX6_layTable_89 : decode cX6_layTable 89 = .ok (.iload_n 3, 1) := by decide +kernel
theorem dX6_layTable_90 : decode cX6_layTable 90 = .ok (.bipush 15, 2) := by decide +kernel
theorem dX6_layTable_92 : decode cX6_layTable 92 = .ok (.idiv, 1) := by decide +kernel
theorem dX6_layTable_93 : decode cX6_layTable 93 = .ok (.iload_n 3, 1) := by decide +kernel
theorem dX6_layTable_94 : decode cX6_layTable 94 = .ok (.bipush 15, 2) := by decide +kernel
theorem dX6_layTable_96 : decode cX6_layTable 96 = .ok (.irem, 1) := by decide +kernel
theorem dX6_layTable_97 : decode cX6_layTable 97 = .ok (.iload 6, 2) := by decide +kernel
theorem dX6_layTable_99 : decode cX6_layTable 99 = .ok (.invokevirtual 80, 3) := by decide +kernel
theorem dX6_layTable_102 : decode cX6_layTable 102 = .ok (.i2l, 1) := by decide +kernel
theorem dX6_layTable_103 : decode cX6_layTable 103 = .ok (.lmul, 1) := by decide +kernel
theorem dX6_layTable_104 : decode cX6_layTable 104 = .ok (.ladd, 1) := by decide +kernel
theorem dX6_layTable_105 : decode cX6_layTable 105 = .ok (.lstore 4, 2) := by decide +kernel
theorem dX6_layTable_107 : decode cX6_layTable 107 = .ok (.iinc 6 1, 3) := by decide +kernel
theorem dX6_layTable_110 : decode cX6_layTable 110 = .ok (.goto (-38), 3) := by decide +kernel
theorem dX6_layTable_113 : decode cX6_layTable 113 = .ok (.aload_n 0, 1) := by decide +kernel
theorem dX6_layTable_114 : decode cX6_layTable 114 = .ok (.getfield 26, 3) := by decide +kernel
theorem dX6_layTable_117 : decode cX6_layTable 117 = .ok (.iload_n 3, 1) := by decide +kernel
theorem dX6_layTable_118 : decode cX6_layTable 118 = .ok (.lload 4, 2) := by decide +kernel
theorem dX6_layTable_120 : decode cX6_layTable 120 = .ok (.ldc2_w 84, 3) := by decide +kernel
theorem dX6_layTable_123 : decode cX6_layTable 123 = .ok (.ldiv, 1) := by decide +kernel
theorem dX6_layTable_124 : decode cX6_layTable 124 = .ok (.l2i, 1) := by decide +kernel
theorem dX6_layTable_125 : decode cX6_layTable 125 = .ok (.iastore, 1) := by decide +kernel
theorem dX6_layTable_126 : decode cX6_layTable 126 = .ok (.iinc 3 1, 3) := by decide +kernel
theorem dX6_layTable_129 : decode cX6_layTable 129 = .ok (.goto (-70), 3) := by decide +kernel
theorem dX6_layTable_132 : decode cX6_layTable 132 = .ok (.iinc 2 1, 3) := by decide +kernel
theorem dX6_layTable_135 : decode cX6_layTable 135 = .ok (.goto (-110), 3) := by decide +kernel
theorem dX6_layTable_138 : decode cX6_layTable 138 = .ok (.return_, 1) := by decide +kernel
set_option maxRecDepth 20000 in
theorem ggX6_ended_X6_in : GoodIn wsX6_ended wsX6_in := goodIn_r _ [6] (by decide +kernel) (by decide +kernel)
set_option maxRecDepth 20000 in
theorem gX6_ended_X6_in : GoodIn wsX6_ended (va_wsS RX6 67 yX6_in wsX6_in) := goodIn_app (goodIn_of _ (by decide +kernel)) ggX6_ended_X6_in
set_option maxRecDepth 20000 in
theorem ggX6_ended_X6_isShared : GoodIn wsX6_ended wsX6_isShared := goodIn_r _ [9, 3, 4, 5, 6] (by decide +kernel) (by decide +kernel)
set_option maxRecDepth 20000 in
theorem gX6_ended_X6_isShared : GoodIn wsX6_ended (va_wsS RX6 72 yX6_isShared wsX6_isShared) := goodIn_app (goodIn_of _ (by decide +kernel)) ggX6_ended_X6_isShared
set_option maxRecDepth 20000 in
theorem ggX6_ended_X6_layTable : GoodIn wsX6_ended wsX6_layTable := goodIn_r _ [13, 2, 14, 15, 16, 17, 18, 19, 20, 5, 21, 22, 7, 8, 9, 3, 4, 6, 23, 24, 25, 26, 27, 28, 29, 30, 31, 32, 33, 34, 35, 36, 37, 38, 39, 40, 41, 42, 43, 44] (by decide +kernel) (by decide +kernel)
set_option maxRecDepth 20000 in
theorem gX6_ended_X6_layTable : GoodIn wsX6_ended (wsV RX6 57 RX6 yX6_layTable wsX6_layTable) := goodIn_app (goodIn_of _ (by decide +kernel)) ggX6_ended_X6_layTable
theorem dX6_ended_0 : decode cX6_ended 0 = .ok (.aload_n 0, 1) := by decide +kernel
theorem dX6_ended_1 : decode cX6_ended 1 = .ok (.iload_n 1, 1) := by decide +kernel
theorem dX6_ended_2 : decode cX6_ended 2 = .ok (.iconst 0, 1) := by decide +kernel
theorem dX6_ended_3 : decode cX6_ended 3 = .ok (.bipush 14, 2) := by decide +kernel
theorem dX6_ended_5 : decode cX6_ended 5 = .ok (.invokestatic 67, 3) := by decide +kernel
theorem dX6_ended_8 : decode cX6_ended 8 = .ok (.ifCond .eq 39, 3) := by decide +kernel
theorem dX6_ended_11 : decode cX6_ended 11 = .ok (.iload_n 2, 1) := by decide +kernel
theorem dX6_ended_12 : decode cX6_ended 12 = .ok (.iconst 0, 1) := by decide +kernel
theorem dX6_ended_13 : decode cX6_ended 13 = .ok (.bipush 14, 2) := by decide +kernel
theorem dX6_ended_15 : decode cX6_ended 15 = .ok (.invokestatic 67, 3) := by decide +kernel
theorem dX6_ended_18 : decode cX6_ended 18 = .ok (.ifCond .eq 29, 3) := by decide +kernel
theorem dX6_ended_21 : decode cX6_ended 21 = .ok (.iload_n 3, 1) := by decide +kernel
theorem dX6_ended_22 : decode cX6_ended 22 = .ok (.iconst 0, 1) := by decide +kernel
theorem dX6_ended_23 : decode cX6_ended 23 = .ok (.iload 4, 2) := by decide +kernel
theorem dX6_ended_25 : decode cX6_ended 25 = .ok (.invokestatic 67, 3) := by decide +kernel
theorem dX6_ended_28 : decode cX6_ended 28 = .ok (.ifCond .eq 19, 3) := by decide +kernel
theorem dX6_ended_31 : decode cX6_ended 31 = .ok (.iload_n 1, 1) := by decide +kernel
theorem dX6_ended_32 : decode cX6_ended 32 = .ok (.iload_n 2, 1) := by decide +kernel
theorem dX6_ended_33 : decode cX6_ended 33 = .ok (.if_icmp .ne 10, 3) := by decide +kernel
theorem dX6_ended_36 : decode cX6_ended 36 = .ok (.iload_n 1, 1) := by decide +kernel
theorem dX6_ended_37 : decode cX6_ended 37 = .ok (.invokestatic 72, 3) := by decide +kernel
theorem dX6_ended_40 : decode cX6_ended 40 = .ok (.ifCond .ne 7, 3) := by decide +kernel
theorem dX6_ended_43 : decode cX6_ended 43 = .ok (.iconst 0, 1) := by decide +kernel
theorem dX6_ended_44 : decode cX6_ended 44 = .ok (.goto 4, 3) := by decide +kernel
theorem dX6_ended_47 : decode cX6_ended 47 = .ok (.iconst 1, 1) := by decide +kernel
theorem dX6_ended_48 : decode cX6_ended 48 = .ok (.putfield 64, 3) := by decide +kernel
theorem dX6_ended_51 : decode cX6_ended 51 = .ok (.aload_n 0, 1) := by decide +kernel
theorem dX6_ended_52 : decode cX6_ended 52 = .ok (.getfield 64, 3) := by decide +kernel
theorem dX6_ended_55 : decode cX6_ended 55 = .ok (.ifCond .le 5, 3) := by decide +kernel
theorem dX6_ended_58 : decode cX6_ended 58 = .ok (.iconst 0, 1) := by decide +kernel
theorem dX6_ended_59 : decode cX6_ended 59 = .ok (.ireturn, 1) := by decide +kernel
theorem dX6_ended_60 : decode cX6_ended 60 = .ok (.aload_n 0, 1) := by decide +kernel
theorem dX6_ended_61 : decode cX6_ended 61 = .ok (.iload_n 3, 1) := by decide +kernel
theorem dX6_ended_62 : decode cX6_ended 62 = .ok (.invokevirtual 57, 3) := by decide +kernel
theorem dX6_ended_65 : decode cX6_ended 65 = .ok (.aload_n 0, 1) := by decide +kernel
theorem dX6_ended_66 : decode cX6_ended 66 = .ok (.getfield 26, 3) := by decide +kernel
theorem dX6_ended_69 : decode cX6_ended 69 = .ok (.bipush 15, 2) := by decide +kernel
theorem dX6_ended_71 : decode cX6_ended 71 = .ok (.iload_n 1, 1) := by decide +kernel
theorem dX6_ended_72 : decode cX6_ended 72 = .ok (.imul, 1) := by decide +kernel
theorem dX6_ended_73 : decode cX6_ended 73 = .ok (.iload_n 2, 1) := by decide +kernel
theorem dX6_ended_74 : decode cX6_ended 74 = .ok (.iadd, 1) := by decide +kernel
theorem dX6_ended_75 : decode cX6_ended 75 = .ok (.iaload, 1) := by decide +kernel
theorem dX6_ended_76 : decode cX6_ended 76 = .ok (.ireturn, 1) := by decide +kernel
set_option maxRecDepth 20000 in
theorem ggX6_ending_X6_ended : GoodIn wsX6_ending wsX6_ended := goodIn_r _ [5, 6, 7, 8, 9, 4, 10, 11, 12, 13, 14, 15, 16, 17, 18, 19, 20, 21, 22, 23, 24, 25, 26, 27, 28, 29, 30, 31, 32, 33, 34, 35, 36, 37, 38, 39, 40, 41, 42, 43, 44, 45, 46, 47, 48] (by decide +kernel) (by decide +kernel)
set_option maxRecDepth 20000 in
theorem gX6_ending_X6_ended : GoodIn wsX6_ending (wsV RX6 86 RX6 yX6_ended wsX6_ended) := goodIn_app (goodIn_of _ (by decide +kernel)) ggX6_ending_X6_ended
theorem dX6_ending_0 : decode cX6_ending 0 = .ok (.aload_n 0, 1) := by decide +kernel
theorem dX6_ending_1 : decode cX6_ending 1 = .ok (.iload_n 1, 1) := by decide +kernel
theorem dX6_ending_2 : decode cX6_ending 2 = .ok (.iload_n 2, 1) := by decide +kernel
theorem dX6_ending_3 : decode cX6_ending 3 = .ok (.iload_n 3, 1) := by decide +kernel
theorem dX6_ending_4 : decode cX6_ending 4 = .ok (.bipush 60, 2) := by decide +kernel
theorem dX6_ending_6 : decode cX6_ending 6 = .ok (.invokevirtual 86, 3) := by decide +kernel
theorem dX6_ending_9 : decode cX6_ending 9 = .ok (.ireturn, 1) := by decide +kernel
set_option maxRecDepth 20000 in
theorem ggX6_endingByThrows_X6_ended : GoodIn wsX6_endingByThrows wsX6_ended := goodIn_r _ [5, 6, 7, 8, 9, 4, 10, 11, 12, 13, 14, 15, 16, 17, 18, 19, 20, 21, 22, 23, 24, 25, 26, 27, 28, 29, 30, 31, 32, 33, 34, 35, 36, 37, 38, 39, 40, 41, 42, 43, 44, 45, 46, 47, 48] (by decide +kernel) (by decide +kernel)
set_option maxRecDepth 20000 in
theorem gX6_endingByThrows_X6_ended : GoodIn wsX6_endingByThrows (wsV RX6 86 RX6 yX6_ended wsX6_ended) := goodIn_app (goodIn_of _ (by decide +kernel)) ggX6_endingByThrows_X6_ended
theorem dX6_endingByThrows_0 : decode cX6_endingByThrows 0 = .ok (.aload_n 0, 1) := by decide +kernel
theorem dX6_endingByThrows_1 : decode cX6_endingByThrows 1 = .ok (.iload_n 1, 1) := by decide +kernel
theorem dX6_endingByThrows_2 : decode cX6_endingByThrows 2 = .ok (.iload_n 2, 1) := by decide +kernel
theorem dX6_endingByThrows_3 : decode cX6_endingByThrows 3 = .ok (.iload_n 3, 1) := by decide +kernel
theorem dX6_endingByThrows_4 : decode cX6_endingByThrows 4 = .ok (.iconst 5, 1) := by decide +kernel
theorem dX6_endingByThrows_5 : decode cX6_endingByThrows 5 = .ok (.invokevirtual 86, 3) := by decide +kernel
theorem dX6_endingByThrows_8 : decode cX6_endingByThrows 8 = .ok (.ireturn, 1) := by decide +kernel
theorem dX6_canMove_0 : decode cX6_canMove 0 = .ok (.iload_n 3, 1) := by decide +kernel
theorem dX6_canMove_1 : decode cX6_canMove 1 = .ok (.iload 4, 2) := by decide +kernel
theorem dX6_canMove_3 : decode cX6_canMove 3 = .ok (.iadd, 1) := by decide +kernel
theorem dX6_canMove_4 : decode cX6_canMove 4 = .ok (.istore 5, 2) := by decide +kernel
theorem dX6_canMove_6 : decode cX6_canMove 6 = .ok (.iload 4, 2) := by decide +kernel
theorem dX6_canMove_8 : decode cX6_canMove 8 = .ok (.ifCond .eq 23, 3) := by decide +kernel
theorem dX6_canMove_11 : decode cX6_canMove 11 = .ok (.iload 5, 2) := by decide +kernel
theorem dX6_canMove_13 : decode cX6_canMove 13 = .ok (.bipush 15, 2) := by decide +kernel
theorem dX6_canMove_15 : decode cX6_canMove 15 = .ok (.if_icmp .gt 16, 3) := by decide +kernel
theorem dX6_canMove_18 : decode cX6_canMove 18 = .ok (.aload_n 0, 1) := by decide +kernel
theorem dX6_canMove_19 : decode cX6_canMove 19 = .ok (.iload_n 1, 1) := by decide +kernel
theorem dX6_canMove_20 : decode cX6_canMove 20 = .ok (.bipush 16, 2) := by decide +kernel
theorem dX6_canMove_22 : decode cX6_canMove 22 = .ok (.iload_n 2, 1) := by decide +kernel
theorem dX6_canMove_23 : decode cX6_canMove 23 = .ok (.imul, 1) := by decide +kernel
theorem dX6_canMove_24 : decode cX6_canMove 24 = .ok (.iadd, 1) := by decide +kernel
theorem dX6_canMove_25 : decode cX6_canMove 25 = .ok (.iload_n 3, 1) := by decide +kernel
theorem dX6_canMove_26 : decode cX6_canMove 26 = .ok (.iadd, 1) := by decide +kernel
theorem dX6_canMove_27 : decode cX6_canMove 27 = .ok (.iaload, 1) := by decide +kernel
theorem dX6_canMove_28 : decode cX6_canMove 28 = .ok (.ifCond .ne 5, 3) := by decide +kernel
theorem dX6_canMove_31 : decode cX6_canMove 31 = .ok (.iconst 0, 1) := by decide +kernel
theorem dX6_canMove_32 : decode cX6_canMove 32 = .ok (.ireturn, 1) := by decide +kernel
theorem dX6_canMove_33 : decode cX6_canMove 33 = .ok (.iload 5, 2) := by decide +kernel
theorem dX6_canMove_35 : decode cX6_canMove 35 = .ok (.bipush 15, 2) := by decide +kernel
theorem dX6_canMove_37 : decode cX6_canMove 37 = .ok (.if_icmp .ge 21, 3) := by decide +kernel
theorem dX6_canMove_40 : decode cX6_canMove 40 = .ok (.aload_n 0, 1) := by decide +kernel
theorem dX6_canMove_41 : decode cX6_canMove 41 = .ok (.iload_n 1, 1) := by decide +kernel
theorem dX6_canMove_42 : decode cX6_canMove 42 = .ok (.bipush 16, 2) := by decide +kernel
theorem dX6_canMove_44 : decode cX6_canMove 44 = .ok (.iload_n 2, 1) := by decide +kernel
theorem dX6_canMove_45 : decode cX6_canMove 45 = .ok (.imul, 1) := by decide +kernel
theorem dX6_canMove_46 : decode cX6_canMove 46 = .ok (.iadd, 1) := by decide +kernel
theorem dX6_canMove_47 : decode cX6_canMove 47 = .ok (.iload 5, 2) := by decide +kernel
theorem dX6_canMove_49 : decode cX6_canMove 49 = .ok (.iadd, 1) := by decide +kernel
theorem dX6_canMove_50 : decode cX6_canMove 50 = .ok (.iaload, 1) := by decide +kernel
theorem dX6_canMove_51 : decode cX6_canMove 51 = .ok (.ifCond .le 7, 3) := by decide +kernel
theorem dX6_canMove_54 : decode cX6_canMove 54 = .ok (.iconst 1, 1) := by decide +kernel
theorem dX6_canMove_55 : decode cX6_canMove 55 = .ok (.goto 4, 3) := by decide +kernel
theorem dX6_canMove_58 : decode cX6_canMove 58 = .ok (.iconst 0, 1) := by decide +kernel
theorem dX6_canMove_59 : decode cX6_canMove 59 = .ok (.istore 6, 2) := by decide +kernel
theorem dX6_canMove_61 : decode cX6_canMove 61 = .ok (.iload 6, 2) := by decide +kernel
theorem dX6_canMove_63 : decode cX6_canMove 63 = .ok (.ifCond .ne 31, 3) := by decide +kernel
theorem dX6_canMove_66 : decode cX6_canMove 66 = .ok (.iload 5, 2) := by decide +kernel
theorem dX6_canMove_68 : decode cX6_canMove 68 = .ok (.bipush 8, 2) := by decide +kernel
theorem dX6_canMove_70 : decode cX6_canMove 70 = .ok (.if_icmp .ne 20, 3) := by decide +kernel
theorem dX6_canMove_73 : decode cX6_canMove 73 = .ok (.aload_n 0, 1) := by decide +kernel
theorem dX6_canMove_74 : decode cX6_canMove 74 = .ok (.iload_n 1, 1) := by decide +kernel
theorem dX6_canMove_75 : decode cX6_canMove 75 = .ok (.bipush 16, 2) := by decide +kernel
theorem dX6_canMove_77 : decode cX6_canMove 77 = .ok (.iadd, 1) := by decide +kernel
theorem dX6_canMove_78 : decode cX6_canMove 78 = .ok (.bipush 16, 2) := by decide +kernel
theorem dX6_canMove_80 : decode cX6_canMove 80 = .ok (.iload_n 2, 1) := by decide +kernel
theorem dX6_canMove_81 : decode cX6_canMove 81 = .ok (.imul, 1) := by decide +kernel
theorem dX6_canMove_82 : decode cX6_canMove 82 = .ok (.isub, 1) := by decide +kernel
theorem dX6_canMove_83 : decode cX6_canMove 83 = .ok (.bipush 8, 2) := by decide +kernel
theorem dX6_canMove_85 : decode cX6_canMove 85 = .ok (.iadd, 1) := by decide +kernel
theorem dX6_canMove_86 : decode cX6_canMove 86 = .ok (.iaload, 1) := by decide +kernel
theorem dX6_canMove_87 : decode cX6_canMove 87 = .ok (.ifCond .ne 7, 3) := by decide +kernel
theorem dX6_canMove_90 : decode cX6_canMove 90 = .ok (.iconst 1, 1) := by decide +kernel
theorem dX6_canMove_91 : decode cX6_canMove 91 = .ok (.goto 4, 3) := by decide +kernel
theorem dX6_canMove_94 : decode cX6_canMove 94 = .ok (.iconst 0, 1) := by decide +kernel
theorem dX6_canMove_95 : decode cX6_canMove 95 = .ok (.ireturn, 1) := by decide +kernel
set_option maxRecDepth 20000 in
theorem ggX6_shifts_X6_isShared : GoodIn wsX6_shifts wsX6_isShared := goodIn_r _ [4, 5, 6, 3, 7] (by decide +kernel) (by decide +kernel)
set_option maxRecDepth 20000 in
theorem gX6_shifts_X6_isShared : GoodIn wsX6_shifts (va_wsS RX6 72 yX6_isShared wsX6_isShared) := goodIn_app (goodIn_of _ (by decide +kernel)) ggX6_shifts_X6_isShared
theorem dX6_shifts_0 : decode cX6_shifts 0 = .ok (.iload_n 3, 1) := by decide +kernel
theorem dX6_shifts_1 : decode cX6_shifts 1 = .ok (.iload 4, 2) := by decide +kernel
theorem dX6_shifts_3 : decode cX6_shifts 3 = .ok (.iadd, 1) := by decide +kernel
theorem dX6_shifts_4 : decode cX6_shifts 4 = .ok (.istore 5, 2) := by decide +kernel
theorem dX6_shifts_6 : decode cX6_shifts 6 = .ok (.iload_n 1, 1) := by decide +kernel
theorem dX6_shifts_7 : decode cX6_shifts 7 = .ok (.bipush 16, 2) := by decide +kernel
theorem dX6_shifts_9 : decode cX6_shifts 9 = .ok (.iadd, 1) := by decide +kernel
theorem dX6_shifts_10 : decode cX6_shifts 10 = .ok (.bipush 16, 2) := by decide +kernel
theorem dX6_shifts_12 : decode cX6_shifts 12 = .ok (.iload_n 2, 1) := by decide +kernel
theorem dX6_shifts_13 : decode cX6_shifts 13 = .ok (.imul, 1) := by decide +kernel
theorem dX6_shifts_14 : decode cX6_shifts 14 = .ok (.isub, 1) := by decide +kernel
theorem dX6_shifts_15 : decode cX6_shifts 15 = .ok (.istore 6, 2) := by decide +kernel
theorem dX6_shifts_17 : decode cX6_shifts 17 = .ok (.aload_n 0, 1) := by decide +kernel
theorem dX6_shifts_18 : decode cX6_shifts 18 = .ok (.iload_n 1, 1) := by decide +kernel
theorem dX6_shifts_19 : decode cX6_shifts 19 = .ok (.bipush 16, 2) := by decide +kernel
theorem dX6_shifts_21 : decode cX6_shifts 21 = .ok (.iload_n 2, 1) := by decide +kernel
theorem dX6_shifts_22 : decode cX6_shifts 22 = .ok (.imul, 1) := by decide +kernel
theorem dX6_shifts_23 : decode cX6_shifts 23 = .ok (.iadd, 1) := by decide +kernel
theorem dX6_shifts_24 : decode cX6_shifts 24 = .ok (.iload_n 3, 1) := by decide +kernel
theorem dX6_shifts_25 : decode cX6_shifts 25 = .ok (.iadd, 1) := by decide +kernel
theorem dX6_shifts_26 : decode cX6_shifts 26 = .ok (.dup2, 1) := by decide +kernel
theorem dX6_shifts_27 : decode cX6_shifts 27 = .ok (.iaload, 1) := by decide +kernel
theorem dX6_shifts_28 : decode cX6_shifts 28 = .ok (.iconst 1, 1) := by decide +kernel
theorem dX6_shifts_29 : decode cX6_shifts 29 = .ok (.isub, 1) := by decide +kernel
theorem dX6_shifts_30 : decode cX6_shifts 30 = .ok (.iastore, 1) := by decide +kernel
theorem dX6_shifts_31 : decode cX6_shifts 31 = .ok (.aload_n 0, 1) := by decide +kernel
theorem dX6_shifts_32 : decode cX6_shifts 32 = .ok (.iload_n 1, 1) := by decide +kernel
theorem dX6_shifts_33 : decode cX6_shifts 33 = .ok (.bipush 16, 2) := by decide +kernel
theorem dX6_shifts_35 : decode cX6_shifts 35 = .ok (.iload_n 2, 1) := by decide +kernel
theorem dX6_shifts_36 : decode cX6_shifts 36 = .ok (.imul, 1) := by decide +kernel
theorem dX6_shifts_37 : decode cX6_shifts 37 = .ok (.iadd, 1) := by decide +kernel
theorem dX6_shifts_38 : decode cX6_shifts 38 = .ok (.iload 5, 2) := by decide +kernel
theorem dX6_shifts_40 : decode cX6_shifts 40 = .ok (.iadd, 1) := by decide +kernel
theorem dX6_shifts_41 : decode cX6_shifts 41 = .ok (.dup2, 1) := by decide +kernel
theorem dX6_shifts_42 : decode cX6_shifts 42 = .ok (.iaload, 1) := by decide +kernel
theorem dX6_shifts_43 : decode cX6_shifts 43 = .ok (.iconst 1, 1) := by decide +kernel
theorem dX6_shifts_44 : decode cX6_shifts 44 = .ok (.iadd, 1) := by decide +kernel
theorem dX6_shifts_45 : decode cX6_shifts 45 = .ok (.iastore, 1) := by decide +kernel
theorem dX6_shifts_46 : decode cX6_shifts 46 = .ok (.iload 5, 2) := by decide +kernel
theorem dX6_shifts_48 : decode cX6_shifts 48 = .ok (.invokestatic 72, 3) := by decide +kernel
theorem dX6_shifts_51 : decode cX6_shifts 51 = .ok (.ifCond .eq 17, 3) := by decide +kernel
theorem dX6_shifts_54 : decode cX6_shifts 54 = .ok (.aload_n 0, 1) := by decide +kernel
theorem dX6_shifts_55 : decode cX6_shifts 55 = .ok (.iload 6, 2) := by decide +kernel
theorem dX6_shifts_57 : decode cX6_shifts 57 = .ok (.iload 5, 2) := by decide +kernel
theorem dX6_shifts_59 : decode cX6_shifts 59 = .ok (.iadd, 1) := by decide +kernel
theorem dX6_shifts_60 : decode cX6_shifts 60 = .ok (.iaload, 1) := by decide +kernel
theorem dX6_shifts_61 : decode cX6_shifts 61 = .ok (.ifCond .le 7, 3) := by decide +kernel
theorem dX6_shifts_64 : decode cX6_shifts 64 = .ok (.iconst 1, 1) := by decide +kernel
theorem dX6_shifts_65 : decode cX6_shifts 65 = .ok (.goto 4, 3) := by decide +kernel
theorem dX6_shifts_68 : decode cX6_shifts 68 = .ok (.iconst 0, 1) := by decide +kernel
theorem dX6_shifts_69 : decode cX6_shifts 69 = .ok (.istore 7, 2) := by decide +kernel
theorem dX6_shifts_71 : decode cX6_shifts 71 = .ok (.aload_n 0, 1) := by decide +kernel
theorem dX6_shifts_72 : decode cX6_shifts 72 = .ok (.iload 6, 2) := by decide +kernel
theorem dX6_shifts_74 : decode cX6_shifts 74 = .ok (.iload 5, 2) := by decide +kernel
theorem dX6_shifts_76 : decode cX6_shifts 76 = .ok (.iadd, 1) := by decide +kernel
theorem dX6_shifts_77 : decode cX6_shifts 77 = .ok (.dup2, 1) := by decide +kernel
theorem dX6_shifts_78 : decode cX6_shifts 78 = .ok (.iaload, 1) := by decide +kernel
theorem dX6_shifts_79 : decode cX6_shifts 79 = .ok (.iload 7, 2) := by decide +kernel
theorem dX6_shifts_81 : decode cX6_shifts 81 = .ok (.isub, 1) := by decide +kernel
theorem dX6_shifts_82 : decode cX6_shifts 82 = .ok (.iastore, 1) := by decide +kernel
theorem dX6_shifts_83 : decode cX6_shifts 83 = .ok (.aload_n 0, 1) := by decide +kernel
theorem dX6_shifts_84 : decode cX6_shifts 84 = .ok (.iload 6, 2) := by decide +kernel
theorem dX6_shifts_86 : decode cX6_shifts 86 = .ok (.dup2, 1) := by decide +kernel
theorem dX6_shifts_87 : decode cX6_shifts 87 = .ok (.iaload, 1) := by decide +kernel
theorem dX6_shifts_88 : decode cX6_shifts 88 = .ok (.iload 7, 2) := by decide +kernel
theorem dX6_shifts_90 : decode cX6_shifts 90 = .ok (.iadd, 1) := by decide +kernel
theorem dX6_shifts_91 : decode cX6_shifts 91 = .ok (.iastore, 1) := by decide +kernel
theorem dX6_shifts_92 : decode cX6_shifts 92 = .ok (.iload 7, 2) := by decide +kernel
theorem dX6_shifts_94 : decode cX6_shifts 94 = .ok (.ireturn, 1) := by decide +kernel
theorem dX6_progressOf_0 : decode cX6_progressOf 0 = .ok (.iconst 0, 1) := by decide +kernel
theorem dX6_progressOf_1 : decode cX6_progressOf 1 = .ok (.istore 4, 2) := by decide +kernel
theorem dX6_progressOf_3 : decode cX6_progressOf 3 = .ok (.iconst 0, 1) := by decide +kernel
theorem dX6_progressOf_4 : decode cX6_progressOf 4 = .ok (.istore 5, 2) := by decide +kernel
theorem dX6_progressOf_6 : decode cX6_progressOf 6 = .ok (.iload 5, 2) := by decide +kernel
theorem dX6_progressOf_8 : decode cX6_progressOf 8 = .ok (.bipush 15, 2) := by decide +kernel
theorem dX6_progressOf_10 : decode cX6_progressOf 10 = .ok (.if_icmp .gt 28, 3) := by decide +kernel
theorem dX6_progressOf_13 : decode cX6_progressOf 13 = .ok (.iload 4, 2) := by decide +kernel
theorem dX6_progressOf_15 : decode cX6_progressOf 15 = .ok (.iload 5, 2) := by decide +kernel
theorem dX6_progressOf_17 : decode cX6_progressOf 17 = .ok (.aload_n 1, 1) := by decide +kernel
theorem dX6_progressOf_18 : decode cX6_progressOf 18 = .ok (.iload_n 2, 1) := by decide +kernel
theorem dX6_progressOf_19 : decode cX6_progressOf 19 = .ok (.bipush 16, 2) := by decide +kernel
theorem dX6_progressOf_21 : decode cX6_progressOf 21 = .ok (.iload_n 3, 1) := by decide +kernel
theorem dX6_progressOf_22 : decode cX6_progressOf 22 = .ok (.imul, 1) := by decide +kernel
theorem dX6_progressOf_23 : decode cX6_progressOf 23 = .ok (.iadd, 1) := by decide +kernel
theorem dX6_progressOf_24 : decode cX6_progressOf 24 = .ok (.iload 5, 2) := by decide +kernel
theorem dX6_progressOf_26 : decode cX6_progressOf 26 = .ok (.iadd, 1) := by decide +kernel
theorem dX6_progressOf_27 : decode cX6_progressOf 27 = .ok (.iaload, 1) := by decide +kernel
theorem dX6_progressOf_28 : decode cX6_progressOf 28 = .ok (.imul, 1) := by decide +kernel
theorem dX6_progressOf_29 : decode cX6_progressOf 29 = .ok (.iadd, 1) := by decide +kernel
theorem dX6_progressOf_30 : decode cX6_progressOf 30 = .ok (.istore 4, 2) := by decide +kernel
theorem dX6_progressOf_32 : decode cX6_progressOf 32 = .ok (.iinc 5 1, 3) := by decide +kernel
theorem dX6_progressOf_35 : decode cX6_progressOf 35 = .ok (.goto (-29), 3) := by decide +kernel
theorem dX6_progressOf_38 : decode cX6_progressOf 38 = .ok (.iload 4, 2) := by decide +kernel
theorem dX6_progressOf_40 : decode cX6_progressOf 40 = .ok (.ireturn, 1) := by decide +kernel
theorem dX6_onlyOne_0 : decode cX6_onlyOne 0 = .ok (.iconst (-1), 1) := by decide +kernel
theorem dX6_onlyOne_1 : decode cX6_onlyOne 1 = .ok (.istore 4, 2) := by decide +kernel
theorem dX6_onlyOne_3 : decode cX6_onlyOne 3 = .ok (.iconst 0, 1) := by decide +kernel
theorem dX6_onlyOne_4 : decode cX6_onlyOne 4 = .ok (.istore 5, 2) := by decide +kernel
theorem dX6_onlyOne_6 : decode cX6_onlyOne 6 = .ok (.iload 5, 2) := by decide +kernel
theorem dX6_onlyOne_8 : decode cX6_onlyOne 8 = .ok (.bipush 15, 2) := by decide +kernel
theorem dX6_onlyOne_10 : decode cX6_onlyOne 10 = .ok (.if_icmp .ge 32, 3) := by decide +kernel
theorem dX6_onlyOne_13 : decode cX6_onlyOne 13 = .ok (.aload_n 1, 1) := by decide +kernel
theorem dX6_onlyOne_14 : decode cX6_onlyOne 14 = .ok (.iload_n 2, 1) := by decide +kernel
theorem dX6_onlyOne_15 : decode cX6_onlyOne 15 = .ok (.bipush 16, 2) := by decide +kernel
theorem dX6_onlyOne_17 : decode cX6_onlyOne 17 = .ok (.iload_n 3, 1) := by decide +kernel
theorem dX6_onlyOne_18 : decode cX6_onlyOne 18 = .ok (.imul, 1) := by decide +kernel
theorem dX6_onlyOne_19 : decode cX6_onlyOne 19 = .ok (.iadd, 1) := by decide +kernel
theorem dX6_onlyOne_20 : decode cX6_onlyOne 20 = .ok (.iload 5, 2) := by decide +kernel
theorem dX6_onlyOne_22 : decode cX6_onlyOne 22 = .ok (.iadd, 1) := by decide +kernel
theorem dX6_onlyOne_23 : decode cX6_onlyOne 23 = .ok (.iaload, 1) := by decide +kernel
theorem dX6_onlyOne_24 : decode cX6_onlyOne 24 = .ok (.ifCond .le 8, 3) := by decide +kernel
theorem dX6_onlyOne_27 : decode cX6_onlyOne 27 = .ok (.iload 5, 2) := by decide +kernel
theorem dX6_onlyOne_29 : decode cX6_onlyOne 29 = .ok (.goto 5, 3) := by decide +kernel
theorem dX6_onlyOne_32 : decode cX6_onlyOne 32 = .ok (.iload 4, 2) := by decide +kernel
theorem dX6_onlyOne_34 : decode cX6_onlyOne 34 = .ok (.istore 4, 2) := by decide +kernel
theorem dX6_onlyOne_36 : decode cX6_onlyOne 36 = .ok (.iinc 5 1, 3) := by decide +kernel
theorem dX6_onlyOne_39 : decode cX6_onlyOne 39 = .ok (.goto (-33), 3) := by decide +kernel
theorem dX6_onlyOne_42 : decode cX6_onlyOne 42 = .ok (.aload_n 1, 1) := by decide +kernel
theorem dX6_onlyOne_43 : decode cX6_onlyOne 43 = .ok (.iload_n 2, 1) := by decide +kernel
theorem dX6_onlyOne_44 : decode cX6_onlyOne 44 = .ok (.bipush 16, 2) := by decide +kernel
theorem dX6_onlyOne_46 : decode cX6_onlyOne 46 = .ok (.iload_n 3, 1) := by decide +kernel
theorem dX6_onlyOne_47 : decode cX6_onlyOne 47 = .ok (.imul, 1) := by decide +kernel
theorem dX6_onlyOne_48 : decode cX6_onlyOne 48 = .ok (.iadd, 1) := by decide +kernel
theorem dX6_onlyOne_49 : decode cX6_onlyOne 49 = .ok (.bipush 15, 2) := by decide +kernel
theorem dX6_onlyOne_51 : decode cX6_onlyOne 51 = .ok (.iadd, 1) := by decide +kernel
theorem dX6_onlyOne_52 : decode cX6_onlyOne 52 = .ok (.iaload, 1) := by decide +kernel
theorem dX6_onlyOne_53 : decode cX6_onlyOne 53 = .ok (.aload_n 0, 1) := by decide +kernel
theorem dX6_onlyOne_54 : decode cX6_onlyOne 54 = .ok (.getfield 90, 3) := by decide +kernel
theorem dX6_onlyOne_57 : decode cX6_onlyOne 57 = .ok (.iconst 1, 1) := by decide +kernel
theorem dX6_onlyOne_58 : decode cX6_onlyOne 58 = .ok (.isub, 1) := by decide +kernel
theorem dX6_onlyOne_59 : decode cX6_onlyOne 59 = .ok (.if_icmp .ne 8, 3) := by decide +kernel
theorem dX6_onlyOne_62 : decode cX6_onlyOne 62 = .ok (.iload 4, 2) := by decide +kernel
theorem dX6_onlyOne_64 : decode cX6_onlyOne 64 = .ok (.goto 4, 3) := by decide +kernel
theorem dX6_onlyOne_67 : decode cX6_onlyOne 67 = .ok (.iconst (-1), 1) := by decide +kernel
theorem dX6_onlyOne_68 : decode cX6_onlyOne 68 = .ok (.ireturn, 1) := by decide +kernel
set_option maxRecDepth 20000 in
theorem ggX6_leaf_X6_onlyOne : GoodIn wsX6_leaf wsX6_onlyOne := goodIn_r _ [10, 11, 16, 17, 18, 19, 20, 21, 22, 23, 24, 25, 26, 27, 28, 29, 30, 31, 32, 33, 34] (by decide +kernel) (by decide +kernel)
set_option maxRecDepth 20000 in
theorem gX6_leaf_X6_onlyOne : GoodIn wsX6_leaf (wsV RX6 93 RX6 yX6_onlyOne wsX6_onlyOne) := goodIn_app (goodIn_of _ (by decide +kernel)) ggX6_leaf_X6_onlyOne
set_option maxRecDepth 20000 in
theorem ggX6_leaf_X6_progressOf : GoodIn wsX6_leaf wsX6_progressOf := goodIn_r _ [15] (by decide +kernel) (by decide +kernel)
set_option maxRecDepth 20000 in
theorem gX6_leaf_X6_progressOf : GoodIn wsX6_leaf (wsV RX6 98 RX6 yX6_progressOf wsX6_progressOf) := goodIn_app (goodIn_of _ (by decide +kernel)) ggX6_leaf_X6_progressOf
theorem dX6_leaf_0 : decode cX6_leaf 0 = .ok (.aload_n 0, 1) := by decide +kernel
theorem dX6_leaf_1 : decode cX6_leaf 1 = .ok (.aload_n 0, 1) := by decide +kernel
theorem dX6_leaf_2 : decode cX6_leaf 2 = .ok (.getfield 35, 3) := by decide +kernel
theorem dX6_leaf_5 : decode cX6_leaf 5 = .ok (.iload_n 1, 1) := by decide +kernel
theorem dX6_leaf_6 : decode cX6_leaf 6 = .ok (.iload_n 2, 1) := by decide +kernel
theorem dX6_leaf_7 : decode cX6_leaf 7 = .ok (.invokevirtual 93, 3) := by decide +kernel
theorem dX6_leaf_10 : decode cX6_leaf 10 = .ok (.istore_n 3, 1) := by decide +kernel
theorem dX6_leaf_11 : decode cX6_leaf 11 = .ok (.aload_n 0, 1) := by decide +kernel
theorem dX6_leaf_12 : decode cX6_leaf 12 = .ok (.aload_n 0, 1) := by decide +kernel
theorem dX6_leaf_13 : decode cX6_leaf 13 = .ok (.getfield 35, 3) := by decide +kernel
theorem dX6_leaf_16 : decode cX6_leaf 16 = .ok (.iload_n 1, 1) := by decide +kernel
theorem dX6_leaf_17 : decode cX6_leaf 17 = .ok (.iconst 1, 1) := by decide +kernel
theorem dX6_leaf_18 : decode cX6_leaf 18 = .ok (.iload_n 2, 1) := by decide +kernel
theorem dX6_leaf_19 : decode cX6_leaf 19 = .ok (.isub, 1) := by decide +kernel
theorem dX6_leaf_20 : decode cX6_leaf 20 = .ok (.invokevirtual 93, 3) := by decide +kernel
theorem dX6_leaf_23 : decode cX6_leaf 23 = .ok (.istore 4, 2) := by decide +kernel
theorem dX6_leaf_25 : decode cX6_leaf 25 = .ok (.iload_n 3, 1) := by decide +kernel
theorem dX6_leaf_26 : decode cX6_leaf 26 = .ok (.iconst (-1), 1) := by decide +kernel
theorem dX6_leaf_27 : decode cX6_leaf 27 = .ok (.if_icmp .eq 22, 3) := by decide +kernel
theorem dX6_leaf_30 : decode cX6_leaf 30 = .ok (.iload 4, 2) := by decide +kernel
theorem dX6_leaf_32 : decode cX6_leaf 32 = .ok (.iconst (-1), 1) := by decide +kernel
theorem dX6_leaf_33 : decode cX6_leaf 33 = .ok (.if_icmp .eq 16, 3) := by decide +kernel
theorem dX6_leaf_36 : decode cX6_leaf 36 = .ok (.aload_n 0, 1) := by decide +kernel
theorem dX6_leaf_37 : decode cX6_leaf 37 = .ok (.getfield 32, 3) := by decide +kernel
theorem dX6_leaf_40 : decode cX6_leaf 40 = .ok (.bipush 15, 2) := by decide +kernel
theorem dX6_leaf_42 : decode cX6_leaf 42 = .ok (.iload_n 3, 1) := by decide +kernel
theorem dX6_leaf_43 : decode cX6_leaf 43 = .ok (.imul, 1) := by decide +kernel
theorem dX6_leaf_44 : decode cX6_leaf 44 = .ok (.iload 4, 2) := by decide +kernel
theorem dX6_leaf_46 : decode cX6_leaf 46 = .ok (.iadd, 1) := by decide +kernel
theorem dX6_leaf_47 : decode cX6_leaf 47 = .ok (.iaload, 1) := by decide +kernel
theorem dX6_leaf_48 : decode cX6_leaf 48 = .ok (.ireturn, 1) := by decide +kernel
theorem dX6_leaf_49 : decode cX6_leaf 49 = .ok (.ldc 79, 2) := by decide +kernel
theorem dX6_leaf_51 : decode cX6_leaf 51 = .ok (.ldc 97, 2) := by decide +kernel
theorem dX6_leaf_53 : decode cX6_leaf 53 = .ok (.aload_n 0, 1) := by decide +kernel
theorem dX6_leaf_54 : decode cX6_leaf 54 = .ok (.aload_n 0, 1) := by decide +kernel
theorem dX6_leaf_55 : decode cX6_leaf 55 = .ok (.getfield 35, 3) := by decide +kernel
theorem dX6_leaf_58 : decode cX6_leaf 58 = .ok (.iload_n 1, 1) := by decide +kernel
theorem dX6_leaf_59 : decode cX6_leaf 59 = .ok (.iload_n 2, 1) := by decide +kernel
theorem dX6_leaf_60 : decode cX6_leaf 60 = .ok (.invokevirtual 98, 3) := by decide +kernel
theorem dX6_leaf_63 : decode cX6_leaf 63 = .ok (.aload_n 0, 1) := by decide +kernel
theorem dX6_leaf_64 : decode cX6_leaf 64 = .ok (.aload_n 0, 1) := by decide +kernel
theorem dX6_leaf_65 : decode cX6_leaf 65 = .ok (.getfield 35, 3) := by decide +kernel
theorem dX6_leaf_68 : decode cX6_leaf 68 = .ok (.iload_n 1, 1) := by decide +kernel
theorem dX6_leaf_69 : decode cX6_leaf 69 = .ok (.iconst 1, 1) := by decide +kernel
theorem dX6_leaf_70 : decode cX6_leaf 70 = .ok (.iload_n 2, 1) := by decide +kernel
theorem dX6_leaf_71 : decode cX6_leaf 71 = .ok (.isub, 1) := by decide +kernel
theorem dX6_leaf_72 : decode cX6_leaf 72 = .ok (.invokevirtual 98, 3) := by decide +kernel
theorem dX6_leaf_75 : decode cX6_leaf 75 = .ok (.isub, 1) := by decide +kernel
theorem dX6_leaf_76 : decode cX6_leaf 76 = .ok (.imul, 1) := by decide +kernel
theorem dX6_leaf_77 : decode cX6_leaf 77 = .ok (.iadd, 1) := by decide +kernel
theorem dX6_leaf_78 : decode cX6_leaf 78 = .ok (.istore 5, 2) := by decide +kernel
theorem dX6_leaf_80 : decode cX6_leaf 80 = .ok (.iload 5, 2) := by decide +kernel
theorem dX6_leaf_82 : decode cX6_leaf 82 = .ok (.iconst 1, 1) := by decide +kernel
theorem dX6_leaf_83 : decode cX6_leaf 83 = .ok (.if_icmp .ge 7, 3) := by decide +kernel
theorem dX6_leaf_86 : decode cX6_leaf 86 = .ok (.iconst 1, 1) := by decide +kernel
theorem dX6_leaf_87 : decode cX6_leaf 87 = .ok (.goto 17, 3) := by decide +kernel
theorem dX6_leaf_90 : decode cX6_leaf 90 = .ok (.iload 5, 2) := by decide +kernel
theorem dX6_leaf_92 : decode cX6_leaf 92 = .ok (.ldc 101, 2) := by decide +kernel
theorem dX6_leaf_94 : decode cX6_leaf 94 = .ok (.if_icmp .le 8, 3) := by decide +kernel
theorem dX6_leaf_97 : decode cX6_leaf 97 = .ok (.ldc 101, 2) := by decide +kernel
theorem dX6_leaf_99 : decode cX6_leaf 99 = .ok (.goto 5, 3) := by decide +kernel
theorem dX6_leaf_102 : decode cX6_leaf 102 = .ok (.iload 5, 2) := by decide +kernel
theorem dX6_leaf_104 : decode cX6_leaf 104 = .ok (.ireturn, 1) := by decide +kernel
theorem dX6_enters_0 : decode cX6_enters 0 = .ok (.aload_n 0, 1) := by decide +kernel
theorem dX6_enters_1 : decode cX6_enters 1 = .ok (.getfield 38, 3) := by decide +kernel
theorem dX6_enters_4 : decode cX6_enters 4 = .ok (.iload_n 1, 1) := by decide +kernel
theorem dX6_enters_5 : decode cX6_enters 5 = .ok (.iload_n 2, 1) := by decide +kernel
theorem dX6_enters_6 : decode cX6_enters 6 = .ok (.iastore, 1) := by decide +kernel
theorem dX6_enters_7 : decode cX6_enters 7 = .ok (.aload_n 0, 1) := by decide +kernel
theorem dX6_enters_8 : decode cX6_enters 8 = .ok (.getfield 41, 3) := by decide +kernel
theorem dX6_enters_11 : decode cX6_enters 11 = .ok (.iload_n 1, 1) := by decide +kernel
theorem dX6_enters_12 : decode cX6_enters 12 = .ok (.iconst 0, 1) := by decide +kernel
theorem dX6_enters_13 : decode cX6_enters 13 = .ok (.iastore, 1) := by decide +kernel
theorem dX6_enters_14 : decode cX6_enters 14 = .ok (.aload_n 0, 1) := by decide +kernel
theorem dX6_enters_15 : decode cX6_enters 15 = .ok (.getfield 44, 3) := by decide +kernel
theorem dX6_enters_18 : decode cX6_enters 18 = .ok (.iload_n 1, 1) := by decide +kernel
theorem dX6_enters_19 : decode cX6_enters 19 = .ok (.iconst 0, 1) := by decide +kernel
theorem dX6_enters_20 : decode cX6_enters 20 = .ok (.iastore, 1) := by decide +kernel
theorem dX6_enters_21 : decode cX6_enters 21 = .ok (.aload_n 0, 1) := by decide +kernel
theorem dX6_enters_22 : decode cX6_enters 22 = .ok (.getfield 47, 3) := by decide +kernel
theorem dX6_enters_25 : decode cX6_enters 25 = .ok (.iload_n 1, 1) := by decide +kernel
theorem dX6_enters_26 : decode cX6_enters 26 = .ok (.iconst (-1), 1) := by decide +kernel
theorem dX6_enters_27 : decode cX6_enters 27 = .ok (.iastore, 1) := by decide +kernel
theorem dX6_enters_28 : decode cX6_enters 28 = .ok (.aload_n 0, 1) := by decide +kernel
theorem dX6_enters_29 : decode cX6_enters 29 = .ok (.getfield 50, 3) := by decide +kernel
theorem dX6_enters_32 : decode cX6_enters 32 = .ok (.iload_n 1, 1) := by decide +kernel
theorem dX6_enters_33 : decode cX6_enters 33 = .ok (.lconst 0, 1) := by decide +kernel
theorem dX6_enters_34 : decode cX6_enters 34 = .ok (.lastore, 1) := by decide +kernel
theorem dX6_enters_35 : decode cX6_enters 35 = .ok (.return_, 1) := by decide +kernel
theorem dX6_copies_0 : decode cX6_copies 0 = .ok (.iconst 0, 1) := by decide +kernel
theorem dX6_copies_1 : decode cX6_copies 1 = .ok (.istore_n 2, 1) := by decide +kernel
theorem dX6_copies_2 : decode cX6_copies 2 = .ok (.iload_n 2, 1) := by decide +kernel
theorem dX6_copies_3 : decode cX6_copies 3 = .ok (.bipush 32, 2) := by decide +kernel
theorem dX6_copies_5 : decode cX6_copies 5 = .ok (.if_icmp .ge 34, 3) := by decide +kernel
theorem dX6_copies_8 : decode cX6_copies 8 = .ok (.aload_n 0, 1) := by decide +kernel
theorem dX6_copies_9 : decode cX6_copies 9 = .ok (.getfield 35, 3) := by decide +kernel
theorem dX6_copies_12 : decode cX6_copies 12 = .ok (.bipush 32, 2) := by decide +kernel
theorem dX6_copies_14 : decode cX6_copies 14 = .ok (.iload_n 1, 1) := by decide +kernel
theorem dX6_copies_15 : decode cX6_copies 15 = .ok (.imul, 1) := by decide +kernel
theorem dX6_copies_16 : decode cX6_copies 16 = .ok (.bipush 32, 2) := by decide +kernel
theorem dX6_copies_18 : decode cX6_copies 18 = .ok (.iadd, 1) := by decide +kernel
theorem dX6_copies_19 : decode cX6_copies 19 = .ok (.iload_n 2, 1) := by decide +kernel
theorem dX6_copies_20 : decode cX6_copies 20 = .ok (.iadd, 1) := by decide +kernel
theorem dX6_copies_21 : decode cX6_copies 21 = .ok (.aload_n 0, 1) := by decide +kernel
theorem dX6_copies_22 : decode cX6_copies 22 = .ok (.getfield 35, 3) := by decide +kernel
theorem dX6_copies_25 : decode cX6_copies 25 = .ok (.bipush 32, 2) := by decide +kernel
theorem dX6_copies_27 : decode cX6_copies 27 = .ok (.iload_n 1, 1) := by decide +kernel
theorem dX6_copies_28 : decode cX6_copies 28 = .ok (.imul, 1) := by decide +kernel
theorem dX6_copies_29 : decode cX6_copies 29 = .ok (.iload_n 2, 1) := by decide +kernel
theorem dX6_copies_30 : decode cX6_copies 30 = .ok (.iadd, 1) := by decide +kernel
theorem dX6_copies_31 : decode cX6_copies 31 = .ok (.iaload, 1) := by decide +kernel
theorem dX6_copies_32 : decode cX6_copies 32 = .ok (.iastore, 1) := by decide +kernel
theorem dX6_copies_33 : decode cX6_copies 33 = .ok (.iinc 2 1, 3) := by decide +kernel
theorem dX6_copies_36 : decode cX6_copies 36 = .ok (.goto (-34), 3) := by decide +kernel
theorem dX6_copies_39 : decode cX6_copies 39 = .ok (.return_, 1) := by decide +kernel
theorem dX6_takes_0 : decode cX6_takes 0 = .ok (.aload_n 0, 1) := by decide +kernel
theorem dX6_takes_1 : decode cX6_takes 1 = .ok (.getfield 38, 3) := by decide +kernel
theorem dX6_takes_4 : decode cX6_takes 4 = .ok (.iload_n 1, 1) := by decide +kernel
theorem dX6_takes_5 : decode cX6_takes 5 = .ok (.iaload, 1) := by decide +kernel
theorem dX6_takes_6 : decode cX6_takes 6 = .ok (.iload_n 2, 1) := by decide +kernel
theorem dX6_takes_7 : decode cX6_takes 7 = .ok (.if_icmp .ne 7, 3) := by decide +kernel
theorem dX6_takes_10 : decode cX6_takes 10 = .ok (.iload_n 3, 1) := by decide +kernel
theorem dX6_takes_11 : decode cX6_takes 11 = .ok (.goto 7, 3) := by decide +kernel
theorem dX6_takes_14 : decode cX6_takes 14 = .ok (.ldc 71, 2) := by decide +kernel
theorem dX6_takes_16 : decode cX6_takes 16 = .ok (.iload_n 3, 1) := by decide +kernel
theorem dX6_takes_17 : decode cX6_takes 17 = .ok (.isub, 1) := by decide +kernel
theorem dX6_takes_18 : decode cX6_takes 18 = .ok (.istore 4, 2) := by decide +kernel
theorem dX6_takes_20 : decode cX6_takes 20 = .ok (.aload_n 0, 1) := by decide +kernel
theorem dX6_takes_21 : decode cX6_takes 21 = .ok (.getfield 47, 3) := by decide +kernel
theorem dX6_takes_24 : decode cX6_takes 24 = .ok (.iload_n 1, 1) := by decide +kernel
theorem dX6_takes_25 : decode cX6_takes 25 = .ok (.iload 4, 2) := by decide +kernel
theorem dX6_takes_27 : decode cX6_takes 27 = .ok (.aload_n 0, 1) := by decide +kernel
theorem dX6_takes_28 : decode cX6_takes 28 = .ok (.getfield 47, 3) := by decide +kernel
theorem dX6_takes_31 : decode cX6_takes 31 = .ok (.iload_n 1, 1) := by decide +kernel
theorem dX6_takes_32 : decode cX6_takes 32 = .ok (.iaload, 1) := by decide +kernel
theorem dX6_takes_33 : decode cX6_takes 33 = .ok (.if_icmp .le 8, 3) := by decide +kernel
theorem dX6_takes_36 : decode cX6_takes 36 = .ok (.iload 4, 2) := by decide +kernel
theorem dX6_takes_38 : decode cX6_takes 38 = .ok (.goto 9, 3) := by decide +kernel
theorem dX6_takes_41 : decode cX6_takes 41 = .ok (.aload_n 0, 1) := by decide +kernel
theorem dX6_takes_42 : decode cX6_takes 42 = .ok (.getfield 47, 3) := by decide +kernel
theorem dX6_takes_45 : decode cX6_takes 45 = .ok (.iload_n 1, 1) := by decide +kernel
theorem dX6_takes_46 : decode cX6_takes 46 = .ok (.iaload, 1) := by decide +kernel
theorem dX6_takes_47 : decode cX6_takes 47 = .ok (.iastore, 1) := by decide +kernel
theorem dX6_takes_48 : decode cX6_takes 48 = .ok (.return_, 1) := by decide +kernel
set_option maxRecDepth 20000 in
theorem ggX6_goesOn_X6_canMove : GoodIn wsX6_goesOn wsX6_canMove := goodIn_r _ [11] (by decide +kernel) (by decide +kernel)
set_option maxRecDepth 20000 in
theorem gX6_goesOn_X6_canMove : GoodIn wsX6_goesOn (va_wsS RX6 102 yX6_canMove wsX6_canMove) := goodIn_app (goodIn_of _ (by decide +kernel)) ggX6_goesOn_X6_canMove
set_option maxRecDepth 20000 in
theorem ggX6_goesOn_X6_copies : GoodIn wsX6_goesOn wsX6_copies := goodIn_r _ [15, 3, 33, 34, 35, 36, 37, 38, 39, 40, 41, 42, 43, 44, 45, 46, 47, 48, 49, 50, 51] (by decide +kernel) (by decide +kernel)
set_option maxRecDepth 20000 in
theorem gX6_goesOn_X6_copies : GoodIn wsX6_goesOn (wsV RX6 106 RX6 yX6_copies wsX6_copies) := goodIn_app (goodIn_of _ (by decide +kernel)) ggX6_goesOn_X6_copies
set_option maxRecDepth 20000 in
theorem ggX6_goesOn_X6_shifts : GoodIn wsX6_goesOn wsX6_shifts := goodIn_r _ [18, 19, 20, 10, 21, 22, 23, 24] (by decide +kernel) (by decide +kernel)
set_option maxRecDepth 20000 in
theorem gX6_goesOn_X6_shifts : GoodIn wsX6_goesOn (va_wsS RX6 109 yX6_shifts wsX6_shifts) := goodIn_app (goodIn_of _ (by decide +kernel)) ggX6_goesOn_X6_shifts
set_option maxRecDepth 20000 in
theorem ggX6_goesOn_X6_isRosette : GoodIn wsX6_goesOn wsX6_isRosette := goodIn_r _ [27] (by decide +kernel) (by decide +kernel)
set_option maxRecDepth 20000 in
theorem gX6_goesOn_X6_isRosette : GoodIn wsX6_goesOn (va_wsS RX6 76 yX6_isRosette wsX6_isRosette) := goodIn_app (goodIn_of _ (by decide +kernel)) ggX6_goesOn_X6_isRosette
set_option maxRecDepth 20000 in
theorem ggX6_goesOn_X6_enters : GoodIn wsX6_goesOn wsX6_enters := goodIn_r _ [31, 1, 4, 2, 6, 32, 33, 34, 35, 36, 37, 38, 39, 40, 41, 42, 43, 44, 45, 46, 47, 48, 49, 50, 51] (by decide +kernel) (by decide +kernel)
set_option maxRecDepth 20000 in
theorem gX6_goesOn_X6_enters : GoodIn wsX6_goesOn (wsV RX6 113 RX6 yX6_enters wsX6_enters) := goodIn_app (goodIn_of _ (by decide +kernel)) ggX6_goesOn_X6_enters
theorem dX6_goesOn_0 : decode cX6_goesOn 0 = .ok (.bipush 32, 2) := by decide +kernel
theorem dX6_goesOn_2 : decode cX6_goesOn 2 = .ok (.iload_n 1, 1) := by decide +kernel
theorem dX6_goesOn_3 : decode cX6_goesOn 3 = .ok (.imul, 1) := by decide +kernel
theorem dX6_goesOn_4 : decode cX6_goesOn 4 = .ok (.istore_n 2, 1) := by decide +kernel
theorem dX6_goesOn_5 : decode cX6_goesOn 5 = .ok (.aload_n 0, 1) := by decide +kernel
theorem dX6_goesOn_6 : decode cX6_goesOn 6 = .ok (.getfield 38, 3) := by decide +kernel
theorem dX6_goesOn_9 : decode cX6_goesOn 9 = .ok (.iload_n 1, 1) := by decide +kernel
theorem dX6_goesOn_10 : decode cX6_goesOn 10 = .ok (.iaload, 1) := by decide +kernel
theorem dX6_goesOn_11 : decode cX6_goesOn 11 = .ok (.istore_n 3, 1) := by decide +kernel
theorem dX6_goesOn_12 : decode cX6_goesOn 12 = .ok (.aload_n 0, 1) := by decide +kernel
theorem dX6_goesOn_13 : decode cX6_goesOn 13 = .ok (.getfield 44, 3) := by decide +kernel
theorem dX6_goesOn_16 : decode cX6_goesOn 16 = .ok (.iload_n 1, 1) := by decide +kernel
theorem dX6_goesOn_17 : decode cX6_goesOn 17 = .ok (.iaload, 1) := by decide +kernel
theorem dX6_goesOn_18 : decode cX6_goesOn 18 = .ok (.bipush 15, 2) := by decide +kernel
theorem dX6_goesOn_20 : decode cX6_goesOn 20 = .ok (.if_icmp .ge 134, 3) := by decide +kernel
theorem dX6_goesOn_23 : decode cX6_goesOn 23 = .ok (.aload_n 0, 1) := by decide +kernel
theorem dX6_goesOn_24 : decode cX6_goesOn 24 = .ok (.getfield 44, 3) := by decide +kernel
theorem dX6_goesOn_27 : decode cX6_goesOn 27 = .ok (.iload_n 1, 1) := by decide +kernel
theorem dX6_goesOn_28 : decode cX6_goesOn 28 = .ok (.iaload, 1) := by decide +kernel
theorem dX6_goesOn_29 : decode cX6_goesOn 29 = .ok (.istore 4, 2) := by decide +kernel
theorem dX6_goesOn_31 : decode cX6_goesOn 31 = .ok (.aload_n 0, 1) := by decide +kernel
theorem dX6_goesOn_32 : decode cX6_goesOn 32 = .ok (.getfield 44, 3) := by decide +kernel
theorem dX6_goesOn_35 : decode cX6_goesOn 35 = .ok (.iload_n 1, 1) := by decide +kernel
theorem dX6_goesOn_36 : decode cX6_goesOn 36 = .ok (.dup2, 1) := by decide +kernel
theorem dX6_goesOn_37 : decode cX6_goesOn 37 = .ok (.iaload, 1) := by decide +kernel
theorem dX6_goesOn_38 : decode cX6_goesOn 38 = .ok (.iconst 1, 1) := by decide +kernel
theorem dX6_goesOn_39 : decode cX6_goesOn 39 = .ok (.iadd, 1) := by decide +kernel
theorem dX6_goesOn_40 : decode cX6_goesOn 40 = .ok (.iastore, 1) := by decide +kernel
theorem dX6_goesOn_41 : decode cX6_goesOn 41 = .ok (.aload_n 0, 1) := by decide +kernel
theorem dX6_goesOn_42 : decode cX6_goesOn 42 = .ok (.getfield 35, 3) := by decide +kernel
theorem dX6_goesOn_45 : decode cX6_goesOn 45 = .ok (.iload_n 2, 1) := by decide +kernel
theorem dX6_goesOn_46 : decode cX6_goesOn 46 = .ok (.iload_n 3, 1) := by decide +kernel
theorem dX6_goesOn_47 : decode cX6_goesOn 47 = .ok (.iload 4, 2) := by decide +kernel
theorem dX6_goesOn_49 : decode cX6_goesOn 49 = .ok (.aload_n 0, 1) := by decide +kernel
theorem dX6_goesOn_50 : decode cX6_goesOn 50 = .ok (.getfield 41, 3) := by decide +kernel
theorem dX6_goesOn_53 : decode cX6_goesOn 53 = .ok (.iload_n 1, 1) := by decide +kernel
theorem dX6_goesOn_54 : decode cX6_goesOn 54 = .ok (.iaload, 1) := by decide +kernel
theorem dX6_goesOn_55 : decode cX6_goesOn 55 = .ok (.invokestatic 102, 3) := by decide +kernel
theorem dX6_goesOn_58 : decode cX6_goesOn 58 = .ok (.ifCond .eq 93, 3) := by decide +kernel
theorem dX6_goesOn_61 : decode cX6_goesOn 61 = .ok (.aload_n 0, 1) := by decide +kernel
theorem dX6_goesOn_62 : decode cX6_goesOn 62 = .ok (.iload_n 1, 1) := by decide +kernel
theorem dX6_goesOn_63 : decode cX6_goesOn 63 = .ok (.invokevirtual 106, 3) := by decide +kernel
theorem dX6_goesOn_66 : decode cX6_goesOn 66 = .ok (.aload_n 0, 1) := by decide +kernel
theorem dX6_goesOn_67 : decode cX6_goesOn 67 = .ok (.getfield 35, 3) := by decide +kernel
theorem dX6_goesOn_70 : decode cX6_goesOn 70 = .ok (.iload_n 2, 1) := by decide +kernel
theorem dX6_goesOn_71 : decode cX6_goesOn 71 = .ok (.bipush 32, 2) := by decide +kernel
theorem dX6_goesOn_73 : decode cX6_goesOn 73 = .ok (.iadd, 1) := by decide +kernel
theorem dX6_goesOn_74 : decode cX6_goesOn 74 = .ok (.iload_n 3, 1) := by decide +kernel
theorem dX6_goesOn_75 : decode cX6_goesOn 75 = .ok (.iload 4, 2) := by decide +kernel
theorem dX6_goesOn_77 : decode cX6_goesOn 77 = .ok (.aload_n 0, 1) := by decide +kernel
theorem dX6_goesOn_78 : decode cX6_goesOn 78 = .ok (.getfield 41, 3) := by decide +kernel
theorem dX6_goesOn_81 : decode cX6_goesOn 81 = .ok (.iload_n 1, 1) := by decide +kernel
theorem dX6_goesOn_82 : decode cX6_goesOn 82 = .ok (.iaload, 1) := by decide +kernel
theorem dX6_goesOn_83 : decode cX6_goesOn 83 = .ok (.invokestatic 109, 3) := by decide +kernel
theorem dX6_goesOn_86 : decode cX6_goesOn 86 = .ok (.istore 5, 2) := by decide +kernel
theorem dX6_goesOn_88 : decode cX6_goesOn 88 = .ok (.aload_n 0, 1) := by decide +kernel
theorem dX6_goesOn_89 : decode cX6_goesOn 89 = .ok (.getfield 35, 3) := by decide +kernel
theorem dX6_goesOn_92 : decode cX6_goesOn 92 = .ok (.iload_n 2, 1) := by decide +kernel
theorem dX6_goesOn_93 : decode cX6_goesOn 93 = .ok (.bipush 32, 2) := by decide +kernel
theorem dX6_goesOn_95 : decode cX6_goesOn 95 = .ok (.iadd, 1) := by decide +kernel
theorem dX6_goesOn_96 : decode cX6_goesOn 96 = .ok (.bipush 16, 2) := by decide +kernel
theorem dX6_goesOn_98 : decode cX6_goesOn 98 = .ok (.iload_n 3, 1) := by decide +kernel
theorem dX6_goesOn_99 : decode cX6_goesOn 99 = .ok (.imul, 1) := by decide +kernel
theorem dX6_goesOn_100 : decode cX6_goesOn 100 = .ok (.iadd, 1) := by decide +kernel
theorem dX6_goesOn_101 : decode cX6_goesOn 101 = .ok (.bipush 15, 2) := by decide +kernel
theorem dX6_goesOn_103 : decode cX6_goesOn 103 = .ok (.iadd, 1) := by decide +kernel
theorem dX6_goesOn_104 : decode cX6_goesOn 104 = .ok (.iaload, 1) := by decide +kernel
theorem dX6_goesOn_105 : decode cX6_goesOn 105 = .ok (.aload_n 0, 1) := by decide +kernel
theorem dX6_goesOn_106 : decode cX6_goesOn 106 = .ok (.getfield 90, 3) := by decide +kernel
theorem dX6_goesOn_109 : decode cX6_goesOn 109 = .ok (.if_icmp .ge 34, 3) := by decide +kernel
theorem dX6_goesOn_112 : decode cX6_goesOn 112 = .ok (.aload_n 0, 1) := by decide +kernel
theorem dX6_goesOn_113 : decode cX6_goesOn 113 = .ok (.iload_n 1, 1) := by decide +kernel
theorem dX6_goesOn_114 : decode cX6_goesOn 114 = .ok (.iconst 1, 1) := by decide +kernel
theorem dX6_goesOn_115 : decode cX6_goesOn 115 = .ok (.iadd, 1) := by decide +kernel
theorem dX6_goesOn_116 : decode cX6_goesOn 116 = .ok (.iload 4, 2) := by decide +kernel
theorem dX6_goesOn_118 : decode cX6_goesOn 118 = .ok (.aload_n 0, 1) := by decide +kernel
theorem dX6_goesOn_119 : decode cX6_goesOn 119 = .ok (.getfield 41, 3) := by decide +kernel
theorem dX6_goesOn_122 : decode cX6_goesOn 122 = .ok (.iload_n 1, 1) := by decide +kernel
theorem dX6_goesOn_123 : decode cX6_goesOn 123 = .ok (.iaload, 1) := by decide +kernel
theorem dX6_goesOn_124 : decode cX6_goesOn 124 = .ok (.iadd, 1) := by decide +kernel
theorem dX6_goesOn_125 : decode cX6_goesOn 125 = .ok (.invokestatic 76, 3) := by decide +kernel
theorem dX6_goesOn_128 : decode cX6_goesOn 128 = .ok (.ifCond .eq 7, 3) := by decide +kernel
theorem dX6_goesOn_131 : decode cX6_goesOn 131 = .ok (.iload_n 3, 1) := by decide +kernel
theorem dX6_goesOn_132 : decode cX6_goesOn 132 = .ok (.goto 6, 3) := by decide +kernel
theorem dX6_goesOn_135 : decode cX6_goesOn 135 = .ok (.iconst 1, 1) := by decide +kernel
theorem dX6_goesOn_136 : decode cX6_goesOn 136 = .ok (.iload_n 3, 1) := by decide +kernel
theorem dX6_goesOn_137 : decode cX6_goesOn 137 = .ok (.isub, 1) := by decide +kernel
theorem dX6_goesOn_138 : decode cX6_goesOn 138 = .ok (.invokevirtual 113, 3) := by decide +kernel
theorem dX6_goesOn_141 : decode cX6_goesOn 141 = .ok (.iconst 1, 1) := by decide +kernel
theorem dX6_goesOn_142 : decode cX6_goesOn 142 = .ok (.ireturn, 1) := by decide +kernel
theorem dX6_goesOn_143 : decode cX6_goesOn 143 = .ok (.aload_n 0, 1) := by decide +kernel
theorem dX6_goesOn_144 : decode cX6_goesOn 144 = .ok (.getfield 47, 3) := by decide +kernel
theorem dX6_goesOn_147 : decode cX6_goesOn 147 = .ok (.iload_n 1, 1) := by decide +kernel
theorem dX6_goesOn_148 : decode cX6_goesOn 148 = .ok (.ldc 71, 2) := by decide +kernel
theorem dX6_goesOn_150 : decode cX6_goesOn 150 = .ok (.iastore, 1) := by decide +kernel
theorem dX6_goesOn_151 : decode cX6_goesOn 151 = .ok (.goto (-139), 3) := by decide +kernel
theorem dX6_goesOn_154 : decode cX6_goesOn 154 = .ok (.aload_n 0, 1) := by decide +kernel
theorem dX6_goesOn_155 : decode cX6_goesOn 155 = .ok (.getfield 47, 3) := by decide +kernel
theorem dX6_goesOn_158 : decode cX6_goesOn 158 = .ok (.iload_n 1, 1) := by decide +kernel
theorem dX6_goesOn_159 : decode cX6_goesOn 159 = .ok (.iaload, 1) := by decide +kernel
theorem dX6_goesOn_160 : decode cX6_goesOn 160 = .ok (.iconst (-1), 1) := by decide +kernel
theorem dX6_goesOn_161 : decode cX6_goesOn 161 = .ok (.if_icmp .ne 20, 3) := by decide +kernel
theorem dX6_goesOn_164 : decode cX6_goesOn 164 = .ok (.aload_n 0, 1) := by decide +kernel
theorem dX6_goesOn_165 : decode cX6_goesOn 165 = .ok (.iload_n 1, 1) := by decide +kernel
theorem dX6_goesOn_166 : decode cX6_goesOn 166 = .ok (.invokevirtual 106, 3) := by decide +kernel
theorem dX6_goesOn_169 : decode cX6_goesOn 169 = .ok (.aload_n 0, 1) := by decide +kernel
theorem dX6_goesOn_170 : decode cX6_goesOn 170 = .ok (.iload_n 1, 1) := by decide +kernel
theorem dX6_goesOn_171 : decode cX6_goesOn 171 = .ok (.iconst 1, 1) := by decide +kernel
theorem dX6_goesOn_172 : decode cX6_goesOn 172 = .ok (.iadd, 1) := by decide +kernel
theorem dX6_goesOn_173 : decode cX6_goesOn 173 = .ok (.iconst 1, 1) := by decide +kernel
theorem dX6_goesOn_174 : decode cX6_goesOn 174 = .ok (.iload_n 3, 1) := by decide +kernel
theorem dX6_goesOn_175 : decode cX6_goesOn 175 = .ok (.isub, 1) := by decide +kernel
theorem dX6_goesOn_176 : decode cX6_goesOn 176 = .ok (.invokevirtual 113, 3) := by decide +kernel
theorem dX6_goesOn_179 : decode cX6_goesOn 179 = .ok (.iconst 1, 1) := by decide +kernel
theorem dX6_goesOn_180 : decode cX6_goesOn 180 = .ok (.ireturn, 1) := by decide +kernel
theorem dX6_goesOn_181 : decode cX6_goesOn 181 = .ok (.iconst 0, 1) := by decide +kernel
theorem dX6_goesOn_182 : decode cX6_goesOn 182 = .ok (.ireturn, 1) := by decide +kernel
set_option maxRecDepth 20000 in
theorem ggX6_worthOf_X6_enters : GoodIn wsX6_worthOf wsX6_enters := goodIn_r _ [12, 1, 4, 6, 5, 2, 59, 60, 61, 62, 63, 64, 65, 66, 67, 68, 69, 70, 71, 72, 73, 74, 75, 76, 77] (by decide +kernel) (by decide +kernel)
set_option maxRecDepth 20000 in
theorem gX6_worthOf_X6_enters : GoodIn wsX6_worthOf (wsV RX6 113 RX6 yX6_enters wsX6_enters) := goodIn_app (goodIn_of _ (by decide +kernel)) ggX6_worthOf_X6_enters
set_option maxRecDepth 20000 in
theorem ggX6_worthOf_X6_leaf : GoodIn wsX6_worthOf wsX6_leaf := goodIn_r _ [16, 17, 18, 19, 20, 21, 22, 23, 24, 11, 25, 26, 27, 28, 29, 30, 59, 60, 61, 62, 63, 64, 65, 66, 67, 68, 69, 70, 71, 72, 73, 74, 75, 76, 77] (by decide +kernel) (by decide +kernel)
set_option maxRecDepth 20000 in
theorem gX6_worthOf_X6_leaf : GoodIn wsX6_worthOf (wsV RX6 117 RX6 yX6_leaf wsX6_leaf) := goodIn_app (goodIn_of _ (by decide +kernel)) ggX6_worthOf_X6_leaf
set_option maxRecDepth 20000 in
theorem ggX6_worthOf_X6_goesOn : GoodIn wsX6_worthOf wsX6_goesOn := goodIn_r _ [34, 1, 6, 17, 4, 26, 5, 35, 36, 37, 11, 38, 39, 40, 41, 42, 43, 44, 45, 46, 47, 48, 49, 50, 51, 52, 53, 54, 8, 9, 10, 12, 2, 59, 60, 61, 62, 63, 64, 65, 66, 67, 68, 69, 70, 71, 72, 73, 74, 75, 76, 77] (by decide +kernel) (by decide +kernel)
set_option maxRecDepth 20000 in
theorem gX6_worthOf_X6_goesOn : GoodIn wsX6_worthOf (wsV RX6 121 RX6 yX6_goesOn wsX6_goesOn) := goodIn_app (goodIn_of _ (by decide +kernel)) ggX6_worthOf_X6_goesOn
set_option maxRecDepth 20000 in
theorem ggX6_worthOf_X6_takes : GoodIn wsX6_worthOf wsX6_takes := goodIn_r _ [58, 1, 35, 5, 59, 60, 61, 62, 63, 64, 65, 66, 67, 68, 69, 70, 71, 72, 73, 74, 75, 76, 77] (by decide +kernel) (by decide +kernel)
set_option maxRecDepth 20000 in
theorem gX6_worthOf_X6_takes : GoodIn wsX6_worthOf (wsV RX6 124 RX6 yX6_takes wsX6_takes) := goodIn_app (goodIn_of _ (by decide +kernel)) ggX6_worthOf_X6_takes
theorem dX6_worthOf_0 : decode cX6_worthOf 0 = .ok (.iconst 0, 1) := by decide +kernel
theorem dX6_worthOf_1 : decode cX6_worthOf 1 = .ok (.istore_n 3, 1) := by decide +kernel
theorem dX6_worthOf_2 : decode cX6_worthOf 2 = .ok (.aload_n 0, 1) := by decide +kernel
theorem dX6_worthOf_3 : decode cX6_worthOf 3 = .ok (.iconst 0, 1) := by decide +kernel
theorem dX6_worthOf_4 : decode cX6_worthOf 4 = .ok (.iload_n 1, 1) := by decide +kernel
theorem dX6_worthOf_5 : decode cX6_worthOf 5 = .ok (.invokevirtual 113, 3) := by decide +kernel
theorem dX6_worthOf_8 : decode cX6_worthOf 8 = .ok (.iconst (-1), 1) := by decide +kernel
theorem dX6_worthOf_9 : decode cX6_worthOf 9 = .ok (.istore 4, 2) := by decide +kernel
theorem dX6_worthOf_11 : decode cX6_worthOf 11 = .ok (.iload_n 3, 1) := by decide +kernel
theorem dX6_worthOf_12 : decode cX6_worthOf 12 = .ok (.iload_n 2, 1) := by decide +kernel
theorem dX6_worthOf_13 : decode cX6_worthOf 13 = .ok (.if_icmp .ne 22, 3) := by decide +kernel
theorem dX6_worthOf_16 : decode cX6_worthOf 16 = .ok (.aload_n 0, 1) := by decide +kernel
theorem dX6_worthOf_17 : decode cX6_worthOf 17 = .ok (.bipush 32, 2) := by decide +kernel
theorem dX6_worthOf_19 : decode cX6_worthOf 19 = .ok (.iload_n 3, 1) := by decide +kernel
theorem dX6_worthOf_20 : decode cX6_worthOf 20 = .ok (.imul, 1) := by decide +kernel
theorem dX6_worthOf_21 : decode cX6_worthOf 21 = .ok (.aload_n 0, 1) := by decide +kernel
theorem dX6_worthOf_22 : decode cX6_worthOf 22 = .ok (.getfield 38, 3) := by decide +kernel
theorem dX6_worthOf_25 : decode cX6_worthOf 25 = .ok (.iload_n 3, 1) := by decide +kernel
theorem dX6_worthOf_26 : decode cX6_worthOf 26 = .ok (.iaload, 1) := by decide +kernel
theorem dX6_worthOf_27 : decode cX6_worthOf 27 = .ok (.invokevirtual 117, 3) := by decide +kernel
theorem dX6_worthOf_30 : decode cX6_worthOf 30 = .ok (.istore 4, 2) := by decide +kernel
theorem dX6_worthOf_32 : decode cX6_worthOf 32 = .ok (.goto 97, 3) := by decide +kernel
theorem dX6_worthOf_35 : decode cX6_worthOf 35 = .ok (.aload_n 0, 1) := by decide +kernel
theorem dX6_worthOf_36 : decode cX6_worthOf 36 = .ok (.iload_n 3, 1) := by decide +kernel
theorem dX6_worthOf_37 : decode cX6_worthOf 37 = .ok (.invokevirtual 121, 3) := by decide +kernel
theorem dX6_worthOf_40 : decode cX6_worthOf 40 = .ok (.ifCond .eq 9, 3) := by decide +kernel
theorem dX6_worthOf_43 : decode cX6_worthOf 43 = .ok (.iinc 3 1, 3) := by decide +kernel
theorem dX6_worthOf_46 : decode cX6_worthOf 46 = .ok (.goto 83, 3) := by decide +kernel
theorem dX6_worthOf_49 : decode cX6_worthOf 49 = .ok (.aload_n 0, 1) := by decide +kernel
theorem dX6_worthOf_50 : decode cX6_worthOf 50 = .ok (.getfield 50, 3) := by decide +kernel
theorem dX6_worthOf_53 : decode cX6_worthOf 53 = .ok (.iload_n 3, 1) := by decide +kernel
theorem dX6_worthOf_54 : decode cX6_worthOf 54 = .ok (.dup2, 1) := by decide +kernel
theorem dX6_worthOf_55 : decode cX6_worthOf 55 = .ok (.laload, 1) := by decide +kernel
theorem dX6_worthOf_56 : decode cX6_worthOf 56 = .ok (.aload_n 0, 1) := by decide +kernel
theorem dX6_worthOf_57 : decode cX6_worthOf 57 = .ok (.getfield 23, 3) := by decide +kernel
theorem dX6_worthOf_60 : decode cX6_worthOf 60 = .ok (.aload_n 0, 1) := by decide +kernel
theorem dX6_worthOf_61 : decode cX6_worthOf 61 = .ok (.getfield 41, 3) := by decide +kernel
theorem dX6_worthOf_64 : decode cX6_worthOf 64 = .ok (.iload_n 3, 1) := by decide +kernel
theorem dX6_worthOf_65 : decode cX6_worthOf 65 = .ok (.iaload, 1) := by decide +kernel
theorem dX6_worthOf_66 : decode cX6_worthOf 66 = .ok (.iaload, 1) := by decide +kernel
theorem dX6_worthOf_67 : decode cX6_worthOf 67 = .ok (.i2l, 1) := by decide +kernel
theorem dX6_worthOf_68 : decode cX6_worthOf 68 = .ok (.aload_n 0, 1) := by decide +kernel
theorem dX6_worthOf_69 : decode cX6_worthOf 69 = .ok (.getfield 47, 3) := by decide +kernel
theorem dX6_worthOf_72 : decode cX6_worthOf 72 = .ok (.iload_n 3, 1) := by decide +kernel
theorem dX6_worthOf_73 : decode cX6_worthOf 73 = .ok (.iaload, 1) := by decide +kernel
theorem dX6_worthOf_74 : decode cX6_worthOf 74 = .ok (.i2l, 1) := by decide +kernel
theorem dX6_worthOf_75 : decode cX6_worthOf 75 = .ok (.lmul, 1) := by decide +kernel
theorem dX6_worthOf_76 : decode cX6_worthOf 76 = .ok (.ladd, 1) := by decide +kernel
theorem dX6_worthOf_77 : decode cX6_worthOf 77 = .ok (.lastore, 1) := by decide +kernel
theorem dX6_worthOf_78 : decode cX6_worthOf 78 = .ok (.aload_n 0, 1) := by decide +kernel
theorem dX6_worthOf_79 : decode cX6_worthOf 79 = .ok (.getfield 41, 3) := by decide +kernel
theorem dX6_worthOf_82 : decode cX6_worthOf 82 = .ok (.iload_n 3, 1) := by decide +kernel
theorem dX6_worthOf_83 : decode cX6_worthOf 83 = .ok (.dup2, 1) := by decide +kernel
theorem dX6_worthOf_84 : decode cX6_worthOf 84 = .ok (.iaload, 1) := by decide +kernel
theorem dX6_worthOf_85 : decode cX6_worthOf 85 = .ok (.iconst 1, 1) := by decide +kernel
theorem dX6_worthOf_86 : decode cX6_worthOf 86 = .ok (.iadd, 1) := by decide +kernel
theorem dX6_worthOf_87 : decode cX6_worthOf 87 = .ok (.iastore, 1) := by decide +kernel
theorem dX6_worthOf_88 : decode cX6_worthOf 88 = .ok (.aload_n 0, 1) := by decide +kernel
theorem dX6_worthOf_89 : decode cX6_worthOf 89 = .ok (.getfield 44, 3) := by decide +kernel
theorem dX6_worthOf_92 : decode cX6_worthOf 92 = .ok (.iload_n 3, 1) := by decide +kernel
theorem dX6_worthOf_93 : decode cX6_worthOf 93 = .ok (.iconst 0, 1) := by decide +kernel
theorem dX6_worthOf_94 : decode cX6_worthOf 94 = .ok (.iastore, 1) := by decide +kernel
theorem dX6_worthOf_95 : decode cX6_worthOf 95 = .ok (.aload_n 0, 1) := by decide +kernel
theorem dX6_worthOf_96 : decode cX6_worthOf 96 = .ok (.getfield 47, 3) := by decide +kernel
theorem dX6_worthOf_99 : decode cX6_worthOf 99 = .ok (.iload_n 3, 1) := by decide +kernel
theorem dX6_worthOf_100 : decode cX6_worthOf 100 = .ok (.iconst (-1), 1) := by decide +kernel
theorem dX6_worthOf_101 : decode cX6_worthOf 101 = .ok (.iastore, 1) := by decide +kernel
theorem dX6_worthOf_102 : decode cX6_worthOf 102 = .ok (.aload_n 0, 1) := by decide +kernel
theorem dX6_worthOf_103 : decode cX6_worthOf 103 = .ok (.getfield 41, 3) := by decide +kernel
theorem dX6_worthOf_106 : decode cX6_worthOf 106 = .ok (.iload_n 3, 1) := by decide +kernel
theorem dX6_worthOf_107 : decode cX6_worthOf 107 = .ok (.iaload, 1) := by decide +kernel
theorem dX6_worthOf_108 : decode cX6_worthOf 108 = .ok (.iconst 5, 1) := by decide +kernel
theorem dX6_worthOf_109 : decode cX6_worthOf 109 = .ok (.if_icmp .ne 17, 3) := by decide +kernel
theorem dX6_worthOf_112 : decode cX6_worthOf 112 = .ok (.aload_n 0, 1) := by decide +kernel
theorem dX6_worthOf_113 : decode cX6_worthOf 113 = .ok (.getfield 50, 3) := by decide +kernel
theorem dX6_worthOf_116 : decode cX6_worthOf 116 = .ok (.iload_n 3, 1) := by decide +kernel
theorem dX6_worthOf_117 : decode cX6_worthOf 117 = .ok (.laload, 1) := by decide +kernel
theorem dX6_worthOf_118 : decode cX6_worthOf 118 = .ok (.ldc2_w 84, 3) := by decide +kernel
theorem dX6_worthOf_121 : decode cX6_worthOf 121 = .ok (.ldiv, 1) := by decide +kernel
theorem dX6_worthOf_122 : decode cX6_worthOf 122 = .ok (.l2i, 1) := by decide +kernel
theorem dX6_worthOf_123 : decode cX6_worthOf 123 = .ok (.goto 4, 3) := by decide +kernel
theorem dX6_worthOf_126 : decode cX6_worthOf 126 = .ok (.iconst (-1), 1) := by decide +kernel
theorem dX6_worthOf_127 : decode cX6_worthOf 127 = .ok (.istore 4, 2) := by decide +kernel
theorem dX6_worthOf_129 : decode cX6_worthOf 129 = .ok (.iload 4, 2) := by decide +kernel
theorem dX6_worthOf_131 : decode cX6_worthOf 131 = .ok (.iconst (-1), 1) := by decide +kernel
theorem dX6_worthOf_132 : decode cX6_worthOf 132 = .ok (.if_icmp .eq 10, 3) := by decide +kernel
theorem dX6_worthOf_135 : decode cX6_worthOf 135 = .ok (.iload_n 3, 1) := by decide +kernel
theorem dX6_worthOf_136 : decode cX6_worthOf 136 = .ok (.ifCond .ne 6, 3) := by decide +kernel
theorem dX6_worthOf_139 : decode cX6_worthOf 139 = .ok (.iload 4, 2) := by decide +kernel
theorem dX6_worthOf_141 : decode cX6_worthOf 141 = .ok (.ireturn, 1) := by decide +kernel
theorem dX6_worthOf_142 : decode cX6_worthOf 142 = .ok (.iload 4, 2) := by decide +kernel
theorem dX6_worthOf_144 : decode cX6_worthOf 144 = .ok (.iconst (-1), 1) := by decide +kernel
theorem dX6_worthOf_145 : decode cX6_worthOf 145 = .ok (.if_icmp .eq 21, 3) := by decide +kernel
theorem dX6_worthOf_148 : decode cX6_worthOf 148 = .ok (.iinc 3 (-1), 3) := by decide +kernel
theorem dX6_worthOf_151 : decode cX6_worthOf 151 = .ok (.aload_n 0, 1) := by decide +kernel
theorem dX6_worthOf_152 : decode cX6_worthOf 152 = .ok (.iload_n 3, 1) := by decide +kernel
theorem dX6_worthOf_153 : decode cX6_worthOf 153 = .ok (.aload_n 0, 1) := by decide +kernel
theorem dX6_worthOf_154 : decode cX6_worthOf 154 = .ok (.getfield 38, 3) := by decide +kernel
theorem dX6_worthOf_157 : decode cX6_worthOf 157 = .ok (.iload_n 3, 1) := by decide +kernel
theorem dX6_worthOf_158 : decode cX6_worthOf 158 = .ok (.iconst 1, 1) := by decide +kernel
theorem dX6_worthOf_159 : decode cX6_worthOf 159 = .ok (.iadd, 1) := by decide +kernel
theorem dX6_worthOf_160 : decode cX6_worthOf 160 = .ok (.iaload, 1) := by decide +kernel
theorem dX6_worthOf_161 : decode cX6_worthOf 161 = .ok (.iload 4, 2) := by decide +kernel
theorem dX6_worthOf_163 : decode cX6_worthOf 163 = .ok (.invokevirtual 124, 3) := by decide +kernel
theorem dX6_worthOf_166 : decode cX6_worthOf 166 = .ok (.goto (-158), 3) := by decide +kernel
theorem dX6_lays_0 : decode cX6_lays 0 = .ok (.iconst 0, 1) := by decide +kernel
theorem dX6_lays_1 : decode cX6_lays 1 = .ok (.istore_n 1, 1) := by decide +kernel
theorem dX6_lays_2 : decode cX6_lays 2 = .ok (.iload_n 1, 1) := by decide +kernel
theorem dX6_lays_3 : decode cX6_lays 3 = .ok (.bipush 32, 2) := by decide +kernel
theorem dX6_lays_5 : decode cX6_lays 5 = .ok (.if_icmp .ge 21, 3) := by decide +kernel
theorem dX6_lays_8 : decode cX6_lays 8 = .ok (.aload_n 0, 1) := by decide +kernel
theorem dX6_lays_9 : decode cX6_lays 9 = .ok (.getfield 35, 3) := by decide +kernel
theorem dX6_lays_12 : decode cX6_lays 12 = .ok (.iload_n 1, 1) := by decide +kernel
theorem dX6_lays_13 : decode cX6_lays 13 = .ok (.aload_n 0, 1) := by decide +kernel
theorem dX6_lays_14 : decode cX6_lays 14 = .ok (.getfield 20, 3) := by decide +kernel
theorem dX6_lays_17 : decode cX6_lays 17 = .ok (.iload_n 1, 1) := by decide +kernel
theorem dX6_lays_18 : decode cX6_lays 18 = .ok (.iaload, 1) := by decide +kernel
theorem dX6_lays_19 : decode cX6_lays 19 = .ok (.iastore, 1) := by decide +kernel
theorem dX6_lays_20 : decode cX6_lays 20 = .ok (.iinc 1 1, 3) := by decide +kernel
theorem dX6_lays_23 : decode cX6_lays 23 = .ok (.goto (-21), 3) := by decide +kernel
theorem dX6_lays_26 : decode cX6_lays 26 = .ok (.return_, 1) := by decide +kernel
set_option maxRecDepth 20000 in
theorem ggX6_layBehind_X6_canMove : GoodIn wsX6_layBehind wsX6_canMove := goodIn_r _ [11] (by decide +kernel) (by decide +kernel)
set_option maxRecDepth 20000 in
theorem gX6_layBehind_X6_canMove : GoodIn wsX6_layBehind (va_wsS RX6 102 yX6_canMove wsX6_canMove) := goodIn_app (goodIn_of _ (by decide +kernel)) ggX6_layBehind_X6_canMove
set_option maxRecDepth 20000 in
theorem ggX6_layBehind_X6_lays : GoodIn wsX6_layBehind wsX6_lays := goodIn_r _ [15, 5, 3, 71, 72, 73, 74, 75, 76, 77, 78, 79, 80, 81, 82, 83, 84, 85, 86, 87, 88, 89] (by decide +kernel) (by decide +kernel)
set_option maxRecDepth 20000 in
theorem gX6_layBehind_X6_lays : GoodIn wsX6_layBehind (wsV RX6 131 RX6 yX6_lays wsX6_lays) := goodIn_app (goodIn_of _ (by decide +kernel)) ggX6_layBehind_X6_lays
set_option maxRecDepth 20000 in
theorem ggX6_layBehind_X6_shifts : GoodIn wsX6_layBehind wsX6_shifts := goodIn_r _ [18, 19, 20, 10, 21, 22, 23, 24] (by decide +kernel) (by decide +kernel)
set_option maxRecDepth 20000 in
theorem gX6_layBehind_X6_shifts : GoodIn wsX6_layBehind (va_wsS RX6 109 yX6_shifts wsX6_shifts) := goodIn_app (goodIn_of _ (by decide +kernel)) ggX6_layBehind_X6_shifts
set_option maxRecDepth 20000 in
theorem ggX6_layBehind_X6_isRosette : GoodIn wsX6_layBehind wsX6_isRosette := goodIn_r _ [27] (by decide +kernel) (by decide +kernel)
set_option maxRecDepth 20000 in
theorem gX6_layBehind_X6_isRosette : GoodIn wsX6_layBehind (va_wsS RX6 76 yX6_isRosette wsX6_isRosette) := goodIn_app (goodIn_of _ (by decide +kernel)) ggX6_layBehind_X6_isRosette
set_option maxRecDepth 20000 in
theorem ggX6_layBehind_X6_worthOf : GoodIn wsX6_layBehind wsX6_worthOf := goodIn_r _ [31, 32, 33, 34, 35, 36, 37, 38, 39, 40, 41, 10, 42, 43, 44, 45, 46, 5, 47, 48, 49, 50, 51, 52, 53, 54, 6, 55, 56, 57, 58, 59, 60, 61, 62, 7, 8, 9, 11, 63, 64, 65, 66, 16, 17, 18, 19, 20, 21, 22, 23, 24, 25, 26, 27, 67, 68, 69, 70, 71, 72, 73, 74, 75, 76, 77, 78, 79, 80, 81, 82, 83, 84, 85, 86, 87, 88, 89] (by decide +kernel) (by decide +kernel)
set_option maxRecDepth 20000 in
theorem gX6_layBehind_X6_worthOf : GoodIn wsX6_layBehind (wsV RX6 134 RX6 yX6_worthOf wsX6_worthOf) := goodIn_app (goodIn_of _ (by decide +kernel)) ggX6_layBehind_X6_worthOf
theorem dX6_layBehind_0 : decode cX6_layBehind 0 = .ok (.iconst 0, 1) := by decide +kernel
theorem dX6_layBehind_1 : decode cX6_layBehind 1 = .ok (.istore_n 2, 1) := by decide +kernel
theorem dX6_layBehind_2 : decode cX6_layBehind 2 = .ok (.iload_n 2, 1) := by decide +kernel
theorem dX6_layBehind_3 : decode cX6_layBehind 3 = .ok (.bipush 15, 2) := by decide +kernel
theorem dX6_layBehind_5 : decode cX6_layBehind 5 = .ok (.if_icmp .ge 171, 3) := by decide +kernel
theorem dX6_layBehind_8 : decode cX6_layBehind 8 = .ok (.aload_n 0, 1) := by decide +kernel
theorem dX6_layBehind_9 : decode cX6_layBehind 9 = .ok (.getfield 54, 3) := by decide +kernel
theorem dX6_layBehind_12 : decode cX6_layBehind 12 = .ok (.iload_n 2, 1) := by decide +kernel
theorem dX6_layBehind_13 : decode cX6_layBehind 13 = .ok (.iconst (-1), 1) := by decide +kernel
theorem dX6_layBehind_14 : decode cX6_layBehind 14 = .ok (.iastore, 1) := by decide +kernel
theorem dX6_layBehind_15 : decode cX6_layBehind 15 = .ok (.aload_n 0, 1) := by decide +kernel
theorem dX6_layBehind_16 : decode cX6_layBehind 16 = .ok (.getfield 9, 3) := by decide +kernel
theorem dX6_layBehind_19 : decode cX6_layBehind 19 = .ok (.iconst (-1), 1) := by decide +kernel
theorem dX6_layBehind_20 : decode cX6_layBehind 20 = .ok (.if_icmp .eq 150, 3) := by decide +kernel
theorem dX6_layBehind_23 : decode cX6_layBehind 23 = .ok (.aload_n 0, 1) := by decide +kernel
theorem dX6_layBehind_24 : decode cX6_layBehind 24 = .ok (.getfield 20, 3) := by decide +kernel
theorem dX6_layBehind_27 : decode cX6_layBehind 27 = .ok (.iconst 0, 1) := by decide +kernel
theorem dX6_layBehind_28 : decode cX6_layBehind 28 = .ok (.aload_n 0, 1) := by decide +kernel
theorem dX6_layBehind_29 : decode cX6_layBehind 29 = .ok (.getfield 128, 3) := by decide +kernel
theorem dX6_layBehind_32 : decode cX6_layBehind 32 = .ok (.iload_n 2, 1) := by decide +kernel
theorem dX6_layBehind_33 : decode cX6_layBehind 33 = .ok (.aload_n 0, 1) := by decide +kernel
theorem dX6_layBehind_34 : decode cX6_layBehind 34 = .ok (.getfield 9, 3) := by decide +kernel
theorem dX6_layBehind_37 : decode cX6_layBehind 37 = .ok (.invokestatic 102, 3) := by decide +kernel
theorem dX6_layBehind_40 : decode cX6_layBehind 40 = .ok (.ifCond .eq 130, 3) := by decide +kernel
theorem dX6_layBehind_43 : decode cX6_layBehind 43 = .ok (.aload_n 0, 1) := by decide +kernel
theorem dX6_layBehind_44 : decode cX6_layBehind 44 = .ok (.invokevirtual 131, 3) := by decide +kernel
theorem dX6_layBehind_47 : decode cX6_layBehind 47 = .ok (.aload_n 0, 1) := by decide +kernel
theorem dX6_layBehind_48 : decode cX6_layBehind 48 = .ok (.getfield 35, 3) := by decide +kernel
theorem dX6_layBehind_51 : decode cX6_layBehind 51 = .ok (.iconst 0, 1) := by decide +kernel
theorem dX6_layBehind_52 : decode cX6_layBehind 52 = .ok (.aload_n 0, 1) := by decide +kernel
theorem dX6_layBehind_53 : decode cX6_layBehind 53 = .ok (.getfield 128, 3) := by decide +kernel
theorem dX6_layBehind_56 : decode cX6_layBehind 56 = .ok (.iload_n 2, 1) := by decide +kernel
theorem dX6_layBehind_57 : decode cX6_layBehind 57 = .ok (.aload_n 0, 1) := by decide +kernel
theorem dX6_layBehind_58 : decode cX6_layBehind 58 = .ok (.getfield 9, 3) := by decide +kernel
theorem dX6_layBehind_61 : decode cX6_layBehind 61 = .ok (.invokestatic 109, 3) := by decide +kernel
theorem dX6_layBehind_64 : decode cX6_layBehind 64 = .ok (.istore_n 3, 1) := by decide +kernel
theorem dX6_layBehind_65 : decode cX6_layBehind 65 = .ok (.iload_n 2, 1) := by decide +kernel
theorem dX6_layBehind_66 : decode cX6_layBehind 66 = .ok (.aload_n 0, 1) := by decide +kernel
theorem dX6_layBehind_67 : decode cX6_layBehind 67 = .ok (.getfield 9, 3) := by decide +kernel
theorem dX6_layBehind_70 : decode cX6_layBehind 70 = .ok (.iadd, 1) := by decide +kernel
theorem dX6_layBehind_71 : decode cX6_layBehind 71 = .ok (.invokestatic 76, 3) := by decide +kernel
theorem dX6_layBehind_74 : decode cX6_layBehind 74 = .ok (.ifCond .eq 10, 3) := by decide +kernel
theorem dX6_layBehind_77 : decode cX6_layBehind 77 = .ok (.aload_n 0, 1) := by decide +kernel
theorem dX6_layBehind_78 : decode cX6_layBehind 78 = .ok (.getfield 128, 3) := by decide +kernel
theorem dX6_layBehind_81 : decode cX6_layBehind 81 = .ok (.goto 9, 3) := by decide +kernel
theorem dX6_layBehind_84 : decode cX6_layBehind 84 = .ok (.iconst 1, 1) := by decide +kernel
theorem dX6_layBehind_85 : decode cX6_layBehind 85 = .ok (.aload_n 0, 1) := by decide +kernel
theorem dX6_layBehind_86 : decode cX6_layBehind 86 = .ok (.getfield 128, 3) := by decide +kernel
theorem dX6_layBehind_89 : decode cX6_layBehind 89 = .ok (.isub, 1) := by decide +kernel
theorem dX6_layBehind_90 : decode cX6_layBehind 90 = .ok (.istore 4, 2) := by decide +kernel
theorem dX6_layBehind_92 : decode cX6_layBehind 92 = .ok (.aload_n 0, 1) := by decide +kernel
theorem dX6_layBehind_93 : decode cX6_layBehind 93 = .ok (.getfield 35, 3) := by decide +kernel
theorem dX6_layBehind_96 : decode cX6_layBehind 96 = .ok (.bipush 16, 2) := by decide +kernel
theorem dX6_layBehind_98 : decode cX6_layBehind 98 = .ok (.aload_n 0, 1) := by decide +kernel
theorem dX6_layBehind_99 : decode cX6_layBehind 99 = .ok (.getfield 128, 3) := by decide +kernel
theorem dX6_layBehind_102 : decode cX6_layBehind 102 = .ok (.imul, 1) := by decide +kernel
theorem dX6_layBehind_103 : decode cX6_layBehind 103 = .ok (.bipush 15, 2) := by decide +kernel
theorem dX6_layBehind_105 : decode cX6_layBehind 105 = .ok (.iadd, 1) := by decide +kernel
theorem dX6_layBehind_106 : decode cX6_layBehind 106 = .ok (.iaload, 1) := by decide +kernel
theorem dX6_layBehind_107 : decode cX6_layBehind 107 = .ok (.aload_n 0, 1) := by decide +kernel
theorem dX6_layBehind_108 : decode cX6_layBehind 108 = .ok (.getfield 90, 3) := by decide +kernel
theorem dX6_layBehind_111 : decode cX6_layBehind 111 = .ok (.if_icmp .ne 7, 3) := by decide +kernel
theorem dX6_layBehind_114 : decode cX6_layBehind 114 = .ok (.iconst 1, 1) := by decide +kernel
theorem dX6_layBehind_115 : decode cX6_layBehind 115 = .ok (.goto 4, 3) := by decide +kernel
theorem dX6_layBehind_118 : decode cX6_layBehind 118 = .ok (.iconst 0, 1) := by decide +kernel
theorem dX6_layBehind_119 : decode cX6_layBehind 119 = .ok (.istore 5, 2) := by decide +kernel
theorem dX6_layBehind_121 : decode cX6_layBehind 121 = .ok (.iload 5, 2) := by decide +kernel
theorem dX6_layBehind_123 : decode cX6_layBehind 123 = .ok (.ifCond .eq 8, 3) := by decide +kernel
theorem dX6_layBehind_126 : decode cX6_layBehind 126 = .ok (.ldc 71, 2) := by decide +kernel
theorem dX6_layBehind_128 : decode cX6_layBehind 128 = .ok (.goto 10, 3) := by decide +kernel
theorem dX6_layBehind_131 : decode cX6_layBehind 131 = .ok (.aload_n 0, 1) := by decide +kernel
theorem dX6_layBehind_132 : decode cX6_layBehind 132 = .ok (.iload 4, 2) := by decide +kernel
theorem dX6_layBehind_134 : decode cX6_layBehind 134 = .ok (.iload_n 1, 1) := by decide +kernel
theorem dX6_layBehind_135 : decode cX6_layBehind 135 = .ok (.invokevirtual 134, 3) := by decide +kernel
theorem dX6_layBehind_138 : decode cX6_layBehind 138 = .ok (.istore 6, 2) := by decide +kernel
theorem dX6_layBehind_140 : decode cX6_layBehind 140 = .ok (.aload_n 0, 1) := by decide +kernel
theorem dX6_layBehind_141 : decode cX6_layBehind 141 = .ok (.getfield 54, 3) := by decide +kernel
theorem dX6_layBehind_144 : decode cX6_layBehind 144 = .ok (.iload_n 2, 1) := by decide +kernel
theorem dX6_layBehind_145 : decode cX6_layBehind 145 = .ok (.iload 5, 2) := by decide +kernel
theorem dX6_layBehind_147 : decode cX6_layBehind 147 = .ok (.ifCond .ne 12, 3) := by decide +kernel
theorem dX6_layBehind_150 : decode cX6_layBehind 150 = .ok (.iload 4, 2) := by decide +kernel
theorem dX6_layBehind_152 : decode cX6_layBehind 152 = .ok (.aload_n 0, 1) := by decide +kernel
theorem dX6_layBehind_153 : decode cX6_layBehind 153 = .ok (.getfield 128, 3) := by decide +kernel
theorem dX6_layBehind_156 : decode cX6_layBehind 156 = .ok (.if_icmp .ne 8, 3) := by decide +kernel
theorem dX6_layBehind_159 : decode cX6_layBehind 159 = .ok (.iload 6, 2) := by decide +kernel
theorem dX6_layBehind_161 : decode cX6_layBehind 161 = .ok (.goto 8, 3) := by decide +kernel
theorem dX6_layBehind_164 : decode cX6_layBehind 164 = .ok (.ldc 71, 2) := by decide +kernel
theorem dX6_layBehind_166 : decode cX6_layBehind 166 = .ok (.iload 6, 2) := by decide +kernel
theorem dX6_layBehind_168 : decode cX6_layBehind 168 = .ok (.isub, 1) := by decide +kernel
theorem dX6_layBehind_169 : decode cX6_layBehind 169 = .ok (.iastore, 1) := by decide +kernel
theorem dX6_layBehind_170 : decode cX6_layBehind 170 = .ok (.iinc 2 1, 3) := by decide +kernel
theorem dX6_layBehind_173 : decode cX6_layBehind 173 = .ok (.goto (-171), 3) := by decide +kernel
theorem dX6_layBehind_176 : decode cX6_layBehind 176 = .ok (.return_, 1) := by decide +kernel
set_option maxRecDepth 20000 in
theorem ggX6_worthNow_X6_lays : GoodIn wsX6_worthNow wsX6_lays := goodIn_r _ [10, 11, 12, 76, 77, 78, 79, 80, 81, 82, 83, 84, 85, 86, 87, 88, 89, 90, 91, 92, 93, 94] (by decide +kernel) (by decide +kernel)
set_option maxRecDepth 20000 in
theorem gX6_worthNow_X6_lays : GoodIn wsX6_worthNow (wsV RX6 131 RX6 yX6_lays wsX6_lays) := goodIn_app (goodIn_of _ (by decide +kernel)) ggX6_worthNow_X6_lays
set_option maxRecDepth 20000 in
theorem ggX6_worthNow_X6_worthOf : GoodIn wsX6_worthNow wsX6_worthOf := goodIn_r _ [16, 17, 18, 19, 20, 21, 22, 23, 24, 25, 26, 9, 27, 28, 29, 30, 31, 11, 32, 33, 34, 35, 36, 37, 38, 39, 40, 41, 42, 43, 44, 45, 46, 47, 48, 3, 49, 50, 51, 52, 53, 54, 55, 56, 57, 58, 59, 60, 61, 62, 63, 64, 65, 66, 67, 68, 69, 70, 71, 76, 77, 78, 79, 80, 81, 82, 83, 84, 85, 86, 87, 88, 89, 90, 91, 92, 93, 94] (by decide +kernel) (by decide +kernel)
set_option maxRecDepth 20000 in
theorem gX6_worthNow_X6_worthOf : GoodIn wsX6_worthNow (wsV RX6 134 RX6 yX6_worthOf wsX6_worthOf) := goodIn_app (goodIn_of _ (by decide +kernel)) ggX6_worthNow_X6_worthOf
set_option maxRecDepth 20000 in
theorem ggX6_worthNow_X6_layBehind : GoodIn wsX6_worthNow wsX6_layBehind := goodIn_r _ [75, 5, 4, 12, 2, 11, 40, 3, 49, 50, 9, 51, 6, 7, 8, 10, 56, 57, 58, 59, 60, 61, 62, 63, 64, 65, 66, 67, 13, 14, 15, 16, 17, 18, 19, 20, 21, 22, 23, 24, 25, 26, 27, 28, 29, 30, 31, 32, 33, 34, 35, 36, 37, 38, 39, 41, 42, 43, 44, 45, 46, 47, 48, 52, 53, 54, 55, 68, 69, 70, 71, 76, 77, 78, 79, 80, 81, 82, 83, 84, 85, 86, 87, 88, 89, 90, 91, 92, 93, 94] (by decide +kernel) (by decide +kernel)
set_option maxRecDepth 20000 in
theorem gX6_worthNow_X6_layBehind : GoodIn wsX6_worthNow (wsV RX6 137 RX6 yX6_layBehind wsX6_layBehind) := goodIn_app (goodIn_of _ (by decide +kernel)) ggX6_worthNow_X6_layBehind
theorem dX6_worthNow_0 : decode cX6_worthNow 0 = .ok (.aload_n 0, 1) := by decide +kernel
theorem dX6_worthNow_1 : decode cX6_worthNow 1 = .ok (.getfield 13, 3) := by decide +kernel
theorem dX6_worthNow_4 : decode cX6_worthNow 4 = .ok (.iconst (-1), 1) := by decide +kernel
theorem dX6_worthNow_5 : decode cX6_worthNow 5 = .ok (.if_icmp .eq 21, 3) := by decide +kernel
theorem dX6_worthNow_8 : decode cX6_worthNow 8 = .ok (.aload_n 0, 1) := by decide +kernel
theorem dX6_worthNow_9 : decode cX6_worthNow 9 = .ok (.getfield 13, 3) := by decide +kernel
theorem dX6_worthNow_12 : decode cX6_worthNow 12 = .ok (.aload_n 0, 1) := by decide +kernel
theorem dX6_worthNow_13 : decode cX6_worthNow 13 = .ok (.getfield 128, 3) := by decide +kernel
theorem dX6_worthNow_16 : decode cX6_worthNow 16 = .ok (.if_icmp .ne 8, 3) := by decide +kernel
theorem dX6_worthNow_19 : decode cX6_worthNow 19 = .ok (.ldc 71, 2) := by decide +kernel
theorem dX6_worthNow_21 : decode cX6_worthNow 21 = .ok (.goto 4, 3) := by decide +kernel
theorem dX6_worthNow_24 : decode cX6_worthNow 24 = .ok (.iconst 0, 1) := by decide +kernel
theorem dX6_worthNow_25 : decode cX6_worthNow 25 = .ok (.ireturn, 1) := by decide +kernel
theorem dX6_worthNow_26 : decode cX6_worthNow 26 = .ok (.aload_n 0, 1) := by decide +kernel
theorem dX6_worthNow_27 : decode cX6_worthNow 27 = .ok (.getfield 9, 3) := by decide +kernel
theorem dX6_worthNow_30 : decode cX6_worthNow 30 = .ok (.iconst (-1), 1) := by decide +kernel
theorem dX6_worthNow_31 : decode cX6_worthNow 31 = .ok (.if_icmp .ne 17, 3) := by decide +kernel
theorem dX6_worthNow_34 : decode cX6_worthNow 34 = .ok (.aload_n 0, 1) := by decide +kernel
theorem dX6_worthNow_35 : decode cX6_worthNow 35 = .ok (.invokevirtual 131, 3) := by decide +kernel
theorem dX6_worthNow_38 : decode cX6_worthNow 38 = .ok (.aload_n 0, 1) := by decide +kernel
theorem dX6_worthNow_39 : decode cX6_worthNow 39 = .ok (.aload_n 0, 1) := by decide +kernel
theorem dX6_worthNow_40 : decode cX6_worthNow 40 = .ok (.getfield 128, 3) := by decide +kernel
theorem dX6_worthNow_43 : decode cX6_worthNow 43 = .ok (.iload_n 1, 1) := by decide +kernel
theorem dX6_worthNow_44 : decode cX6_worthNow 44 = .ok (.invokevirtual 134, 3) := by decide +kernel
theorem dX6_worthNow_47 : decode cX6_worthNow 47 = .ok (.ireturn, 1) := by decide +kernel
theorem dX6_worthNow_48 : decode cX6_worthNow 48 = .ok (.aload_n 0, 1) := by decide +kernel
theorem dX6_worthNow_49 : decode cX6_worthNow 49 = .ok (.iload_n 1, 1) := by decide +kernel
theorem dX6_worthNow_50 : decode cX6_worthNow 50 = .ok (.invokevirtual 137, 3) := by decide +kernel
theorem dX6_worthNow_53 : decode cX6_worthNow 53 = .ok (.iconst 0, 1) := by decide +kernel
theorem dX6_worthNow_54 : decode cX6_worthNow 54 = .ok (.istore_n 2, 1) := by decide +kernel
theorem dX6_worthNow_55 : decode cX6_worthNow 55 = .ok (.iconst 0, 1) := by decide +kernel
theorem dX6_worthNow_56 : decode cX6_worthNow 56 = .ok (.istore_n 3, 1) := by decide +kernel
theorem dX6_worthNow_57 : decode cX6_worthNow 57 = .ok (.iload_n 3, 1) := by decide +kernel
theorem dX6_worthNow_58 : decode cX6_worthNow 58 = .ok (.bipush 15, 2) := by decide +kernel
theorem dX6_worthNow_60 : decode cX6_worthNow 60 = .ok (.if_icmp .ge 30, 3) := by decide +kernel
theorem dX6_worthNow_63 : decode cX6_worthNow 63 = .ok (.aload_n 0, 1) := by decide +kernel
theorem dX6_worthNow_64 : decode cX6_worthNow 64 = .ok (.getfield 54, 3) := by decide +kernel
theorem dX6_worthNow_67 : decode cX6_worthNow 67 = .ok (.iload_n 3, 1) := by decide +kernel
theorem dX6_worthNow_68 : decode cX6_worthNow 68 = .ok (.iaload, 1) := by decide +kernel
theorem dX6_worthNow_69 : decode cX6_worthNow 69 = .ok (.iload_n 2, 1) := by decide +kernel
theorem dX6_worthNow_70 : decode cX6_worthNow 70 = .ok (.if_icmp .le 12, 3) := by decide +kernel
theorem dX6_worthNow_73 : decode cX6_worthNow 73 = .ok (.aload_n 0, 1) := by decide +kernel
theorem dX6_worthNow_74 : decode cX6_worthNow 74 = .ok (.getfield 54, 3) := by decide +kernel
theorem dX6_worthNow_77 : decode cX6_worthNow 77 = .ok (.iload_n 3, 1) := by decide +kernel
theorem dX6_worthNow_78 : decode cX6_worthNow 78 = .ok (.iaload, 1) := by decide +kernel
theorem dX6_worthNow_79 : decode cX6_worthNow 79 = .ok (.goto 4, 3) := by decide +kernel
theorem dX6_worthNow_82 : decode cX6_worthNow 82 = .ok (.iload_n 2, 1) := by decide +kernel
theorem dX6_worthNow_83 : decode cX6_worthNow 83 = .ok (.istore_n 2, 1) := by decide +kernel
theorem dX6_worthNow_84 : decode cX6_worthNow 84 = .ok (.iinc 3 1, 3) := by decide +kernel
theorem dX6_worthNow_87 : decode cX6_worthNow 87 = .ok (.goto (-30), 3) := by decide +kernel
theorem dX6_worthNow_90 : decode cX6_worthNow 90 = .ok (.iload_n 2, 1) := by decide +kernel
theorem dX6_worthNow_91 : decode cX6_worthNow 91 = .ok (.ireturn, 1) := by decide +kernel
theorem dX6_starts_0 : decode cX6_starts 0 = .ok (.aload_n 0, 1) := by decide +kernel
theorem dX6_starts_1 : decode cX6_starts 1 = .ok (.iload_n 1, 1) := by decide +kernel
theorem dX6_starts_2 : decode cX6_starts 2 = .ok (.putfield 90, 3) := by decide +kernel
theorem dX6_starts_5 : decode cX6_starts 5 = .ok (.aload_n 0, 1) := by decide +kernel
theorem dX6_starts_6 : decode cX6_starts 6 = .ok (.iconst 0, 1) := by decide +kernel
theorem dX6_starts_7 : decode cX6_starts 7 = .ok (.putfield 128, 3) := by decide +kernel
theorem dX6_starts_10 : decode cX6_starts 10 = .ok (.aload_n 0, 1) := by decide +kernel
theorem dX6_starts_11 : decode cX6_starts 11 = .ok (.iconst (-1), 1) := by decide +kernel
theorem dX6_starts_12 : decode cX6_starts 12 = .ok (.putfield 9, 3) := by decide +kernel
theorem dX6_starts_15 : decode cX6_starts 15 = .ok (.aload_n 0, 1) := by decide +kernel
theorem dX6_starts_16 : decode cX6_starts 16 = .ok (.iconst (-1), 1) := by decide +kernel
theorem dX6_starts_17 : decode cX6_starts 17 = .ok (.putfield 13, 3) := by decide +kernel
theorem dX6_starts_20 : decode cX6_starts 20 = .ok (.aload_n 0, 1) := by decide +kernel
theorem dX6_starts_21 : decode cX6_starts 21 = .ok (.iconst 0, 1) := by decide +kernel
theorem dX6_starts_22 : decode cX6_starts 22 = .ok (.putfield 140, 3) := by decide +kernel
theorem dX6_starts_25 : decode cX6_starts 25 = .ok (.iconst 0, 1) := by decide +kernel
theorem dX6_starts_26 : decode cX6_starts 26 = .ok (.istore_n 2, 1) := by decide +kernel
theorem dX6_starts_27 : decode cX6_starts 27 = .ok (.iload_n 2, 1) := by decide +kernel
theorem dX6_starts_28 : decode cX6_starts 28 = .ok (.bipush 32, 2) := by decide +kernel
theorem dX6_starts_30 : decode cX6_starts 30 = .ok (.if_icmp .ge 27, 3) := by decide +kernel
theorem dX6_starts_33 : decode cX6_starts 33 = .ok (.aload_n 0, 1) := by decide +kernel
theorem dX6_starts_34 : decode cX6_starts 34 = .ok (.getfield 20, 3) := by decide +kernel
theorem dX6_starts_37 : decode cX6_starts 37 = .ok (.iload_n 2, 1) := by decide +kernel
theorem dX6_starts_38 : decode cX6_starts 38 = .ok (.iload_n 2, 1) := by decide +kernel
theorem dX6_starts_39 : decode cX6_starts 39 = .ok (.bipush 16, 2) := by decide +kernel
theorem dX6_starts_41 : decode cX6_starts 41 = .ok (.irem, 1) := by decide +kernel
theorem dX6_starts_42 : decode cX6_starts 42 = .ok (.ifCond .ne 7, 3) := by decide +kernel
theorem dX6_starts_45 : decode cX6_starts 45 = .ok (.iload_n 1, 1) := by decide +kernel
theorem dX6_starts_46 : decode cX6_starts 46 = .ok (.goto 4, 3) := by decide +kernel
theorem dX6_starts_49 : decode cX6_starts 49 = .ok (.iconst 0, 1) := by decide +kernel
theorem dX6_starts_50 : decode cX6_starts 50 = .ok (.iastore, 1) := by decide +kernel
theorem dX6_starts_51 : decode cX6_starts 51 = .ok (.iinc 2 1, 3) := by decide +kernel
theorem dX6_starts_54 : decode cX6_starts 54 = .ok (.goto (-27), 3) := by decide +kernel
theorem dX6_starts_57 : decode cX6_starts 57 = .ok (.aload_n 0, 1) := by decide +kernel
theorem dX6_starts_58 : decode cX6_starts 58 = .ok (.getfield 16, 3) := by decide +kernel
theorem dX6_starts_61 : decode cX6_starts 61 = .ok (.iconst 0, 1) := by decide +kernel
theorem dX6_starts_62 : decode cX6_starts 62 = .ok (.iconst 0, 1) := by decide +kernel
theorem dX6_starts_63 : decode cX6_starts 63 = .ok (.iastore, 1) := by decide +kernel
theorem dX6_starts_64 : decode cX6_starts 64 = .ok (.aload_n 0, 1) := by decide +kernel
theorem dX6_starts_65 : decode cX6_starts 65 = .ok (.getfield 16, 3) := by decide +kernel
theorem dX6_starts_68 : decode cX6_starts 68 = .ok (.iconst 1, 1) := by decide +kernel
theorem dX6_starts_69 : decode cX6_starts 69 = .ok (.iconst 0, 1) := by decide +kernel
theorem dX6_starts_70 : decode cX6_starts 70 = .ok (.iastore, 1) := by decide +kernel
theorem dX6_starts_71 : decode cX6_starts 71 = .ok (.return_, 1) := by decide +kernel
set_option maxRecDepth 20000 in
theorem ggX6_begin_X6_in : GoodIn wsX6_begin wsX6_in := goodIn_r _ [5] (by decide +kernel) (by decide +kernel)
set_option maxRecDepth 20000 in
theorem gX6_begin_X6_in : GoodIn wsX6_begin (va_wsS RX6 67 yX6_in wsX6_in) := goodIn_app (goodIn_of _ (by decide +kernel)) ggX6_begin_X6_in
set_option maxRecDepth 20000 in
theorem ggX6_begin_X6_starts : GoodIn wsX6_begin wsX6_starts := goodIn_r _ [9, 10, 11, 12, 13, 14, 15, 16, 17, 18, 19, 20, 21, 22, 23, 24, 25, 26, 27, 28, 29, 30, 31, 32, 33, 34, 35] (by decide +kernel) (by decide +kernel)
set_option maxRecDepth 20000 in
theorem gX6_begin_X6_starts : GoodIn wsX6_begin (wsV RX6 61 RX6 yX6_starts wsX6_starts) := goodIn_app (goodIn_of _ (by decide +kernel)) ggX6_begin_X6_starts
theorem dX6_begin_0 : decode cX6_begin 0 = .ok (.aload_n 0, 1) := by decide +kernel
theorem dX6_begin_1 : decode cX6_begin 1 = .ok (.iload_n 1, 1) := by decide +kernel
theorem dX6_begin_2 : decode cX6_begin 2 = .ok (.iconst 1, 1) := by decide +kernel
theorem dX6_begin_3 : decode cX6_begin 3 = .ok (.iconst 4, 1) := by decide +kernel
theorem dX6_begin_4 : decode cX6_begin 4 = .ok (.invokestatic 67, 3) := by decide +kernel
theorem dX6_begin_7 : decode cX6_begin 7 = .ok (.ifCond .eq 7, 3) := by decide +kernel
theorem dX6_begin_10 : decode cX6_begin 10 = .ok (.iconst 0, 1) := by decide +kernel
theorem dX6_begin_11 : decode cX6_begin 11 = .ok (.goto 4, 3) := by decide +kernel
theorem dX6_begin_14 : decode cX6_begin 14 = .ok (.iconst 1, 1) := by decide +kernel
theorem dX6_begin_15 : decode cX6_begin 15 = .ok (.putfield 64, 3) := by decide +kernel
theorem dX6_begin_18 : decode cX6_begin 18 = .ok (.aload_n 0, 1) := by decide +kernel
theorem dX6_begin_19 : decode cX6_begin 19 = .ok (.getfield 64, 3) := by decide +kernel
theorem dX6_begin_22 : decode cX6_begin 22 = .ok (.ifCond .ne 8, 3) := by decide +kernel
theorem dX6_begin_25 : decode cX6_begin 25 = .ok (.aload_n 0, 1) := by decide +kernel
theorem dX6_begin_26 : decode cX6_begin 26 = .ok (.iload_n 1, 1) := by decide +kernel
theorem dX6_begin_27 : decode cX6_begin 27 = .ok (.invokevirtual 61, 3) := by decide +kernel
theorem dX6_begin_30 : decode cX6_begin 30 = .ok (.return_, 1) := by decide +kernel
set_option maxRecDepth 20000 in
theorem ggX6_countMoves_X6_canMove : GoodIn wsX6_countMoves wsX6_canMove := goodIn_r _ [6] (by decide +kernel) (by decide +kernel)
set_option maxRecDepth 20000 in
theorem gX6_countMoves_X6_canMove : GoodIn wsX6_countMoves (va_wsS RX6 102 yX6_canMove wsX6_canMove) := goodIn_app (goodIn_of _ (by decide +kernel)) ggX6_countMoves_X6_canMove
theorem dX6_countMoves_0 : decode cX6_countMoves 0 = .ok (.iconst 0, 1) := by decide +kernel
theorem dX6_countMoves_1 : decode cX6_countMoves 1 = .ok (.istore_n 2, 1) := by decide +kernel
theorem dX6_countMoves_2 : decode cX6_countMoves 2 = .ok (.iconst 0, 1) := by decide +kernel
theorem dX6_countMoves_3 : decode cX6_countMoves 3 = .ok (.istore_n 3, 1) := by decide +kernel
theorem dX6_countMoves_4 : decode cX6_countMoves 4 = .ok (.iload_n 3, 1) := by decide +kernel
theorem dX6_countMoves_5 : decode cX6_countMoves 5 = .ok (.bipush 15, 2) := by decide +kernel
theorem dX6_countMoves_7 : decode cX6_countMoves 7 = .ok (.if_icmp .ge 34, 3) := by decide +kernel
theorem dX6_countMoves_10 : decode cX6_countMoves 10 = .ok (.iload_n 2, 1) := by decide +kernel
theorem dX6_countMoves_11 : decode cX6_countMoves 11 = .ok (.aload_n 0, 1) := by decide +kernel
theorem dX6_countMoves_12 : decode cX6_countMoves 12 = .ok (.getfield 20, 3) := by decide +kernel
theorem dX6_countMoves_15 : decode cX6_countMoves 15 = .ok (.iconst 0, 1) := by decide +kernel
theorem dX6_countMoves_16 : decode cX6_countMoves 16 = .ok (.aload_n 0, 1) := by decide +kernel
theorem dX6_countMoves_17 : decode cX6_countMoves 17 = .ok (.getfield 128, 3) := by decide +kernel
theorem dX6_countMoves_20 : decode cX6_countMoves 20 = .ok (.iload_n 3, 1) := by decide +kernel
theorem dX6_countMoves_21 : decode cX6_countMoves 21 = .ok (.iload_n 1, 1) := by decide +kernel
theorem dX6_countMoves_22 : decode cX6_countMoves 22 = .ok (.invokestatic 102, 3) := by decide +kernel
theorem dX6_countMoves_25 : decode cX6_countMoves 25 = .ok (.ifCond .eq 7, 3) := by decide +kernel
theorem dX6_countMoves_28 : decode cX6_countMoves 28 = .ok (.iconst 1, 1) := by decide +kernel
theorem dX6_countMoves_29 : decode cX6_countMoves 29 = .ok (.goto 4, 3) := by decide +kernel
theorem dX6_countMoves_32 : decode cX6_countMoves 32 = .ok (.iconst 0, 1) := by decide +kernel
theorem dX6_countMoves_33 : decode cX6_countMoves 33 = .ok (.iadd, 1) := by decide +kernel
theorem dX6_countMoves_34 : decode cX6_countMoves 34 = .ok (.istore_n 2, 1) := by decide +kernel
theorem dX6_countMoves_35 : decode cX6_countMoves 35 = .ok (.iinc 3 1, 3) := by decide +kernel
theorem dX6_countMoves_38 : decode cX6_countMoves 38 = .ok (.goto (-34), 3) := by decide +kernel
theorem dX6_countMoves_41 : decode cX6_countMoves 41 = .ok (.iload_n 2, 1) := by decide +kernel
theorem dX6_countMoves_42 : decode cX6_countMoves 42 = .ok (.ireturn, 1) := by decide +kernel
set_option maxRecDepth 20000 in
theorem ggX6_tell_X6_in : GoodIn wsX6_tell wsX6_in := goodIn_r _ [9] (by decide +kernel) (by decide +kernel)
set_option maxRecDepth 20000 in
theorem gX6_tell_X6_in : GoodIn wsX6_tell (va_wsS RX6 67 yX6_in wsX6_in) := goodIn_app (goodIn_of _ (by decide +kernel)) ggX6_tell_X6_in
set_option maxRecDepth 20000 in
theorem ggX6_tell_X6_fails : GoodIn wsX6_tell wsX6_fails := goodIn_r _ [13, 1, 22, 23, 24, 25, 26, 27, 28, 29, 30, 31, 32, 33, 34, 35, 36, 37, 38, 39, 40] (by decide +kernel) (by decide +kernel)
set_option maxRecDepth 20000 in
theorem gX6_tell_X6_fails : GoodIn wsX6_tell (wsV RX6 143 RX6 yX6_fails wsX6_fails) := goodIn_app (goodIn_of _ (by decide +kernel)) ggX6_tell_X6_fails
set_option maxRecDepth 20000 in
theorem ggX6_tell_X6_countMoves : GoodIn wsX6_tell wsX6_countMoves := goodIn_r _ [17, 18, 5, 19, 20, 8, 21, 22, 23, 24, 25, 26, 27, 28, 29, 30, 31, 32, 33, 34, 35, 36, 37, 38, 39, 40] (by decide +kernel) (by decide +kernel)
set_option maxRecDepth 20000 in
theorem gX6_tell_X6_countMoves : GoodIn wsX6_tell (wsV RX6 147 RX6 yX6_countMoves wsX6_countMoves) := goodIn_app (goodIn_of _ (by decide +kernel)) ggX6_tell_X6_countMoves
theorem dX6_tell_0 : decode cX6_tell 0 = .ok (.aload_n 0, 1) := by decide +kernel
theorem dX6_tell_1 : decode cX6_tell 1 = .ok (.iconst 0, 1) := by decide +kernel
theorem dX6_tell_2 : decode cX6_tell 2 = .ok (.putfield 64, 3) := by decide +kernel
theorem dX6_tell_5 : decode cX6_tell 5 = .ok (.iload_n 1, 1) := by decide +kernel
theorem dX6_tell_6 : decode cX6_tell 6 = .ok (.iconst 0, 1) := by decide +kernel
theorem dX6_tell_7 : decode cX6_tell 7 = .ok (.iconst 4, 1) := by decide +kernel
theorem dX6_tell_8 : decode cX6_tell 8 = .ok (.invokestatic 67, 3) := by decide +kernel
theorem dX6_tell_11 : decode cX6_tell 11 = .ok (.ifCond .ne 9, 3) := by decide +kernel
theorem dX6_tell_14 : decode cX6_tell 14 = .ok (.aload_n 0, 1) := by decide +kernel
theorem dX6_tell_15 : decode cX6_tell 15 = .ok (.iconst 1, 1) := by decide +kernel
theorem dX6_tell_16 : decode cX6_tell 16 = .ok (.invokevirtual 143, 3) := by decide +kernel
theorem dX6_tell_19 : decode cX6_tell 19 = .ok (.ireturn, 1) := by decide +kernel
theorem dX6_tell_20 : decode cX6_tell 20 = .ok (.aload_n 0, 1) := by decide +kernel
theorem dX6_tell_21 : decode cX6_tell 21 = .ok (.getfield 13, 3) := by decide +kernel
theorem dX6_tell_24 : decode cX6_tell 24 = .ok (.iconst (-1), 1) := by decide +kernel
theorem dX6_tell_25 : decode cX6_tell 25 = .ok (.if_icmp .ne 11, 3) := by decide +kernel
theorem dX6_tell_28 : decode cX6_tell 28 = .ok (.aload_n 0, 1) := by decide +kernel
theorem dX6_tell_29 : decode cX6_tell 29 = .ok (.getfield 9, 3) := by decide +kernel
theorem dX6_tell_32 : decode cX6_tell 32 = .ok (.iconst (-1), 1) := by decide +kernel
theorem dX6_tell_33 : decode cX6_tell 33 = .ok (.if_icmp .eq 9, 3) := by decide +kernel
theorem dX6_tell_36 : decode cX6_tell 36 = .ok (.aload_n 0, 1) := by decide +kernel
theorem dX6_tell_37 : decode cX6_tell 37 = .ok (.iconst 2, 1) := by decide +kernel
theorem dX6_tell_38 : decode cX6_tell 38 = .ok (.invokevirtual 143, 3) := by decide +kernel
theorem dX6_tell_41 : decode cX6_tell 41 = .ok (.ireturn, 1) := by decide +kernel
theorem dX6_tell_42 : decode cX6_tell 42 = .ok (.aload_n 0, 1) := by decide +kernel
theorem dX6_tell_43 : decode cX6_tell 43 = .ok (.dup, 1) := by decide +kernel
theorem dX6_tell_44 : decode cX6_tell 44 = .ok (.getfield 140, 3) := by decide +kernel
theorem dX6_tell_47 : decode cX6_tell 47 = .ok (.iconst 1, 1) := by decide +kernel
theorem dX6_tell_48 : decode cX6_tell 48 = .ok (.iadd, 1) := by decide +kernel
theorem dX6_tell_49 : decode cX6_tell 49 = .ok (.putfield 140, 3) := by decide +kernel
theorem dX6_tell_52 : decode cX6_tell 52 = .ok (.aload_n 0, 1) := by decide +kernel
theorem dX6_tell_53 : decode cX6_tell 53 = .ok (.iload_n 1, 1) := by decide +kernel
theorem dX6_tell_54 : decode cX6_tell 54 = .ok (.invokevirtual 147, 3) := by decide +kernel
theorem dX6_tell_57 : decode cX6_tell 57 = .ok (.istore_n 2, 1) := by decide +kernel
theorem dX6_tell_58 : decode cX6_tell 58 = .ok (.aload_n 0, 1) := by decide +kernel
theorem dX6_tell_59 : decode cX6_tell 59 = .ok (.iload_n 2, 1) := by decide +kernel
theorem dX6_tell_60 : decode cX6_tell 60 = .ok (.ifCond .le 7, 3) := by decide +kernel
theorem dX6_tell_63 : decode cX6_tell 63 = .ok (.iload_n 1, 1) := by decide +kernel
theorem dX6_tell_64 : decode cX6_tell 64 = .ok (.goto 4, 3) := by decide +kernel
theorem dX6_tell_67 : decode cX6_tell 67 = .ok (.iconst (-1), 1) := by decide +kernel
theorem dX6_tell_68 : decode cX6_tell 68 = .ok (.putfield 9, 3) := by decide +kernel
theorem dX6_tell_71 : decode cX6_tell 71 = .ok (.aload_n 0, 1) := by decide +kernel
theorem dX6_tell_72 : decode cX6_tell 72 = .ok (.iload_n 2, 1) := by decide +kernel
theorem dX6_tell_73 : decode cX6_tell 73 = .ok (.ifCond .le 10, 3) := by decide +kernel
theorem dX6_tell_76 : decode cX6_tell 76 = .ok (.aload_n 0, 1) := by decide +kernel
theorem dX6_tell_77 : decode cX6_tell 77 = .ok (.getfield 128, 3) := by decide +kernel
theorem dX6_tell_80 : decode cX6_tell 80 = .ok (.goto 9, 3) := by decide +kernel
theorem dX6_tell_83 : decode cX6_tell 83 = .ok (.iconst 1, 1) := by decide +kernel
theorem dX6_tell_84 : decode cX6_tell 84 = .ok (.aload_n 0, 1) := by decide +kernel
theorem dX6_tell_85 : decode cX6_tell 85 = .ok (.getfield 128, 3) := by decide +kernel
theorem dX6_tell_88 : decode cX6_tell 88 = .ok (.isub, 1) := by decide +kernel
theorem dX6_tell_89 : decode cX6_tell 89 = .ok (.putfield 128, 3) := by decide +kernel
theorem dX6_tell_92 : decode cX6_tell 92 = .ok (.iload_n 2, 1) := by decide +kernel
theorem dX6_tell_93 : decode cX6_tell 93 = .ok (.ireturn, 1) := by decide +kernel
set_option maxRecDepth 20000 in
theorem ggX6_move_X6_in : GoodIn wsX6_move wsX6_in := goodIn_r _ [11] (by decide +kernel) (by decide +kernel)
set_option maxRecDepth 20000 in
theorem gX6_move_X6_in : GoodIn wsX6_move (va_wsS RX6 67 yX6_in wsX6_in) := goodIn_app (goodIn_of _ (by decide +kernel)) ggX6_move_X6_in
set_option maxRecDepth 20000 in
theorem ggX6_move_X6_fails : GoodIn wsX6_move wsX6_fails := goodIn_r _ [15, 1, 28, 29, 30, 31, 32, 33, 34, 35, 36, 37, 38, 39, 40, 41, 42, 43, 44, 45, 46] (by decide +kernel) (by decide +kernel)
set_option maxRecDepth 20000 in
theorem gX6_move_X6_fails : GoodIn wsX6_move (wsV RX6 143 RX6 yX6_fails wsX6_fails) := goodIn_app (goodIn_of _ (by decide +kernel)) ggX6_move_X6_fails
set_option maxRecDepth 20000 in
theorem ggX6_move_X6_canMove : GoodIn wsX6_move wsX6_canMove := goodIn_r _ [18] (by decide +kernel) (by decide +kernel)
set_option maxRecDepth 20000 in
theorem gX6_move_X6_canMove : GoodIn wsX6_move (va_wsS RX6 102 yX6_canMove wsX6_canMove) := goodIn_app (goodIn_of _ (by decide +kernel)) ggX6_move_X6_canMove
set_option maxRecDepth 20000 in
theorem ggX6_move_X6_shifts : GoodIn wsX6_move wsX6_shifts := goodIn_r _ [21, 22, 23, 10, 24, 8, 9, 11] (by decide +kernel) (by decide +kernel)
set_option maxRecDepth 20000 in
theorem gX6_move_X6_shifts : GoodIn wsX6_move (va_wsS RX6 109 yX6_shifts wsX6_shifts) := goodIn_app (goodIn_of _ (by decide +kernel)) ggX6_move_X6_shifts
set_option maxRecDepth 20000 in
theorem ggX6_move_X6_isRosette : GoodIn wsX6_move wsX6_isRosette := goodIn_r _ [27] (by decide +kernel) (by decide +kernel)
set_option maxRecDepth 20000 in
theorem gX6_move_X6_isRosette : GoodIn wsX6_move (va_wsS RX6 76 yX6_isRosette wsX6_isRosette) := goodIn_app (goodIn_of _ (by decide +kernel)) ggX6_move_X6_isRosette
theorem dX6_move_0 : decode cX6_move 0 = .ok (.aload_n 0, 1) := by decide +kernel
theorem dX6_move_1 : decode cX6_move 1 = .ok (.iconst 0, 1) := by decide +kernel
theorem dX6_move_2 : decode cX6_move 2 = .ok (.putfield 64, 3) := by decide +kernel
theorem dX6_move_5 : decode cX6_move 5 = .ok (.iload_n 1, 1) := by decide +kernel
theorem dX6_move_6 : decode cX6_move 6 = .ok (.iconst 0, 1) := by decide +kernel
theorem dX6_move_7 : decode cX6_move 7 = .ok (.bipush 14, 2) := by decide +kernel
theorem dX6_move_9 : decode cX6_move 9 = .ok (.invokestatic 67, 3) := by decide +kernel
theorem dX6_move_12 : decode cX6_move 12 = .ok (.ifCond .ne 9, 3) := by decide +kernel
theorem dX6_move_15 : decode cX6_move 15 = .ok (.aload_n 0, 1) := by decide +kernel
theorem dX6_move_16 : decode cX6_move 16 = .ok (.iconst 1, 1) := by decide +kernel
theorem dX6_move_17 : decode cX6_move 17 = .ok (.invokevirtual 143, 3) := by decide +kernel
theorem dX6_move_20 : decode cX6_move 20 = .ok (.ireturn, 1) := by decide +kernel
theorem dX6_move_21 : decode cX6_move 21 = .ok (.aload_n 0, 1) := by decide +kernel
theorem dX6_move_22 : decode cX6_move 22 = .ok (.getfield 9, 3) := by decide +kernel
theorem dX6_move_25 : decode cX6_move 25 = .ok (.iconst (-1), 1) := by decide +kernel
theorem dX6_move_26 : decode cX6_move 26 = .ok (.if_icmp .eq 23, 3) := by decide +kernel
theorem dX6_move_29 : decode cX6_move 29 = .ok (.aload_n 0, 1) := by decide +kernel
theorem dX6_move_30 : decode cX6_move 30 = .ok (.getfield 20, 3) := by decide +kernel
theorem dX6_move_33 : decode cX6_move 33 = .ok (.iconst 0, 1) := by decide +kernel
theorem dX6_move_34 : decode cX6_move 34 = .ok (.aload_n 0, 1) := by decide +kernel
theorem dX6_move_35 : decode cX6_move 35 = .ok (.getfield 128, 3) := by decide +kernel
theorem dX6_move_38 : decode cX6_move 38 = .ok (.iload_n 1, 1) := by decide +kernel
theorem dX6_move_39 : decode cX6_move 39 = .ok (.aload_n 0, 1) := by decide +kernel
theorem dX6_move_40 : decode cX6_move 40 = .ok (.getfield 9, 3) := by decide +kernel
theorem dX6_move_43 : decode cX6_move 43 = .ok (.invokestatic 102, 3) := by decide +kernel
theorem dX6_move_46 : decode cX6_move 46 = .ok (.ifCond .ne 9, 3) := by decide +kernel
theorem dX6_move_49 : decode cX6_move 49 = .ok (.aload_n 0, 1) := by decide +kernel
theorem dX6_move_50 : decode cX6_move 50 = .ok (.iconst 2, 1) := by decide +kernel
theorem dX6_move_51 : decode cX6_move 51 = .ok (.invokevirtual 143, 3) := by decide +kernel
theorem dX6_move_54 : decode cX6_move 54 = .ok (.ireturn, 1) := by decide +kernel
theorem dX6_move_55 : decode cX6_move 55 = .ok (.aload_n 0, 1) := by decide +kernel
theorem dX6_move_56 : decode cX6_move 56 = .ok (.getfield 16, 3) := by decide +kernel
theorem dX6_move_59 : decode cX6_move 59 = .ok (.iconst 1, 1) := by decide +kernel
theorem dX6_move_60 : decode cX6_move 60 = .ok (.aload_n 0, 1) := by decide +kernel
theorem dX6_move_61 : decode cX6_move 61 = .ok (.getfield 128, 3) := by decide +kernel
theorem dX6_move_64 : decode cX6_move 64 = .ok (.isub, 1) := by decide +kernel
theorem dX6_move_65 : decode cX6_move 65 = .ok (.dup2, 1) := by decide +kernel
theorem dX6_move_66 : decode cX6_move 66 = .ok (.iaload, 1) := by decide +kernel
theorem dX6_move_67 : decode cX6_move 67 = .ok (.aload_n 0, 1) := by decide +kernel
theorem dX6_move_68 : decode cX6_move 68 = .ok (.getfield 20, 3) := by decide +kernel
theorem dX6_move_71 : decode cX6_move 71 = .ok (.iconst 0, 1) := by decide +kernel
theorem dX6_move_72 : decode cX6_move 72 = .ok (.aload_n 0, 1) := by decide +kernel
theorem dX6_move_73 : decode cX6_move 73 = .ok (.getfield 128, 3) := by decide +kernel
theorem dX6_move_76 : decode cX6_move 76 = .ok (.iload_n 1, 1) := by decide +kernel
theorem dX6_move_77 : decode cX6_move 77 = .ok (.aload_n 0, 1) := by decide +kernel
theorem dX6_move_78 : decode cX6_move 78 = .ok (.getfield 9, 3) := by decide +kernel
theorem dX6_move_81 : decode cX6_move 81 = .ok (.invokestatic 109, 3) := by decide +kernel
theorem dX6_move_84 : decode cX6_move 84 = .ok (.iadd, 1) := by decide +kernel
theorem dX6_move_85 : decode cX6_move 85 = .ok (.iastore, 1) := by decide +kernel
theorem dX6_move_86 : decode cX6_move 86 = .ok (.iload_n 1, 1) := by decide +kernel
theorem dX6_move_87 : decode cX6_move 87 = .ok (.aload_n 0, 1) := by decide +kernel
theorem dX6_move_88 : decode cX6_move 88 = .ok (.getfield 9, 3) := by decide +kernel
theorem dX6_move_91 : decode cX6_move 91 = .ok (.iadd, 1) := by decide +kernel
theorem dX6_move_92 : decode cX6_move 92 = .ok (.istore_n 2, 1) := by decide +kernel
theorem dX6_move_93 : decode cX6_move 93 = .ok (.aload_n 0, 1) := by decide +kernel
theorem dX6_move_94 : decode cX6_move 94 = .ok (.iconst (-1), 1) := by decide +kernel
theorem dX6_move_95 : decode cX6_move 95 = .ok (.putfield 9, 3) := by decide +kernel
theorem dX6_move_98 : decode cX6_move 98 = .ok (.aload_n 0, 1) := by decide +kernel
theorem dX6_move_99 : decode cX6_move 99 = .ok (.aload_n 0, 1) := by decide +kernel
theorem dX6_move_100 : decode cX6_move 100 = .ok (.getfield 20, 3) := by decide +kernel
theorem dX6_move_103 : decode cX6_move 103 = .ok (.bipush 16, 2) := by decide +kernel
theorem dX6_move_105 : decode cX6_move 105 = .ok (.aload_n 0, 1) := by decide +kernel
theorem dX6_move_106 : decode cX6_move 106 = .ok (.getfield 128, 3) := by decide +kernel
theorem dX6_move_109 : decode cX6_move 109 = .ok (.imul, 1) := by decide +kernel
theorem dX6_move_110 : decode cX6_move 110 = .ok (.bipush 15, 2) := by decide +kernel
theorem dX6_move_112 : decode cX6_move 112 = .ok (.iadd, 1) := by decide +kernel
theorem dX6_move_113 : decode cX6_move 113 = .ok (.iaload, 1) := by decide +kernel
theorem dX6_move_114 : decode cX6_move 114 = .ok (.aload_n 0, 1) := by decide +kernel
theorem dX6_move_115 : decode cX6_move 115 = .ok (.getfield 90, 3) := by decide +kernel
theorem dX6_move_118 : decode cX6_move 118 = .ok (.if_icmp .ne 10, 3) := by decide +kernel
theorem dX6_move_121 : decode cX6_move 121 = .ok (.aload_n 0, 1) := by decide +kernel
theorem dX6_move_122 : decode cX6_move 122 = .ok (.getfield 128, 3) := by decide +kernel
theorem dX6_move_125 : decode cX6_move 125 = .ok (.goto 4, 3) := by decide +kernel
theorem dX6_move_128 : decode cX6_move 128 = .ok (.iconst (-1), 1) := by decide +kernel
theorem dX6_move_129 : decode cX6_move 129 = .ok (.putfield 13, 3) := by decide +kernel
theorem dX6_move_132 : decode cX6_move 132 = .ok (.aload_n 0, 1) := by decide +kernel
theorem dX6_move_133 : decode cX6_move 133 = .ok (.iload_n 2, 1) := by decide +kernel
theorem dX6_move_134 : decode cX6_move 134 = .ok (.invokestatic 76, 3) := by decide +kernel
theorem dX6_move_137 : decode cX6_move 137 = .ok (.ifCond .eq 10, 3) := by decide +kernel
theorem dX6_move_140 : decode cX6_move 140 = .ok (.aload_n 0, 1) := by decide +kernel
theorem dX6_move_141 : decode cX6_move 141 = .ok (.getfield 128, 3) := by decide +kernel
theorem dX6_move_144 : decode cX6_move 144 = .ok (.goto 9, 3) := by decide +kernel
theorem dX6_move_147 : decode cX6_move 147 = .ok (.iconst 1, 1) := by decide +kernel
theorem dX6_move_148 : decode cX6_move 148 = .ok (.aload_n 0, 1) := by decide +kernel
theorem dX6_move_149 : decode cX6_move 149 = .ok (.getfield 128, 3) := by decide +kernel
theorem dX6_move_152 : decode cX6_move 152 = .ok (.isub, 1) := by decide +kernel
theorem dX6_move_153 : decode cX6_move 153 = .ok (.putfield 128, 3) := by decide +kernel
theorem dX6_move_156 : decode cX6_move 156 = .ok (.iload_n 2, 1) := by decide +kernel
theorem dX6_move_157 : decode cX6_move 157 = .ok (.ireturn, 1) := by decide +kernel
theorem dX6_turn_0 : decode cX6_turn 0 = .ok (.aload_n 0, 1) := by decide +kernel
theorem dX6_turn_1 : decode cX6_turn 1 = .ok (.iconst 0, 1) := by decide +kernel
theorem dX6_turn_2 : decode cX6_turn 2 = .ok (.putfield 64, 3) := by decide +kernel
theorem dX6_turn_5 : decode cX6_turn 5 = .ok (.aload_n 0, 1) := by decide +kernel
theorem dX6_turn_6 : decode cX6_turn 6 = .ok (.getfield 128, 3) := by decide +kernel
theorem dX6_turn_9 : decode cX6_turn 9 = .ok (.ireturn, 1) := by decide +kernel
theorem dX6_marks_0 : decode cX6_marks 0 = .ok (.aload_n 0, 1) := by decide +kernel
theorem dX6_marks_1 : decode cX6_marks 1 = .ok (.iconst 0, 1) := by decide +kernel
theorem dX6_marks_2 : decode cX6_marks 2 = .ok (.putfield 64, 3) := by decide +kernel
theorem dX6_marks_5 : decode cX6_marks 5 = .ok (.aload_n 0, 1) := by decide +kernel
theorem dX6_marks_6 : decode cX6_marks 6 = .ok (.getfield 9, 3) := by decide +kernel
theorem dX6_marks_9 : decode cX6_marks 9 = .ok (.ireturn, 1) := by decide +kernel
theorem dX6_winner_0 : decode cX6_winner 0 = .ok (.aload_n 0, 1) := by decide +kernel
theorem dX6_winner_1 : decode cX6_winner 1 = .ok (.iconst 0, 1) := by decide +kernel
theorem dX6_winner_2 : decode cX6_winner 2 = .ok (.putfield 64, 3) := by decide +kernel
theorem dX6_winner_5 : decode cX6_winner 5 = .ok (.aload_n 0, 1) := by decide +kernel
theorem dX6_winner_6 : decode cX6_winner 6 = .ok (.getfield 13, 3) := by decide +kernel
theorem dX6_winner_9 : decode cX6_winner 9 = .ok (.ireturn, 1) := by decide +kernel
set_option maxRecDepth 20000 in
theorem ggX6_at_X6_in : GoodIn wsX6_at wsX6_in := goodIn_r _ [6] (by decide +kernel) (by decide +kernel)
set_option maxRecDepth 20000 in
theorem gX6_at_X6_in : GoodIn wsX6_at (va_wsS RX6 67 yX6_in wsX6_in) := goodIn_app (goodIn_of _ (by decide +kernel)) ggX6_at_X6_in
set_option maxRecDepth 20000 in
theorem ggX6_at_X6_fails : GoodIn wsX6_at wsX6_fails := goodIn_r _ [10, 1, 11, 12, 13, 14, 15, 16, 17, 18, 19, 20, 21, 22, 23, 24, 25, 26, 27, 28, 29] (by decide +kernel) (by decide +kernel)
set_option maxRecDepth 20000 in
theorem gX6_at_X6_fails : GoodIn wsX6_at (wsV RX6 143 RX6 yX6_fails wsX6_fails) := goodIn_app (goodIn_of _ (by decide +kernel)) ggX6_at_X6_fails
theorem dX6_at_0 : decode cX6_at 0 = .ok (.aload_n 0, 1) := by decide +kernel
theorem dX6_at_1 : decode cX6_at 1 = .ok (.iconst 0, 1) := by decide +kernel
theorem dX6_at_2 : decode cX6_at 2 = .ok (.putfield 64, 3) := by decide +kernel
theorem dX6_at_5 : decode cX6_at 5 = .ok (.iload_n 1, 1) := by decide +kernel
theorem dX6_at_6 : decode cX6_at 6 = .ok (.iconst 0, 1) := by decide +kernel
theorem dX6_at_7 : decode cX6_at 7 = .ok (.iconst 1, 1) := by decide +kernel
theorem dX6_at_8 : decode cX6_at 8 = .ok (.invokestatic 67, 3) := by decide +kernel
theorem dX6_at_11 : decode cX6_at 11 = .ok (.ifCond .eq 27, 3) := by decide +kernel
theorem dX6_at_14 : decode cX6_at 14 = .ok (.iload_n 2, 1) := by decide +kernel
theorem dX6_at_15 : decode cX6_at 15 = .ok (.iconst 0, 1) := by decide +kernel
theorem dX6_at_16 : decode cX6_at 16 = .ok (.bipush 15, 2) := by decide +kernel
theorem dX6_at_18 : decode cX6_at 18 = .ok (.invokestatic 67, 3) := by decide +kernel
theorem dX6_at_21 : decode cX6_at 21 = .ok (.ifCond .eq 17, 3) := by decide +kernel
theorem dX6_at_24 : decode cX6_at 24 = .ok (.aload_n 0, 1) := by decide +kernel
theorem dX6_at_25 : decode cX6_at 25 = .ok (.getfield 20, 3) := by decide +kernel
theorem dX6_at_28 : decode cX6_at 28 = .ok (.bipush 16, 2) := by decide +kernel
theorem dX6_at_30 : decode cX6_at 30 = .ok (.iload_n 1, 1) := by decide +kernel
theorem dX6_at_31 : decode cX6_at 31 = .ok (.imul, 1) := by decide +kernel
theorem dX6_at_32 : decode cX6_at 32 = .ok (.iload_n 2, 1) := by decide +kernel
theorem dX6_at_33 : decode cX6_at 33 = .ok (.iadd, 1) := by decide +kernel
theorem dX6_at_34 : decode cX6_at 34 = .ok (.iaload, 1) := by decide +kernel
theorem dX6_at_35 : decode cX6_at 35 = .ok (.goto 8, 3) := by decide +kernel
theorem dX6_at_38 : decode cX6_at 38 = .ok (.aload_n 0, 1) := by decide +kernel
theorem dX6_at_39 : decode cX6_at 39 = .ok (.iconst 1, 1) := by decide +kernel
theorem dX6_at_40 : decode cX6_at 40 = .ok (.invokevirtual 143, 3) := by decide +kernel
theorem dX6_at_43 : decode cX6_at 43 = .ok (.ireturn, 1) := by decide +kernel
set_option maxRecDepth 20000 in
theorem ggX6_progress_X6_in : GoodIn wsX6_progress wsX6_in := goodIn_r _ [6] (by decide +kernel) (by decide +kernel)
set_option maxRecDepth 20000 in
theorem gX6_progress_X6_in : GoodIn wsX6_progress (va_wsS RX6 67 yX6_in wsX6_in) := goodIn_app (goodIn_of _ (by decide +kernel)) ggX6_progress_X6_in
set_option maxRecDepth 20000 in
theorem ggX6_progress_X6_progressOf : GoodIn wsX6_progress wsX6_progressOf := goodIn_r _ [10] (by decide +kernel) (by decide +kernel)
set_option maxRecDepth 20000 in
theorem gX6_progress_X6_progressOf : GoodIn wsX6_progress (wsV RX6 98 RX6 yX6_progressOf wsX6_progressOf) := goodIn_app (goodIn_of _ (by decide +kernel)) ggX6_progress_X6_progressOf
set_option maxRecDepth 20000 in
theorem ggX6_progress_X6_fails : GoodIn wsX6_progress wsX6_fails := goodIn_r _ [14, 1, 15, 16, 17, 18, 19, 20, 21, 22, 23, 24, 25, 26, 27, 28, 29, 30, 31, 32, 33] (by decide +kernel) (by decide +kernel)
set_option maxRecDepth 20000 in
theorem gX6_progress_X6_fails : GoodIn wsX6_progress (wsV RX6 143 RX6 yX6_fails wsX6_fails) := goodIn_app (goodIn_of _ (by decide +kernel)) ggX6_progress_X6_fails
theorem dX6_progress_0 : decode cX6_progress 0 = .ok (.aload_n 0, 1) := by decide +kernel
theorem dX6_progress_1 : decode cX6_progress 1 = .ok (.iconst 0, 1) := by decide +kernel
theorem dX6_progress_2 : decode cX6_progress 2 = .ok (.putfield 64, 3) := by decide +kernel
theorem dX6_progress_5 : decode cX6_progress 5 = .ok (.iload_n 1, 1) := by decide +kernel
theorem dX6_progress_6 : decode cX6_progress 6 = .ok (.iconst 0, 1) := by decide +kernel
theorem dX6_progress_7 : decode cX6_progress 7 = .ok (.iconst 1, 1) := by decide +kernel
theorem dX6_progress_8 : decode cX6_progress 8 = .ok (.invokestatic 67, 3) := by decide +kernel
theorem dX6_progress_11 : decode cX6_progress 11 = .ok (.ifCond .eq 16, 3) := by decide +kernel
theorem dX6_progress_14 : decode cX6_progress 14 = .ok (.aload_n 0, 1) := by decide +kernel
theorem dX6_progress_15 : decode cX6_progress 15 = .ok (.aload_n 0, 1) := by decide +kernel
theorem dX6_progress_16 : decode cX6_progress 16 = .ok (.getfield 20, 3) := by decide +kernel
theorem dX6_progress_19 : decode cX6_progress 19 = .ok (.iconst 0, 1) := by decide +kernel
theorem dX6_progress_20 : decode cX6_progress 20 = .ok (.iload_n 1, 1) := by decide +kernel
theorem dX6_progress_21 : decode cX6_progress 21 = .ok (.invokevirtual 98, 3) := by decide +kernel
theorem dX6_progress_24 : decode cX6_progress 24 = .ok (.goto 8, 3) := by decide +kernel
theorem dX6_progress_27 : decode cX6_progress 27 = .ok (.aload_n 0, 1) := by decide +kernel
theorem dX6_progress_28 : decode cX6_progress 28 = .ok (.iconst 1, 1) := by decide +kernel
theorem dX6_progress_29 : decode cX6_progress 29 = .ok (.invokevirtual 143, 3) := by decide +kernel
theorem dX6_progress_32 : decode cX6_progress 32 = .ok (.ireturn, 1) := by decide +kernel
set_option maxRecDepth 20000 in
theorem ggX6_captured_X6_in : GoodIn wsX6_captured wsX6_in := goodIn_r _ [6] (by decide +kernel) (by decide +kernel)
set_option maxRecDepth 20000 in
theorem gX6_captured_X6_in : GoodIn wsX6_captured (va_wsS RX6 67 yX6_in wsX6_in) := goodIn_app (goodIn_of _ (by decide +kernel)) ggX6_captured_X6_in
set_option maxRecDepth 20000 in
theorem ggX6_captured_X6_fails : GoodIn wsX6_captured wsX6_fails := goodIn_r _ [10, 1, 11, 12, 13, 14, 15, 16, 17, 18, 19, 20, 21, 22, 23, 24, 25, 26, 27, 28, 29] (by decide +kernel) (by decide +kernel)
set_option maxRecDepth 20000 in
theorem gX6_captured_X6_fails : GoodIn wsX6_captured (wsV RX6 143 RX6 yX6_fails wsX6_fails) := goodIn_app (goodIn_of _ (by decide +kernel)) ggX6_captured_X6_fails
theorem dX6_captured_0 : decode cX6_captured 0 = .ok (.aload_n 0, 1) := by decide +kernel
theorem dX6_captured_1 : decode cX6_captured 1 = .ok (.iconst 0, 1) := by decide +kernel
theorem dX6_captured_2 : decode cX6_captured 2 = .ok (.putfield 64, 3) := by decide +kernel
theorem dX6_captured_5 : decode cX6_captured 5 = .ok (.iload_n 1, 1) := by decide +kernel
theorem dX6_captured_6 : decode cX6_captured 6 = .ok (.iconst 0, 1) := by decide +kernel
theorem dX6_captured_7 : decode cX6_captured 7 = .ok (.iconst 1, 1) := by decide +kernel
theorem dX6_captured_8 : decode cX6_captured 8 = .ok (.invokestatic 67, 3) := by decide +kernel
theorem dX6_captured_11 : decode cX6_captured 11 = .ok (.ifCond .eq 12, 3) := by decide +kernel
theorem dX6_captured_14 : decode cX6_captured 14 = .ok (.aload_n 0, 1) := by decide +kernel
theorem dX6_captured_15 : decode cX6_captured 15 = .ok (.getfield 16, 3) := by decide +kernel
theorem dX6_captured_18 : decode cX6_captured 18 = .ok (.iload_n 1, 1) := by decide +kernel
theorem dX6_captured_19 : decode cX6_captured 19 = .ok (.iaload, 1) := by decide +kernel
theorem dX6_captured_20 : decode cX6_captured 20 = .ok (.goto 8, 3) := by decide +kernel
theorem dX6_captured_23 : decode cX6_captured 23 = .ok (.aload_n 0, 1) := by decide +kernel
theorem dX6_captured_24 : decode cX6_captured 24 = .ok (.iconst 1, 1) := by decide +kernel
theorem dX6_captured_25 : decode cX6_captured 25 = .ok (.invokevirtual 143, 3) := by decide +kernel
theorem dX6_captured_28 : decode cX6_captured 28 = .ok (.ireturn, 1) := by decide +kernel
theorem dX6_throwsTold_0 : decode cX6_throwsTold 0 = .ok (.aload_n 0, 1) := by decide +kernel
theorem dX6_throwsTold_1 : decode cX6_throwsTold 1 = .ok (.iconst 0, 1) := by decide +kernel
theorem dX6_throwsTold_2 : decode cX6_throwsTold 2 = .ok (.putfield 64, 3) := by decide +kernel
theorem dX6_throwsTold_5 : decode cX6_throwsTold 5 = .ok (.aload_n 0, 1) := by decide +kernel
theorem dX6_throwsTold_6 : decode cX6_throwsTold 6 = .ok (.getfield 140, 3) := by decide +kernel
theorem dX6_throwsTold_9 : decode cX6_throwsTold 9 = .ok (.ireturn, 1) := by decide +kernel
set_option maxRecDepth 20000 in
theorem ggX6_moves_X6_countMoves : GoodIn wsX6_moves wsX6_countMoves := goodIn_r _ [7, 8, 9, 10, 11, 6, 12, 13, 14, 15, 16, 17, 18, 19, 20, 21, 22, 23, 24, 25, 26, 27, 28, 29, 30, 31] (by decide +kernel) (by decide +kernel)
set_option maxRecDepth 20000 in
theorem gX6_moves_X6_countMoves : GoodIn wsX6_moves (wsV RX6 147 RX6 yX6_countMoves wsX6_countMoves) := goodIn_app (goodIn_of _ (by decide +kernel)) ggX6_moves_X6_countMoves
theorem dX6_moves_0 : decode cX6_moves 0 = .ok (.aload_n 0, 1) := by decide +kernel
theorem dX6_moves_1 : decode cX6_moves 1 = .ok (.iconst 0, 1) := by decide +kernel
theorem dX6_moves_2 : decode cX6_moves 2 = .ok (.putfield 64, 3) := by decide +kernel
theorem dX6_moves_5 : decode cX6_moves 5 = .ok (.aload_n 0, 1) := by decide +kernel
theorem dX6_moves_6 : decode cX6_moves 6 = .ok (.getfield 9, 3) := by decide +kernel
theorem dX6_moves_9 : decode cX6_moves 9 = .ok (.iconst (-1), 1) := by decide +kernel
theorem dX6_moves_10 : decode cX6_moves 10 = .ok (.if_icmp .ne 7, 3) := by decide +kernel
theorem dX6_moves_13 : decode cX6_moves 13 = .ok (.iconst 0, 1) := by decide +kernel
theorem dX6_moves_14 : decode cX6_moves 14 = .ok (.goto 11, 3) := by decide +kernel
theorem dX6_moves_17 : decode cX6_moves 17 = .ok (.aload_n 0, 1) := by decide +kernel
theorem dX6_moves_18 : decode cX6_moves 18 = .ok (.aload_n 0, 1) := by decide +kernel
theorem dX6_moves_19 : decode cX6_moves 19 = .ok (.getfield 9, 3) := by decide +kernel
theorem dX6_moves_22 : decode cX6_moves 22 = .ok (.invokevirtual 147, 3) := by decide +kernel
theorem dX6_moves_25 : decode cX6_moves 25 = .ok (.ireturn, 1) := by decide +kernel
set_option maxRecDepth 20000 in
theorem ggX6_moveAt_X6_canMove : GoodIn wsX6_moveAt wsX6_canMove := goodIn_r _ [8] (by decide +kernel) (by decide +kernel)
set_option maxRecDepth 20000 in
theorem gX6_moveAt_X6_canMove : GoodIn wsX6_moveAt (va_wsS RX6 102 yX6_canMove wsX6_canMove) := goodIn_app (goodIn_of _ (by decide +kernel)) ggX6_moveAt_X6_canMove
theorem dX6_moveAt_0 : decode cX6_moveAt 0 = .ok (.aload_n 0, 1) := by decide +kernel
theorem dX6_moveAt_1 : decode cX6_moveAt 1 = .ok (.iconst 0, 1) := by decide +kernel
theorem dX6_moveAt_2 : decode cX6_moveAt 2 = .ok (.putfield 64, 3) := by decide +kernel
theorem dX6_moveAt_5 : decode cX6_moveAt 5 = .ok (.iload_n 1, 1) := by decide +kernel
theorem dX6_moveAt_6 : decode cX6_moveAt 6 = .ok (.istore_n 2, 1) := by decide +kernel
theorem dX6_moveAt_7 : decode cX6_moveAt 7 = .ok (.iconst (-1), 1) := by decide +kernel
theorem dX6_moveAt_8 : decode cX6_moveAt 8 = .ok (.istore_n 3, 1) := by decide +kernel
theorem dX6_moveAt_9 : decode cX6_moveAt 9 = .ok (.iconst 0, 1) := by decide +kernel
theorem dX6_moveAt_10 : decode cX6_moveAt 10 = .ok (.istore 4, 2) := by decide +kernel
theorem dX6_moveAt_12 : decode cX6_moveAt 12 = .ok (.iload 4, 2) := by decide +kernel
theorem dX6_moveAt_14 : decode cX6_moveAt 14 = .ok (.bipush 15, 2) := by decide +kernel
theorem dX6_moveAt_16 : decode cX6_moveAt 16 = .ok (.if_icmp .ge 52, 3) := by decide +kernel
theorem dX6_moveAt_19 : decode cX6_moveAt 19 = .ok (.aload_n 0, 1) := by decide +kernel
theorem dX6_moveAt_20 : decode cX6_moveAt 20 = .ok (.getfield 9, 3) := by decide +kernel
theorem dX6_moveAt_23 : decode cX6_moveAt 23 = .ok (.iconst (-1), 1) := by decide +kernel
theorem dX6_moveAt_24 : decode cX6_moveAt 24 = .ok (.if_icmp .eq 44, 3) := by decide +kernel
theorem dX6_moveAt_27 : decode cX6_moveAt 27 = .ok (.aload_n 0, 1) := by decide +kernel
theorem dX6_moveAt_28 : decode cX6_moveAt 28 = .ok (.getfield 20, 3) := by decide +kernel
theorem dX6_moveAt_31 : decode cX6_moveAt 31 = .ok (.iconst 0, 1) := by decide +kernel
theorem dX6_moveAt_32 : decode cX6_moveAt 32 = .ok (.aload_n 0, 1) := by decide +kernel
theorem dX6_moveAt_33 : decode cX6_moveAt 33 = .ok (.getfield 128, 3) := by decide +kernel
theorem dX6_moveAt_36 : decode cX6_moveAt 36 = .ok (.iload 4, 2) := by decide +kernel
theorem dX6_moveAt_38 : decode cX6_moveAt 38 = .ok (.aload_n 0, 1) := by decide +kernel
theorem dX6_moveAt_39 : decode cX6_moveAt 39 = .ok (.getfield 9, 3) := by decide +kernel
theorem dX6_moveAt_42 : decode cX6_moveAt 42 = .ok (.invokestatic 102, 3) := by decide +kernel
theorem dX6_moveAt_45 : decode cX6_moveAt 45 = .ok (.ifCond .eq 17, 3) := by decide +kernel
theorem dX6_moveAt_48 : decode cX6_moveAt 48 = .ok (.iload_n 2, 1) := by decide +kernel
theorem dX6_moveAt_49 : decode cX6_moveAt 49 = .ok (.ifCond .ne 8, 3) := by decide +kernel
theorem dX6_moveAt_52 : decode cX6_moveAt 52 = .ok (.iload 4, 2) := by decide +kernel
theorem dX6_moveAt_54 : decode cX6_moveAt 54 = .ok (.goto 4, 3) := by decide +kernel
theorem dX6_moveAt_57 : decode cX6_moveAt 57 = .ok (.iload_n 3, 1) := by decide +kernel
theorem dX6_moveAt_58 : decode cX6_moveAt 58 = .ok (.istore_n 3, 1) := by decide +kernel
theorem dX6_moveAt_59 : decode cX6_moveAt 59 = .ok (.iinc 2 (-1), 3) := by decide +kernel
theorem dX6_moveAt_62 : decode cX6_moveAt 62 = .ok (.iinc 4 1, 3) := by decide +kernel
theorem dX6_moveAt_65 : decode cX6_moveAt 65 = .ok (.goto (-53), 3) := by decide +kernel
theorem dX6_moveAt_68 : decode cX6_moveAt 68 = .ok (.iload_n 1, 1) := by decide +kernel
theorem dX6_moveAt_69 : decode cX6_moveAt 69 = .ok (.ifCond .ge 7, 3) := by decide +kernel
theorem dX6_moveAt_72 : decode cX6_moveAt 72 = .ok (.iconst (-1), 1) := by decide +kernel
theorem dX6_moveAt_73 : decode cX6_moveAt 73 = .ok (.goto 4, 3) := by decide +kernel
theorem dX6_moveAt_76 : decode cX6_moveAt 76 = .ok (.iload_n 3, 1) := by decide +kernel
theorem dX6_moveAt_77 : decode cX6_moveAt 77 = .ok (.ireturn, 1) := by decide +kernel
set_option maxRecDepth 20000 in
theorem ggX6_captures_X6_in : GoodIn wsX6_captures wsX6_in := goodIn_r _ [8] (by decide +kernel) (by decide +kernel)
set_option maxRecDepth 20000 in
theorem gX6_captures_X6_in : GoodIn wsX6_captures (va_wsS RX6 67 yX6_in wsX6_in) := goodIn_app (goodIn_of _ (by decide +kernel)) ggX6_captures_X6_in
set_option maxRecDepth 20000 in
theorem ggX6_captures_X6_canMove : GoodIn wsX6_captures wsX6_canMove := goodIn_r _ [11] (by decide +kernel) (by decide +kernel)
set_option maxRecDepth 20000 in
theorem gX6_captures_X6_canMove : GoodIn wsX6_captures (va_wsS RX6 102 yX6_canMove wsX6_canMove) := goodIn_app (goodIn_of _ (by decide +kernel)) ggX6_captures_X6_canMove
set_option maxRecDepth 20000 in
theorem ggX6_captures_X6_isShared : GoodIn wsX6_captures wsX6_isShared := goodIn_r _ [14, 5, 6, 7, 8] (by decide +kernel) (by decide +kernel)
set_option maxRecDepth 20000 in
theorem gX6_captures_X6_isShared : GoodIn wsX6_captures (va_wsS RX6 72 yX6_isShared wsX6_isShared) := goodIn_app (goodIn_of _ (by decide +kernel)) ggX6_captures_X6_isShared
theorem dX6_captures_0 : decode cX6_captures 0 = .ok (.aload_n 0, 1) := by decide +kernel
theorem dX6_captures_1 : decode cX6_captures 1 = .ok (.iload_n 1, 1) := by decide +kernel
theorem dX6_captures_2 : decode cX6_captures 2 = .ok (.iconst 0, 1) := by decide +kernel
theorem dX6_captures_3 : decode cX6_captures 3 = .ok (.bipush 14, 2) := by decide +kernel
theorem dX6_captures_5 : decode cX6_captures 5 = .ok (.invokestatic 67, 3) := by decide +kernel
theorem dX6_captures_8 : decode cX6_captures 8 = .ok (.ifCond .eq 7, 3) := by decide +kernel
theorem dX6_captures_11 : decode cX6_captures 11 = .ok (.iconst 0, 1) := by decide +kernel
theorem dX6_captures_12 : decode cX6_captures 12 = .ok (.goto 4, 3) := by decide +kernel
theorem dX6_captures_15 : decode cX6_captures 15 = .ok (.iconst 1, 1) := by decide +kernel
theorem dX6_captures_16 : decode cX6_captures 16 = .ok (.putfield 64, 3) := by decide +kernel
theorem dX6_captures_19 : decode cX6_captures 19 = .ok (.aload_n 0, 1) := by decide +kernel
theorem dX6_captures_20 : decode cX6_captures 20 = .ok (.getfield 64, 3) := by decide +kernel
theorem dX6_captures_23 : decode cX6_captures 23 = .ok (.ifCond .ne 72, 3) := by decide +kernel
theorem dX6_captures_26 : decode cX6_captures 26 = .ok (.aload_n 0, 1) := by decide +kernel
theorem dX6_captures_27 : decode cX6_captures 27 = .ok (.getfield 9, 3) := by decide +kernel
theorem dX6_captures_30 : decode cX6_captures 30 = .ok (.iconst (-1), 1) := by decide +kernel
theorem dX6_captures_31 : decode cX6_captures 31 = .ok (.if_icmp .eq 64, 3) := by decide +kernel
theorem dX6_captures_34 : decode cX6_captures 34 = .ok (.aload_n 0, 1) := by decide +kernel
theorem dX6_captures_35 : decode cX6_captures 35 = .ok (.getfield 20, 3) := by decide +kernel
theorem dX6_captures_38 : decode cX6_captures 38 = .ok (.iconst 0, 1) := by decide +kernel
theorem dX6_captures_39 : decode cX6_captures 39 = .ok (.aload_n 0, 1) := by decide +kernel
theorem dX6_captures_40 : decode cX6_captures 40 = .ok (.getfield 128, 3) := by decide +kernel
theorem dX6_captures_43 : decode cX6_captures 43 = .ok (.iload_n 1, 1) := by decide +kernel
theorem dX6_captures_44 : decode cX6_captures 44 = .ok (.aload_n 0, 1) := by decide +kernel
theorem dX6_captures_45 : decode cX6_captures 45 = .ok (.getfield 9, 3) := by decide +kernel
theorem dX6_captures_48 : decode cX6_captures 48 = .ok (.invokestatic 102, 3) := by decide +kernel
theorem dX6_captures_51 : decode cX6_captures 51 = .ok (.ifCond .eq 44, 3) := by decide +kernel
theorem dX6_captures_54 : decode cX6_captures 54 = .ok (.iload_n 1, 1) := by decide +kernel
theorem dX6_captures_55 : decode cX6_captures 55 = .ok (.aload_n 0, 1) := by decide +kernel
theorem dX6_captures_56 : decode cX6_captures 56 = .ok (.getfield 9, 3) := by decide +kernel
theorem dX6_captures_59 : decode cX6_captures 59 = .ok (.iadd, 1) := by decide +kernel
theorem dX6_captures_60 : decode cX6_captures 60 = .ok (.invokestatic 72, 3) := by decide +kernel
theorem dX6_captures_63 : decode cX6_captures 63 = .ok (.ifCond .eq 32, 3) := by decide +kernel
theorem dX6_captures_66 : decode cX6_captures 66 = .ok (.aload_n 0, 1) := by decide +kernel
theorem dX6_captures_67 : decode cX6_captures 67 = .ok (.getfield 20, 3) := by decide +kernel
theorem dX6_captures_70 : decode cX6_captures 70 = .ok (.bipush 16, 2) := by decide +kernel
theorem dX6_captures_72 : decode cX6_captures 72 = .ok (.bipush 16, 2) := by decide +kernel
theorem dX6_captures_74 : decode cX6_captures 74 = .ok (.aload_n 0, 1) := by decide +kernel
theorem dX6_captures_75 : decode cX6_captures 75 = .ok (.getfield 128, 3) := by decide +kernel
theorem dX6_captures_78 : decode cX6_captures 78 = .ok (.imul, 1) := by decide +kernel
theorem dX6_captures_79 : decode cX6_captures 79 = .ok (.isub, 1) := by decide +kernel
theorem dX6_captures_80 : decode cX6_captures 80 = .ok (.iload_n 1, 1) := by decide +kernel
theorem dX6_captures_81 : decode cX6_captures 81 = .ok (.iadd, 1) := by decide +kernel
theorem dX6_captures_82 : decode cX6_captures 82 = .ok (.aload_n 0, 1) := by decide +kernel
theorem dX6_captures_83 : decode cX6_captures 83 = .ok (.getfield 9, 3) := by decide +kernel
theorem dX6_captures_86 : decode cX6_captures 86 = .ok (.iadd, 1) := by decide +kernel
theorem dX6_captures_87 : decode cX6_captures 87 = .ok (.iaload, 1) := by decide +kernel
theorem dX6_captures_88 : decode cX6_captures 88 = .ok (.ifCond .le 7, 3) := by decide +kernel
theorem dX6_captures_91 : decode cX6_captures 91 = .ok (.iconst 1, 1) := by decide +kernel
theorem dX6_captures_92 : decode cX6_captures 92 = .ok (.goto 4, 3) := by decide +kernel
theorem dX6_captures_95 : decode cX6_captures 95 = .ok (.iconst 0, 1) := by decide +kernel
theorem dX6_captures_96 : decode cX6_captures 96 = .ok (.ireturn, 1) := by decide +kernel
set_option maxRecDepth 20000 in
theorem ggX6_worth_X6_in : GoodIn wsX6_worth wsX6_in := goodIn_r _ [7] (by decide +kernel) (by decide +kernel)
set_option maxRecDepth 20000 in
theorem gX6_worth_X6_in : GoodIn wsX6_worth (va_wsS RX6 67 yX6_in wsX6_in) := goodIn_app (goodIn_of _ (by decide +kernel)) ggX6_worth_X6_in
set_option maxRecDepth 20000 in
theorem ggX6_worth_X6_fails : GoodIn wsX6_worth wsX6_fails := goodIn_r _ [11, 1, 85, 86, 87, 88, 89, 90, 91, 92, 93, 94, 95, 96, 97, 98, 99, 100, 101, 102, 103] (by decide +kernel) (by decide +kernel)
set_option maxRecDepth 20000 in
theorem gX6_worth_X6_fails : GoodIn wsX6_worth (wsV RX6 143 RX6 yX6_fails wsX6_fails) := goodIn_app (goodIn_of _ (by decide +kernel)) ggX6_worth_X6_fails
set_option maxRecDepth 20000 in
theorem ggX6_worth_X6_worthNow : GoodIn wsX6_worth wsX6_worthNow := goodIn_r _ [15, 16, 2, 3, 17, 18, 19, 20, 21, 6, 22, 23, 24, 25, 26, 27, 28, 29, 30, 31, 32, 33, 34, 35, 36, 37, 38, 39, 40, 41, 42, 43, 44, 45, 46, 47, 48, 49, 50, 51, 52, 53, 54, 55, 56, 57, 58, 59, 60, 61, 62, 63, 64, 65, 66, 67, 68, 69, 70, 71, 72, 73, 4, 5, 7, 74, 75, 76, 77, 78, 79, 80, 81, 82, 83, 84, 85, 86, 87, 88, 89, 90, 91, 92, 93, 94, 95, 96, 97, 98, 99, 100, 101, 102, 103] (by decide +kernel) (by decide +kernel)
set_option maxRecDepth 20000 in
theorem gX6_worth_X6_worthNow : GoodIn wsX6_worth (wsV RX6 150 RX6 yX6_worthNow wsX6_worthNow) := goodIn_app (goodIn_of _ (by decide +kernel)) ggX6_worth_X6_worthNow
theorem dX6_worth_0 : decode cX6_worth 0 = .ok (.aload_n 0, 1) := by decide +kernel
theorem dX6_worth_1 : decode cX6_worth 1 = .ok (.iconst 0, 1) := by decide +kernel
theorem dX6_worth_2 : decode cX6_worth 2 = .ok (.putfield 64, 3) := by decide +kernel
theorem dX6_worth_5 : decode cX6_worth 5 = .ok (.iload_n 1, 1) := by decide +kernel
theorem dX6_worth_6 : decode cX6_worth 6 = .ok (.iconst 0, 1) := by decide +kernel
theorem dX6_worth_7 : decode cX6_worth 7 = .ok (.iconst 3, 1) := by decide +kernel
theorem dX6_worth_8 : decode cX6_worth 8 = .ok (.invokestatic 67, 3) := by decide +kernel
theorem dX6_worth_11 : decode cX6_worth 11 = .ok (.ifCond .ne 9, 3) := by decide +kernel
theorem dX6_worth_14 : decode cX6_worth 14 = .ok (.aload_n 0, 1) := by decide +kernel
theorem dX6_worth_15 : decode cX6_worth 15 = .ok (.iconst 1, 1) := by decide +kernel
theorem dX6_worth_16 : decode cX6_worth 16 = .ok (.invokevirtual 143, 3) := by decide +kernel
theorem dX6_worth_19 : decode cX6_worth 19 = .ok (.ireturn, 1) := by decide +kernel
theorem dX6_worth_20 : decode cX6_worth 20 = .ok (.aload_n 0, 1) := by decide +kernel
theorem dX6_worth_21 : decode cX6_worth 21 = .ok (.getfield 128, 3) := by decide +kernel
theorem dX6_worth_24 : decode cX6_worth 24 = .ok (.ifCond .ne 11, 3) := by decide +kernel
theorem dX6_worth_27 : decode cX6_worth 27 = .ok (.aload_n 0, 1) := by decide +kernel
theorem dX6_worth_28 : decode cX6_worth 28 = .ok (.iload_n 1, 1) := by decide +kernel
theorem dX6_worth_29 : decode cX6_worth 29 = .ok (.invokevirtual 150, 3) := by decide +kernel
theorem dX6_worth_32 : decode cX6_worth 32 = .ok (.goto 11, 3) := by decide +kernel
theorem dX6_worth_35 : decode cX6_worth 35 = .ok (.ldc 71, 2) := by decide +kernel
theorem dX6_worth_37 : decode cX6_worth 37 = .ok (.aload_n 0, 1) := by decide +kernel
theorem dX6_worth_38 : decode cX6_worth 38 = .ok (.iload_n 1, 1) := by decide +kernel
theorem dX6_worth_39 : decode cX6_worth 39 = .ok (.invokevirtual 150, 3) := by decide +kernel
theorem dX6_worth_42 : decode cX6_worth 42 = .ok (.isub, 1) := by decide +kernel
theorem dX6_worth_43 : decode cX6_worth 43 = .ok (.ireturn, 1) := by decide +kernel
set_option maxRecDepth 20000 in
theorem ggX6_chance_X6_in : GoodIn wsX6_chance wsX6_in := goodIn_r _ [6] (by decide +kernel) (by decide +kernel)
set_option maxRecDepth 20000 in
theorem gX6_chance_X6_in : GoodIn wsX6_chance (va_wsS RX6 67 yX6_in wsX6_in) := goodIn_app (goodIn_of _ (by decide +kernel)) ggX6_chance_X6_in
set_option maxRecDepth 20000 in
theorem ggX6_chance_X6_fails : GoodIn wsX6_chance wsX6_fails := goodIn_r _ [10, 1, 86, 87, 88, 89, 90, 91, 92, 93, 94, 95, 96, 97, 98, 99, 100, 101, 102, 103, 104] (by decide +kernel) (by decide +kernel)
set_option maxRecDepth 20000 in
theorem gX6_chance_X6_fails : GoodIn wsX6_chance (wsV RX6 143 RX6 yX6_fails wsX6_fails) := goodIn_app (goodIn_of _ (by decide +kernel)) ggX6_chance_X6_fails
set_option maxRecDepth 20000 in
theorem ggX6_chance_X6_worthNow : GoodIn wsX6_chance wsX6_worthNow := goodIn_r _ [14, 15, 16, 17, 18, 19, 20, 21, 22, 5, 23, 24, 25, 26, 27, 28, 29, 30, 31, 32, 33, 34, 35, 36, 37, 38, 39, 40, 41, 42, 43, 44, 45, 46, 47, 48, 49, 50, 51, 52, 53, 54, 55, 56, 57, 58, 59, 60, 61, 62, 63, 64, 65, 66, 67, 68, 69, 70, 71, 72, 73, 74, 3, 4, 6, 75, 76, 77, 78, 79, 80, 81, 82, 83, 84, 85, 86, 87, 88, 89, 90, 91, 92, 93, 94, 95, 96, 97, 98, 99, 100, 101, 102, 103, 104] (by decide +kernel) (by decide +kernel)
set_option maxRecDepth 20000 in
theorem gX6_chance_X6_worthNow : GoodIn wsX6_chance (wsV RX6 150 RX6 yX6_worthNow wsX6_worthNow) := goodIn_app (goodIn_of _ (by decide +kernel)) ggX6_chance_X6_worthNow
theorem dX6_chance_0 : decode cX6_chance 0 = .ok (.aload_n 0, 1) := by decide +kernel
theorem dX6_chance_1 : decode cX6_chance 1 = .ok (.iconst 0, 1) := by decide +kernel
theorem dX6_chance_2 : decode cX6_chance 2 = .ok (.putfield 64, 3) := by decide +kernel
theorem dX6_chance_5 : decode cX6_chance 5 = .ok (.iload_n 1, 1) := by decide +kernel
theorem dX6_chance_6 : decode cX6_chance 6 = .ok (.iconst 0, 1) := by decide +kernel
theorem dX6_chance_7 : decode cX6_chance 7 = .ok (.iconst 3, 1) := by decide +kernel
theorem dX6_chance_8 : decode cX6_chance 8 = .ok (.invokestatic 67, 3) := by decide +kernel
theorem dX6_chance_11 : decode cX6_chance 11 = .ok (.ifCond .ne 10, 3) := by decide +kernel
theorem dX6_chance_14 : decode cX6_chance 14 = .ok (.aload_n 0, 1) := by decide +kernel
theorem dX6_chance_15 : decode cX6_chance 15 = .ok (.iconst 1, 1) := by decide +kernel
theorem dX6_chance_16 : decode cX6_chance 16 = .ok (.invokevirtual 143, 3) := by decide +kernel
theorem dX6_chance_19 : decode cX6_chance 19 = .ok (.i2d, 1) := by decide +kernel
theorem dX6_chance_20 : decode cX6_chance 20 = .ok (.dreturn, 1) := by decide +kernel
theorem dX6_chance_21 : decode cX6_chance 21 = .ok (.aload_n 0, 1) := by decide +kernel
theorem dX6_chance_22 : decode cX6_chance 22 = .ok (.iload_n 1, 1) := by decide +kernel
theorem dX6_chance_23 : decode cX6_chance 23 = .ok (.invokevirtual 150, 3) := by decide +kernel
theorem dX6_chance_26 : decode cX6_chance 26 = .ok (.i2d, 1) := by decide +kernel
theorem dX6_chance_27 : decode cX6_chance 27 = .ok (.ldc2_w 153, 3) := by decide +kernel
theorem dX6_chance_30 : decode cX6_chance 30 = .ok (.ddiv, 1) := by decide +kernel
theorem dX6_chance_31 : decode cX6_chance 31 = .ok (.dreturn, 1) := by decide +kernel
set_option maxRecDepth 20000 in
theorem ggX6_ranked_X6_in : GoodIn wsX6_ranked wsX6_in := goodIn_r _ [6] (by decide +kernel) (by decide +kernel)
set_option maxRecDepth 20000 in
theorem gX6_ranked_X6_in : GoodIn wsX6_ranked (va_wsS RX6 67 yX6_in wsX6_in) := goodIn_app (goodIn_of _ (by decide +kernel)) ggX6_ranked_X6_in
set_option maxRecDepth 20000 in
theorem ggX6_ranked_X6_fails : GoodIn wsX6_ranked wsX6_fails := goodIn_r _ [10, 1, 80, 81, 82, 83, 84, 85, 86, 87, 88, 89, 90, 91, 92, 93, 94, 95, 96, 97, 98] (by decide +kernel) (by decide +kernel)
set_option maxRecDepth 20000 in
theorem gX6_ranked_X6_fails : GoodIn wsX6_ranked (wsV RX6 143 RX6 yX6_fails wsX6_fails) := goodIn_app (goodIn_of _ (by decide +kernel)) ggX6_ranked_X6_fails
set_option maxRecDepth 20000 in
theorem ggX6_ranked_X6_layBehind : GoodIn wsX6_ranked wsX6_layBehind := goodIn_r _ [14, 2, 15, 16, 17, 18, 19, 20, 21, 22, 5, 23, 24, 25, 26, 27, 28, 29, 30, 31, 32, 33, 3, 4, 6, 34, 35, 36, 37, 38, 39, 40, 41, 42, 43, 44, 45, 46, 47, 48, 49, 50, 51, 52, 53, 54, 55, 56, 57, 58, 59, 60, 61, 62, 63, 64, 65, 66, 67, 68, 69, 70, 71, 72, 73, 74, 75, 76, 77, 78, 79, 80, 81, 82, 83, 84, 85, 86, 87, 88, 89, 90, 91, 92, 93, 94, 95, 96, 97, 98] (by decide +kernel) (by decide +kernel)
set_option maxRecDepth 20000 in
theorem gX6_ranked_X6_layBehind : GoodIn wsX6_ranked (wsV RX6 137 RX6 yX6_layBehind wsX6_layBehind) := goodIn_app (goodIn_of _ (by decide +kernel)) ggX6_ranked_X6_layBehind
theorem dX6_ranked_0 : decode cX6_ranked 0 = .ok (.aload_n 0, 1) := by decide +kernel
theorem dX6_ranked_1 : decode cX6_ranked 1 = .ok (.iconst 0, 1) := by decide +kernel
theorem dX6_ranked_2 : decode cX6_ranked 2 = .ok (.putfield 64, 3) := by decide +kernel
theorem dX6_ranked_5 : decode cX6_ranked 5 = .ok (.iload_n 1, 1) := by decide +kernel
theorem dX6_ranked_6 : decode cX6_ranked 6 = .ok (.iconst 0, 1) := by decide +kernel
theorem dX6_ranked_7 : decode cX6_ranked 7 = .ok (.iconst 3, 1) := by decide +kernel
theorem dX6_ranked_8 : decode cX6_ranked 8 = .ok (.invokestatic 67, 3) := by decide +kernel
theorem dX6_ranked_11 : decode cX6_ranked 11 = .ok (.ifCond .eq 7, 3) := by decide +kernel
theorem dX6_ranked_14 : decode cX6_ranked 14 = .ok (.iload_n 2, 1) := by decide +kernel
theorem dX6_ranked_15 : decode cX6_ranked 15 = .ok (.ifCond .ge 9, 3) := by decide +kernel
theorem dX6_ranked_18 : decode cX6_ranked 18 = .ok (.aload_n 0, 1) := by decide +kernel
theorem dX6_ranked_19 : decode cX6_ranked 19 = .ok (.iconst 1, 1) := by decide +kernel
theorem dX6_ranked_20 : decode cX6_ranked 20 = .ok (.invokevirtual 143, 3) := by decide +kernel
theorem dX6_ranked_23 : decode cX6_ranked 23 = .ok (.ireturn, 1) := by decide +kernel
theorem dX6_ranked_24 : decode cX6_ranked 24 = .ok (.aload_n 0, 1) := by decide +kernel
theorem dX6_ranked_25 : decode cX6_ranked 25 = .ok (.iload_n 1, 1) := by decide +kernel
theorem dX6_ranked_26 : decode cX6_ranked 26 = .ok (.invokevirtual 137, 3) := by decide +kernel
theorem dX6_ranked_29 : decode cX6_ranked 29 = .ok (.iconst (-1), 1) := by decide +kernel
theorem dX6_ranked_30 : decode cX6_ranked 30 = .ok (.istore_n 3, 1) := by decide +kernel
theorem dX6_ranked_31 : decode cX6_ranked 31 = .ok (.iconst 0, 1) := by decide +kernel
theorem dX6_ranked_32 : decode cX6_ranked 32 = .ok (.istore 4, 2) := by decide +kernel
theorem dX6_ranked_34 : decode cX6_ranked 34 = .ok (.iload 4, 2) := by decide +kernel
theorem dX6_ranked_36 : decode cX6_ranked 36 = .ok (.bipush 15, 2) := by decide +kernel
theorem dX6_ranked_38 : decode cX6_ranked 38 = .ok (.if_icmp .ge 126, 3) := by decide +kernel
theorem dX6_ranked_41 : decode cX6_ranked 41 = .ok (.iconst 0, 1) := by decide +kernel
theorem dX6_ranked_42 : decode cX6_ranked 42 = .ok (.istore 5, 2) := by decide +kernel
theorem dX6_ranked_44 : decode cX6_ranked 44 = .ok (.iconst 0, 1) := by decide +kernel
theorem dX6_ranked_45 : decode cX6_ranked 45 = .ok (.istore 6, 2) := by decide +kernel
theorem dX6_ranked_47 : decode cX6_ranked 47 = .ok (.iload 6, 2) := by decide +kernel
theorem dX6_ranked_49 : decode cX6_ranked 49 = .ok (.bipush 15, 2) := by decide +kernel
theorem dX6_ranked_51 : decode cX6_ranked 51 = .ok (.if_icmp .ge 83, 3) := by decide +kernel
theorem dX6_ranked_54 : decode cX6_ranked 54 = .ok (.aload_n 0, 1) := by decide +kernel
theorem dX6_ranked_55 : decode cX6_ranked 55 = .ok (.getfield 54, 3) := by decide +kernel
theorem dX6_ranked_58 : decode cX6_ranked 58 = .ok (.iload 6, 2) := by decide +kernel
theorem dX6_ranked_60 : decode cX6_ranked 60 = .ok (.iaload, 1) := by decide +kernel
theorem dX6_ranked_61 : decode cX6_ranked 61 = .ok (.aload_n 0, 1) := by decide +kernel
theorem dX6_ranked_62 : decode cX6_ranked 62 = .ok (.getfield 54, 3) := by decide +kernel
theorem dX6_ranked_65 : decode cX6_ranked 65 = .ok (.iload 4, 2) := by decide +kernel
theorem dX6_ranked_67 : decode cX6_ranked 67 = .ok (.iaload, 1) := by decide +kernel
theorem dX6_ranked_68 : decode cX6_ranked 68 = .ok (.if_icmp .gt 27, 3) := by decide +kernel
theorem dX6_ranked_71 : decode cX6_ranked 71 = .ok (.aload_n 0, 1) := by decide +kernel
theorem dX6_ranked_72 : decode cX6_ranked 72 = .ok (.getfield 54, 3) := by decide +kernel
theorem dX6_ranked_75 : decode cX6_ranked 75 = .ok (.iload 6, 2) := by decide +kernel
theorem dX6_ranked_77 : decode cX6_ranked 77 = .ok (.iaload, 1) := by decide +kernel
theorem dX6_ranked_78 : decode cX6_ranked 78 = .ok (.aload_n 0, 1) := by decide +kernel
theorem dX6_ranked_79 : decode cX6_ranked 79 = .ok (.getfield 54, 3) := by decide +kernel
theorem dX6_ranked_82 : decode cX6_ranked 82 = .ok (.iload 4, 2) := by decide +kernel
theorem dX6_ranked_84 : decode cX6_ranked 84 = .ok (.iaload, 1) := by decide +kernel
theorem dX6_ranked_85 : decode cX6_ranked 85 = .ok (.if_icmp .ne 14, 3) := by decide +kernel
theorem dX6_ranked_88 : decode cX6_ranked 88 = .ok (.iload 6, 2) := by decide +kernel
theorem dX6_ranked_90 : decode cX6_ranked 90 = .ok (.iload 4, 2) := by decide +kernel
theorem dX6_ranked_92 : decode cX6_ranked 92 = .ok (.if_icmp .ge 7, 3) := by decide +kernel
theorem dX6_ranked_95 : decode cX6_ranked 95 = .ok (.iconst 1, 1) := by decide +kernel
theorem dX6_ranked_96 : decode cX6_ranked 96 = .ok (.goto 4, 3) := by decide +kernel
theorem dX6_ranked_99 : decode cX6_ranked 99 = .ok (.iconst 0, 1) := by decide +kernel
theorem dX6_ranked_100 : decode cX6_ranked 100 = .ok (.istore 7, 2) := by decide +kernel
theorem dX6_ranked_102 : decode cX6_ranked 102 = .ok (.iload 5, 2) := by decide +kernel
theorem dX6_ranked_104 : decode cX6_ranked 104 = .ok (.aload_n 0, 1) := by decide +kernel
theorem dX6_ranked_105 : decode cX6_ranked 105 = .ok (.getfield 54, 3) := by decide +kernel
theorem dX6_ranked_108 : decode cX6_ranked 108 = .ok (.iload 6, 2) := by decide +kernel
theorem dX6_ranked_110 : decode cX6_ranked 110 = .ok (.iaload, 1) := by decide +kernel
theorem dX6_ranked_111 : decode cX6_ranked 111 = .ok (.iconst (-1), 1) := by decide +kernel
theorem dX6_ranked_112 : decode cX6_ranked 112 = .ok (.if_icmp .eq 12, 3) := by decide +kernel
theorem dX6_ranked_115 : decode cX6_ranked 115 = .ok (.iload 7, 2) := by decide +kernel
theorem dX6_ranked_117 : decode cX6_ranked 117 = .ok (.ifCond .eq 7, 3) := by decide +kernel
theorem dX6_ranked_120 : decode cX6_ranked 120 = .ok (.iconst 1, 1) := by decide +kernel
theorem dX6_ranked_121 : decode cX6_ranked 121 = .ok (.goto 4, 3) := by decide +kernel
theorem dX6_ranked_124 : decode cX6_ranked 124 = .ok (.iconst 0, 1) := by decide +kernel
theorem dX6_ranked_125 : decode cX6_ranked 125 = .ok (.iadd, 1) := by decide +kernel
theorem dX6_ranked_126 : decode cX6_ranked 126 = .ok (.istore 5, 2) := by decide +kernel
theorem dX6_ranked_128 : decode cX6_ranked 128 = .ok (.iinc 6 1, 3) := by decide +kernel
theorem dX6_ranked_131 : decode cX6_ranked 131 = .ok (.goto (-84), 3) := by decide +kernel
theorem dX6_ranked_134 : decode cX6_ranked 134 = .ok (.aload_n 0, 1) := by decide +kernel
theorem dX6_ranked_135 : decode cX6_ranked 135 = .ok (.getfield 54, 3) := by decide +kernel
theorem dX6_ranked_138 : decode cX6_ranked 138 = .ok (.iload 4, 2) := by decide +kernel
theorem dX6_ranked_140 : decode cX6_ranked 140 = .ok (.iaload, 1) := by decide +kernel
theorem dX6_ranked_141 : decode cX6_ranked 141 = .ok (.iconst (-1), 1) := by decide +kernel
theorem dX6_ranked_142 : decode cX6_ranked 142 = .ok (.if_icmp .eq 14, 3) := by decide +kernel
theorem dX6_ranked_145 : decode cX6_ranked 145 = .ok (.iload 5, 2) := by decide +kernel
theorem dX6_ranked_147 : decode cX6_ranked 147 = .ok (.iload_n 2, 1) := by decide +kernel
theorem dX6_ranked_148 : decode cX6_ranked 148 = .ok (.if_icmp .ne 8, 3) := by decide +kernel
theorem dX6_ranked_151 : decode cX6_ranked 151 = .ok (.iload 4, 2) := by decide +kernel
theorem dX6_ranked_153 : decode cX6_ranked 153 = .ok (.goto 4, 3) := by decide +kernel
theorem dX6_ranked_156 : decode cX6_ranked 156 = .ok (.iload_n 3, 1) := by decide +kernel
theorem dX6_ranked_157 : decode cX6_ranked 157 = .ok (.istore_n 3, 1) := by decide +kernel
theorem dX6_ranked_158 : decode cX6_ranked 158 = .ok (.iinc 4 1, 3) := by decide +kernel
theorem dX6_ranked_161 : decode cX6_ranked 161 = .ok (.goto (-127), 3) := by decide +kernel
theorem dX6_ranked_164 : decode cX6_ranked 164 = .ok (.iload_n 3, 1) := by decide +kernel
theorem dX6_ranked_165 : decode cX6_ranked 165 = .ok (.ireturn, 1) := by decide +kernel

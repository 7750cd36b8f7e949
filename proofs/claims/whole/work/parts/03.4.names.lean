theorem dX6_init_0 : decode cX6_init 0 = .ok (.aload_n 0, 1) := by decide +kernel
theorem dX6_init_1 : decode cX6_init 1 = .ok (.invokespecial 1, 3) := by decide +kernel
theorem dX6_init_4 : decode cX6_init 4 = .ok (.aload_n 0, 1) := by decide +kernel
theorem dX6_init_5 : decode cX6_init 5 = .ok (.bipush 60, 2) := by decide +kernel
theorem dX6_init_7 : decode cX6_init 7 = .ok (.newarray .int, 2) := by decide +kernel
theorem dX6_init_9 : decode cX6_init 9 = .ok (.putfield 7, 3) := by decide +kernel
theorem dX6_init_12 : decode cX6_init 12 = .ok (.aload_n 0, 1) := by decide +kernel
theorem dX6_init_13 : decode cX6_init 13 = .ok (.bipush 60, 2) := by decide +kernel
theorem dX6_init_15 : decode cX6_init 15 = .ok (.newarray .int, 2) := by decide +kernel
theorem dX6_init_17 : decode cX6_init 17 = .ok (.putfield 13, 3) := by decide +kernel
theorem dX6_init_20 : decode cX6_init 20 = .ok (.aload_n 0, 1) := by decide +kernel
theorem dX6_init_21 : decode cX6_init 21 = .ok (.bipush 60, 2) := by decide +kernel
theorem dX6_init_23 : decode cX6_init 23 = .ok (.newarray .int, 2) := by decide +kernel
theorem dX6_init_25 : decode cX6_init 25 = .ok (.putfield 16, 3) := by decide +kernel
theorem dX6_init_28 : decode cX6_init 28 = .ok (.aload_n 0, 1) := by decide +kernel
theorem dX6_init_29 : decode cX6_init 29 = .ok (.bipush 60, 2) := by decide +kernel
theorem dX6_init_31 : decode cX6_init 31 = .ok (.newarray .int, 2) := by decide +kernel
theorem dX6_init_33 : decode cX6_init 33 = .ok (.putfield 19, 3) := by decide +kernel
theorem dX6_init_36 : decode cX6_init 36 = .ok (.aload_n 0, 1) := by decide +kernel
theorem dX6_init_37 : decode cX6_init 37 = .ok (.bipush 60, 2) := by decide +kernel
theorem dX6_init_39 : decode cX6_init 39 = .ok (.newarray .boolean, 2) := by decide +kernel
theorem dX6_init_41 : decode cX6_init 41 = .ok (.putfield 22, 3) := by decide +kernel
theorem dX6_init_44 : decode cX6_init 44 = .ok (.aload_n 0, 1) := by decide +kernel
theorem dX6_init_45 : decode cX6_init 45 = .ok (.bipush 60, 2) := by decide +kernel
theorem dX6_init_47 : decode cX6_init 47 = .ok (.newarray .boolean, 2) := by decide +kernel
theorem dX6_init_49 : decode cX6_init 49 = .ok (.putfield 26, 3) := by decide +kernel
theorem dX6_init_52 : decode cX6_init 52 = .ok (.aload_n 0, 1) := by decide +kernel
theorem dX6_init_53 : decode cX6_init 53 = .ok (.iconst 3, 1) := by decide +kernel
theorem dX6_init_54 : decode cX6_init 54 = .ok (.newarray .int, 2) := by decide +kernel
theorem dX6_init_56 : decode cX6_init 56 = .ok (.putfield 29, 3) := by decide +kernel
theorem dX6_init_59 : decode cX6_init 59 = .ok (.aload_n 0, 1) := by decide +kernel
theorem dX6_init_60 : decode cX6_init 60 = .ok (.bipush 12, 2) := by decide +kernel
theorem dX6_init_62 : decode cX6_init 62 = .ok (.newarray .int, 2) := by decide +kernel
theorem dX6_init_64 : decode cX6_init 64 = .ok (.putfield 32, 3) := by decide +kernel
theorem dX6_init_67 : decode cX6_init 67 = .ok (.aload_n 0, 1) := by decide +kernel
theorem dX6_init_68 : decode cX6_init 68 = .ok (.bipush 12, 2) := by decide +kernel
theorem dX6_init_70 : decode cX6_init 70 = .ok (.newarray .int, 2) := by decide +kernel
theorem dX6_init_72 : decode cX6_init 72 = .ok (.putfield 35, 3) := by decide +kernel
theorem dX6_init_75 : decode cX6_init 75 = .ok (.aload_n 0, 1) := by decide +kernel
theorem dX6_init_76 : decode cX6_init 76 = .ok (.iconst 5, 1) := by decide +kernel
theorem dX6_init_77 : decode cX6_init 77 = .ok (.newarray .int, 2) := by decide +kernel
theorem dX6_init_79 : decode cX6_init 79 = .ok (.putfield 38, 3) := by decide +kernel
theorem dX6_init_82 : decode cX6_init 82 = .ok (.aload_n 0, 1) := by decide +kernel
theorem dX6_init_83 : decode cX6_init 83 = .ok (.bipush 30, 2) := by decide +kernel
theorem dX6_init_85 : decode cX6_init 85 = .ok (.putfield 41, 3) := by decide +kernel
theorem dX6_init_88 : decode cX6_init 88 = .ok (.aload_n 0, 1) := by decide +kernel
theorem dX6_init_89 : decode cX6_init 89 = .ok (.bipush 60, 2) := by decide +kernel
theorem dX6_init_91 : decode cX6_init 91 = .ok (.newarray .int, 2) := by decide +kernel
theorem dX6_init_93 : decode cX6_init 93 = .ok (.putfield 45, 3) := by decide +kernel
theorem dX6_init_96 : decode cX6_init 96 = .ok (.aload_n 0, 1) := by decide +kernel
theorem dX6_init_97 : decode cX6_init 97 = .ok (.bipush 60, 2) := by decide +kernel
theorem dX6_init_99 : decode cX6_init 99 = .ok (.newarray .long, 2) := by decide +kernel
theorem dX6_init_101 : decode cX6_init 101 = .ok (.putfield 48, 3) := by decide +kernel
theorem dX6_init_104 : decode cX6_init 104 = .ok (.aload_n 0, 1) := by decide +kernel
theorem dX6_init_105 : decode cX6_init 105 = .ok (.bipush 60, 2) := by decide +kernel
theorem dX6_init_107 : decode cX6_init 107 = .ok (.newarray .long, 2) := by decide +kernel
theorem dX6_init_109 : decode cX6_init 109 = .ok (.putfield 52, 3) := by decide +kernel
theorem dX6_init_112 : decode cX6_init 112 = .ok (.aload_n 0, 1) := by decide +kernel
theorem dX6_init_113 : decode cX6_init 113 = .ok (.bipush 60, 2) := by decide +kernel
theorem dX6_init_115 : decode cX6_init 115 = .ok (.newarray .long, 2) := by decide +kernel
theorem dX6_init_117 : decode cX6_init 117 = .ok (.putfield 55, 3) := by decide +kernel
theorem dX6_init_120 : decode cX6_init 120 = .ok (.aload_n 0, 1) := by decide +kernel
theorem dX6_init_121 : decode cX6_init 121 = .ok (.bipush 60, 2) := by decide +kernel
theorem dX6_init_123 : decode cX6_init 123 = .ok (.newarray .long, 2) := by decide +kernel
theorem dX6_init_125 : decode cX6_init 125 = .ok (.putfield 58, 3) := by decide +kernel
theorem dX6_init_128 : decode cX6_init 128 = .ok (.aload_n 0, 1) := by decide +kernel
theorem dX6_init_129 : decode cX6_init 129 = .ok (.bipush 60, 2) := by decide +kernel
theorem dX6_init_131 : decode cX6_init 131 = .ok (.newarray .long, 2) := by decide +kernel
theorem dX6_init_133 : decode cX6_init 133 = .ok (.putfield 61, 3) := by decide +kernel
theorem dX6_init_136 : decode cX6_init 136 = .ok (.aload_n 0, 1) := by decide +kernel
theorem dX6_init_137 : decode cX6_init 137 = .ok (.bipush 60, 2) := by decide +kernel
theorem dX6_init_139 : decode cX6_init 139 = .ok (.newarray .long, 2) := by decide +kernel
theorem dX6_init_141 : decode cX6_init 141 = .ok (.putfield 64, 3) := by decide +kernel
theorem dX6_init_144 : decode cX6_init 144 = .ok (.aload_n 0, 1) := by decide +kernel
theorem dX6_init_145 : decode cX6_init 145 = .ok (.bipush 60, 2) := by decide +kernel
theorem dX6_init_147 : decode cX6_init 147 = .ok (.newarray .long, 2) := by decide +kernel
theorem dX6_init_149 : decode cX6_init 149 = .ok (.putfield 67, 3) := by decide +kernel
theorem dX6_init_152 : decode cX6_init 152 = .ok (.aload_n 0, 1) := by decide +kernel
theorem dX6_init_153 : decode cX6_init 153 = .ok (.bipush 60, 2) := by decide +kernel
theorem dX6_init_155 : decode cX6_init 155 = .ok (.newarray .long, 2) := by decide +kernel
theorem dX6_init_157 : decode cX6_init 157 = .ok (.putfield 70, 3) := by decide +kernel
theorem dX6_init_160 : decode cX6_init 160 = .ok (.aload_n 0, 1) := by decide +kernel
theorem dX6_init_161 : decode cX6_init 161 = .ok (.sipush 256, 3) := by decide +kernel
theorem dX6_init_164 : decode cX6_init 164 = .ok (.newarray .int, 2) := by decide +kernel
theorem dX6_init_166 : decode cX6_init 166 = .ok (.putfield 73, 3) := by decide +kernel
theorem dX6_init_169 : decode cX6_init 169 = .ok (.aload_n 0, 1) := by decide +kernel
theorem dX6_init_170 : decode cX6_init 170 = .ok (.sipush 256, 3) := by decide +kernel
theorem dX6_init_173 : decode cX6_init 173 = .ok (.newarray .int, 2) := by decide +kernel
theorem dX6_init_175 : decode cX6_init 175 = .ok (.putfield 76, 3) := by decide +kernel
theorem dX6_init_178 : decode cX6_init 178 = .ok (.aload_n 0, 1) := by decide +kernel
theorem dX6_init_179 : decode cX6_init 179 = .ok (.sipush 256, 3) := by decide +kernel
theorem dX6_init_182 : decode cX6_init 182 = .ok (.newarray .int, 2) := by decide +kernel
theorem dX6_init_184 : decode cX6_init 184 = .ok (.putfield 79, 3) := by decide +kernel
theorem dX6_init_187 : decode cX6_init 187 = .ok (.aload_n 0, 1) := by decide +kernel
theorem dX6_init_188 : decode cX6_init 188 = .ok (.sipush 256, 3) := by decide +kernel
theorem dX6_init_191 : decode cX6_init 191 = .ok (.newarray .long, 2) := by decide +kernel
theorem dX6_init_193 : decode cX6_init 193 = .ok (.putfield 82, 3) := by decide +kernel
theorem dX6_init_196 : decode cX6_init 196 = .ok (.aload_n 0, 1) := by decide +kernel
theorem dX6_init_197 : decode cX6_init 197 = .ok (.sipush 256, 3) := by decide +kernel
theorem dX6_init_200 : decode cX6_init 200 = .ok (.newarray .long, 2) := by decide +kernel
theorem dX6_init_202 : decode cX6_init 202 = .ok (.putfield 85, 3) := by decide +kernel
theorem dX6_init_205 : decode cX6_init 205 = .ok (.aload_n 0, 1) := by decide +kernel
theorem dX6_init_206 : decode cX6_init 206 = .ok (.sipush 256, 3) := by decide +kernel
theorem dX6_init_209 : decode cX6_init 209 = .ok (.newarray .long, 2) := by decide +kernel
theorem dX6_init_211 : decode cX6_init 211 = .ok (.putfield 88, 3) := by decide +kernel
theorem dX6_init_214 : decode cX6_init 214 = .ok (.return_, 1) := by decide +kernel
theorem dX6_thrown_0 : decode cX6_thrown 0 = .ok (.aload_n 0, 1) := by decide +kernel
theorem dX6_thrown_1 : decode cX6_thrown 1 = .ok (.getfield 91, 3) := by decide +kernel
theorem dX6_thrown_4 : decode cX6_thrown 4 = .ok (.ireturn, 1) := by decide +kernel
theorem dX6_isIn_0 : decode cX6_isIn 0 = .ok (.iload_n 0, 1) := by decide +kernel
theorem dX6_isIn_1 : decode cX6_isIn 1 = .ok (.iload_n 1, 1) := by decide +kernel
theorem dX6_isIn_2 : decode cX6_isIn 2 = .ok (.if_icmp .lt 12, 3) := by decide +kernel
theorem dX6_isIn_5 : decode cX6_isIn 5 = .ok (.iload_n 0, 1) := by decide +kernel
theorem dX6_isIn_6 : decode cX6_isIn 6 = .ok (.iload_n 2, 1) := by decide +kernel
theorem dX6_isIn_7 : decode cX6_isIn 7 = .ok (.if_icmp .gt 7, 3) := by decide +kernel
theorem dX6_isIn_10 : decode cX6_isIn 10 = .ok (.iconst 1, 1) := by decide +kernel
theorem dX6_isIn_11 : decode cX6_isIn 11 = .ok (.goto 4, 3) := by decide +kernel
theorem dX6_isIn_14 : decode cX6_isIn 14 = .ok (.iconst 0, 1) := by decide +kernel
theorem dX6_isIn_15 : decode cX6_isIn 15 = .ok (.ireturn, 1) := by decide +kernel
set_option maxRecDepth 20000 in
theorem ggX6_isShare_X6_isIn : GoodIn wsX6_isShare wsX6_isIn := goodIn_r _ [4] (by decide +kernel) (by decide +kernel)
set_option maxRecDepth 20000 in
theorem gX6_isShare_X6_isIn : GoodIn wsX6_isShare (va_wsS RX6 94 yX6_isIn wsX6_isIn) := goodIn_app (goodIn_of _ (by decide +kernel)) ggX6_isShare_X6_isIn
theorem dX6_isShare_0 : decode cX6_isShare 0 = .ok (.iload_n 0, 1) := by decide +kernel
theorem dX6_isShare_1 : decode cX6_isShare 1 = .ok (.iconst 0, 1) := by decide +kernel
theorem dX6_isShare_2 : decode cX6_isShare 2 = .ok (.iconst 2, 1) := by decide +kernel
theorem dX6_isShare_3 : decode cX6_isShare 3 = .ok (.invokestatic 94, 3) := by decide +kernel
theorem dX6_isShare_6 : decode cX6_isShare 6 = .ok (.ireturn, 1) := by decide +kernel
set_option maxRecDepth 20000 in
theorem ggX6_isDay_X6_isIn : GoodIn wsX6_isDay wsX6_isIn := goodIn_r _ [4] (by decide +kernel) (by decide +kernel)
set_option maxRecDepth 20000 in
theorem gX6_isDay_X6_isIn : GoodIn wsX6_isDay (va_wsS RX6 94 yX6_isIn wsX6_isIn) := goodIn_app (goodIn_of _ (by decide +kernel)) ggX6_isDay_X6_isIn
theorem dX6_isDay_0 : decode cX6_isDay 0 = .ok (.iload_n 0, 1) := by decide +kernel
theorem dX6_isDay_1 : decode cX6_isDay 1 = .ok (.iconst 0, 1) := by decide +kernel
theorem dX6_isDay_2 : decode cX6_isDay 2 = .ok (.sipush 1824, 3) := by decide +kernel
theorem dX6_isDay_5 : decode cX6_isDay 5 = .ok (.invokestatic 94, 3) := by decide +kernel
theorem dX6_isDay_8 : decode cX6_isDay 8 = .ok (.ireturn, 1) := by decide +kernel
theorem dX6_later_0 : decode cX6_later 0 = .ok (.iconst 1, 1) := by decide +kernel
theorem dX6_later_1 : decode cX6_later 1 = .ok (.istore_n 3, 1) := by decide +kernel
theorem dX6_later_2 : decode cX6_later 2 = .ok (.iconst 4, 1) := by decide +kernel
theorem dX6_later_3 : decode cX6_later 3 = .ok (.iload_n 1, 1) := by decide +kernel
theorem dX6_later_4 : decode cX6_later 4 = .ok (.imul, 1) := by decide +kernel
theorem dX6_later_5 : decode cX6_later 5 = .ok (.istore 4, 2) := by decide +kernel
theorem dX6_later_7 : decode cX6_later 7 = .ok (.iload 4, 2) := by decide +kernel
theorem dX6_later_9 : decode cX6_later 9 = .ok (.iconst 4, 1) := by decide +kernel
theorem dX6_later_10 : decode cX6_later 10 = .ok (.iload_n 1, 1) := by decide +kernel
theorem dX6_later_11 : decode cX6_later 11 = .ok (.imul, 1) := by decide +kernel
theorem dX6_later_12 : decode cX6_later 12 = .ok (.aload_n 0, 1) := by decide +kernel
theorem dX6_later_13 : decode cX6_later 13 = .ok (.getfield 29, 3) := by decide +kernel
theorem dX6_later_16 : decode cX6_later 16 = .ok (.iload_n 1, 1) := by decide +kernel
theorem dX6_later_17 : decode cX6_later 17 = .ok (.iaload, 1) := by decide +kernel
theorem dX6_later_18 : decode cX6_later 18 = .ok (.iadd, 1) := by decide +kernel
theorem dX6_later_19 : decode cX6_later 19 = .ok (.if_icmp .ge 34, 3) := by decide +kernel
theorem dX6_later_22 : decode cX6_later 22 = .ok (.iload_n 3, 1) := by decide +kernel
theorem dX6_later_23 : decode cX6_later 23 = .ok (.aload_n 0, 1) := by decide +kernel
theorem dX6_later_24 : decode cX6_later 24 = .ok (.getfield 32, 3) := by decide +kernel
theorem dX6_later_27 : decode cX6_later 27 = .ok (.iload 4, 2) := by decide +kernel
theorem dX6_later_29 : decode cX6_later 29 = .ok (.iaload, 1) := by decide +kernel
theorem dX6_later_30 : decode cX6_later 30 = .ok (.iload_n 2, 1) := by decide +kernel
theorem dX6_later_31 : decode cX6_later 31 = .ok (.if_icmp .le 13, 3) := by decide +kernel
theorem dX6_later_34 : decode cX6_later 34 = .ok (.aload_n 0, 1) := by decide +kernel
theorem dX6_later_35 : decode cX6_later 35 = .ok (.getfield 35, 3) := by decide +kernel
theorem dX6_later_38 : decode cX6_later 38 = .ok (.iload 4, 2) := by decide +kernel
theorem dX6_later_40 : decode cX6_later 40 = .ok (.iaload, 1) := by decide +kernel
theorem dX6_later_41 : decode cX6_later 41 = .ok (.goto 4, 3) := by decide +kernel
theorem dX6_later_44 : decode cX6_later 44 = .ok (.iconst 1, 1) := by decide +kernel
theorem dX6_later_45 : decode cX6_later 45 = .ok (.imul, 1) := by decide +kernel
theorem dX6_later_46 : decode cX6_later 46 = .ok (.istore_n 3, 1) := by decide +kernel
theorem dX6_later_47 : decode cX6_later 47 = .ok (.iinc 4 1, 3) := by decide +kernel
theorem dX6_later_50 : decode cX6_later 50 = .ok (.goto (-43), 3) := by decide +kernel
theorem dX6_later_53 : decode cX6_later 53 = .ok (.iload_n 3, 1) := by decide +kernel
theorem dX6_later_54 : decode cX6_later 54 = .ok (.ireturn, 1) := by decide +kernel
set_option maxRecDepth 20000 in
theorem ggX6_held_X6_later : GoodIn wsX6_held wsX6_later := goodIn_r _ [11, 12, 13, 14, 15, 16, 17, 18, 19, 20, 21, 22, 23, 24, 25, 26, 27, 28, 29, 30, 31, 32, 33, 34, 35, 36, 37, 38, 39, 40, 41, 42, 43, 44] (by decide +kernel) (by decide +kernel)
set_option maxRecDepth 20000 in
theorem gX6_held_X6_later : GoodIn wsX6_held (wsV RX6 101 RX6 yX6_later wsX6_later) := goodIn_app (goodIn_of _ (by decide +kernel)) ggX6_held_X6_later
theorem dX6_held_0 : decode cX6_held 0 = .ok (.lconst 0, 1) := by decide +kernel
theorem dX6_held_1 : decode cX6_held 1 = .ok (.lstore_n 3, 1) := by decide +kernel
theorem dX6_held_2 : decode cX6_held 2 = .ok (.iconst 0, 1) := by decide +kernel
theorem dX6_held_3 : decode cX6_held 3 = .ok (.istore 5, 2) := by decide +kernel
theorem dX6_held_5 : decode cX6_held 5 = .ok (.iload 5, 2) := by decide +kernel
theorem dX6_held_7 : decode cX6_held 7 = .ok (.aload_n 0, 1) := by decide +kernel
theorem dX6_held_8 : decode cX6_held 8 = .ok (.getfield 98, 3) := by decide +kernel
theorem dX6_held_11 : decode cX6_held 11 = .ok (.if_icmp .ge 86, 3) := by decide +kernel
theorem dX6_held_14 : decode cX6_held 14 = .ok (.aload_n 0, 1) := by decide +kernel
theorem dX6_held_15 : decode cX6_held 15 = .ok (.getfield 26, 3) := by decide +kernel
theorem dX6_held_18 : decode cX6_held 18 = .ok (.iload 5, 2) := by decide +kernel
theorem dX6_held_20 : decode cX6_held 20 = .ok (.baload, 1) := by decide +kernel
theorem dX6_held_21 : decode cX6_held 21 = .ok (.ifCond .ne 70, 3) := by decide +kernel
theorem dX6_held_24 : decode cX6_held 24 = .ok (.aload_n 0, 1) := by decide +kernel
theorem dX6_held_25 : decode cX6_held 25 = .ok (.getfield 7, 3) := by decide +kernel
theorem dX6_held_28 : decode cX6_held 28 = .ok (.iload 5, 2) := by decide +kernel
theorem dX6_held_30 : decode cX6_held 30 = .ok (.iaload, 1) := by decide +kernel
theorem dX6_held_31 : decode cX6_held 31 = .ok (.iload_n 1, 1) := by decide +kernel
theorem dX6_held_32 : decode cX6_held 32 = .ok (.if_icmp .ne 59, 3) := by decide +kernel
theorem dX6_held_35 : decode cX6_held 35 = .ok (.aload_n 0, 1) := by decide +kernel
theorem dX6_held_36 : decode cX6_held 36 = .ok (.getfield 13, 3) := by decide +kernel
theorem dX6_held_39 : decode cX6_held 39 = .ok (.iload 5, 2) := by decide +kernel
theorem dX6_held_41 : decode cX6_held 41 = .ok (.iaload, 1) := by decide +kernel
theorem dX6_held_42 : decode cX6_held 42 = .ok (.iload_n 2, 1) := by decide +kernel
theorem dX6_held_43 : decode cX6_held 43 = .ok (.if_icmp .gt 48, 3) := by decide +kernel
theorem dX6_held_46 : decode cX6_held 46 = .ok (.aload_n 0, 1) := by decide +kernel
theorem dX6_held_47 : decode cX6_held 47 = .ok (.getfield 16, 3) := by decide +kernel
theorem dX6_held_50 : decode cX6_held 50 = .ok (.iload 5, 2) := by decide +kernel
theorem dX6_held_52 : decode cX6_held 52 = .ok (.iaload, 1) := by decide +kernel
theorem dX6_held_53 : decode cX6_held 53 = .ok (.i2l, 1) := by decide +kernel
theorem dX6_held_54 : decode cX6_held 54 = .ok (.aload_n 0, 1) := by decide +kernel
theorem dX6_held_55 : decode cX6_held 55 = .ok (.iload_n 1, 1) := by decide +kernel
theorem dX6_held_56 : decode cX6_held 56 = .ok (.aload_n 0, 1) := by decide +kernel
theorem dX6_held_57 : decode cX6_held 57 = .ok (.getfield 13, 3) := by decide +kernel
theorem dX6_held_60 : decode cX6_held 60 = .ok (.iload 5, 2) := by decide +kernel
theorem dX6_held_62 : decode cX6_held 62 = .ok (.iaload, 1) := by decide +kernel
theorem dX6_held_63 : decode cX6_held 63 = .ok (.invokevirtual 101, 3) := by decide +kernel
theorem dX6_held_66 : decode cX6_held 66 = .ok (.i2l, 1) := by decide +kernel
theorem dX6_held_67 : decode cX6_held 67 = .ok (.lmul, 1) := by decide +kernel
theorem dX6_held_68 : decode cX6_held 68 = .ok (.lstore 6, 2) := by decide +kernel
theorem dX6_held_70 : decode cX6_held 70 = .ok (.lload_n 3, 1) := by decide +kernel
theorem dX6_held_71 : decode cX6_held 71 = .ok (.aload_n 0, 1) := by decide +kernel
theorem dX6_held_72 : decode cX6_held 72 = .ok (.getfield 22, 3) := by decide +kernel
theorem dX6_held_75 : decode cX6_held 75 = .ok (.iload 5, 2) := by decide +kernel
theorem dX6_held_77 : decode cX6_held 77 = .ok (.baload, 1) := by decide +kernel
theorem dX6_held_78 : decode cX6_held 78 = .ok (.ifCond .eq 9, 3) := by decide +kernel
theorem dX6_held_81 : decode cX6_held 81 = .ok (.lload 6, 2) := by decide +kernel
theorem dX6_held_83 : decode cX6_held 83 = .ok (.lneg, 1) := by decide +kernel
theorem dX6_held_84 : decode cX6_held 84 = .ok (.goto 5, 3) := by decide +kernel
theorem dX6_held_87 : decode cX6_held 87 = .ok (.lload 6, 2) := by decide +kernel
theorem dX6_held_89 : decode cX6_held 89 = .ok (.ladd, 1) := by decide +kernel
theorem dX6_held_90 : decode cX6_held 90 = .ok (.lstore_n 3, 1) := by decide +kernel
theorem dX6_held_91 : decode cX6_held 91 = .ok (.iinc 5 1, 3) := by decide +kernel
theorem dX6_held_94 : decode cX6_held 94 = .ok (.goto (-89), 3) := by decide +kernel
theorem dX6_held_97 : decode cX6_held 97 = .ok (.lload_n 3, 1) := by decide +kernel
theorem dX6_held_98 : decode cX6_held 98 = .ok (.lreturn, 1) := by decide +kernel
set_option maxRecDepth 20000 in
theorem ggX6_isBelow_X6_held : GoodIn wsX6_isBelow wsX6_held := goodIn_r _ [8, 1, 9, 2, 3, 10, 11, 12, 13, 14, 7, 15, 16, 17, 18, 19, 20, 21, 22, 23, 24, 25, 26, 27, 28, 29, 30, 31, 32, 33, 34, 35, 36, 37, 38, 39, 40, 41, 42, 43, 44, 45, 46, 47, 48] (by decide +kernel) (by decide +kernel)
set_option maxRecDepth 20000 in
theorem gX6_isBelow_X6_held : GoodIn wsX6_isBelow (wsV RX6 105 RX6 yX6_held wsX6_held) := goodIn_app (goodIn_of _ (by decide +kernel)) ggX6_isBelow_X6_held
theorem dX6_isBelow_0 : decode cX6_isBelow 0 = .ok (.iconst 0, 1) := by decide +kernel
theorem dX6_isBelow_1 : decode cX6_isBelow 1 = .ok (.istore_n 2, 1) := by decide +kernel
theorem dX6_isBelow_2 : decode cX6_isBelow 2 = .ok (.iconst 0, 1) := by decide +kernel
theorem dX6_isBelow_3 : decode cX6_isBelow 3 = .ok (.istore_n 3, 1) := by decide +kernel
theorem dX6_isBelow_4 : decode cX6_isBelow 4 = .ok (.iload_n 3, 1) := by decide +kernel
theorem dX6_isBelow_5 : decode cX6_isBelow 5 = .ok (.aload_n 0, 1) := by decide +kernel
theorem dX6_isBelow_6 : decode cX6_isBelow 6 = .ok (.getfield 98, 3) := by decide +kernel
theorem dX6_isBelow_9 : decode cX6_isBelow 9 = .ok (.if_icmp .ge 43, 3) := by decide +kernel
theorem dX6_isBelow_12 : decode cX6_isBelow 12 = .ok (.iload_n 2, 1) := by decide +kernel
theorem dX6_isBelow_13 : decode cX6_isBelow 13 = .ok (.aload_n 0, 1) := by decide +kernel
theorem dX6_isBelow_14 : decode cX6_isBelow 14 = .ok (.getfield 7, 3) := by decide +kernel
theorem dX6_isBelow_17 : decode cX6_isBelow 17 = .ok (.iload_n 3, 1) := by decide +kernel
theorem dX6_isBelow_18 : decode cX6_isBelow 18 = .ok (.iaload, 1) := by decide +kernel
theorem dX6_isBelow_19 : decode cX6_isBelow 19 = .ok (.iload_n 1, 1) := by decide +kernel
theorem dX6_isBelow_20 : decode cX6_isBelow 20 = .ok (.if_icmp .ne 23, 3) := by decide +kernel
theorem dX6_isBelow_23 : decode cX6_isBelow 23 = .ok (.aload_n 0, 1) := by decide +kernel
theorem dX6_isBelow_24 : decode cX6_isBelow 24 = .ok (.iload_n 1, 1) := by decide +kernel
theorem dX6_isBelow_25 : decode cX6_isBelow 25 = .ok (.aload_n 0, 1) := by decide +kernel
theorem dX6_isBelow_26 : decode cX6_isBelow 26 = .ok (.getfield 13, 3) := by decide +kernel
theorem dX6_isBelow_29 : decode cX6_isBelow 29 = .ok (.iload_n 3, 1) := by decide +kernel
theorem dX6_isBelow_30 : decode cX6_isBelow 30 = .ok (.iaload, 1) := by decide +kernel
theorem dX6_isBelow_31 : decode cX6_isBelow 31 = .ok (.invokevirtual 105, 3) := by decide +kernel
theorem dX6_isBelow_34 : decode cX6_isBelow 34 = .ok (.lconst 0, 1) := by decide +kernel
theorem dX6_isBelow_35 : decode cX6_isBelow 35 = .ok (.lcmp, 1) := by decide +kernel
theorem dX6_isBelow_36 : decode cX6_isBelow 36 = .ok (.ifCond .ge 7, 3) := by decide +kernel
theorem dX6_isBelow_39 : decode cX6_isBelow 39 = .ok (.iconst 1, 1) := by decide +kernel
theorem dX6_isBelow_40 : decode cX6_isBelow 40 = .ok (.goto 4, 3) := by decide +kernel
theorem dX6_isBelow_43 : decode cX6_isBelow 43 = .ok (.iconst 0, 1) := by decide +kernel
theorem dX6_isBelow_44 : decode cX6_isBelow 44 = .ok (.ior, 1) := by decide +kernel
theorem dX6_isBelow_45 : decode cX6_isBelow 45 = .ok (.istore_n 2, 1) := by decide +kernel
theorem dX6_isBelow_46 : decode cX6_isBelow 46 = .ok (.iinc 3 1, 3) := by decide +kernel
theorem dX6_isBelow_49 : decode cX6_isBelow 49 = .ok (.goto (-45), 3) := by decide +kernel
theorem dX6_isBelow_52 : decode cX6_isBelow 52 = .ok (.iload_n 2, 1) := by decide +kernel
theorem dX6_isBelow_53 : decode cX6_isBelow 53 = .ok (.ireturn, 1) := by decide +kernel
set_option maxRecDepth 20000 in
theorem ggX6_enters_X6_isShare : GoodIn wsX6_enters wsX6_isShare := goodIn_r _ [13, 14, 15, 12, 16] (by decide +kernel) (by decide +kernel)
set_option maxRecDepth 20000 in
theorem gX6_enters_X6_isShare : GoodIn wsX6_enters (va_wsS RX6 109 yX6_isShare wsX6_isShare) := goodIn_app (goodIn_of _ (by decide +kernel)) ggX6_enters_X6_isShare
set_option maxRecDepth 20000 in
theorem ggX6_enters_X6_isDay : GoodIn wsX6_enters wsX6_isDay := goodIn_r _ [19, 14, 15, 12, 16] (by decide +kernel) (by decide +kernel)
set_option maxRecDepth 20000 in
theorem gX6_enters_X6_isDay : GoodIn wsX6_enters (va_wsS RX6 113 yX6_isDay wsX6_isDay) := goodIn_app (goodIn_of _ (by decide +kernel)) ggX6_enters_X6_isDay
set_option maxRecDepth 20000 in
theorem ggX6_enters_X6_isIn : GoodIn wsX6_enters wsX6_isIn := goodIn_r _ [16] (by decide +kernel) (by decide +kernel)
set_option maxRecDepth 20000 in
theorem gX6_enters_X6_isIn : GoodIn wsX6_enters (va_wsS RX6 94 yX6_isIn wsX6_isIn) := goodIn_app (goodIn_of _ (by decide +kernel)) ggX6_enters_X6_isIn
set_option maxRecDepth 20000 in
theorem ggX6_enters_X6_isBelow : GoodIn wsX6_enters wsX6_isBelow := goodIn_r _ [23, 3, 4, 5, 24, 25, 26, 12, 27, 9, 6, 8, 28, 29, 30, 31, 32, 33, 34, 35, 36, 37, 38, 39, 40, 41, 42, 43, 44, 45, 46, 47, 48, 49, 50, 51, 52, 53, 54, 55, 56, 57, 58, 59, 60, 61, 62, 63, 64] (by decide +kernel) (by decide +kernel)
set_option maxRecDepth 20000 in
theorem gX6_enters_X6_isBelow : GoodIn wsX6_enters (wsV RX6 117 RX6 yX6_isBelow wsX6_isBelow) := goodIn_app (goodIn_of _ (by decide +kernel)) ggX6_enters_X6_isBelow
theorem dX6_enters_0 : decode cX6_enters 0 = .ok (.aload_n 0, 1) := by decide +kernel
theorem dX6_enters_1 : decode cX6_enters 1 = .ok (.iload_n 1, 1) := by decide +kernel
theorem dX6_enters_2 : decode cX6_enters 2 = .ok (.invokestatic 109, 3) := by decide +kernel
theorem dX6_enters_5 : decode cX6_enters 5 = .ok (.ifCond .eq 10, 3) := by decide +kernel
theorem dX6_enters_8 : decode cX6_enters 8 = .ok (.iload_n 2, 1) := by decide +kernel
theorem dX6_enters_9 : decode cX6_enters 9 = .ok (.invokestatic 113, 3) := by decide +kernel
theorem dX6_enters_12 : decode cX6_enters 12 = .ok (.ifCond .ne 7, 3) := by decide +kernel
theorem dX6_enters_15 : decode cX6_enters 15 = .ok (.iconst 1, 1) := by decide +kernel
theorem dX6_enters_16 : decode cX6_enters 16 = .ok (.goto 30, 3) := by decide +kernel
theorem dX6_enters_19 : decode cX6_enters 19 = .ok (.iload_n 3, 1) := by decide +kernel
theorem dX6_enters_20 : decode cX6_enters 20 = .ok (.iconst 1, 1) := by decide +kernel
theorem dX6_enters_21 : decode cX6_enters 21 = .ok (.sipush 1000, 3) := by decide +kernel
theorem dX6_enters_24 : decode cX6_enters 24 = .ok (.invokestatic 94, 3) := by decide +kernel
theorem dX6_enters_27 : decode cX6_enters 27 = .ok (.ifCond .eq 14, 3) := by decide +kernel
theorem dX6_enters_30 : decode cX6_enters 30 = .ok (.iload 4, 2) := by decide +kernel
theorem dX6_enters_32 : decode cX6_enters 32 = .ok (.iconst 0, 1) := by decide +kernel
theorem dX6_enters_33 : decode cX6_enters 33 = .ok (.ldc 116, 2) := by decide +kernel
theorem dX6_enters_35 : decode cX6_enters 35 = .ok (.invokestatic 94, 3) := by decide +kernel
theorem dX6_enters_38 : decode cX6_enters 38 = .ok (.ifCond .ne 7, 3) := by decide +kernel
theorem dX6_enters_41 : decode cX6_enters 41 = .ok (.iconst 2, 1) := by decide +kernel
theorem dX6_enters_42 : decode cX6_enters 42 = .ok (.goto 4, 3) := by decide +kernel
theorem dX6_enters_45 : decode cX6_enters 45 = .ok (.iconst 0, 1) := by decide +kernel
theorem dX6_enters_46 : decode cX6_enters 46 = .ok (.putfield 91, 3) := by decide +kernel
theorem dX6_enters_49 : decode cX6_enters 49 = .ok (.aload_n 0, 1) := by decide +kernel
theorem dX6_enters_50 : decode cX6_enters 50 = .ok (.getfield 91, 3) := by decide +kernel
theorem dX6_enters_53 : decode cX6_enters 53 = .ok (.ifCond .le 5, 3) := by decide +kernel
theorem dX6_enters_56 : decode cX6_enters 56 = .ok (.iconst 0, 1) := by decide +kernel
theorem dX6_enters_57 : decode cX6_enters 57 = .ok (.ireturn, 1) := by decide +kernel
theorem dX6_enters_58 : decode cX6_enters 58 = .ok (.aload_n 0, 1) := by decide +kernel
theorem dX6_enters_59 : decode cX6_enters 59 = .ok (.aload_n 0, 1) := by decide +kernel
theorem dX6_enters_60 : decode cX6_enters 60 = .ok (.getfield 98, 3) := by decide +kernel
theorem dX6_enters_63 : decode cX6_enters 63 = .ok (.bipush 60, 2) := by decide +kernel
theorem dX6_enters_65 : decode cX6_enters 65 = .ok (.if_icmp .ne 7, 3) := by decide +kernel
theorem dX6_enters_68 : decode cX6_enters 68 = .ok (.iconst 3, 1) := by decide +kernel
theorem dX6_enters_69 : decode cX6_enters 69 = .ok (.goto 4, 3) := by decide +kernel
theorem dX6_enters_72 : decode cX6_enters 72 = .ok (.iconst 0, 1) := by decide +kernel
theorem dX6_enters_73 : decode cX6_enters 73 = .ok (.putfield 91, 3) := by decide +kernel
theorem dX6_enters_76 : decode cX6_enters 76 = .ok (.aload_n 0, 1) := by decide +kernel
theorem dX6_enters_77 : decode cX6_enters 77 = .ok (.getfield 91, 3) := by decide +kernel
theorem dX6_enters_80 : decode cX6_enters 80 = .ok (.ifCond .le 5, 3) := by decide +kernel
theorem dX6_enters_83 : decode cX6_enters 83 = .ok (.iconst 0, 1) := by decide +kernel
theorem dX6_enters_84 : decode cX6_enters 84 = .ok (.ireturn, 1) := by decide +kernel
theorem dX6_enters_85 : decode cX6_enters 85 = .ok (.aload_n 0, 1) := by decide +kernel
theorem dX6_enters_86 : decode cX6_enters 86 = .ok (.getfield 7, 3) := by decide +kernel
theorem dX6_enters_89 : decode cX6_enters 89 = .ok (.aload_n 0, 1) := by decide +kernel
theorem dX6_enters_90 : decode cX6_enters 90 = .ok (.getfield 98, 3) := by decide +kernel
theorem dX6_enters_93 : decode cX6_enters 93 = .ok (.iload_n 1, 1) := by decide +kernel
theorem dX6_enters_94 : decode cX6_enters 94 = .ok (.iastore, 1) := by decide +kernel
theorem dX6_enters_95 : decode cX6_enters 95 = .ok (.aload_n 0, 1) := by decide +kernel
theorem dX6_enters_96 : decode cX6_enters 96 = .ok (.getfield 13, 3) := by decide +kernel
theorem dX6_enters_99 : decode cX6_enters 99 = .ok (.aload_n 0, 1) := by decide +kernel
theorem dX6_enters_100 : decode cX6_enters 100 = .ok (.getfield 98, 3) := by decide +kernel
theorem dX6_enters_103 : decode cX6_enters 103 = .ok (.iload_n 2, 1) := by decide +kernel
theorem dX6_enters_104 : decode cX6_enters 104 = .ok (.iastore, 1) := by decide +kernel
theorem dX6_enters_105 : decode cX6_enters 105 = .ok (.aload_n 0, 1) := by decide +kernel
theorem dX6_enters_106 : decode cX6_enters 106 = .ok (.getfield 16, 3) := by decide +kernel
theorem dX6_enters_109 : decode cX6_enters 109 = .ok (.aload_n 0, 1) := by decide +kernel
theorem dX6_enters_110 : decode cX6_enters 110 = .ok (.getfield 98, 3) := by decide +kernel
theorem dX6_enters_113 : decode cX6_enters 113 = .ok (.iload_n 3, 1) := by decide +kernel
theorem dX6_enters_114 : decode cX6_enters 114 = .ok (.iastore, 1) := by decide +kernel
theorem dX6_enters_115 : decode cX6_enters 115 = .ok (.aload_n 0, 1) := by decide +kernel
theorem dX6_enters_116 : decode cX6_enters 116 = .ok (.getfield 19, 3) := by decide +kernel
theorem dX6_enters_119 : decode cX6_enters 119 = .ok (.aload_n 0, 1) := by decide +kernel
theorem dX6_enters_120 : decode cX6_enters 120 = .ok (.getfield 98, 3) := by decide +kernel
theorem dX6_enters_123 : decode cX6_enters 123 = .ok (.iload 4, 2) := by decide +kernel
theorem dX6_enters_125 : decode cX6_enters 125 = .ok (.iastore, 1) := by decide +kernel
theorem dX6_enters_126 : decode cX6_enters 126 = .ok (.aload_n 0, 1) := by decide +kernel
theorem dX6_enters_127 : decode cX6_enters 127 = .ok (.getfield 22, 3) := by decide +kernel
theorem dX6_enters_130 : decode cX6_enters 130 = .ok (.aload_n 0, 1) := by decide +kernel
theorem dX6_enters_131 : decode cX6_enters 131 = .ok (.getfield 98, 3) := by decide +kernel
theorem dX6_enters_134 : decode cX6_enters 134 = .ok (.iload 5, 2) := by decide +kernel
theorem dX6_enters_136 : decode cX6_enters 136 = .ok (.bastore, 1) := by decide +kernel
theorem dX6_enters_137 : decode cX6_enters 137 = .ok (.aload_n 0, 1) := by decide +kernel
theorem dX6_enters_138 : decode cX6_enters 138 = .ok (.getfield 26, 3) := by decide +kernel
theorem dX6_enters_141 : decode cX6_enters 141 = .ok (.aload_n 0, 1) := by decide +kernel
theorem dX6_enters_142 : decode cX6_enters 142 = .ok (.getfield 98, 3) := by decide +kernel
theorem dX6_enters_145 : decode cX6_enters 145 = .ok (.iconst 0, 1) := by decide +kernel
theorem dX6_enters_146 : decode cX6_enters 146 = .ok (.bastore, 1) := by decide +kernel
theorem dX6_enters_147 : decode cX6_enters 147 = .ok (.aload_n 0, 1) := by decide +kernel
theorem dX6_enters_148 : decode cX6_enters 148 = .ok (.dup, 1) := by decide +kernel
theorem dX6_enters_149 : decode cX6_enters 149 = .ok (.getfield 98, 3) := by decide +kernel
theorem dX6_enters_152 : decode cX6_enters 152 = .ok (.iconst 1, 1) := by decide +kernel
theorem dX6_enters_153 : decode cX6_enters 153 = .ok (.iadd, 1) := by decide +kernel
theorem dX6_enters_154 : decode cX6_enters 154 = .ok (.putfield 98, 3) := by decide +kernel
theorem dX6_enters_157 : decode cX6_enters 157 = .ok (.aload_n 0, 1) := by decide +kernel
theorem dX6_enters_158 : decode cX6_enters 158 = .ok (.iload_n 1, 1) := by decide +kernel
theorem dX6_enters_159 : decode cX6_enters 159 = .ok (.invokevirtual 117, 3) := by decide +kernel
theorem dX6_enters_162 : decode cX6_enters 162 = .ok (.ifCond .eq 20, 3) := by decide +kernel
theorem dX6_enters_165 : decode cX6_enters 165 = .ok (.aload_n 0, 1) := by decide +kernel
theorem dX6_enters_166 : decode cX6_enters 166 = .ok (.dup, 1) := by decide +kernel
theorem dX6_enters_167 : decode cX6_enters 167 = .ok (.getfield 98, 3) := by decide +kernel
theorem dX6_enters_170 : decode cX6_enters 170 = .ok (.iconst 1, 1) := by decide +kernel
theorem dX6_enters_171 : decode cX6_enters 171 = .ok (.isub, 1) := by decide +kernel
theorem dX6_enters_172 : decode cX6_enters 172 = .ok (.putfield 98, 3) := by decide +kernel
theorem dX6_enters_175 : decode cX6_enters 175 = .ok (.aload_n 0, 1) := by decide +kernel
theorem dX6_enters_176 : decode cX6_enters 176 = .ok (.iconst 3, 1) := by decide +kernel
theorem dX6_enters_177 : decode cX6_enters 177 = .ok (.putfield 91, 3) := by decide +kernel
theorem dX6_enters_180 : decode cX6_enters 180 = .ok (.iconst 0, 1) := by decide +kernel
theorem dX6_enters_181 : decode cX6_enters 181 = .ok (.ireturn, 1) := by decide +kernel
theorem dX6_enters_182 : decode cX6_enters 182 = .ok (.aload_n 0, 1) := by decide +kernel
theorem dX6_enters_183 : decode cX6_enters 183 = .ok (.getfield 98, 3) := by decide +kernel
theorem dX6_enters_186 : decode cX6_enters 186 = .ok (.iconst 1, 1) := by decide +kernel
theorem dX6_enters_187 : decode cX6_enters 187 = .ok (.isub, 1) := by decide +kernel
theorem dX6_enters_188 : decode cX6_enters 188 = .ok (.ireturn, 1) := by decide +kernel
set_option maxRecDepth 20000 in
theorem ggX6_buy_X6_enters : GoodIn wsX6_buy wsX6_enters := goodIn_r _ [5, 6, 7, 8, 9, 10, 11, 12, 13, 14, 15, 16, 4, 17, 18, 19, 20, 21, 22, 23, 24, 25, 26, 27, 28, 29, 30, 31, 32, 33, 34, 35, 36, 37, 38, 39, 40, 41, 42, 43, 44, 45, 46, 47, 48, 49, 50, 51, 52, 53, 54, 55, 56, 57, 58, 59, 60, 61, 62, 63, 64, 65, 66, 67, 68] (by decide +kernel) (by decide +kernel)
set_option maxRecDepth 20000 in
theorem gX6_buy_X6_enters : GoodIn wsX6_buy (wsV RX6 120 RX6 yX6_enters wsX6_enters) := goodIn_app (goodIn_of _ (by decide +kernel)) ggX6_buy_X6_enters
theorem dX6_buy_0 : decode cX6_buy 0 = .ok (.aload_n 0, 1) := by decide +kernel
theorem dX6_buy_1 : decode cX6_buy 1 = .ok (.iload_n 1, 1) := by decide +kernel
theorem dX6_buy_2 : decode cX6_buy 2 = .ok (.iload_n 2, 1) := by decide +kernel
theorem dX6_buy_3 : decode cX6_buy 3 = .ok (.iload_n 3, 1) := by decide +kernel
theorem dX6_buy_4 : decode cX6_buy 4 = .ok (.iload 4, 2) := by decide +kernel
theorem dX6_buy_6 : decode cX6_buy 6 = .ok (.iconst 0, 1) := by decide +kernel
theorem dX6_buy_7 : decode cX6_buy 7 = .ok (.invokevirtual 120, 3) := by decide +kernel
theorem dX6_buy_10 : decode cX6_buy 10 = .ok (.ireturn, 1) := by decide +kernel
set_option maxRecDepth 20000 in
theorem ggX6_sell_X6_enters : GoodIn wsX6_sell wsX6_enters := goodIn_r _ [5, 6, 7, 8, 9, 10, 11, 12, 13, 14, 15, 16, 4, 17, 18, 19, 20, 21, 22, 23, 24, 25, 26, 27, 28, 29, 30, 31, 32, 33, 34, 35, 36, 37, 38, 39, 40, 41, 42, 43, 44, 45, 46, 47, 48, 49, 50, 51, 52, 53, 54, 55, 56, 57, 58, 59, 60, 61, 62, 63, 64, 65, 66, 67, 68] (by decide +kernel) (by decide +kernel)
set_option maxRecDepth 20000 in
theorem gX6_sell_X6_enters : GoodIn wsX6_sell (wsV RX6 120 RX6 yX6_enters wsX6_enters) := goodIn_app (goodIn_of _ (by decide +kernel)) ggX6_sell_X6_enters
theorem dX6_sell_0 : decode cX6_sell 0 = .ok (.aload_n 0, 1) := by decide +kernel
theorem dX6_sell_1 : decode cX6_sell 1 = .ok (.iload_n 1, 1) := by decide +kernel
theorem dX6_sell_2 : decode cX6_sell 2 = .ok (.iload_n 2, 1) := by decide +kernel
theorem dX6_sell_3 : decode cX6_sell 3 = .ok (.iload_n 3, 1) := by decide +kernel
theorem dX6_sell_4 : decode cX6_sell 4 = .ok (.iload 4, 2) := by decide +kernel
theorem dX6_sell_6 : decode cX6_sell 6 = .ok (.iconst 1, 1) := by decide +kernel
theorem dX6_sell_7 : decode cX6_sell 7 = .ok (.invokevirtual 120, 3) := by decide +kernel
theorem dX6_sell_10 : decode cX6_sell 10 = .ok (.ireturn, 1) := by decide +kernel
set_option maxRecDepth 20000 in
theorem ggX6_split_X6_isShare : GoodIn wsX6_split wsX6_isShare := goodIn_r _ [8, 9, 10, 7, 11] (by decide +kernel) (by decide +kernel)
set_option maxRecDepth 20000 in
theorem gX6_split_X6_isShare : GoodIn wsX6_split (va_wsS RX6 109 yX6_isShare wsX6_isShare) := goodIn_app (goodIn_of _ (by decide +kernel)) ggX6_split_X6_isShare
set_option maxRecDepth 20000 in
theorem ggX6_split_X6_isDay : GoodIn wsX6_split wsX6_isDay := goodIn_r _ [14, 9, 10, 7, 11] (by decide +kernel) (by decide +kernel)
set_option maxRecDepth 20000 in
theorem gX6_split_X6_isDay : GoodIn wsX6_split (va_wsS RX6 113 yX6_isDay wsX6_isDay) := goodIn_app (goodIn_of _ (by decide +kernel)) ggX6_split_X6_isDay
set_option maxRecDepth 20000 in
theorem ggX6_split_X6_isIn : GoodIn wsX6_split wsX6_isIn := goodIn_r _ [11] (by decide +kernel) (by decide +kernel)
set_option maxRecDepth 20000 in
theorem gX6_split_X6_isIn : GoodIn wsX6_split (va_wsS RX6 94 yX6_isIn wsX6_isIn) := goodIn_app (goodIn_of _ (by decide +kernel)) ggX6_split_X6_isIn
theorem dX6_split_0 : decode cX6_split 0 = .ok (.aload_n 0, 1) := by decide +kernel
theorem dX6_split_1 : decode cX6_split 1 = .ok (.iload_n 1, 1) := by decide +kernel
theorem dX6_split_2 : decode cX6_split 2 = .ok (.invokestatic 109, 3) := by decide +kernel
theorem dX6_split_5 : decode cX6_split 5 = .ok (.ifCond .eq 10, 3) := by decide +kernel
theorem dX6_split_8 : decode cX6_split 8 = .ok (.iload_n 2, 1) := by decide +kernel
theorem dX6_split_9 : decode cX6_split 9 = .ok (.invokestatic 113, 3) := by decide +kernel
theorem dX6_split_12 : decode cX6_split 12 = .ok (.ifCond .ne 7, 3) := by decide +kernel
theorem dX6_split_15 : decode cX6_split 15 = .ok (.iconst 1, 1) := by decide +kernel
theorem dX6_split_16 : decode cX6_split 16 = .ok (.goto 17, 3) := by decide +kernel
theorem dX6_split_19 : decode cX6_split 19 = .ok (.iload_n 3, 1) := by decide +kernel
theorem dX6_split_20 : decode cX6_split 20 = .ok (.iconst 2, 1) := by decide +kernel
theorem dX6_split_21 : decode cX6_split 21 = .ok (.iconst 5, 1) := by decide +kernel
theorem dX6_split_22 : decode cX6_split 22 = .ok (.invokestatic 94, 3) := by decide +kernel
theorem dX6_split_25 : decode cX6_split 25 = .ok (.ifCond .eq 7, 3) := by decide +kernel
theorem dX6_split_28 : decode cX6_split 28 = .ok (.iconst 0, 1) := by decide +kernel
theorem dX6_split_29 : decode cX6_split 29 = .ok (.goto 4, 3) := by decide +kernel
theorem dX6_split_32 : decode cX6_split 32 = .ok (.iconst 2, 1) := by decide +kernel
theorem dX6_split_33 : decode cX6_split 33 = .ok (.putfield 91, 3) := by decide +kernel
theorem dX6_split_36 : decode cX6_split 36 = .ok (.aload_n 0, 1) := by decide +kernel
theorem dX6_split_37 : decode cX6_split 37 = .ok (.getfield 91, 3) := by decide +kernel
theorem dX6_split_40 : decode cX6_split 40 = .ok (.ifCond .le 5, 3) := by decide +kernel
theorem dX6_split_43 : decode cX6_split 43 = .ok (.iconst 0, 1) := by decide +kernel
theorem dX6_split_44 : decode cX6_split 44 = .ok (.ireturn, 1) := by decide +kernel
theorem dX6_split_45 : decode cX6_split 45 = .ok (.iconst 4, 1) := by decide +kernel
theorem dX6_split_46 : decode cX6_split 46 = .ok (.iload_n 1, 1) := by decide +kernel
theorem dX6_split_47 : decode cX6_split 47 = .ok (.imul, 1) := by decide +kernel
theorem dX6_split_48 : decode cX6_split 48 = .ok (.aload_n 0, 1) := by decide +kernel
theorem dX6_split_49 : decode cX6_split 49 = .ok (.getfield 29, 3) := by decide +kernel
theorem dX6_split_52 : decode cX6_split 52 = .ok (.iload_n 1, 1) := by decide +kernel
theorem dX6_split_53 : decode cX6_split 53 = .ok (.iaload, 1) := by decide +kernel
theorem dX6_split_54 : decode cX6_split 54 = .ok (.iadd, 1) := by decide +kernel
theorem dX6_split_55 : decode cX6_split 55 = .ok (.istore 4, 2) := by decide +kernel
theorem dX6_split_57 : decode cX6_split 57 = .ok (.aload_n 0, 1) := by decide +kernel
theorem dX6_split_58 : decode cX6_split 58 = .ok (.aload_n 0, 1) := by decide +kernel
theorem dX6_split_59 : decode cX6_split 59 = .ok (.getfield 29, 3) := by decide +kernel
theorem dX6_split_62 : decode cX6_split 62 = .ok (.iload_n 1, 1) := by decide +kernel
theorem dX6_split_63 : decode cX6_split 63 = .ok (.iaload, 1) := by decide +kernel
theorem dX6_split_64 : decode cX6_split 64 = .ok (.iconst 4, 1) := by decide +kernel
theorem dX6_split_65 : decode cX6_split 65 = .ok (.if_icmp .ne 7, 3) := by decide +kernel
theorem dX6_split_68 : decode cX6_split 68 = .ok (.iconst 3, 1) := by decide +kernel
theorem dX6_split_69 : decode cX6_split 69 = .ok (.goto 4, 3) := by decide +kernel
theorem dX6_split_72 : decode cX6_split 72 = .ok (.iconst 0, 1) := by decide +kernel
theorem dX6_split_73 : decode cX6_split 73 = .ok (.putfield 91, 3) := by decide +kernel
theorem dX6_split_76 : decode cX6_split 76 = .ok (.iconst 4, 1) := by decide +kernel
theorem dX6_split_77 : decode cX6_split 77 = .ok (.iload_n 1, 1) := by decide +kernel
theorem dX6_split_78 : decode cX6_split 78 = .ok (.imul, 1) := by decide +kernel
theorem dX6_split_79 : decode cX6_split 79 = .ok (.istore 5, 2) := by decide +kernel
theorem dX6_split_81 : decode cX6_split 81 = .ok (.iload 5, 2) := by decide +kernel
theorem dX6_split_83 : decode cX6_split 83 = .ok (.iload 4, 2) := by decide +kernel
theorem dX6_split_85 : decode cX6_split 85 = .ok (.if_icmp .ge 32, 3) := by decide +kernel
theorem dX6_split_88 : decode cX6_split 88 = .ok (.aload_n 0, 1) := by decide +kernel
theorem dX6_split_89 : decode cX6_split 89 = .ok (.aload_n 0, 1) := by decide +kernel
theorem dX6_split_90 : decode cX6_split 90 = .ok (.getfield 32, 3) := by decide +kernel
theorem dX6_split_93 : decode cX6_split 93 = .ok (.iload 5, 2) := by decide +kernel
theorem dX6_split_95 : decode cX6_split 95 = .ok (.iaload, 1) := by decide +kernel
theorem dX6_split_96 : decode cX6_split 96 = .ok (.iload_n 2, 1) := by decide +kernel
theorem dX6_split_97 : decode cX6_split 97 = .ok (.if_icmp .ne 7, 3) := by decide +kernel
theorem dX6_split_100 : decode cX6_split 100 = .ok (.iconst 3, 1) := by decide +kernel
theorem dX6_split_101 : decode cX6_split 101 = .ok (.goto 7, 3) := by decide +kernel
theorem dX6_split_104 : decode cX6_split 104 = .ok (.aload_n 0, 1) := by decide +kernel
theorem dX6_split_105 : decode cX6_split 105 = .ok (.getfield 91, 3) := by decide +kernel
theorem dX6_split_108 : decode cX6_split 108 = .ok (.putfield 91, 3) := by decide +kernel
theorem dX6_split_111 : decode cX6_split 111 = .ok (.iinc 5 1, 3) := by decide +kernel
theorem dX6_split_114 : decode cX6_split 114 = .ok (.goto (-33), 3) := by decide +kernel
theorem dX6_split_117 : decode cX6_split 117 = .ok (.aload_n 0, 1) := by decide +kernel
theorem dX6_split_118 : decode cX6_split 118 = .ok (.getfield 91, 3) := by decide +kernel
theorem dX6_split_121 : decode cX6_split 121 = .ok (.ifCond .le 5, 3) := by decide +kernel
theorem dX6_split_124 : decode cX6_split 124 = .ok (.iconst 0, 1) := by decide +kernel
theorem dX6_split_125 : decode cX6_split 125 = .ok (.ireturn, 1) := by decide +kernel
theorem dX6_split_126 : decode cX6_split 126 = .ok (.aload_n 0, 1) := by decide +kernel
theorem dX6_split_127 : decode cX6_split 127 = .ok (.getfield 32, 3) := by decide +kernel
theorem dX6_split_130 : decode cX6_split 130 = .ok (.iload 4, 2) := by decide +kernel
theorem dX6_split_132 : decode cX6_split 132 = .ok (.iload_n 2, 1) := by decide +kernel
theorem dX6_split_133 : decode cX6_split 133 = .ok (.iastore, 1) := by decide +kernel
theorem dX6_split_134 : decode cX6_split 134 = .ok (.aload_n 0, 1) := by decide +kernel
theorem dX6_split_135 : decode cX6_split 135 = .ok (.getfield 35, 3) := by decide +kernel
theorem dX6_split_138 : decode cX6_split 138 = .ok (.iload 4, 2) := by decide +kernel
theorem dX6_split_140 : decode cX6_split 140 = .ok (.iload_n 3, 1) := by decide +kernel
theorem dX6_split_141 : decode cX6_split 141 = .ok (.iastore, 1) := by decide +kernel
theorem dX6_split_142 : decode cX6_split 142 = .ok (.aload_n 0, 1) := by decide +kernel
theorem dX6_split_143 : decode cX6_split 143 = .ok (.getfield 29, 3) := by decide +kernel
theorem dX6_split_146 : decode cX6_split 146 = .ok (.iload_n 1, 1) := by decide +kernel
theorem dX6_split_147 : decode cX6_split 147 = .ok (.dup2, 1) := by decide +kernel
theorem dX6_split_148 : decode cX6_split 148 = .ok (.iaload, 1) := by decide +kernel
theorem dX6_split_149 : decode cX6_split 149 = .ok (.iconst 1, 1) := by decide +kernel
theorem dX6_split_150 : decode cX6_split 150 = .ok (.iadd, 1) := by decide +kernel
theorem dX6_split_151 : decode cX6_split 151 = .ok (.iastore, 1) := by decide +kernel
theorem dX6_split_152 : decode cX6_split 152 = .ok (.aload_n 0, 1) := by decide +kernel
theorem dX6_split_153 : decode cX6_split 153 = .ok (.getfield 29, 3) := by decide +kernel
theorem dX6_split_156 : decode cX6_split 156 = .ok (.iload_n 1, 1) := by decide +kernel
theorem dX6_split_157 : decode cX6_split 157 = .ok (.iaload, 1) := by decide +kernel
theorem dX6_split_158 : decode cX6_split 158 = .ok (.ireturn, 1) := by decide +kernel
set_option maxRecDepth 20000 in
theorem ggX6_cancel_X6_isIn : GoodIn wsX6_cancel wsX6_isIn := goodIn_r _ [8] (by decide +kernel) (by decide +kernel)
set_option maxRecDepth 20000 in
theorem gX6_cancel_X6_isIn : GoodIn wsX6_cancel (va_wsS RX6 94 yX6_isIn wsX6_isIn) := goodIn_app (goodIn_of _ (by decide +kernel)) ggX6_cancel_X6_isIn
set_option maxRecDepth 20000 in
theorem ggX6_cancel_X6_isBelow : GoodIn wsX6_cancel wsX6_isBelow := goodIn_r _ [12, 1, 4, 13, 14, 15, 16, 7, 17, 2, 18, 19, 20, 21, 22, 23, 24, 25, 26, 27, 28, 29, 30, 31, 32, 33, 34, 35, 36, 37, 38, 39, 40, 41, 42, 43, 44, 45, 46, 47, 48, 49, 50, 51, 52, 53, 54, 55, 56] (by decide +kernel) (by decide +kernel)
set_option maxRecDepth 20000 in
theorem gX6_cancel_X6_isBelow : GoodIn wsX6_cancel (wsV RX6 117 RX6 yX6_isBelow wsX6_isBelow) := goodIn_app (goodIn_of _ (by decide +kernel)) ggX6_cancel_X6_isBelow
theorem dX6_cancel_0 : decode cX6_cancel 0 = .ok (.aload_n 0, 1) := by decide +kernel
theorem dX6_cancel_1 : decode cX6_cancel 1 = .ok (.iload_n 1, 1) := by decide +kernel
theorem dX6_cancel_2 : decode cX6_cancel 2 = .ok (.iconst 0, 1) := by decide +kernel
theorem dX6_cancel_3 : decode cX6_cancel 3 = .ok (.aload_n 0, 1) := by decide +kernel
theorem dX6_cancel_4 : decode cX6_cancel 4 = .ok (.getfield 98, 3) := by decide +kernel
theorem dX6_cancel_7 : decode cX6_cancel 7 = .ok (.iconst 1, 1) := by decide +kernel
theorem dX6_cancel_8 : decode cX6_cancel 8 = .ok (.isub, 1) := by decide +kernel
theorem dX6_cancel_9 : decode cX6_cancel 9 = .ok (.invokestatic 94, 3) := by decide +kernel
theorem dX6_cancel_12 : decode cX6_cancel 12 = .ok (.ifCond .ne 7, 3) := by decide +kernel
theorem dX6_cancel_15 : decode cX6_cancel 15 = .ok (.iconst 1, 1) := by decide +kernel
theorem dX6_cancel_16 : decode cX6_cancel 16 = .ok (.goto 17, 3) := by decide +kernel
theorem dX6_cancel_19 : decode cX6_cancel 19 = .ok (.aload_n 0, 1) := by decide +kernel
theorem dX6_cancel_20 : decode cX6_cancel 20 = .ok (.getfield 26, 3) := by decide +kernel
theorem dX6_cancel_23 : decode cX6_cancel 23 = .ok (.iload_n 1, 1) := by decide +kernel
theorem dX6_cancel_24 : decode cX6_cancel 24 = .ok (.baload, 1) := by decide +kernel
theorem dX6_cancel_25 : decode cX6_cancel 25 = .ok (.ifCond .eq 7, 3) := by decide +kernel
theorem dX6_cancel_28 : decode cX6_cancel 28 = .ok (.iconst 2, 1) := by decide +kernel
theorem dX6_cancel_29 : decode cX6_cancel 29 = .ok (.goto 4, 3) := by decide +kernel
theorem dX6_cancel_32 : decode cX6_cancel 32 = .ok (.iconst 0, 1) := by decide +kernel
theorem dX6_cancel_33 : decode cX6_cancel 33 = .ok (.putfield 91, 3) := by decide +kernel
theorem dX6_cancel_36 : decode cX6_cancel 36 = .ok (.aload_n 0, 1) := by decide +kernel
theorem dX6_cancel_37 : decode cX6_cancel 37 = .ok (.getfield 91, 3) := by decide +kernel
theorem dX6_cancel_40 : decode cX6_cancel 40 = .ok (.ifCond .le 4, 3) := by decide +kernel
theorem dX6_cancel_43 : decode cX6_cancel 43 = .ok (.return_, 1) := by decide +kernel
theorem dX6_cancel_44 : decode cX6_cancel 44 = .ok (.aload_n 0, 1) := by decide +kernel
theorem dX6_cancel_45 : decode cX6_cancel 45 = .ok (.getfield 26, 3) := by decide +kernel
theorem dX6_cancel_48 : decode cX6_cancel 48 = .ok (.iload_n 1, 1) := by decide +kernel
theorem dX6_cancel_49 : decode cX6_cancel 49 = .ok (.iconst 1, 1) := by decide +kernel
theorem dX6_cancel_50 : decode cX6_cancel 50 = .ok (.bastore, 1) := by decide +kernel
theorem dX6_cancel_51 : decode cX6_cancel 51 = .ok (.aload_n 0, 1) := by decide +kernel
theorem dX6_cancel_52 : decode cX6_cancel 52 = .ok (.aload_n 0, 1) := by decide +kernel
theorem dX6_cancel_53 : decode cX6_cancel 53 = .ok (.getfield 7, 3) := by decide +kernel
theorem dX6_cancel_56 : decode cX6_cancel 56 = .ok (.iload_n 1, 1) := by decide +kernel
theorem dX6_cancel_57 : decode cX6_cancel 57 = .ok (.iaload, 1) := by decide +kernel
theorem dX6_cancel_58 : decode cX6_cancel 58 = .ok (.invokevirtual 117, 3) := by decide +kernel
theorem dX6_cancel_61 : decode cX6_cancel 61 = .ok (.ifCond .eq 15, 3) := by decide +kernel
theorem dX6_cancel_64 : decode cX6_cancel 64 = .ok (.aload_n 0, 1) := by decide +kernel
theorem dX6_cancel_65 : decode cX6_cancel 65 = .ok (.getfield 26, 3) := by decide +kernel
theorem dX6_cancel_68 : decode cX6_cancel 68 = .ok (.iload_n 1, 1) := by decide +kernel
theorem dX6_cancel_69 : decode cX6_cancel 69 = .ok (.iconst 0, 1) := by decide +kernel
theorem dX6_cancel_70 : decode cX6_cancel 70 = .ok (.bastore, 1) := by decide +kernel
theorem dX6_cancel_71 : decode cX6_cancel 71 = .ok (.aload_n 0, 1) := by decide +kernel
theorem dX6_cancel_72 : decode cX6_cancel 72 = .ok (.iconst 2, 1) := by decide +kernel
theorem dX6_cancel_73 : decode cX6_cancel 73 = .ok (.putfield 91, 3) := by decide +kernel
theorem dX6_cancel_76 : decode cX6_cancel 76 = .ok (.return_, 1) := by decide +kernel
set_option maxRecDepth 20000 in
theorem ggX6_setAllowance_X6_isIn : GoodIn wsX6_setAllowance wsX6_isIn := goodIn_r _ [7] (by decide +kernel) (by decide +kernel)
set_option maxRecDepth 20000 in
theorem gX6_setAllowance_X6_isIn : GoodIn wsX6_setAllowance (va_wsS RX6 94 yX6_isIn wsX6_isIn) := goodIn_app (goodIn_of _ (by decide +kernel)) ggX6_setAllowance_X6_isIn
theorem dX6_setAllowance_0 : decode cX6_setAllowance 0 = .ok (.aload_n 0, 1) := by decide +kernel
theorem dX6_setAllowance_1 : decode cX6_setAllowance 1 = .ok (.iload_n 1, 1) := by decide +kernel
theorem dX6_setAllowance_2 : decode cX6_setAllowance 2 = .ok (.iconst 0, 1) := by decide +kernel
theorem dX6_setAllowance_3 : decode cX6_setAllowance 3 = .ok (.iconst 4, 1) := by decide +kernel
theorem dX6_setAllowance_4 : decode cX6_setAllowance 4 = .ok (.invokestatic 94, 3) := by decide +kernel
theorem dX6_setAllowance_7 : decode cX6_setAllowance 7 = .ok (.ifCond .ne 7, 3) := by decide +kernel
theorem dX6_setAllowance_10 : decode cX6_setAllowance 10 = .ok (.iconst 1, 1) := by decide +kernel
theorem dX6_setAllowance_11 : decode cX6_setAllowance 11 = .ok (.goto 18, 3) := by decide +kernel
theorem dX6_setAllowance_14 : decode cX6_setAllowance 14 = .ok (.iload_n 2, 1) := by decide +kernel
theorem dX6_setAllowance_15 : decode cX6_setAllowance 15 = .ok (.iconst 0, 1) := by decide +kernel
theorem dX6_setAllowance_16 : decode cX6_setAllowance 16 = .ok (.ldc 116, 2) := by decide +kernel
theorem dX6_setAllowance_18 : decode cX6_setAllowance 18 = .ok (.invokestatic 94, 3) := by decide +kernel
theorem dX6_setAllowance_21 : decode cX6_setAllowance 21 = .ok (.ifCond .eq 7, 3) := by decide +kernel
theorem dX6_setAllowance_24 : decode cX6_setAllowance 24 = .ok (.iconst 0, 1) := by decide +kernel
theorem dX6_setAllowance_25 : decode cX6_setAllowance 25 = .ok (.goto 4, 3) := by decide +kernel
theorem dX6_setAllowance_28 : decode cX6_setAllowance 28 = .ok (.iconst 2, 1) := by decide +kernel
theorem dX6_setAllowance_29 : decode cX6_setAllowance 29 = .ok (.putfield 91, 3) := by decide +kernel
theorem dX6_setAllowance_32 : decode cX6_setAllowance 32 = .ok (.aload_n 0, 1) := by decide +kernel
theorem dX6_setAllowance_33 : decode cX6_setAllowance 33 = .ok (.getfield 91, 3) := by decide +kernel
theorem dX6_setAllowance_36 : decode cX6_setAllowance 36 = .ok (.ifCond .le 5, 3) := by decide +kernel
theorem dX6_setAllowance_39 : decode cX6_setAllowance 39 = .ok (.iconst 0, 1) := by decide +kernel
theorem dX6_setAllowance_40 : decode cX6_setAllowance 40 = .ok (.ireturn, 1) := by decide +kernel
theorem dX6_setAllowance_41 : decode cX6_setAllowance 41 = .ok (.aload_n 0, 1) := by decide +kernel
theorem dX6_setAllowance_42 : decode cX6_setAllowance 42 = .ok (.getfield 38, 3) := by decide +kernel
theorem dX6_setAllowance_45 : decode cX6_setAllowance 45 = .ok (.iload_n 1, 1) := by decide +kernel
theorem dX6_setAllowance_46 : decode cX6_setAllowance 46 = .ok (.iaload, 1) := by decide +kernel
theorem dX6_setAllowance_47 : decode cX6_setAllowance 47 = .ok (.istore_n 3, 1) := by decide +kernel
theorem dX6_setAllowance_48 : decode cX6_setAllowance 48 = .ok (.aload_n 0, 1) := by decide +kernel
theorem dX6_setAllowance_49 : decode cX6_setAllowance 49 = .ok (.getfield 38, 3) := by decide +kernel
theorem dX6_setAllowance_52 : decode cX6_setAllowance 52 = .ok (.iload_n 1, 1) := by decide +kernel
theorem dX6_setAllowance_53 : decode cX6_setAllowance 53 = .ok (.iload_n 2, 1) := by decide +kernel
theorem dX6_setAllowance_54 : decode cX6_setAllowance 54 = .ok (.iastore, 1) := by decide +kernel
theorem dX6_setAllowance_55 : decode cX6_setAllowance 55 = .ok (.iload_n 3, 1) := by decide +kernel
theorem dX6_setAllowance_56 : decode cX6_setAllowance 56 = .ok (.ireturn, 1) := by decide +kernel
set_option maxRecDepth 20000 in
theorem ggX6_setWindow_X6_isIn : GoodIn wsX6_setWindow wsX6_isIn := goodIn_r _ [6] (by decide +kernel) (by decide +kernel)
set_option maxRecDepth 20000 in
theorem gX6_setWindow_X6_isIn : GoodIn wsX6_setWindow (va_wsS RX6 94 yX6_isIn wsX6_isIn) := goodIn_app (goodIn_of _ (by decide +kernel)) ggX6_setWindow_X6_isIn
theorem dX6_setWindow_0 : decode cX6_setWindow 0 = .ok (.aload_n 0, 1) := by decide +kernel
theorem dX6_setWindow_1 : decode cX6_setWindow 1 = .ok (.iload_n 1, 1) := by decide +kernel
theorem dX6_setWindow_2 : decode cX6_setWindow 2 = .ok (.iconst 0, 1) := by decide +kernel
theorem dX6_setWindow_3 : decode cX6_setWindow 3 = .ok (.bipush 60, 2) := by decide +kernel
theorem dX6_setWindow_5 : decode cX6_setWindow 5 = .ok (.invokestatic 94, 3) := by decide +kernel
theorem dX6_setWindow_8 : decode cX6_setWindow 8 = .ok (.ifCond .eq 7, 3) := by decide +kernel
theorem dX6_setWindow_11 : decode cX6_setWindow 11 = .ok (.iconst 0, 1) := by decide +kernel
theorem dX6_setWindow_12 : decode cX6_setWindow 12 = .ok (.goto 4, 3) := by decide +kernel
theorem dX6_setWindow_15 : decode cX6_setWindow 15 = .ok (.iconst 1, 1) := by decide +kernel
theorem dX6_setWindow_16 : decode cX6_setWindow 16 = .ok (.putfield 91, 3) := by decide +kernel
theorem dX6_setWindow_19 : decode cX6_setWindow 19 = .ok (.aload_n 0, 1) := by decide +kernel
theorem dX6_setWindow_20 : decode cX6_setWindow 20 = .ok (.getfield 91, 3) := by decide +kernel
theorem dX6_setWindow_23 : decode cX6_setWindow 23 = .ok (.ifCond .le 5, 3) := by decide +kernel
theorem dX6_setWindow_26 : decode cX6_setWindow 26 = .ok (.iconst 0, 1) := by decide +kernel
theorem dX6_setWindow_27 : decode cX6_setWindow 27 = .ok (.ireturn, 1) := by decide +kernel
theorem dX6_setWindow_28 : decode cX6_setWindow 28 = .ok (.aload_n 0, 1) := by decide +kernel
theorem dX6_setWindow_29 : decode cX6_setWindow 29 = .ok (.getfield 41, 3) := by decide +kernel
theorem dX6_setWindow_32 : decode cX6_setWindow 32 = .ok (.istore_n 2, 1) := by decide +kernel
theorem dX6_setWindow_33 : decode cX6_setWindow 33 = .ok (.aload_n 0, 1) := by decide +kernel
theorem dX6_setWindow_34 : decode cX6_setWindow 34 = .ok (.iload_n 1, 1) := by decide +kernel
theorem dX6_setWindow_35 : decode cX6_setWindow 35 = .ok (.putfield 41, 3) := by decide +kernel
theorem dX6_setWindow_38 : decode cX6_setWindow 38 = .ok (.iload_n 2, 1) := by decide +kernel
theorem dX6_setWindow_39 : decode cX6_setWindow 39 = .ok (.ireturn, 1) := by decide +kernel
set_option maxRecDepth 20000 in
theorem ggX6_laysDays_X6_later : GoodIn wsX6_laysDays wsX6_later := goodIn_r _ [20, 21, 22, 23, 24, 25, 26, 27, 28, 29, 30, 31, 32, 33, 34, 35, 36, 37, 38, 39, 40, 41, 42, 43, 44, 45, 46, 47, 48, 49, 50, 51, 52, 53] (by decide +kernel) (by decide +kernel)
set_option maxRecDepth 20000 in
theorem gX6_laysDays_X6_later : GoodIn wsX6_laysDays (wsV RX6 101 RX6 yX6_later wsX6_later) := goodIn_app (goodIn_of _ (by decide +kernel)) ggX6_laysDays_X6_later
theorem dX6_laysDays_0 : decode cX6_laysDays 0 = .ok (.aload_n 0, 1) := by decide +kernel
theorem dX6_laysDays_1 : decode cX6_laysDays 1 = .ok (.iconst 0, 1) := by decide +kernel
theorem dX6_laysDays_2 : decode cX6_laysDays 2 = .ok (.putfield 124, 3) := by decide +kernel
theorem dX6_laysDays_5 : decode cX6_laysDays 5 = .ok (.iconst 0, 1) := by decide +kernel
theorem dX6_laysDays_6 : decode cX6_laysDays 6 = .ok (.istore_n 2, 1) := by decide +kernel
theorem dX6_laysDays_7 : decode cX6_laysDays 7 = .ok (.iload_n 2, 1) := by decide +kernel
theorem dX6_laysDays_8 : decode cX6_laysDays 8 = .ok (.sipush 1825, 3) := by decide +kernel
theorem dX6_laysDays_11 : decode cX6_laysDays 11 = .ok (.if_icmp .ge 277, 3) := by decide +kernel
theorem dX6_laysDays_14 : decode cX6_laysDays 14 = .ok (.iconst 0, 1) := by decide +kernel
theorem dX6_laysDays_15 : decode cX6_laysDays 15 = .ok (.istore_n 3, 1) := by decide +kernel
theorem dX6_laysDays_16 : decode cX6_laysDays 16 = .ok (.iconst 0, 1) := by decide +kernel
theorem dX6_laysDays_17 : decode cX6_laysDays 17 = .ok (.istore 4, 2) := by decide +kernel
theorem dX6_laysDays_19 : decode cX6_laysDays 19 = .ok (.iload 4, 2) := by decide +kernel
theorem dX6_laysDays_21 : decode cX6_laysDays 21 = .ok (.aload_n 0, 1) := by decide +kernel
theorem dX6_laysDays_22 : decode cX6_laysDays 22 = .ok (.getfield 98, 3) := by decide +kernel
theorem dX6_laysDays_25 : decode cX6_laysDays 25 = .ok (.if_icmp .ge 239, 3) := by decide +kernel
theorem dX6_laysDays_28 : decode cX6_laysDays 28 = .ok (.aload_n 0, 1) := by decide +kernel
theorem dX6_laysDays_29 : decode cX6_laysDays 29 = .ok (.getfield 26, 3) := by decide +kernel
theorem dX6_laysDays_32 : decode cX6_laysDays 32 = .ok (.iload 4, 2) := by decide +kernel
theorem dX6_laysDays_34 : decode cX6_laysDays 34 = .ok (.baload, 1) := by decide +kernel
theorem dX6_laysDays_35 : decode cX6_laysDays 35 = .ok (.ifCond .ne 223, 3) := by decide +kernel
theorem dX6_laysDays_38 : decode cX6_laysDays 38 = .ok (.aload_n 0, 1) := by decide +kernel
theorem dX6_laysDays_39 : decode cX6_laysDays 39 = .ok (.getfield 7, 3) := by decide +kernel
theorem dX6_laysDays_42 : decode cX6_laysDays 42 = .ok (.iload 4, 2) := by decide +kernel
theorem dX6_laysDays_44 : decode cX6_laysDays 44 = .ok (.iaload, 1) := by decide +kernel
theorem dX6_laysDays_45 : decode cX6_laysDays 45 = .ok (.iload_n 1, 1) := by decide +kernel
theorem dX6_laysDays_46 : decode cX6_laysDays 46 = .ok (.if_icmp .ne 212, 3) := by decide +kernel
theorem dX6_laysDays_49 : decode cX6_laysDays 49 = .ok (.aload_n 0, 1) := by decide +kernel
theorem dX6_laysDays_50 : decode cX6_laysDays 50 = .ok (.getfield 13, 3) := by decide +kernel
theorem dX6_laysDays_53 : decode cX6_laysDays 53 = .ok (.iload 4, 2) := by decide +kernel
theorem dX6_laysDays_55 : decode cX6_laysDays 55 = .ok (.iaload, 1) := by decide +kernel
theorem dX6_laysDays_56 : decode cX6_laysDays 56 = .ok (.iload_n 2, 1) := by decide +kernel
theorem dX6_laysDays_57 : decode cX6_laysDays 57 = .ok (.if_icmp .ne 201, 3) := by decide +kernel
theorem dX6_laysDays_60 : decode cX6_laysDays 60 = .ok (.iload_n 3, 1) := by decide +kernel
theorem dX6_laysDays_61 : decode cX6_laysDays 61 = .ok (.ifCond .ne 53, 3) := by decide +kernel
theorem dX6_laysDays_64 : decode cX6_laysDays 64 = .ok (.aload_n 0, 1) := by decide +kernel
theorem dX6_laysDays_65 : decode cX6_laysDays 65 = .ok (.getfield 45, 3) := by decide +kernel
theorem dX6_laysDays_68 : decode cX6_laysDays 68 = .ok (.aload_n 0, 1) := by decide +kernel
theorem dX6_laysDays_69 : decode cX6_laysDays 69 = .ok (.getfield 124, 3) := by decide +kernel
theorem dX6_laysDays_72 : decode cX6_laysDays 72 = .ok (.iload_n 2, 1) := by decide +kernel
theorem dX6_laysDays_73 : decode cX6_laysDays 73 = .ok (.iastore, 1) := by decide +kernel
theorem dX6_laysDays_74 : decode cX6_laysDays 74 = .ok (.aload_n 0, 1) := by decide +kernel
theorem dX6_laysDays_75 : decode cX6_laysDays 75 = .ok (.getfield 48, 3) := by decide +kernel
theorem dX6_laysDays_78 : decode cX6_laysDays 78 = .ok (.aload_n 0, 1) := by decide +kernel
theorem dX6_laysDays_79 : decode cX6_laysDays 79 = .ok (.getfield 124, 3) := by decide +kernel
theorem dX6_laysDays_82 : decode cX6_laysDays 82 = .ok (.lconst 0, 1) := by decide +kernel
theorem dX6_laysDays_83 : decode cX6_laysDays 83 = .ok (.lastore, 1) := by decide +kernel
theorem dX6_laysDays_84 : decode cX6_laysDays 84 = .ok (.aload_n 0, 1) := by decide +kernel
theorem dX6_laysDays_85 : decode cX6_laysDays 85 = .ok (.getfield 52, 3) := by decide +kernel
theorem dX6_laysDays_88 : decode cX6_laysDays 88 = .ok (.aload_n 0, 1) := by decide +kernel
theorem dX6_laysDays_89 : decode cX6_laysDays 89 = .ok (.getfield 124, 3) := by decide +kernel
theorem dX6_laysDays_92 : decode cX6_laysDays 92 = .ok (.lconst 0, 1) := by decide +kernel
theorem dX6_laysDays_93 : decode cX6_laysDays 93 = .ok (.lastore, 1) := by decide +kernel
theorem dX6_laysDays_94 : decode cX6_laysDays 94 = .ok (.aload_n 0, 1) := by decide +kernel
theorem dX6_laysDays_95 : decode cX6_laysDays 95 = .ok (.getfield 55, 3) := by decide +kernel
theorem dX6_laysDays_98 : decode cX6_laysDays 98 = .ok (.aload_n 0, 1) := by decide +kernel
theorem dX6_laysDays_99 : decode cX6_laysDays 99 = .ok (.getfield 124, 3) := by decide +kernel
theorem dX6_laysDays_102 : decode cX6_laysDays 102 = .ok (.lconst 0, 1) := by decide +kernel
theorem dX6_laysDays_103 : decode cX6_laysDays 103 = .ok (.lastore, 1) := by decide +kernel
theorem dX6_laysDays_104 : decode cX6_laysDays 104 = .ok (.aload_n 0, 1) := by decide +kernel
theorem dX6_laysDays_105 : decode cX6_laysDays 105 = .ok (.getfield 58, 3) := by decide +kernel
theorem dX6_laysDays_108 : decode cX6_laysDays 108 = .ok (.aload_n 0, 1) := by decide +kernel
theorem dX6_laysDays_109 : decode cX6_laysDays 109 = .ok (.getfield 124, 3) := by decide +kernel
theorem dX6_laysDays_112 : decode cX6_laysDays 112 = .ok (.lconst 0, 1) := by decide +kernel
theorem dX6_laysDays_113 : decode cX6_laysDays 113 = .ok (.lastore, 1) := by decide +kernel
theorem dX6_laysDays_114 : decode cX6_laysDays 114 = .ok (.iconst 1, 1) := by decide +kernel
theorem dX6_laysDays_115 : decode cX6_laysDays 115 = .ok (.istore_n 3, 1) := by decide +kernel
theorem dX6_laysDays_116 : decode cX6_laysDays 116 = .ok (.aload_n 0, 1) := by decide +kernel
theorem dX6_laysDays_117 : decode cX6_laysDays 117 = .ok (.getfield 16, 3) := by decide +kernel
theorem dX6_laysDays_120 : decode cX6_laysDays 120 = .ok (.iload 4, 2) := by decide +kernel
theorem dX6_laysDays_122 : decode cX6_laysDays 122 = .ok (.iaload, 1) := by decide +kernel
theorem dX6_laysDays_123 : decode cX6_laysDays 123 = .ok (.i2l, 1) := by decide +kernel
theorem dX6_laysDays_124 : decode cX6_laysDays 124 = .ok (.aload_n 0, 1) := by decide +kernel
theorem dX6_laysDays_125 : decode cX6_laysDays 125 = .ok (.iload_n 1, 1) := by decide +kernel
theorem dX6_laysDays_126 : decode cX6_laysDays 126 = .ok (.iload_n 2, 1) := by decide +kernel
theorem dX6_laysDays_127 : decode cX6_laysDays 127 = .ok (.invokevirtual 101, 3) := by decide +kernel
theorem dX6_laysDays_130 : decode cX6_laysDays 130 = .ok (.i2l, 1) := by decide +kernel
theorem dX6_laysDays_131 : decode cX6_laysDays 131 = .ok (.lmul, 1) := by decide +kernel
theorem dX6_laysDays_132 : decode cX6_laysDays 132 = .ok (.lstore 5, 2) := by decide +kernel
theorem dX6_laysDays_134 : decode cX6_laysDays 134 = .ok (.aload_n 0, 1) := by decide +kernel
theorem dX6_laysDays_135 : decode cX6_laysDays 135 = .ok (.getfield 48, 3) := by decide +kernel
theorem dX6_laysDays_138 : decode cX6_laysDays 138 = .ok (.aload_n 0, 1) := by decide +kernel
theorem dX6_laysDays_139 : decode cX6_laysDays 139 = .ok (.getfield 124, 3) := by decide +kernel
theorem dX6_laysDays_142 : decode cX6_laysDays 142 = .ok (.dup2, 1) := by decide +kernel
theorem dX6_laysDays_143 : decode cX6_laysDays 143 = .ok (.laload, 1) := by decide +kernel
theorem dX6_laysDays_144 : decode cX6_laysDays 144 = .ok (.aload_n 0, 1) := by decide +kernel
theorem dX6_laysDays_145 : decode cX6_laysDays 145 = .ok (.getfield 22, 3) := by decide +kernel
theorem dX6_laysDays_148 : decode cX6_laysDays 148 = .ok (.iload 4, 2) := by decide +kernel
theorem dX6_laysDays_150 : decode cX6_laysDays 150 = .ok (.baload, 1) := by decide +kernel
theorem dX6_laysDays_151 : decode cX6_laysDays 151 = .ok (.ifCond .eq 7, 3) := by decide +kernel
theorem dX6_laysDays_154 : decode cX6_laysDays 154 = .ok (.lconst 0, 1) := by decide +kernel
theorem dX6_laysDays_155 : decode cX6_laysDays 155 = .ok (.goto 5, 3) := by decide +kernel
theorem dX6_laysDays_158 : decode cX6_laysDays 158 = .ok (.lload 5, 2) := by decide +kernel
theorem dX6_laysDays_160 : decode cX6_laysDays 160 = .ok (.ladd, 1) := by decide +kernel
theorem dX6_laysDays_161 : decode cX6_laysDays 161 = .ok (.lastore, 1) := by decide +kernel
theorem dX6_laysDays_162 : decode cX6_laysDays 162 = .ok (.aload_n 0, 1) := by decide +kernel
theorem dX6_laysDays_163 : decode cX6_laysDays 163 = .ok (.getfield 52, 3) := by decide +kernel
theorem dX6_laysDays_166 : decode cX6_laysDays 166 = .ok (.aload_n 0, 1) := by decide +kernel
theorem dX6_laysDays_167 : decode cX6_laysDays 167 = .ok (.getfield 124, 3) := by decide +kernel
theorem dX6_laysDays_170 : decode cX6_laysDays 170 = .ok (.dup2, 1) := by decide +kernel
theorem dX6_laysDays_171 : decode cX6_laysDays 171 = .ok (.laload, 1) := by decide +kernel
theorem dX6_laysDays_172 : decode cX6_laysDays 172 = .ok (.aload_n 0, 1) := by decide +kernel
theorem dX6_laysDays_173 : decode cX6_laysDays 173 = .ok (.getfield 22, 3) := by decide +kernel
theorem dX6_laysDays_176 : decode cX6_laysDays 176 = .ok (.iload 4, 2) := by decide +kernel
theorem dX6_laysDays_178 : decode cX6_laysDays 178 = .ok (.baload, 1) := by decide +kernel
theorem dX6_laysDays_179 : decode cX6_laysDays 179 = .ok (.ifCond .eq 7, 3) := by decide +kernel
theorem dX6_laysDays_182 : decode cX6_laysDays 182 = .ok (.lconst 0, 1) := by decide +kernel
theorem dX6_laysDays_183 : decode cX6_laysDays 183 = .ok (.goto 11, 3) := by decide +kernel
theorem dX6_laysDays_186 : decode cX6_laysDays 186 = .ok (.aload_n 0, 1) := by decide +kernel
theorem dX6_laysDays_187 : decode cX6_laysDays 187 = .ok (.getfield 19, 3) := by decide +kernel
theorem dX6_laysDays_190 : decode cX6_laysDays 190 = .ok (.iload 4, 2) := by decide +kernel
theorem dX6_laysDays_192 : decode cX6_laysDays 192 = .ok (.iaload, 1) := by decide +kernel
theorem dX6_laysDays_193 : decode cX6_laysDays 193 = .ok (.i2l, 1) := by decide +kernel
theorem dX6_laysDays_194 : decode cX6_laysDays 194 = .ok (.ladd, 1) := by decide +kernel
theorem dX6_laysDays_195 : decode cX6_laysDays 195 = .ok (.lastore, 1) := by decide +kernel
theorem dX6_laysDays_196 : decode cX6_laysDays 196 = .ok (.aload_n 0, 1) := by decide +kernel
theorem dX6_laysDays_197 : decode cX6_laysDays 197 = .ok (.getfield 55, 3) := by decide +kernel
theorem dX6_laysDays_200 : decode cX6_laysDays 200 = .ok (.aload_n 0, 1) := by decide +kernel
theorem dX6_laysDays_201 : decode cX6_laysDays 201 = .ok (.getfield 124, 3) := by decide +kernel
theorem dX6_laysDays_204 : decode cX6_laysDays 204 = .ok (.dup2, 1) := by decide +kernel
theorem dX6_laysDays_205 : decode cX6_laysDays 205 = .ok (.laload, 1) := by decide +kernel
theorem dX6_laysDays_206 : decode cX6_laysDays 206 = .ok (.aload_n 0, 1) := by decide +kernel
theorem dX6_laysDays_207 : decode cX6_laysDays 207 = .ok (.getfield 22, 3) := by decide +kernel
theorem dX6_laysDays_210 : decode cX6_laysDays 210 = .ok (.iload 4, 2) := by decide +kernel
theorem dX6_laysDays_212 : decode cX6_laysDays 212 = .ok (.baload, 1) := by decide +kernel
theorem dX6_laysDays_213 : decode cX6_laysDays 213 = .ok (.ifCond .eq 8, 3) := by decide +kernel
theorem dX6_laysDays_216 : decode cX6_laysDays 216 = .ok (.lload 5, 2) := by decide +kernel
theorem dX6_laysDays_218 : decode cX6_laysDays 218 = .ok (.goto 4, 3) := by decide +kernel
theorem dX6_laysDays_221 : decode cX6_laysDays 221 = .ok (.lconst 0, 1) := by decide +kernel
theorem dX6_laysDays_222 : decode cX6_laysDays 222 = .ok (.ladd, 1) := by decide +kernel
theorem dX6_laysDays_223 : decode cX6_laysDays 223 = .ok (.lastore, 1) := by decide +kernel
theorem dX6_laysDays_224 : decode cX6_laysDays 224 = .ok (.aload_n 0, 1) := by decide +kernel
theorem dX6_laysDays_225 : decode cX6_laysDays 225 = .ok (.getfield 58, 3) := by decide +kernel
theorem dX6_laysDays_228 : decode cX6_laysDays 228 = .ok (.aload_n 0, 1) := by decide +kernel
theorem dX6_laysDays_229 : decode cX6_laysDays 229 = .ok (.getfield 124, 3) := by decide +kernel
theorem dX6_laysDays_232 : decode cX6_laysDays 232 = .ok (.dup2, 1) := by decide +kernel
theorem dX6_laysDays_233 : decode cX6_laysDays 233 = .ok (.laload, 1) := by decide +kernel
theorem dX6_laysDays_234 : decode cX6_laysDays 234 = .ok (.aload_n 0, 1) := by decide +kernel
theorem dX6_laysDays_235 : decode cX6_laysDays 235 = .ok (.getfield 22, 3) := by decide +kernel
theorem dX6_laysDays_238 : decode cX6_laysDays 238 = .ok (.iload 4, 2) := by decide +kernel
theorem dX6_laysDays_240 : decode cX6_laysDays 240 = .ok (.baload, 1) := by decide +kernel
theorem dX6_laysDays_241 : decode cX6_laysDays 241 = .ok (.ifCond .eq 14, 3) := by decide +kernel
theorem dX6_laysDays_244 : decode cX6_laysDays 244 = .ok (.aload_n 0, 1) := by decide +kernel
theorem dX6_laysDays_245 : decode cX6_laysDays 245 = .ok (.getfield 19, 3) := by decide +kernel
theorem dX6_laysDays_248 : decode cX6_laysDays 248 = .ok (.iload 4, 2) := by decide +kernel
theorem dX6_laysDays_250 : decode cX6_laysDays 250 = .ok (.iaload, 1) := by decide +kernel
theorem dX6_laysDays_251 : decode cX6_laysDays 251 = .ok (.i2l, 1) := by decide +kernel
theorem dX6_laysDays_252 : decode cX6_laysDays 252 = .ok (.goto 4, 3) := by decide +kernel
theorem dX6_laysDays_255 : decode cX6_laysDays 255 = .ok (.lconst 0, 1) := by decide +kernel
theorem dX6_laysDays_256 : decode cX6_laysDays 256 = .ok (.ladd, 1) := by decide +kernel
theorem dX6_laysDays_257 : decode cX6_laysDays 257 = .ok (.lastore, 1) := by decide +kernel
theorem dX6_laysDays_258 : decode cX6_laysDays 258 = .ok (.iinc 4 1, 3) := by decide +kernel
theorem dX6_laysDays_261 : decode cX6_laysDays 261 = .ok (.goto (-242), 3) := by decide +kernel
theorem dX6_laysDays_264 : decode cX6_laysDays 264 = .ok (.aload_n 0, 1) := by decide +kernel
theorem dX6_laysDays_265 : decode cX6_laysDays 265 = .ok (.dup, 1) := by decide +kernel
theorem dX6_laysDays_266 : decode cX6_laysDays 266 = .ok (.getfield 124, 3) := by decide +kernel
theorem dX6_laysDays_269 : decode cX6_laysDays 269 = .ok (.iload_n 3, 1) := by decide +kernel
theorem dX6_laysDays_270 : decode cX6_laysDays 270 = .ok (.ifCond .eq 7, 3) := by decide +kernel
theorem dX6_laysDays_273 : decode cX6_laysDays 273 = .ok (.iconst 1, 1) := by decide +kernel
theorem dX6_laysDays_274 : decode cX6_laysDays 274 = .ok (.goto 4, 3) := by decide +kernel
theorem dX6_laysDays_277 : decode cX6_laysDays 277 = .ok (.iconst 0, 1) := by decide +kernel
theorem dX6_laysDays_278 : decode cX6_laysDays 278 = .ok (.iadd, 1) := by decide +kernel
theorem dX6_laysDays_279 : decode cX6_laysDays 279 = .ok (.putfield 124, 3) := by decide +kernel
theorem dX6_laysDays_282 : decode cX6_laysDays 282 = .ok (.iinc 2 1, 3) := by decide +kernel
theorem dX6_laysDays_285 : decode cX6_laysDays 285 = .ok (.goto (-278), 3) := by decide +kernel
theorem dX6_laysDays_288 : decode cX6_laysDays 288 = .ok (.iconst 0, 1) := by decide +kernel
theorem dX6_laysDays_289 : decode cX6_laysDays 289 = .ok (.istore_n 2, 1) := by decide +kernel
theorem dX6_laysDays_290 : decode cX6_laysDays 290 = .ok (.iload_n 2, 1) := by decide +kernel
theorem dX6_laysDays_291 : decode cX6_laysDays 291 = .ok (.aload_n 0, 1) := by decide +kernel
theorem dX6_laysDays_292 : decode cX6_laysDays 292 = .ok (.getfield 124, 3) := by decide +kernel
theorem dX6_laysDays_295 : decode cX6_laysDays 295 = .ok (.if_icmp .ge 33, 3) := by decide +kernel
theorem dX6_laysDays_298 : decode cX6_laysDays 298 = .ok (.aload_n 0, 1) := by decide +kernel
theorem dX6_laysDays_299 : decode cX6_laysDays 299 = .ok (.getfield 61, 3) := by decide +kernel
theorem dX6_laysDays_302 : decode cX6_laysDays 302 = .ok (.iload_n 2, 1) := by decide +kernel
theorem dX6_laysDays_303 : decode cX6_laysDays 303 = .ok (.aload_n 0, 1) := by decide +kernel
theorem dX6_laysDays_304 : decode cX6_laysDays 304 = .ok (.getfield 48, 3) := by decide +kernel
theorem dX6_laysDays_307 : decode cX6_laysDays 307 = .ok (.iload_n 2, 1) := by decide +kernel
theorem dX6_laysDays_308 : decode cX6_laysDays 308 = .ok (.laload, 1) := by decide +kernel
theorem dX6_laysDays_309 : decode cX6_laysDays 309 = .ok (.lastore, 1) := by decide +kernel
theorem dX6_laysDays_310 : decode cX6_laysDays 310 = .ok (.aload_n 0, 1) := by decide +kernel
theorem dX6_laysDays_311 : decode cX6_laysDays 311 = .ok (.getfield 64, 3) := by decide +kernel
theorem dX6_laysDays_314 : decode cX6_laysDays 314 = .ok (.iload_n 2, 1) := by decide +kernel
theorem dX6_laysDays_315 : decode cX6_laysDays 315 = .ok (.aload_n 0, 1) := by decide +kernel
theorem dX6_laysDays_316 : decode cX6_laysDays 316 = .ok (.getfield 55, 3) := by decide +kernel
theorem dX6_laysDays_319 : decode cX6_laysDays 319 = .ok (.iload_n 2, 1) := by decide +kernel
theorem dX6_laysDays_320 : decode cX6_laysDays 320 = .ok (.laload, 1) := by decide +kernel
theorem dX6_laysDays_321 : decode cX6_laysDays 321 = .ok (.lastore, 1) := by decide +kernel
theorem dX6_laysDays_322 : decode cX6_laysDays 322 = .ok (.iinc 2 1, 3) := by decide +kernel
theorem dX6_laysDays_325 : decode cX6_laysDays 325 = .ok (.goto (-35), 3) := by decide +kernel
theorem dX6_laysDays_328 : decode cX6_laysDays 328 = .ok (.return_, 1) := by decide +kernel
theorem dX6_part_0 : decode cX6_part 0 = .ok (.lload_n 0, 1) := by decide +kernel
theorem dX6_part_1 : decode cX6_part 1 = .ok (.lload 4, 2) := by decide +kernel
theorem dX6_part_3 : decode cX6_part 3 = .ok (.lload 6, 2) := by decide +kernel
theorem dX6_part_5 : decode cX6_part 5 = .ok (.ladd, 1) := by decide +kernel
theorem dX6_part_6 : decode cX6_part 6 = .ok (.lmul, 1) := by decide +kernel
theorem dX6_part_7 : decode cX6_part 7 = .ok (.lload_n 2, 1) := by decide +kernel
theorem dX6_part_8 : decode cX6_part 8 = .ok (.ldiv, 1) := by decide +kernel
theorem dX6_part_9 : decode cX6_part 9 = .ok (.lload_n 0, 1) := by decide +kernel
theorem dX6_part_10 : decode cX6_part 10 = .ok (.lload 4, 2) := by decide +kernel
theorem dX6_part_12 : decode cX6_part 12 = .ok (.lmul, 1) := by decide +kernel
theorem dX6_part_13 : decode cX6_part 13 = .ok (.lload_n 2, 1) := by decide +kernel
theorem dX6_part_14 : decode cX6_part 14 = .ok (.ldiv, 1) := by decide +kernel
theorem dX6_part_15 : decode cX6_part 15 = .ok (.lsub, 1) := by decide +kernel
theorem dX6_part_16 : decode cX6_part 16 = .ok (.lreturn, 1) := by decide +kernel
set_option maxRecDepth 20000 in
theorem ggX6_pairs_X6_part : GoodIn wsX6_pairs wsX6_part := goodIn_r _ [17] (by decide +kernel) (by decide +kernel)
set_option maxRecDepth 20000 in
theorem gX6_pairs_X6_part : GoodIn wsX6_pairs (va_wsS RX6 130 yX6_part wsX6_part) := goodIn_app (goodIn_of _ (by decide +kernel)) ggX6_pairs_X6_part
theorem dX6_pairs_0 : decode cX6_pairs 0 = .ok (.aload_n 0, 1) := by decide +kernel
theorem dX6_pairs_1 : decode cX6_pairs 1 = .ok (.getfield 64, 3) := by decide +kernel
theorem dX6_pairs_4 : decode cX6_pairs 4 = .ok (.iload_n 1, 1) := by decide +kernel
theorem dX6_pairs_5 : decode cX6_pairs 5 = .ok (.laload, 1) := by decide +kernel
theorem dX6_pairs_6 : decode cX6_pairs 6 = .ok (.aload_n 0, 1) := by decide +kernel
theorem dX6_pairs_7 : decode cX6_pairs 7 = .ok (.getfield 61, 3) := by decide +kernel
theorem dX6_pairs_10 : decode cX6_pairs 10 = .ok (.iload_n 2, 1) := by decide +kernel
theorem dX6_pairs_11 : decode cX6_pairs 11 = .ok (.laload, 1) := by decide +kernel
theorem dX6_pairs_12 : decode cX6_pairs 12 = .ok (.lcmp, 1) := by decide +kernel
theorem dX6_pairs_13 : decode cX6_pairs 13 = .ok (.ifCond .ge 12, 3) := by decide +kernel
theorem dX6_pairs_16 : decode cX6_pairs 16 = .ok (.aload_n 0, 1) := by decide +kernel
theorem dX6_pairs_17 : decode cX6_pairs 17 = .ok (.getfield 64, 3) := by decide +kernel
theorem dX6_pairs_20 : decode cX6_pairs 20 = .ok (.iload_n 1, 1) := by decide +kernel
theorem dX6_pairs_21 : decode cX6_pairs 21 = .ok (.laload, 1) := by decide +kernel
theorem dX6_pairs_22 : decode cX6_pairs 22 = .ok (.goto 9, 3) := by decide +kernel
theorem dX6_pairs_25 : decode cX6_pairs 25 = .ok (.aload_n 0, 1) := by decide +kernel
theorem dX6_pairs_26 : decode cX6_pairs 26 = .ok (.getfield 61, 3) := by decide +kernel
theorem dX6_pairs_29 : decode cX6_pairs 29 = .ok (.iload_n 2, 1) := by decide +kernel
theorem dX6_pairs_30 : decode cX6_pairs 30 = .ok (.laload, 1) := by decide +kernel
theorem dX6_pairs_31 : decode cX6_pairs 31 = .ok (.lstore 4, 2) := by decide +kernel
theorem dX6_pairs_33 : decode cX6_pairs 33 = .ok (.lload 4, 2) := by decide +kernel
theorem dX6_pairs_35 : decode cX6_pairs 35 = .ok (.lconst 0, 1) := by decide +kernel
theorem dX6_pairs_36 : decode cX6_pairs 36 = .ok (.lcmp, 1) := by decide +kernel
theorem dX6_pairs_37 : decode cX6_pairs 37 = .ok (.ifCond .le 154, 3) := by decide +kernel
theorem dX6_pairs_40 : decode cX6_pairs 40 = .ok (.aload_n 0, 1) := by decide +kernel
theorem dX6_pairs_41 : decode cX6_pairs 41 = .ok (.getfield 73, 3) := by decide +kernel
theorem dX6_pairs_44 : decode cX6_pairs 44 = .ok (.aload_n 0, 1) := by decide +kernel
theorem dX6_pairs_45 : decode cX6_pairs 45 = .ok (.getfield 127, 3) := by decide +kernel
theorem dX6_pairs_48 : decode cX6_pairs 48 = .ok (.iload_n 1, 1) := by decide +kernel
theorem dX6_pairs_49 : decode cX6_pairs 49 = .ok (.iastore, 1) := by decide +kernel
theorem dX6_pairs_50 : decode cX6_pairs 50 = .ok (.aload_n 0, 1) := by decide +kernel
theorem dX6_pairs_51 : decode cX6_pairs 51 = .ok (.getfield 76, 3) := by decide +kernel
theorem dX6_pairs_54 : decode cX6_pairs 54 = .ok (.aload_n 0, 1) := by decide +kernel
theorem dX6_pairs_55 : decode cX6_pairs 55 = .ok (.getfield 127, 3) := by decide +kernel
theorem dX6_pairs_58 : decode cX6_pairs 58 = .ok (.iload_n 2, 1) := by decide +kernel
theorem dX6_pairs_59 : decode cX6_pairs 59 = .ok (.iastore, 1) := by decide +kernel
theorem dX6_pairs_60 : decode cX6_pairs 60 = .ok (.aload_n 0, 1) := by decide +kernel
theorem dX6_pairs_61 : decode cX6_pairs 61 = .ok (.getfield 79, 3) := by decide +kernel
theorem dX6_pairs_64 : decode cX6_pairs 64 = .ok (.aload_n 0, 1) := by decide +kernel
theorem dX6_pairs_65 : decode cX6_pairs 65 = .ok (.getfield 127, 3) := by decide +kernel
theorem dX6_pairs_68 : decode cX6_pairs 68 = .ok (.iload_n 3, 1) := by decide +kernel
theorem dX6_pairs_69 : decode cX6_pairs 69 = .ok (.iastore, 1) := by decide +kernel
theorem dX6_pairs_70 : decode cX6_pairs 70 = .ok (.aload_n 0, 1) := by decide +kernel
theorem dX6_pairs_71 : decode cX6_pairs 71 = .ok (.getfield 82, 3) := by decide +kernel
theorem dX6_pairs_74 : decode cX6_pairs 74 = .ok (.aload_n 0, 1) := by decide +kernel
theorem dX6_pairs_75 : decode cX6_pairs 75 = .ok (.getfield 127, 3) := by decide +kernel
theorem dX6_pairs_78 : decode cX6_pairs 78 = .ok (.lload 4, 2) := by decide +kernel
theorem dX6_pairs_80 : decode cX6_pairs 80 = .ok (.lastore, 1) := by decide +kernel
theorem dX6_pairs_81 : decode cX6_pairs 81 = .ok (.aload_n 0, 1) := by decide +kernel
theorem dX6_pairs_82 : decode cX6_pairs 82 = .ok (.getfield 85, 3) := by decide +kernel
theorem dX6_pairs_85 : decode cX6_pairs 85 = .ok (.aload_n 0, 1) := by decide +kernel
theorem dX6_pairs_86 : decode cX6_pairs 86 = .ok (.getfield 127, 3) := by decide +kernel
theorem dX6_pairs_89 : decode cX6_pairs 89 = .ok (.aload_n 0, 1) := by decide +kernel
theorem dX6_pairs_90 : decode cX6_pairs 90 = .ok (.getfield 52, 3) := by decide +kernel
theorem dX6_pairs_93 : decode cX6_pairs 93 = .ok (.iload_n 2, 1) := by decide +kernel
theorem dX6_pairs_94 : decode cX6_pairs 94 = .ok (.laload, 1) := by decide +kernel
theorem dX6_pairs_95 : decode cX6_pairs 95 = .ok (.aload_n 0, 1) := by decide +kernel
theorem dX6_pairs_96 : decode cX6_pairs 96 = .ok (.getfield 48, 3) := by decide +kernel
theorem dX6_pairs_99 : decode cX6_pairs 99 = .ok (.iload_n 2, 1) := by decide +kernel
theorem dX6_pairs_100 : decode cX6_pairs 100 = .ok (.laload, 1) := by decide +kernel
theorem dX6_pairs_101 : decode cX6_pairs 101 = .ok (.aload_n 0, 1) := by decide +kernel
theorem dX6_pairs_102 : decode cX6_pairs 102 = .ok (.getfield 48, 3) := by decide +kernel
theorem dX6_pairs_105 : decode cX6_pairs 105 = .ok (.iload_n 2, 1) := by decide +kernel
theorem dX6_pairs_106 : decode cX6_pairs 106 = .ok (.laload, 1) := by decide +kernel
theorem dX6_pairs_107 : decode cX6_pairs 107 = .ok (.aload_n 0, 1) := by decide +kernel
theorem dX6_pairs_108 : decode cX6_pairs 108 = .ok (.getfield 61, 3) := by decide +kernel
theorem dX6_pairs_111 : decode cX6_pairs 111 = .ok (.iload_n 2, 1) := by decide +kernel
theorem dX6_pairs_112 : decode cX6_pairs 112 = .ok (.laload, 1) := by decide +kernel
theorem dX6_pairs_113 : decode cX6_pairs 113 = .ok (.lsub, 1) := by decide +kernel
theorem dX6_pairs_114 : decode cX6_pairs 114 = .ok (.lload 4, 2) := by decide +kernel
theorem dX6_pairs_116 : decode cX6_pairs 116 = .ok (.invokestatic 130, 3) := by decide +kernel
theorem dX6_pairs_119 : decode cX6_pairs 119 = .ok (.lastore, 1) := by decide +kernel
theorem dX6_pairs_120 : decode cX6_pairs 120 = .ok (.aload_n 0, 1) := by decide +kernel
theorem dX6_pairs_121 : decode cX6_pairs 121 = .ok (.getfield 88, 3) := by decide +kernel
theorem dX6_pairs_124 : decode cX6_pairs 124 = .ok (.aload_n 0, 1) := by decide +kernel
theorem dX6_pairs_125 : decode cX6_pairs 125 = .ok (.getfield 127, 3) := by decide +kernel
theorem dX6_pairs_128 : decode cX6_pairs 128 = .ok (.aload_n 0, 1) := by decide +kernel
theorem dX6_pairs_129 : decode cX6_pairs 129 = .ok (.getfield 58, 3) := by decide +kernel
theorem dX6_pairs_132 : decode cX6_pairs 132 = .ok (.iload_n 1, 1) := by decide +kernel
theorem dX6_pairs_133 : decode cX6_pairs 133 = .ok (.laload, 1) := by decide +kernel
theorem dX6_pairs_134 : decode cX6_pairs 134 = .ok (.aload_n 0, 1) := by decide +kernel
theorem dX6_pairs_135 : decode cX6_pairs 135 = .ok (.getfield 55, 3) := by decide +kernel
theorem dX6_pairs_138 : decode cX6_pairs 138 = .ok (.iload_n 1, 1) := by decide +kernel
theorem dX6_pairs_139 : decode cX6_pairs 139 = .ok (.laload, 1) := by decide +kernel
theorem dX6_pairs_140 : decode cX6_pairs 140 = .ok (.aload_n 0, 1) := by decide +kernel
theorem dX6_pairs_141 : decode cX6_pairs 141 = .ok (.getfield 55, 3) := by decide +kernel
theorem dX6_pairs_144 : decode cX6_pairs 144 = .ok (.iload_n 1, 1) := by decide +kernel
theorem dX6_pairs_145 : decode cX6_pairs 145 = .ok (.laload, 1) := by decide +kernel
theorem dX6_pairs_146 : decode cX6_pairs 146 = .ok (.aload_n 0, 1) := by decide +kernel
theorem dX6_pairs_147 : decode cX6_pairs 147 = .ok (.getfield 64, 3) := by decide +kernel
theorem dX6_pairs_150 : decode cX6_pairs 150 = .ok (.iload_n 1, 1) := by decide +kernel
theorem dX6_pairs_151 : decode cX6_pairs 151 = .ok (.laload, 1) := by decide +kernel
theorem dX6_pairs_152 : decode cX6_pairs 152 = .ok (.lsub, 1) := by decide +kernel
theorem dX6_pairs_153 : decode cX6_pairs 153 = .ok (.lload 4, 2) := by decide +kernel
theorem dX6_pairs_155 : decode cX6_pairs 155 = .ok (.invokestatic 130, 3) := by decide +kernel
theorem dX6_pairs_158 : decode cX6_pairs 158 = .ok (.lastore, 1) := by decide +kernel
theorem dX6_pairs_159 : decode cX6_pairs 159 = .ok (.aload_n 0, 1) := by decide +kernel
theorem dX6_pairs_160 : decode cX6_pairs 160 = .ok (.dup, 1) := by decide +kernel
theorem dX6_pairs_161 : decode cX6_pairs 161 = .ok (.getfield 127, 3) := by decide +kernel
theorem dX6_pairs_164 : decode cX6_pairs 164 = .ok (.iconst 1, 1) := by decide +kernel
theorem dX6_pairs_165 : decode cX6_pairs 165 = .ok (.iadd, 1) := by decide +kernel
theorem dX6_pairs_166 : decode cX6_pairs 166 = .ok (.putfield 127, 3) := by decide +kernel
theorem dX6_pairs_169 : decode cX6_pairs 169 = .ok (.aload_n 0, 1) := by decide +kernel
theorem dX6_pairs_170 : decode cX6_pairs 170 = .ok (.getfield 61, 3) := by decide +kernel
theorem dX6_pairs_173 : decode cX6_pairs 173 = .ok (.iload_n 2, 1) := by decide +kernel
theorem dX6_pairs_174 : decode cX6_pairs 174 = .ok (.dup2, 1) := by decide +kernel
theorem dX6_pairs_175 : decode cX6_pairs 175 = .ok (.laload, 1) := by decide +kernel
theorem dX6_pairs_176 : decode cX6_pairs 176 = .ok (.lload 4, 2) := by decide +kernel
theorem dX6_pairs_178 : decode cX6_pairs 178 = .ok (.lsub, 1) := by decide +kernel
theorem dX6_pairs_179 : decode cX6_pairs 179 = .ok (.lastore, 1) := by decide +kernel
theorem dX6_pairs_180 : decode cX6_pairs 180 = .ok (.aload_n 0, 1) := by decide +kernel
theorem dX6_pairs_181 : decode cX6_pairs 181 = .ok (.getfield 64, 3) := by decide +kernel
theorem dX6_pairs_184 : decode cX6_pairs 184 = .ok (.iload_n 1, 1) := by decide +kernel
theorem dX6_pairs_185 : decode cX6_pairs 185 = .ok (.dup2, 1) := by decide +kernel
theorem dX6_pairs_186 : decode cX6_pairs 186 = .ok (.laload, 1) := by decide +kernel
theorem dX6_pairs_187 : decode cX6_pairs 187 = .ok (.lload 4, 2) := by decide +kernel
theorem dX6_pairs_189 : decode cX6_pairs 189 = .ok (.lsub, 1) := by decide +kernel
theorem dX6_pairs_190 : decode cX6_pairs 190 = .ok (.lastore, 1) := by decide +kernel
theorem dX6_pairs_191 : decode cX6_pairs 191 = .ok (.return_, 1) := by decide +kernel
set_option maxRecDepth 20000 in
theorem ggX6_pools_X6_part : GoodIn wsX6_pools wsX6_part := goodIn_r _ [20] (by decide +kernel) (by decide +kernel)
set_option maxRecDepth 20000 in
theorem gX6_pools_X6_part : GoodIn wsX6_pools (va_wsS RX6 130 yX6_part wsX6_part) := goodIn_app (goodIn_of _ (by decide +kernel)) ggX6_pools_X6_part
theorem dX6_pools_0 : decode cX6_pools 0 = .ok (.lconst 0, 1) := by decide +kernel
theorem dX6_pools_1 : decode cX6_pools 1 = .ok (.lstore_n 1, 1) := by decide +kernel
theorem dX6_pools_2 : decode cX6_pools 2 = .ok (.lconst 0, 1) := by decide +kernel
theorem dX6_pools_3 : decode cX6_pools 3 = .ok (.lstore_n 3, 1) := by decide +kernel
theorem dX6_pools_4 : decode cX6_pools 4 = .ok (.iconst 0, 1) := by decide +kernel
theorem dX6_pools_5 : decode cX6_pools 5 = .ok (.istore 5, 2) := by decide +kernel
theorem dX6_pools_7 : decode cX6_pools 7 = .ok (.iload 5, 2) := by decide +kernel
theorem dX6_pools_9 : decode cX6_pools 9 = .ok (.aload_n 0, 1) := by decide +kernel
theorem dX6_pools_10 : decode cX6_pools 10 = .ok (.getfield 124, 3) := by decide +kernel
theorem dX6_pools_13 : decode cX6_pools 13 = .ok (.if_icmp .ge 245, 3) := by decide +kernel
theorem dX6_pools_16 : decode cX6_pools 16 = .ok (.aload_n 0, 1) := by decide +kernel

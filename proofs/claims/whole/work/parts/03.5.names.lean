theorem dX6_pools_17 : decode cX6_pools 17 = .ok (.getfield 61, 3) := by decide +kernel
theorem dX6_pools_20 : decode cX6_pools 20 = .ok (.iload 5, 2) := by decide +kernel
theorem dX6_pools_22 : decode cX6_pools 22 = .ok (.laload, 1) := by decide +kernel
theorem dX6_pools_23 : decode cX6_pools 23 = .ok (.lconst 0, 1) := by decide +kernel
theorem dX6_pools_24 : decode cX6_pools 24 = .ok (.lcmp, 1) := by decide +kernel
theorem dX6_pools_25 : decode cX6_pools 25 = .ok (.ifCond .le 55, 3) := by decide +kernel
theorem dX6_pools_28 : decode cX6_pools 28 = .ok (.lload_n 3, 1) := by decide +kernel
theorem dX6_pools_29 : decode cX6_pools 29 = .ok (.aload_n 0, 1) := by decide +kernel
theorem dX6_pools_30 : decode cX6_pools 30 = .ok (.getfield 52, 3) := by decide +kernel
theorem dX6_pools_33 : decode cX6_pools 33 = .ok (.iload 5, 2) := by decide +kernel
theorem dX6_pools_35 : decode cX6_pools 35 = .ok (.laload, 1) := by decide +kernel
theorem dX6_pools_36 : decode cX6_pools 36 = .ok (.aload_n 0, 1) := by decide +kernel
theorem dX6_pools_37 : decode cX6_pools 37 = .ok (.getfield 48, 3) := by decide +kernel
theorem dX6_pools_40 : decode cX6_pools 40 = .ok (.iload 5, 2) := by decide +kernel
theorem dX6_pools_42 : decode cX6_pools 42 = .ok (.laload, 1) := by decide +kernel
theorem dX6_pools_43 : decode cX6_pools 43 = .ok (.aload_n 0, 1) := by decide +kernel
theorem dX6_pools_44 : decode cX6_pools 44 = .ok (.getfield 48, 3) := by decide +kernel
theorem dX6_pools_47 : decode cX6_pools 47 = .ok (.iload 5, 2) := by decide +kernel
theorem dX6_pools_49 : decode cX6_pools 49 = .ok (.laload, 1) := by decide +kernel
theorem dX6_pools_50 : decode cX6_pools 50 = .ok (.aload_n 0, 1) := by decide +kernel
theorem dX6_pools_51 : decode cX6_pools 51 = .ok (.getfield 61, 3) := by decide +kernel
theorem dX6_pools_54 : decode cX6_pools 54 = .ok (.iload 5, 2) := by decide +kernel
theorem dX6_pools_56 : decode cX6_pools 56 = .ok (.laload, 1) := by decide +kernel
theorem dX6_pools_57 : decode cX6_pools 57 = .ok (.lsub, 1) := by decide +kernel
theorem dX6_pools_58 : decode cX6_pools 58 = .ok (.aload_n 0, 1) := by decide +kernel
theorem dX6_pools_59 : decode cX6_pools 59 = .ok (.getfield 61, 3) := by decide +kernel
theorem dX6_pools_62 : decode cX6_pools 62 = .ok (.iload 5, 2) := by decide +kernel
theorem dX6_pools_64 : decode cX6_pools 64 = .ok (.laload, 1) := by decide +kernel
theorem dX6_pools_65 : decode cX6_pools 65 = .ok (.invokestatic 130, 3) := by decide +kernel
theorem dX6_pools_68 : decode cX6_pools 68 = .ok (.ladd, 1) := by decide +kernel
theorem dX6_pools_69 : decode cX6_pools 69 = .ok (.lstore_n 3, 1) := by decide +kernel
theorem dX6_pools_70 : decode cX6_pools 70 = .ok (.lload_n 1, 1) := by decide +kernel
theorem dX6_pools_71 : decode cX6_pools 71 = .ok (.aload_n 0, 1) := by decide +kernel
theorem dX6_pools_72 : decode cX6_pools 72 = .ok (.getfield 61, 3) := by decide +kernel
theorem dX6_pools_75 : decode cX6_pools 75 = .ok (.iload 5, 2) := by decide +kernel
theorem dX6_pools_77 : decode cX6_pools 77 = .ok (.laload, 1) := by decide +kernel
theorem dX6_pools_78 : decode cX6_pools 78 = .ok (.ladd, 1) := by decide +kernel
theorem dX6_pools_79 : decode cX6_pools 79 = .ok (.lstore_n 1, 1) := by decide +kernel
theorem dX6_pools_80 : decode cX6_pools 80 = .ok (.aload_n 0, 1) := by decide +kernel
theorem dX6_pools_81 : decode cX6_pools 81 = .ok (.getfield 64, 3) := by decide +kernel
theorem dX6_pools_84 : decode cX6_pools 84 = .ok (.iload 5, 2) := by decide +kernel
theorem dX6_pools_86 : decode cX6_pools 86 = .ok (.laload, 1) := by decide +kernel
theorem dX6_pools_87 : decode cX6_pools 87 = .ok (.lconst 0, 1) := by decide +kernel
theorem dX6_pools_88 : decode cX6_pools 88 = .ok (.lcmp, 1) := by decide +kernel
theorem dX6_pools_89 : decode cX6_pools 89 = .ok (.ifCond .le 147, 3) := by decide +kernel
theorem dX6_pools_92 : decode cX6_pools 92 = .ok (.lload_n 3, 1) := by decide +kernel
theorem dX6_pools_93 : decode cX6_pools 93 = .ok (.aload_n 0, 1) := by decide +kernel
theorem dX6_pools_94 : decode cX6_pools 94 = .ok (.getfield 64, 3) := by decide +kernel
theorem dX6_pools_97 : decode cX6_pools 97 = .ok (.iload 5, 2) := by decide +kernel
theorem dX6_pools_99 : decode cX6_pools 99 = .ok (.laload, 1) := by decide +kernel
theorem dX6_pools_100 : decode cX6_pools 100 = .ok (.lmul, 1) := by decide +kernel
theorem dX6_pools_101 : decode cX6_pools 101 = .ok (.lload_n 1, 1) := by decide +kernel
theorem dX6_pools_102 : decode cX6_pools 102 = .ok (.ldiv, 1) := by decide +kernel
theorem dX6_pools_103 : decode cX6_pools 103 = .ok (.lstore 6, 2) := by decide +kernel
theorem dX6_pools_105 : decode cX6_pools 105 = .ok (.aload_n 0, 1) := by decide +kernel
theorem dX6_pools_106 : decode cX6_pools 106 = .ok (.getfield 73, 3) := by decide +kernel
theorem dX6_pools_109 : decode cX6_pools 109 = .ok (.aload_n 0, 1) := by decide +kernel
theorem dX6_pools_110 : decode cX6_pools 110 = .ok (.getfield 127, 3) := by decide +kernel
theorem dX6_pools_113 : decode cX6_pools 113 = .ok (.iload 5, 2) := by decide +kernel
theorem dX6_pools_115 : decode cX6_pools 115 = .ok (.iastore, 1) := by decide +kernel
theorem dX6_pools_116 : decode cX6_pools 116 = .ok (.aload_n 0, 1) := by decide +kernel
theorem dX6_pools_117 : decode cX6_pools 117 = .ok (.getfield 76, 3) := by decide +kernel
theorem dX6_pools_120 : decode cX6_pools 120 = .ok (.aload_n 0, 1) := by decide +kernel
theorem dX6_pools_121 : decode cX6_pools 121 = .ok (.getfield 127, 3) := by decide +kernel
theorem dX6_pools_124 : decode cX6_pools 124 = .ok (.iconst (-1), 1) := by decide +kernel
theorem dX6_pools_125 : decode cX6_pools 125 = .ok (.iastore, 1) := by decide +kernel
theorem dX6_pools_126 : decode cX6_pools 126 = .ok (.aload_n 0, 1) := by decide +kernel
theorem dX6_pools_127 : decode cX6_pools 127 = .ok (.getfield 79, 3) := by decide +kernel
theorem dX6_pools_130 : decode cX6_pools 130 = .ok (.aload_n 0, 1) := by decide +kernel
theorem dX6_pools_131 : decode cX6_pools 131 = .ok (.getfield 127, 3) := by decide +kernel
theorem dX6_pools_134 : decode cX6_pools 134 = .ok (.iconst 2, 1) := by decide +kernel
theorem dX6_pools_135 : decode cX6_pools 135 = .ok (.iastore, 1) := by decide +kernel
theorem dX6_pools_136 : decode cX6_pools 136 = .ok (.aload_n 0, 1) := by decide +kernel
theorem dX6_pools_137 : decode cX6_pools 137 = .ok (.getfield 82, 3) := by decide +kernel
theorem dX6_pools_140 : decode cX6_pools 140 = .ok (.aload_n 0, 1) := by decide +kernel
theorem dX6_pools_141 : decode cX6_pools 141 = .ok (.getfield 127, 3) := by decide +kernel
theorem dX6_pools_144 : decode cX6_pools 144 = .ok (.aload_n 0, 1) := by decide +kernel
theorem dX6_pools_145 : decode cX6_pools 145 = .ok (.getfield 64, 3) := by decide +kernel
theorem dX6_pools_148 : decode cX6_pools 148 = .ok (.iload 5, 2) := by decide +kernel
theorem dX6_pools_150 : decode cX6_pools 150 = .ok (.laload, 1) := by decide +kernel
theorem dX6_pools_151 : decode cX6_pools 151 = .ok (.lastore, 1) := by decide +kernel
theorem dX6_pools_152 : decode cX6_pools 152 = .ok (.aload_n 0, 1) := by decide +kernel
theorem dX6_pools_153 : decode cX6_pools 153 = .ok (.getfield 85, 3) := by decide +kernel
theorem dX6_pools_156 : decode cX6_pools 156 = .ok (.aload_n 0, 1) := by decide +kernel
theorem dX6_pools_157 : decode cX6_pools 157 = .ok (.getfield 127, 3) := by decide +kernel
theorem dX6_pools_160 : decode cX6_pools 160 = .ok (.lload 6, 2) := by decide +kernel
theorem dX6_pools_162 : decode cX6_pools 162 = .ok (.lastore, 1) := by decide +kernel
theorem dX6_pools_163 : decode cX6_pools 163 = .ok (.aload_n 0, 1) := by decide +kernel
theorem dX6_pools_164 : decode cX6_pools 164 = .ok (.getfield 88, 3) := by decide +kernel
theorem dX6_pools_167 : decode cX6_pools 167 = .ok (.aload_n 0, 1) := by decide +kernel
theorem dX6_pools_168 : decode cX6_pools 168 = .ok (.getfield 127, 3) := by decide +kernel
theorem dX6_pools_171 : decode cX6_pools 171 = .ok (.aload_n 0, 1) := by decide +kernel
theorem dX6_pools_172 : decode cX6_pools 172 = .ok (.getfield 58, 3) := by decide +kernel
theorem dX6_pools_175 : decode cX6_pools 175 = .ok (.iload 5, 2) := by decide +kernel
theorem dX6_pools_177 : decode cX6_pools 177 = .ok (.laload, 1) := by decide +kernel
theorem dX6_pools_178 : decode cX6_pools 178 = .ok (.aload_n 0, 1) := by decide +kernel
theorem dX6_pools_179 : decode cX6_pools 179 = .ok (.getfield 55, 3) := by decide +kernel
theorem dX6_pools_182 : decode cX6_pools 182 = .ok (.iload 5, 2) := by decide +kernel
theorem dX6_pools_184 : decode cX6_pools 184 = .ok (.laload, 1) := by decide +kernel
theorem dX6_pools_185 : decode cX6_pools 185 = .ok (.aload_n 0, 1) := by decide +kernel
theorem dX6_pools_186 : decode cX6_pools 186 = .ok (.getfield 55, 3) := by decide +kernel
theorem dX6_pools_189 : decode cX6_pools 189 = .ok (.iload 5, 2) := by decide +kernel
theorem dX6_pools_191 : decode cX6_pools 191 = .ok (.laload, 1) := by decide +kernel
theorem dX6_pools_192 : decode cX6_pools 192 = .ok (.aload_n 0, 1) := by decide +kernel
theorem dX6_pools_193 : decode cX6_pools 193 = .ok (.getfield 64, 3) := by decide +kernel
theorem dX6_pools_196 : decode cX6_pools 196 = .ok (.iload 5, 2) := by decide +kernel
theorem dX6_pools_198 : decode cX6_pools 198 = .ok (.laload, 1) := by decide +kernel
theorem dX6_pools_199 : decode cX6_pools 199 = .ok (.lsub, 1) := by decide +kernel
theorem dX6_pools_200 : decode cX6_pools 200 = .ok (.aload_n 0, 1) := by decide +kernel
theorem dX6_pools_201 : decode cX6_pools 201 = .ok (.getfield 64, 3) := by decide +kernel
theorem dX6_pools_204 : decode cX6_pools 204 = .ok (.iload 5, 2) := by decide +kernel
theorem dX6_pools_206 : decode cX6_pools 206 = .ok (.laload, 1) := by decide +kernel
theorem dX6_pools_207 : decode cX6_pools 207 = .ok (.invokestatic 130, 3) := by decide +kernel
theorem dX6_pools_210 : decode cX6_pools 210 = .ok (.lastore, 1) := by decide +kernel
theorem dX6_pools_211 : decode cX6_pools 211 = .ok (.aload_n 0, 1) := by decide +kernel
theorem dX6_pools_212 : decode cX6_pools 212 = .ok (.dup, 1) := by decide +kernel
theorem dX6_pools_213 : decode cX6_pools 213 = .ok (.getfield 127, 3) := by decide +kernel
theorem dX6_pools_216 : decode cX6_pools 216 = .ok (.iconst 1, 1) := by decide +kernel
theorem dX6_pools_217 : decode cX6_pools 217 = .ok (.iadd, 1) := by decide +kernel
theorem dX6_pools_218 : decode cX6_pools 218 = .ok (.putfield 127, 3) := by decide +kernel
theorem dX6_pools_221 : decode cX6_pools 221 = .ok (.lload_n 3, 1) := by decide +kernel
theorem dX6_pools_222 : decode cX6_pools 222 = .ok (.lload 6, 2) := by decide +kernel
theorem dX6_pools_224 : decode cX6_pools 224 = .ok (.lsub, 1) := by decide +kernel
theorem dX6_pools_225 : decode cX6_pools 225 = .ok (.lstore_n 3, 1) := by decide +kernel
theorem dX6_pools_226 : decode cX6_pools 226 = .ok (.lload_n 1, 1) := by decide +kernel
theorem dX6_pools_227 : decode cX6_pools 227 = .ok (.aload_n 0, 1) := by decide +kernel
theorem dX6_pools_228 : decode cX6_pools 228 = .ok (.getfield 64, 3) := by decide +kernel
theorem dX6_pools_231 : decode cX6_pools 231 = .ok (.iload 5, 2) := by decide +kernel
theorem dX6_pools_233 : decode cX6_pools 233 = .ok (.laload, 1) := by decide +kernel
theorem dX6_pools_234 : decode cX6_pools 234 = .ok (.lsub, 1) := by decide +kernel
theorem dX6_pools_235 : decode cX6_pools 235 = .ok (.lstore_n 1, 1) := by decide +kernel
theorem dX6_pools_236 : decode cX6_pools 236 = .ok (.aload_n 0, 1) := by decide +kernel
theorem dX6_pools_237 : decode cX6_pools 237 = .ok (.getfield 67, 3) := by decide +kernel
theorem dX6_pools_240 : decode cX6_pools 240 = .ok (.iload 5, 2) := by decide +kernel
theorem dX6_pools_242 : decode cX6_pools 242 = .ok (.lload_n 1, 1) := by decide +kernel
theorem dX6_pools_243 : decode cX6_pools 243 = .ok (.lastore, 1) := by decide +kernel
theorem dX6_pools_244 : decode cX6_pools 244 = .ok (.aload_n 0, 1) := by decide +kernel
theorem dX6_pools_245 : decode cX6_pools 245 = .ok (.getfield 70, 3) := by decide +kernel
theorem dX6_pools_248 : decode cX6_pools 248 = .ok (.iload 5, 2) := by decide +kernel
theorem dX6_pools_250 : decode cX6_pools 250 = .ok (.lload_n 3, 1) := by decide +kernel
theorem dX6_pools_251 : decode cX6_pools 251 = .ok (.lastore, 1) := by decide +kernel
theorem dX6_pools_252 : decode cX6_pools 252 = .ok (.iinc 5 1, 3) := by decide +kernel
theorem dX6_pools_255 : decode cX6_pools 255 = .ok (.goto (-248), 3) := by decide +kernel
theorem dX6_pools_258 : decode cX6_pools 258 = .ok (.return_, 1) := by decide +kernel
set_option maxRecDepth 20000 in
theorem ggX6_reckons_X6_laysDays : GoodIn wsX6_reckons wsX6_laysDays := goodIn_r _ [9, 2, 10, 11, 12, 13, 3, 14, 15, 16, 17, 18, 19, 20, 21, 22, 23, 24, 25, 8, 26, 27, 28, 29, 49, 50, 51, 52, 53, 54, 55, 56, 57, 58, 59, 60, 61, 62, 63, 64, 65, 66, 67, 68, 69, 70, 71, 72, 73, 74, 75, 76, 77, 78] (by decide +kernel) (by decide +kernel)
set_option maxRecDepth 20000 in
theorem gX6_reckons_X6_laysDays : GoodIn wsX6_reckons (wsV RX6 134 RX6 yX6_laysDays wsX6_laysDays) := goodIn_app (goodIn_of _ (by decide +kernel)) ggX6_reckons_X6_laysDays
set_option maxRecDepth 20000 in
theorem ggX6_reckons_X6_pairs : GoodIn wsX6_reckons wsX6_pairs := goodIn_r _ [33, 22, 21, 34, 1, 35, 36, 37, 38, 15, 14, 39, 17, 16, 40, 41, 8, 42, 49, 50, 51, 52, 53, 54, 55, 56, 57, 58, 59, 60, 61, 62, 63, 64, 65, 66, 67, 68, 69, 70, 71, 72, 73, 74, 75, 76, 77, 78] (by decide +kernel) (by decide +kernel)
set_option maxRecDepth 20000 in
theorem gX6_reckons_X6_pairs : GoodIn wsX6_reckons (wsV RX6 138 RX6 yX6_pairs wsX6_pairs) := goodIn_app (goodIn_of _ (by decide +kernel)) ggX6_reckons_X6_pairs
set_option maxRecDepth 20000 in
theorem ggX6_reckons_X6_pools : GoodIn wsX6_reckons wsX6_pools := goodIn_r _ [46, 2, 21, 15, 14, 22, 34, 1, 35, 36, 37, 38, 39, 17, 16, 47, 48, 40, 41, 8, 42, 49, 50, 51, 52, 53, 54, 55, 56, 57, 58, 59, 60, 61, 62, 63, 64, 65, 66, 67, 68, 69, 70, 71, 72, 73, 74, 75, 76, 77, 78] (by decide +kernel) (by decide +kernel)
set_option maxRecDepth 20000 in
theorem gX6_reckons_X6_pools : GoodIn wsX6_reckons (wsV RX6 142 RX6 yX6_pools wsX6_pools) := goodIn_app (goodIn_of _ (by decide +kernel)) ggX6_reckons_X6_pools
theorem dX6_reckons_0 : decode cX6_reckons 0 = .ok (.aload_n 0, 1) := by decide +kernel
theorem dX6_reckons_1 : decode cX6_reckons 1 = .ok (.iload_n 1, 1) := by decide +kernel
theorem dX6_reckons_2 : decode cX6_reckons 2 = .ok (.invokevirtual 134, 3) := by decide +kernel
theorem dX6_reckons_5 : decode cX6_reckons 5 = .ok (.aload_n 0, 1) := by decide +kernel
theorem dX6_reckons_6 : decode cX6_reckons 6 = .ok (.iconst 0, 1) := by decide +kernel
theorem dX6_reckons_7 : decode cX6_reckons 7 = .ok (.putfield 127, 3) := by decide +kernel
theorem dX6_reckons_10 : decode cX6_reckons 10 = .ok (.iconst 0, 1) := by decide +kernel
theorem dX6_reckons_11 : decode cX6_reckons 11 = .ok (.istore_n 2, 1) := by decide +kernel
theorem dX6_reckons_12 : decode cX6_reckons 12 = .ok (.iload_n 2, 1) := by decide +kernel
theorem dX6_reckons_13 : decode cX6_reckons 13 = .ok (.aload_n 0, 1) := by decide +kernel
theorem dX6_reckons_14 : decode cX6_reckons 14 = .ok (.getfield 124, 3) := by decide +kernel
theorem dX6_reckons_17 : decode cX6_reckons 17 = .ok (.if_icmp .ge 16, 3) := by decide +kernel
theorem dX6_reckons_20 : decode cX6_reckons 20 = .ok (.aload_n 0, 1) := by decide +kernel
theorem dX6_reckons_21 : decode cX6_reckons 21 = .ok (.iload_n 2, 1) := by decide +kernel
theorem dX6_reckons_22 : decode cX6_reckons 22 = .ok (.iload_n 2, 1) := by decide +kernel
theorem dX6_reckons_23 : decode cX6_reckons 23 = .ok (.iconst 0, 1) := by decide +kernel
theorem dX6_reckons_24 : decode cX6_reckons 24 = .ok (.invokevirtual 138, 3) := by decide +kernel
theorem dX6_reckons_27 : decode cX6_reckons 27 = .ok (.iinc 2 1, 3) := by decide +kernel
theorem dX6_reckons_30 : decode cX6_reckons 30 = .ok (.goto (-18), 3) := by decide +kernel
theorem dX6_reckons_33 : decode cX6_reckons 33 = .ok (.iconst 0, 1) := by decide +kernel
theorem dX6_reckons_34 : decode cX6_reckons 34 = .ok (.istore_n 2, 1) := by decide +kernel
theorem dX6_reckons_35 : decode cX6_reckons 35 = .ok (.iload_n 2, 1) := by decide +kernel
theorem dX6_reckons_36 : decode cX6_reckons 36 = .ok (.aload_n 0, 1) := by decide +kernel
theorem dX6_reckons_37 : decode cX6_reckons 37 = .ok (.getfield 124, 3) := by decide +kernel
theorem dX6_reckons_40 : decode cX6_reckons 40 = .ok (.if_icmp .ge 54, 3) := by decide +kernel
theorem dX6_reckons_43 : decode cX6_reckons 43 = .ok (.iload_n 2, 1) := by decide +kernel
theorem dX6_reckons_44 : decode cX6_reckons 44 = .ok (.iconst 1, 1) := by decide +kernel
theorem dX6_reckons_45 : decode cX6_reckons 45 = .ok (.iadd, 1) := by decide +kernel
theorem dX6_reckons_46 : decode cX6_reckons 46 = .ok (.istore_n 3, 1) := by decide +kernel
theorem dX6_reckons_47 : decode cX6_reckons 47 = .ok (.iload_n 3, 1) := by decide +kernel
theorem dX6_reckons_48 : decode cX6_reckons 48 = .ok (.aload_n 0, 1) := by decide +kernel
theorem dX6_reckons_49 : decode cX6_reckons 49 = .ok (.getfield 124, 3) := by decide +kernel
theorem dX6_reckons_52 : decode cX6_reckons 52 = .ok (.if_icmp .ge 36, 3) := by decide +kernel
theorem dX6_reckons_55 : decode cX6_reckons 55 = .ok (.aload_n 0, 1) := by decide +kernel
theorem dX6_reckons_56 : decode cX6_reckons 56 = .ok (.getfield 45, 3) := by decide +kernel
theorem dX6_reckons_59 : decode cX6_reckons 59 = .ok (.iload_n 3, 1) := by decide +kernel
theorem dX6_reckons_60 : decode cX6_reckons 60 = .ok (.iaload, 1) := by decide +kernel
theorem dX6_reckons_61 : decode cX6_reckons 61 = .ok (.aload_n 0, 1) := by decide +kernel
theorem dX6_reckons_62 : decode cX6_reckons 62 = .ok (.getfield 45, 3) := by decide +kernel
theorem dX6_reckons_65 : decode cX6_reckons 65 = .ok (.iload_n 2, 1) := by decide +kernel
theorem dX6_reckons_66 : decode cX6_reckons 66 = .ok (.iaload, 1) := by decide +kernel
theorem dX6_reckons_67 : decode cX6_reckons 67 = .ok (.isub, 1) := by decide +kernel
theorem dX6_reckons_68 : decode cX6_reckons 68 = .ok (.aload_n 0, 1) := by decide +kernel
theorem dX6_reckons_69 : decode cX6_reckons 69 = .ok (.getfield 41, 3) := by decide +kernel
theorem dX6_reckons_72 : decode cX6_reckons 72 = .ok (.if_icmp .gt 10, 3) := by decide +kernel
theorem dX6_reckons_75 : decode cX6_reckons 75 = .ok (.aload_n 0, 1) := by decide +kernel
theorem dX6_reckons_76 : decode cX6_reckons 76 = .ok (.iload_n 2, 1) := by decide +kernel
theorem dX6_reckons_77 : decode cX6_reckons 77 = .ok (.iload_n 3, 1) := by decide +kernel
theorem dX6_reckons_78 : decode cX6_reckons 78 = .ok (.iconst 1, 1) := by decide +kernel
theorem dX6_reckons_79 : decode cX6_reckons 79 = .ok (.invokevirtual 138, 3) := by decide +kernel
theorem dX6_reckons_82 : decode cX6_reckons 82 = .ok (.iinc 3 1, 3) := by decide +kernel
theorem dX6_reckons_85 : decode cX6_reckons 85 = .ok (.goto (-38), 3) := by decide +kernel
theorem dX6_reckons_88 : decode cX6_reckons 88 = .ok (.iinc 2 1, 3) := by decide +kernel
theorem dX6_reckons_91 : decode cX6_reckons 91 = .ok (.goto (-56), 3) := by decide +kernel
theorem dX6_reckons_94 : decode cX6_reckons 94 = .ok (.aload_n 0, 1) := by decide +kernel
theorem dX6_reckons_95 : decode cX6_reckons 95 = .ok (.invokevirtual 142, 3) := by decide +kernel
theorem dX6_reckons_98 : decode cX6_reckons 98 = .ok (.return_, 1) := by decide +kernel
theorem dX6_trades_0 : decode cX6_trades 0 = .ok (.aload_n 0, 1) := by decide +kernel
theorem dX6_trades_1 : decode cX6_trades 1 = .ok (.iconst 0, 1) := by decide +kernel
theorem dX6_trades_2 : decode cX6_trades 2 = .ok (.putfield 91, 3) := by decide +kernel
theorem dX6_trades_5 : decode cX6_trades 5 = .ok (.aload_n 0, 1) := by decide +kernel
theorem dX6_trades_6 : decode cX6_trades 6 = .ok (.getfield 98, 3) := by decide +kernel
theorem dX6_trades_9 : decode cX6_trades 9 = .ok (.ireturn, 1) := by decide +kernel
set_option maxRecDepth 20000 in
theorem ggX6_asks_X6_isShare : GoodIn wsX6_asks wsX6_isShare := goodIn_r _ [5, 6, 7, 4, 8] (by decide +kernel) (by decide +kernel)
set_option maxRecDepth 20000 in
theorem gX6_asks_X6_isShare : GoodIn wsX6_asks (va_wsS RX6 109 yX6_isShare wsX6_isShare) := goodIn_app (goodIn_of _ (by decide +kernel)) ggX6_asks_X6_isShare
set_option maxRecDepth 20000 in
theorem ggX6_asks_X6_isDay : GoodIn wsX6_asks wsX6_isDay := goodIn_r _ [11, 6, 7, 4, 8] (by decide +kernel) (by decide +kernel)
set_option maxRecDepth 20000 in
theorem gX6_asks_X6_isDay : GoodIn wsX6_asks (va_wsS RX6 113 yX6_isDay wsX6_isDay) := goodIn_app (goodIn_of _ (by decide +kernel)) ggX6_asks_X6_isDay
theorem dX6_asks_0 : decode cX6_asks 0 = .ok (.aload_n 0, 1) := by decide +kernel
theorem dX6_asks_1 : decode cX6_asks 1 = .ok (.iload_n 1, 1) := by decide +kernel
theorem dX6_asks_2 : decode cX6_asks 2 = .ok (.invokestatic 109, 3) := by decide +kernel
theorem dX6_asks_5 : decode cX6_asks 5 = .ok (.ifCond .eq 14, 3) := by decide +kernel
theorem dX6_asks_8 : decode cX6_asks 8 = .ok (.iload_n 2, 1) := by decide +kernel
theorem dX6_asks_9 : decode cX6_asks 9 = .ok (.invokestatic 113, 3) := by decide +kernel
theorem dX6_asks_12 : decode cX6_asks 12 = .ok (.ifCond .eq 7, 3) := by decide +kernel
theorem dX6_asks_15 : decode cX6_asks 15 = .ok (.iconst 0, 1) := by decide +kernel
theorem dX6_asks_16 : decode cX6_asks 16 = .ok (.goto 4, 3) := by decide +kernel
theorem dX6_asks_19 : decode cX6_asks 19 = .ok (.iconst 1, 1) := by decide +kernel
theorem dX6_asks_20 : decode cX6_asks 20 = .ok (.putfield 91, 3) := by decide +kernel
theorem dX6_asks_23 : decode cX6_asks 23 = .ok (.aload_n 0, 1) := by decide +kernel
theorem dX6_asks_24 : decode cX6_asks 24 = .ok (.getfield 91, 3) := by decide +kernel
theorem dX6_asks_27 : decode cX6_asks 27 = .ok (.ifCond .ne 7, 3) := by decide +kernel
theorem dX6_asks_30 : decode cX6_asks 30 = .ok (.iconst 1, 1) := by decide +kernel
theorem dX6_asks_31 : decode cX6_asks 31 = .ok (.goto 4, 3) := by decide +kernel
theorem dX6_asks_34 : decode cX6_asks 34 = .ok (.iconst 0, 1) := by decide +kernel
theorem dX6_asks_35 : decode cX6_asks 35 = .ok (.ireturn, 1) := by decide +kernel
set_option maxRecDepth 20000 in
theorem ggX6_holding_X6_asks : GoodIn wsX6_holding wsX6_asks := goodIn_r _ [5, 6, 7, 8, 4, 9, 10, 11, 12, 13, 14, 15, 33, 34, 35, 36, 37, 38, 39, 40, 41, 42, 43, 44, 45, 46, 47, 48, 49, 50, 51, 52, 53, 54, 55, 56, 57, 58, 59, 60, 61, 62] (by decide +kernel) (by decide +kernel)
set_option maxRecDepth 20000 in
theorem gX6_holding_X6_asks : GoodIn wsX6_holding (wsV RX6 145 RX6 yX6_asks wsX6_asks) := goodIn_app (goodIn_of _ (by decide +kernel)) ggX6_holding_X6_asks
set_option maxRecDepth 20000 in
theorem ggX6_holding_X6_held : GoodIn wsX6_holding wsX6_held := goodIn_r _ [19, 20, 21, 22, 23, 24, 25, 26, 27, 28, 4, 29, 30, 31, 32, 33, 34, 35, 36, 37, 38, 39, 40, 41, 42, 43, 44, 45, 46, 47, 48, 49, 50, 51, 52, 53, 54, 55, 56, 57, 58, 59, 60, 61, 62] (by decide +kernel) (by decide +kernel)
set_option maxRecDepth 20000 in
theorem gX6_holding_X6_held : GoodIn wsX6_holding (wsV RX6 105 RX6 yX6_held wsX6_held) := goodIn_app (goodIn_of _ (by decide +kernel)) ggX6_holding_X6_held
set_option maxRecDepth 20000 in
theorem ggX6_holding_X6_later : GoodIn wsX6_holding wsX6_later := goodIn_r _ [29, 30, 31, 32, 33, 34, 35, 36, 37, 38, 39, 40, 41, 42, 43, 44, 45, 46, 47, 48, 49, 50, 51, 52, 53, 54, 55, 56, 57, 58, 59, 60, 61, 62] (by decide +kernel) (by decide +kernel)
set_option maxRecDepth 20000 in
theorem gX6_holding_X6_later : GoodIn wsX6_holding (wsV RX6 101 RX6 yX6_later wsX6_later) := goodIn_app (goodIn_of _ (by decide +kernel)) ggX6_holding_X6_later
theorem dX6_holding_0 : decode cX6_holding 0 = .ok (.aload_n 0, 1) := by decide +kernel
theorem dX6_holding_1 : decode cX6_holding 1 = .ok (.iload_n 1, 1) := by decide +kernel
theorem dX6_holding_2 : decode cX6_holding 2 = .ok (.iload_n 2, 1) := by decide +kernel
theorem dX6_holding_3 : decode cX6_holding 3 = .ok (.invokevirtual 145, 3) := by decide +kernel
theorem dX6_holding_6 : decode cX6_holding 6 = .ok (.ifCond .eq 21, 3) := by decide +kernel
theorem dX6_holding_9 : decode cX6_holding 9 = .ok (.aload_n 0, 1) := by decide +kernel
theorem dX6_holding_10 : decode cX6_holding 10 = .ok (.iload_n 1, 1) := by decide +kernel
theorem dX6_holding_11 : decode cX6_holding 11 = .ok (.iload_n 2, 1) := by decide +kernel
theorem dX6_holding_12 : decode cX6_holding 12 = .ok (.invokevirtual 105, 3) := by decide +kernel
theorem dX6_holding_15 : decode cX6_holding 15 = .ok (.aload_n 0, 1) := by decide +kernel
theorem dX6_holding_16 : decode cX6_holding 16 = .ok (.iload_n 1, 1) := by decide +kernel
theorem dX6_holding_17 : decode cX6_holding 17 = .ok (.iload_n 2, 1) := by decide +kernel
theorem dX6_holding_18 : decode cX6_holding 18 = .ok (.invokevirtual 101, 3) := by decide +kernel
theorem dX6_holding_21 : decode cX6_holding 21 = .ok (.i2l, 1) := by decide +kernel
theorem dX6_holding_22 : decode cX6_holding 22 = .ok (.ldiv, 1) := by decide +kernel
theorem dX6_holding_23 : decode cX6_holding 23 = .ok (.l2i, 1) := by decide +kernel
theorem dX6_holding_24 : decode cX6_holding 24 = .ok (.goto 4, 3) := by decide +kernel
theorem dX6_holding_27 : decode cX6_holding 27 = .ok (.iconst 0, 1) := by decide +kernel
theorem dX6_holding_28 : decode cX6_holding 28 = .ok (.ireturn, 1) := by decide +kernel
theorem dX6_placeOf_0 : decode cX6_placeOf 0 = .ok (.iconst (-1), 1) := by decide +kernel
theorem dX6_placeOf_1 : decode cX6_placeOf 1 = .ok (.istore_n 2, 1) := by decide +kernel
theorem dX6_placeOf_2 : decode cX6_placeOf 2 = .ok (.iconst 0, 1) := by decide +kernel
theorem dX6_placeOf_3 : decode cX6_placeOf 3 = .ok (.istore_n 3, 1) := by decide +kernel
theorem dX6_placeOf_4 : decode cX6_placeOf 4 = .ok (.iload_n 3, 1) := by decide +kernel
theorem dX6_placeOf_5 : decode cX6_placeOf 5 = .ok (.aload_n 0, 1) := by decide +kernel
theorem dX6_placeOf_6 : decode cX6_placeOf 6 = .ok (.getfield 124, 3) := by decide +kernel
theorem dX6_placeOf_9 : decode cX6_placeOf 9 = .ok (.if_icmp .ge 25, 3) := by decide +kernel
theorem dX6_placeOf_12 : decode cX6_placeOf 12 = .ok (.aload_n 0, 1) := by decide +kernel
theorem dX6_placeOf_13 : decode cX6_placeOf 13 = .ok (.getfield 45, 3) := by decide +kernel
theorem dX6_placeOf_16 : decode cX6_placeOf 16 = .ok (.iload_n 3, 1) := by decide +kernel
theorem dX6_placeOf_17 : decode cX6_placeOf 17 = .ok (.iaload, 1) := by decide +kernel
theorem dX6_placeOf_18 : decode cX6_placeOf 18 = .ok (.iload_n 1, 1) := by decide +kernel
theorem dX6_placeOf_19 : decode cX6_placeOf 19 = .ok (.if_icmp .gt 7, 3) := by decide +kernel
theorem dX6_placeOf_22 : decode cX6_placeOf 22 = .ok (.iload_n 3, 1) := by decide +kernel
theorem dX6_placeOf_23 : decode cX6_placeOf 23 = .ok (.goto 4, 3) := by decide +kernel
theorem dX6_placeOf_26 : decode cX6_placeOf 26 = .ok (.iload_n 2, 1) := by decide +kernel
theorem dX6_placeOf_27 : decode cX6_placeOf 27 = .ok (.istore_n 2, 1) := by decide +kernel
theorem dX6_placeOf_28 : decode cX6_placeOf 28 = .ok (.iinc 3 1, 3) := by decide +kernel
theorem dX6_placeOf_31 : decode cX6_placeOf 31 = .ok (.goto (-27), 3) := by decide +kernel
theorem dX6_placeOf_34 : decode cX6_placeOf 34 = .ok (.iload_n 2, 1) := by decide +kernel
theorem dX6_placeOf_35 : decode cX6_placeOf 35 = .ok (.ireturn, 1) := by decide +kernel
set_option maxRecDepth 20000 in
theorem ggX6_poolUnits_X6_asks : GoodIn wsX6_poolUnits wsX6_asks := goodIn_r _ [6, 7, 8, 9, 5, 10, 11, 12, 13, 14, 15, 16, 71, 72, 73, 74, 75, 76, 77, 78, 79, 80, 81, 82, 83, 84, 85, 86, 87, 88, 89, 90, 91, 92, 93, 94, 95, 96, 97, 98, 99, 100] (by decide +kernel) (by decide +kernel)
set_option maxRecDepth 20000 in
theorem gX6_poolUnits_X6_asks : GoodIn wsX6_poolUnits (wsV RX6 145 RX6 yX6_asks wsX6_asks) := goodIn_app (goodIn_of _ (by decide +kernel)) ggX6_poolUnits_X6_asks
set_option maxRecDepth 20000 in
theorem ggX6_poolUnits_X6_reckons : GoodIn wsX6_poolUnits wsX6_reckons := goodIn_r _ [20, 21, 22, 23, 24, 25, 26, 27, 5, 28, 29, 30, 31, 32, 33, 34, 35, 36, 37, 38, 39, 40, 41, 42, 43, 44, 45, 46, 47, 48, 49, 50, 51, 52, 53, 54, 55, 56, 57, 58, 59, 60, 61, 62, 63, 64, 65, 1, 66, 71, 72, 73, 74, 75, 76, 77, 78, 79, 80, 81, 82, 83, 84, 85, 86, 87, 88, 89, 90, 91, 92, 93, 94, 95, 96, 97, 98, 99, 100] (by decide +kernel) (by decide +kernel)
set_option maxRecDepth 20000 in
theorem gX6_poolUnits_X6_reckons : GoodIn wsX6_poolUnits (wsV RX6 149 RX6 yX6_reckons wsX6_reckons) := goodIn_app (goodIn_of _ (by decide +kernel)) ggX6_poolUnits_X6_reckons
set_option maxRecDepth 20000 in
theorem ggX6_poolUnits_X6_placeOf : GoodIn wsX6_poolUnits wsX6_placeOf := goodIn_r _ [70, 22, 23, 71, 72, 73, 74, 75, 76, 77, 78, 79, 80, 81, 82, 83, 84, 85, 86, 87, 88, 89, 90, 91, 92, 93, 94, 95, 96, 97, 98, 99, 100] (by decide +kernel) (by decide +kernel)
set_option maxRecDepth 20000 in
theorem gX6_poolUnits_X6_placeOf : GoodIn wsX6_poolUnits (wsV RX6 152 RX6 yX6_placeOf wsX6_placeOf) := goodIn_app (goodIn_of _ (by decide +kernel)) ggX6_poolUnits_X6_placeOf
theorem dX6_poolUnits_0 : decode cX6_poolUnits 0 = .ok (.aload_n 0, 1) := by decide +kernel
theorem dX6_poolUnits_1 : decode cX6_poolUnits 1 = .ok (.iload_n 1, 1) := by decide +kernel
theorem dX6_poolUnits_2 : decode cX6_poolUnits 2 = .ok (.iload_n 2, 1) := by decide +kernel
theorem dX6_poolUnits_3 : decode cX6_poolUnits 3 = .ok (.invokevirtual 145, 3) := by decide +kernel
theorem dX6_poolUnits_6 : decode cX6_poolUnits 6 = .ok (.ifCond .ne 5, 3) := by decide +kernel
theorem dX6_poolUnits_9 : decode cX6_poolUnits 9 = .ok (.iconst 0, 1) := by decide +kernel
theorem dX6_poolUnits_10 : decode cX6_poolUnits 10 = .ok (.ireturn, 1) := by decide +kernel
theorem dX6_poolUnits_11 : decode cX6_poolUnits 11 = .ok (.aload_n 0, 1) := by decide +kernel
theorem dX6_poolUnits_12 : decode cX6_poolUnits 12 = .ok (.iload_n 1, 1) := by decide +kernel
theorem dX6_poolUnits_13 : decode cX6_poolUnits 13 = .ok (.invokevirtual 149, 3) := by decide +kernel
theorem dX6_poolUnits_16 : decode cX6_poolUnits 16 = .ok (.aload_n 0, 1) := by decide +kernel
theorem dX6_poolUnits_17 : decode cX6_poolUnits 17 = .ok (.iload_n 2, 1) := by decide +kernel
theorem dX6_poolUnits_18 : decode cX6_poolUnits 18 = .ok (.invokevirtual 152, 3) := by decide +kernel
theorem dX6_poolUnits_21 : decode cX6_poolUnits 21 = .ok (.istore_n 3, 1) := by decide +kernel
theorem dX6_poolUnits_22 : decode cX6_poolUnits 22 = .ok (.iload_n 3, 1) := by decide +kernel
theorem dX6_poolUnits_23 : decode cX6_poolUnits 23 = .ok (.ifCond .ge 7, 3) := by decide +kernel
theorem dX6_poolUnits_26 : decode cX6_poolUnits 26 = .ok (.iconst 0, 1) := by decide +kernel
theorem dX6_poolUnits_27 : decode cX6_poolUnits 27 = .ok (.goto 10, 3) := by decide +kernel
theorem dX6_poolUnits_30 : decode cX6_poolUnits 30 = .ok (.aload_n 0, 1) := by decide +kernel
theorem dX6_poolUnits_31 : decode cX6_poolUnits 31 = .ok (.getfield 67, 3) := by decide +kernel
theorem dX6_poolUnits_34 : decode cX6_poolUnits 34 = .ok (.iload_n 3, 1) := by decide +kernel
theorem dX6_poolUnits_35 : decode cX6_poolUnits 35 = .ok (.laload, 1) := by decide +kernel
theorem dX6_poolUnits_36 : decode cX6_poolUnits 36 = .ok (.l2i, 1) := by decide +kernel
theorem dX6_poolUnits_37 : decode cX6_poolUnits 37 = .ok (.ireturn, 1) := by decide +kernel
set_option maxRecDepth 20000 in
theorem ggX6_poolCost_X6_asks : GoodIn wsX6_poolCost wsX6_asks := goodIn_r _ [6, 7, 8, 9, 5, 10, 11, 12, 13, 14, 15, 16, 71, 72, 73, 74, 75, 76, 77, 78, 79, 80, 81, 82, 83, 84, 85, 86, 87, 88, 89, 90, 91, 92, 93, 94, 95, 96, 97, 98, 99, 100] (by decide +kernel) (by decide +kernel)
set_option maxRecDepth 20000 in
theorem gX6_poolCost_X6_asks : GoodIn wsX6_poolCost (wsV RX6 145 RX6 yX6_asks wsX6_asks) := goodIn_app (goodIn_of _ (by decide +kernel)) ggX6_poolCost_X6_asks
set_option maxRecDepth 20000 in
theorem ggX6_poolCost_X6_reckons : GoodIn wsX6_poolCost wsX6_reckons := goodIn_r _ [20, 21, 22, 23, 24, 25, 26, 27, 5, 28, 29, 30, 31, 32, 33, 34, 35, 36, 37, 38, 39, 40, 41, 42, 43, 44, 45, 46, 47, 48, 49, 50, 51, 52, 53, 54, 55, 56, 57, 58, 59, 60, 61, 62, 63, 64, 65, 66, 1, 71, 72, 73, 74, 75, 76, 77, 78, 79, 80, 81, 82, 83, 84, 85, 86, 87, 88, 89, 90, 91, 92, 93, 94, 95, 96, 97, 98, 99, 100] (by decide +kernel) (by decide +kernel)
set_option maxRecDepth 20000 in
theorem gX6_poolCost_X6_reckons : GoodIn wsX6_poolCost (wsV RX6 149 RX6 yX6_reckons wsX6_reckons) := goodIn_app (goodIn_of _ (by decide +kernel)) ggX6_poolCost_X6_reckons
set_option maxRecDepth 20000 in
theorem ggX6_poolCost_X6_placeOf : GoodIn wsX6_poolCost wsX6_placeOf := goodIn_r _ [70, 22, 23, 71, 72, 73, 74, 75, 76, 77, 78, 79, 80, 81, 82, 83, 84, 85, 86, 87, 88, 89, 90, 91, 92, 93, 94, 95, 96, 97, 98, 99, 100] (by decide +kernel) (by decide +kernel)
set_option maxRecDepth 20000 in
theorem gX6_poolCost_X6_placeOf : GoodIn wsX6_poolCost (wsV RX6 152 RX6 yX6_placeOf wsX6_placeOf) := goodIn_app (goodIn_of _ (by decide +kernel)) ggX6_poolCost_X6_placeOf
theorem dX6_poolCost_0 : decode cX6_poolCost 0 = .ok (.aload_n 0, 1) := by decide +kernel
theorem dX6_poolCost_1 : decode cX6_poolCost 1 = .ok (.iload_n 1, 1) := by decide +kernel
theorem dX6_poolCost_2 : decode cX6_poolCost 2 = .ok (.iload_n 2, 1) := by decide +kernel
theorem dX6_poolCost_3 : decode cX6_poolCost 3 = .ok (.invokevirtual 145, 3) := by decide +kernel
theorem dX6_poolCost_6 : decode cX6_poolCost 6 = .ok (.ifCond .ne 5, 3) := by decide +kernel
theorem dX6_poolCost_9 : decode cX6_poolCost 9 = .ok (.iconst 0, 1) := by decide +kernel
theorem dX6_poolCost_10 : decode cX6_poolCost 10 = .ok (.ireturn, 1) := by decide +kernel
theorem dX6_poolCost_11 : decode cX6_poolCost 11 = .ok (.aload_n 0, 1) := by decide +kernel
theorem dX6_poolCost_12 : decode cX6_poolCost 12 = .ok (.iload_n 1, 1) := by decide +kernel
theorem dX6_poolCost_13 : decode cX6_poolCost 13 = .ok (.invokevirtual 149, 3) := by decide +kernel
theorem dX6_poolCost_16 : decode cX6_poolCost 16 = .ok (.aload_n 0, 1) := by decide +kernel
theorem dX6_poolCost_17 : decode cX6_poolCost 17 = .ok (.iload_n 2, 1) := by decide +kernel
theorem dX6_poolCost_18 : decode cX6_poolCost 18 = .ok (.invokevirtual 152, 3) := by decide +kernel
theorem dX6_poolCost_21 : decode cX6_poolCost 21 = .ok (.istore_n 3, 1) := by decide +kernel
theorem dX6_poolCost_22 : decode cX6_poolCost 22 = .ok (.iload_n 3, 1) := by decide +kernel
theorem dX6_poolCost_23 : decode cX6_poolCost 23 = .ok (.ifCond .ge 7, 3) := by decide +kernel
theorem dX6_poolCost_26 : decode cX6_poolCost 26 = .ok (.iconst 0, 1) := by decide +kernel
theorem dX6_poolCost_27 : decode cX6_poolCost 27 = .ok (.goto 10, 3) := by decide +kernel
theorem dX6_poolCost_30 : decode cX6_poolCost 30 = .ok (.aload_n 0, 1) := by decide +kernel
theorem dX6_poolCost_31 : decode cX6_poolCost 31 = .ok (.getfield 70, 3) := by decide +kernel
theorem dX6_poolCost_34 : decode cX6_poolCost 34 = .ok (.iload_n 3, 1) := by decide +kernel
theorem dX6_poolCost_35 : decode cX6_poolCost 35 = .ok (.laload, 1) := by decide +kernel
theorem dX6_poolCost_36 : decode cX6_poolCost 36 = .ok (.l2i, 1) := by decide +kernel
theorem dX6_poolCost_37 : decode cX6_poolCost 37 = .ok (.ireturn, 1) := by decide +kernel
set_option maxRecDepth 20000 in
theorem ggX6_costIn_X6_isShare : GoodIn wsX6_costIn wsX6_isShare := goodIn_r _ [10, 11, 12, 9, 13] (by decide +kernel) (by decide +kernel)
set_option maxRecDepth 20000 in
theorem gX6_costIn_X6_isShare : GoodIn wsX6_costIn (va_wsS RX6 109 yX6_isShare wsX6_isShare) := goodIn_app (goodIn_of _ (by decide +kernel)) ggX6_costIn_X6_isShare
theorem dX6_costIn_0 : decode cX6_costIn 0 = .ok (.aload_n 0, 1) := by decide +kernel
theorem dX6_costIn_1 : decode cX6_costIn 1 = .ok (.iload_n 1, 1) := by decide +kernel
theorem dX6_costIn_2 : decode cX6_costIn 2 = .ok (.invokestatic 109, 3) := by decide +kernel
theorem dX6_costIn_5 : decode cX6_costIn 5 = .ok (.ifCond .eq 7, 3) := by decide +kernel
theorem dX6_costIn_8 : decode cX6_costIn 8 = .ok (.iconst 0, 1) := by decide +kernel
theorem dX6_costIn_9 : decode cX6_costIn 9 = .ok (.goto 4, 3) := by decide +kernel
theorem dX6_costIn_12 : decode cX6_costIn 12 = .ok (.iconst 1, 1) := by decide +kernel
theorem dX6_costIn_13 : decode cX6_costIn 13 = .ok (.putfield 91, 3) := by decide +kernel
theorem dX6_costIn_16 : decode cX6_costIn 16 = .ok (.iconst 0, 1) := by decide +kernel
theorem dX6_costIn_17 : decode cX6_costIn 17 = .ok (.istore_n 2, 1) := by decide +kernel
theorem dX6_costIn_18 : decode cX6_costIn 18 = .ok (.iconst 0, 1) := by decide +kernel
theorem dX6_costIn_19 : decode cX6_costIn 19 = .ok (.istore_n 3, 1) := by decide +kernel
theorem dX6_costIn_20 : decode cX6_costIn 20 = .ok (.iload_n 3, 1) := by decide +kernel
theorem dX6_costIn_21 : decode cX6_costIn 21 = .ok (.aload_n 0, 1) := by decide +kernel
theorem dX6_costIn_22 : decode cX6_costIn 22 = .ok (.getfield 98, 3) := by decide +kernel
theorem dX6_costIn_25 : decode cX6_costIn 25 = .ok (.if_icmp .ge 57, 3) := by decide +kernel
theorem dX6_costIn_28 : decode cX6_costIn 28 = .ok (.aload_n 0, 1) := by decide +kernel
theorem dX6_costIn_29 : decode cX6_costIn 29 = .ok (.getfield 91, 3) := by decide +kernel
theorem dX6_costIn_32 : decode cX6_costIn 32 = .ok (.ifCond .ne 50, 3) := by decide +kernel
theorem dX6_costIn_35 : decode cX6_costIn 35 = .ok (.iload_n 2, 1) := by decide +kernel
theorem dX6_costIn_36 : decode cX6_costIn 36 = .ok (.aload_n 0, 1) := by decide +kernel
theorem dX6_costIn_37 : decode cX6_costIn 37 = .ok (.getfield 26, 3) := by decide +kernel
theorem dX6_costIn_40 : decode cX6_costIn 40 = .ok (.iload_n 3, 1) := by decide +kernel
theorem dX6_costIn_41 : decode cX6_costIn 41 = .ok (.baload, 1) := by decide +kernel
theorem dX6_costIn_42 : decode cX6_costIn 42 = .ok (.ifCond .ne 31, 3) := by decide +kernel
theorem dX6_costIn_45 : decode cX6_costIn 45 = .ok (.aload_n 0, 1) := by decide +kernel
theorem dX6_costIn_46 : decode cX6_costIn 46 = .ok (.getfield 7, 3) := by decide +kernel
theorem dX6_costIn_49 : decode cX6_costIn 49 = .ok (.iload_n 3, 1) := by decide +kernel
theorem dX6_costIn_50 : decode cX6_costIn 50 = .ok (.iaload, 1) := by decide +kernel
theorem dX6_costIn_51 : decode cX6_costIn 51 = .ok (.iload_n 1, 1) := by decide +kernel
theorem dX6_costIn_52 : decode cX6_costIn 52 = .ok (.if_icmp .ne 21, 3) := by decide +kernel
theorem dX6_costIn_55 : decode cX6_costIn 55 = .ok (.aload_n 0, 1) := by decide +kernel
theorem dX6_costIn_56 : decode cX6_costIn 56 = .ok (.getfield 22, 3) := by decide +kernel
theorem dX6_costIn_59 : decode cX6_costIn 59 = .ok (.iload_n 3, 1) := by decide +kernel
theorem dX6_costIn_60 : decode cX6_costIn 60 = .ok (.baload, 1) := by decide +kernel
theorem dX6_costIn_61 : decode cX6_costIn 61 = .ok (.ifCond .ne 12, 3) := by decide +kernel
theorem dX6_costIn_64 : decode cX6_costIn 64 = .ok (.aload_n 0, 1) := by decide +kernel
theorem dX6_costIn_65 : decode cX6_costIn 65 = .ok (.getfield 19, 3) := by decide +kernel
theorem dX6_costIn_68 : decode cX6_costIn 68 = .ok (.iload_n 3, 1) := by decide +kernel
theorem dX6_costIn_69 : decode cX6_costIn 69 = .ok (.iaload, 1) := by decide +kernel
theorem dX6_costIn_70 : decode cX6_costIn 70 = .ok (.goto 4, 3) := by decide +kernel
theorem dX6_costIn_73 : decode cX6_costIn 73 = .ok (.iconst 0, 1) := by decide +kernel
theorem dX6_costIn_74 : decode cX6_costIn 74 = .ok (.iadd, 1) := by decide +kernel
theorem dX6_costIn_75 : decode cX6_costIn 75 = .ok (.istore_n 2, 1) := by decide +kernel
theorem dX6_costIn_76 : decode cX6_costIn 76 = .ok (.iinc 3 1, 3) := by decide +kernel
theorem dX6_costIn_79 : decode cX6_costIn 79 = .ok (.goto (-59), 3) := by decide +kernel
theorem dX6_costIn_82 : decode cX6_costIn 82 = .ok (.iload_n 2, 1) := by decide +kernel
theorem dX6_costIn_83 : decode cX6_costIn 83 = .ok (.ireturn, 1) := by decide +kernel
set_option maxRecDepth 20000 in
theorem ggX6_costMatched_X6_isShare : GoodIn wsX6_costMatched wsX6_isShare := goodIn_r _ [7, 8, 9, 6, 10] (by decide +kernel) (by decide +kernel)
set_option maxRecDepth 20000 in
theorem gX6_costMatched_X6_isShare : GoodIn wsX6_costMatched (va_wsS RX6 109 yX6_isShare wsX6_isShare) := goodIn_app (goodIn_of _ (by decide +kernel)) ggX6_costMatched_X6_isShare
set_option maxRecDepth 20000 in
theorem ggX6_costMatched_X6_reckons : GoodIn wsX6_costMatched wsX6_reckons := goodIn_r _ [14, 2, 15, 16, 17, 18, 19, 20, 6, 21, 22, 23, 24, 25, 26, 27, 28, 29, 30, 31, 32, 33, 34, 35, 36, 37, 38, 39, 40, 41, 42, 43, 44, 45, 46, 47, 48, 49, 3, 50, 51, 52, 53, 54, 55, 56, 57, 58, 59, 60, 61, 62, 63, 64, 65, 66, 67, 68, 69, 70, 71, 72, 73, 74, 75, 76, 77, 78, 79, 80, 81, 82, 83, 84, 85, 86, 87, 88, 89] (by decide +kernel) (by decide +kernel)
set_option maxRecDepth 20000 in
theorem gX6_costMatched_X6_reckons : GoodIn wsX6_costMatched (wsV RX6 149 RX6 yX6_reckons wsX6_reckons) := goodIn_app (goodIn_of _ (by decide +kernel)) ggX6_costMatched_X6_reckons
theorem dX6_costMatched_0 : decode cX6_costMatched 0 = .ok (.aload_n 0, 1) := by decide +kernel
theorem dX6_costMatched_1 : decode cX6_costMatched 1 = .ok (.iload_n 1, 1) := by decide +kernel
theorem dX6_costMatched_2 : decode cX6_costMatched 2 = .ok (.invokestatic 109, 3) := by decide +kernel
theorem dX6_costMatched_5 : decode cX6_costMatched 5 = .ok (.ifCond .eq 7, 3) := by decide +kernel
theorem dX6_costMatched_8 : decode cX6_costMatched 8 = .ok (.iconst 0, 1) := by decide +kernel
theorem dX6_costMatched_9 : decode cX6_costMatched 9 = .ok (.goto 4, 3) := by decide +kernel
theorem dX6_costMatched_12 : decode cX6_costMatched 12 = .ok (.iconst 1, 1) := by decide +kernel
theorem dX6_costMatched_13 : decode cX6_costMatched 13 = .ok (.putfield 91, 3) := by decide +kernel
theorem dX6_costMatched_16 : decode cX6_costMatched 16 = .ok (.aload_n 0, 1) := by decide +kernel
theorem dX6_costMatched_17 : decode cX6_costMatched 17 = .ok (.getfield 91, 3) := by decide +kernel
theorem dX6_costMatched_20 : decode cX6_costMatched 20 = .ok (.ifCond .le 5, 3) := by decide +kernel
theorem dX6_costMatched_23 : decode cX6_costMatched 23 = .ok (.iconst 0, 1) := by decide +kernel
theorem dX6_costMatched_24 : decode cX6_costMatched 24 = .ok (.ireturn, 1) := by decide +kernel
theorem dX6_costMatched_25 : decode cX6_costMatched 25 = .ok (.aload_n 0, 1) := by decide +kernel
theorem dX6_costMatched_26 : decode cX6_costMatched 26 = .ok (.iload_n 1, 1) := by decide +kernel
theorem dX6_costMatched_27 : decode cX6_costMatched 27 = .ok (.invokevirtual 149, 3) := by decide +kernel
theorem dX6_costMatched_30 : decode cX6_costMatched 30 = .ok (.lconst 0, 1) := by decide +kernel
theorem dX6_costMatched_31 : decode cX6_costMatched 31 = .ok (.lstore_n 2, 1) := by decide +kernel
theorem dX6_costMatched_32 : decode cX6_costMatched 32 = .ok (.iconst 0, 1) := by decide +kernel
theorem dX6_costMatched_33 : decode cX6_costMatched 33 = .ok (.istore 4, 2) := by decide +kernel
theorem dX6_costMatched_35 : decode cX6_costMatched 35 = .ok (.iload 4, 2) := by decide +kernel
theorem dX6_costMatched_37 : decode cX6_costMatched 37 = .ok (.aload_n 0, 1) := by decide +kernel
theorem dX6_costMatched_38 : decode cX6_costMatched 38 = .ok (.getfield 127, 3) := by decide +kernel
theorem dX6_costMatched_41 : decode cX6_costMatched 41 = .ok (.if_icmp .ge 19, 3) := by decide +kernel
theorem dX6_costMatched_44 : decode cX6_costMatched 44 = .ok (.lload_n 2, 1) := by decide +kernel
theorem dX6_costMatched_45 : decode cX6_costMatched 45 = .ok (.aload_n 0, 1) := by decide +kernel
theorem dX6_costMatched_46 : decode cX6_costMatched 46 = .ok (.getfield 85, 3) := by decide +kernel
theorem dX6_costMatched_49 : decode cX6_costMatched 49 = .ok (.iload 4, 2) := by decide +kernel
theorem dX6_costMatched_51 : decode cX6_costMatched 51 = .ok (.laload, 1) := by decide +kernel
theorem dX6_costMatched_52 : decode cX6_costMatched 52 = .ok (.ladd, 1) := by decide +kernel
theorem dX6_costMatched_53 : decode cX6_costMatched 53 = .ok (.lstore_n 2, 1) := by decide +kernel
theorem dX6_costMatched_54 : decode cX6_costMatched 54 = .ok (.iinc 4 1, 3) := by decide +kernel
theorem dX6_costMatched_57 : decode cX6_costMatched 57 = .ok (.goto (-22), 3) := by decide +kernel
theorem dX6_costMatched_60 : decode cX6_costMatched 60 = .ok (.lload_n 2, 1) := by decide +kernel
theorem dX6_costMatched_61 : decode cX6_costMatched 61 = .ok (.l2i, 1) := by decide +kernel
theorem dX6_costMatched_62 : decode cX6_costMatched 62 = .ok (.ireturn, 1) := by decide +kernel
set_option maxRecDepth 20000 in
theorem ggX6_matches_X6_isShare : GoodIn wsX6_matches wsX6_isShare := goodIn_r _ [6, 7, 8, 5, 9] (by decide +kernel) (by decide +kernel)
set_option maxRecDepth 20000 in
theorem gX6_matches_X6_isShare : GoodIn wsX6_matches (va_wsS RX6 109 yX6_isShare wsX6_isShare) := goodIn_app (goodIn_of _ (by decide +kernel)) ggX6_matches_X6_isShare
set_option maxRecDepth 20000 in
theorem ggX6_matches_X6_reckons : GoodIn wsX6_matches wsX6_reckons := goodIn_r _ [13, 2, 14, 15, 16, 17, 18, 19, 5, 20, 21, 22, 23, 24, 25, 26, 27, 28, 29, 30, 31, 32, 33, 34, 35, 36, 37, 38, 39, 40, 41, 42, 43, 44, 45, 46, 47, 48, 49, 50, 51, 52, 53, 54, 55, 56, 57, 58, 59, 60, 61, 62, 63, 64, 65, 66, 67, 68, 69, 70, 71, 72, 73, 74, 75, 76, 77, 78, 79, 80, 81, 82, 83, 84, 85, 86, 87, 88, 89] (by decide +kernel) (by decide +kernel)
set_option maxRecDepth 20000 in
theorem gX6_matches_X6_reckons : GoodIn wsX6_matches (wsV RX6 149 RX6 yX6_reckons wsX6_reckons) := goodIn_app (goodIn_of _ (by decide +kernel)) ggX6_matches_X6_reckons
theorem dX6_matches_0 : decode cX6_matches 0 = .ok (.aload_n 0, 1) := by decide +kernel
theorem dX6_matches_1 : decode cX6_matches 1 = .ok (.iload_n 1, 1) := by decide +kernel
theorem dX6_matches_2 : decode cX6_matches 2 = .ok (.invokestatic 109, 3) := by decide +kernel
theorem dX6_matches_5 : decode cX6_matches 5 = .ok (.ifCond .eq 7, 3) := by decide +kernel
theorem dX6_matches_8 : decode cX6_matches 8 = .ok (.iconst 0, 1) := by decide +kernel
theorem dX6_matches_9 : decode cX6_matches 9 = .ok (.goto 4, 3) := by decide +kernel
theorem dX6_matches_12 : decode cX6_matches 12 = .ok (.iconst 1, 1) := by decide +kernel
theorem dX6_matches_13 : decode cX6_matches 13 = .ok (.putfield 91, 3) := by decide +kernel
theorem dX6_matches_16 : decode cX6_matches 16 = .ok (.aload_n 0, 1) := by decide +kernel
theorem dX6_matches_17 : decode cX6_matches 17 = .ok (.getfield 91, 3) := by decide +kernel
theorem dX6_matches_20 : decode cX6_matches 20 = .ok (.ifCond .le 5, 3) := by decide +kernel
theorem dX6_matches_23 : decode cX6_matches 23 = .ok (.iconst 0, 1) := by decide +kernel
theorem dX6_matches_24 : decode cX6_matches 24 = .ok (.ireturn, 1) := by decide +kernel
theorem dX6_matches_25 : decode cX6_matches 25 = .ok (.aload_n 0, 1) := by decide +kernel
theorem dX6_matches_26 : decode cX6_matches 26 = .ok (.iload_n 1, 1) := by decide +kernel
theorem dX6_matches_27 : decode cX6_matches 27 = .ok (.invokevirtual 149, 3) := by decide +kernel
theorem dX6_matches_30 : decode cX6_matches 30 = .ok (.aload_n 0, 1) := by decide +kernel
theorem dX6_matches_31 : decode cX6_matches 31 = .ok (.getfield 127, 3) := by decide +kernel
theorem dX6_matches_34 : decode cX6_matches 34 = .ok (.ireturn, 1) := by decide +kernel
theorem dX6_ahead_0 : decode cX6_ahead 0 = .ok (.iconst 0, 1) := by decide +kernel
theorem dX6_ahead_1 : decode cX6_ahead 1 = .ok (.istore_n 2, 1) := by decide +kernel
theorem dX6_ahead_2 : decode cX6_ahead 2 = .ok (.iconst 0, 1) := by decide +kernel
theorem dX6_ahead_3 : decode cX6_ahead 3 = .ok (.istore_n 3, 1) := by decide +kernel
theorem dX6_ahead_4 : decode cX6_ahead 4 = .ok (.iload_n 3, 1) := by decide +kernel
theorem dX6_ahead_5 : decode cX6_ahead 5 = .ok (.aload_n 0, 1) := by decide +kernel
theorem dX6_ahead_6 : decode cX6_ahead 6 = .ok (.getfield 127, 3) := by decide +kernel
theorem dX6_ahead_9 : decode cX6_ahead 9 = .ok (.if_icmp .ge 52, 3) := by decide +kernel
theorem dX6_ahead_12 : decode cX6_ahead 12 = .ok (.iload_n 2, 1) := by decide +kernel
theorem dX6_ahead_13 : decode cX6_ahead 13 = .ok (.aload_n 0, 1) := by decide +kernel
theorem dX6_ahead_14 : decode cX6_ahead 14 = .ok (.getfield 73, 3) := by decide +kernel
theorem dX6_ahead_17 : decode cX6_ahead 17 = .ok (.iload_n 3, 1) := by decide +kernel
theorem dX6_ahead_18 : decode cX6_ahead 18 = .ok (.iaload, 1) := by decide +kernel
theorem dX6_ahead_19 : decode cX6_ahead 19 = .ok (.aload_n 0, 1) := by decide +kernel
theorem dX6_ahead_20 : decode cX6_ahead 20 = .ok (.getfield 73, 3) := by decide +kernel
theorem dX6_ahead_23 : decode cX6_ahead 23 = .ok (.iload_n 1, 1) := by decide +kernel
theorem dX6_ahead_24 : decode cX6_ahead 24 = .ok (.iaload, 1) := by decide +kernel
theorem dX6_ahead_25 : decode cX6_ahead 25 = .ok (.if_icmp .lt 23, 3) := by decide +kernel
theorem dX6_ahead_28 : decode cX6_ahead 28 = .ok (.aload_n 0, 1) := by decide +kernel
theorem dX6_ahead_29 : decode cX6_ahead 29 = .ok (.getfield 73, 3) := by decide +kernel
theorem dX6_ahead_32 : decode cX6_ahead 32 = .ok (.iload_n 3, 1) := by decide +kernel
theorem dX6_ahead_33 : decode cX6_ahead 33 = .ok (.iaload, 1) := by decide +kernel
theorem dX6_ahead_34 : decode cX6_ahead 34 = .ok (.aload_n 0, 1) := by decide +kernel
theorem dX6_ahead_35 : decode cX6_ahead 35 = .ok (.getfield 73, 3) := by decide +kernel
theorem dX6_ahead_38 : decode cX6_ahead 38 = .ok (.iload_n 1, 1) := by decide +kernel
theorem dX6_ahead_39 : decode cX6_ahead 39 = .ok (.iaload, 1) := by decide +kernel
theorem dX6_ahead_40 : decode cX6_ahead 40 = .ok (.if_icmp .ne 12, 3) := by decide +kernel
theorem dX6_ahead_43 : decode cX6_ahead 43 = .ok (.iload_n 3, 1) := by decide +kernel
theorem dX6_ahead_44 : decode cX6_ahead 44 = .ok (.iload_n 1, 1) := by decide +kernel
theorem dX6_ahead_45 : decode cX6_ahead 45 = .ok (.if_icmp .ge 7, 3) := by decide +kernel
theorem dX6_ahead_48 : decode cX6_ahead 48 = .ok (.iconst 1, 1) := by decide +kernel
theorem dX6_ahead_49 : decode cX6_ahead 49 = .ok (.goto 4, 3) := by decide +kernel
theorem dX6_ahead_52 : decode cX6_ahead 52 = .ok (.iconst 0, 1) := by decide +kernel
theorem dX6_ahead_53 : decode cX6_ahead 53 = .ok (.iadd, 1) := by decide +kernel
theorem dX6_ahead_54 : decode cX6_ahead 54 = .ok (.istore_n 2, 1) := by decide +kernel
theorem dX6_ahead_55 : decode cX6_ahead 55 = .ok (.iinc 3 1, 3) := by decide +kernel
theorem dX6_ahead_58 : decode cX6_ahead 58 = .ok (.goto (-54), 3) := by decide +kernel
theorem dX6_ahead_61 : decode cX6_ahead 61 = .ok (.iload_n 2, 1) := by decide +kernel
theorem dX6_ahead_62 : decode cX6_ahead 62 = .ok (.ireturn, 1) := by decide +kernel
set_option maxRecDepth 20000 in
theorem ggX6_found_X6_isShare : GoodIn wsX6_found wsX6_isShare := goodIn_r _ [6, 7, 8, 5, 9] (by decide +kernel) (by decide +kernel)
set_option maxRecDepth 20000 in
theorem gX6_found_X6_isShare : GoodIn wsX6_found (va_wsS RX6 109 yX6_isShare wsX6_isShare) := goodIn_app (goodIn_of _ (by decide +kernel)) ggX6_found_X6_isShare
set_option maxRecDepth 20000 in
theorem ggX6_found_X6_reckons : GoodIn wsX6_found wsX6_reckons := goodIn_r _ [13, 2, 14, 15, 16, 17, 18, 19, 5, 20, 21, 22, 23, 24, 25, 26, 27, 28, 29, 30, 31, 32, 33, 34, 35, 36, 37, 38, 39, 40, 41, 42, 43, 44, 45, 46, 47, 48, 49, 50, 51, 52, 53, 54, 55, 56, 57, 58, 59, 64, 65, 66, 67, 68, 69, 70, 71, 72, 73, 74, 75, 76, 77, 78, 79, 80, 81, 82, 83, 84, 85, 86, 87, 88, 89, 90, 91, 92, 93] (by decide +kernel) (by decide +kernel)
set_option maxRecDepth 20000 in
theorem gX6_found_X6_reckons : GoodIn wsX6_found (wsV RX6 149 RX6 yX6_reckons wsX6_reckons) := goodIn_app (goodIn_of _ (by decide +kernel)) ggX6_found_X6_reckons
set_option maxRecDepth 20000 in
theorem ggX6_found_X6_ahead : GoodIn wsX6_found wsX6_ahead := goodIn_r _ [63, 2, 45, 64, 65, 66, 67, 68, 69, 70, 71, 72, 73, 74, 75, 76, 77, 78, 79, 80, 81, 82, 83, 84, 85, 86, 87, 88, 89, 90, 91, 92, 93] (by decide +kernel) (by decide +kernel)
set_option maxRecDepth 20000 in
theorem gX6_found_X6_ahead : GoodIn wsX6_found (wsV RX6 156 RX6 yX6_ahead wsX6_ahead) := goodIn_app (goodIn_of _ (by decide +kernel)) ggX6_found_X6_ahead
theorem dX6_found_0 : decode cX6_found 0 = .ok (.aload_n 0, 1) := by decide +kernel
theorem dX6_found_1 : decode cX6_found 1 = .ok (.iload_n 1, 1) := by decide +kernel
theorem dX6_found_2 : decode cX6_found 2 = .ok (.invokestatic 109, 3) := by decide +kernel
theorem dX6_found_5 : decode cX6_found 5 = .ok (.ifCond .eq 7, 3) := by decide +kernel
theorem dX6_found_8 : decode cX6_found 8 = .ok (.iconst 0, 1) := by decide +kernel
theorem dX6_found_9 : decode cX6_found 9 = .ok (.goto 4, 3) := by decide +kernel
theorem dX6_found_12 : decode cX6_found 12 = .ok (.iconst 1, 1) := by decide +kernel
theorem dX6_found_13 : decode cX6_found 13 = .ok (.putfield 91, 3) := by decide +kernel
theorem dX6_found_16 : decode cX6_found 16 = .ok (.iconst (-1), 1) := by decide +kernel
theorem dX6_found_17 : decode cX6_found 17 = .ok (.istore_n 3, 1) := by decide +kernel
theorem dX6_found_18 : decode cX6_found 18 = .ok (.aload_n 0, 1) := by decide +kernel
theorem dX6_found_19 : decode cX6_found 19 = .ok (.getfield 91, 3) := by decide +kernel
theorem dX6_found_22 : decode cX6_found 22 = .ok (.ifCond .ne 43, 3) := by decide +kernel
theorem dX6_found_25 : decode cX6_found 25 = .ok (.aload_n 0, 1) := by decide +kernel
theorem dX6_found_26 : decode cX6_found 26 = .ok (.iload_n 1, 1) := by decide +kernel
theorem dX6_found_27 : decode cX6_found 27 = .ok (.invokevirtual 149, 3) := by decide +kernel
theorem dX6_found_30 : decode cX6_found 30 = .ok (.iconst 0, 1) := by decide +kernel
theorem dX6_found_31 : decode cX6_found 31 = .ok (.istore 4, 2) := by decide +kernel
theorem dX6_found_33 : decode cX6_found 33 = .ok (.iload 4, 2) := by decide +kernel
theorem dX6_found_35 : decode cX6_found 35 = .ok (.aload_n 0, 1) := by decide +kernel
theorem dX6_found_36 : decode cX6_found 36 = .ok (.getfield 127, 3) := by decide +kernel
theorem dX6_found_39 : decode cX6_found 39 = .ok (.if_icmp .ge 26, 3) := by decide +kernel
theorem dX6_found_42 : decode cX6_found 42 = .ok (.aload_n 0, 1) := by decide +kernel
theorem dX6_found_43 : decode cX6_found 43 = .ok (.iload 4, 2) := by decide +kernel
theorem dX6_found_45 : decode cX6_found 45 = .ok (.invokevirtual 156, 3) := by decide +kernel
theorem dX6_found_48 : decode cX6_found 48 = .ok (.iload_n 2, 1) := by decide +kernel
theorem dX6_found_49 : decode cX6_found 49 = .ok (.if_icmp .ne 8, 3) := by decide +kernel
theorem dX6_found_52 : decode cX6_found 52 = .ok (.iload 4, 2) := by decide +kernel
theorem dX6_found_54 : decode cX6_found 54 = .ok (.goto 4, 3) := by decide +kernel
theorem dX6_found_57 : decode cX6_found 57 = .ok (.iload_n 3, 1) := by decide +kernel
theorem dX6_found_58 : decode cX6_found 58 = .ok (.istore_n 3, 1) := by decide +kernel
theorem dX6_found_59 : decode cX6_found 59 = .ok (.iinc 4 1, 3) := by decide +kernel
theorem dX6_found_62 : decode cX6_found 62 = .ok (.goto (-29), 3) := by decide +kernel
theorem dX6_found_65 : decode cX6_found 65 = .ok (.aload_n 0, 1) := by decide +kernel
theorem dX6_found_66 : decode cX6_found 66 = .ok (.iload_n 3, 1) := by decide +kernel
theorem dX6_found_67 : decode cX6_found 67 = .ok (.ifCond .ge 7, 3) := by decide +kernel
theorem dX6_found_70 : decode cX6_found 70 = .ok (.iconst 1, 1) := by decide +kernel
theorem dX6_found_71 : decode cX6_found 71 = .ok (.goto 4, 3) := by decide +kernel
theorem dX6_found_74 : decode cX6_found 74 = .ok (.iconst 0, 1) := by decide +kernel
theorem dX6_found_75 : decode cX6_found 75 = .ok (.putfield 91, 3) := by decide +kernel
theorem dX6_found_78 : decode cX6_found 78 = .ok (.iload_n 3, 1) := by decide +kernel
theorem dX6_found_79 : decode cX6_found 79 = .ok (.ireturn, 1) := by decide +kernel
set_option maxRecDepth 20000 in
theorem ggX6_kindOf_X6_found : GoodIn wsX6_kindOf wsX6_found := goodIn_r _ [6, 7, 8, 9, 10, 5, 11, 12, 13, 14, 15, 16, 17, 18, 19, 20, 21, 22, 23, 24, 25, 26, 27, 28, 29, 30, 31, 32, 33, 34, 35, 36, 37, 38, 39, 40, 41, 42, 43, 44, 45, 46, 47, 48, 49, 50, 51, 1, 52, 53, 54, 55, 56, 57, 58, 59, 60, 61, 62, 63, 64, 65, 66, 67, 68, 69, 70, 71, 72, 73, 74, 75, 76, 77, 78, 79, 80, 81, 82, 83, 84, 85, 86, 87, 88, 89, 90, 91, 92, 93, 94, 95, 96, 97] (by decide +kernel) (by decide +kernel)
set_option maxRecDepth 20000 in
theorem gX6_kindOf_X6_found : GoodIn wsX6_kindOf (wsV RX6 159 RX6 yX6_found wsX6_found) := goodIn_app (goodIn_of _ (by decide +kernel)) ggX6_kindOf_X6_found
theorem dX6_kindOf_0 : decode cX6_kindOf 0 = .ok (.aload_n 0, 1) := by decide +kernel
theorem dX6_kindOf_1 : decode cX6_kindOf 1 = .ok (.iload_n 1, 1) := by decide +kernel
theorem dX6_kindOf_2 : decode cX6_kindOf 2 = .ok (.iload_n 2, 1) := by decide +kernel
theorem dX6_kindOf_3 : decode cX6_kindOf 3 = .ok (.invokevirtual 159, 3) := by decide +kernel
theorem dX6_kindOf_6 : decode cX6_kindOf 6 = .ok (.istore_n 3, 1) := by decide +kernel
theorem dX6_kindOf_7 : decode cX6_kindOf 7 = .ok (.iload_n 3, 1) := by decide +kernel
theorem dX6_kindOf_8 : decode cX6_kindOf 8 = .ok (.ifCond .ge 7, 3) := by decide +kernel
theorem dX6_kindOf_11 : decode cX6_kindOf 11 = .ok (.iconst 0, 1) := by decide +kernel
theorem dX6_kindOf_12 : decode cX6_kindOf 12 = .ok (.goto 9, 3) := by decide +kernel
theorem dX6_kindOf_15 : decode cX6_kindOf 15 = .ok (.aload_n 0, 1) := by decide +kernel
theorem dX6_kindOf_16 : decode cX6_kindOf 16 = .ok (.getfield 79, 3) := by decide +kernel
theorem dX6_kindOf_19 : decode cX6_kindOf 19 = .ok (.iload_n 3, 1) := by decide +kernel
theorem dX6_kindOf_20 : decode cX6_kindOf 20 = .ok (.iaload, 1) := by decide +kernel
theorem dX6_kindOf_21 : decode cX6_kindOf 21 = .ok (.ireturn, 1) := by decide +kernel
set_option maxRecDepth 20000 in
theorem ggX6_saleDay_X6_found : GoodIn wsX6_saleDay wsX6_found := goodIn_r _ [7, 8, 9, 10, 11, 6, 12, 13, 14, 15, 16, 17, 18, 19, 20, 1, 21, 22, 23, 24, 25, 26, 27, 28, 29, 30, 31, 32, 33, 34, 35, 36, 37, 38, 39, 40, 41, 42, 43, 44, 45, 46, 47, 48, 49, 2, 50, 51, 52, 53, 54, 55, 56, 57, 58, 59, 60, 61, 62, 63, 64, 65, 66, 67, 68, 69, 70, 71, 72, 73, 74, 75, 76, 77, 78, 79, 80, 81, 82, 83, 84, 85, 86, 87, 88, 89, 90, 91, 92, 93, 94, 95, 96, 97] (by decide +kernel) (by decide +kernel)
set_option maxRecDepth 20000 in
theorem gX6_saleDay_X6_found : GoodIn wsX6_saleDay (wsV RX6 159 RX6 yX6_found wsX6_found) := goodIn_app (goodIn_of _ (by decide +kernel)) ggX6_saleDay_X6_found
theorem dX6_saleDay_0 : decode cX6_saleDay 0 = .ok (.aload_n 0, 1) := by decide +kernel
theorem dX6_saleDay_1 : decode cX6_saleDay 1 = .ok (.iload_n 1, 1) := by decide +kernel
theorem dX6_saleDay_2 : decode cX6_saleDay 2 = .ok (.iload_n 2, 1) := by decide +kernel
theorem dX6_saleDay_3 : decode cX6_saleDay 3 = .ok (.invokevirtual 159, 3) := by decide +kernel
theorem dX6_saleDay_6 : decode cX6_saleDay 6 = .ok (.istore_n 3, 1) := by decide +kernel
theorem dX6_saleDay_7 : decode cX6_saleDay 7 = .ok (.iload_n 3, 1) := by decide +kernel
theorem dX6_saleDay_8 : decode cX6_saleDay 8 = .ok (.ifCond .ge 7, 3) := by decide +kernel
theorem dX6_saleDay_11 : decode cX6_saleDay 11 = .ok (.iconst 0, 1) := by decide +kernel
theorem dX6_saleDay_12 : decode cX6_saleDay 12 = .ok (.goto 14, 3) := by decide +kernel
theorem dX6_saleDay_15 : decode cX6_saleDay 15 = .ok (.aload_n 0, 1) := by decide +kernel
theorem dX6_saleDay_16 : decode cX6_saleDay 16 = .ok (.getfield 45, 3) := by decide +kernel
theorem dX6_saleDay_19 : decode cX6_saleDay 19 = .ok (.aload_n 0, 1) := by decide +kernel
theorem dX6_saleDay_20 : decode cX6_saleDay 20 = .ok (.getfield 73, 3) := by decide +kernel
theorem dX6_saleDay_23 : decode cX6_saleDay 23 = .ok (.iload_n 3, 1) := by decide +kernel
theorem dX6_saleDay_24 : decode cX6_saleDay 24 = .ok (.iaload, 1) := by decide +kernel
theorem dX6_saleDay_25 : decode cX6_saleDay 25 = .ok (.iaload, 1) := by decide +kernel
theorem dX6_saleDay_26 : decode cX6_saleDay 26 = .ok (.ireturn, 1) := by decide +kernel
set_option maxRecDepth 20000 in
theorem ggX6_buyDay_X6_found : GoodIn wsX6_buyDay wsX6_found := goodIn_r _ [7, 8, 9, 10, 11, 6, 12, 13, 14, 15, 16, 17, 18, 19, 20, 2, 21, 22, 23, 24, 25, 26, 27, 28, 29, 30, 31, 32, 33, 34, 35, 36, 37, 38, 39, 40, 41, 42, 43, 44, 45, 46, 47, 48, 49, 50, 1, 51, 52, 53, 54, 55, 56, 57, 58, 59, 60, 61, 62, 63, 64, 65, 66, 67, 68, 69, 70, 71, 72, 73, 74, 75, 76, 77, 78, 79, 80, 81, 82, 83, 84, 85, 86, 87, 88, 89, 90, 91, 92, 93, 94, 95, 96, 97] (by decide +kernel) (by decide +kernel)
set_option maxRecDepth 20000 in
theorem gX6_buyDay_X6_found : GoodIn wsX6_buyDay (wsV RX6 159 RX6 yX6_found wsX6_found) := goodIn_app (goodIn_of _ (by decide +kernel)) ggX6_buyDay_X6_found
theorem dX6_buyDay_0 : decode cX6_buyDay 0 = .ok (.aload_n 0, 1) := by decide +kernel
theorem dX6_buyDay_1 : decode cX6_buyDay 1 = .ok (.iload_n 1, 1) := by decide +kernel
theorem dX6_buyDay_2 : decode cX6_buyDay 2 = .ok (.iload_n 2, 1) := by decide +kernel
theorem dX6_buyDay_3 : decode cX6_buyDay 3 = .ok (.invokevirtual 159, 3) := by decide +kernel
theorem dX6_buyDay_6 : decode cX6_buyDay 6 = .ok (.istore_n 3, 1) := by decide +kernel
theorem dX6_buyDay_7 : decode cX6_buyDay 7 = .ok (.iload_n 3, 1) := by decide +kernel
theorem dX6_buyDay_8 : decode cX6_buyDay 8 = .ok (.ifCond .ge 7, 3) := by decide +kernel
theorem dX6_buyDay_11 : decode cX6_buyDay 11 = .ok (.iconst 0, 1) := by decide +kernel
theorem dX6_buyDay_12 : decode cX6_buyDay 12 = .ok (.goto 27, 3) := by decide +kernel
theorem dX6_buyDay_15 : decode cX6_buyDay 15 = .ok (.aload_n 0, 1) := by decide +kernel
theorem dX6_buyDay_16 : decode cX6_buyDay 16 = .ok (.getfield 76, 3) := by decide +kernel
theorem dX6_buyDay_19 : decode cX6_buyDay 19 = .ok (.iload_n 3, 1) := by decide +kernel
theorem dX6_buyDay_20 : decode cX6_buyDay 20 = .ok (.iaload, 1) := by decide +kernel
theorem dX6_buyDay_21 : decode cX6_buyDay 21 = .ok (.ifCond .ge 7, 3) := by decide +kernel
theorem dX6_buyDay_24 : decode cX6_buyDay 24 = .ok (.iconst (-1), 1) := by decide +kernel
theorem dX6_buyDay_25 : decode cX6_buyDay 25 = .ok (.goto 14, 3) := by decide +kernel
theorem dX6_buyDay_28 : decode cX6_buyDay 28 = .ok (.aload_n 0, 1) := by decide +kernel
theorem dX6_buyDay_29 : decode cX6_buyDay 29 = .ok (.getfield 45, 3) := by decide +kernel
theorem dX6_buyDay_32 : decode cX6_buyDay 32 = .ok (.aload_n 0, 1) := by decide +kernel
theorem dX6_buyDay_33 : decode cX6_buyDay 33 = .ok (.getfield 76, 3) := by decide +kernel
theorem dX6_buyDay_36 : decode cX6_buyDay 36 = .ok (.iload_n 3, 1) := by decide +kernel
theorem dX6_buyDay_37 : decode cX6_buyDay 37 = .ok (.iaload, 1) := by decide +kernel
theorem dX6_buyDay_38 : decode cX6_buyDay 38 = .ok (.iaload, 1) := by decide +kernel
theorem dX6_buyDay_39 : decode cX6_buyDay 39 = .ok (.ireturn, 1) := by decide +kernel
set_option maxRecDepth 20000 in
theorem ggX6_unitsOf_X6_found : GoodIn wsX6_unitsOf wsX6_found := goodIn_r _ [6, 7, 8, 9, 10, 5, 11, 12, 13, 14, 15, 16, 17, 18, 19, 20, 21, 22, 23, 24, 25, 26, 27, 28, 29, 30, 31, 32, 33, 34, 35, 36, 37, 38, 39, 40, 41, 42, 43, 44, 45, 46, 47, 48, 49, 50, 51, 52, 1, 53, 54, 55, 56, 57, 58, 59, 60, 61, 62, 63, 64, 65, 66, 67, 68, 69, 70, 71, 72, 73, 74, 75, 76, 77, 78, 79, 80, 81, 82, 83, 84, 85, 86, 87, 88, 89, 90, 91, 92, 93, 94, 95, 96, 97] (by decide +kernel) (by decide +kernel)
set_option maxRecDepth 20000 in
theorem gX6_unitsOf_X6_found : GoodIn wsX6_unitsOf (wsV RX6 159 RX6 yX6_found wsX6_found) := goodIn_app (goodIn_of _ (by decide +kernel)) ggX6_unitsOf_X6_found
theorem dX6_unitsOf_0 : decode cX6_unitsOf 0 = .ok (.aload_n 0, 1) := by decide +kernel
theorem dX6_unitsOf_1 : decode cX6_unitsOf 1 = .ok (.iload_n 1, 1) := by decide +kernel
theorem dX6_unitsOf_2 : decode cX6_unitsOf 2 = .ok (.iload_n 2, 1) := by decide +kernel
theorem dX6_unitsOf_3 : decode cX6_unitsOf 3 = .ok (.invokevirtual 159, 3) := by decide +kernel
theorem dX6_unitsOf_6 : decode cX6_unitsOf 6 = .ok (.istore_n 3, 1) := by decide +kernel
theorem dX6_unitsOf_7 : decode cX6_unitsOf 7 = .ok (.iload_n 3, 1) := by decide +kernel
theorem dX6_unitsOf_8 : decode cX6_unitsOf 8 = .ok (.ifCond .ge 7, 3) := by decide +kernel
theorem dX6_unitsOf_11 : decode cX6_unitsOf 11 = .ok (.iconst 0, 1) := by decide +kernel
theorem dX6_unitsOf_12 : decode cX6_unitsOf 12 = .ok (.goto 10, 3) := by decide +kernel
theorem dX6_unitsOf_15 : decode cX6_unitsOf 15 = .ok (.aload_n 0, 1) := by decide +kernel
theorem dX6_unitsOf_16 : decode cX6_unitsOf 16 = .ok (.getfield 82, 3) := by decide +kernel
theorem dX6_unitsOf_19 : decode cX6_unitsOf 19 = .ok (.iload_n 3, 1) := by decide +kernel
theorem dX6_unitsOf_20 : decode cX6_unitsOf 20 = .ok (.laload, 1) := by decide +kernel
theorem dX6_unitsOf_21 : decode cX6_unitsOf 21 = .ok (.l2i, 1) := by decide +kernel
theorem dX6_unitsOf_22 : decode cX6_unitsOf 22 = .ok (.ireturn, 1) := by decide +kernel
set_option maxRecDepth 20000 in
theorem ggX6_costOf_X6_found : GoodIn wsX6_costOf wsX6_found := goodIn_r _ [6, 7, 8, 9, 10, 5, 11, 12, 13, 14, 15, 16, 17, 18, 19, 20, 21, 22, 23, 24, 25, 26, 27, 28, 29, 30, 31, 32, 33, 34, 35, 36, 37, 38, 39, 40, 41, 42, 43, 44, 45, 46, 47, 48, 49, 50, 51, 52, 53, 1, 54, 55, 56, 57, 58, 59, 60, 61, 62, 63, 64, 65, 66, 67, 68, 69, 70, 71, 72, 73, 74, 75, 76, 77, 78, 79, 80, 81, 82, 83, 84, 85, 86, 87, 88, 89, 90, 91, 92, 93, 94, 95, 96, 97] (by decide +kernel) (by decide +kernel)
set_option maxRecDepth 20000 in
theorem gX6_costOf_X6_found : GoodIn wsX6_costOf (wsV RX6 159 RX6 yX6_found wsX6_found) := goodIn_app (goodIn_of _ (by decide +kernel)) ggX6_costOf_X6_found
theorem dX6_costOf_0 : decode cX6_costOf 0 = .ok (.aload_n 0, 1) := by decide +kernel
theorem dX6_costOf_1 : decode cX6_costOf 1 = .ok (.iload_n 1, 1) := by decide +kernel
theorem dX6_costOf_2 : decode cX6_costOf 2 = .ok (.iload_n 2, 1) := by decide +kernel
theorem dX6_costOf_3 : decode cX6_costOf 3 = .ok (.invokevirtual 159, 3) := by decide +kernel
theorem dX6_costOf_6 : decode cX6_costOf 6 = .ok (.istore_n 3, 1) := by decide +kernel
theorem dX6_costOf_7 : decode cX6_costOf 7 = .ok (.iload_n 3, 1) := by decide +kernel
theorem dX6_costOf_8 : decode cX6_costOf 8 = .ok (.ifCond .ge 7, 3) := by decide +kernel
theorem dX6_costOf_11 : decode cX6_costOf 11 = .ok (.iconst 0, 1) := by decide +kernel
theorem dX6_costOf_12 : decode cX6_costOf 12 = .ok (.goto 10, 3) := by decide +kernel
theorem dX6_costOf_15 : decode cX6_costOf 15 = .ok (.aload_n 0, 1) := by decide +kernel
theorem dX6_costOf_16 : decode cX6_costOf 16 = .ok (.getfield 85, 3) := by decide +kernel
theorem dX6_costOf_19 : decode cX6_costOf 19 = .ok (.iload_n 3, 1) := by decide +kernel
theorem dX6_costOf_20 : decode cX6_costOf 20 = .ok (.laload, 1) := by decide +kernel
theorem dX6_costOf_21 : decode cX6_costOf 21 = .ok (.l2i, 1) := by decide +kernel
theorem dX6_costOf_22 : decode cX6_costOf 22 = .ok (.ireturn, 1) := by decide +kernel
set_option maxRecDepth 20000 in
theorem ggX6_proceedsOf_X6_found : GoodIn wsX6_proceedsOf wsX6_found := goodIn_r _ [6, 7, 8, 9, 10, 5, 11, 12, 13, 14, 15, 16, 17, 18, 19, 20, 21, 22, 23, 24, 25, 26, 27, 28, 29, 30, 31, 32, 33, 34, 35, 36, 37, 38, 39, 40, 41, 42, 43, 44, 45, 46, 47, 48, 49, 50, 51, 52, 53, 54, 1, 55, 56, 57, 58, 59, 60, 61, 62, 63, 64, 65, 66, 67, 68, 69, 70, 71, 72, 73, 74, 75, 76, 77, 78, 79, 80, 81, 82, 83, 84, 85, 86, 87, 88, 89, 90, 91, 92, 93, 94, 95, 96, 97] (by decide +kernel) (by decide +kernel)
set_option maxRecDepth 20000 in
theorem gX6_proceedsOf_X6_found : GoodIn wsX6_proceedsOf (wsV RX6 159 RX6 yX6_found wsX6_found) := goodIn_app (goodIn_of _ (by decide +kernel)) ggX6_proceedsOf_X6_found
theorem dX6_proceedsOf_0 : decode cX6_proceedsOf 0 = .ok (.aload_n 0, 1) := by decide +kernel
theorem dX6_proceedsOf_1 : decode cX6_proceedsOf 1 = .ok (.iload_n 1, 1) := by decide +kernel
theorem dX6_proceedsOf_2 : decode cX6_proceedsOf 2 = .ok (.iload_n 2, 1) := by decide +kernel
theorem dX6_proceedsOf_3 : decode cX6_proceedsOf 3 = .ok (.invokevirtual 159, 3) := by decide +kernel
theorem dX6_proceedsOf_6 : decode cX6_proceedsOf 6 = .ok (.istore_n 3, 1) := by decide +kernel
theorem dX6_proceedsOf_7 : decode cX6_proceedsOf 7 = .ok (.iload_n 3, 1) := by decide +kernel
theorem dX6_proceedsOf_8 : decode cX6_proceedsOf 8 = .ok (.ifCond .ge 7, 3) := by decide +kernel
theorem dX6_proceedsOf_11 : decode cX6_proceedsOf 11 = .ok (.iconst 0, 1) := by decide +kernel
theorem dX6_proceedsOf_12 : decode cX6_proceedsOf 12 = .ok (.goto 10, 3) := by decide +kernel
theorem dX6_proceedsOf_15 : decode cX6_proceedsOf 15 = .ok (.aload_n 0, 1) := by decide +kernel
theorem dX6_proceedsOf_16 : decode cX6_proceedsOf 16 = .ok (.getfield 88, 3) := by decide +kernel
theorem dX6_proceedsOf_19 : decode cX6_proceedsOf 19 = .ok (.iload_n 3, 1) := by decide +kernel
theorem dX6_proceedsOf_20 : decode cX6_proceedsOf 20 = .ok (.laload, 1) := by decide +kernel
theorem dX6_proceedsOf_21 : decode cX6_proceedsOf 21 = .ok (.l2i, 1) := by decide +kernel
theorem dX6_proceedsOf_22 : decode cX6_proceedsOf 22 = .ok (.ireturn, 1) := by decide +kernel
set_option maxRecDepth 20000 in
theorem ggX6_gained_X6_reckons : GoodIn wsX6_gained wsX6_reckons := goodIn_r _ [10, 1, 11, 2, 12, 13, 14, 15, 9, 16, 17, 18, 19, 20, 21, 22, 23, 24, 25, 26, 27, 28, 29, 30, 31, 32, 33, 34, 35, 36, 37, 38, 39, 40, 3, 41, 42, 43, 5, 4, 44, 45, 46, 47, 48, 49, 50, 51, 52, 53, 54, 55, 56, 57, 58, 59, 60, 61, 62, 63, 64, 65, 66, 67, 68, 69, 70, 71, 72, 73, 74, 75, 76, 77, 78, 79, 80, 81, 82] (by decide +kernel) (by decide +kernel)
set_option maxRecDepth 20000 in
theorem gX6_gained_X6_reckons : GoodIn wsX6_gained (wsV RX6 149 RX6 yX6_reckons wsX6_reckons) := goodIn_app (goodIn_of _ (by decide +kernel)) ggX6_gained_X6_reckons
theorem dX6_gained_0 : decode cX6_gained 0 = .ok (.aload_n 0, 1) := by decide +kernel
theorem dX6_gained_1 : decode cX6_gained 1 = .ok (.iload_n 1, 1) := by decide +kernel
theorem dX6_gained_2 : decode cX6_gained 2 = .ok (.invokevirtual 149, 3) := by decide +kernel
theorem dX6_gained_5 : decode cX6_gained 5 = .ok (.lconst 0, 1) := by decide +kernel
theorem dX6_gained_6 : decode cX6_gained 6 = .ok (.lstore_n 3, 1) := by decide +kernel
theorem dX6_gained_7 : decode cX6_gained 7 = .ok (.iconst 0, 1) := by decide +kernel
theorem dX6_gained_8 : decode cX6_gained 8 = .ok (.istore 5, 2) := by decide +kernel
theorem dX6_gained_10 : decode cX6_gained 10 = .ok (.iload 5, 2) := by decide +kernel
theorem dX6_gained_12 : decode cX6_gained 12 = .ok (.aload_n 0, 1) := by decide +kernel
theorem dX6_gained_13 : decode cX6_gained 13 = .ok (.getfield 127, 3) := by decide +kernel
theorem dX6_gained_16 : decode cX6_gained 16 = .ok (.if_icmp .ge 51, 3) := by decide +kernel
theorem dX6_gained_19 : decode cX6_gained 19 = .ok (.lload_n 3, 1) := by decide +kernel
theorem dX6_gained_20 : decode cX6_gained 20 = .ok (.aload_n 0, 1) := by decide +kernel
theorem dX6_gained_21 : decode cX6_gained 21 = .ok (.getfield 45, 3) := by decide +kernel
theorem dX6_gained_24 : decode cX6_gained 24 = .ok (.aload_n 0, 1) := by decide +kernel
theorem dX6_gained_25 : decode cX6_gained 25 = .ok (.getfield 73, 3) := by decide +kernel
theorem dX6_gained_28 : decode cX6_gained 28 = .ok (.iload 5, 2) := by decide +kernel
theorem dX6_gained_30 : decode cX6_gained 30 = .ok (.iaload, 1) := by decide +kernel
theorem dX6_gained_31 : decode cX6_gained 31 = .ok (.iaload, 1) := by decide +kernel
theorem dX6_gained_32 : decode cX6_gained 32 = .ok (.sipush 365, 3) := by decide +kernel
theorem dX6_gained_35 : decode cX6_gained 35 = .ok (.idiv, 1) := by decide +kernel
theorem dX6_gained_36 : decode cX6_gained 36 = .ok (.iload_n 2, 1) := by decide +kernel
theorem dX6_gained_37 : decode cX6_gained 37 = .ok (.if_icmp .ne 21, 3) := by decide +kernel
theorem dX6_gained_40 : decode cX6_gained 40 = .ok (.aload_n 0, 1) := by decide +kernel
theorem dX6_gained_41 : decode cX6_gained 41 = .ok (.getfield 88, 3) := by decide +kernel
theorem dX6_gained_44 : decode cX6_gained 44 = .ok (.iload 5, 2) := by decide +kernel
theorem dX6_gained_46 : decode cX6_gained 46 = .ok (.laload, 1) := by decide +kernel
theorem dX6_gained_47 : decode cX6_gained 47 = .ok (.aload_n 0, 1) := by decide +kernel
theorem dX6_gained_48 : decode cX6_gained 48 = .ok (.getfield 85, 3) := by decide +kernel
theorem dX6_gained_51 : decode cX6_gained 51 = .ok (.iload 5, 2) := by decide +kernel
theorem dX6_gained_53 : decode cX6_gained 53 = .ok (.laload, 1) := by decide +kernel
theorem dX6_gained_54 : decode cX6_gained 54 = .ok (.lsub, 1) := by decide +kernel
theorem dX6_gained_55 : decode cX6_gained 55 = .ok (.goto 4, 3) := by decide +kernel
theorem dX6_gained_58 : decode cX6_gained 58 = .ok (.lconst 0, 1) := by decide +kernel
theorem dX6_gained_59 : decode cX6_gained 59 = .ok (.ladd, 1) := by decide +kernel
theorem dX6_gained_60 : decode cX6_gained 60 = .ok (.lstore_n 3, 1) := by decide +kernel
theorem dX6_gained_61 : decode cX6_gained 61 = .ok (.iinc 5 1, 3) := by decide +kernel
theorem dX6_gained_64 : decode cX6_gained 64 = .ok (.goto (-54), 3) := by decide +kernel
theorem dX6_gained_67 : decode cX6_gained 67 = .ok (.lload_n 3, 1) := by decide +kernel
theorem dX6_gained_68 : decode cX6_gained 68 = .ok (.l2i, 1) := by decide +kernel
theorem dX6_gained_69 : decode cX6_gained 69 = .ok (.ireturn, 1) := by decide +kernel
set_option maxRecDepth 20000 in
theorem ggX6_gain_X6_isShare : GoodIn wsX6_gain wsX6_isShare := goodIn_r _ [5, 6, 7, 4, 8] (by decide +kernel) (by decide +kernel)
set_option maxRecDepth 20000 in
theorem gX6_gain_X6_isShare : GoodIn wsX6_gain (va_wsS RX6 109 yX6_isShare wsX6_isShare) := goodIn_app (goodIn_of _ (by decide +kernel)) ggX6_gain_X6_isShare
set_option maxRecDepth 20000 in
theorem ggX6_gain_X6_isIn : GoodIn wsX6_gain wsX6_isIn := goodIn_r _ [8] (by decide +kernel) (by decide +kernel)
set_option maxRecDepth 20000 in
theorem gX6_gain_X6_isIn : GoodIn wsX6_gain (va_wsS RX6 94 yX6_isIn wsX6_isIn) := goodIn_app (goodIn_of _ (by decide +kernel)) ggX6_gain_X6_isIn
set_option maxRecDepth 20000 in
theorem ggX6_gain_X6_gained : GoodIn wsX6_gain wsX6_gained := goodIn_r _ [12, 13, 14, 15, 16, 17, 18, 19, 20, 4, 21, 22, 23, 24, 25, 26, 27, 28, 29, 30, 31, 32, 33, 34, 35, 36, 37, 38, 39, 40, 41, 42, 43, 44, 45, 46, 47, 48, 49, 50, 51, 52, 53, 54, 55, 56, 57, 58, 59, 60, 61, 62, 63, 64, 65, 66, 67, 68, 69, 70, 71, 72, 73, 74, 75, 76, 77, 78, 79, 80, 81, 82, 83, 84, 85, 86, 87, 88, 89, 90, 91, 92, 93] (by decide +kernel) (by decide +kernel)
set_option maxRecDepth 20000 in
theorem gX6_gain_X6_gained : GoodIn wsX6_gain (wsV RX6 162 RX6 yX6_gained wsX6_gained) := goodIn_app (goodIn_of _ (by decide +kernel)) ggX6_gain_X6_gained
theorem dX6_gain_0 : decode cX6_gain 0 = .ok (.aload_n 0, 1) := by decide +kernel
theorem dX6_gain_1 : decode cX6_gain 1 = .ok (.iload_n 1, 1) := by decide +kernel
theorem dX6_gain_2 : decode cX6_gain 2 = .ok (.invokestatic 109, 3) := by decide +kernel
theorem dX6_gain_5 : decode cX6_gain 5 = .ok (.ifCond .eq 16, 3) := by decide +kernel
theorem dX6_gain_8 : decode cX6_gain 8 = .ok (.iload_n 2, 1) := by decide +kernel
theorem dX6_gain_9 : decode cX6_gain 9 = .ok (.iconst 0, 1) := by decide +kernel
theorem dX6_gain_10 : decode cX6_gain 10 = .ok (.iconst 4, 1) := by decide +kernel
theorem dX6_gain_11 : decode cX6_gain 11 = .ok (.invokestatic 94, 3) := by decide +kernel
theorem dX6_gain_14 : decode cX6_gain 14 = .ok (.ifCond .eq 7, 3) := by decide +kernel
theorem dX6_gain_17 : decode cX6_gain 17 = .ok (.iconst 0, 1) := by decide +kernel
theorem dX6_gain_18 : decode cX6_gain 18 = .ok (.goto 4, 3) := by decide +kernel
theorem dX6_gain_21 : decode cX6_gain 21 = .ok (.iconst 1, 1) := by decide +kernel
theorem dX6_gain_22 : decode cX6_gain 22 = .ok (.putfield 91, 3) := by decide +kernel
theorem dX6_gain_25 : decode cX6_gain 25 = .ok (.aload_n 0, 1) := by decide +kernel
theorem dX6_gain_26 : decode cX6_gain 26 = .ok (.getfield 91, 3) := by decide +kernel
theorem dX6_gain_29 : decode cX6_gain 29 = .ok (.ifCond .le 7, 3) := by decide +kernel
theorem dX6_gain_32 : decode cX6_gain 32 = .ok (.iconst 0, 1) := by decide +kernel
theorem dX6_gain_33 : decode cX6_gain 33 = .ok (.goto 9, 3) := by decide +kernel
theorem dX6_gain_36 : decode cX6_gain 36 = .ok (.aload_n 0, 1) := by decide +kernel
theorem dX6_gain_37 : decode cX6_gain 37 = .ok (.iload_n 1, 1) := by decide +kernel
theorem dX6_gain_38 : decode cX6_gain 38 = .ok (.iload_n 2, 1) := by decide +kernel
theorem dX6_gain_39 : decode cX6_gain 39 = .ok (.invokevirtual 162, 3) := by decide +kernel
theorem dX6_gain_42 : decode cX6_gain 42 = .ok (.ireturn, 1) := by decide +kernel
set_option maxRecDepth 20000 in
theorem ggX6_netOf_X6_gained : GoodIn wsX6_netOf wsX6_gained := goodIn_r _ [5, 6, 7, 8, 9, 10, 11, 12, 13, 4, 14, 15, 16, 17, 18, 19, 20, 21, 22, 23, 24, 25, 26, 27, 28, 29, 30, 31, 32, 33, 34, 35, 36, 37, 38, 39, 40, 41, 42, 43, 44, 45, 46, 47, 48, 49, 50, 51, 52, 53, 54, 55, 56, 57, 58, 59, 60, 61, 62, 63, 64, 65, 66, 67, 68, 69, 70, 71, 72, 73, 74, 75, 76, 77, 78, 79, 80, 81, 82, 83, 84, 85, 86] (by decide +kernel) (by decide +kernel)
set_option maxRecDepth 20000 in
theorem gX6_netOf_X6_gained : GoodIn wsX6_netOf (wsV RX6 162 RX6 yX6_gained wsX6_gained) := goodIn_app (goodIn_of _ (by decide +kernel)) ggX6_netOf_X6_gained
theorem dX6_netOf_0 : decode cX6_netOf 0 = .ok (.aload_n 0, 1) := by decide +kernel
theorem dX6_netOf_1 : decode cX6_netOf 1 = .ok (.iconst 0, 1) := by decide +kernel
theorem dX6_netOf_2 : decode cX6_netOf 2 = .ok (.iload_n 1, 1) := by decide +kernel
theorem dX6_netOf_3 : decode cX6_netOf 3 = .ok (.invokevirtual 162, 3) := by decide +kernel
theorem dX6_netOf_6 : decode cX6_netOf 6 = .ok (.aload_n 0, 1) := by decide +kernel
theorem dX6_netOf_7 : decode cX6_netOf 7 = .ok (.iconst 1, 1) := by decide +kernel
theorem dX6_netOf_8 : decode cX6_netOf 8 = .ok (.iload_n 1, 1) := by decide +kernel
theorem dX6_netOf_9 : decode cX6_netOf 9 = .ok (.invokevirtual 162, 3) := by decide +kernel
theorem dX6_netOf_12 : decode cX6_netOf 12 = .ok (.iadd, 1) := by decide +kernel
theorem dX6_netOf_13 : decode cX6_netOf 13 = .ok (.aload_n 0, 1) := by decide +kernel
theorem dX6_netOf_14 : decode cX6_netOf 14 = .ok (.iconst 2, 1) := by decide +kernel
theorem dX6_netOf_15 : decode cX6_netOf 15 = .ok (.iload_n 1, 1) := by decide +kernel
theorem dX6_netOf_16 : decode cX6_netOf 16 = .ok (.invokevirtual 162, 3) := by decide +kernel
theorem dX6_netOf_19 : decode cX6_netOf 19 = .ok (.iadd, 1) := by decide +kernel
theorem dX6_netOf_20 : decode cX6_netOf 20 = .ok (.ireturn, 1) := by decide +kernel
set_option maxRecDepth 20000 in
theorem ggX6_isYear_X6_isIn : GoodIn wsX6_isYear wsX6_isIn := goodIn_r _ [5] (by decide +kernel) (by decide +kernel)
set_option maxRecDepth 20000 in
theorem gX6_isYear_X6_isIn : GoodIn wsX6_isYear (va_wsS RX6 94 yX6_isIn wsX6_isIn) := goodIn_app (goodIn_of _ (by decide +kernel)) ggX6_isYear_X6_isIn
theorem dX6_isYear_0 : decode cX6_isYear 0 = .ok (.aload_n 0, 1) := by decide +kernel
theorem dX6_isYear_1 : decode cX6_isYear 1 = .ok (.iload_n 1, 1) := by decide +kernel
theorem dX6_isYear_2 : decode cX6_isYear 2 = .ok (.iconst 0, 1) := by decide +kernel
theorem dX6_isYear_3 : decode cX6_isYear 3 = .ok (.iconst 4, 1) := by decide +kernel
theorem dX6_isYear_4 : decode cX6_isYear 4 = .ok (.invokestatic 94, 3) := by decide +kernel
theorem dX6_isYear_7 : decode cX6_isYear 7 = .ok (.ifCond .eq 7, 3) := by decide +kernel
theorem dX6_isYear_10 : decode cX6_isYear 10 = .ok (.iconst 0, 1) := by decide +kernel
theorem dX6_isYear_11 : decode cX6_isYear 11 = .ok (.goto 4, 3) := by decide +kernel
theorem dX6_isYear_14 : decode cX6_isYear 14 = .ok (.iconst 1, 1) := by decide +kernel
theorem dX6_isYear_15 : decode cX6_isYear 15 = .ok (.putfield 91, 3) := by decide +kernel
theorem dX6_isYear_18 : decode cX6_isYear 18 = .ok (.aload_n 0, 1) := by decide +kernel
theorem dX6_isYear_19 : decode cX6_isYear 19 = .ok (.getfield 91, 3) := by decide +kernel
theorem dX6_isYear_22 : decode cX6_isYear 22 = .ok (.ifCond .ne 7, 3) := by decide +kernel
theorem dX6_isYear_25 : decode cX6_isYear 25 = .ok (.iconst 1, 1) := by decide +kernel
theorem dX6_isYear_26 : decode cX6_isYear 26 = .ok (.goto 4, 3) := by decide +kernel
theorem dX6_isYear_29 : decode cX6_isYear 29 = .ok (.iconst 0, 1) := by decide +kernel
theorem dX6_isYear_30 : decode cX6_isYear 30 = .ok (.ireturn, 1) := by decide +kernel
set_option maxRecDepth 20000 in
theorem ggX6_net_X6_isYear : GoodIn wsX6_net wsX6_isYear := goodIn_r _ [5, 6, 7, 8, 4, 9, 69, 70, 71, 72, 73, 74, 75, 76, 77, 78, 79, 80, 81, 82, 83, 84, 85, 86, 87, 88, 89, 90, 91, 92, 93, 94, 95, 96, 97, 98] (by decide +kernel) (by decide +kernel)
set_option maxRecDepth 20000 in
theorem gX6_net_X6_isYear : GoodIn wsX6_net (wsV RX6 165 RX6 yX6_isYear wsX6_isYear) := goodIn_app (goodIn_of _ (by decide +kernel)) ggX6_net_X6_isYear
set_option maxRecDepth 20000 in
theorem ggX6_net_X6_netOf : GoodIn wsX6_net wsX6_netOf := goodIn_r _ [13, 14, 15, 16, 4, 17, 18, 19, 20, 21, 22, 23, 24, 25, 26, 27, 28, 29, 30, 31, 32, 33, 34, 35, 36, 37, 38, 39, 40, 41, 42, 43, 44, 45, 46, 47, 48, 49, 50, 51, 52, 53, 54, 55, 56, 57, 58, 59, 60, 61, 62, 63, 64, 65, 66, 67, 68, 69, 70, 71, 72, 73, 74, 75, 76, 77, 78, 79, 80, 81, 82, 83, 84, 85, 86, 87, 88, 89, 90, 91, 92, 93, 94, 95, 96, 97, 98] (by decide +kernel) (by decide +kernel)
set_option maxRecDepth 20000 in
theorem gX6_net_X6_netOf : GoodIn wsX6_net (wsV RX6 168 RX6 yX6_netOf wsX6_netOf) := goodIn_app (goodIn_of _ (by decide +kernel)) ggX6_net_X6_netOf
theorem dX6_net_0 : decode cX6_net 0 = .ok (.aload_n 0, 1) := by decide +kernel
theorem dX6_net_1 : decode cX6_net 1 = .ok (.iload_n 1, 1) := by decide +kernel
theorem dX6_net_2 : decode cX6_net 2 = .ok (.invokevirtual 165, 3) := by decide +kernel
theorem dX6_net_5 : decode cX6_net 5 = .ok (.ifCond .eq 11, 3) := by decide +kernel
theorem dX6_net_8 : decode cX6_net 8 = .ok (.aload_n 0, 1) := by decide +kernel
theorem dX6_net_9 : decode cX6_net 9 = .ok (.iload_n 1, 1) := by decide +kernel
theorem dX6_net_10 : decode cX6_net 10 = .ok (.invokevirtual 168, 3) := by decide +kernel
theorem dX6_net_13 : decode cX6_net 13 = .ok (.goto 4, 3) := by decide +kernel
theorem dX6_net_16 : decode cX6_net 16 = .ok (.iconst 0, 1) := by decide +kernel
theorem dX6_net_17 : decode cX6_net 17 = .ok (.ireturn, 1) := by decide +kernel
set_option maxRecDepth 20000 in
theorem ggX6_above_X6_netOf : GoodIn wsX6_above wsX6_netOf := goodIn_r _ [6, 7, 8, 9, 5, 10, 11, 12, 13, 14, 15, 16, 17, 18, 19, 20, 21, 22, 23, 24, 25, 26, 27, 28, 29, 30, 31, 32, 33, 34, 35, 36, 37, 38, 39, 40, 41, 42, 43, 44, 45, 46, 47, 48, 49, 50, 51, 52, 53, 54, 55, 56, 57, 58, 59, 60, 61, 62, 63, 64, 65, 66, 67, 68, 69, 70, 71, 72, 73, 74, 75, 76, 77, 78, 79, 80, 81, 82, 83, 84, 85, 86, 87, 88, 89, 90, 91] (by decide +kernel) (by decide +kernel)
set_option maxRecDepth 20000 in
theorem gX6_above_X6_netOf : GoodIn wsX6_above (wsV RX6 168 RX6 yX6_netOf wsX6_netOf) := goodIn_app (goodIn_of _ (by decide +kernel)) ggX6_above_X6_netOf
theorem dX6_above_0 : decode cX6_above 0 = .ok (.aload_n 0, 1) := by decide +kernel
theorem dX6_above_1 : decode cX6_above 1 = .ok (.iload_n 1, 1) := by decide +kernel
theorem dX6_above_2 : decode cX6_above 2 = .ok (.invokevirtual 168, 3) := by decide +kernel
theorem dX6_above_5 : decode cX6_above 5 = .ok (.aload_n 0, 1) := by decide +kernel
theorem dX6_above_6 : decode cX6_above 6 = .ok (.getfield 38, 3) := by decide +kernel
theorem dX6_above_9 : decode cX6_above 9 = .ok (.iload_n 1, 1) := by decide +kernel
theorem dX6_above_10 : decode cX6_above 10 = .ok (.iaload, 1) := by decide +kernel
theorem dX6_above_11 : decode cX6_above 11 = .ok (.isub, 1) := by decide +kernel
theorem dX6_above_12 : decode cX6_above 12 = .ok (.istore_n 2, 1) := by decide +kernel
theorem dX6_above_13 : decode cX6_above 13 = .ok (.iload_n 2, 1) := by decide +kernel
theorem dX6_above_14 : decode cX6_above 14 = .ok (.ifCond .le 7, 3) := by decide +kernel
theorem dX6_above_17 : decode cX6_above 17 = .ok (.iload_n 2, 1) := by decide +kernel
theorem dX6_above_18 : decode cX6_above 18 = .ok (.goto 4, 3) := by decide +kernel
theorem dX6_above_21 : decode cX6_above 21 = .ok (.iconst 0, 1) := by decide +kernel
theorem dX6_above_22 : decode cX6_above 22 = .ok (.ireturn, 1) := by decide +kernel
set_option maxRecDepth 20000 in
theorem ggX6_into_X6_netOf : GoodIn wsX6_into wsX6_netOf := goodIn_r _ [5, 6, 7, 8, 4, 9, 10, 11, 12, 13, 14, 15, 16, 17, 18, 19, 20, 21, 22, 23, 24, 25, 26, 27, 28, 29, 30, 31, 32, 33, 34, 35, 36, 37, 38, 39, 40, 41, 42, 43, 44, 45, 46, 47, 48, 49, 50, 51, 52, 53, 54, 55, 56, 57, 58, 59, 60, 66, 67, 68, 69, 70, 71, 72, 73, 74, 75, 76, 77, 78, 79, 80, 81, 82, 83, 84, 85, 86, 87, 88, 89, 90, 91, 92, 93, 94, 95] (by decide +kernel) (by decide +kernel)
set_option maxRecDepth 20000 in
theorem gX6_into_X6_netOf : GoodIn wsX6_into (wsV RX6 168 RX6 yX6_netOf wsX6_netOf) := goodIn_app (goodIn_of _ (by decide +kernel)) ggX6_into_X6_netOf
set_option maxRecDepth 20000 in
theorem ggX6_into_X6_above : GoodIn wsX6_into wsX6_above := goodIn_r _ [64, 65, 1, 2, 3, 4, 5, 6, 7, 8, 9, 10, 11, 12, 13, 14, 15, 16, 17, 18, 19, 20, 21, 22, 23, 24, 25, 26, 27, 28, 29, 30, 31, 32, 33, 34, 35, 36, 37, 38, 39, 40, 41, 42, 43, 44, 45, 46, 47, 48, 49, 50, 51, 52, 53, 54, 55, 56, 57, 58, 59, 60, 66, 67, 68, 69, 70, 71, 72, 73, 74, 75, 76, 77, 78, 79, 80, 81, 82, 83, 84, 85, 86, 87, 88, 89, 90, 91, 92, 93, 94, 95] (by decide +kernel) (by decide +kernel)
set_option maxRecDepth 20000 in
theorem gX6_into_X6_above : GoodIn wsX6_into (wsV RX6 171 RX6 yX6_above wsX6_above) := goodIn_app (goodIn_of _ (by decide +kernel)) ggX6_into_X6_above
theorem dX6_into_0 : decode cX6_into 0 = .ok (.iconst 0, 1) := by decide +kernel
theorem dX6_into_1 : decode cX6_into 1 = .ok (.istore_n 2, 1) := by decide +kernel
theorem dX6_into_2 : decode cX6_into 2 = .ok (.iconst 0, 1) := by decide +kernel
theorem dX6_into_3 : decode cX6_into 3 = .ok (.istore_n 3, 1) := by decide +kernel
theorem dX6_into_4 : decode cX6_into 4 = .ok (.iload_n 3, 1) := by decide +kernel
theorem dX6_into_5 : decode cX6_into 5 = .ok (.iload_n 1, 1) := by decide +kernel
theorem dX6_into_6 : decode cX6_into 6 = .ok (.if_icmp .ge 53, 3) := by decide +kernel
theorem dX6_into_9 : decode cX6_into 9 = .ok (.aload_n 0, 1) := by decide +kernel
theorem dX6_into_10 : decode cX6_into 10 = .ok (.iload_n 3, 1) := by decide +kernel
theorem dX6_into_11 : decode cX6_into 11 = .ok (.invokevirtual 168, 3) := by decide +kernel
theorem dX6_into_14 : decode cX6_into 14 = .ok (.istore 4, 2) := by decide +kernel
theorem dX6_into_16 : decode cX6_into 16 = .ok (.aload_n 0, 1) := by decide +kernel
theorem dX6_into_17 : decode cX6_into 17 = .ok (.iload_n 3, 1) := by decide +kernel
theorem dX6_into_18 : decode cX6_into 18 = .ok (.invokevirtual 171, 3) := by decide +kernel
theorem dX6_into_21 : decode cX6_into 21 = .ok (.iload_n 2, 1) := by decide +kernel
theorem dX6_into_22 : decode cX6_into 22 = .ok (.if_icmp .ge 11, 3) := by decide +kernel
theorem dX6_into_25 : decode cX6_into 25 = .ok (.aload_n 0, 1) := by decide +kernel
theorem dX6_into_26 : decode cX6_into 26 = .ok (.iload_n 3, 1) := by decide +kernel
theorem dX6_into_27 : decode cX6_into 27 = .ok (.invokevirtual 171, 3) := by decide +kernel
theorem dX6_into_30 : decode cX6_into 30 = .ok (.goto 4, 3) := by decide +kernel
theorem dX6_into_33 : decode cX6_into 33 = .ok (.iload_n 2, 1) := by decide +kernel
theorem dX6_into_34 : decode cX6_into 34 = .ok (.istore 5, 2) := by decide +kernel
theorem dX6_into_36 : decode cX6_into 36 = .ok (.iload 4, 2) := by decide +kernel
theorem dX6_into_38 : decode cX6_into 38 = .ok (.ifCond .ge 10, 3) := by decide +kernel
theorem dX6_into_41 : decode cX6_into 41 = .ok (.iload_n 2, 1) := by decide +kernel
theorem dX6_into_42 : decode cX6_into 42 = .ok (.iload 4, 2) := by decide +kernel
theorem dX6_into_44 : decode cX6_into 44 = .ok (.isub, 1) := by decide +kernel
theorem dX6_into_45 : decode cX6_into 45 = .ok (.goto 7, 3) := by decide +kernel
theorem dX6_into_48 : decode cX6_into 48 = .ok (.iload_n 2, 1) := by decide +kernel
theorem dX6_into_49 : decode cX6_into 49 = .ok (.iload 5, 2) := by decide +kernel
theorem dX6_into_51 : decode cX6_into 51 = .ok (.isub, 1) := by decide +kernel
theorem dX6_into_52 : decode cX6_into 52 = .ok (.istore_n 2, 1) := by decide +kernel
theorem dX6_into_53 : decode cX6_into 53 = .ok (.iinc 3 1, 3) := by decide +kernel
theorem dX6_into_56 : decode cX6_into 56 = .ok (.goto (-52), 3) := by decide +kernel
theorem dX6_into_59 : decode cX6_into 59 = .ok (.iload_n 2, 1) := by decide +kernel
theorem dX6_into_60 : decode cX6_into 60 = .ok (.ireturn, 1) := by decide +kernel
set_option maxRecDepth 20000 in
theorem ggX6_carried_X6_isYear : GoodIn wsX6_carried wsX6_isYear := goodIn_r _ [5, 6, 7, 8, 4, 9, 78, 79, 80, 81, 82, 83, 84, 85, 86, 87, 88, 89, 90, 91, 92, 93, 94, 95, 96, 97, 98, 99, 100, 101, 102, 103, 104, 105, 106, 107] (by decide +kernel) (by decide +kernel)
set_option maxRecDepth 20000 in
theorem gX6_carried_X6_isYear : GoodIn wsX6_carried (wsV RX6 165 RX6 yX6_isYear wsX6_isYear) := goodIn_app (goodIn_of _ (by decide +kernel)) ggX6_carried_X6_isYear
set_option maxRecDepth 20000 in
theorem ggX6_carried_X6_into : GoodIn wsX6_carried wsX6_into := goodIn_r _ [13, 14, 15, 16, 4, 17, 18, 19, 20, 21, 22, 23, 24, 25, 26, 27, 28, 29, 30, 31, 32, 33, 34, 35, 36, 37, 38, 39, 40, 41, 42, 43, 44, 45, 46, 47, 48, 49, 50, 51, 52, 53, 54, 55, 56, 57, 58, 59, 60, 61, 62, 63, 64, 65, 66, 67, 68, 69, 70, 71, 72, 73, 74, 75, 76, 77, 78, 79, 80, 81, 82, 83, 84, 85, 86, 87, 88, 89, 90, 91, 92, 93, 94, 95, 96, 97, 98, 99, 100, 101, 102, 103, 104, 105, 106, 107] (by decide +kernel) (by decide +kernel)
set_option maxRecDepth 20000 in
theorem gX6_carried_X6_into : GoodIn wsX6_carried (wsV RX6 174 RX6 yX6_into wsX6_into) := goodIn_app (goodIn_of _ (by decide +kernel)) ggX6_carried_X6_into
theorem dX6_carried_0 : decode cX6_carried 0 = .ok (.aload_n 0, 1) := by decide +kernel
theorem dX6_carried_1 : decode cX6_carried 1 = .ok (.iload_n 1, 1) := by decide +kernel
theorem dX6_carried_2 : decode cX6_carried 2 = .ok (.invokevirtual 165, 3) := by decide +kernel
theorem dX6_carried_5 : decode cX6_carried 5 = .ok (.ifCond .eq 13, 3) := by decide +kernel
theorem dX6_carried_8 : decode cX6_carried 8 = .ok (.aload_n 0, 1) := by decide +kernel
theorem dX6_carried_9 : decode cX6_carried 9 = .ok (.iload_n 1, 1) := by decide +kernel
theorem dX6_carried_10 : decode cX6_carried 10 = .ok (.iconst 1, 1) := by decide +kernel
theorem dX6_carried_11 : decode cX6_carried 11 = .ok (.iadd, 1) := by decide +kernel
theorem dX6_carried_12 : decode cX6_carried 12 = .ok (.invokevirtual 174, 3) := by decide +kernel
theorem dX6_carried_15 : decode cX6_carried 15 = .ok (.goto 4, 3) := by decide +kernel
theorem dX6_carried_18 : decode cX6_carried 18 = .ok (.iconst 0, 1) := by decide +kernel
theorem dX6_carried_19 : decode cX6_carried 19 = .ok (.ireturn, 1) := by decide +kernel
set_option maxRecDepth 20000 in
theorem ggX6_taxable_X6_isYear : GoodIn wsX6_taxable wsX6_isYear := goodIn_r _ [5, 6, 7, 8, 4, 9, 78, 79, 80, 81, 82, 83, 84, 85, 86, 87, 88, 89, 90, 91, 92, 93, 94, 95, 96, 97, 98, 99, 100, 101, 102, 103, 104, 105, 106, 107] (by decide +kernel) (by decide +kernel)
set_option maxRecDepth 20000 in
theorem gX6_taxable_X6_isYear : GoodIn wsX6_taxable (wsV RX6 165 RX6 yX6_isYear wsX6_isYear) := goodIn_app (goodIn_of _ (by decide +kernel)) ggX6_taxable_X6_isYear
set_option maxRecDepth 20000 in
theorem ggX6_taxable_X6_above : GoodIn wsX6_taxable wsX6_above := goodIn_r _ [13, 14, 15, 16, 17, 4, 18, 19, 20, 21, 22, 23, 24, 25, 26, 27, 28, 29, 30, 31, 32, 33, 34, 35, 36, 37, 38, 39, 40, 41, 42, 43, 44, 45, 46, 47, 48, 49, 50, 51, 52, 53, 54, 55, 56, 57, 58, 59, 60, 61, 62, 63, 64, 65, 66, 67, 68, 69, 70, 71, 72, 73, 78, 79, 80, 81, 82, 83, 84, 85, 86, 87, 88, 89, 90, 91, 92, 93, 94, 95, 96, 97, 98, 99, 100, 101, 102, 103, 104, 105, 106, 107] (by decide +kernel) (by decide +kernel)
set_option maxRecDepth 20000 in
theorem gX6_taxable_X6_above : GoodIn wsX6_taxable (wsV RX6 171 RX6 yX6_above wsX6_above) := goodIn_app (goodIn_of _ (by decide +kernel)) ggX6_taxable_X6_above
set_option maxRecDepth 20000 in
theorem ggX6_taxable_X6_into : GoodIn wsX6_taxable wsX6_into := goodIn_r _ [77, 15, 16, 17, 4, 18, 19, 20, 21, 22, 23, 24, 25, 26, 27, 28, 29, 30, 31, 32, 33, 34, 35, 36, 37, 38, 39, 40, 41, 42, 43, 44, 45, 46, 47, 48, 49, 50, 51, 52, 53, 54, 55, 56, 57, 58, 59, 60, 61, 62, 63, 64, 65, 66, 67, 68, 69, 70, 71, 72, 73, 10, 11, 12, 13, 14, 78, 79, 80, 81, 82, 83, 84, 85, 86, 87, 88, 89, 90, 91, 92, 93, 94, 95, 96, 97, 98, 99, 100, 101, 102, 103, 104, 105, 106, 107] (by decide +kernel) (by decide +kernel)
set_option maxRecDepth 20000 in
theorem gX6_taxable_X6_into : GoodIn wsX6_taxable (wsV RX6 174 RX6 yX6_into wsX6_into) := goodIn_app (goodIn_of _ (by decide +kernel)) ggX6_taxable_X6_into
theorem dX6_taxable_0 : decode cX6_taxable 0 = .ok (.aload_n 0, 1) := by decide +kernel
theorem dX6_taxable_1 : decode cX6_taxable 1 = .ok (.iload_n 1, 1) := by decide +kernel
theorem dX6_taxable_2 : decode cX6_taxable 2 = .ok (.invokevirtual 165, 3) := by decide +kernel
theorem dX6_taxable_5 : decode cX6_taxable 5 = .ok (.ifCond .ne 5, 3) := by decide +kernel
theorem dX6_taxable_8 : decode cX6_taxable 8 = .ok (.iconst 0, 1) := by decide +kernel
theorem dX6_taxable_9 : decode cX6_taxable 9 = .ok (.ireturn, 1) := by decide +kernel
theorem dX6_taxable_10 : decode cX6_taxable 10 = .ok (.aload_n 0, 1) := by decide +kernel
theorem dX6_taxable_11 : decode cX6_taxable 11 = .ok (.iload_n 1, 1) := by decide +kernel
theorem dX6_taxable_12 : decode cX6_taxable 12 = .ok (.invokevirtual 171, 3) := by decide +kernel
theorem dX6_taxable_15 : decode cX6_taxable 15 = .ok (.aload_n 0, 1) := by decide +kernel
theorem dX6_taxable_16 : decode cX6_taxable 16 = .ok (.iload_n 1, 1) := by decide +kernel
theorem dX6_taxable_17 : decode cX6_taxable 17 = .ok (.invokevirtual 174, 3) := by decide +kernel
theorem dX6_taxable_20 : decode cX6_taxable 20 = .ok (.isub, 1) := by decide +kernel
theorem dX6_taxable_21 : decode cX6_taxable 21 = .ok (.istore_n 2, 1) := by decide +kernel
theorem dX6_taxable_22 : decode cX6_taxable 22 = .ok (.iload_n 2, 1) := by decide +kernel
theorem dX6_taxable_23 : decode cX6_taxable 23 = .ok (.ifCond .le 7, 3) := by decide +kernel
theorem dX6_taxable_26 : decode cX6_taxable 26 = .ok (.iload_n 2, 1) := by decide +kernel
theorem dX6_taxable_27 : decode cX6_taxable 27 = .ok (.goto 4, 3) := by decide +kernel
theorem dX6_taxable_30 : decode cX6_taxable 30 = .ok (.iconst 0, 1) := by decide +kernel
theorem dX6_taxable_31 : decode cX6_taxable 31 = .ok (.ireturn, 1) := by decide +kernel

theorem dX6_nearnessOf_85 : decode cX6_nearnessOf 85 = .ok (.iload 4, 2) := by decide +kernel
theorem dX6_nearnessOf_87 : decode cX6_nearnessOf 87 = .ok (.iadd, 1) := by decide +kernel
theorem dX6_nearnessOf_88 : decode cX6_nearnessOf 88 = .ok (.iconst 1, 1) := by decide +kernel
theorem dX6_nearnessOf_89 : decode cX6_nearnessOf 89 = .ok (.isub, 1) := by decide +kernel
theorem dX6_nearnessOf_90 : decode cX6_nearnessOf 90 = .ok (.baload, 1) := by decide +kernel
theorem dX6_nearnessOf_91 : decode cX6_nearnessOf 91 = .ok (.if_icmp .ne 7, 3) := by decide +kernel
theorem dX6_nearnessOf_94 : decode cX6_nearnessOf 94 = .ok (.iconst 0, 1) := by decide +kernel
theorem dX6_nearnessOf_95 : decode cX6_nearnessOf 95 = .ok (.goto 4, 3) := by decide +kernel
theorem dX6_nearnessOf_98 : decode cX6_nearnessOf 98 = .ok (.iconst 1, 1) := by decide +kernel
theorem dX6_nearnessOf_99 : decode cX6_nearnessOf 99 = .ok (.iadd, 1) := by decide +kernel
theorem dX6_nearnessOf_100 : decode cX6_nearnessOf 100 = .ok (.istore 7, 2) := by decide +kernel
theorem dX6_nearnessOf_102 : decode cX6_nearnessOf 102 = .ok (.aload_n 0, 1) := by decide +kernel
theorem dX6_nearnessOf_103 : decode cX6_nearnessOf 103 = .ok (.getfield 43, 3) := by decide +kernel
theorem dX6_nearnessOf_106 : decode cX6_nearnessOf 106 = .ok (.iload 6, 2) := by decide +kernel
theorem dX6_nearnessOf_108 : decode cX6_nearnessOf 108 = .ok (.iaload, 1) := by decide +kernel
theorem dX6_nearnessOf_109 : decode cX6_nearnessOf 109 = .ok (.istore 5, 2) := by decide +kernel
theorem dX6_nearnessOf_111 : decode cX6_nearnessOf 111 = .ok (.aload_n 0, 1) := by decide +kernel
theorem dX6_nearnessOf_112 : decode cX6_nearnessOf 112 = .ok (.getfield 43, 3) := by decide +kernel
theorem dX6_nearnessOf_115 : decode cX6_nearnessOf 115 = .ok (.iload 6, 2) := by decide +kernel
theorem dX6_nearnessOf_117 : decode cX6_nearnessOf 117 = .ok (.iaload, 1) := by decide +kernel
theorem dX6_nearnessOf_118 : decode cX6_nearnessOf 118 = .ok (.aload_n 0, 1) := by decide +kernel
theorem dX6_nearnessOf_119 : decode cX6_nearnessOf 119 = .ok (.getfield 43, 3) := by decide +kernel
theorem dX6_nearnessOf_122 : decode cX6_nearnessOf 122 = .ok (.iload 6, 2) := by decide +kernel
theorem dX6_nearnessOf_124 : decode cX6_nearnessOf 124 = .ok (.iconst 1, 1) := by decide +kernel
theorem dX6_nearnessOf_125 : decode cX6_nearnessOf 125 = .ok (.isub, 1) := by decide +kernel
theorem dX6_nearnessOf_126 : decode cX6_nearnessOf 126 = .ok (.iaload, 1) := by decide +kernel
theorem dX6_nearnessOf_127 : decode cX6_nearnessOf 127 = .ok (.if_icmp .ge 13, 3) := by decide +kernel
theorem dX6_nearnessOf_130 : decode cX6_nearnessOf 130 = .ok (.aload_n 0, 1) := by decide +kernel
theorem dX6_nearnessOf_131 : decode cX6_nearnessOf 131 = .ok (.getfield 43, 3) := by decide +kernel
theorem dX6_nearnessOf_134 : decode cX6_nearnessOf 134 = .ok (.iload 6, 2) := by decide +kernel
theorem dX6_nearnessOf_136 : decode cX6_nearnessOf 136 = .ok (.iaload, 1) := by decide +kernel
theorem dX6_nearnessOf_137 : decode cX6_nearnessOf 137 = .ok (.goto 12, 3) := by decide +kernel
theorem dX6_nearnessOf_140 : decode cX6_nearnessOf 140 = .ok (.aload_n 0, 1) := by decide +kernel
theorem dX6_nearnessOf_141 : decode cX6_nearnessOf 141 = .ok (.getfield 43, 3) := by decide +kernel
theorem dX6_nearnessOf_144 : decode cX6_nearnessOf 144 = .ok (.iload 6, 2) := by decide +kernel
theorem dX6_nearnessOf_146 : decode cX6_nearnessOf 146 = .ok (.iconst 1, 1) := by decide +kernel
theorem dX6_nearnessOf_147 : decode cX6_nearnessOf 147 = .ok (.isub, 1) := by decide +kernel
theorem dX6_nearnessOf_148 : decode cX6_nearnessOf 148 = .ok (.iaload, 1) := by decide +kernel
theorem dX6_nearnessOf_149 : decode cX6_nearnessOf 149 = .ok (.iconst 1, 1) := by decide +kernel
theorem dX6_nearnessOf_150 : decode cX6_nearnessOf 150 = .ok (.iadd, 1) := by decide +kernel
theorem dX6_nearnessOf_151 : decode cX6_nearnessOf 151 = .ok (.istore 8, 2) := by decide +kernel
theorem dX6_nearnessOf_153 : decode cX6_nearnessOf 153 = .ok (.aload_n 0, 1) := by decide +kernel
theorem dX6_nearnessOf_154 : decode cX6_nearnessOf 154 = .ok (.getfield 43, 3) := by decide +kernel
theorem dX6_nearnessOf_157 : decode cX6_nearnessOf 157 = .ok (.iload 6, 2) := by decide +kernel
theorem dX6_nearnessOf_159 : decode cX6_nearnessOf 159 = .ok (.iload 7, 2) := by decide +kernel
theorem dX6_nearnessOf_161 : decode cX6_nearnessOf 161 = .ok (.iload 8, 2) := by decide +kernel
theorem dX6_nearnessOf_163 : decode cX6_nearnessOf 163 = .ok (.if_icmp .ge 8, 3) := by decide +kernel
theorem dX6_nearnessOf_166 : decode cX6_nearnessOf 166 = .ok (.iload 7, 2) := by decide +kernel
theorem dX6_nearnessOf_168 : decode cX6_nearnessOf 168 = .ok (.goto 5, 3) := by decide +kernel
theorem dX6_nearnessOf_171 : decode cX6_nearnessOf 171 = .ok (.iload 8, 2) := by decide +kernel
theorem dX6_nearnessOf_173 : decode cX6_nearnessOf 173 = .ok (.iastore, 1) := by decide +kernel
theorem dX6_nearnessOf_174 : decode cX6_nearnessOf 174 = .ok (.iinc 6 1, 3) := by decide +kernel
theorem dX6_nearnessOf_177 : decode cX6_nearnessOf 177 = .ok (.goto (-117), 3) := by decide +kernel
theorem dX6_nearnessOf_180 : decode cX6_nearnessOf 180 = .ok (.aload_n 0, 1) := by decide +kernel
theorem dX6_nearnessOf_181 : decode cX6_nearnessOf 181 = .ok (.getfield 43, 3) := by decide +kernel
theorem dX6_nearnessOf_184 : decode cX6_nearnessOf 184 = .ok (.iload_n 2, 1) := by decide +kernel
theorem dX6_nearnessOf_185 : decode cX6_nearnessOf 185 = .ok (.iaload, 1) := by decide +kernel
theorem dX6_nearnessOf_186 : decode cX6_nearnessOf 186 = .ok (.iload_n 3, 1) := by decide +kernel
theorem dX6_nearnessOf_187 : decode cX6_nearnessOf 187 = .ok (.if_icmp .ge 12, 3) := by decide +kernel
theorem dX6_nearnessOf_190 : decode cX6_nearnessOf 190 = .ok (.aload_n 0, 1) := by decide +kernel
theorem dX6_nearnessOf_191 : decode cX6_nearnessOf 191 = .ok (.getfield 43, 3) := by decide +kernel
theorem dX6_nearnessOf_194 : decode cX6_nearnessOf 194 = .ok (.iload_n 2, 1) := by decide +kernel
theorem dX6_nearnessOf_195 : decode cX6_nearnessOf 195 = .ok (.iaload, 1) := by decide +kernel
theorem dX6_nearnessOf_196 : decode cX6_nearnessOf 196 = .ok (.goto 4, 3) := by decide +kernel
theorem dX6_nearnessOf_199 : decode cX6_nearnessOf 199 = .ok (.iload_n 3, 1) := by decide +kernel
theorem dX6_nearnessOf_200 : decode cX6_nearnessOf 200 = .ok (.istore_n 3, 1) := by decide +kernel
theorem dX6_nearnessOf_201 : decode cX6_nearnessOf 201 = .ok (.iinc 4 1, 3) := by decide +kernel
theorem dX6_nearnessOf_204 : decode cX6_nearnessOf 204 = .ok (.goto (-174), 3) := by decide +kernel
theorem dX6_nearnessOf_207 : decode cX6_nearnessOf 207 = .ok (.iload_n 3, 1) := by decide +kernel
theorem dX6_nearnessOf_208 : decode cX6_nearnessOf 208 = .ok (.ireturn, 1) := by decide +kernel
set_option maxRecDepth 20000 in
theorem ggX6_ask_X6_taken : GoodIn wsX6_ask wsX6_taken := goodIn_r _ [16, 17, 18, 19, 20, 15, 21, 27, 28, 29, 30, 31, 32, 33, 34, 35, 36, 37, 38, 39, 40, 41] (by decide +kernel) (by decide +kernel)
set_option maxRecDepth 20000 in
theorem gX6_ask_X6_taken : GoodIn wsX6_ask (wsV RX6 86 RX6 yX6_taken wsX6_taken) := goodIn_app (goodIn_of _ (by decide +kernel)) ggX6_ask_X6_taken
set_option maxRecDepth 20000 in
theorem ggX6_ask_X6_nearnessOf : GoodIn wsX6_ask wsX6_nearnessOf := goodIn_r _ [25, 26, 9, 18, 7, 27, 28, 29, 30, 31, 32, 33, 34, 35, 36, 37, 38, 39, 40, 41] (by decide +kernel) (by decide +kernel)
set_option maxRecDepth 20000 in
theorem gX6_ask_X6_nearnessOf : GoodIn wsX6_ask (wsV RX6 91 RX6 yX6_nearnessOf wsX6_nearnessOf) := goodIn_app (goodIn_of _ (by decide +kernel)) ggX6_ask_X6_nearnessOf
theorem dX6_ask_0 : decode cX6_ask 0 = .ok (.aload_n 0, 1) := by decide +kernel
theorem dX6_ask_1 : decode cX6_ask 1 = .ok (.iconst 0, 1) := by decide +kernel
theorem dX6_ask_2 : decode cX6_ask 2 = .ok (.invokevirtual 86, 3) := by decide +kernel
theorem dX6_ask_5 : decode cX6_ask 5 = .ok (.istore_n 3, 1) := by decide +kernel
theorem dX6_ask_6 : decode cX6_ask 6 = .ok (.iload_n 3, 1) := by decide +kernel
theorem dX6_ask_7 : decode cX6_ask 7 = .ok (.iconst (-1), 1) := by decide +kernel
theorem dX6_ask_8 : decode cX6_ask 8 = .ok (.if_icmp .eq 23, 3) := by decide +kernel
theorem dX6_ask_11 : decode cX6_ask 11 = .ok (.iload_n 1, 1) := by decide +kernel
theorem dX6_ask_12 : decode cX6_ask 12 = .ok (.iconst 1, 1) := by decide +kernel
theorem dX6_ask_13 : decode cX6_ask 13 = .ok (.if_icmp .lt 18, 3) := by decide +kernel
theorem dX6_ask_16 : decode cX6_ask 16 = .ok (.iload_n 1, 1) := by decide +kernel
theorem dX6_ask_17 : decode cX6_ask 17 = .ok (.bipush 50, 2) := by decide +kernel
theorem dX6_ask_19 : decode cX6_ask 19 = .ok (.if_icmp .gt 12, 3) := by decide +kernel
theorem dX6_ask_22 : decode cX6_ask 22 = .ok (.iload_n 2, 1) := by decide +kernel
theorem dX6_ask_23 : decode cX6_ask 23 = .ok (.ifCond .lt 8, 3) := by decide +kernel
theorem dX6_ask_26 : decode cX6_ask 26 = .ok (.iload_n 2, 1) := by decide +kernel
theorem dX6_ask_27 : decode cX6_ask 27 = .ok (.iconst 2, 1) := by decide +kernel
theorem dX6_ask_28 : decode cX6_ask 28 = .ok (.if_icmp .le 5, 3) := by decide +kernel
theorem dX6_ask_31 : decode cX6_ask 31 = .ok (.iconst (-1), 1) := by decide +kernel
theorem dX6_ask_32 : decode cX6_ask 32 = .ok (.ireturn, 1) := by decide +kernel
theorem dX6_ask_33 : decode cX6_ask 33 = .ok (.iconst 0, 1) := by decide +kernel
theorem dX6_ask_34 : decode cX6_ask 34 = .ok (.istore 4, 2) := by decide +kernel
theorem dX6_ask_36 : decode cX6_ask 36 = .ok (.iload 4, 2) := by decide +kernel
theorem dX6_ask_38 : decode cX6_ask 38 = .ok (.aload_n 0, 1) := by decide +kernel
theorem dX6_ask_39 : decode cX6_ask 39 = .ok (.getfield 46, 3) := by decide +kernel
theorem dX6_ask_42 : decode cX6_ask 42 = .ok (.if_icmp .ge 46, 3) := by decide +kernel
theorem dX6_ask_45 : decode cX6_ask 45 = .ok (.aload_n 0, 1) := by decide +kernel
theorem dX6_ask_46 : decode cX6_ask 46 = .ok (.getfield 40, 3) := by decide +kernel
theorem dX6_ask_49 : decode cX6_ask 49 = .ok (.iload 4, 2) := by decide +kernel
theorem dX6_ask_51 : decode cX6_ask 51 = .ok (.aload_n 0, 1) := by decide +kernel
theorem dX6_ask_52 : decode cX6_ask 52 = .ok (.iload 4, 2) := by decide +kernel
theorem dX6_ask_54 : decode cX6_ask 54 = .ok (.iload_n 3, 1) := by decide +kernel
theorem dX6_ask_55 : decode cX6_ask 55 = .ok (.invokevirtual 91, 3) := by decide +kernel
theorem dX6_ask_58 : decode cX6_ask 58 = .ok (.iastore, 1) := by decide +kernel
theorem dX6_ask_59 : decode cX6_ask 59 = .ok (.aload_n 0, 1) := by decide +kernel
theorem dX6_ask_60 : decode cX6_ask 60 = .ok (.getfield 36, 3) := by decide +kernel
theorem dX6_ask_63 : decode cX6_ask 63 = .ok (.iload 4, 2) := by decide +kernel
theorem dX6_ask_65 : decode cX6_ask 65 = .ok (.aload_n 0, 1) := by decide +kernel
theorem dX6_ask_66 : decode cX6_ask 66 = .ok (.getfield 40, 3) := by decide +kernel
theorem dX6_ask_69 : decode cX6_ask 69 = .ok (.iload 4, 2) := by decide +kernel
theorem dX6_ask_71 : decode cX6_ask 71 = .ok (.iaload, 1) := by decide +kernel
theorem dX6_ask_72 : decode cX6_ask 72 = .ok (.iload_n 2, 1) := by decide +kernel
theorem dX6_ask_73 : decode cX6_ask 73 = .ok (.if_icmp .le 7, 3) := by decide +kernel
theorem dX6_ask_76 : decode cX6_ask 76 = .ok (.iconst 1, 1) := by decide +kernel
theorem dX6_ask_77 : decode cX6_ask 77 = .ok (.goto 4, 3) := by decide +kernel
theorem dX6_ask_80 : decode cX6_ask 80 = .ok (.iconst 0, 1) := by decide +kernel
theorem dX6_ask_81 : decode cX6_ask 81 = .ok (.bastore, 1) := by decide +kernel
theorem dX6_ask_82 : decode cX6_ask 82 = .ok (.iinc 4 1, 3) := by decide +kernel
theorem dX6_ask_85 : decode cX6_ask 85 = .ok (.goto (-49), 3) := by decide +kernel
theorem dX6_ask_88 : decode cX6_ask 88 = .ok (.aload_n 0, 1) := by decide +kernel
theorem dX6_ask_89 : decode cX6_ask 89 = .ok (.iconst 0, 1) := by decide +kernel
theorem dX6_ask_90 : decode cX6_ask 90 = .ok (.putfield 94, 3) := by decide +kernel
theorem dX6_ask_93 : decode cX6_ask 93 = .ok (.iconst 1, 1) := by decide +kernel
theorem dX6_ask_94 : decode cX6_ask 94 = .ok (.istore 4, 2) := by decide +kernel
theorem dX6_ask_96 : decode cX6_ask 96 = .ok (.iload 4, 2) := by decide +kernel
theorem dX6_ask_98 : decode cX6_ask 98 = .ok (.ifCond .eq 201, 3) := by decide +kernel
theorem dX6_ask_101 : decode cX6_ask 101 = .ok (.aload_n 0, 1) := by decide +kernel
theorem dX6_ask_102 : decode cX6_ask 102 = .ok (.getfield 94, 3) := by decide +kernel
theorem dX6_ask_105 : decode cX6_ask 105 = .ok (.iload_n 1, 1) := by decide +kernel
theorem dX6_ask_106 : decode cX6_ask 106 = .ok (.if_icmp .ge 193, 3) := by decide +kernel
theorem dX6_ask_109 : decode cX6_ask 109 = .ok (.iconst (-1), 1) := by decide +kernel
theorem dX6_ask_110 : decode cX6_ask 110 = .ok (.istore 5, 2) := by decide +kernel
theorem dX6_ask_112 : decode cX6_ask 112 = .ok (.iconst 0, 1) := by decide +kernel
theorem dX6_ask_113 : decode cX6_ask 113 = .ok (.istore 6, 2) := by decide +kernel
theorem dX6_ask_115 : decode cX6_ask 115 = .ok (.iload 6, 2) := by decide +kernel
theorem dX6_ask_117 : decode cX6_ask 117 = .ok (.aload_n 0, 1) := by decide +kernel
theorem dX6_ask_118 : decode cX6_ask 118 = .ok (.getfield 46, 3) := by decide +kernel
theorem dX6_ask_121 : decode cX6_ask 121 = .ok (.if_icmp .ge 47, 3) := by decide +kernel
theorem dX6_ask_124 : decode cX6_ask 124 = .ok (.aload_n 0, 1) := by decide +kernel
theorem dX6_ask_125 : decode cX6_ask 125 = .ok (.getfield 36, 3) := by decide +kernel
theorem dX6_ask_128 : decode cX6_ask 128 = .ok (.iload 6, 2) := by decide +kernel
theorem dX6_ask_130 : decode cX6_ask 130 = .ok (.baload, 1) := by decide +kernel
theorem dX6_ask_131 : decode cX6_ask 131 = .ok (.ifCond .ne 31, 3) := by decide +kernel
theorem dX6_ask_134 : decode cX6_ask 134 = .ok (.iload 5, 2) := by decide +kernel
theorem dX6_ask_136 : decode cX6_ask 136 = .ok (.iconst (-1), 1) := by decide +kernel
theorem dX6_ask_137 : decode cX6_ask 137 = .ok (.if_icmp .eq 21, 3) := by decide +kernel
theorem dX6_ask_140 : decode cX6_ask 140 = .ok (.aload_n 0, 1) := by decide +kernel
theorem dX6_ask_141 : decode cX6_ask 141 = .ok (.getfield 20, 3) := by decide +kernel
theorem dX6_ask_144 : decode cX6_ask 144 = .ok (.iload 6, 2) := by decide +kernel
theorem dX6_ask_146 : decode cX6_ask 146 = .ok (.laload, 1) := by decide +kernel
theorem dX6_ask_147 : decode cX6_ask 147 = .ok (.aload_n 0, 1) := by decide +kernel
theorem dX6_ask_148 : decode cX6_ask 148 = .ok (.getfield 20, 3) := by decide +kernel
theorem dX6_ask_151 : decode cX6_ask 151 = .ok (.iload 5, 2) := by decide +kernel
theorem dX6_ask_153 : decode cX6_ask 153 = .ok (.laload, 1) := by decide +kernel
theorem dX6_ask_154 : decode cX6_ask 154 = .ok (.lcmp, 1) := by decide +kernel
theorem dX6_ask_155 : decode cX6_ask 155 = .ok (.ifCond .le 7, 3) := by decide +kernel
theorem dX6_ask_158 : decode cX6_ask 158 = .ok (.iload 6, 2) := by decide +kernel
theorem dX6_ask_160 : decode cX6_ask 160 = .ok (.istore 5, 2) := by decide +kernel
theorem dX6_ask_162 : decode cX6_ask 162 = .ok (.iinc 6 1, 3) := by decide +kernel
theorem dX6_ask_165 : decode cX6_ask 165 = .ok (.goto (-50), 3) := by decide +kernel
theorem dX6_ask_168 : decode cX6_ask 168 = .ok (.iload 5, 2) := by decide +kernel
theorem dX6_ask_170 : decode cX6_ask 170 = .ok (.iconst (-1), 1) := by decide +kernel
theorem dX6_ask_171 : decode cX6_ask 171 = .ok (.if_icmp .eq 7, 3) := by decide +kernel
theorem dX6_ask_174 : decode cX6_ask 174 = .ok (.iconst 1, 1) := by decide +kernel
theorem dX6_ask_175 : decode cX6_ask 175 = .ok (.goto 4, 3) := by decide +kernel
theorem dX6_ask_178 : decode cX6_ask 178 = .ok (.iconst 0, 1) := by decide +kernel
theorem dX6_ask_179 : decode cX6_ask 179 = .ok (.istore 4, 2) := by decide +kernel
theorem dX6_ask_181 : decode cX6_ask 181 = .ok (.iload 4, 2) := by decide +kernel
theorem dX6_ask_183 : decode cX6_ask 183 = .ok (.ifCond .eq 113, 3) := by decide +kernel
theorem dX6_ask_186 : decode cX6_ask 186 = .ok (.aload_n 0, 1) := by decide +kernel
theorem dX6_ask_187 : decode cX6_ask 187 = .ok (.getfield 36, 3) := by decide +kernel
theorem dX6_ask_190 : decode cX6_ask 190 = .ok (.iload 5, 2) := by decide +kernel
theorem dX6_ask_192 : decode cX6_ask 192 = .ok (.iconst 1, 1) := by decide +kernel
theorem dX6_ask_193 : decode cX6_ask 193 = .ok (.bastore, 1) := by decide +kernel
theorem dX6_ask_194 : decode cX6_ask 194 = .ok (.iconst 0, 1) := by decide +kernel
theorem dX6_ask_195 : decode cX6_ask 195 = .ok (.istore 6, 2) := by decide +kernel
theorem dX6_ask_197 : decode cX6_ask 197 = .ok (.iload 6, 2) := by decide +kernel
theorem dX6_ask_199 : decode cX6_ask 199 = .ok (.bipush 24, 2) := by decide +kernel
theorem dX6_ask_201 : decode cX6_ask 201 = .ok (.if_icmp .ge 37, 3) := by decide +kernel
theorem dX6_ask_204 : decode cX6_ask 204 = .ok (.aload_n 0, 1) := by decide +kernel
theorem dX6_ask_205 : decode cX6_ask 205 = .ok (.getfield 24, 3) := by decide +kernel
theorem dX6_ask_208 : decode cX6_ask 208 = .ok (.bipush 24, 2) := by decide +kernel
theorem dX6_ask_210 : decode cX6_ask 210 = .ok (.aload_n 0, 1) := by decide +kernel
theorem dX6_ask_211 : decode cX6_ask 211 = .ok (.getfield 94, 3) := by decide +kernel
theorem dX6_ask_214 : decode cX6_ask 214 = .ok (.imul, 1) := by decide +kernel
theorem dX6_ask_215 : decode cX6_ask 215 = .ok (.iload 6, 2) := by decide +kernel
theorem dX6_ask_217 : decode cX6_ask 217 = .ok (.iadd, 1) := by decide +kernel
theorem dX6_ask_218 : decode cX6_ask 218 = .ok (.aload_n 0, 1) := by decide +kernel
theorem dX6_ask_219 : decode cX6_ask 219 = .ok (.getfield 13, 3) := by decide +kernel
theorem dX6_ask_222 : decode cX6_ask 222 = .ok (.bipush 24, 2) := by decide +kernel
theorem dX6_ask_224 : decode cX6_ask 224 = .ok (.iload 5, 2) := by decide +kernel
theorem dX6_ask_226 : decode cX6_ask 226 = .ok (.imul, 1) := by decide +kernel
theorem dX6_ask_227 : decode cX6_ask 227 = .ok (.iload 6, 2) := by decide +kernel
theorem dX6_ask_229 : decode cX6_ask 229 = .ok (.iadd, 1) := by decide +kernel
theorem dX6_ask_230 : decode cX6_ask 230 = .ok (.baload, 1) := by decide +kernel
theorem dX6_ask_231 : decode cX6_ask 231 = .ok (.bastore, 1) := by decide +kernel
theorem dX6_ask_232 : decode cX6_ask 232 = .ok (.iinc 6 1, 3) := by decide +kernel
theorem dX6_ask_235 : decode cX6_ask 235 = .ok (.goto (-38), 3) := by decide +kernel
theorem dX6_ask_238 : decode cX6_ask 238 = .ok (.aload_n 0, 1) := by decide +kernel
theorem dX6_ask_239 : decode cX6_ask 239 = .ok (.getfield 27, 3) := by decide +kernel
theorem dX6_ask_242 : decode cX6_ask 242 = .ok (.aload_n 0, 1) := by decide +kernel
theorem dX6_ask_243 : decode cX6_ask 243 = .ok (.getfield 94, 3) := by decide +kernel
theorem dX6_ask_246 : decode cX6_ask 246 = .ok (.aload_n 0, 1) := by decide +kernel
theorem dX6_ask_247 : decode cX6_ask 247 = .ok (.getfield 16, 3) := by decide +kernel
theorem dX6_ask_250 : decode cX6_ask 250 = .ok (.iload 5, 2) := by decide +kernel
theorem dX6_ask_252 : decode cX6_ask 252 = .ok (.iaload, 1) := by decide +kernel
theorem dX6_ask_253 : decode cX6_ask 253 = .ok (.iastore, 1) := by decide +kernel
theorem dX6_ask_254 : decode cX6_ask 254 = .ok (.aload_n 0, 1) := by decide +kernel
theorem dX6_ask_255 : decode cX6_ask 255 = .ok (.getfield 30, 3) := by decide +kernel
theorem dX6_ask_258 : decode cX6_ask 258 = .ok (.aload_n 0, 1) := by decide +kernel
theorem dX6_ask_259 : decode cX6_ask 259 = .ok (.getfield 94, 3) := by decide +kernel
theorem dX6_ask_262 : decode cX6_ask 262 = .ok (.aload_n 0, 1) := by decide +kernel
theorem dX6_ask_263 : decode cX6_ask 263 = .ok (.getfield 20, 3) := by decide +kernel
theorem dX6_ask_266 : decode cX6_ask 266 = .ok (.iload 5, 2) := by decide +kernel
theorem dX6_ask_268 : decode cX6_ask 268 = .ok (.laload, 1) := by decide +kernel
theorem dX6_ask_269 : decode cX6_ask 269 = .ok (.lastore, 1) := by decide +kernel
theorem dX6_ask_270 : decode cX6_ask 270 = .ok (.aload_n 0, 1) := by decide +kernel
theorem dX6_ask_271 : decode cX6_ask 271 = .ok (.getfield 33, 3) := by decide +kernel
theorem dX6_ask_274 : decode cX6_ask 274 = .ok (.aload_n 0, 1) := by decide +kernel
theorem dX6_ask_275 : decode cX6_ask 275 = .ok (.getfield 94, 3) := by decide +kernel
theorem dX6_ask_278 : decode cX6_ask 278 = .ok (.aload_n 0, 1) := by decide +kernel
theorem dX6_ask_279 : decode cX6_ask 279 = .ok (.getfield 40, 3) := by decide +kernel
theorem dX6_ask_282 : decode cX6_ask 282 = .ok (.iload 5, 2) := by decide +kernel
theorem dX6_ask_284 : decode cX6_ask 284 = .ok (.iaload, 1) := by decide +kernel
theorem dX6_ask_285 : decode cX6_ask 285 = .ok (.iastore, 1) := by decide +kernel
theorem dX6_ask_286 : decode cX6_ask 286 = .ok (.aload_n 0, 1) := by decide +kernel
theorem dX6_ask_287 : decode cX6_ask 287 = .ok (.dup, 1) := by decide +kernel
theorem dX6_ask_288 : decode cX6_ask 288 = .ok (.getfield 94, 3) := by decide +kernel
theorem dX6_ask_291 : decode cX6_ask 291 = .ok (.iconst 1, 1) := by decide +kernel
theorem dX6_ask_292 : decode cX6_ask 292 = .ok (.iadd, 1) := by decide +kernel
theorem dX6_ask_293 : decode cX6_ask 293 = .ok (.putfield 94, 3) := by decide +kernel
theorem dX6_ask_296 : decode cX6_ask 296 = .ok (.goto (-200), 3) := by decide +kernel
theorem dX6_ask_299 : decode cX6_ask 299 = .ok (.aload_n 0, 1) := by decide +kernel
theorem dX6_ask_300 : decode cX6_ask 300 = .ok (.getfield 94, 3) := by decide +kernel
theorem dX6_ask_303 : decode cX6_ask 303 = .ok (.ireturn, 1) := by decide +kernel
set_option maxRecDepth 20000 in
theorem ggX6_near_X6_taken : GoodIn wsX6_near wsX6_taken := goodIn_r _ [6, 7, 8, 9, 10, 5, 11, 19, 20, 21, 22, 23, 24, 25, 26, 27, 28, 29, 30, 31, 32, 33] (by decide +kernel) (by decide +kernel)
set_option maxRecDepth 20000 in
theorem gX6_near_X6_taken : GoodIn wsX6_near (wsV RX6 86 RX6 yX6_taken wsX6_taken) := goodIn_app (goodIn_of _ (by decide +kernel)) ggX6_near_X6_taken
set_option maxRecDepth 20000 in
theorem ggX6_near_X6_nearnessOf : GoodIn wsX6_near wsX6_nearnessOf := goodIn_r _ [15, 16, 17, 8, 18, 19, 20, 21, 22, 23, 24, 25, 26, 27, 28, 29, 30, 31, 32, 33] (by decide +kernel) (by decide +kernel)
set_option maxRecDepth 20000 in
theorem gX6_near_X6_nearnessOf : GoodIn wsX6_near (wsV RX6 91 RX6 yX6_nearnessOf wsX6_nearnessOf) := goodIn_app (goodIn_of _ (by decide +kernel)) ggX6_near_X6_nearnessOf
theorem dX6_near_0 : decode cX6_near 0 = .ok (.aload_n 0, 1) := by decide +kernel
theorem dX6_near_1 : decode cX6_near 1 = .ok (.iconst 0, 1) := by decide +kernel
theorem dX6_near_2 : decode cX6_near 2 = .ok (.invokevirtual 86, 3) := by decide +kernel
theorem dX6_near_5 : decode cX6_near 5 = .ok (.istore_n 2, 1) := by decide +kernel
theorem dX6_near_6 : decode cX6_near 6 = .ok (.iload_n 2, 1) := by decide +kernel
theorem dX6_near_7 : decode cX6_near 7 = .ok (.iconst (-1), 1) := by decide +kernel
theorem dX6_near_8 : decode cX6_near 8 = .ok (.if_icmp .eq 12, 3) := by decide +kernel
theorem dX6_near_11 : decode cX6_near 11 = .ok (.iload_n 1, 1) := by decide +kernel
theorem dX6_near_12 : decode cX6_near 12 = .ok (.ifCond .lt 8, 3) := by decide +kernel
theorem dX6_near_15 : decode cX6_near 15 = .ok (.iload_n 1, 1) := by decide +kernel
theorem dX6_near_16 : decode cX6_near 16 = .ok (.iconst 2, 1) := by decide +kernel
theorem dX6_near_17 : decode cX6_near 17 = .ok (.if_icmp .le 5, 3) := by decide +kernel
theorem dX6_near_20 : decode cX6_near 20 = .ok (.iconst (-1), 1) := by decide +kernel
theorem dX6_near_21 : decode cX6_near 21 = .ok (.ireturn, 1) := by decide +kernel
theorem dX6_near_22 : decode cX6_near 22 = .ok (.iconst 0, 1) := by decide +kernel
theorem dX6_near_23 : decode cX6_near 23 = .ok (.istore_n 3, 1) := by decide +kernel
theorem dX6_near_24 : decode cX6_near 24 = .ok (.iconst 0, 1) := by decide +kernel
theorem dX6_near_25 : decode cX6_near 25 = .ok (.istore 4, 2) := by decide +kernel
theorem dX6_near_27 : decode cX6_near 27 = .ok (.iload 4, 2) := by decide +kernel
theorem dX6_near_29 : decode cX6_near 29 = .ok (.aload_n 0, 1) := by decide +kernel
theorem dX6_near_30 : decode cX6_near 30 = .ok (.getfield 46, 3) := by decide +kernel
theorem dX6_near_33 : decode cX6_near 33 = .ok (.if_icmp .ge 28, 3) := by decide +kernel
theorem dX6_near_36 : decode cX6_near 36 = .ok (.iload_n 3, 1) := by decide +kernel
theorem dX6_near_37 : decode cX6_near 37 = .ok (.aload_n 0, 1) := by decide +kernel
theorem dX6_near_38 : decode cX6_near 38 = .ok (.iload 4, 2) := by decide +kernel
theorem dX6_near_40 : decode cX6_near 40 = .ok (.iload_n 2, 1) := by decide +kernel
theorem dX6_near_41 : decode cX6_near 41 = .ok (.invokevirtual 91, 3) := by decide +kernel
theorem dX6_near_44 : decode cX6_near 44 = .ok (.iload_n 1, 1) := by decide +kernel
theorem dX6_near_45 : decode cX6_near 45 = .ok (.if_icmp .gt 7, 3) := by decide +kernel
theorem dX6_near_48 : decode cX6_near 48 = .ok (.iconst 1, 1) := by decide +kernel
theorem dX6_near_49 : decode cX6_near 49 = .ok (.goto 4, 3) := by decide +kernel
theorem dX6_near_52 : decode cX6_near 52 = .ok (.iconst 0, 1) := by decide +kernel
theorem dX6_near_53 : decode cX6_near 53 = .ok (.iadd, 1) := by decide +kernel
theorem dX6_near_54 : decode cX6_near 54 = .ok (.istore_n 3, 1) := by decide +kernel
theorem dX6_near_55 : decode cX6_near 55 = .ok (.iinc 4 1, 3) := by decide +kernel
theorem dX6_near_58 : decode cX6_near 58 = .ok (.goto (-31), 3) := by decide +kernel
theorem dX6_near_61 : decode cX6_near 61 = .ok (.iload_n 3, 1) := by decide +kernel
theorem dX6_near_62 : decode cX6_near 62 = .ok (.ireturn, 1) := by decide +kernel
set_option maxRecDepth 20000 in
theorem ggX6_best_X6_taken : GoodIn wsX6_best wsX6_taken := goodIn_r _ [11, 12, 4, 13, 14, 10, 15, 16, 17, 18, 19, 20, 21, 22, 23, 24, 25, 26, 27, 28, 29, 30] (by decide +kernel) (by decide +kernel)
set_option maxRecDepth 20000 in
theorem gX6_best_X6_taken : GoodIn wsX6_best (wsV RX6 86 RX6 yX6_taken wsX6_taken) := goodIn_app (goodIn_of _ (by decide +kernel)) ggX6_best_X6_taken
theorem dX6_best_0 : decode cX6_best 0 = .ok (.aload_n 0, 1) := by decide +kernel
theorem dX6_best_1 : decode cX6_best 1 = .ok (.iconst 0, 1) := by decide +kernel
theorem dX6_best_2 : decode cX6_best 2 = .ok (.invokevirtual 86, 3) := by decide +kernel
theorem dX6_best_5 : decode cX6_best 5 = .ok (.istore_n 1, 1) := by decide +kernel
theorem dX6_best_6 : decode cX6_best 6 = .ok (.ldc2_w 89, 3) := by decide +kernel
theorem dX6_best_9 : decode cX6_best 9 = .ok (.lstore_n 2, 1) := by decide +kernel
theorem dX6_best_10 : decode cX6_best 10 = .ok (.iconst 0, 1) := by decide +kernel
theorem dX6_best_11 : decode cX6_best 11 = .ok (.istore 4, 2) := by decide +kernel
theorem dX6_best_13 : decode cX6_best 13 = .ok (.iload 4, 2) := by decide +kernel
theorem dX6_best_15 : decode cX6_best 15 = .ok (.aload_n 0, 1) := by decide +kernel
theorem dX6_best_16 : decode cX6_best 16 = .ok (.getfield 46, 3) := by decide +kernel
theorem dX6_best_19 : decode cX6_best 19 = .ok (.if_icmp .ge 111, 3) := by decide +kernel
theorem dX6_best_22 : decode cX6_best 22 = .ok (.iload_n 1, 1) := by decide +kernel
theorem dX6_best_23 : decode cX6_best 23 = .ok (.iconst (-1), 1) := by decide +kernel
theorem dX6_best_24 : decode cX6_best 24 = .ok (.if_icmp .eq 106, 3) := by decide +kernel
theorem dX6_best_27 : decode cX6_best 27 = .ok (.aload_n 0, 1) := by decide +kernel
theorem dX6_best_28 : decode cX6_best 28 = .ok (.getfield 16, 3) := by decide +kernel
theorem dX6_best_31 : decode cX6_best 31 = .ok (.iload 4, 2) := by decide +kernel
theorem dX6_best_33 : decode cX6_best 33 = .ok (.iaload, 1) := by decide +kernel
theorem dX6_best_34 : decode cX6_best 34 = .ok (.iload_n 1, 1) := by decide +kernel
theorem dX6_best_35 : decode cX6_best 35 = .ok (.if_icmp .lt 7, 3) := by decide +kernel
theorem dX6_best_38 : decode cX6_best 38 = .ok (.iconst 1, 1) := by decide +kernel
theorem dX6_best_39 : decode cX6_best 39 = .ok (.goto 4, 3) := by decide +kernel
theorem dX6_best_42 : decode cX6_best 42 = .ok (.iconst 0, 1) := by decide +kernel
theorem dX6_best_43 : decode cX6_best 43 = .ok (.istore 5, 2) := by decide +kernel
theorem dX6_best_45 : decode cX6_best 45 = .ok (.iconst 0, 1) := by decide +kernel
theorem dX6_best_46 : decode cX6_best 46 = .ok (.istore 6, 2) := by decide +kernel
theorem dX6_best_48 : decode cX6_best 48 = .ok (.iload 6, 2) := by decide +kernel
theorem dX6_best_50 : decode cX6_best 50 = .ok (.iload_n 1, 1) := by decide +kernel
theorem dX6_best_51 : decode cX6_best 51 = .ok (.if_icmp .ge 44, 3) := by decide +kernel
theorem dX6_best_54 : decode cX6_best 54 = .ok (.iload 5, 2) := by decide +kernel
theorem dX6_best_56 : decode cX6_best 56 = .ok (.ifCond .eq 39, 3) := by decide +kernel
theorem dX6_best_59 : decode cX6_best 59 = .ok (.aload_n 0, 1) := by decide +kernel
theorem dX6_best_60 : decode cX6_best 60 = .ok (.getfield 7, 3) := by decide +kernel
theorem dX6_best_63 : decode cX6_best 63 = .ok (.iload 6, 2) := by decide +kernel
theorem dX6_best_65 : decode cX6_best 65 = .ok (.baload, 1) := by decide +kernel
theorem dX6_best_66 : decode cX6_best 66 = .ok (.aload_n 0, 1) := by decide +kernel
theorem dX6_best_67 : decode cX6_best 67 = .ok (.getfield 13, 3) := by decide +kernel
theorem dX6_best_70 : decode cX6_best 70 = .ok (.bipush 24, 2) := by decide +kernel
theorem dX6_best_72 : decode cX6_best 72 = .ok (.iload 4, 2) := by decide +kernel
theorem dX6_best_74 : decode cX6_best 74 = .ok (.imul, 1) := by decide +kernel
theorem dX6_best_75 : decode cX6_best 75 = .ok (.iload 6, 2) := by decide +kernel
theorem dX6_best_77 : decode cX6_best 77 = .ok (.iadd, 1) := by decide +kernel
theorem dX6_best_78 : decode cX6_best 78 = .ok (.baload, 1) := by decide +kernel
theorem dX6_best_79 : decode cX6_best 79 = .ok (.if_icmp .ne 7, 3) := by decide +kernel
theorem dX6_best_82 : decode cX6_best 82 = .ok (.iconst 1, 1) := by decide +kernel
theorem dX6_best_83 : decode cX6_best 83 = .ok (.goto 4, 3) := by decide +kernel
theorem dX6_best_86 : decode cX6_best 86 = .ok (.iconst 0, 1) := by decide +kernel
theorem dX6_best_87 : decode cX6_best 87 = .ok (.istore 5, 2) := by decide +kernel
theorem dX6_best_89 : decode cX6_best 89 = .ok (.iinc 6 1, 3) := by decide +kernel
theorem dX6_best_92 : decode cX6_best 92 = .ok (.goto (-44), 3) := by decide +kernel
theorem dX6_best_95 : decode cX6_best 95 = .ok (.iload 5, 2) := by decide +kernel
theorem dX6_best_97 : decode cX6_best 97 = .ok (.ifCond .eq 25, 3) := by decide +kernel
theorem dX6_best_100 : decode cX6_best 100 = .ok (.aload_n 0, 1) := by decide +kernel
theorem dX6_best_101 : decode cX6_best 101 = .ok (.getfield 20, 3) := by decide +kernel
theorem dX6_best_104 : decode cX6_best 104 = .ok (.iload 4, 2) := by decide +kernel
theorem dX6_best_106 : decode cX6_best 106 = .ok (.laload, 1) := by decide +kernel
theorem dX6_best_107 : decode cX6_best 107 = .ok (.lload_n 2, 1) := by decide +kernel
theorem dX6_best_108 : decode cX6_best 108 = .ok (.lcmp, 1) := by decide +kernel
theorem dX6_best_109 : decode cX6_best 109 = .ok (.ifCond .le 13, 3) := by decide +kernel
theorem dX6_best_112 : decode cX6_best 112 = .ok (.aload_n 0, 1) := by decide +kernel
theorem dX6_best_113 : decode cX6_best 113 = .ok (.getfield 20, 3) := by decide +kernel
theorem dX6_best_116 : decode cX6_best 116 = .ok (.iload 4, 2) := by decide +kernel
theorem dX6_best_118 : decode cX6_best 118 = .ok (.laload, 1) := by decide +kernel
theorem dX6_best_119 : decode cX6_best 119 = .ok (.goto 4, 3) := by decide +kernel
theorem dX6_best_122 : decode cX6_best 122 = .ok (.lload_n 2, 1) := by decide +kernel
theorem dX6_best_123 : decode cX6_best 123 = .ok (.lstore_n 2, 1) := by decide +kernel
theorem dX6_best_124 : decode cX6_best 124 = .ok (.iinc 4 1, 3) := by decide +kernel
theorem dX6_best_127 : decode cX6_best 127 = .ok (.goto (-114), 3) := by decide +kernel
theorem dX6_best_130 : decode cX6_best 130 = .ok (.lload_n 2, 1) := by decide +kernel
theorem dX6_best_131 : decode cX6_best 131 = .ok (.lreturn, 1) := by decide +kernel
set_option maxRecDepth 20000 in
theorem ggX6_rank_X6_taken : GoodIn wsX6_rank wsX6_taken := goodIn_r _ [7, 8, 9, 10, 11, 6, 12, 26, 27, 28, 29, 30, 31, 32, 33, 34, 35, 36, 37, 38, 39, 40] (by decide +kernel) (by decide +kernel)
set_option maxRecDepth 20000 in
theorem gX6_rank_X6_taken : GoodIn wsX6_rank (wsV RX6 86 RX6 yX6_taken wsX6_taken) := goodIn_app (goodIn_of _ (by decide +kernel)) ggX6_rank_X6_taken
set_option maxRecDepth 20000 in
theorem ggX6_rank_X6_find : GoodIn wsX6_rank wsX6_find := goodIn_r _ [16, 1, 17, 18, 19, 6, 20, 21, 9, 22, 23, 24, 25, 26, 27, 28, 29, 30, 31, 32, 33, 34, 35, 36, 37, 38, 39, 40] (by decide +kernel) (by decide +kernel)
set_option maxRecDepth 20000 in
theorem gX6_rank_X6_find : GoodIn wsX6_rank (wsV RX6 76 RX6 yX6_find wsX6_find) := goodIn_app (goodIn_of _ (by decide +kernel)) ggX6_rank_X6_find
theorem dX6_rank_0 : decode cX6_rank 0 = .ok (.aload_n 0, 1) := by decide +kernel
theorem dX6_rank_1 : decode cX6_rank 1 = .ok (.iconst 1, 1) := by decide +kernel
theorem dX6_rank_2 : decode cX6_rank 2 = .ok (.invokevirtual 86, 3) := by decide +kernel
theorem dX6_rank_5 : decode cX6_rank 5 = .ok (.istore_n 1, 1) := by decide +kernel
theorem dX6_rank_6 : decode cX6_rank 6 = .ok (.iload_n 1, 1) := by decide +kernel
theorem dX6_rank_7 : decode cX6_rank 7 = .ok (.iconst (-1), 1) := by decide +kernel
theorem dX6_rank_8 : decode cX6_rank 8 = .ok (.if_icmp .ne 7, 3) := by decide +kernel
theorem dX6_rank_11 : decode cX6_rank 11 = .ok (.iconst (-1), 1) := by decide +kernel
theorem dX6_rank_12 : decode cX6_rank 12 = .ok (.goto 9, 3) := by decide +kernel
theorem dX6_rank_15 : decode cX6_rank 15 = .ok (.aload_n 0, 1) := by decide +kernel
theorem dX6_rank_16 : decode cX6_rank 16 = .ok (.iconst 0, 1) := by decide +kernel
theorem dX6_rank_17 : decode cX6_rank 17 = .ok (.iload_n 1, 1) := by decide +kernel
theorem dX6_rank_18 : decode cX6_rank 18 = .ok (.invokevirtual 76, 3) := by decide +kernel
theorem dX6_rank_21 : decode cX6_rank 21 = .ok (.istore_n 2, 1) := by decide +kernel
theorem dX6_rank_22 : decode cX6_rank 22 = .ok (.iload_n 2, 1) := by decide +kernel
theorem dX6_rank_23 : decode cX6_rank 23 = .ok (.iconst (-1), 1) := by decide +kernel
theorem dX6_rank_24 : decode cX6_rank 24 = .ok (.if_icmp .ne 5, 3) := by decide +kernel
theorem dX6_rank_27 : decode cX6_rank 27 = .ok (.iconst (-1), 1) := by decide +kernel
theorem dX6_rank_28 : decode cX6_rank 28 = .ok (.ireturn, 1) := by decide +kernel
theorem dX6_rank_29 : decode cX6_rank 29 = .ok (.iconst 0, 1) := by decide +kernel
theorem dX6_rank_30 : decode cX6_rank 30 = .ok (.istore_n 3, 1) := by decide +kernel
theorem dX6_rank_31 : decode cX6_rank 31 = .ok (.iconst 0, 1) := by decide +kernel
theorem dX6_rank_32 : decode cX6_rank 32 = .ok (.istore 4, 2) := by decide +kernel
theorem dX6_rank_34 : decode cX6_rank 34 = .ok (.iload 4, 2) := by decide +kernel
theorem dX6_rank_36 : decode cX6_rank 36 = .ok (.aload_n 0, 1) := by decide +kernel
theorem dX6_rank_37 : decode cX6_rank 37 = .ok (.getfield 46, 3) := by decide +kernel
theorem dX6_rank_40 : decode cX6_rank 40 = .ok (.if_icmp .ge 57, 3) := by decide +kernel
theorem dX6_rank_43 : decode cX6_rank 43 = .ok (.iload_n 3, 1) := by decide +kernel
theorem dX6_rank_44 : decode cX6_rank 44 = .ok (.aload_n 0, 1) := by decide +kernel
theorem dX6_rank_45 : decode cX6_rank 45 = .ok (.getfield 20, 3) := by decide +kernel
theorem dX6_rank_48 : decode cX6_rank 48 = .ok (.iload 4, 2) := by decide +kernel
theorem dX6_rank_50 : decode cX6_rank 50 = .ok (.laload, 1) := by decide +kernel
theorem dX6_rank_51 : decode cX6_rank 51 = .ok (.aload_n 0, 1) := by decide +kernel
theorem dX6_rank_52 : decode cX6_rank 52 = .ok (.getfield 20, 3) := by decide +kernel
theorem dX6_rank_55 : decode cX6_rank 55 = .ok (.iload_n 2, 1) := by decide +kernel
theorem dX6_rank_56 : decode cX6_rank 56 = .ok (.laload, 1) := by decide +kernel
theorem dX6_rank_57 : decode cX6_rank 57 = .ok (.lcmp, 1) := by decide +kernel
theorem dX6_rank_58 : decode cX6_rank 58 = .ok (.ifCond .gt 26, 3) := by decide +kernel
theorem dX6_rank_61 : decode cX6_rank 61 = .ok (.aload_n 0, 1) := by decide +kernel
theorem dX6_rank_62 : decode cX6_rank 62 = .ok (.getfield 20, 3) := by decide +kernel
theorem dX6_rank_65 : decode cX6_rank 65 = .ok (.iload 4, 2) := by decide +kernel
theorem dX6_rank_67 : decode cX6_rank 67 = .ok (.laload, 1) := by decide +kernel
theorem dX6_rank_68 : decode cX6_rank 68 = .ok (.aload_n 0, 1) := by decide +kernel
theorem dX6_rank_69 : decode cX6_rank 69 = .ok (.getfield 20, 3) := by decide +kernel
theorem dX6_rank_72 : decode cX6_rank 72 = .ok (.iload_n 2, 1) := by decide +kernel
theorem dX6_rank_73 : decode cX6_rank 73 = .ok (.laload, 1) := by decide +kernel
theorem dX6_rank_74 : decode cX6_rank 74 = .ok (.lcmp, 1) := by decide +kernel
theorem dX6_rank_75 : decode cX6_rank 75 = .ok (.ifCond .ne 13, 3) := by decide +kernel
theorem dX6_rank_78 : decode cX6_rank 78 = .ok (.iload 4, 2) := by decide +kernel
theorem dX6_rank_80 : decode cX6_rank 80 = .ok (.iload_n 2, 1) := by decide +kernel
theorem dX6_rank_81 : decode cX6_rank 81 = .ok (.if_icmp .ge 7, 3) := by decide +kernel
theorem dX6_rank_84 : decode cX6_rank 84 = .ok (.iconst 1, 1) := by decide +kernel
theorem dX6_rank_85 : decode cX6_rank 85 = .ok (.goto 4, 3) := by decide +kernel
theorem dX6_rank_88 : decode cX6_rank 88 = .ok (.iconst 0, 1) := by decide +kernel
theorem dX6_rank_89 : decode cX6_rank 89 = .ok (.iadd, 1) := by decide +kernel
theorem dX6_rank_90 : decode cX6_rank 90 = .ok (.istore_n 3, 1) := by decide +kernel
theorem dX6_rank_91 : decode cX6_rank 91 = .ok (.iinc 4 1, 3) := by decide +kernel
theorem dX6_rank_94 : decode cX6_rank 94 = .ok (.goto (-60), 3) := by decide +kernel
theorem dX6_rank_97 : decode cX6_rank 97 = .ok (.iload_n 3, 1) := by decide +kernel
theorem dX6_rank_98 : decode cX6_rank 98 = .ok (.ireturn, 1) := by decide +kernel
theorem dX6_found_0 : decode cX6_found 0 = .ok (.aload_n 0, 1) := by decide +kernel
theorem dX6_found_1 : decode cX6_found 1 = .ok (.getfield 94, 3) := by decide +kernel
theorem dX6_found_4 : decode cX6_found 4 = .ok (.ireturn, 1) := by decide +kernel
theorem dX6_letter_0 : decode cX6_letter 0 = .ok (.iload_n 1, 1) := by decide +kernel
theorem dX6_letter_1 : decode cX6_letter 1 = .ok (.ifCond .lt 39, 3) := by decide +kernel
theorem dX6_letter_4 : decode cX6_letter 4 = .ok (.iload_n 1, 1) := by decide +kernel
theorem dX6_letter_5 : decode cX6_letter 5 = .ok (.aload_n 0, 1) := by decide +kernel
theorem dX6_letter_6 : decode cX6_letter 6 = .ok (.getfield 94, 3) := by decide +kernel
theorem dX6_letter_9 : decode cX6_letter 9 = .ok (.if_icmp .ge 31, 3) := by decide +kernel
theorem dX6_letter_12 : decode cX6_letter 12 = .ok (.iload_n 2, 1) := by decide +kernel
theorem dX6_letter_13 : decode cX6_letter 13 = .ok (.ifCond .lt 27, 3) := by decide +kernel
theorem dX6_letter_16 : decode cX6_letter 16 = .ok (.iload_n 2, 1) := by decide +kernel
theorem dX6_letter_17 : decode cX6_letter 17 = .ok (.aload_n 0, 1) := by decide +kernel
theorem dX6_letter_18 : decode cX6_letter 18 = .ok (.getfield 27, 3) := by decide +kernel
theorem dX6_letter_21 : decode cX6_letter 21 = .ok (.iload_n 1, 1) := by decide +kernel
theorem dX6_letter_22 : decode cX6_letter 22 = .ok (.iaload, 1) := by decide +kernel
theorem dX6_letter_23 : decode cX6_letter 23 = .ok (.if_icmp .ge 17, 3) := by decide +kernel
theorem dX6_letter_26 : decode cX6_letter 26 = .ok (.aload_n 0, 1) := by decide +kernel
theorem dX6_letter_27 : decode cX6_letter 27 = .ok (.getfield 24, 3) := by decide +kernel
theorem dX6_letter_30 : decode cX6_letter 30 = .ok (.bipush 24, 2) := by decide +kernel
theorem dX6_letter_32 : decode cX6_letter 32 = .ok (.iload_n 1, 1) := by decide +kernel
theorem dX6_letter_33 : decode cX6_letter 33 = .ok (.imul, 1) := by decide +kernel
theorem dX6_letter_34 : decode cX6_letter 34 = .ok (.iload_n 2, 1) := by decide +kernel
theorem dX6_letter_35 : decode cX6_letter 35 = .ok (.iadd, 1) := by decide +kernel
theorem dX6_letter_36 : decode cX6_letter 36 = .ok (.baload, 1) := by decide +kernel
theorem dX6_letter_37 : decode cX6_letter 37 = .ok (.goto 4, 3) := by decide +kernel
theorem dX6_letter_40 : decode cX6_letter 40 = .ok (.iconst (-1), 1) := by decide +kernel
theorem dX6_letter_41 : decode cX6_letter 41 = .ok (.ireturn, 1) := by decide +kernel
theorem dX6_of_0 : decode cX6_of 0 = .ok (.iload_n 1, 1) := by decide +kernel
theorem dX6_of_1 : decode cX6_of 1 = .ok (.ifCond .lt 11, 3) := by decide +kernel
theorem dX6_of_4 : decode cX6_of 4 = .ok (.iload_n 1, 1) := by decide +kernel
theorem dX6_of_5 : decode cX6_of 5 = .ok (.aload_n 0, 1) := by decide +kernel
theorem dX6_of_6 : decode cX6_of 6 = .ok (.getfield 94, 3) := by decide +kernel
theorem dX6_of_9 : decode cX6_of 9 = .ok (.if_icmp .lt 7, 3) := by decide +kernel
theorem dX6_of_12 : decode cX6_of 12 = .ok (.ldc2_w 89, 3) := by decide +kernel
theorem dX6_of_15 : decode cX6_of 15 = .ok (.lreturn, 1) := by decide +kernel
theorem dX6_of_16 : decode cX6_of 16 = .ok (.iload_n 2, 1) := by decide +kernel
theorem dX6_of_17 : decode cX6_of 17 = .ok (.ifCond .ne 13, 3) := by decide +kernel
theorem dX6_of_20 : decode cX6_of 20 = .ok (.aload_n 0, 1) := by decide +kernel
theorem dX6_of_21 : decode cX6_of 21 = .ok (.getfield 27, 3) := by decide +kernel
theorem dX6_of_24 : decode cX6_of 24 = .ok (.iload_n 1, 1) := by decide +kernel
theorem dX6_of_25 : decode cX6_of 25 = .ok (.iaload, 1) := by decide +kernel
theorem dX6_of_26 : decode cX6_of 26 = .ok (.i2l, 1) := by decide +kernel
theorem dX6_of_27 : decode cX6_of 27 = .ok (.goto 35, 3) := by decide +kernel
theorem dX6_of_30 : decode cX6_of 30 = .ok (.iload_n 2, 1) := by decide +kernel
theorem dX6_of_31 : decode cX6_of 31 = .ok (.iconst 1, 1) := by decide +kernel
theorem dX6_of_32 : decode cX6_of 32 = .ok (.if_icmp .ne 12, 3) := by decide +kernel
theorem dX6_of_35 : decode cX6_of 35 = .ok (.aload_n 0, 1) := by decide +kernel
theorem dX6_of_36 : decode cX6_of 36 = .ok (.getfield 30, 3) := by decide +kernel
theorem dX6_of_39 : decode cX6_of 39 = .ok (.iload_n 1, 1) := by decide +kernel
theorem dX6_of_40 : decode cX6_of 40 = .ok (.laload, 1) := by decide +kernel
theorem dX6_of_41 : decode cX6_of 41 = .ok (.goto 21, 3) := by decide +kernel
theorem dX6_of_44 : decode cX6_of 44 = .ok (.iload_n 2, 1) := by decide +kernel
theorem dX6_of_45 : decode cX6_of 45 = .ok (.iconst 2, 1) := by decide +kernel
theorem dX6_of_46 : decode cX6_of 46 = .ok (.if_icmp .ne 13, 3) := by decide +kernel
theorem dX6_of_49 : decode cX6_of 49 = .ok (.aload_n 0, 1) := by decide +kernel
theorem dX6_of_50 : decode cX6_of 50 = .ok (.getfield 33, 3) := by decide +kernel
theorem dX6_of_53 : decode cX6_of 53 = .ok (.iload_n 1, 1) := by decide +kernel
theorem dX6_of_54 : decode cX6_of 54 = .ok (.iaload, 1) := by decide +kernel
theorem dX6_of_55 : decode cX6_of 55 = .ok (.i2l, 1) := by decide +kernel
theorem dX6_of_56 : decode cX6_of 56 = .ok (.goto 6, 3) := by decide +kernel
theorem dX6_of_59 : decode cX6_of 59 = .ok (.ldc2_w 89, 3) := by decide +kernel
theorem dX6_of_62 : decode cX6_of 62 = .ok (.lreturn, 1) := by decide +kernel
theorem dX6_terms_0 : decode cX6_terms 0 = .ok (.aload_n 0, 1) := by decide +kernel
theorem dX6_terms_1 : decode cX6_terms 1 = .ok (.getfield 46, 3) := by decide +kernel
theorem dX6_terms_4 : decode cX6_terms 4 = .ok (.ireturn, 1) := by decide +kernel
theorem dX6_letters_0 : decode cX6_letters 0 = .ok (.aload_n 0, 1) := by decide +kernel
theorem dX6_letters_1 : decode cX6_letters 1 = .ok (.getfield 61, 3) := by decide +kernel
theorem dX6_letters_4 : decode cX6_letters 4 = .ok (.ireturn, 1) := by decide +kernel
theorem dX6_term_0 : decode cX6_term 0 = .ok (.iload_n 1, 1) := by decide +kernel
theorem dX6_term_1 : decode cX6_term 1 = .ok (.ifCond .lt 39, 3) := by decide +kernel
theorem dX6_term_4 : decode cX6_term 4 = .ok (.iload_n 1, 1) := by decide +kernel
theorem dX6_term_5 : decode cX6_term 5 = .ok (.aload_n 0, 1) := by decide +kernel
theorem dX6_term_6 : decode cX6_term 6 = .ok (.getfield 46, 3) := by decide +kernel
theorem dX6_term_9 : decode cX6_term 9 = .ok (.if_icmp .ge 31, 3) := by decide +kernel
theorem dX6_term_12 : decode cX6_term 12 = .ok (.iload_n 2, 1) := by decide +kernel
theorem dX6_term_13 : decode cX6_term 13 = .ok (.ifCond .lt 27, 3) := by decide +kernel
theorem dX6_term_16 : decode cX6_term 16 = .ok (.iload_n 2, 1) := by decide +kernel
theorem dX6_term_17 : decode cX6_term 17 = .ok (.aload_n 0, 1) := by decide +kernel
theorem dX6_term_18 : decode cX6_term 18 = .ok (.getfield 16, 3) := by decide +kernel
theorem dX6_term_21 : decode cX6_term 21 = .ok (.iload_n 1, 1) := by decide +kernel
theorem dX6_term_22 : decode cX6_term 22 = .ok (.iaload, 1) := by decide +kernel
theorem dX6_term_23 : decode cX6_term 23 = .ok (.if_icmp .ge 17, 3) := by decide +kernel
theorem dX6_term_26 : decode cX6_term 26 = .ok (.aload_n 0, 1) := by decide +kernel
theorem dX6_term_27 : decode cX6_term 27 = .ok (.getfield 13, 3) := by decide +kernel
theorem dX6_term_30 : decode cX6_term 30 = .ok (.bipush 24, 2) := by decide +kernel
theorem dX6_term_32 : decode cX6_term 32 = .ok (.iload_n 1, 1) := by decide +kernel
theorem dX6_term_33 : decode cX6_term 33 = .ok (.imul, 1) := by decide +kernel
theorem dX6_term_34 : decode cX6_term 34 = .ok (.iload_n 2, 1) := by decide +kernel
theorem dX6_term_35 : decode cX6_term 35 = .ok (.iadd, 1) := by decide +kernel
theorem dX6_term_36 : decode cX6_term 36 = .ok (.baload, 1) := by decide +kernel
theorem dX6_term_37 : decode cX6_term 37 = .ok (.goto 4, 3) := by decide +kernel
theorem dX6_term_40 : decode cX6_term 40 = .ok (.iconst (-1), 1) := by decide +kernel
theorem dX6_term_41 : decode cX6_term 41 = .ok (.ireturn, 1) := by decide +kernel
theorem dX6_prefixes_0 : decode cX6_prefixes 0 = .ok (.aload_n 0, 1) := by decide +kernel
theorem dX6_prefixes_1 : decode cX6_prefixes 1 = .ok (.getfield 46, 3) := by decide +kernel
theorem dX6_prefixes_4 : decode cX6_prefixes 4 = .ok (.ifCond .ne 7, 3) := by decide +kernel
theorem dX6_prefixes_7 : decode cX6_prefixes 7 = .ok (.iconst 0, 1) := by decide +kernel
theorem dX6_prefixes_8 : decode cX6_prefixes 8 = .ok (.goto 4, 3) := by decide +kernel
theorem dX6_prefixes_11 : decode cX6_prefixes 11 = .ok (.iconst 1, 1) := by decide +kernel
theorem dX6_prefixes_12 : decode cX6_prefixes 12 = .ok (.istore_n 1, 1) := by decide +kernel
theorem dX6_prefixes_13 : decode cX6_prefixes 13 = .ok (.iconst 0, 1) := by decide +kernel
theorem dX6_prefixes_14 : decode cX6_prefixes 14 = .ok (.istore_n 2, 1) := by decide +kernel
theorem dX6_prefixes_15 : decode cX6_prefixes 15 = .ok (.iload_n 2, 1) := by decide +kernel
theorem dX6_prefixes_16 : decode cX6_prefixes 16 = .ok (.aload_n 0, 1) := by decide +kernel
theorem dX6_prefixes_17 : decode cX6_prefixes 17 = .ok (.getfield 46, 3) := by decide +kernel
theorem dX6_prefixes_20 : decode cX6_prefixes 20 = .ok (.if_icmp .ge 81, 3) := by decide +kernel
theorem dX6_prefixes_23 : decode cX6_prefixes 23 = .ok (.iconst 0, 1) := by decide +kernel
theorem dX6_prefixes_24 : decode cX6_prefixes 24 = .ok (.istore_n 3, 1) := by decide +kernel
theorem dX6_prefixes_25 : decode cX6_prefixes 25 = .ok (.iload_n 2, 1) := by decide +kernel
theorem dX6_prefixes_26 : decode cX6_prefixes 26 = .ok (.ifCond .le 58, 3) := by decide +kernel
theorem dX6_prefixes_29 : decode cX6_prefixes 29 = .ok (.iload_n 3, 1) := by decide +kernel
theorem dX6_prefixes_30 : decode cX6_prefixes 30 = .ok (.aload_n 0, 1) := by decide +kernel
theorem dX6_prefixes_31 : decode cX6_prefixes 31 = .ok (.getfield 16, 3) := by decide +kernel
theorem dX6_prefixes_34 : decode cX6_prefixes 34 = .ok (.iload_n 2, 1) := by decide +kernel
theorem dX6_prefixes_35 : decode cX6_prefixes 35 = .ok (.iconst 1, 1) := by decide +kernel
theorem dX6_prefixes_36 : decode cX6_prefixes 36 = .ok (.isub, 1) := by decide +kernel
theorem dX6_prefixes_37 : decode cX6_prefixes 37 = .ok (.iaload, 1) := by decide +kernel
theorem dX6_prefixes_38 : decode cX6_prefixes 38 = .ok (.if_icmp .ge 46, 3) := by decide +kernel
theorem dX6_prefixes_41 : decode cX6_prefixes 41 = .ok (.iload_n 3, 1) := by decide +kernel
theorem dX6_prefixes_42 : decode cX6_prefixes 42 = .ok (.aload_n 0, 1) := by decide +kernel
theorem dX6_prefixes_43 : decode cX6_prefixes 43 = .ok (.getfield 16, 3) := by decide +kernel
theorem dX6_prefixes_46 : decode cX6_prefixes 46 = .ok (.iload_n 2, 1) := by decide +kernel
theorem dX6_prefixes_47 : decode cX6_prefixes 47 = .ok (.iaload, 1) := by decide +kernel
theorem dX6_prefixes_48 : decode cX6_prefixes 48 = .ok (.if_icmp .ge 36, 3) := by decide +kernel
theorem dX6_prefixes_51 : decode cX6_prefixes 51 = .ok (.aload_n 0, 1) := by decide +kernel
theorem dX6_prefixes_52 : decode cX6_prefixes 52 = .ok (.getfield 13, 3) := by decide +kernel
theorem dX6_prefixes_55 : decode cX6_prefixes 55 = .ok (.bipush 24, 2) := by decide +kernel
theorem dX6_prefixes_57 : decode cX6_prefixes 57 = .ok (.iload_n 2, 1) := by decide +kernel
theorem dX6_prefixes_58 : decode cX6_prefixes 58 = .ok (.iconst 1, 1) := by decide +kernel
theorem dX6_prefixes_59 : decode cX6_prefixes 59 = .ok (.isub, 1) := by decide +kernel
theorem dX6_prefixes_60 : decode cX6_prefixes 60 = .ok (.imul, 1) := by decide +kernel
theorem dX6_prefixes_61 : decode cX6_prefixes 61 = .ok (.iload_n 3, 1) := by decide +kernel
theorem dX6_prefixes_62 : decode cX6_prefixes 62 = .ok (.iadd, 1) := by decide +kernel
theorem dX6_prefixes_63 : decode cX6_prefixes 63 = .ok (.baload, 1) := by decide +kernel
theorem dX6_prefixes_64 : decode cX6_prefixes 64 = .ok (.aload_n 0, 1) := by decide +kernel
theorem dX6_prefixes_65 : decode cX6_prefixes 65 = .ok (.getfield 13, 3) := by decide +kernel
theorem dX6_prefixes_68 : decode cX6_prefixes 68 = .ok (.bipush 24, 2) := by decide +kernel
theorem dX6_prefixes_70 : decode cX6_prefixes 70 = .ok (.iload_n 2, 1) := by decide +kernel
theorem dX6_prefixes_71 : decode cX6_prefixes 71 = .ok (.imul, 1) := by decide +kernel
theorem dX6_prefixes_72 : decode cX6_prefixes 72 = .ok (.iload_n 3, 1) := by decide +kernel
theorem dX6_prefixes_73 : decode cX6_prefixes 73 = .ok (.iadd, 1) := by decide +kernel
theorem dX6_prefixes_74 : decode cX6_prefixes 74 = .ok (.baload, 1) := by decide +kernel
theorem dX6_prefixes_75 : decode cX6_prefixes 75 = .ok (.if_icmp .ne 9, 3) := by decide +kernel
theorem dX6_prefixes_78 : decode cX6_prefixes 78 = .ok (.iinc 3 1, 3) := by decide +kernel
theorem dX6_prefixes_81 : decode cX6_prefixes 81 = .ok (.goto (-56), 3) := by decide +kernel
theorem dX6_prefixes_84 : decode cX6_prefixes 84 = .ok (.iload_n 1, 1) := by decide +kernel
theorem dX6_prefixes_85 : decode cX6_prefixes 85 = .ok (.aload_n 0, 1) := by decide +kernel
theorem dX6_prefixes_86 : decode cX6_prefixes 86 = .ok (.getfield 16, 3) := by decide +kernel
theorem dX6_prefixes_89 : decode cX6_prefixes 89 = .ok (.iload_n 2, 1) := by decide +kernel
theorem dX6_prefixes_90 : decode cX6_prefixes 90 = .ok (.iaload, 1) := by decide +kernel
theorem dX6_prefixes_91 : decode cX6_prefixes 91 = .ok (.iload_n 3, 1) := by decide +kernel
theorem dX6_prefixes_92 : decode cX6_prefixes 92 = .ok (.isub, 1) := by decide +kernel
theorem dX6_prefixes_93 : decode cX6_prefixes 93 = .ok (.iadd, 1) := by decide +kernel
theorem dX6_prefixes_94 : decode cX6_prefixes 94 = .ok (.istore_n 1, 1) := by decide +kernel
theorem dX6_prefixes_95 : decode cX6_prefixes 95 = .ok (.iinc 2 1, 3) := by decide +kernel
theorem dX6_prefixes_98 : decode cX6_prefixes 98 = .ok (.goto (-83), 3) := by decide +kernel
theorem dX6_prefixes_101 : decode cX6_prefixes 101 = .ok (.iload_n 1, 1) := by decide +kernel
theorem dX6_prefixes_102 : decode cX6_prefixes 102 = .ok (.ireturn, 1) := by decide +kernel

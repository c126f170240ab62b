theorem dX9_isSo_55 : decode cX9_isSo 55 = .ok (.if_icmp .ne 25, 3) := by decide +kernel
theorem dX9_isSo_58 : decode cX9_isSo 58 = .ok (.iload_n 2, 1) := by decide +kernel
theorem dX9_isSo_59 : decode cX9_isSo 59 = .ok (.iconst 1, 1) := by decide +kernel
theorem dX9_isSo_60 : decode cX9_isSo 60 = .ok (.if_icmp .eq 14, 3) := by decide +kernel
theorem dX9_isSo_63 : decode cX9_isSo 63 = .ok (.aload_n 0, 1) := by decide +kernel
theorem dX9_isSo_64 : decode cX9_isSo 64 = .ok (.getfield 205, 3) := by decide +kernel
theorem dX9_isSo_67 : decode cX9_isSo 67 = .ok (.aload_n 0, 1) := by decide +kernel
theorem dX9_isSo_68 : decode cX9_isSo 68 = .ok (.getfield 129, 3) := by decide +kernel
theorem dX9_isSo_71 : decode cX9_isSo 71 = .ok (.if_icmp .ge 7, 3) := by decide +kernel
theorem dX9_isSo_74 : decode cX9_isSo 74 = .ok (.iconst 1, 1) := by decide +kernel
theorem dX9_isSo_75 : decode cX9_isSo 75 = .ok (.goto 4, 3) := by decide +kernel
theorem dX9_isSo_78 : decode cX9_isSo 78 = .ok (.iconst 0, 1) := by decide +kernel
theorem dX9_isSo_79 : decode cX9_isSo 79 = .ok (.ireturn, 1) := by decide +kernel
theorem dX9_isSo_80 : decode cX9_isSo 80 = .ok (.iload_n 2, 1) := by decide +kernel
theorem dX9_isSo_81 : decode cX9_isSo 81 = .ok (.ifCond .ne 52, 3) := by decide +kernel
theorem dX9_isSo_84 : decode cX9_isSo 84 = .ok (.aload_n 0, 1) := by decide +kernel
theorem dX9_isSo_85 : decode cX9_isSo 85 = .ok (.getfield 205, 3) := by decide +kernel
theorem dX9_isSo_88 : decode cX9_isSo 88 = .ok (.aload_n 0, 1) := by decide +kernel
theorem dX9_isSo_89 : decode cX9_isSo 89 = .ok (.getfield 126, 3) := by decide +kernel
theorem dX9_isSo_92 : decode cX9_isSo 92 = .ok (.if_icmp .ge 39, 3) := by decide +kernel
theorem dX9_isSo_95 : decode cX9_isSo 95 = .ok (.aload_n 0, 1) := by decide +kernel
theorem dX9_isSo_96 : decode cX9_isSo 96 = .ok (.getfield 38, 3) := by decide +kernel
theorem dX9_isSo_99 : decode cX9_isSo 99 = .ok (.aload_n 0, 1) := by decide +kernel
theorem dX9_isSo_100 : decode cX9_isSo 100 = .ok (.getfield 205, 3) := by decide +kernel
theorem dX9_isSo_103 : decode cX9_isSo 103 = .ok (.iaload, 1) := by decide +kernel
theorem dX9_isSo_104 : decode cX9_isSo 104 = .ok (.bipush 99, 2) := by decide +kernel
theorem dX9_isSo_106 : decode cX9_isSo 106 = .ok (.if_icmp .ne 7, 3) := by decide +kernel
theorem dX9_isSo_109 : decode cX9_isSo 109 = .ok (.iconst 1, 1) := by decide +kernel
theorem dX9_isSo_110 : decode cX9_isSo 110 = .ok (.goto 4, 3) := by decide +kernel
theorem dX9_isSo_113 : decode cX9_isSo 113 = .ok (.iconst 0, 1) := by decide +kernel
theorem dX9_isSo_114 : decode cX9_isSo 114 = .ok (.iload_n 1, 1) := by decide +kernel
theorem dX9_isSo_115 : decode cX9_isSo 115 = .ok (.iconst 2, 1) := by decide +kernel
theorem dX9_isSo_116 : decode cX9_isSo 116 = .ok (.if_icmp .ne 7, 3) := by decide +kernel
theorem dX9_isSo_119 : decode cX9_isSo 119 = .ok (.iconst 1, 1) := by decide +kernel
theorem dX9_isSo_120 : decode cX9_isSo 120 = .ok (.goto 4, 3) := by decide +kernel
theorem dX9_isSo_123 : decode cX9_isSo 123 = .ok (.iconst 0, 1) := by decide +kernel
theorem dX9_isSo_124 : decode cX9_isSo 124 = .ok (.if_icmp .ne 7, 3) := by decide +kernel
theorem dX9_isSo_127 : decode cX9_isSo 127 = .ok (.iconst 1, 1) := by decide +kernel
theorem dX9_isSo_128 : decode cX9_isSo 128 = .ok (.goto 4, 3) := by decide +kernel
theorem dX9_isSo_131 : decode cX9_isSo 131 = .ok (.iconst 0, 1) := by decide +kernel
theorem dX9_isSo_132 : decode cX9_isSo 132 = .ok (.ireturn, 1) := by decide +kernel
theorem dX9_isSo_133 : decode cX9_isSo 133 = .ok (.aload_n 0, 1) := by decide +kernel
theorem dX9_isSo_134 : decode cX9_isSo 134 = .ok (.getfield 205, 3) := by decide +kernel
theorem dX9_isSo_137 : decode cX9_isSo 137 = .ok (.aload_n 0, 1) := by decide +kernel
theorem dX9_isSo_138 : decode cX9_isSo 138 = .ok (.getfield 129, 3) := by decide +kernel
theorem dX9_isSo_141 : decode cX9_isSo 141 = .ok (.if_icmp .ge 58, 3) := by decide +kernel
theorem dX9_isSo_144 : decode cX9_isSo 144 = .ok (.aload_n 0, 1) := by decide +kernel
theorem dX9_isSo_145 : decode cX9_isSo 145 = .ok (.aload_n 0, 1) := by decide +kernel
theorem dX9_isSo_146 : decode cX9_isSo 146 = .ok (.getfield 205, 3) := by decide +kernel
theorem dX9_isSo_149 : decode cX9_isSo 149 = .ok (.aload_n 0, 1) := by decide +kernel
theorem dX9_isSo_150 : decode cX9_isSo 150 = .ok (.getfield 26, 3) := by decide +kernel
theorem dX9_isSo_153 : decode cX9_isSo 153 = .ok (.aload_n 0, 1) := by decide +kernel
theorem dX9_isSo_154 : decode cX9_isSo 154 = .ok (.getfield 96, 3) := by decide +kernel
theorem dX9_isSo_157 : decode cX9_isSo 157 = .ok (.iconst 0, 1) := by decide +kernel
theorem dX9_isSo_158 : decode cX9_isSo 158 = .ok (.iaload, 1) := by decide +kernel
theorem dX9_isSo_159 : decode cX9_isSo 159 = .ok (.iaload, 1) := by decide +kernel
theorem dX9_isSo_160 : decode cX9_isSo 160 = .ok (.invokevirtual 160, 3) := by decide +kernel
theorem dX9_isSo_163 : decode cX9_isSo 163 = .ok (.iconst (-1), 1) := by decide +kernel
theorem dX9_isSo_164 : decode cX9_isSo 164 = .ok (.if_icmp .ne 35, 3) := by decide +kernel
theorem dX9_isSo_167 : decode cX9_isSo 167 = .ok (.aload_n 0, 1) := by decide +kernel
theorem dX9_isSo_168 : decode cX9_isSo 168 = .ok (.aload_n 0, 1) := by decide +kernel
theorem dX9_isSo_169 : decode cX9_isSo 169 = .ok (.getfield 96, 3) := by decide +kernel
theorem dX9_isSo_172 : decode cX9_isSo 172 = .ok (.iconst 0, 1) := by decide +kernel
theorem dX9_isSo_173 : decode cX9_isSo 173 = .ok (.iaload, 1) := by decide +kernel
theorem dX9_isSo_174 : decode cX9_isSo 174 = .ok (.aload_n 0, 1) := by decide +kernel
theorem dX9_isSo_175 : decode cX9_isSo 175 = .ok (.getfield 205, 3) := by decide +kernel
theorem dX9_isSo_178 : decode cX9_isSo 178 = .ok (.aload_n 0, 1) := by decide +kernel
theorem dX9_isSo_179 : decode cX9_isSo 179 = .ok (.getfield 26, 3) := by decide +kernel
theorem dX9_isSo_182 : decode cX9_isSo 182 = .ok (.aload_n 0, 1) := by decide +kernel
theorem dX9_isSo_183 : decode cX9_isSo 183 = .ok (.getfield 96, 3) := by decide +kernel
theorem dX9_isSo_186 : decode cX9_isSo 186 = .ok (.iconst 0, 1) := by decide +kernel
theorem dX9_isSo_187 : decode cX9_isSo 187 = .ok (.iaload, 1) := by decide +kernel
theorem dX9_isSo_188 : decode cX9_isSo 188 = .ok (.iaload, 1) := by decide +kernel
theorem dX9_isSo_189 : decode cX9_isSo 189 = .ok (.invokevirtual 215, 3) := by decide +kernel
theorem dX9_isSo_192 : decode cX9_isSo 192 = .ok (.ifCond .eq 7, 3) := by decide +kernel
theorem dX9_isSo_195 : decode cX9_isSo 195 = .ok (.iconst 1, 1) := by decide +kernel
theorem dX9_isSo_196 : decode cX9_isSo 196 = .ok (.goto 4, 3) := by decide +kernel
theorem dX9_isSo_199 : decode cX9_isSo 199 = .ok (.iconst 0, 1) := by decide +kernel
theorem dX9_isSo_200 : decode cX9_isSo 200 = .ok (.ireturn, 1) := by decide +kernel
theorem dX9_item_0 : decode cX9_item 0 = .ok (.aload_n 0, 1) := by decide +kernel
theorem dX9_item_1 : decode cX9_item 1 = .ok (.iconst 0, 1) := by decide +kernel
theorem dX9_item_2 : decode cX9_item 2 = .ok (.invokevirtual 218, 3) := by decide +kernel
theorem dX9_item_5 : decode cX9_item 5 = .ok (.ifCond .eq 12, 3) := by decide +kernel
theorem dX9_item_8 : decode cX9_item 8 = .ok (.aload_n 0, 1) := by decide +kernel
theorem dX9_item_9 : decode cX9_item 9 = .ok (.getfield 126, 3) := by decide +kernel
theorem dX9_item_12 : decode cX9_item 12 = .ok (.bipush 8, 2) := by decide +kernel
theorem dX9_item_14 : decode cX9_item 14 = .ok (.if_icmp .eq 19, 3) := by decide +kernel
theorem dX9_item_17 : decode cX9_item 17 = .ok (.aload_n 0, 1) := by decide +kernel
theorem dX9_item_18 : decode cX9_item 18 = .ok (.iconst 1, 1) := by decide +kernel
theorem dX9_item_19 : decode cX9_item 19 = .ok (.invokevirtual 218, 3) := by decide +kernel
theorem dX9_item_22 : decode cX9_item 22 = .ok (.ifCond .eq 20, 3) := by decide +kernel
theorem dX9_item_25 : decode cX9_item 25 = .ok (.aload_n 0, 1) := by decide +kernel
theorem dX9_item_26 : decode cX9_item 26 = .ok (.getfield 129, 3) := by decide +kernel
theorem dX9_item_29 : decode cX9_item 29 = .ok (.iconst 5, 1) := by decide +kernel
theorem dX9_item_30 : decode cX9_item 30 = .ok (.if_icmp .ne 12, 3) := by decide +kernel
theorem dX9_item_33 : decode cX9_item 33 = .ok (.aload_n 0, 1) := by decide +kernel
theorem dX9_item_34 : decode cX9_item 34 = .ok (.aload_n 0, 1) := by decide +kernel
theorem dX9_item_35 : decode cX9_item 35 = .ok (.getfield 196, 3) := by decide +kernel
theorem dX9_item_38 : decode cX9_item 38 = .ok (.invokevirtual 212, 3) := by decide +kernel
theorem dX9_item_41 : decode cX9_item 41 = .ok (.ireturn, 1) := by decide +kernel
theorem dX9_item_42 : decode cX9_item 42 = .ok (.aload_n 0, 1) := by decide +kernel
theorem dX9_item_43 : decode cX9_item 43 = .ok (.invokevirtual 221, 3) := by decide +kernel
theorem dX9_item_46 : decode cX9_item 46 = .ok (.istore_n 1, 1) := by decide +kernel
theorem dX9_item_47 : decode cX9_item 47 = .ok (.iload_n 1, 1) := by decide +kernel
theorem dX9_item_48 : decode cX9_item 48 = .ok (.iconst (-1), 1) := by decide +kernel
theorem dX9_item_49 : decode cX9_item 49 = .ok (.if_icmp .ne 5, 3) := by decide +kernel
theorem dX9_item_52 : decode cX9_item 52 = .ok (.iconst 0, 1) := by decide +kernel
theorem dX9_item_53 : decode cX9_item 53 = .ok (.ireturn, 1) := by decide +kernel
theorem dX9_item_54 : decode cX9_item 54 = .ok (.iconst 0, 1) := by decide +kernel
theorem dX9_item_55 : decode cX9_item 55 = .ok (.istore_n 2, 1) := by decide +kernel
theorem dX9_item_56 : decode cX9_item 56 = .ok (.iload_n 2, 1) := by decide +kernel
theorem dX9_item_57 : decode cX9_item 57 = .ok (.aload_n 0, 1) := by decide +kernel
theorem dX9_item_58 : decode cX9_item 58 = .ok (.getfield 87, 3) := by decide +kernel
theorem dX9_item_61 : decode cX9_item 61 = .ok (.iload_n 1, 1) := by decide +kernel
theorem dX9_item_62 : decode cX9_item 62 = .ok (.iaload, 1) := by decide +kernel
theorem dX9_item_63 : decode cX9_item 63 = .ok (.if_icmp .ge 102, 3) := by decide +kernel
theorem dX9_item_66 : decode cX9_item 66 = .ok (.iload_n 2, 1) := by decide +kernel
theorem dX9_item_67 : decode cX9_item 67 = .ok (.ifCond .le 53, 3) := by decide +kernel
theorem dX9_item_70 : decode cX9_item 70 = .ok (.aload_n 0, 1) := by decide +kernel
theorem dX9_item_71 : decode cX9_item 71 = .ok (.getfield 196, 3) := by decide +kernel
theorem dX9_item_74 : decode cX9_item 74 = .ok (.aload_n 0, 1) := by decide +kernel
theorem dX9_item_75 : decode cX9_item 75 = .ok (.getfield 199, 3) := by decide +kernel
theorem dX9_item_78 : decode cX9_item 78 = .ok (.if_icmp .ge 23, 3) := by decide +kernel
theorem dX9_item_81 : decode cX9_item 81 = .ok (.aload_n 0, 1) := by decide +kernel
theorem dX9_item_82 : decode cX9_item 82 = .ok (.getfield 77, 3) := by decide +kernel
theorem dX9_item_85 : decode cX9_item 85 = .ok (.aload_n 0, 1) := by decide +kernel
theorem dX9_item_86 : decode cX9_item 86 = .ok (.getfield 202, 3) := by decide +kernel
theorem dX9_item_89 : decode cX9_item 89 = .ok (.aload_n 0, 1) := by decide +kernel
theorem dX9_item_90 : decode cX9_item 90 = .ok (.getfield 196, 3) := by decide +kernel
theorem dX9_item_93 : decode cX9_item 93 = .ok (.iadd, 1) := by decide +kernel
theorem dX9_item_94 : decode cX9_item 94 = .ok (.laload, 1) := by decide +kernel
theorem dX9_item_95 : decode cX9_item 95 = .ok (.l2i, 1) := by decide +kernel
theorem dX9_item_96 : decode cX9_item 96 = .ok (.bipush 32, 2) := by decide +kernel
theorem dX9_item_98 : decode cX9_item 98 = .ok (.if_icmp .eq 12, 3) := by decide +kernel
theorem dX9_item_101 : decode cX9_item 101 = .ok (.aload_n 0, 1) := by decide +kernel
theorem dX9_item_102 : decode cX9_item 102 = .ok (.aload_n 0, 1) := by decide +kernel
theorem dX9_item_103 : decode cX9_item 103 = .ok (.getfield 196, 3) := by decide +kernel
theorem dX9_item_106 : decode cX9_item 106 = .ok (.invokevirtual 212, 3) := by decide +kernel
theorem dX9_item_109 : decode cX9_item 109 = .ok (.ireturn, 1) := by decide +kernel
theorem dX9_item_110 : decode cX9_item 110 = .ok (.aload_n 0, 1) := by decide +kernel
theorem dX9_item_111 : decode cX9_item 111 = .ok (.dup, 1) := by decide +kernel
theorem dX9_item_112 : decode cX9_item 112 = .ok (.getfield 196, 3) := by decide +kernel
theorem dX9_item_115 : decode cX9_item 115 = .ok (.iconst 1, 1) := by decide +kernel
theorem dX9_item_116 : decode cX9_item 116 = .ok (.iadd, 1) := by decide +kernel
theorem dX9_item_117 : decode cX9_item 117 = .ok (.putfield 196, 3) := by decide +kernel
theorem dX9_item_120 : decode cX9_item 120 = .ok (.aload_n 0, 1) := by decide +kernel
theorem dX9_item_121 : decode cX9_item 121 = .ok (.getfield 196, 3) := by decide +kernel
theorem dX9_item_124 : decode cX9_item 124 = .ok (.istore_n 3, 1) := by decide +kernel
theorem dX9_item_125 : decode cX9_item 125 = .ok (.aload_n 0, 1) := by decide +kernel
theorem dX9_item_126 : decode cX9_item 126 = .ok (.invokevirtual 225, 3) := by decide +kernel
theorem dX9_item_129 : decode cX9_item 129 = .ok (.ifCond .ne 5, 3) := by decide +kernel
theorem dX9_item_132 : decode cX9_item 132 = .ok (.iconst 0, 1) := by decide +kernel
theorem dX9_item_133 : decode cX9_item 133 = .ok (.ireturn, 1) := by decide +kernel
theorem dX9_item_134 : decode cX9_item 134 = .ok (.aload_n 0, 1) := by decide +kernel
theorem dX9_item_135 : decode cX9_item 135 = .ok (.iload_n 1, 1) := by decide +kernel
theorem dX9_item_136 : decode cX9_item 136 = .ok (.iload_n 2, 1) := by decide +kernel
theorem dX9_item_137 : decode cX9_item 137 = .ok (.invokevirtual 228, 3) := by decide +kernel
theorem dX9_item_140 : decode cX9_item 140 = .ok (.ifCond .ne 9, 3) := by decide +kernel
theorem dX9_item_143 : decode cX9_item 143 = .ok (.aload_n 0, 1) := by decide +kernel
theorem dX9_item_144 : decode cX9_item 144 = .ok (.iload_n 3, 1) := by decide +kernel
theorem dX9_item_145 : decode cX9_item 145 = .ok (.invokevirtual 212, 3) := by decide +kernel
theorem dX9_item_148 : decode cX9_item 148 = .ok (.ireturn, 1) := by decide +kernel
theorem dX9_item_149 : decode cX9_item 149 = .ok (.aload_n 0, 1) := by decide +kernel
theorem dX9_item_150 : decode cX9_item 150 = .ok (.getfield 96, 3) := by decide +kernel
theorem dX9_item_153 : decode cX9_item 153 = .ok (.iload_n 2, 1) := by decide +kernel
theorem dX9_item_154 : decode cX9_item 154 = .ok (.aload_n 0, 1) := by decide +kernel
theorem dX9_item_155 : decode cX9_item 155 = .ok (.getfield 205, 3) := by decide +kernel
theorem dX9_item_158 : decode cX9_item 158 = .ok (.iastore, 1) := by decide +kernel
theorem dX9_item_159 : decode cX9_item 159 = .ok (.iinc 2 1, 3) := by decide +kernel
theorem dX9_item_162 : decode cX9_item 162 = .ok (.goto (-106), 3) := by decide +kernel
theorem dX9_item_165 : decode cX9_item 165 = .ok (.iload_n 1, 1) := by decide +kernel
theorem dX9_item_166 : decode cX9_item 166 = .ok (.tableswitch 176 0 3 #[30, 74, 125, 160], 30) := by decide +kernel
theorem dX9_item_196 : decode cX9_item 196 = .ok (.aload_n 0, 1) := by decide +kernel
theorem dX9_item_197 : decode cX9_item 197 = .ok (.aload_n 0, 1) := by decide +kernel
theorem dX9_item_198 : decode cX9_item 198 = .ok (.getfield 96, 3) := by decide +kernel
theorem dX9_item_201 : decode cX9_item 201 = .ok (.iconst 0, 1) := by decide +kernel
theorem dX9_item_202 : decode cX9_item 202 = .ok (.iaload, 1) := by decide +kernel
theorem dX9_item_203 : decode cX9_item 203 = .ok (.aload_n 0, 1) := by decide +kernel
theorem dX9_item_204 : decode cX9_item 204 = .ok (.getfield 96, 3) := by decide +kernel
theorem dX9_item_207 : decode cX9_item 207 = .ok (.iconst 1, 1) := by decide +kernel
theorem dX9_item_208 : decode cX9_item 208 = .ok (.iaload, 1) := by decide +kernel
theorem dX9_item_209 : decode cX9_item 209 = .ok (.aload_n 0, 1) := by decide +kernel
theorem dX9_item_210 : decode cX9_item 210 = .ok (.getfield 96, 3) := by decide +kernel
theorem dX9_item_213 : decode cX9_item 213 = .ok (.iconst 2, 1) := by decide +kernel
theorem dX9_item_214 : decode cX9_item 214 = .ok (.iaload, 1) := by decide +kernel
theorem dX9_item_215 : decode cX9_item 215 = .ok (.aload_n 0, 1) := by decide +kernel
theorem dX9_item_216 : decode cX9_item 216 = .ok (.getfield 96, 3) := by decide +kernel
theorem dX9_item_219 : decode cX9_item 219 = .ok (.iconst 3, 1) := by decide +kernel
theorem dX9_item_220 : decode cX9_item 220 = .ok (.iaload, 1) := by decide +kernel
theorem dX9_item_221 : decode cX9_item 221 = .ok (.aload_n 0, 1) := by decide +kernel
theorem dX9_item_222 : decode cX9_item 222 = .ok (.getfield 96, 3) := by decide +kernel
theorem dX9_item_225 : decode cX9_item 225 = .ok (.iconst 4, 1) := by decide +kernel
theorem dX9_item_226 : decode cX9_item 226 = .ok (.iaload, 1) := by decide +kernel
theorem dX9_item_227 : decode cX9_item 227 = .ok (.aload_n 0, 1) := by decide +kernel
theorem dX9_item_228 : decode cX9_item 228 = .ok (.getfield 96, 3) := by decide +kernel
theorem dX9_item_231 : decode cX9_item 231 = .ok (.iconst 5, 1) := by decide +kernel
theorem dX9_item_232 : decode cX9_item 232 = .ok (.iaload, 1) := by decide +kernel
theorem dX9_item_233 : decode cX9_item 233 = .ok (.invokevirtual 176, 3) := by decide +kernel
theorem dX9_item_236 : decode cX9_item 236 = .ok (.pop, 1) := by decide +kernel
theorem dX9_item_237 : decode cX9_item 237 = .ok (.goto 122, 3) := by decide +kernel
theorem dX9_item_240 : decode cX9_item 240 = .ok (.aload_n 0, 1) := by decide +kernel
theorem dX9_item_241 : decode cX9_item 241 = .ok (.aload_n 0, 1) := by decide +kernel
theorem dX9_item_242 : decode cX9_item 242 = .ok (.getfield 96, 3) := by decide +kernel
theorem dX9_item_245 : decode cX9_item 245 = .ok (.iconst 0, 1) := by decide +kernel
theorem dX9_item_246 : decode cX9_item 246 = .ok (.iaload, 1) := by decide +kernel
theorem dX9_item_247 : decode cX9_item 247 = .ok (.aload_n 0, 1) := by decide +kernel
theorem dX9_item_248 : decode cX9_item 248 = .ok (.getfield 96, 3) := by decide +kernel
theorem dX9_item_251 : decode cX9_item 251 = .ok (.iconst 1, 1) := by decide +kernel
theorem dX9_item_252 : decode cX9_item 252 = .ok (.iaload, 1) := by decide +kernel
theorem dX9_item_253 : decode cX9_item 253 = .ok (.aload_n 0, 1) := by decide +kernel
theorem dX9_item_254 : decode cX9_item 254 = .ok (.getfield 96, 3) := by decide +kernel
theorem dX9_item_257 : decode cX9_item 257 = .ok (.iconst 2, 1) := by decide +kernel
theorem dX9_item_258 : decode cX9_item 258 = .ok (.iaload, 1) := by decide +kernel
theorem dX9_item_259 : decode cX9_item 259 = .ok (.aload_n 0, 1) := by decide +kernel
theorem dX9_item_260 : decode cX9_item 260 = .ok (.getfield 96, 3) := by decide +kernel
theorem dX9_item_263 : decode cX9_item 263 = .ok (.iconst 3, 1) := by decide +kernel
theorem dX9_item_264 : decode cX9_item 264 = .ok (.iaload, 1) := by decide +kernel
theorem dX9_item_265 : decode cX9_item 265 = .ok (.aload_n 0, 1) := by decide +kernel
theorem dX9_item_266 : decode cX9_item 266 = .ok (.getfield 96, 3) := by decide +kernel
theorem dX9_item_269 : decode cX9_item 269 = .ok (.iconst 4, 1) := by decide +kernel
theorem dX9_item_270 : decode cX9_item 270 = .ok (.iaload, 1) := by decide +kernel
theorem dX9_item_271 : decode cX9_item 271 = .ok (.aload_n 0, 1) := by decide +kernel
theorem dX9_item_272 : decode cX9_item 272 = .ok (.getfield 96, 3) := by decide +kernel
theorem dX9_item_275 : decode cX9_item 275 = .ok (.iconst 5, 1) := by decide +kernel
theorem dX9_item_276 : decode cX9_item 276 = .ok (.iaload, 1) := by decide +kernel
theorem dX9_item_277 : decode cX9_item 277 = .ok (.aload_n 0, 1) := by decide +kernel
theorem dX9_item_278 : decode cX9_item 278 = .ok (.getfield 96, 3) := by decide +kernel
theorem dX9_item_281 : decode cX9_item 281 = .ok (.bipush 6, 2) := by decide +kernel
theorem dX9_item_283 : decode cX9_item 283 = .ok (.iaload, 1) := by decide +kernel
theorem dX9_item_284 : decode cX9_item 284 = .ok (.invokevirtual 180, 3) := by decide +kernel
theorem dX9_item_287 : decode cX9_item 287 = .ok (.pop, 1) := by decide +kernel
theorem dX9_item_288 : decode cX9_item 288 = .ok (.goto 71, 3) := by decide +kernel
theorem dX9_item_291 : decode cX9_item 291 = .ok (.aload_n 0, 1) := by decide +kernel
theorem dX9_item_292 : decode cX9_item 292 = .ok (.getfield 38, 3) := by decide +kernel
theorem dX9_item_295 : decode cX9_item 295 = .ok (.aload_n 0, 1) := by decide +kernel
theorem dX9_item_296 : decode cX9_item 296 = .ok (.getfield 96, 3) := by decide +kernel
theorem dX9_item_299 : decode cX9_item 299 = .ok (.iconst 0, 1) := by decide +kernel
theorem dX9_item_300 : decode cX9_item 300 = .ok (.iaload, 1) := by decide +kernel
theorem dX9_item_301 : decode cX9_item 301 = .ok (.bipush 10, 2) := by decide +kernel
theorem dX9_item_303 : decode cX9_item 303 = .ok (.aload_n 0, 1) := by decide +kernel
theorem dX9_item_304 : decode cX9_item 304 = .ok (.getfield 96, 3) := by decide +kernel
theorem dX9_item_307 : decode cX9_item 307 = .ok (.iconst 1, 1) := by decide +kernel
theorem dX9_item_308 : decode cX9_item 308 = .ok (.iaload, 1) := by decide +kernel
theorem dX9_item_309 : decode cX9_item 309 = .ok (.imul, 1) := by decide +kernel
theorem dX9_item_310 : decode cX9_item 310 = .ok (.aload_n 0, 1) := by decide +kernel
theorem dX9_item_311 : decode cX9_item 311 = .ok (.getfield 26, 3) := by decide +kernel
theorem dX9_item_314 : decode cX9_item 314 = .ok (.aload_n 0, 1) := by decide +kernel
theorem dX9_item_315 : decode cX9_item 315 = .ok (.getfield 96, 3) := by decide +kernel
theorem dX9_item_318 : decode cX9_item 318 = .ok (.iconst 0, 1) := by decide +kernel
theorem dX9_item_319 : decode cX9_item 319 = .ok (.iaload, 1) := by decide +kernel
theorem dX9_item_320 : decode cX9_item 320 = .ok (.iaload, 1) := by decide +kernel
theorem dX9_item_321 : decode cX9_item 321 = .ok (.iadd, 1) := by decide +kernel
theorem dX9_item_322 : decode cX9_item 322 = .ok (.iastore, 1) := by decide +kernel
theorem dX9_item_323 : decode cX9_item 323 = .ok (.goto 36, 3) := by decide +kernel
theorem dX9_item_326 : decode cX9_item 326 = .ok (.aload_n 0, 1) := by decide +kernel
theorem dX9_item_327 : decode cX9_item 327 = .ok (.getfield 38, 3) := by decide +kernel
theorem dX9_item_330 : decode cX9_item 330 = .ok (.aload_n 0, 1) := by decide +kernel
theorem dX9_item_331 : decode cX9_item 331 = .ok (.getfield 96, 3) := by decide +kernel
theorem dX9_item_334 : decode cX9_item 334 = .ok (.iconst 0, 1) := by decide +kernel
theorem dX9_item_335 : decode cX9_item 335 = .ok (.iaload, 1) := by decide +kernel
theorem dX9_item_336 : decode cX9_item 336 = .ok (.bipush 99, 2) := by decide +kernel
theorem dX9_item_338 : decode cX9_item 338 = .ok (.iastore, 1) := by decide +kernel
theorem dX9_item_339 : decode cX9_item 339 = .ok (.goto 20, 3) := by decide +kernel
theorem dX9_item_342 : decode cX9_item 342 = .ok (.aload_n 0, 1) := by decide +kernel
theorem dX9_item_343 : decode cX9_item 343 = .ok (.getfield 62, 3) := by decide +kernel
theorem dX9_item_346 : decode cX9_item 346 = .ok (.aload_n 0, 1) := by decide +kernel
theorem dX9_item_347 : decode cX9_item 347 = .ok (.getfield 96, 3) := by decide +kernel
theorem dX9_item_350 : decode cX9_item 350 = .ok (.iconst 0, 1) := by decide +kernel
theorem dX9_item_351 : decode cX9_item 351 = .ok (.iaload, 1) := by decide +kernel
theorem dX9_item_352 : decode cX9_item 352 = .ok (.aload_n 0, 1) := by decide +kernel
theorem dX9_item_353 : decode cX9_item 353 = .ok (.getfield 96, 3) := by decide +kernel
theorem dX9_item_356 : decode cX9_item 356 = .ok (.iconst 1, 1) := by decide +kernel
theorem dX9_item_357 : decode cX9_item 357 = .ok (.iaload, 1) := by decide +kernel
theorem dX9_item_358 : decode cX9_item 358 = .ok (.iastore, 1) := by decide +kernel
theorem dX9_item_359 : decode cX9_item 359 = .ok (.iconst 1, 1) := by decide +kernel
theorem dX9_item_360 : decode cX9_item 360 = .ok (.ireturn, 1) := by decide +kernel
theorem dX9_carries_0 : decode cX9_carries 0 = .ok (.iconst 0, 1) := by decide +kernel
theorem dX9_carries_1 : decode cX9_carries 1 = .ok (.istore 6, 2) := by decide +kernel
theorem dX9_carries_3 : decode cX9_carries 3 = .ok (.iload 6, 2) := by decide +kernel
theorem dX9_carries_5 : decode cX9_carries 5 = .ok (.iload_n 2, 1) := by decide +kernel
theorem dX9_carries_6 : decode cX9_carries 6 = .ok (.if_icmp .ge 39, 3) := by decide +kernel
theorem dX9_carries_9 : decode cX9_carries 9 = .ok (.iload 5, 2) := by decide +kernel
theorem dX9_carries_11 : decode cX9_carries 11 = .ok (.ifCond .eq 17, 3) := by decide +kernel
theorem dX9_carries_14 : decode cX9_carries 14 = .ok (.aload_n 1, 1) := by decide +kernel
theorem dX9_carries_15 : decode cX9_carries 15 = .ok (.iload 6, 2) := by decide +kernel
theorem dX9_carries_17 : decode cX9_carries 17 = .ok (.aload_n 3, 1) := by decide +kernel
theorem dX9_carries_18 : decode cX9_carries 18 = .ok (.iload 4, 2) := by decide +kernel
theorem dX9_carries_20 : decode cX9_carries 20 = .ok (.iload 6, 2) := by decide +kernel
theorem dX9_carries_22 : decode cX9_carries 22 = .ok (.iadd, 1) := by decide +kernel
theorem dX9_carries_23 : decode cX9_carries 23 = .ok (.iaload, 1) := by decide +kernel
theorem dX9_carries_24 : decode cX9_carries 24 = .ok (.iastore, 1) := by decide +kernel
theorem dX9_carries_25 : decode cX9_carries 25 = .ok (.goto 14, 3) := by decide +kernel
theorem dX9_carries_28 : decode cX9_carries 28 = .ok (.aload_n 3, 1) := by decide +kernel
theorem dX9_carries_29 : decode cX9_carries 29 = .ok (.iload 4, 2) := by decide +kernel
theorem dX9_carries_31 : decode cX9_carries 31 = .ok (.iload 6, 2) := by decide +kernel
theorem dX9_carries_33 : decode cX9_carries 33 = .ok (.iadd, 1) := by decide +kernel
theorem dX9_carries_34 : decode cX9_carries 34 = .ok (.aload_n 1, 1) := by decide +kernel
theorem dX9_carries_35 : decode cX9_carries 35 = .ok (.iload 6, 2) := by decide +kernel
theorem dX9_carries_37 : decode cX9_carries 37 = .ok (.iaload, 1) := by decide +kernel
theorem dX9_carries_38 : decode cX9_carries 38 = .ok (.iastore, 1) := by decide +kernel
theorem dX9_carries_39 : decode cX9_carries 39 = .ok (.iinc 6 1, 3) := by decide +kernel
theorem dX9_carries_42 : decode cX9_carries 42 = .ok (.goto (-39), 3) := by decide +kernel
theorem dX9_carries_45 : decode cX9_carries 45 = .ok (.iload 4, 2) := by decide +kernel
theorem dX9_carries_47 : decode cX9_carries 47 = .ok (.iload_n 2, 1) := by decide +kernel
theorem dX9_carries_48 : decode cX9_carries 48 = .ok (.iadd, 1) := by decide +kernel
theorem dX9_carries_49 : decode cX9_carries 49 = .ok (.ireturn, 1) := by decide +kernel
theorem dX9_all_0 : decode cX9_all 0 = .ok (.aload_n 0, 1) := by decide +kernel
theorem dX9_all_1 : decode cX9_all 1 = .ok (.aload_n 0, 1) := by decide +kernel
theorem dX9_all_2 : decode cX9_all 2 = .ok (.getfield 20, 3) := by decide +kernel
theorem dX9_all_5 : decode cX9_all 5 = .ok (.bipush 8, 2) := by decide +kernel
theorem dX9_all_7 : decode cX9_all 7 = .ok (.aload_n 1, 1) := by decide +kernel
theorem dX9_all_8 : decode cX9_all 8 = .ok (.iconst 0, 1) := by decide +kernel
theorem dX9_all_9 : decode cX9_all 9 = .ok (.iload_n 2, 1) := by decide +kernel
theorem dX9_all_10 : decode cX9_all 10 = .ok (.invokevirtual 231, 3) := by decide +kernel
theorem dX9_all_13 : decode cX9_all 13 = .ok (.istore_n 3, 1) := by decide +kernel
theorem dX9_all_14 : decode cX9_all 14 = .ok (.aload_n 0, 1) := by decide +kernel
theorem dX9_all_15 : decode cX9_all 15 = .ok (.aload_n 0, 1) := by decide +kernel
theorem dX9_all_16 : decode cX9_all 16 = .ok (.getfield 23, 3) := by decide +kernel
theorem dX9_all_19 : decode cX9_all 19 = .ok (.bipush 8, 2) := by decide +kernel
theorem dX9_all_21 : decode cX9_all 21 = .ok (.aload_n 1, 1) := by decide +kernel
theorem dX9_all_22 : decode cX9_all 22 = .ok (.iload_n 3, 1) := by decide +kernel
theorem dX9_all_23 : decode cX9_all 23 = .ok (.iload_n 2, 1) := by decide +kernel
theorem dX9_all_24 : decode cX9_all 24 = .ok (.invokevirtual 231, 3) := by decide +kernel
theorem dX9_all_27 : decode cX9_all 27 = .ok (.istore_n 3, 1) := by decide +kernel
theorem dX9_all_28 : decode cX9_all 28 = .ok (.aload_n 0, 1) := by decide +kernel
theorem dX9_all_29 : decode cX9_all 29 = .ok (.aload_n 0, 1) := by decide +kernel
theorem dX9_all_30 : decode cX9_all 30 = .ok (.getfield 26, 3) := by decide +kernel
theorem dX9_all_33 : decode cX9_all 33 = .ok (.bipush 8, 2) := by decide +kernel
theorem dX9_all_35 : decode cX9_all 35 = .ok (.aload_n 1, 1) := by decide +kernel
theorem dX9_all_36 : decode cX9_all 36 = .ok (.iload_n 3, 1) := by decide +kernel
theorem dX9_all_37 : decode cX9_all 37 = .ok (.iload_n 2, 1) := by decide +kernel
theorem dX9_all_38 : decode cX9_all 38 = .ok (.invokevirtual 231, 3) := by decide +kernel
theorem dX9_all_41 : decode cX9_all 41 = .ok (.istore_n 3, 1) := by decide +kernel
theorem dX9_all_42 : decode cX9_all 42 = .ok (.aload_n 0, 1) := by decide +kernel
theorem dX9_all_43 : decode cX9_all 43 = .ok (.aload_n 0, 1) := by decide +kernel
theorem dX9_all_44 : decode cX9_all 44 = .ok (.getfield 29, 3) := by decide +kernel
theorem dX9_all_47 : decode cX9_all 47 = .ok (.bipush 8, 2) := by decide +kernel
theorem dX9_all_49 : decode cX9_all 49 = .ok (.aload_n 1, 1) := by decide +kernel
theorem dX9_all_50 : decode cX9_all 50 = .ok (.iload_n 3, 1) := by decide +kernel
theorem dX9_all_51 : decode cX9_all 51 = .ok (.iload_n 2, 1) := by decide +kernel
theorem dX9_all_52 : decode cX9_all 52 = .ok (.invokevirtual 231, 3) := by decide +kernel
theorem dX9_all_55 : decode cX9_all 55 = .ok (.istore_n 3, 1) := by decide +kernel
theorem dX9_all_56 : decode cX9_all 56 = .ok (.aload_n 0, 1) := by decide +kernel
theorem dX9_all_57 : decode cX9_all 57 = .ok (.aload_n 0, 1) := by decide +kernel
theorem dX9_all_58 : decode cX9_all 58 = .ok (.getfield 32, 3) := by decide +kernel
theorem dX9_all_61 : decode cX9_all 61 = .ok (.bipush 8, 2) := by decide +kernel
theorem dX9_all_63 : decode cX9_all 63 = .ok (.aload_n 1, 1) := by decide +kernel
theorem dX9_all_64 : decode cX9_all 64 = .ok (.iload_n 3, 1) := by decide +kernel
theorem dX9_all_65 : decode cX9_all 65 = .ok (.iload_n 2, 1) := by decide +kernel
theorem dX9_all_66 : decode cX9_all 66 = .ok (.invokevirtual 231, 3) := by decide +kernel
theorem dX9_all_69 : decode cX9_all 69 = .ok (.istore_n 3, 1) := by decide +kernel
theorem dX9_all_70 : decode cX9_all 70 = .ok (.aload_n 0, 1) := by decide +kernel
theorem dX9_all_71 : decode cX9_all 71 = .ok (.aload_n 0, 1) := by decide +kernel
theorem dX9_all_72 : decode cX9_all 72 = .ok (.getfield 35, 3) := by decide +kernel
theorem dX9_all_75 : decode cX9_all 75 = .ok (.bipush 8, 2) := by decide +kernel
theorem dX9_all_77 : decode cX9_all 77 = .ok (.aload_n 1, 1) := by decide +kernel
theorem dX9_all_78 : decode cX9_all 78 = .ok (.iload_n 3, 1) := by decide +kernel
theorem dX9_all_79 : decode cX9_all 79 = .ok (.iload_n 2, 1) := by decide +kernel
theorem dX9_all_80 : decode cX9_all 80 = .ok (.invokevirtual 231, 3) := by decide +kernel
theorem dX9_all_83 : decode cX9_all 83 = .ok (.istore_n 3, 1) := by decide +kernel
theorem dX9_all_84 : decode cX9_all 84 = .ok (.aload_n 0, 1) := by decide +kernel
theorem dX9_all_85 : decode cX9_all 85 = .ok (.aload_n 0, 1) := by decide +kernel
theorem dX9_all_86 : decode cX9_all 86 = .ok (.getfield 38, 3) := by decide +kernel
theorem dX9_all_89 : decode cX9_all 89 = .ok (.bipush 8, 2) := by decide +kernel
theorem dX9_all_91 : decode cX9_all 91 = .ok (.aload_n 1, 1) := by decide +kernel
theorem dX9_all_92 : decode cX9_all 92 = .ok (.iload_n 3, 1) := by decide +kernel
theorem dX9_all_93 : decode cX9_all 93 = .ok (.iload_n 2, 1) := by decide +kernel
theorem dX9_all_94 : decode cX9_all 94 = .ok (.invokevirtual 231, 3) := by decide +kernel
theorem dX9_all_97 : decode cX9_all 97 = .ok (.istore_n 3, 1) := by decide +kernel
theorem dX9_all_98 : decode cX9_all 98 = .ok (.aload_n 0, 1) := by decide +kernel
theorem dX9_all_99 : decode cX9_all 99 = .ok (.aload_n 0, 1) := by decide +kernel
theorem dX9_all_100 : decode cX9_all 100 = .ok (.getfield 41, 3) := by decide +kernel
theorem dX9_all_103 : decode cX9_all 103 = .ok (.iconst 5, 1) := by decide +kernel
theorem dX9_all_104 : decode cX9_all 104 = .ok (.aload_n 1, 1) := by decide +kernel
theorem dX9_all_105 : decode cX9_all 105 = .ok (.iload_n 3, 1) := by decide +kernel
theorem dX9_all_106 : decode cX9_all 106 = .ok (.iload_n 2, 1) := by decide +kernel
theorem dX9_all_107 : decode cX9_all 107 = .ok (.invokevirtual 231, 3) := by decide +kernel
theorem dX9_all_110 : decode cX9_all 110 = .ok (.istore_n 3, 1) := by decide +kernel
theorem dX9_all_111 : decode cX9_all 111 = .ok (.aload_n 0, 1) := by decide +kernel
theorem dX9_all_112 : decode cX9_all 112 = .ok (.aload_n 0, 1) := by decide +kernel
theorem dX9_all_113 : decode cX9_all 113 = .ok (.getfield 44, 3) := by decide +kernel
theorem dX9_all_116 : decode cX9_all 116 = .ok (.iconst 5, 1) := by decide +kernel
theorem dX9_all_117 : decode cX9_all 117 = .ok (.aload_n 1, 1) := by decide +kernel
theorem dX9_all_118 : decode cX9_all 118 = .ok (.iload_n 3, 1) := by decide +kernel
theorem dX9_all_119 : decode cX9_all 119 = .ok (.iload_n 2, 1) := by decide +kernel
theorem dX9_all_120 : decode cX9_all 120 = .ok (.invokevirtual 231, 3) := by decide +kernel
theorem dX9_all_123 : decode cX9_all 123 = .ok (.istore_n 3, 1) := by decide +kernel
theorem dX9_all_124 : decode cX9_all 124 = .ok (.aload_n 0, 1) := by decide +kernel
theorem dX9_all_125 : decode cX9_all 125 = .ok (.aload_n 0, 1) := by decide +kernel
theorem dX9_all_126 : decode cX9_all 126 = .ok (.getfield 47, 3) := by decide +kernel
theorem dX9_all_129 : decode cX9_all 129 = .ok (.iconst 5, 1) := by decide +kernel
theorem dX9_all_130 : decode cX9_all 130 = .ok (.aload_n 1, 1) := by decide +kernel
theorem dX9_all_131 : decode cX9_all 131 = .ok (.iload_n 3, 1) := by decide +kernel
theorem dX9_all_132 : decode cX9_all 132 = .ok (.iload_n 2, 1) := by decide +kernel
theorem dX9_all_133 : decode cX9_all 133 = .ok (.invokevirtual 231, 3) := by decide +kernel
theorem dX9_all_136 : decode cX9_all 136 = .ok (.istore_n 3, 1) := by decide +kernel
theorem dX9_all_137 : decode cX9_all 137 = .ok (.aload_n 0, 1) := by decide +kernel
theorem dX9_all_138 : decode cX9_all 138 = .ok (.aload_n 0, 1) := by decide +kernel
theorem dX9_all_139 : decode cX9_all 139 = .ok (.getfield 50, 3) := by decide +kernel
theorem dX9_all_142 : decode cX9_all 142 = .ok (.iconst 5, 1) := by decide +kernel
theorem dX9_all_143 : decode cX9_all 143 = .ok (.aload_n 1, 1) := by decide +kernel
theorem dX9_all_144 : decode cX9_all 144 = .ok (.iload_n 3, 1) := by decide +kernel
theorem dX9_all_145 : decode cX9_all 145 = .ok (.iload_n 2, 1) := by decide +kernel
theorem dX9_all_146 : decode cX9_all 146 = .ok (.invokevirtual 231, 3) := by decide +kernel
theorem dX9_all_149 : decode cX9_all 149 = .ok (.istore_n 3, 1) := by decide +kernel
theorem dX9_all_150 : decode cX9_all 150 = .ok (.aload_n 0, 1) := by decide +kernel
theorem dX9_all_151 : decode cX9_all 151 = .ok (.aload_n 0, 1) := by decide +kernel
theorem dX9_all_152 : decode cX9_all 152 = .ok (.getfield 53, 3) := by decide +kernel
theorem dX9_all_155 : decode cX9_all 155 = .ok (.iconst 5, 1) := by decide +kernel
theorem dX9_all_156 : decode cX9_all 156 = .ok (.aload_n 1, 1) := by decide +kernel
theorem dX9_all_157 : decode cX9_all 157 = .ok (.iload_n 3, 1) := by decide +kernel
theorem dX9_all_158 : decode cX9_all 158 = .ok (.iload_n 2, 1) := by decide +kernel
theorem dX9_all_159 : decode cX9_all 159 = .ok (.invokevirtual 231, 3) := by decide +kernel
theorem dX9_all_162 : decode cX9_all 162 = .ok (.istore_n 3, 1) := by decide +kernel
theorem dX9_all_163 : decode cX9_all 163 = .ok (.aload_n 0, 1) := by decide +kernel
theorem dX9_all_164 : decode cX9_all 164 = .ok (.aload_n 0, 1) := by decide +kernel
theorem dX9_all_165 : decode cX9_all 165 = .ok (.getfield 56, 3) := by decide +kernel
theorem dX9_all_168 : decode cX9_all 168 = .ok (.iconst 5, 1) := by decide +kernel
theorem dX9_all_169 : decode cX9_all 169 = .ok (.aload_n 1, 1) := by decide +kernel
theorem dX9_all_170 : decode cX9_all 170 = .ok (.iload_n 3, 1) := by decide +kernel
theorem dX9_all_171 : decode cX9_all 171 = .ok (.iload_n 2, 1) := by decide +kernel
theorem dX9_all_172 : decode cX9_all 172 = .ok (.invokevirtual 231, 3) := by decide +kernel
theorem dX9_all_175 : decode cX9_all 175 = .ok (.istore_n 3, 1) := by decide +kernel
theorem dX9_all_176 : decode cX9_all 176 = .ok (.aload_n 0, 1) := by decide +kernel
theorem dX9_all_177 : decode cX9_all 177 = .ok (.aload_n 0, 1) := by decide +kernel
theorem dX9_all_178 : decode cX9_all 178 = .ok (.getfield 59, 3) := by decide +kernel
theorem dX9_all_181 : decode cX9_all 181 = .ok (.iconst 5, 1) := by decide +kernel
theorem dX9_all_182 : decode cX9_all 182 = .ok (.aload_n 1, 1) := by decide +kernel
theorem dX9_all_183 : decode cX9_all 183 = .ok (.iload_n 3, 1) := by decide +kernel
theorem dX9_all_184 : decode cX9_all 184 = .ok (.iload_n 2, 1) := by decide +kernel
theorem dX9_all_185 : decode cX9_all 185 = .ok (.invokevirtual 231, 3) := by decide +kernel
theorem dX9_all_188 : decode cX9_all 188 = .ok (.istore_n 3, 1) := by decide +kernel
theorem dX9_all_189 : decode cX9_all 189 = .ok (.aload_n 0, 1) := by decide +kernel
theorem dX9_all_190 : decode cX9_all 190 = .ok (.aload_n 0, 1) := by decide +kernel
theorem dX9_all_191 : decode cX9_all 191 = .ok (.getfield 62, 3) := by decide +kernel
theorem dX9_all_194 : decode cX9_all 194 = .ok (.iconst 5, 1) := by decide +kernel
theorem dX9_all_195 : decode cX9_all 195 = .ok (.aload_n 1, 1) := by decide +kernel
theorem dX9_all_196 : decode cX9_all 196 = .ok (.iload_n 3, 1) := by decide +kernel
theorem dX9_all_197 : decode cX9_all 197 = .ok (.iload_n 2, 1) := by decide +kernel
theorem dX9_all_198 : decode cX9_all 198 = .ok (.invokevirtual 231, 3) := by decide +kernel
theorem dX9_all_201 : decode cX9_all 201 = .ok (.istore_n 3, 1) := by decide +kernel
theorem dX9_all_202 : decode cX9_all 202 = .ok (.iload_n 2, 1) := by decide +kernel
theorem dX9_all_203 : decode cX9_all 203 = .ok (.ifCond .eq 58, 3) := by decide +kernel
theorem dX9_all_206 : decode cX9_all 206 = .ok (.aload_n 0, 1) := by decide +kernel
theorem dX9_all_207 : decode cX9_all 207 = .ok (.aload_n 1, 1) := by decide +kernel
theorem dX9_all_208 : decode cX9_all 208 = .ok (.iload_n 3, 1) := by decide +kernel
theorem dX9_all_209 : decode cX9_all 209 = .ok (.iaload, 1) := by decide +kernel
theorem dX9_all_210 : decode cX9_all 210 = .ok (.putfield 126, 3) := by decide +kernel
theorem dX9_all_213 : decode cX9_all 213 = .ok (.aload_n 0, 1) := by decide +kernel
theorem dX9_all_214 : decode cX9_all 214 = .ok (.aload_n 1, 1) := by decide +kernel
theorem dX9_all_215 : decode cX9_all 215 = .ok (.iload_n 3, 1) := by decide +kernel
theorem dX9_all_216 : decode cX9_all 216 = .ok (.iconst 1, 1) := by decide +kernel
theorem dX9_all_217 : decode cX9_all 217 = .ok (.iadd, 1) := by decide +kernel
theorem dX9_all_218 : decode cX9_all 218 = .ok (.iaload, 1) := by decide +kernel
theorem dX9_all_219 : decode cX9_all 219 = .ok (.putfield 129, 3) := by decide +kernel
theorem dX9_all_222 : decode cX9_all 222 = .ok (.aload_n 0, 1) := by decide +kernel
theorem dX9_all_223 : decode cX9_all 223 = .ok (.aload_n 1, 1) := by decide +kernel
theorem dX9_all_224 : decode cX9_all 224 = .ok (.iload_n 3, 1) := by decide +kernel
theorem dX9_all_225 : decode cX9_all 225 = .ok (.iconst 2, 1) := by decide +kernel
theorem dX9_all_226 : decode cX9_all 226 = .ok (.iadd, 1) := by decide +kernel
theorem dX9_all_227 : decode cX9_all 227 = .ok (.iaload, 1) := by decide +kernel
theorem dX9_all_228 : decode cX9_all 228 = .ok (.putfield 235, 3) := by decide +kernel
theorem dX9_all_231 : decode cX9_all 231 = .ok (.aload_n 0, 1) := by decide +kernel
theorem dX9_all_232 : decode cX9_all 232 = .ok (.aload_n 1, 1) := by decide +kernel
theorem dX9_all_233 : decode cX9_all 233 = .ok (.iload_n 3, 1) := by decide +kernel
theorem dX9_all_234 : decode cX9_all 234 = .ok (.iconst 3, 1) := by decide +kernel
theorem dX9_all_235 : decode cX9_all 235 = .ok (.iadd, 1) := by decide +kernel
theorem dX9_all_236 : decode cX9_all 236 = .ok (.iaload, 1) := by decide +kernel
theorem dX9_all_237 : decode cX9_all 237 = .ok (.putfield 238, 3) := by decide +kernel
theorem dX9_all_240 : decode cX9_all 240 = .ok (.aload_n 0, 1) := by decide +kernel
theorem dX9_all_241 : decode cX9_all 241 = .ok (.aload_n 1, 1) := by decide +kernel
theorem dX9_all_242 : decode cX9_all 242 = .ok (.iload_n 3, 1) := by decide +kernel
theorem dX9_all_243 : decode cX9_all 243 = .ok (.iconst 4, 1) := by decide +kernel
theorem dX9_all_244 : decode cX9_all 244 = .ok (.iadd, 1) := by decide +kernel
theorem dX9_all_245 : decode cX9_all 245 = .ok (.iaload, 1) := by decide +kernel
theorem dX9_all_246 : decode cX9_all 246 = .ok (.putfield 241, 3) := by decide +kernel
theorem dX9_all_249 : decode cX9_all 249 = .ok (.aload_n 0, 1) := by decide +kernel
theorem dX9_all_250 : decode cX9_all 250 = .ok (.aload_n 1, 1) := by decide +kernel
theorem dX9_all_251 : decode cX9_all 251 = .ok (.iload_n 3, 1) := by decide +kernel
theorem dX9_all_252 : decode cX9_all 252 = .ok (.iconst 5, 1) := by decide +kernel
theorem dX9_all_253 : decode cX9_all 253 = .ok (.iadd, 1) := by decide +kernel
theorem dX9_all_254 : decode cX9_all 254 = .ok (.iaload, 1) := by decide +kernel
theorem dX9_all_255 : decode cX9_all 255 = .ok (.putfield 7, 3) := by decide +kernel
theorem dX9_all_258 : decode cX9_all 258 = .ok (.goto 55, 3) := by decide +kernel
theorem dX9_all_261 : decode cX9_all 261 = .ok (.aload_n 1, 1) := by decide +kernel
theorem dX9_all_262 : decode cX9_all 262 = .ok (.iload_n 3, 1) := by decide +kernel
theorem dX9_all_263 : decode cX9_all 263 = .ok (.aload_n 0, 1) := by decide +kernel
theorem dX9_all_264 : decode cX9_all 264 = .ok (.getfield 126, 3) := by decide +kernel
theorem dX9_all_267 : decode cX9_all 267 = .ok (.iastore, 1) := by decide +kernel
theorem dX9_all_268 : decode cX9_all 268 = .ok (.aload_n 1, 1) := by decide +kernel
theorem dX9_all_269 : decode cX9_all 269 = .ok (.iload_n 3, 1) := by decide +kernel
theorem dX9_all_270 : decode cX9_all 270 = .ok (.iconst 1, 1) := by decide +kernel
theorem dX9_all_271 : decode cX9_all 271 = .ok (.iadd, 1) := by decide +kernel
theorem dX9_all_272 : decode cX9_all 272 = .ok (.aload_n 0, 1) := by decide +kernel
theorem dX9_all_273 : decode cX9_all 273 = .ok (.getfield 129, 3) := by decide +kernel
theorem dX9_all_276 : decode cX9_all 276 = .ok (.iastore, 1) := by decide +kernel
theorem dX9_all_277 : decode cX9_all 277 = .ok (.aload_n 1, 1) := by decide +kernel
theorem dX9_all_278 : decode cX9_all 278 = .ok (.iload_n 3, 1) := by decide +kernel
theorem dX9_all_279 : decode cX9_all 279 = .ok (.iconst 2, 1) := by decide +kernel
theorem dX9_all_280 : decode cX9_all 280 = .ok (.iadd, 1) := by decide +kernel
theorem dX9_all_281 : decode cX9_all 281 = .ok (.aload_n 0, 1) := by decide +kernel
theorem dX9_all_282 : decode cX9_all 282 = .ok (.getfield 235, 3) := by decide +kernel
theorem dX9_all_285 : decode cX9_all 285 = .ok (.iastore, 1) := by decide +kernel
theorem dX9_all_286 : decode cX9_all 286 = .ok (.aload_n 1, 1) := by decide +kernel
theorem dX9_all_287 : decode cX9_all 287 = .ok (.iload_n 3, 1) := by decide +kernel
theorem dX9_all_288 : decode cX9_all 288 = .ok (.iconst 3, 1) := by decide +kernel
theorem dX9_all_289 : decode cX9_all 289 = .ok (.iadd, 1) := by decide +kernel
theorem dX9_all_290 : decode cX9_all 290 = .ok (.aload_n 0, 1) := by decide +kernel
theorem dX9_all_291 : decode cX9_all 291 = .ok (.getfield 238, 3) := by decide +kernel
theorem dX9_all_294 : decode cX9_all 294 = .ok (.iastore, 1) := by decide +kernel
theorem dX9_all_295 : decode cX9_all 295 = .ok (.aload_n 1, 1) := by decide +kernel
theorem dX9_all_296 : decode cX9_all 296 = .ok (.iload_n 3, 1) := by decide +kernel
theorem dX9_all_297 : decode cX9_all 297 = .ok (.iconst 4, 1) := by decide +kernel
theorem dX9_all_298 : decode cX9_all 298 = .ok (.iadd, 1) := by decide +kernel
theorem dX9_all_299 : decode cX9_all 299 = .ok (.aload_n 0, 1) := by decide +kernel
theorem dX9_all_300 : decode cX9_all 300 = .ok (.getfield 241, 3) := by decide +kernel
theorem dX9_all_303 : decode cX9_all 303 = .ok (.iastore, 1) := by decide +kernel
theorem dX9_all_304 : decode cX9_all 304 = .ok (.aload_n 1, 1) := by decide +kernel
theorem dX9_all_305 : decode cX9_all 305 = .ok (.iload_n 3, 1) := by decide +kernel
theorem dX9_all_306 : decode cX9_all 306 = .ok (.iconst 5, 1) := by decide +kernel
theorem dX9_all_307 : decode cX9_all 307 = .ok (.iadd, 1) := by decide +kernel
theorem dX9_all_308 : decode cX9_all 308 = .ok (.aload_n 0, 1) := by decide +kernel
theorem dX9_all_309 : decode cX9_all 309 = .ok (.getfield 7, 3) := by decide +kernel
theorem dX9_all_312 : decode cX9_all 312 = .ok (.iastore, 1) := by decide +kernel
theorem dX9_all_313 : decode cX9_all 313 = .ok (.return_, 1) := by decide +kernel
theorem dX9_shop_0 : decode cX9_shop 0 = .ok (.aload_n 0, 1) := by decide +kernel
theorem dX9_shop_1 : decode cX9_shop 1 = .ok (.iload_n 1, 1) := by decide +kernel
theorem dX9_shop_2 : decode cX9_shop 2 = .ok (.invokevirtual 244, 3) := by decide +kernel
theorem dX9_shop_5 : decode cX9_shop 5 = .ok (.istore_n 2, 1) := by decide +kernel
theorem dX9_shop_6 : decode cX9_shop 6 = .ok (.iload_n 2, 1) := by decide +kernel
theorem dX9_shop_7 : decode cX9_shop 7 = .ok (.ifCond .eq 9, 3) := by decide +kernel
theorem dX9_shop_10 : decode cX9_shop 10 = .ok (.aload_n 0, 1) := by decide +kernel
theorem dX9_shop_11 : decode cX9_shop 11 = .ok (.iload_n 2, 1) := by decide +kernel
theorem dX9_shop_12 : decode cX9_shop 12 = .ok (.invokevirtual 136, 3) := by decide +kernel
theorem dX9_shop_15 : decode cX9_shop 15 = .ok (.ireturn, 1) := by decide +kernel
theorem dX9_shop_16 : decode cX9_shop 16 = .ok (.aload_n 0, 1) := by decide +kernel
theorem dX9_shop_17 : decode cX9_shop 17 = .ok (.aload_n 0, 1) := by decide +kernel
theorem dX9_shop_18 : decode cX9_shop 18 = .ok (.getfield 99, 3) := by decide +kernel
theorem dX9_shop_21 : decode cX9_shop 21 = .ok (.iconst 0, 1) := by decide +kernel
theorem dX9_shop_22 : decode cX9_shop 22 = .ok (.invokevirtual 247, 3) := by decide +kernel
theorem dX9_shop_25 : decode cX9_shop 25 = .ok (.aload_n 0, 1) := by decide +kernel
theorem dX9_shop_26 : decode cX9_shop 26 = .ok (.sipush 160, 3) := by decide +kernel
theorem dX9_shop_29 : decode cX9_shop 29 = .ok (.iload_n 1, 1) := by decide +kernel
theorem dX9_shop_30 : decode cX9_shop 30 = .ok (.imul, 1) := by decide +kernel
theorem dX9_shop_31 : decode cX9_shop 31 = .ok (.putfield 202, 3) := by decide +kernel
theorem dX9_shop_34 : decode cX9_shop 34 = .ok (.aload_n 0, 1) := by decide +kernel
theorem dX9_shop_35 : decode cX9_shop 35 = .ok (.iconst 0, 1) := by decide +kernel
theorem dX9_shop_36 : decode cX9_shop 36 = .ok (.putfield 196, 3) := by decide +kernel
theorem dX9_shop_39 : decode cX9_shop 39 = .ok (.aload_n 0, 1) := by decide +kernel
theorem dX9_shop_40 : decode cX9_shop 40 = .ok (.aload_n 0, 1) := by decide +kernel
theorem dX9_shop_41 : decode cX9_shop 41 = .ok (.getfield 71, 3) := by decide +kernel
theorem dX9_shop_44 : decode cX9_shop 44 = .ok (.iload_n 1, 1) := by decide +kernel
theorem dX9_shop_45 : decode cX9_shop 45 = .ok (.iaload, 1) := by decide +kernel
theorem dX9_shop_46 : decode cX9_shop 46 = .ok (.putfield 199, 3) := by decide +kernel
theorem dX9_shop_49 : decode cX9_shop 49 = .ok (.aload_n 0, 1) := by decide +kernel
theorem dX9_shop_50 : decode cX9_shop 50 = .ok (.iconst (-1), 1) := by decide +kernel
theorem dX9_shop_51 : decode cX9_shop 51 = .ok (.putfield 13, 3) := by decide +kernel
theorem dX9_shop_54 : decode cX9_shop 54 = .ok (.iconst 1, 1) := by decide +kernel
theorem dX9_shop_55 : decode cX9_shop 55 = .ok (.istore_n 3, 1) := by decide +kernel
theorem dX9_shop_56 : decode cX9_shop 56 = .ok (.aload_n 0, 1) := by decide +kernel
theorem dX9_shop_57 : decode cX9_shop 57 = .ok (.invokevirtual 251, 3) := by decide +kernel
theorem dX9_shop_60 : decode cX9_shop 60 = .ok (.istore 4, 2) := by decide +kernel
theorem dX9_shop_62 : decode cX9_shop 62 = .ok (.iload 4, 2) := by decide +kernel
theorem dX9_shop_64 : decode cX9_shop 64 = .ok (.ifCond .eq 69, 3) := by decide +kernel
theorem dX9_shop_67 : decode cX9_shop 67 = .ok (.aload_n 0, 1) := by decide +kernel
theorem dX9_shop_68 : decode cX9_shop 68 = .ok (.getfield 196, 3) := by decide +kernel
theorem dX9_shop_71 : decode cX9_shop 71 = .ok (.aload_n 0, 1) := by decide +kernel
theorem dX9_shop_72 : decode cX9_shop 72 = .ok (.getfield 199, 3) := by decide +kernel
theorem dX9_shop_75 : decode cX9_shop 75 = .ok (.if_icmp .ge 58, 3) := by decide +kernel
theorem dX9_shop_78 : decode cX9_shop 78 = .ok (.aload_n 0, 1) := by decide +kernel
theorem dX9_shop_79 : decode cX9_shop 79 = .ok (.getfield 77, 3) := by decide +kernel
theorem dX9_shop_82 : decode cX9_shop 82 = .ok (.aload_n 0, 1) := by decide +kernel
theorem dX9_shop_83 : decode cX9_shop 83 = .ok (.getfield 202, 3) := by decide +kernel
theorem dX9_shop_86 : decode cX9_shop 86 = .ok (.aload_n 0, 1) := by decide +kernel
theorem dX9_shop_87 : decode cX9_shop 87 = .ok (.getfield 196, 3) := by decide +kernel
theorem dX9_shop_90 : decode cX9_shop 90 = .ok (.iadd, 1) := by decide +kernel
theorem dX9_shop_91 : decode cX9_shop 91 = .ok (.laload, 1) := by decide +kernel
theorem dX9_shop_92 : decode cX9_shop 92 = .ok (.l2i, 1) := by decide +kernel
theorem dX9_shop_93 : decode cX9_shop 93 = .ok (.bipush 59, 2) := by decide +kernel
theorem dX9_shop_95 : decode cX9_shop 95 = .ok (.if_icmp .eq 16, 3) := by decide +kernel
theorem dX9_shop_98 : decode cX9_shop 98 = .ok (.aload_n 0, 1) := by decide +kernel
theorem dX9_shop_99 : decode cX9_shop 99 = .ok (.aload_n 0, 1) := by decide +kernel
theorem dX9_shop_100 : decode cX9_shop 100 = .ok (.getfield 196, 3) := by decide +kernel
theorem dX9_shop_103 : decode cX9_shop 103 = .ok (.invokevirtual 212, 3) := by decide +kernel
theorem dX9_shop_106 : decode cX9_shop 106 = .ok (.istore 4, 2) := by decide +kernel
theorem dX9_shop_108 : decode cX9_shop 108 = .ok (.goto (-46), 3) := by decide +kernel
theorem dX9_shop_111 : decode cX9_shop 111 = .ok (.aload_n 0, 1) := by decide +kernel
theorem dX9_shop_112 : decode cX9_shop 112 = .ok (.dup, 1) := by decide +kernel
theorem dX9_shop_113 : decode cX9_shop 113 = .ok (.getfield 196, 3) := by decide +kernel
theorem dX9_shop_116 : decode cX9_shop 116 = .ok (.iconst 1, 1) := by decide +kernel
theorem dX9_shop_117 : decode cX9_shop 117 = .ok (.iadd, 1) := by decide +kernel
theorem dX9_shop_118 : decode cX9_shop 118 = .ok (.putfield 196, 3) := by decide +kernel
theorem dX9_shop_121 : decode cX9_shop 121 = .ok (.iinc 3 1, 3) := by decide +kernel
theorem dX9_shop_124 : decode cX9_shop 124 = .ok (.aload_n 0, 1) := by decide +kernel
theorem dX9_shop_125 : decode cX9_shop 125 = .ok (.invokevirtual 251, 3) := by decide +kernel
theorem dX9_shop_128 : decode cX9_shop 128 = .ok (.istore 4, 2) := by decide +kernel
theorem dX9_shop_130 : decode cX9_shop 130 = .ok (.goto (-68), 3) := by decide +kernel
theorem dX9_shop_133 : decode cX9_shop 133 = .ok (.iload 4, 2) := by decide +kernel
theorem dX9_shop_135 : decode cX9_shop 135 = .ok (.ifCond .eq 5, 3) := by decide +kernel
theorem dX9_shop_138 : decode cX9_shop 138 = .ok (.iload_n 3, 1) := by decide +kernel
theorem dX9_shop_139 : decode cX9_shop 139 = .ok (.ireturn, 1) := by decide +kernel
theorem dX9_shop_140 : decode cX9_shop 140 = .ok (.aload_n 0, 1) := by decide +kernel
theorem dX9_shop_141 : decode cX9_shop 141 = .ok (.aload_n 0, 1) := by decide +kernel
theorem dX9_shop_142 : decode cX9_shop 142 = .ok (.getfield 99, 3) := by decide +kernel
theorem dX9_shop_145 : decode cX9_shop 145 = .ok (.iconst 1, 1) := by decide +kernel
theorem dX9_shop_146 : decode cX9_shop 146 = .ok (.invokevirtual 247, 3) := by decide +kernel
theorem dX9_shop_149 : decode cX9_shop 149 = .ok (.aload_n 0, 1) := by decide +kernel
theorem dX9_shop_150 : decode cX9_shop 150 = .ok (.aload_n 0, 1) := by decide +kernel
theorem dX9_shop_151 : decode cX9_shop 151 = .ok (.getfield 193, 3) := by decide +kernel
theorem dX9_shop_154 : decode cX9_shop 154 = .ok (.putfield 13, 3) := by decide +kernel
theorem dX9_shop_157 : decode cX9_shop 157 = .ok (.aload_n 0, 1) := by decide +kernel
theorem dX9_shop_158 : decode cX9_shop 158 = .ok (.bipush (-6), 2) := by decide +kernel
theorem dX9_shop_160 : decode cX9_shop 160 = .ok (.invokevirtual 136, 3) := by decide +kernel
theorem dX9_shop_163 : decode cX9_shop 163 = .ok (.ireturn, 1) := by decide +kernel
theorem dX9_fault_0 : decode cX9_fault 0 = .ok (.aload_n 0, 1) := by decide +kernel
theorem dX9_fault_1 : decode cX9_fault 1 = .ok (.getfield 13, 3) := by decide +kernel
theorem dX9_fault_4 : decode cX9_fault 4 = .ok (.ireturn, 1) := by decide +kernel
theorem dX9_fits_0 : decode cX9_fits 0 = .ok (.aload_n 0, 1) := by decide +kernel
theorem dX9_fits_1 : decode cX9_fits 1 = .ok (.iload_n 1, 1) := by decide +kernel
theorem dX9_fits_2 : decode cX9_fits 2 = .ok (.invokevirtual 140, 3) := by decide +kernel
theorem dX9_fits_5 : decode cX9_fits 5 = .ok (.ifCond .eq 11, 3) := by decide +kernel
theorem dX9_fits_8 : decode cX9_fits 8 = .ok (.aload_n 0, 1) := by decide +kernel
theorem dX9_fits_9 : decode cX9_fits 9 = .ok (.iload_n 2, 1) := by decide +kernel
theorem dX9_fits_10 : decode cX9_fits 10 = .ok (.invokevirtual 184, 3) := by decide +kernel
theorem dX9_fits_13 : decode cX9_fits 13 = .ok (.ifCond .ne 9, 3) := by decide +kernel
theorem dX9_fits_16 : decode cX9_fits 16 = .ok (.aload_n 0, 1) := by decide +kernel
theorem dX9_fits_17 : decode cX9_fits 17 = .ok (.iconst (-1), 1) := by decide +kernel
theorem dX9_fits_18 : decode cX9_fits 18 = .ok (.invokevirtual 136, 3) := by decide +kernel
theorem dX9_fits_21 : decode cX9_fits 21 = .ok (.ireturn, 1) := by decide +kernel
theorem dX9_fits_22 : decode cX9_fits 22 = .ok (.aload_n 0, 1) := by decide +kernel
theorem dX9_fits_23 : decode cX9_fits 23 = .ok (.iload_n 3, 1) := by decide +kernel
theorem dX9_fits_24 : decode cX9_fits 24 = .ok (.iconst 0, 1) := by decide +kernel
theorem dX9_fits_25 : decode cX9_fits 25 = .ok (.iconst 1, 1) := by decide +kernel
theorem dX9_fits_26 : decode cX9_fits 26 = .ok (.invokevirtual 172, 3) := by decide +kernel
theorem dX9_fits_29 : decode cX9_fits 29 = .ok (.ifCond .ne 10, 3) := by decide +kernel
theorem dX9_fits_32 : decode cX9_fits 32 = .ok (.aload_n 0, 1) := by decide +kernel
theorem dX9_fits_33 : decode cX9_fits 33 = .ok (.bipush (-6), 2) := by decide +kernel
theorem dX9_fits_35 : decode cX9_fits 35 = .ok (.invokevirtual 136, 3) := by decide +kernel
theorem dX9_fits_38 : decode cX9_fits 38 = .ok (.ireturn, 1) := by decide +kernel
theorem dX9_fits_39 : decode cX9_fits 39 = .ok (.aload_n 0, 1) := by decide +kernel
theorem dX9_fits_40 : decode cX9_fits 40 = .ok (.iload_n 1, 1) := by decide +kernel
theorem dX9_fits_41 : decode cX9_fits 41 = .ok (.iload_n 2, 1) := by decide +kernel
theorem dX9_fits_42 : decode cX9_fits 42 = .ok (.iload_n 3, 1) := by decide +kernel
theorem dX9_fits_43 : decode cX9_fits 43 = .ok (.invokevirtual 215, 3) := by decide +kernel
theorem dX9_fits_46 : decode cX9_fits 46 = .ok (.ifCond .eq 7, 3) := by decide +kernel
theorem dX9_fits_49 : decode cX9_fits 49 = .ok (.iconst 1, 1) := by decide +kernel
theorem dX9_fits_50 : decode cX9_fits 50 = .ok (.goto 4, 3) := by decide +kernel
theorem dX9_fits_53 : decode cX9_fits 53 = .ok (.iconst 0, 1) := by decide +kernel
theorem dX9_fits_54 : decode cX9_fits 54 = .ok (.ireturn, 1) := by decide +kernel
theorem dX9_unlike_0 : decode cX9_unlike 0 = .ok (.aload_n 0, 1) := by decide +kernel
theorem dX9_unlike_1 : decode cX9_unlike 1 = .ok (.iload_n 1, 1) := by decide +kernel
theorem dX9_unlike_2 : decode cX9_unlike 2 = .ok (.invokevirtual 140, 3) := by decide +kernel
theorem dX9_unlike_5 : decode cX9_unlike 5 = .ok (.ifCond .eq 20, 3) := by decide +kernel
theorem dX9_unlike_8 : decode cX9_unlike 8 = .ok (.aload_n 0, 1) := by decide +kernel
theorem dX9_unlike_9 : decode cX9_unlike 9 = .ok (.iload_n 2, 1) := by decide +kernel
theorem dX9_unlike_10 : decode cX9_unlike 10 = .ok (.invokevirtual 184, 3) := by decide +kernel
theorem dX9_unlike_13 : decode cX9_unlike 13 = .ok (.ifCond .eq 12, 3) := by decide +kernel
theorem dX9_unlike_16 : decode cX9_unlike 16 = .ok (.aload_n 0, 1) := by decide +kernel
theorem dX9_unlike_17 : decode cX9_unlike 17 = .ok (.iload_n 1, 1) := by decide +kernel
theorem dX9_unlike_18 : decode cX9_unlike 18 = .ok (.iload_n 2, 1) := by decide +kernel
theorem dX9_unlike_19 : decode cX9_unlike 19 = .ok (.invokevirtual 163, 3) := by decide +kernel
theorem dX9_unlike_22 : decode cX9_unlike 22 = .ok (.goto 8, 3) := by decide +kernel
theorem dX9_unlike_25 : decode cX9_unlike 25 = .ok (.aload_n 0, 1) := by decide +kernel
theorem dX9_unlike_26 : decode cX9_unlike 26 = .ok (.iconst (-1), 1) := by decide +kernel
theorem dX9_unlike_27 : decode cX9_unlike 27 = .ok (.invokevirtual 136, 3) := by decide +kernel
theorem dX9_unlike_30 : decode cX9_unlike 30 = .ok (.ireturn, 1) := by decide +kernel
theorem dX9_mayBe_0 : decode cX9_mayBe 0 = .ok (.iconst 0, 1) := by decide +kernel
theorem dX9_mayBe_1 : decode cX9_mayBe 1 = .ok (.istore_n 3, 1) := by decide +kernel
theorem dX9_mayBe_2 : decode cX9_mayBe 2 = .ok (.aload_n 0, 1) := by decide +kernel
theorem dX9_mayBe_3 : decode cX9_mayBe 3 = .ok (.iload_n 1, 1) := by decide +kernel
theorem dX9_mayBe_4 : decode cX9_mayBe 4 = .ok (.iload_n 2, 1) := by decide +kernel
theorem dX9_mayBe_5 : decode cX9_mayBe 5 = .ok (.invokevirtual 160, 3) := by decide +kernel
theorem dX9_mayBe_8 : decode cX9_mayBe 8 = .ok (.iconst (-1), 1) := by decide +kernel
theorem dX9_mayBe_9 : decode cX9_mayBe 9 = .ok (.if_icmp .eq 5, 3) := by decide +kernel
theorem dX9_mayBe_12 : decode cX9_mayBe 12 = .ok (.iconst 0, 1) := by decide +kernel
theorem dX9_mayBe_13 : decode cX9_mayBe 13 = .ok (.ireturn, 1) := by decide +kernel
theorem dX9_mayBe_14 : decode cX9_mayBe 14 = .ok (.iconst 0, 1) := by decide +kernel
theorem dX9_mayBe_15 : decode cX9_mayBe 15 = .ok (.istore 4, 2) := by decide +kernel
theorem dX9_mayBe_17 : decode cX9_mayBe 17 = .ok (.iload 4, 2) := by decide +kernel
theorem dX9_mayBe_19 : decode cX9_mayBe 19 = .ok (.aload_n 0, 1) := by decide +kernel
theorem dX9_mayBe_20 : decode cX9_mayBe 20 = .ok (.getfield 126, 3) := by decide +kernel
theorem dX9_mayBe_23 : decode cX9_mayBe 23 = .ok (.if_icmp .ge 39, 3) := by decide +kernel
theorem dX9_mayBe_26 : decode cX9_mayBe 26 = .ok (.aload_n 0, 1) := by decide +kernel
theorem dX9_mayBe_27 : decode cX9_mayBe 27 = .ok (.getfield 38, 3) := by decide +kernel
theorem dX9_mayBe_30 : decode cX9_mayBe 30 = .ok (.iload 4, 2) := by decide +kernel
theorem dX9_mayBe_32 : decode cX9_mayBe 32 = .ok (.iaload, 1) := by decide +kernel
theorem dX9_mayBe_33 : decode cX9_mayBe 33 = .ok (.bipush 99, 2) := by decide +kernel
theorem dX9_mayBe_35 : decode cX9_mayBe 35 = .ok (.if_icmp .ne 21, 3) := by decide +kernel
theorem dX9_mayBe_38 : decode cX9_mayBe 38 = .ok (.aload_n 0, 1) := by decide +kernel
theorem dX9_mayBe_39 : decode cX9_mayBe 39 = .ok (.iload 4, 2) := by decide +kernel
theorem dX9_mayBe_41 : decode cX9_mayBe 41 = .ok (.iload_n 1, 1) := by decide +kernel
theorem dX9_mayBe_42 : decode cX9_mayBe 42 = .ok (.iload_n 2, 1) := by decide +kernel
theorem dX9_mayBe_43 : decode cX9_mayBe 43 = .ok (.invokevirtual 215, 3) := by decide +kernel
theorem dX9_mayBe_46 : decode cX9_mayBe 46 = .ok (.ifCond .eq 10, 3) := by decide +kernel
theorem dX9_mayBe_49 : decode cX9_mayBe 49 = .ok (.iload_n 3, 1) := by decide +kernel
theorem dX9_mayBe_50 : decode cX9_mayBe 50 = .ok (.iconst 1, 1) := by decide +kernel
theorem dX9_mayBe_51 : decode cX9_mayBe 51 = .ok (.iload 4, 2) := by decide +kernel
theorem dX9_mayBe_53 : decode cX9_mayBe 53 = .ok (.ishl, 1) := by decide +kernel
theorem dX9_mayBe_54 : decode cX9_mayBe 54 = .ok (.iadd, 1) := by decide +kernel
theorem dX9_mayBe_55 : decode cX9_mayBe 55 = .ok (.istore_n 3, 1) := by decide +kernel
theorem dX9_mayBe_56 : decode cX9_mayBe 56 = .ok (.iinc 4 1, 3) := by decide +kernel
theorem dX9_mayBe_59 : decode cX9_mayBe 59 = .ok (.goto (-42), 3) := by decide +kernel
theorem dX9_mayBe_62 : decode cX9_mayBe 62 = .ok (.iload_n 3, 1) := by decide +kernel
theorem dX9_mayBe_63 : decode cX9_mayBe 63 = .ok (.ireturn, 1) := by decide +kernel
theorem dX9_may_0 : decode cX9_may 0 = .ok (.aload_n 0, 1) := by decide +kernel
theorem dX9_may_1 : decode cX9_may 1 = .ok (.iload_n 1, 1) := by decide +kernel
theorem dX9_may_2 : decode cX9_may 2 = .ok (.invokevirtual 184, 3) := by decide +kernel
theorem dX9_may_5 : decode cX9_may 5 = .ok (.ifCond .ne 9, 3) := by decide +kernel
theorem dX9_may_8 : decode cX9_may 8 = .ok (.aload_n 0, 1) := by decide +kernel
theorem dX9_may_9 : decode cX9_may 9 = .ok (.iconst (-1), 1) := by decide +kernel
theorem dX9_may_10 : decode cX9_may 10 = .ok (.invokevirtual 136, 3) := by decide +kernel
theorem dX9_may_13 : decode cX9_may 13 = .ok (.ireturn, 1) := by decide +kernel
theorem dX9_may_14 : decode cX9_may 14 = .ok (.aload_n 0, 1) := by decide +kernel
theorem dX9_may_15 : decode cX9_may 15 = .ok (.iload_n 2, 1) := by decide +kernel
theorem dX9_may_16 : decode cX9_may 16 = .ok (.iconst 0, 1) := by decide +kernel
theorem dX9_may_17 : decode cX9_may 17 = .ok (.iconst 1, 1) := by decide +kernel
theorem dX9_may_18 : decode cX9_may 18 = .ok (.invokevirtual 172, 3) := by decide +kernel
theorem dX9_may_21 : decode cX9_may 21 = .ok (.ifCond .eq 12, 3) := by decide +kernel
theorem dX9_may_24 : decode cX9_may 24 = .ok (.aload_n 0, 1) := by decide +kernel
theorem dX9_may_25 : decode cX9_may 25 = .ok (.iload_n 1, 1) := by decide +kernel
theorem dX9_may_26 : decode cX9_may 26 = .ok (.iload_n 2, 1) := by decide +kernel
theorem dX9_may_27 : decode cX9_may 27 = .ok (.invokevirtual 254, 3) := by decide +kernel
theorem dX9_may_30 : decode cX9_may 30 = .ok (.goto 9, 3) := by decide +kernel
theorem dX9_may_33 : decode cX9_may 33 = .ok (.aload_n 0, 1) := by decide +kernel
theorem dX9_may_34 : decode cX9_may 34 = .ok (.bipush (-6), 2) := by decide +kernel
theorem dX9_may_36 : decode cX9_may 36 = .ok (.invokevirtual 136, 3) := by decide +kernel
theorem dX9_may_39 : decode cX9_may 39 = .ok (.ireturn, 1) := by decide +kernel
theorem dX9_best_0 : decode cX9_best 0 = .ok (.aload_n 0, 1) := by decide +kernel
theorem dX9_best_1 : decode cX9_best 1 = .ok (.iload_n 1, 1) := by decide +kernel
theorem dX9_best_2 : decode cX9_best 2 = .ok (.invokevirtual 184, 3) := by decide +kernel
theorem dX9_best_5 : decode cX9_best 5 = .ok (.ifCond .ne 9, 3) := by decide +kernel
theorem dX9_best_8 : decode cX9_best 8 = .ok (.aload_n 0, 1) := by decide +kernel
theorem dX9_best_9 : decode cX9_best 9 = .ok (.iconst (-1), 1) := by decide +kernel
theorem dX9_best_10 : decode cX9_best 10 = .ok (.invokevirtual 190, 3) := by decide +kernel
theorem dX9_best_13 : decode cX9_best 13 = .ok (.ireturn, 1) := by decide +kernel
theorem dX9_best_14 : decode cX9_best 14 = .ok (.aload_n 0, 1) := by decide +kernel
theorem dX9_best_15 : decode cX9_best 15 = .ok (.iload_n 2, 1) := by decide +kernel
theorem dX9_best_16 : decode cX9_best 16 = .ok (.iconst 0, 1) := by decide +kernel
theorem dX9_best_17 : decode cX9_best 17 = .ok (.iconst 1, 1) := by decide +kernel
theorem dX9_best_18 : decode cX9_best 18 = .ok (.invokevirtual 172, 3) := by decide +kernel
theorem dX9_best_21 : decode cX9_best 21 = .ok (.ifCond .ne 10, 3) := by decide +kernel
theorem dX9_best_24 : decode cX9_best 24 = .ok (.aload_n 0, 1) := by decide +kernel
theorem dX9_best_25 : decode cX9_best 25 = .ok (.bipush (-6), 2) := by decide +kernel
theorem dX9_best_27 : decode cX9_best 27 = .ok (.invokevirtual 190, 3) := by decide +kernel
theorem dX9_best_30 : decode cX9_best 30 = .ok (.ireturn, 1) := by decide +kernel
theorem dX9_best_31 : decode cX9_best 31 = .ok (.aload_n 0, 1) := by decide +kernel
theorem dX9_best_32 : decode cX9_best 32 = .ok (.iload_n 1, 1) := by decide +kernel
theorem dX9_best_33 : decode cX9_best 33 = .ok (.iload_n 2, 1) := by decide +kernel
theorem dX9_best_34 : decode cX9_best 34 = .ok (.invokevirtual 254, 3) := by decide +kernel
theorem dX9_best_37 : decode cX9_best 37 = .ok (.istore_n 3, 1) := by decide +kernel
theorem dX9_best_38 : decode cX9_best 38 = .ok (.iconst (-1), 1) := by decide +kernel
theorem dX9_best_39 : decode cX9_best 39 = .ok (.istore 4, 2) := by decide +kernel
theorem dX9_best_41 : decode cX9_best 41 = .ok (.iconst 0, 1) := by decide +kernel
theorem dX9_best_42 : decode cX9_best 42 = .ok (.istore 5, 2) := by decide +kernel
theorem dX9_best_44 : decode cX9_best 44 = .ok (.iload 5, 2) := by decide +kernel
theorem dX9_best_46 : decode cX9_best 46 = .ok (.aload_n 0, 1) := by decide +kernel
theorem dX9_best_47 : decode cX9_best 47 = .ok (.getfield 126, 3) := by decide +kernel
theorem dX9_best_50 : decode cX9_best 50 = .ok (.if_icmp .ge 48, 3) := by decide +kernel
theorem dX9_best_53 : decode cX9_best 53 = .ok (.iload_n 3, 1) := by decide +kernel
theorem dX9_best_54 : decode cX9_best 54 = .ok (.iload 5, 2) := by decide +kernel
theorem dX9_best_56 : decode cX9_best 56 = .ok (.ishr, 1) := by decide +kernel
theorem dX9_best_57 : decode cX9_best 57 = .ok (.iconst 1, 1) := by decide +kernel
theorem dX9_best_58 : decode cX9_best 58 = .ok (.iand, 1) := by decide +kernel
theorem dX9_best_59 : decode cX9_best 59 = .ok (.ifCond .ne 6, 3) := by decide +kernel
theorem dX9_best_62 : decode cX9_best 62 = .ok (.goto 30, 3) := by decide +kernel
theorem dX9_best_65 : decode cX9_best 65 = .ok (.iload 4, 2) := by decide +kernel
theorem dX9_best_67 : decode cX9_best 67 = .ok (.iconst (-1), 1) := by decide +kernel
theorem dX9_best_68 : decode cX9_best 68 = .ok (.if_icmp .eq 20, 3) := by decide +kernel
theorem dX9_best_71 : decode cX9_best 71 = .ok (.aload_n 0, 1) := by decide +kernel
theorem dX9_best_72 : decode cX9_best 72 = .ok (.iload 5, 2) := by decide +kernel
theorem dX9_best_74 : decode cX9_best 74 = .ok (.iload_n 1, 1) := by decide +kernel
theorem dX9_best_75 : decode cX9_best 75 = .ok (.invokevirtual 163, 3) := by decide +kernel
theorem dX9_best_78 : decode cX9_best 78 = .ok (.aload_n 0, 1) := by decide +kernel
theorem dX9_best_79 : decode cX9_best 79 = .ok (.iload 4, 2) := by decide +kernel
theorem dX9_best_81 : decode cX9_best 81 = .ok (.iload_n 1, 1) := by decide +kernel
theorem dX9_best_82 : decode cX9_best 82 = .ok (.invokevirtual 163, 3) := by decide +kernel
theorem dX9_best_85 : decode cX9_best 85 = .ok (.if_icmp .ge 7, 3) := by decide +kernel
theorem dX9_best_88 : decode cX9_best 88 = .ok (.iload 5, 2) := by decide +kernel
theorem dX9_best_90 : decode cX9_best 90 = .ok (.istore 4, 2) := by decide +kernel
theorem dX9_best_92 : decode cX9_best 92 = .ok (.iinc 5 1, 3) := by decide +kernel
theorem dX9_best_95 : decode cX9_best 95 = .ok (.goto (-51), 3) := by decide +kernel
theorem dX9_best_98 : decode cX9_best 98 = .ok (.iload 4, 2) := by decide +kernel
theorem dX9_best_100 : decode cX9_best 100 = .ok (.ireturn, 1) := by decide +kernel
theorem dX9_goodFrom_0 : decode cX9_goodFrom 0 = .ok (.aload_n 0, 1) := by decide +kernel
theorem dX9_goodFrom_1 : decode cX9_goodFrom 1 = .ok (.getfield 108, 3) := by decide +kernel
theorem dX9_goodFrom_4 : decode cX9_goodFrom 4 = .ok (.sipush 512, 3) := by decide +kernel
theorem dX9_goodFrom_7 : decode cX9_goodFrom 7 = .ok (.iload_n 1, 1) := by decide +kernel
theorem dX9_goodFrom_8 : decode cX9_goodFrom 8 = .ok (.imul, 1) := by decide +kernel
theorem dX9_goodFrom_9 : decode cX9_goodFrom 9 = .ok (.iload_n 2, 1) := by decide +kernel
theorem dX9_goodFrom_10 : decode cX9_goodFrom 10 = .ok (.iadd, 1) := by decide +kernel
theorem dX9_goodFrom_11 : decode cX9_goodFrom 11 = .ok (.iaload, 1) := by decide +kernel
theorem dX9_goodFrom_12 : decode cX9_goodFrom 12 = .ok (.ireturn, 1) := by decide +kernel
theorem dX9_parts_0 : decode cX9_parts 0 = .ok (.iconst 0, 1) := by decide +kernel
theorem dX9_parts_1 : decode cX9_parts 1 = .ok (.istore_n 1, 1) := by decide +kernel
theorem dX9_parts_2 : decode cX9_parts 2 = .ok (.iload_n 1, 1) := by decide +kernel
theorem dX9_parts_3 : decode cX9_parts 3 = .ok (.iconst 2, 1) := by decide +kernel
theorem dX9_parts_4 : decode cX9_parts 4 = .ok (.aload_n 0, 1) := by decide +kernel
theorem dX9_parts_5 : decode cX9_parts 5 = .ok (.getfield 129, 3) := by decide +kernel
theorem dX9_parts_8 : decode cX9_parts 8 = .ok (.imul, 1) := by decide +kernel
theorem dX9_parts_9 : decode cX9_parts 9 = .ok (.if_icmp .ge 65, 3) := by decide +kernel
theorem dX9_parts_12 : decode cX9_parts 12 = .ok (.aload_n 0, 1) := by decide +kernel
theorem dX9_parts_13 : decode cX9_parts 13 = .ok (.getfield 111, 3) := by decide +kernel
theorem dX9_parts_16 : decode cX9_parts 16 = .ok (.iload_n 1, 1) := by decide +kernel
theorem dX9_parts_17 : decode cX9_parts 17 = .ok (.aload_n 0, 1) := by decide +kernel
theorem dX9_parts_18 : decode cX9_parts 18 = .ok (.iload_n 1, 1) := by decide +kernel
theorem dX9_parts_19 : decode cX9_parts 19 = .ok (.iconst 2, 1) := by decide +kernel
theorem dX9_parts_20 : decode cX9_parts 20 = .ok (.idiv, 1) := by decide +kernel
theorem dX9_parts_21 : decode cX9_parts 21 = .ok (.iload_n 1, 1) := by decide +kernel
theorem dX9_parts_22 : decode cX9_parts 22 = .ok (.iconst 2, 1) := by decide +kernel
theorem dX9_parts_23 : decode cX9_parts 23 = .ok (.irem, 1) := by decide +kernel
theorem dX9_parts_24 : decode cX9_parts 24 = .ok (.invokevirtual 254, 3) := by decide +kernel
theorem dX9_parts_27 : decode cX9_parts 27 = .ok (.iastore, 1) := by decide +kernel
theorem dX9_parts_28 : decode cX9_parts 28 = .ok (.aload_n 0, 1) := by decide +kernel
theorem dX9_parts_29 : decode cX9_parts 29 = .ok (.getfield 114, 3) := by decide +kernel
theorem dX9_parts_32 : decode cX9_parts 32 = .ok (.iconst (-1), 1) := by decide +kernel
theorem dX9_parts_33 : decode cX9_parts 33 = .ok (.if_icmp .eq 35, 3) := by decide +kernel
theorem dX9_parts_36 : decode cX9_parts 36 = .ok (.aload_n 0, 1) := by decide +kernel
theorem dX9_parts_37 : decode cX9_parts 37 = .ok (.getfield 111, 3) := by decide +kernel
theorem dX9_parts_40 : decode cX9_parts 40 = .ok (.iload_n 1, 1) := by decide +kernel
theorem dX9_parts_41 : decode cX9_parts 41 = .ok (.iaload, 1) := by decide +kernel
theorem dX9_parts_42 : decode cX9_parts 42 = .ok (.aload_n 0, 1) := by decide +kernel
theorem dX9_parts_43 : decode cX9_parts 43 = .ok (.getfield 114, 3) := by decide +kernel
theorem dX9_parts_46 : decode cX9_parts 46 = .ok (.ishr, 1) := by decide +kernel
theorem dX9_parts_47 : decode cX9_parts 47 = .ok (.iconst 1, 1) := by decide +kernel
theorem dX9_parts_48 : decode cX9_parts 48 = .ok (.iand, 1) := by decide +kernel
theorem dX9_parts_49 : decode cX9_parts 49 = .ok (.iconst 1, 1) := by decide +kernel
theorem dX9_parts_50 : decode cX9_parts 50 = .ok (.if_icmp .ne 18, 3) := by decide +kernel
theorem dX9_parts_53 : decode cX9_parts 53 = .ok (.aload_n 0, 1) := by decide +kernel
theorem dX9_parts_54 : decode cX9_parts 54 = .ok (.getfield 111, 3) := by decide +kernel
theorem dX9_parts_57 : decode cX9_parts 57 = .ok (.iload_n 1, 1) := by decide +kernel
theorem dX9_parts_58 : decode cX9_parts 58 = .ok (.dup2, 1) := by decide +kernel
theorem dX9_parts_59 : decode cX9_parts 59 = .ok (.iaload, 1) := by decide +kernel
theorem dX9_parts_60 : decode cX9_parts 60 = .ok (.iconst 1, 1) := by decide +kernel
theorem dX9_parts_61 : decode cX9_parts 61 = .ok (.aload_n 0, 1) := by decide +kernel
theorem dX9_parts_62 : decode cX9_parts 62 = .ok (.getfield 114, 3) := by decide +kernel
theorem dX9_parts_65 : decode cX9_parts 65 = .ok (.ishl, 1) := by decide +kernel
theorem dX9_parts_66 : decode cX9_parts 66 = .ok (.isub, 1) := by decide +kernel
theorem dX9_parts_67 : decode cX9_parts 67 = .ok (.iastore, 1) := by decide +kernel
theorem dX9_parts_68 : decode cX9_parts 68 = .ok (.iinc 1 1, 3) := by decide +kernel
theorem dX9_parts_71 : decode cX9_parts 71 = .ok (.goto (-69), 3) := by decide +kernel
theorem dX9_parts_74 : decode cX9_parts 74 = .ok (.iconst 0, 1) := by decide +kernel
theorem dX9_parts_75 : decode cX9_parts 75 = .ok (.istore_n 1, 1) := by decide +kernel
theorem dX9_parts_76 : decode cX9_parts 76 = .ok (.iload_n 1, 1) := by decide +kernel
theorem dX9_parts_77 : decode cX9_parts 77 = .ok (.iconst 1, 1) := by decide +kernel
theorem dX9_parts_78 : decode cX9_parts 78 = .ok (.aload_n 0, 1) := by decide +kernel
theorem dX9_parts_79 : decode cX9_parts 79 = .ok (.getfield 126, 3) := by decide +kernel
theorem dX9_parts_82 : decode cX9_parts 82 = .ok (.ishl, 1) := by decide +kernel
theorem dX9_parts_83 : decode cX9_parts 83 = .ok (.if_icmp .ge 25, 3) := by decide +kernel
theorem dX9_parts_86 : decode cX9_parts 86 = .ok (.aload_n 0, 1) := by decide +kernel
theorem dX9_parts_87 : decode cX9_parts 87 = .ok (.getfield 108, 3) := by decide +kernel
theorem dX9_parts_90 : decode cX9_parts 90 = .ok (.sipush 1024, 3) := by decide +kernel
theorem dX9_parts_93 : decode cX9_parts 93 = .ok (.aload_n 0, 1) := by decide +kernel
theorem dX9_parts_94 : decode cX9_parts 94 = .ok (.getfield 129, 3) := by decide +kernel
theorem dX9_parts_97 : decode cX9_parts 97 = .ok (.imul, 1) := by decide +kernel
theorem dX9_parts_98 : decode cX9_parts 98 = .ok (.iload_n 1, 1) := by decide +kernel
theorem dX9_parts_99 : decode cX9_parts 99 = .ok (.iadd, 1) := by decide +kernel
theorem dX9_parts_100 : decode cX9_parts 100 = .ok (.iconst 0, 1) := by decide +kernel
theorem dX9_parts_101 : decode cX9_parts 101 = .ok (.iastore, 1) := by decide +kernel
theorem dX9_parts_102 : decode cX9_parts 102 = .ok (.iinc 1 1, 3) := by decide +kernel
theorem dX9_parts_105 : decode cX9_parts 105 = .ok (.goto (-29), 3) := by decide +kernel
theorem dX9_parts_108 : decode cX9_parts 108 = .ok (.iconst 2, 1) := by decide +kernel
theorem dX9_parts_109 : decode cX9_parts 109 = .ok (.aload_n 0, 1) := by decide +kernel
theorem dX9_parts_110 : decode cX9_parts 110 = .ok (.getfield 129, 3) := by decide +kernel
theorem dX9_parts_113 : decode cX9_parts 113 = .ok (.imul, 1) := by decide +kernel
theorem dX9_parts_114 : decode cX9_parts 114 = .ok (.iconst 1, 1) := by decide +kernel
theorem dX9_parts_115 : decode cX9_parts 115 = .ok (.isub, 1) := by decide +kernel
theorem dX9_parts_116 : decode cX9_parts 116 = .ok (.istore_n 1, 1) := by decide +kernel
theorem dX9_parts_117 : decode cX9_parts 117 = .ok (.iload_n 1, 1) := by decide +kernel
theorem dX9_parts_118 : decode cX9_parts 118 = .ok (.ifCond .lt 132, 3) := by decide +kernel
theorem dX9_parts_121 : decode cX9_parts 121 = .ok (.iconst 0, 1) := by decide +kernel
theorem dX9_parts_122 : decode cX9_parts 122 = .ok (.istore_n 2, 1) := by decide +kernel
theorem dX9_parts_123 : decode cX9_parts 123 = .ok (.iload_n 2, 1) := by decide +kernel
theorem dX9_parts_124 : decode cX9_parts 124 = .ok (.iconst 1, 1) := by decide +kernel
theorem dX9_parts_125 : decode cX9_parts 125 = .ok (.aload_n 0, 1) := by decide +kernel
theorem dX9_parts_126 : decode cX9_parts 126 = .ok (.getfield 126, 3) := by decide +kernel
theorem dX9_parts_129 : decode cX9_parts 129 = .ok (.ishl, 1) := by decide +kernel
theorem dX9_parts_130 : decode cX9_parts 130 = .ok (.if_icmp .ge 114, 3) := by decide +kernel
theorem dX9_parts_133 : decode cX9_parts 133 = .ok (.aload_n 0, 1) := by decide +kernel
theorem dX9_parts_134 : decode cX9_parts 134 = .ok (.iload_n 1, 1) := by decide +kernel
theorem dX9_parts_135 : decode cX9_parts 135 = .ok (.iconst 1, 1) := by decide +kernel
theorem dX9_parts_136 : decode cX9_parts 136 = .ok (.iadd, 1) := by decide +kernel
theorem dX9_parts_137 : decode cX9_parts 137 = .ok (.iload_n 2, 1) := by decide +kernel
theorem dX9_parts_138 : decode cX9_parts 138 = .ok (.invokevirtual 257, 3) := by decide +kernel
theorem dX9_parts_141 : decode cX9_parts 141 = .ok (.istore_n 3, 1) := by decide +kernel
theorem dX9_parts_142 : decode cX9_parts 142 = .ok (.iconst 0, 1) := by decide +kernel
theorem dX9_parts_143 : decode cX9_parts 143 = .ok (.istore 4, 2) := by decide +kernel
theorem dX9_parts_145 : decode cX9_parts 145 = .ok (.iload 4, 2) := by decide +kernel
theorem dX9_parts_147 : decode cX9_parts 147 = .ok (.aload_n 0, 1) := by decide +kernel
theorem dX9_parts_148 : decode cX9_parts 148 = .ok (.getfield 126, 3) := by decide +kernel
theorem dX9_parts_151 : decode cX9_parts 151 = .ok (.if_icmp .ge 74, 3) := by decide +kernel
theorem dX9_parts_154 : decode cX9_parts 154 = .ok (.aload_n 0, 1) := by decide +kernel
theorem dX9_parts_155 : decode cX9_parts 155 = .ok (.getfield 111, 3) := by decide +kernel
theorem dX9_parts_158 : decode cX9_parts 158 = .ok (.iload_n 1, 1) := by decide +kernel
theorem dX9_parts_159 : decode cX9_parts 159 = .ok (.iaload, 1) := by decide +kernel
theorem dX9_parts_160 : decode cX9_parts 160 = .ok (.iload 4, 2) := by decide +kernel
theorem dX9_parts_162 : decode cX9_parts 162 = .ok (.ishr, 1) := by decide +kernel
theorem dX9_parts_163 : decode cX9_parts 163 = .ok (.iconst 1, 1) := by decide +kernel
theorem dX9_parts_164 : decode cX9_parts 164 = .ok (.iand, 1) := by decide +kernel
theorem dX9_parts_165 : decode cX9_parts 165 = .ok (.ifCond .eq 54, 3) := by decide +kernel
theorem dX9_parts_168 : decode cX9_parts 168 = .ok (.iload_n 2, 1) := by decide +kernel
theorem dX9_parts_169 : decode cX9_parts 169 = .ok (.iload 4, 2) := by decide +kernel
theorem dX9_parts_171 : decode cX9_parts 171 = .ok (.ishr, 1) := by decide +kernel
theorem dX9_parts_172 : decode cX9_parts 172 = .ok (.iconst 1, 1) := by decide +kernel
theorem dX9_parts_173 : decode cX9_parts 173 = .ok (.iand, 1) := by decide +kernel
theorem dX9_parts_174 : decode cX9_parts 174 = .ok (.iconst 1, 1) := by decide +kernel
theorem dX9_parts_175 : decode cX9_parts 175 = .ok (.if_icmp .ne 6, 3) := by decide +kernel
theorem dX9_parts_178 : decode cX9_parts 178 = .ok (.goto 41, 3) := by decide +kernel
theorem dX9_parts_181 : decode cX9_parts 181 = .ok (.sipush 1000, 3) := by decide +kernel
theorem dX9_parts_184 : decode cX9_parts 184 = .ok (.aload_n 0, 1) := by decide +kernel
theorem dX9_parts_185 : decode cX9_parts 185 = .ok (.iload 4, 2) := by decide +kernel
theorem dX9_parts_187 : decode cX9_parts 187 = .ok (.iload_n 1, 1) := by decide +kernel
theorem dX9_parts_188 : decode cX9_parts 188 = .ok (.iconst 2, 1) := by decide +kernel
theorem dX9_parts_189 : decode cX9_parts 189 = .ok (.idiv, 1) := by decide +kernel
theorem dX9_parts_190 : decode cX9_parts 190 = .ok (.invokevirtual 163, 3) := by decide +kernel
theorem dX9_parts_193 : decode cX9_parts 193 = .ok (.isub, 1) := by decide +kernel
theorem dX9_parts_194 : decode cX9_parts 194 = .ok (.aload_n 0, 1) := by decide +kernel
theorem dX9_parts_195 : decode cX9_parts 195 = .ok (.iload_n 1, 1) := by decide +kernel
theorem dX9_parts_196 : decode cX9_parts 196 = .ok (.iconst 1, 1) := by decide +kernel
theorem dX9_parts_197 : decode cX9_parts 197 = .ok (.iadd, 1) := by decide +kernel
theorem dX9_parts_198 : decode cX9_parts 198 = .ok (.iload_n 2, 1) := by decide +kernel
theorem dX9_parts_199 : decode cX9_parts 199 = .ok (.iconst 1, 1) := by decide +kernel
theorem dX9_parts_200 : decode cX9_parts 200 = .ok (.iload 4, 2) := by decide +kernel
theorem dX9_parts_202 : decode cX9_parts 202 = .ok (.ishl, 1) := by decide +kernel
theorem dX9_parts_203 : decode cX9_parts 203 = .ok (.iadd, 1) := by decide +kernel
theorem dX9_parts_204 : decode cX9_parts 204 = .ok (.invokevirtual 257, 3) := by decide +kernel
theorem dX9_parts_207 : decode cX9_parts 207 = .ok (.iadd, 1) := by decide +kernel
theorem dX9_parts_208 : decode cX9_parts 208 = .ok (.istore 5, 2) := by decide +kernel
theorem dX9_parts_210 : decode cX9_parts 210 = .ok (.iload 5, 2) := by decide +kernel
theorem dX9_parts_212 : decode cX9_parts 212 = .ok (.iload_n 3, 1) := by decide +kernel
theorem dX9_parts_213 : decode cX9_parts 213 = .ok (.if_icmp .le 6, 3) := by decide +kernel
theorem dX9_parts_216 : decode cX9_parts 216 = .ok (.iload 5, 2) := by decide +kernel
theorem dX9_parts_218 : decode cX9_parts 218 = .ok (.istore_n 3, 1) := by decide +kernel
theorem dX9_parts_219 : decode cX9_parts 219 = .ok (.iinc 4 1, 3) := by decide +kernel
theorem dX9_parts_222 : decode cX9_parts 222 = .ok (.goto (-77), 3) := by decide +kernel
theorem dX9_parts_225 : decode cX9_parts 225 = .ok (.aload_n 0, 1) := by decide +kernel
theorem dX9_parts_226 : decode cX9_parts 226 = .ok (.getfield 108, 3) := by decide +kernel
theorem dX9_parts_229 : decode cX9_parts 229 = .ok (.sipush 512, 3) := by decide +kernel
theorem dX9_parts_232 : decode cX9_parts 232 = .ok (.iload_n 1, 1) := by decide +kernel
theorem dX9_parts_233 : decode cX9_parts 233 = .ok (.imul, 1) := by decide +kernel
theorem dX9_parts_234 : decode cX9_parts 234 = .ok (.iload_n 2, 1) := by decide +kernel
theorem dX9_parts_235 : decode cX9_parts 235 = .ok (.iadd, 1) := by decide +kernel
theorem dX9_parts_236 : decode cX9_parts 236 = .ok (.iload_n 3, 1) := by decide +kernel
theorem dX9_parts_237 : decode cX9_parts 237 = .ok (.iastore, 1) := by decide +kernel
theorem dX9_parts_238 : decode cX9_parts 238 = .ok (.iinc 2 1, 3) := by decide +kernel
theorem dX9_parts_241 : decode cX9_parts 241 = .ok (.goto (-118), 3) := by decide +kernel
theorem dX9_parts_244 : decode cX9_parts 244 = .ok (.iinc 1 (-1), 3) := by decide +kernel
theorem dX9_parts_247 : decode cX9_parts 247 = .ok (.goto (-130), 3) := by decide +kernel
theorem dX9_parts_250 : decode cX9_parts 250 = .ok (.return_, 1) := by decide +kernel
theorem dX9_filled_0 : decode cX9_filled 0 = .ok (.iload_n 1, 1) := by decide +kernel
theorem dX9_filled_1 : decode cX9_filled 1 = .ok (.sipush 999, 3) := by decide +kernel
theorem dX9_filled_4 : decode cX9_filled 4 = .ok (.iadd, 1) := by decide +kernel
theorem dX9_filled_5 : decode cX9_filled 5 = .ok (.sipush 1000, 3) := by decide +kernel
theorem dX9_filled_8 : decode cX9_filled 8 = .ok (.idiv, 1) := by decide +kernel
theorem dX9_filled_9 : decode cX9_filled 9 = .ok (.ireturn, 1) := by decide +kernel
theorem dX9_whole_0 : decode cX9_whole 0 = .ok (.iload_n 1, 1) := by decide +kernel
theorem dX9_whole_1 : decode cX9_whole 1 = .ok (.ifCond .lt 8, 3) := by decide +kernel
theorem dX9_whole_4 : decode cX9_whole 4 = .ok (.iload_n 1, 1) := by decide +kernel
theorem dX9_whole_5 : decode cX9_whole 5 = .ok (.iconst 1, 1) := by decide +kernel
theorem dX9_whole_6 : decode cX9_whole 6 = .ok (.if_icmp .le 10, 3) := by decide +kernel
theorem dX9_whole_9 : decode cX9_whole 9 = .ok (.aload_n 0, 1) := by decide +kernel
theorem dX9_whole_10 : decode cX9_whole 10 = .ok (.bipush (-5), 2) := by decide +kernel
theorem dX9_whole_12 : decode cX9_whole 12 = .ok (.invokevirtual 136, 3) := by decide +kernel
theorem dX9_whole_15 : decode cX9_whole 15 = .ok (.ireturn, 1) := by decide +kernel
theorem dX9_whole_16 : decode cX9_whole 16 = .ok (.aload_n 0, 1) := by decide +kernel
theorem dX9_whole_17 : decode cX9_whole 17 = .ok (.invokevirtual 260, 3) := by decide +kernel
theorem dX9_whole_20 : decode cX9_whole 20 = .ok (.aload_n 0, 1) := by decide +kernel
theorem dX9_whole_21 : decode cX9_whole 21 = .ok (.iconst 0, 1) := by decide +kernel
theorem dX9_whole_22 : decode cX9_whole 22 = .ok (.iconst 0, 1) := by decide +kernel
theorem dX9_whole_23 : decode cX9_whole 23 = .ok (.invokevirtual 257, 3) := by decide +kernel
theorem dX9_whole_26 : decode cX9_whole 26 = .ok (.istore_n 2, 1) := by decide +kernel
theorem dX9_whole_27 : decode cX9_whole 27 = .ok (.aload_n 0, 1) := by decide +kernel
theorem dX9_whole_28 : decode cX9_whole 28 = .ok (.iload_n 2, 1) := by decide +kernel
theorem dX9_whole_29 : decode cX9_whole 29 = .ok (.invokevirtual 263, 3) := by decide +kernel
theorem dX9_whole_32 : decode cX9_whole 32 = .ok (.istore_n 3, 1) := by decide +kernel
theorem dX9_whole_33 : decode cX9_whole 33 = .ok (.iload_n 1, 1) := by decide +kernel
theorem dX9_whole_34 : decode cX9_whole 34 = .ok (.ifCond .ne 7, 3) := by decide +kernel
theorem dX9_whole_37 : decode cX9_whole 37 = .ok (.iload_n 3, 1) := by decide +kernel
theorem dX9_whole_38 : decode cX9_whole 38 = .ok (.goto 10, 3) := by decide +kernel
theorem dX9_whole_41 : decode cX9_whole 41 = .ok (.sipush 1000, 3) := by decide +kernel
theorem dX9_whole_44 : decode cX9_whole 44 = .ok (.iload_n 3, 1) := by decide +kernel
theorem dX9_whole_45 : decode cX9_whole 45 = .ok (.imul, 1) := by decide +kernel
theorem dX9_whole_46 : decode cX9_whole 46 = .ok (.iload_n 2, 1) := by decide +kernel
theorem dX9_whole_47 : decode cX9_whole 47 = .ok (.isub, 1) := by decide +kernel
theorem dX9_whole_48 : decode cX9_whole 48 = .ok (.ireturn, 1) := by decide +kernel
theorem dX9_given_0 : decode cX9_given 0 = .ok (.aload_n 0, 1) := by decide +kernel
theorem dX9_given_1 : decode cX9_given 1 = .ok (.iload_n 1, 1) := by decide +kernel
theorem dX9_given_2 : decode cX9_given 2 = .ok (.iconst 0, 1) := by decide +kernel
theorem dX9_given_3 : decode cX9_given 3 = .ok (.iconst 2, 1) := by decide +kernel
theorem dX9_given_4 : decode cX9_given 4 = .ok (.aload_n 0, 1) := by decide +kernel
theorem dX9_given_5 : decode cX9_given 5 = .ok (.getfield 129, 3) := by decide +kernel
theorem dX9_given_8 : decode cX9_given 8 = .ok (.imul, 1) := by decide +kernel
theorem dX9_given_9 : decode cX9_given 9 = .ok (.iconst 1, 1) := by decide +kernel
theorem dX9_given_10 : decode cX9_given 10 = .ok (.isub, 1) := by decide +kernel
theorem dX9_given_11 : decode cX9_given 11 = .ok (.invokevirtual 172, 3) := by decide +kernel
theorem dX9_given_14 : decode cX9_given 14 = .ok (.ifCond .ne 10, 3) := by decide +kernel
theorem dX9_given_17 : decode cX9_given 17 = .ok (.aload_n 0, 1) := by decide +kernel
theorem dX9_given_18 : decode cX9_given 18 = .ok (.bipush (-5), 2) := by decide +kernel
theorem dX9_given_20 : decode cX9_given 20 = .ok (.invokevirtual 190, 3) := by decide +kernel
theorem dX9_given_23 : decode cX9_given 23 = .ok (.ireturn, 1) := by decide +kernel
theorem dX9_given_24 : decode cX9_given 24 = .ok (.aload_n 0, 1) := by decide +kernel
theorem dX9_given_25 : decode cX9_given 25 = .ok (.invokevirtual 260, 3) := by decide +kernel
theorem dX9_given_28 : decode cX9_given 28 = .ok (.iconst 0, 1) := by decide +kernel
theorem dX9_given_29 : decode cX9_given 29 = .ok (.istore_n 2, 1) := by decide +kernel
theorem dX9_given_30 : decode cX9_given 30 = .ok (.iconst 0, 1) := by decide +kernel
theorem dX9_given_31 : decode cX9_given 31 = .ok (.istore_n 3, 1) := by decide +kernel
theorem dX9_given_32 : decode cX9_given 32 = .ok (.iconst (-1), 1) := by decide +kernel
theorem dX9_given_33 : decode cX9_given 33 = .ok (.istore 4, 2) := by decide +kernel
theorem dX9_given_35 : decode cX9_given 35 = .ok (.aload_n 0, 1) := by decide +kernel
theorem dX9_given_36 : decode cX9_given 36 = .ok (.getfield 126, 3) := by decide +kernel
theorem dX9_given_39 : decode cX9_given 39 = .ok (.iconst 1, 1) := by decide +kernel
theorem dX9_given_40 : decode cX9_given 40 = .ok (.isub, 1) := by decide +kernel
theorem dX9_given_41 : decode cX9_given 41 = .ok (.istore 5, 2) := by decide +kernel
theorem dX9_given_43 : decode cX9_given 43 = .ok (.iload 5, 2) := by decide +kernel
theorem dX9_given_45 : decode cX9_given 45 = .ok (.ifCond .lt 76, 3) := by decide +kernel
theorem dX9_given_48 : decode cX9_given 48 = .ok (.aload_n 0, 1) := by decide +kernel
theorem dX9_given_49 : decode cX9_given 49 = .ok (.getfield 111, 3) := by decide +kernel
theorem dX9_given_52 : decode cX9_given 52 = .ok (.iload_n 3, 1) := by decide +kernel
theorem dX9_given_53 : decode cX9_given 53 = .ok (.iaload, 1) := by decide +kernel
theorem dX9_given_54 : decode cX9_given 54 = .ok (.iload 5, 2) := by decide +kernel
theorem dX9_given_56 : decode cX9_given 56 = .ok (.ishr, 1) := by decide +kernel
theorem dX9_given_57 : decode cX9_given 57 = .ok (.iconst 1, 1) := by decide +kernel
theorem dX9_given_58 : decode cX9_given 58 = .ok (.iand, 1) := by decide +kernel
theorem dX9_given_59 : decode cX9_given 59 = .ok (.ifCond .eq 56, 3) := by decide +kernel
theorem dX9_given_62 : decode cX9_given 62 = .ok (.iload_n 2, 1) := by decide +kernel
theorem dX9_given_63 : decode cX9_given 63 = .ok (.iload 5, 2) := by decide +kernel
theorem dX9_given_65 : decode cX9_given 65 = .ok (.ishr, 1) := by decide +kernel
theorem dX9_given_66 : decode cX9_given 66 = .ok (.iconst 1, 1) := by decide +kernel
theorem dX9_given_67 : decode cX9_given 67 = .ok (.iand, 1) := by decide +kernel
theorem dX9_given_68 : decode cX9_given 68 = .ok (.iconst 1, 1) := by decide +kernel
theorem dX9_given_69 : decode cX9_given 69 = .ok (.if_icmp .ne 6, 3) := by decide +kernel
theorem dX9_given_72 : decode cX9_given 72 = .ok (.goto 43, 3) := by decide +kernel
theorem dX9_given_75 : decode cX9_given 75 = .ok (.sipush 1000, 3) := by decide +kernel
theorem dX9_given_78 : decode cX9_given 78 = .ok (.aload_n 0, 1) := by decide +kernel
theorem dX9_given_79 : decode cX9_given 79 = .ok (.iload 5, 2) := by decide +kernel
theorem dX9_given_81 : decode cX9_given 81 = .ok (.iload_n 3, 1) := by decide +kernel
theorem dX9_given_82 : decode cX9_given 82 = .ok (.iconst 2, 1) := by decide +kernel
theorem dX9_given_83 : decode cX9_given 83 = .ok (.idiv, 1) := by decide +kernel
theorem dX9_given_84 : decode cX9_given 84 = .ok (.invokevirtual 163, 3) := by decide +kernel
theorem dX9_given_87 : decode cX9_given 87 = .ok (.isub, 1) := by decide +kernel
theorem dX9_given_88 : decode cX9_given 88 = .ok (.aload_n 0, 1) := by decide +kernel
theorem dX9_given_89 : decode cX9_given 89 = .ok (.iload_n 3, 1) := by decide +kernel
theorem dX9_given_90 : decode cX9_given 90 = .ok (.iconst 1, 1) := by decide +kernel
theorem dX9_given_91 : decode cX9_given 91 = .ok (.iadd, 1) := by decide +kernel
theorem dX9_given_92 : decode cX9_given 92 = .ok (.iload_n 2, 1) := by decide +kernel
theorem dX9_given_93 : decode cX9_given 93 = .ok (.iconst 1, 1) := by decide +kernel
theorem dX9_given_94 : decode cX9_given 94 = .ok (.iload 5, 2) := by decide +kernel
theorem dX9_given_96 : decode cX9_given 96 = .ok (.ishl, 1) := by decide +kernel
theorem dX9_given_97 : decode cX9_given 97 = .ok (.iadd, 1) := by decide +kernel
theorem dX9_given_98 : decode cX9_given 98 = .ok (.invokevirtual 257, 3) := by decide +kernel
theorem dX9_given_101 : decode cX9_given 101 = .ok (.iadd, 1) := by decide +kernel
theorem dX9_given_102 : decode cX9_given 102 = .ok (.aload_n 0, 1) := by decide +kernel
theorem dX9_given_103 : decode cX9_given 103 = .ok (.iload_n 3, 1) := by decide +kernel
theorem dX9_given_104 : decode cX9_given 104 = .ok (.iload_n 2, 1) := by decide +kernel
theorem dX9_given_105 : decode cX9_given 105 = .ok (.invokevirtual 257, 3) := by decide +kernel
theorem dX9_given_108 : decode cX9_given 108 = .ok (.if_icmp .ne 7, 3) := by decide +kernel
theorem dX9_given_111 : decode cX9_given 111 = .ok (.iload 5, 2) := by decide +kernel
theorem dX9_given_113 : decode cX9_given 113 = .ok (.istore 4, 2) := by decide +kernel
theorem dX9_given_115 : decode cX9_given 115 = .ok (.iinc 5 (-1), 3) := by decide +kernel
theorem dX9_given_118 : decode cX9_given 118 = .ok (.goto (-75), 3) := by decide +kernel
theorem dX9_given_121 : decode cX9_given 121 = .ok (.iload_n 3, 1) := by decide +kernel
theorem dX9_given_122 : decode cX9_given 122 = .ok (.iload_n 1, 1) := by decide +kernel
theorem dX9_given_123 : decode cX9_given 123 = .ok (.if_icmp .ne 6, 3) := by decide +kernel
theorem dX9_given_126 : decode cX9_given 126 = .ok (.iload 4, 2) := by decide +kernel
theorem dX9_given_128 : decode cX9_given 128 = .ok (.ireturn, 1) := by decide +kernel
theorem dX9_given_129 : decode cX9_given 129 = .ok (.iload 4, 2) := by decide +kernel
theorem dX9_given_131 : decode cX9_given 131 = .ok (.iconst (-1), 1) := by decide +kernel
theorem dX9_given_132 : decode cX9_given 132 = .ok (.if_icmp .eq 10, 3) := by decide +kernel
theorem dX9_given_135 : decode cX9_given 135 = .ok (.iload_n 2, 1) := by decide +kernel
theorem dX9_given_136 : decode cX9_given 136 = .ok (.iconst 1, 1) := by decide +kernel
theorem dX9_given_137 : decode cX9_given 137 = .ok (.iload 4, 2) := by decide +kernel
theorem dX9_given_139 : decode cX9_given 139 = .ok (.ishl, 1) := by decide +kernel
theorem dX9_given_140 : decode cX9_given 140 = .ok (.iadd, 1) := by decide +kernel
theorem dX9_given_141 : decode cX9_given 141 = .ok (.istore_n 2, 1) := by decide +kernel
theorem dX9_given_142 : decode cX9_given 142 = .ok (.iinc 3 1, 3) := by decide +kernel
theorem dX9_given_145 : decode cX9_given 145 = .ok (.goto (-113), 3) := by decide +kernel
theorem dX9_cast_0 : decode cX9_cast 0 = .ok (.iconst (-1), 1) := by decide +kernel
theorem dX9_cast_1 : decode cX9_cast 1 = .ok (.istore_n 1, 1) := by decide +kernel
theorem dX9_cast_2 : decode cX9_cast 2 = .ok (.iconst (-1), 1) := by decide +kernel
theorem dX9_cast_3 : decode cX9_cast 3 = .ok (.istore_n 2, 1) := by decide +kernel
theorem dX9_cast_4 : decode cX9_cast 4 = .ok (.aload_n 0, 1) := by decide +kernel
theorem dX9_cast_5 : decode cX9_cast 5 = .ok (.iconst 0, 1) := by decide +kernel
theorem dX9_cast_6 : decode cX9_cast 6 = .ok (.iconst 0, 1) := by decide +kernel
theorem dX9_cast_7 : decode cX9_cast 7 = .ok (.iconst 0, 1) := by decide +kernel
theorem dX9_cast_8 : decode cX9_cast 8 = .ok (.iconst 0, 1) := by decide +kernel
theorem dX9_cast_9 : decode cX9_cast 9 = .ok (.iconst 0, 1) := by decide +kernel
theorem dX9_cast_10 : decode cX9_cast 10 = .ok (.iconst 0, 1) := by decide +kernel
theorem dX9_cast_11 : decode cX9_cast 11 = .ok (.invokevirtual 176, 3) := by decide +kernel
theorem dX9_cast_14 : decode cX9_cast 14 = .ok (.istore_n 3, 1) := by decide +kernel
theorem dX9_cast_15 : decode cX9_cast 15 = .ok (.iconst 0, 1) := by decide +kernel
theorem dX9_cast_16 : decode cX9_cast 16 = .ok (.istore 4, 2) := by decide +kernel
theorem dX9_cast_18 : decode cX9_cast 18 = .ok (.iload 4, 2) := by decide +kernel
theorem dX9_cast_20 : decode cX9_cast 20 = .ok (.sipush 200, 3) := by decide +kernel
theorem dX9_cast_23 : decode cX9_cast 23 = .ok (.if_icmp .ge 72, 3) := by decide +kernel
theorem dX9_cast_26 : decode cX9_cast 26 = .ok (.aload_n 0, 1) := by decide +kernel
theorem dX9_cast_27 : decode cX9_cast 27 = .ok (.getfield 26, 3) := by decide +kernel
theorem dX9_cast_30 : decode cX9_cast 30 = .ok (.iload_n 3, 1) := by decide +kernel
theorem dX9_cast_31 : decode cX9_cast 31 = .ok (.iload 4, 2) := by decide +kernel
theorem dX9_cast_33 : decode cX9_cast 33 = .ok (.bipush 100, 2) := by decide +kernel
theorem dX9_cast_35 : decode cX9_cast 35 = .ok (.idiv, 1) := by decide +kernel
theorem dX9_cast_36 : decode cX9_cast 36 = .ok (.iastore, 1) := by decide +kernel
theorem dX9_cast_37 : decode cX9_cast 37 = .ok (.aload_n 0, 1) := by decide +kernel
theorem dX9_cast_38 : decode cX9_cast 38 = .ok (.getfield 29, 3) := by decide +kernel
theorem dX9_cast_41 : decode cX9_cast 41 = .ok (.iload_n 3, 1) := by decide +kernel
theorem dX9_cast_42 : decode cX9_cast 42 = .ok (.iload 4, 2) := by decide +kernel
theorem dX9_cast_44 : decode cX9_cast 44 = .ok (.bipush 10, 2) := by decide +kernel
theorem dX9_cast_46 : decode cX9_cast 46 = .ok (.idiv, 1) := by decide +kernel
theorem dX9_cast_47 : decode cX9_cast 47 = .ok (.bipush 10, 2) := by decide +kernel
theorem dX9_cast_49 : decode cX9_cast 49 = .ok (.irem, 1) := by decide +kernel
theorem dX9_cast_50 : decode cX9_cast 50 = .ok (.iastore, 1) := by decide +kernel
theorem dX9_cast_51 : decode cX9_cast 51 = .ok (.aload_n 0, 1) := by decide +kernel
theorem dX9_cast_52 : decode cX9_cast 52 = .ok (.getfield 32, 3) := by decide +kernel
theorem dX9_cast_55 : decode cX9_cast 55 = .ok (.iload_n 3, 1) := by decide +kernel
theorem dX9_cast_56 : decode cX9_cast 56 = .ok (.iload 4, 2) := by decide +kernel
theorem dX9_cast_58 : decode cX9_cast 58 = .ok (.bipush 10, 2) := by decide +kernel
theorem dX9_cast_60 : decode cX9_cast 60 = .ok (.irem, 1) := by decide +kernel
theorem dX9_cast_61 : decode cX9_cast 61 = .ok (.iastore, 1) := by decide +kernel
theorem dX9_cast_62 : decode cX9_cast 62 = .ok (.aload_n 0, 1) := by decide +kernel
theorem dX9_cast_63 : decode cX9_cast 63 = .ok (.invokevirtual 260, 3) := by decide +kernel
theorem dX9_cast_66 : decode cX9_cast 66 = .ok (.aload_n 0, 1) := by decide +kernel
theorem dX9_cast_67 : decode cX9_cast 67 = .ok (.iconst 0, 1) := by decide +kernel
theorem dX9_cast_68 : decode cX9_cast 68 = .ok (.iconst 0, 1) := by decide +kernel
theorem dX9_cast_69 : decode cX9_cast 69 = .ok (.invokevirtual 257, 3) := by decide +kernel
theorem dX9_cast_72 : decode cX9_cast 72 = .ok (.iload_n 2, 1) := by decide +kernel
theorem dX9_cast_73 : decode cX9_cast 73 = .ok (.if_icmp .gt 6, 3) := by decide +kernel
theorem dX9_cast_76 : decode cX9_cast 76 = .ok (.goto 13, 3) := by decide +kernel
theorem dX9_cast_79 : decode cX9_cast 79 = .ok (.iload 4, 2) := by decide +kernel
theorem dX9_cast_81 : decode cX9_cast 81 = .ok (.istore_n 1, 1) := by decide +kernel
theorem dX9_cast_82 : decode cX9_cast 82 = .ok (.aload_n 0, 1) := by decide +kernel
theorem dX9_cast_83 : decode cX9_cast 83 = .ok (.iconst 0, 1) := by decide +kernel
theorem dX9_cast_84 : decode cX9_cast 84 = .ok (.iconst 0, 1) := by decide +kernel
theorem dX9_cast_85 : decode cX9_cast 85 = .ok (.invokevirtual 257, 3) := by decide +kernel
theorem dX9_cast_88 : decode cX9_cast 88 = .ok (.istore_n 2, 1) := by decide +kernel
theorem dX9_cast_89 : decode cX9_cast 89 = .ok (.iinc 4 1, 3) := by decide +kernel
theorem dX9_cast_92 : decode cX9_cast 92 = .ok (.goto (-74), 3) := by decide +kernel
theorem dX9_cast_95 : decode cX9_cast 95 = .ok (.aload_n 0, 1) := by decide +kernel
theorem dX9_cast_96 : decode cX9_cast 96 = .ok (.dup, 1) := by decide +kernel
theorem dX9_cast_97 : decode cX9_cast 97 = .ok (.getfield 126, 3) := by decide +kernel
theorem dX9_cast_100 : decode cX9_cast 100 = .ok (.iconst 1, 1) := by decide +kernel
theorem dX9_cast_101 : decode cX9_cast 101 = .ok (.isub, 1) := by decide +kernel
theorem dX9_cast_102 : decode cX9_cast 102 = .ok (.putfield 126, 3) := by decide +kernel
theorem dX9_cast_105 : decode cX9_cast 105 = .ok (.iload_n 1, 1) := by decide +kernel
theorem dX9_cast_106 : decode cX9_cast 106 = .ok (.ireturn, 1) := by decide +kernel
theorem dX9_tea_0 : decode cX9_tea 0 = .ok (.aload_n 0, 1) := by decide +kernel
theorem dX9_tea_1 : decode cX9_tea 1 = .ok (.iload_n 1, 1) := by decide +kernel
theorem dX9_tea_2 : decode cX9_tea 2 = .ok (.invokevirtual 140, 3) := by decide +kernel
theorem dX9_tea_5 : decode cX9_tea 5 = .ok (.ifCond .eq 11, 3) := by decide +kernel
theorem dX9_tea_8 : decode cX9_tea 8 = .ok (.aload_n 0, 1) := by decide +kernel
theorem dX9_tea_9 : decode cX9_tea 9 = .ok (.iload_n 2, 1) := by decide +kernel
theorem dX9_tea_10 : decode cX9_tea 10 = .ok (.invokevirtual 184, 3) := by decide +kernel
theorem dX9_tea_13 : decode cX9_tea 13 = .ok (.ifCond .ne 9, 3) := by decide +kernel
theorem dX9_tea_16 : decode cX9_tea 16 = .ok (.aload_n 0, 1) := by decide +kernel
theorem dX9_tea_17 : decode cX9_tea 17 = .ok (.iconst (-1), 1) := by decide +kernel
theorem dX9_tea_18 : decode cX9_tea 18 = .ok (.invokevirtual 136, 3) := by decide +kernel
theorem dX9_tea_21 : decode cX9_tea 21 = .ok (.ireturn, 1) := by decide +kernel
theorem dX9_tea_22 : decode cX9_tea 22 = .ok (.aload_n 0, 1) := by decide +kernel
theorem dX9_tea_23 : decode cX9_tea 23 = .ok (.getfield 32, 3) := by decide +kernel
theorem dX9_tea_26 : decode cX9_tea 26 = .ok (.iload_n 1, 1) := by decide +kernel
theorem dX9_tea_27 : decode cX9_tea 27 = .ok (.iaload, 1) := by decide +kernel
theorem dX9_tea_28 : decode cX9_tea 28 = .ok (.istore_n 3, 1) := by decide +kernel
theorem dX9_tea_29 : decode cX9_tea 29 = .ok (.iconst 0, 1) := by decide +kernel
theorem dX9_tea_30 : decode cX9_tea 30 = .ok (.istore 4, 2) := by decide +kernel
theorem dX9_tea_32 : decode cX9_tea 32 = .ok (.iconst (-1), 1) := by decide +kernel
theorem dX9_tea_33 : decode cX9_tea 33 = .ok (.istore 5, 2) := by decide +kernel
theorem dX9_tea_35 : decode cX9_tea 35 = .ok (.iconst 0, 1) := by decide +kernel
theorem dX9_tea_36 : decode cX9_tea 36 = .ok (.istore 6, 2) := by decide +kernel
theorem dX9_tea_38 : decode cX9_tea 38 = .ok (.iload 6, 2) := by decide +kernel
theorem dX9_tea_40 : decode cX9_tea 40 = .ok (.bipush 9, 2) := by decide +kernel
theorem dX9_tea_42 : decode cX9_tea 42 = .ok (.if_icmp .gt 55, 3) := by decide +kernel
theorem dX9_tea_45 : decode cX9_tea 45 = .ok (.aload_n 0, 1) := by decide +kernel
theorem dX9_tea_46 : decode cX9_tea 46 = .ok (.getfield 32, 3) := by decide +kernel
theorem dX9_tea_49 : decode cX9_tea 49 = .ok (.iload_n 1, 1) := by decide +kernel
theorem dX9_tea_50 : decode cX9_tea 50 = .ok (.aload_n 0, 1) := by decide +kernel
theorem dX9_tea_51 : decode cX9_tea 51 = .ok (.iload_n 3, 1) := by decide +kernel
theorem dX9_tea_52 : decode cX9_tea 52 = .ok (.iload 6, 2) := by decide +kernel
theorem dX9_tea_54 : decode cX9_tea 54 = .ok (.iadd, 1) := by decide +kernel
theorem dX9_tea_55 : decode cX9_tea 55 = .ok (.invokevirtual 153, 3) := by decide +kernel
theorem dX9_tea_58 : decode cX9_tea 58 = .ok (.iastore, 1) := by decide +kernel
theorem dX9_tea_59 : decode cX9_tea 59 = .ok (.aload_n 0, 1) := by decide +kernel
theorem dX9_tea_60 : decode cX9_tea 60 = .ok (.iload_n 1, 1) := by decide +kernel
theorem dX9_tea_61 : decode cX9_tea 61 = .ok (.iload_n 2, 1) := by decide +kernel
theorem dX9_tea_62 : decode cX9_tea 62 = .ok (.invokevirtual 163, 3) := by decide +kernel
theorem dX9_tea_65 : decode cX9_tea 65 = .ok (.istore 7, 2) := by decide +kernel
theorem dX9_tea_67 : decode cX9_tea 67 = .ok (.iload 5, 2) := by decide +kernel
theorem dX9_tea_69 : decode cX9_tea 69 = .ok (.iconst (-1), 1) := by decide +kernel
theorem dX9_tea_70 : decode cX9_tea 70 = .ok (.if_icmp .eq 13, 3) := by decide +kernel
theorem dX9_tea_73 : decode cX9_tea 73 = .ok (.iload 7, 2) := by decide +kernel
theorem dX9_tea_75 : decode cX9_tea 75 = .ok (.iload 5, 2) := by decide +kernel
theorem dX9_tea_77 : decode cX9_tea 77 = .ok (.if_icmp .lt 6, 3) := by decide +kernel
theorem dX9_tea_80 : decode cX9_tea 80 = .ok (.goto 11, 3) := by decide +kernel
theorem dX9_tea_83 : decode cX9_tea 83 = .ok (.iload 6, 2) := by decide +kernel
theorem dX9_tea_85 : decode cX9_tea 85 = .ok (.istore 4, 2) := by decide +kernel
theorem dX9_tea_87 : decode cX9_tea 87 = .ok (.iload 7, 2) := by decide +kernel
theorem dX9_tea_89 : decode cX9_tea 89 = .ok (.istore 5, 2) := by decide +kernel
theorem dX9_tea_91 : decode cX9_tea 91 = .ok (.iinc 6 1, 3) := by decide +kernel
theorem dX9_tea_94 : decode cX9_tea 94 = .ok (.goto (-56), 3) := by decide +kernel
theorem dX9_tea_97 : decode cX9_tea 97 = .ok (.aload_n 0, 1) := by decide +kernel
theorem dX9_tea_98 : decode cX9_tea 98 = .ok (.getfield 32, 3) := by decide +kernel
theorem dX9_tea_101 : decode cX9_tea 101 = .ok (.iload_n 1, 1) := by decide +kernel
theorem dX9_tea_102 : decode cX9_tea 102 = .ok (.iload_n 3, 1) := by decide +kernel
theorem dX9_tea_103 : decode cX9_tea 103 = .ok (.iastore, 1) := by decide +kernel
theorem dX9_tea_104 : decode cX9_tea 104 = .ok (.iload 4, 2) := by decide +kernel
theorem dX9_tea_106 : decode cX9_tea 106 = .ok (.ireturn, 1) := by decide +kernel
theorem dX9_comes_0 : decode cX9_comes 0 = .ok (.aload_n 0, 1) := by decide +kernel
theorem dX9_comes_1 : decode cX9_comes 1 = .ok (.iload_n 1, 1) := by decide +kernel
theorem dX9_comes_2 : decode cX9_comes 2 = .ok (.invokevirtual 184, 3) := by decide +kernel
theorem dX9_comes_5 : decode cX9_comes 5 = .ok (.ifCond .ne 9, 3) := by decide +kernel
theorem dX9_comes_8 : decode cX9_comes 8 = .ok (.aload_n 0, 1) := by decide +kernel
theorem dX9_comes_9 : decode cX9_comes 9 = .ok (.iconst (-1), 1) := by decide +kernel
theorem dX9_comes_10 : decode cX9_comes 10 = .ok (.invokevirtual 136, 3) := by decide +kernel
theorem dX9_comes_13 : decode cX9_comes 13 = .ok (.ireturn, 1) := by decide +kernel
theorem dX9_comes_14 : decode cX9_comes 14 = .ok (.aload_n 0, 1) := by decide +kernel
theorem dX9_comes_15 : decode cX9_comes 15 = .ok (.iload_n 2, 1) := by decide +kernel
theorem dX9_comes_16 : decode cX9_comes 16 = .ok (.iconst 0, 1) := by decide +kernel
theorem dX9_comes_17 : decode cX9_comes 17 = .ok (.bipush 99, 2) := by decide +kernel
theorem dX9_comes_19 : decode cX9_comes 19 = .ok (.invokevirtual 172, 3) := by decide +kernel
theorem dX9_comes_22 : decode cX9_comes 22 = .ok (.ifCond .eq 22, 3) := by decide +kernel
theorem dX9_comes_25 : decode cX9_comes 25 = .ok (.sipush 1000, 3) := by decide +kernel
theorem dX9_comes_28 : decode cX9_comes 28 = .ok (.iload_n 2, 1) := by decide +kernel
theorem dX9_comes_29 : decode cX9_comes 29 = .ok (.imul, 1) := by decide +kernel
theorem dX9_comes_30 : decode cX9_comes 30 = .ok (.aload_n 0, 1) := by decide +kernel
theorem dX9_comes_31 : decode cX9_comes 31 = .ok (.getfield 62, 3) := by decide +kernel
theorem dX9_comes_34 : decode cX9_comes 34 = .ok (.iload_n 1, 1) := by decide +kernel
theorem dX9_comes_35 : decode cX9_comes 35 = .ok (.iaload, 1) := by decide +kernel
theorem dX9_comes_36 : decode cX9_comes 36 = .ok (.iload_n 2, 1) := by decide +kernel
theorem dX9_comes_37 : decode cX9_comes 37 = .ok (.iadd, 1) := by decide +kernel
theorem dX9_comes_38 : decode cX9_comes 38 = .ok (.iconst 1, 1) := by decide +kernel
theorem dX9_comes_39 : decode cX9_comes 39 = .ok (.iadd, 1) := by decide +kernel
theorem dX9_comes_40 : decode cX9_comes 40 = .ok (.idiv, 1) := by decide +kernel
theorem dX9_comes_41 : decode cX9_comes 41 = .ok (.goto 9, 3) := by decide +kernel
theorem dX9_comes_44 : decode cX9_comes 44 = .ok (.aload_n 0, 1) := by decide +kernel
theorem dX9_comes_45 : decode cX9_comes 45 = .ok (.bipush (-6), 2) := by decide +kernel
theorem dX9_comes_47 : decode cX9_comes 47 = .ok (.invokevirtual 136, 3) := by decide +kernel
theorem dX9_comes_50 : decode cX9_comes 50 = .ok (.ireturn, 1) := by decide +kernel
theorem dX9_queues_0 : decode cX9_queues 0 = .ok (.iload_n 1, 1) := by decide +kernel
theorem dX9_queues_1 : decode cX9_queues 1 = .ok (.aload_n 0, 1) := by decide +kernel
theorem dX9_queues_2 : decode cX9_queues 2 = .ok (.getfield 129, 3) := by decide +kernel
theorem dX9_queues_5 : decode cX9_queues 5 = .ok (.if_icmp .ne 60, 3) := by decide +kernel
theorem dX9_queues_8 : decode cX9_queues 8 = .ok (.aload_n 0, 1) := by decide +kernel
theorem dX9_queues_9 : decode cX9_queues 9 = .ok (.getfield 266, 3) := by decide +kernel
theorem dX9_queues_12 : decode cX9_queues 12 = .ok (.iconst (-1), 1) := by decide +kernel
theorem dX9_queues_13 : decode cX9_queues 13 = .ok (.if_icmp .eq 13, 3) := by decide +kernel
theorem dX9_queues_16 : decode cX9_queues 16 = .ok (.iload 4, 2) := by decide +kernel
theorem dX9_queues_18 : decode cX9_queues 18 = .ok (.aload_n 0, 1) := by decide +kernel
theorem dX9_queues_19 : decode cX9_queues 19 = .ok (.getfield 266, 3) := by decide +kernel
theorem dX9_queues_22 : decode cX9_queues 22 = .ok (.if_icmp .lt 4, 3) := by decide +kernel
theorem dX9_queues_25 : decode cX9_queues 25 = .ok (.return_, 1) := by decide +kernel
theorem dX9_queues_26 : decode cX9_queues 26 = .ok (.aload_n 0, 1) := by decide +kernel
theorem dX9_queues_27 : decode cX9_queues 27 = .ok (.iload 4, 2) := by decide +kernel
theorem dX9_queues_29 : decode cX9_queues 29 = .ok (.putfield 266, 3) := by decide +kernel
theorem dX9_queues_32 : decode cX9_queues 32 = .ok (.iconst 0, 1) := by decide +kernel
theorem dX9_queues_33 : decode cX9_queues 33 = .ok (.istore 5, 2) := by decide +kernel
theorem dX9_queues_35 : decode cX9_queues 35 = .ok (.iload 5, 2) := by decide +kernel
theorem dX9_queues_37 : decode cX9_queues 37 = .ok (.aload_n 0, 1) := by decide +kernel
theorem dX9_queues_38 : decode cX9_queues 38 = .ok (.getfield 129, 3) := by decide +kernel
theorem dX9_queues_41 : decode cX9_queues 41 = .ok (.if_icmp .ge 23, 3) := by decide +kernel
theorem dX9_queues_44 : decode cX9_queues 44 = .ok (.aload_n 0, 1) := by decide +kernel
theorem dX9_queues_45 : decode cX9_queues 45 = .ok (.getfield 120, 3) := by decide +kernel
theorem dX9_queues_48 : decode cX9_queues 48 = .ok (.iload 5, 2) := by decide +kernel
theorem dX9_queues_50 : decode cX9_queues 50 = .ok (.aload_n 0, 1) := by decide +kernel
theorem dX9_queues_51 : decode cX9_queues 51 = .ok (.getfield 117, 3) := by decide +kernel
theorem dX9_queues_54 : decode cX9_queues 54 = .ok (.iload 5, 2) := by decide +kernel
theorem dX9_queues_56 : decode cX9_queues 56 = .ok (.iaload, 1) := by decide +kernel
theorem dX9_queues_57 : decode cX9_queues 57 = .ok (.iastore, 1) := by decide +kernel
theorem dX9_queues_58 : decode cX9_queues 58 = .ok (.iinc 5 1, 3) := by decide +kernel
theorem dX9_queues_61 : decode cX9_queues 61 = .ok (.goto (-26), 3) := by decide +kernel
theorem dX9_queues_64 : decode cX9_queues 64 = .ok (.return_, 1) := by decide +kernel
theorem dX9_queues_65 : decode cX9_queues 65 = .ok (.iconst 0, 1) := by decide +kernel
theorem dX9_queues_66 : decode cX9_queues 66 = .ok (.istore 5, 2) := by decide +kernel
theorem dX9_queues_68 : decode cX9_queues 68 = .ok (.iload 5, 2) := by decide +kernel
theorem dX9_queues_70 : decode cX9_queues 70 = .ok (.aload_n 0, 1) := by decide +kernel
theorem dX9_queues_71 : decode cX9_queues 71 = .ok (.getfield 129, 3) := by decide +kernel
theorem dX9_queues_74 : decode cX9_queues 74 = .ok (.if_icmp .ge 72, 3) := by decide +kernel
theorem dX9_queues_77 : decode cX9_queues 77 = .ok (.iload_n 2, 1) := by decide +kernel
theorem dX9_queues_78 : decode cX9_queues 78 = .ok (.iload 5, 2) := by decide +kernel
theorem dX9_queues_80 : decode cX9_queues 80 = .ok (.ishr, 1) := by decide +kernel
theorem dX9_queues_81 : decode cX9_queues 81 = .ok (.iconst 1, 1) := by decide +kernel
theorem dX9_queues_82 : decode cX9_queues 82 = .ok (.iand, 1) := by decide +kernel
theorem dX9_queues_83 : decode cX9_queues 83 = .ok (.iconst 1, 1) := by decide +kernel
theorem dX9_queues_84 : decode cX9_queues 84 = .ok (.if_icmp .ne 6, 3) := by decide +kernel
theorem dX9_queues_87 : decode cX9_queues 87 = .ok (.goto 53, 3) := by decide +kernel
theorem dX9_queues_90 : decode cX9_queues 90 = .ok (.aload_n 0, 1) := by decide +kernel
theorem dX9_queues_91 : decode cX9_queues 91 = .ok (.getfield 117, 3) := by decide +kernel
theorem dX9_queues_94 : decode cX9_queues 94 = .ok (.iload_n 1, 1) := by decide +kernel
theorem dX9_queues_95 : decode cX9_queues 95 = .ok (.iload 5, 2) := by decide +kernel
theorem dX9_queues_97 : decode cX9_queues 97 = .ok (.iastore, 1) := by decide +kernel
theorem dX9_queues_98 : decode cX9_queues 98 = .ok (.aload_n 0, 1) := by decide +kernel
theorem dX9_queues_99 : decode cX9_queues 99 = .ok (.iload_n 1, 1) := by decide +kernel
theorem dX9_queues_100 : decode cX9_queues 100 = .ok (.iconst 1, 1) := by decide +kernel
theorem dX9_queues_101 : decode cX9_queues 101 = .ok (.iadd, 1) := by decide +kernel
theorem dX9_queues_102 : decode cX9_queues 102 = .ok (.iload_n 2, 1) := by decide +kernel
theorem dX9_queues_103 : decode cX9_queues 103 = .ok (.iconst 1, 1) := by decide +kernel
theorem dX9_queues_104 : decode cX9_queues 104 = .ok (.iload 5, 2) := by decide +kernel
theorem dX9_queues_106 : decode cX9_queues 106 = .ok (.ishl, 1) := by decide +kernel
theorem dX9_queues_107 : decode cX9_queues 107 = .ok (.iadd, 1) := by decide +kernel
theorem dX9_queues_108 : decode cX9_queues 108 = .ok (.iload_n 3, 1) := by decide +kernel
theorem dX9_queues_109 : decode cX9_queues 109 = .ok (.aload_n 0, 1) := by decide +kernel
theorem dX9_queues_110 : decode cX9_queues 110 = .ok (.getfield 53, 3) := by decide +kernel
theorem dX9_queues_113 : decode cX9_queues 113 = .ok (.iload 5, 2) := by decide +kernel
theorem dX9_queues_115 : decode cX9_queues 115 = .ok (.iaload, 1) := by decide +kernel
theorem dX9_queues_116 : decode cX9_queues 116 = .ok (.iadd, 1) := by decide +kernel

theorem dX9_copy_109 : decode cX9_copy 109 = .ok (.iload 5, 2) := by decide +kernel
theorem dX9_copy_111 : decode cX9_copy 111 = .ok (.ifCond .ge 10, 3) := by decide +kernel
theorem dX9_copy_114 : decode cX9_copy 114 = .ok (.aload_n 0, 1) := by decide +kernel
theorem dX9_copy_115 : decode cX9_copy 115 = .ok (.bipush (-4), 2) := by decide +kernel
theorem dX9_copy_117 : decode cX9_copy 117 = .ok (.invokevirtual 136, 3) := by decide +kernel
theorem dX9_copy_120 : decode cX9_copy 120 = .ok (.ireturn, 1) := by decide +kernel
theorem dX9_copy_121 : decode cX9_copy 121 = .ok (.iload_n 3, 1) := by decide +kernel
theorem dX9_copy_122 : decode cX9_copy 122 = .ok (.ifCond .lt 35, 3) := by decide +kernel
theorem dX9_copy_125 : decode cX9_copy 125 = .ok (.iload 4, 2) := by decide +kernel
theorem dX9_copy_127 : decode cX9_copy 127 = .ok (.ifCond .lt 30, 3) := by decide +kernel
theorem dX9_copy_130 : decode cX9_copy 130 = .ok (.iload_n 3, 1) := by decide +kernel
theorem dX9_copy_131 : decode cX9_copy 131 = .ok (.aload_n 0, 1) := by decide +kernel
theorem dX9_copy_132 : decode cX9_copy 132 = .ok (.getfield 71, 3) := by decide +kernel
theorem dX9_copy_135 : decode cX9_copy 135 = .ok (.iload_n 1, 1) := by decide +kernel
theorem dX9_copy_136 : decode cX9_copy 136 = .ok (.iaload, 1) := by decide +kernel
theorem dX9_copy_137 : decode cX9_copy 137 = .ok (.iload 5, 2) := by decide +kernel
theorem dX9_copy_139 : decode cX9_copy 139 = .ok (.isub, 1) := by decide +kernel
theorem dX9_copy_140 : decode cX9_copy 140 = .ok (.if_icmp .gt 17, 3) := by decide +kernel
theorem dX9_copy_143 : decode cX9_copy 143 = .ok (.iload 4, 2) := by decide +kernel
theorem dX9_copy_145 : decode cX9_copy 145 = .ok (.aload_n 0, 1) := by decide +kernel
theorem dX9_copy_146 : decode cX9_copy 146 = .ok (.getfield 71, 3) := by decide +kernel
theorem dX9_copy_149 : decode cX9_copy 149 = .ok (.iload_n 2, 1) := by decide +kernel
theorem dX9_copy_150 : decode cX9_copy 150 = .ok (.iaload, 1) := by decide +kernel
theorem dX9_copy_151 : decode cX9_copy 151 = .ok (.iload 5, 2) := by decide +kernel
theorem dX9_copy_153 : decode cX9_copy 153 = .ok (.isub, 1) := by decide +kernel
theorem dX9_copy_154 : decode cX9_copy 154 = .ok (.if_icmp .le 10, 3) := by decide +kernel
theorem dX9_copy_157 : decode cX9_copy 157 = .ok (.aload_n 0, 1) := by decide +kernel
theorem dX9_copy_158 : decode cX9_copy 158 = .ok (.bipush (-5), 2) := by decide +kernel
theorem dX9_copy_160 : decode cX9_copy 160 = .ok (.invokevirtual 136, 3) := by decide +kernel
theorem dX9_copy_163 : decode cX9_copy 163 = .ok (.ireturn, 1) := by decide +kernel
theorem dX9_copy_164 : decode cX9_copy 164 = .ok (.iconst 0, 1) := by decide +kernel
theorem dX9_copy_165 : decode cX9_copy 165 = .ok (.istore 6, 2) := by decide +kernel
theorem dX9_copy_167 : decode cX9_copy 167 = .ok (.iload 6, 2) := by decide +kernel
theorem dX9_copy_169 : decode cX9_copy 169 = .ok (.iload 5, 2) := by decide +kernel
theorem dX9_copy_171 : decode cX9_copy 171 = .ok (.if_icmp .ge 31, 3) := by decide +kernel
theorem dX9_copy_174 : decode cX9_copy 174 = .ok (.aload_n 0, 1) := by decide +kernel
theorem dX9_copy_175 : decode cX9_copy 175 = .ok (.getfield 81, 3) := by decide +kernel
theorem dX9_copy_178 : decode cX9_copy 178 = .ok (.iload 6, 2) := by decide +kernel
theorem dX9_copy_180 : decode cX9_copy 180 = .ok (.aload_n 0, 1) := by decide +kernel
theorem dX9_copy_181 : decode cX9_copy 181 = .ok (.getfield 77, 3) := by decide +kernel
theorem dX9_copy_184 : decode cX9_copy 184 = .ok (.sipush 160, 3) := by decide +kernel
theorem dX9_copy_187 : decode cX9_copy 187 = .ok (.iload_n 1, 1) := by decide +kernel
theorem dX9_copy_188 : decode cX9_copy 188 = .ok (.imul, 1) := by decide +kernel
theorem dX9_copy_189 : decode cX9_copy 189 = .ok (.iload_n 3, 1) := by decide +kernel
theorem dX9_copy_190 : decode cX9_copy 190 = .ok (.iadd, 1) := by decide +kernel
theorem dX9_copy_191 : decode cX9_copy 191 = .ok (.iload 6, 2) := by decide +kernel
theorem dX9_copy_193 : decode cX9_copy 193 = .ok (.iadd, 1) := by decide +kernel
theorem dX9_copy_194 : decode cX9_copy 194 = .ok (.laload, 1) := by decide +kernel
theorem dX9_copy_195 : decode cX9_copy 195 = .ok (.lastore, 1) := by decide +kernel
theorem dX9_copy_196 : decode cX9_copy 196 = .ok (.iinc 6 1, 3) := by decide +kernel
theorem dX9_copy_199 : decode cX9_copy 199 = .ok (.goto (-32), 3) := by decide +kernel
theorem dX9_copy_202 : decode cX9_copy 202 = .ok (.iconst 0, 1) := by decide +kernel
theorem dX9_copy_203 : decode cX9_copy 203 = .ok (.istore 6, 2) := by decide +kernel
theorem dX9_copy_205 : decode cX9_copy 205 = .ok (.iload 6, 2) := by decide +kernel
theorem dX9_copy_207 : decode cX9_copy 207 = .ok (.iload 5, 2) := by decide +kernel
theorem dX9_copy_209 : decode cX9_copy 209 = .ok (.if_icmp .ge 32, 3) := by decide +kernel
theorem dX9_copy_212 : decode cX9_copy 212 = .ok (.aload_n 0, 1) := by decide +kernel
theorem dX9_copy_213 : decode cX9_copy 213 = .ok (.getfield 77, 3) := by decide +kernel
theorem dX9_copy_216 : decode cX9_copy 216 = .ok (.sipush 160, 3) := by decide +kernel
theorem dX9_copy_219 : decode cX9_copy 219 = .ok (.iload_n 2, 1) := by decide +kernel
theorem dX9_copy_220 : decode cX9_copy 220 = .ok (.imul, 1) := by decide +kernel
theorem dX9_copy_221 : decode cX9_copy 221 = .ok (.iload 4, 2) := by decide +kernel
theorem dX9_copy_223 : decode cX9_copy 223 = .ok (.iadd, 1) := by decide +kernel
theorem dX9_copy_224 : decode cX9_copy 224 = .ok (.iload 6, 2) := by decide +kernel
theorem dX9_copy_226 : decode cX9_copy 226 = .ok (.iadd, 1) := by decide +kernel
theorem dX9_copy_227 : decode cX9_copy 227 = .ok (.aload_n 0, 1) := by decide +kernel
theorem dX9_copy_228 : decode cX9_copy 228 = .ok (.getfield 81, 3) := by decide +kernel
theorem dX9_copy_231 : decode cX9_copy 231 = .ok (.iload 6, 2) := by decide +kernel
theorem dX9_copy_233 : decode cX9_copy 233 = .ok (.laload, 1) := by decide +kernel
theorem dX9_copy_234 : decode cX9_copy 234 = .ok (.lastore, 1) := by decide +kernel
theorem dX9_copy_235 : decode cX9_copy 235 = .ok (.iinc 6 1, 3) := by decide +kernel
theorem dX9_copy_238 : decode cX9_copy 238 = .ok (.goto (-33), 3) := by decide +kernel
theorem dX9_copy_241 : decode cX9_copy 241 = .ok (.iconst 1, 1) := by decide +kernel
theorem dX9_copy_242 : decode cX9_copy 242 = .ok (.ireturn, 1) := by decide +kernel
theorem dX9_element_0 : decode cX9_element 0 = .ok (.aload_n 0, 1) := by decide +kernel
theorem dX9_element_1 : decode cX9_element 1 = .ok (.iload_n 1, 1) := by decide +kernel
theorem dX9_element_2 : decode cX9_element 2 = .ok (.invokevirtual 132, 3) := by decide +kernel
theorem dX9_element_5 : decode cX9_element 5 = .ok (.ifCond .eq 42, 3) := by decide +kernel
theorem dX9_element_8 : decode cX9_element 8 = .ok (.aload_n 0, 1) := by decide +kernel
theorem dX9_element_9 : decode cX9_element 9 = .ok (.getfield 65, 3) := by decide +kernel
theorem dX9_element_12 : decode cX9_element 12 = .ok (.iload_n 1, 1) := by decide +kernel
theorem dX9_element_13 : decode cX9_element 13 = .ok (.iaload, 1) := by decide +kernel
theorem dX9_element_14 : decode cX9_element 14 = .ok (.iconst 1, 1) := by decide +kernel
theorem dX9_element_15 : decode cX9_element 15 = .ok (.if_icmp .ne 32, 3) := by decide +kernel
theorem dX9_element_18 : decode cX9_element 18 = .ok (.iload_n 2, 1) := by decide +kernel
theorem dX9_element_19 : decode cX9_element 19 = .ok (.ifCond .lt 28, 3) := by decide +kernel
theorem dX9_element_22 : decode cX9_element 22 = .ok (.iload_n 2, 1) := by decide +kernel
theorem dX9_element_23 : decode cX9_element 23 = .ok (.aload_n 0, 1) := by decide +kernel
theorem dX9_element_24 : decode cX9_element 24 = .ok (.getfield 71, 3) := by decide +kernel
theorem dX9_element_27 : decode cX9_element 27 = .ok (.iload_n 1, 1) := by decide +kernel
theorem dX9_element_28 : decode cX9_element 28 = .ok (.iaload, 1) := by decide +kernel
theorem dX9_element_29 : decode cX9_element 29 = .ok (.if_icmp .ge 18, 3) := by decide +kernel
theorem dX9_element_32 : decode cX9_element 32 = .ok (.aload_n 0, 1) := by decide +kernel
theorem dX9_element_33 : decode cX9_element 33 = .ok (.getfield 77, 3) := by decide +kernel
theorem dX9_element_36 : decode cX9_element 36 = .ok (.sipush 160, 3) := by decide +kernel
theorem dX9_element_39 : decode cX9_element 39 = .ok (.iload_n 1, 1) := by decide +kernel
theorem dX9_element_40 : decode cX9_element 40 = .ok (.imul, 1) := by decide +kernel
theorem dX9_element_41 : decode cX9_element 41 = .ok (.iload_n 2, 1) := by decide +kernel
theorem dX9_element_42 : decode cX9_element 42 = .ok (.iadd, 1) := by decide +kernel
theorem dX9_element_43 : decode cX9_element 43 = .ok (.laload, 1) := by decide +kernel
theorem dX9_element_44 : decode cX9_element 44 = .ok (.goto 4, 3) := by decide +kernel
theorem dX9_element_47 : decode cX9_element 47 = .ok (.lconst 0, 1) := by decide +kernel
theorem dX9_element_48 : decode cX9_element 48 = .ok (.lreturn, 1) := by decide +kernel
theorem dX9_show_0 : decode cX9_show 0 = .ok (.aload_n 0, 1) := by decide +kernel
theorem dX9_show_1 : decode cX9_show 1 = .ok (.iload_n 1, 1) := by decide +kernel
theorem dX9_show_2 : decode cX9_show 2 = .ok (.invokevirtual 132, 3) := by decide +kernel
theorem dX9_show_5 : decode cX9_show 5 = .ok (.ifCond .eq 16, 3) := by decide +kernel
theorem dX9_show_8 : decode cX9_show 8 = .ok (.iload_n 2, 1) := by decide +kernel
theorem dX9_show_9 : decode cX9_show 9 = .ok (.iconst (-1), 1) := by decide +kernel
theorem dX9_show_10 : decode cX9_show 10 = .ok (.if_icmp .eq 17, 3) := by decide +kernel
theorem dX9_show_13 : decode cX9_show 13 = .ok (.aload_n 0, 1) := by decide +kernel
theorem dX9_show_14 : decode cX9_show 14 = .ok (.iload_n 2, 1) := by decide +kernel
theorem dX9_show_15 : decode cX9_show 15 = .ok (.invokevirtual 140, 3) := by decide +kernel
theorem dX9_show_18 : decode cX9_show 18 = .ok (.ifCond .ne 9, 3) := by decide +kernel
theorem dX9_show_21 : decode cX9_show 21 = .ok (.aload_n 0, 1) := by decide +kernel
theorem dX9_show_22 : decode cX9_show 22 = .ok (.iconst (-1), 1) := by decide +kernel
theorem dX9_show_23 : decode cX9_show 23 = .ok (.invokevirtual 136, 3) := by decide +kernel
theorem dX9_show_26 : decode cX9_show 26 = .ok (.ireturn, 1) := by decide +kernel
theorem dX9_show_27 : decode cX9_show 27 = .ok (.aload_n 0, 1) := by decide +kernel
theorem dX9_show_28 : decode cX9_show 28 = .ok (.getfield 65, 3) := by decide +kernel
theorem dX9_show_31 : decode cX9_show 31 = .ok (.iload_n 1, 1) := by decide +kernel
theorem dX9_show_32 : decode cX9_show 32 = .ok (.iload_n 2, 1) := by decide +kernel
theorem dX9_show_33 : decode cX9_show 33 = .ok (.iconst (-1), 1) := by decide +kernel
theorem dX9_show_34 : decode cX9_show 34 = .ok (.if_icmp .ne 7, 3) := by decide +kernel
theorem dX9_show_37 : decode cX9_show 37 = .ok (.iconst 0, 1) := by decide +kernel
theorem dX9_show_38 : decode cX9_show 38 = .ok (.goto 4, 3) := by decide +kernel
theorem dX9_show_41 : decode cX9_show 41 = .ok (.iconst 2, 1) := by decide +kernel
theorem dX9_show_42 : decode cX9_show 42 = .ok (.iastore, 1) := by decide +kernel
theorem dX9_show_43 : decode cX9_show 43 = .ok (.aload_n 0, 1) := by decide +kernel
theorem dX9_show_44 : decode cX9_show 44 = .ok (.getfield 74, 3) := by decide +kernel
theorem dX9_show_47 : decode cX9_show 47 = .ok (.iload_n 1, 1) := by decide +kernel
theorem dX9_show_48 : decode cX9_show 48 = .ok (.iload_n 2, 1) := by decide +kernel
theorem dX9_show_49 : decode cX9_show 49 = .ok (.iastore, 1) := by decide +kernel
theorem dX9_show_50 : decode cX9_show 50 = .ok (.iload_n 2, 1) := by decide +kernel
theorem dX9_show_51 : decode cX9_show 51 = .ok (.iconst (-1), 1) := by decide +kernel
theorem dX9_show_52 : decode cX9_show 52 = .ok (.if_icmp .ne 7, 3) := by decide +kernel
theorem dX9_show_55 : decode cX9_show 55 = .ok (.iconst 0, 1) := by decide +kernel
theorem dX9_show_56 : decode cX9_show 56 = .ok (.goto 4, 3) := by decide +kernel
theorem dX9_show_59 : decode cX9_show 59 = .ok (.iconst 1, 1) := by decide +kernel
theorem dX9_show_60 : decode cX9_show 60 = .ok (.ireturn, 1) := by decide +kernel
theorem dX9_holds_0 : decode cX9_holds 0 = .ok (.aload_n 0, 1) := by decide +kernel
theorem dX9_holds_1 : decode cX9_holds 1 = .ok (.iload_n 1, 1) := by decide +kernel
theorem dX9_holds_2 : decode cX9_holds 2 = .ok (.invokevirtual 132, 3) := by decide +kernel
theorem dX9_holds_5 : decode cX9_holds 5 = .ok (.ifCond .eq 12, 3) := by decide +kernel
theorem dX9_holds_8 : decode cX9_holds 8 = .ok (.aload_n 0, 1) := by decide +kernel
theorem dX9_holds_9 : decode cX9_holds 9 = .ok (.getfield 65, 3) := by decide +kernel
theorem dX9_holds_12 : decode cX9_holds 12 = .ok (.iload_n 1, 1) := by decide +kernel
theorem dX9_holds_13 : decode cX9_holds 13 = .ok (.iaload, 1) := by decide +kernel
theorem dX9_holds_14 : decode cX9_holds 14 = .ok (.ifCond .ne 5, 3) := by decide +kernel
theorem dX9_holds_17 : decode cX9_holds 17 = .ok (.iconst (-1), 1) := by decide +kernel
theorem dX9_holds_18 : decode cX9_holds 18 = .ok (.ireturn, 1) := by decide +kernel
theorem dX9_holds_19 : decode cX9_holds 19 = .ok (.aload_n 0, 1) := by decide +kernel
theorem dX9_holds_20 : decode cX9_holds 20 = .ok (.getfield 65, 3) := by decide +kernel
theorem dX9_holds_23 : decode cX9_holds 23 = .ok (.iload_n 1, 1) := by decide +kernel
theorem dX9_holds_24 : decode cX9_holds 24 = .ok (.iaload, 1) := by decide +kernel
theorem dX9_holds_25 : decode cX9_holds 25 = .ok (.iconst 1, 1) := by decide +kernel
theorem dX9_holds_26 : decode cX9_holds 26 = .ok (.if_icmp .ne 15, 3) := by decide +kernel
theorem dX9_holds_29 : decode cX9_holds 29 = .ok (.bipush 100, 2) := by decide +kernel
theorem dX9_holds_31 : decode cX9_holds 31 = .ok (.aload_n 0, 1) := by decide +kernel
theorem dX9_holds_32 : decode cX9_holds 32 = .ok (.getfield 68, 3) := by decide +kernel
theorem dX9_holds_35 : decode cX9_holds 35 = .ok (.iload_n 1, 1) := by decide +kernel
theorem dX9_holds_36 : decode cX9_holds 36 = .ok (.iaload, 1) := by decide +kernel
theorem dX9_holds_37 : decode cX9_holds 37 = .ok (.iadd, 1) := by decide +kernel
theorem dX9_holds_38 : decode cX9_holds 38 = .ok (.goto 9, 3) := by decide +kernel
theorem dX9_holds_41 : decode cX9_holds 41 = .ok (.aload_n 0, 1) := by decide +kernel
theorem dX9_holds_42 : decode cX9_holds 42 = .ok (.getfield 74, 3) := by decide +kernel
theorem dX9_holds_45 : decode cX9_holds 45 = .ok (.iload_n 1, 1) := by decide +kernel
theorem dX9_holds_46 : decode cX9_holds 46 = .ok (.iaload, 1) := by decide +kernel
theorem dX9_holds_47 : decode cX9_holds 47 = .ok (.ireturn, 1) := by decide +kernel
theorem dX9_isUnder_0 : decode cX9_isUnder 0 = .ok (.iload_n 2, 1) := by decide +kernel
theorem dX9_isUnder_1 : decode cX9_isUnder 1 = .ok (.ifCond .eq 45, 3) := by decide +kernel
theorem dX9_isUnder_4 : decode cX9_isUnder 4 = .ok (.iload_n 2, 1) := by decide +kernel
theorem dX9_isUnder_5 : decode cX9_isUnder 5 = .ok (.iload_n 1, 1) := by decide +kernel
theorem dX9_isUnder_6 : decode cX9_isUnder 6 = .ok (.if_icmp .eq 40, 3) := by decide +kernel
theorem dX9_isUnder_9 : decode cX9_isUnder 9 = .ok (.iload_n 2, 1) := by decide +kernel
theorem dX9_isUnder_10 : decode cX9_isUnder 10 = .ok (.iconst 1, 1) := by decide +kernel
theorem dX9_isUnder_11 : decode cX9_isUnder 11 = .ok (.if_icmp .ne 14, 3) := by decide +kernel
theorem dX9_isUnder_14 : decode cX9_isUnder 14 = .ok (.iload_n 1, 1) := by decide +kernel
theorem dX9_isUnder_15 : decode cX9_isUnder 15 = .ok (.iconst 3, 1) := by decide +kernel
theorem dX9_isUnder_16 : decode cX9_isUnder 16 = .ok (.if_icmp .eq 30, 3) := by decide +kernel
theorem dX9_isUnder_19 : decode cX9_isUnder 19 = .ok (.iload_n 1, 1) := by decide +kernel
theorem dX9_isUnder_20 : decode cX9_isUnder 20 = .ok (.bipush 6, 2) := by decide +kernel
theorem dX9_isUnder_22 : decode cX9_isUnder 22 = .ok (.if_icmp .eq 24, 3) := by decide +kernel
theorem dX9_isUnder_25 : decode cX9_isUnder 25 = .ok (.iload_n 2, 1) := by decide +kernel
theorem dX9_isUnder_26 : decode cX9_isUnder 26 = .ok (.iconst 3, 1) := by decide +kernel
theorem dX9_isUnder_27 : decode cX9_isUnder 27 = .ok (.if_icmp .ne 9, 3) := by decide +kernel
theorem dX9_isUnder_30 : decode cX9_isUnder 30 = .ok (.iload_n 1, 1) := by decide +kernel
theorem dX9_isUnder_31 : decode cX9_isUnder 31 = .ok (.bipush 6, 2) := by decide +kernel
theorem dX9_isUnder_33 : decode cX9_isUnder 33 = .ok (.if_icmp .eq 13, 3) := by decide +kernel
theorem dX9_isUnder_36 : decode cX9_isUnder 36 = .ok (.iload_n 2, 1) := by decide +kernel
theorem dX9_isUnder_37 : decode cX9_isUnder 37 = .ok (.iconst 2, 1) := by decide +kernel
theorem dX9_isUnder_38 : decode cX9_isUnder 38 = .ok (.if_icmp .ne 12, 3) := by decide +kernel
theorem dX9_isUnder_41 : decode cX9_isUnder 41 = .ok (.iload_n 1, 1) := by decide +kernel
theorem dX9_isUnder_42 : decode cX9_isUnder 42 = .ok (.iconst 5, 1) := by decide +kernel
theorem dX9_isUnder_43 : decode cX9_isUnder 43 = .ok (.if_icmp .ne 7, 3) := by decide +kernel
theorem dX9_isUnder_46 : decode cX9_isUnder 46 = .ok (.iconst 1, 1) := by decide +kernel
theorem dX9_isUnder_47 : decode cX9_isUnder 47 = .ok (.goto 4, 3) := by decide +kernel
theorem dX9_isUnder_50 : decode cX9_isUnder 50 = .ok (.iconst 0, 1) := by decide +kernel
theorem dX9_isUnder_51 : decode cX9_isUnder 51 = .ok (.ireturn, 1) := by decide +kernel
theorem dX9_says_0 : decode cX9_says 0 = .ok (.aload_n 0, 1) := by decide +kernel
theorem dX9_says_1 : decode cX9_says 1 = .ok (.iload_n 1, 1) := by decide +kernel
theorem dX9_says_2 : decode cX9_says 2 = .ok (.invokevirtual 132, 3) := by decide +kernel
theorem dX9_says_5 : decode cX9_says 5 = .ok (.ifCond .eq 13, 3) := by decide +kernel
theorem dX9_says_8 : decode cX9_says 8 = .ok (.iload_n 2, 1) := by decide +kernel
theorem dX9_says_9 : decode cX9_says 9 = .ok (.ifCond .lt 9, 3) := by decide +kernel
theorem dX9_says_12 : decode cX9_says 12 = .ok (.iload_n 2, 1) := by decide +kernel
theorem dX9_says_13 : decode cX9_says 13 = .ok (.bipush 6, 2) := by decide +kernel
theorem dX9_says_15 : decode cX9_says 15 = .ok (.if_icmp .le 9, 3) := by decide +kernel
theorem dX9_says_18 : decode cX9_says 18 = .ok (.aload_n 0, 1) := by decide +kernel
theorem dX9_says_19 : decode cX9_says 19 = .ok (.iconst (-1), 1) := by decide +kernel
theorem dX9_says_20 : decode cX9_says 20 = .ok (.invokevirtual 136, 3) := by decide +kernel
theorem dX9_says_23 : decode cX9_says 23 = .ok (.ireturn, 1) := by decide +kernel
theorem dX9_says_24 : decode cX9_says 24 = .ok (.aload_n 0, 1) := by decide +kernel
theorem dX9_says_25 : decode cX9_says 25 = .ok (.getfield 65, 3) := by decide +kernel
theorem dX9_says_28 : decode cX9_says 28 = .ok (.iload_n 1, 1) := by decide +kernel
theorem dX9_says_29 : decode cX9_says 29 = .ok (.iaload, 1) := by decide +kernel
theorem dX9_says_30 : decode cX9_says 30 = .ok (.iconst 1, 1) := by decide +kernel
theorem dX9_says_31 : decode cX9_says 31 = .ok (.if_icmp .ne 10, 3) := by decide +kernel
theorem dX9_says_34 : decode cX9_says 34 = .ok (.aload_n 0, 1) := by decide +kernel
theorem dX9_says_35 : decode cX9_says 35 = .ok (.bipush (-2), 2) := by decide +kernel
theorem dX9_says_37 : decode cX9_says 37 = .ok (.invokevirtual 136, 3) := by decide +kernel
theorem dX9_says_40 : decode cX9_says 40 = .ok (.ireturn, 1) := by decide +kernel
theorem dX9_says_41 : decode cX9_says 41 = .ok (.aload_n 0, 1) := by decide +kernel
theorem dX9_says_42 : decode cX9_says 42 = .ok (.getfield 65, 3) := by decide +kernel
theorem dX9_says_45 : decode cX9_says 45 = .ok (.iload_n 1, 1) := by decide +kernel
theorem dX9_says_46 : decode cX9_says 46 = .ok (.iaload, 1) := by decide +kernel
theorem dX9_says_47 : decode cX9_says 47 = .ok (.ifCond .ne 10, 3) := by decide +kernel
theorem dX9_says_50 : decode cX9_says 50 = .ok (.aload_n 0, 1) := by decide +kernel
theorem dX9_says_51 : decode cX9_says 51 = .ok (.bipush (-3), 2) := by decide +kernel
theorem dX9_says_53 : decode cX9_says 53 = .ok (.invokevirtual 136, 3) := by decide +kernel
theorem dX9_says_56 : decode cX9_says 56 = .ok (.ireturn, 1) := by decide +kernel
theorem dX9_says_57 : decode cX9_says 57 = .ok (.aload_n 0, 1) := by decide +kernel
theorem dX9_says_58 : decode cX9_says 58 = .ok (.getfield 74, 3) := by decide +kernel
theorem dX9_says_61 : decode cX9_says 61 = .ok (.iload_n 1, 1) := by decide +kernel
theorem dX9_says_62 : decode cX9_says 62 = .ok (.iaload, 1) := by decide +kernel
theorem dX9_says_63 : decode cX9_says 63 = .ok (.istore_n 3, 1) := by decide +kernel
theorem dX9_says_64 : decode cX9_says 64 = .ok (.aload_n 0, 1) := by decide +kernel
theorem dX9_says_65 : decode cX9_says 65 = .ok (.aload_n 0, 1) := by decide +kernel
theorem dX9_says_66 : decode cX9_says 66 = .ok (.getfield 20, 3) := by decide +kernel
theorem dX9_says_69 : decode cX9_says 69 = .ok (.iload_n 3, 1) := by decide +kernel
theorem dX9_says_70 : decode cX9_says 70 = .ok (.iaload, 1) := by decide +kernel
theorem dX9_says_71 : decode cX9_says 71 = .ok (.iload_n 2, 1) := by decide +kernel
theorem dX9_says_72 : decode cX9_says 72 = .ok (.invokevirtual 143, 3) := by decide +kernel
theorem dX9_says_75 : decode cX9_says 75 = .ok (.ifCond .ne 10, 3) := by decide +kernel
theorem dX9_says_78 : decode cX9_says 78 = .ok (.aload_n 0, 1) := by decide +kernel
theorem dX9_says_79 : decode cX9_says 79 = .ok (.bipush (-2), 2) := by decide +kernel
theorem dX9_says_81 : decode cX9_says 81 = .ok (.invokevirtual 136, 3) := by decide +kernel
theorem dX9_says_84 : decode cX9_says 84 = .ok (.ireturn, 1) := by decide +kernel
theorem dX9_says_85 : decode cX9_says 85 = .ok (.iload_n 2, 1) := by decide +kernel
theorem dX9_says_86 : decode cX9_says 86 = .ok (.tableswitch 58 0 5 #[38, 58, 45, 58, 51, 45], 38) := by decide +kernel
theorem dX9_says_124 : decode cX9_says 124 = .ok (.aload_n 0, 1) := by decide +kernel
theorem dX9_says_125 : decode cX9_says 125 = .ok (.getfield 29, 3) := by decide +kernel
theorem dX9_says_128 : decode cX9_says 128 = .ok (.iload_n 3, 1) := by decide +kernel
theorem dX9_says_129 : decode cX9_says 129 = .ok (.iaload, 1) := by decide +kernel
theorem dX9_says_130 : decode cX9_says 130 = .ok (.ireturn, 1) := by decide +kernel
theorem dX9_says_131 : decode cX9_says 131 = .ok (.aload_n 0, 1) := by decide +kernel
theorem dX9_says_132 : decode cX9_says 132 = .ok (.iload_n 3, 1) := by decide +kernel
theorem dX9_says_133 : decode cX9_says 133 = .ok (.invokevirtual 147, 3) := by decide +kernel
theorem dX9_says_136 : decode cX9_says 136 = .ok (.ireturn, 1) := by decide +kernel
theorem dX9_says_137 : decode cX9_says 137 = .ok (.aload_n 0, 1) := by decide +kernel
theorem dX9_says_138 : decode cX9_says 138 = .ok (.getfield 26, 3) := by decide +kernel
theorem dX9_says_141 : decode cX9_says 141 = .ok (.iload_n 3, 1) := by decide +kernel
theorem dX9_says_142 : decode cX9_says 142 = .ok (.iaload, 1) := by decide +kernel
theorem dX9_says_143 : decode cX9_says 143 = .ok (.ireturn, 1) := by decide +kernel
theorem dX9_says_144 : decode cX9_says 144 = .ok (.aload_n 0, 1) := by decide +kernel
theorem dX9_says_145 : decode cX9_says 145 = .ok (.iload_n 3, 1) := by decide +kernel
theorem dX9_says_146 : decode cX9_says 146 = .ok (.invokevirtual 150, 3) := by decide +kernel
theorem dX9_says_149 : decode cX9_says 149 = .ok (.ireturn, 1) := by decide +kernel
theorem dX9_wanted_0 : decode cX9_wanted 0 = .ok (.aload_n 0, 1) := by decide +kernel
theorem dX9_wanted_1 : decode cX9_wanted 1 = .ok (.iload_n 1, 1) := by decide +kernel
theorem dX9_wanted_2 : decode cX9_wanted 2 = .ok (.invokevirtual 132, 3) := by decide +kernel
theorem dX9_wanted_5 : decode cX9_wanted 5 = .ok (.ifCond .ne 7, 3) := by decide +kernel
theorem dX9_wanted_8 : decode cX9_wanted 8 = .ok (.iconst (-1), 1) := by decide +kernel
theorem dX9_wanted_9 : decode cX9_wanted 9 = .ok (.goto 33, 3) := by decide +kernel
theorem dX9_wanted_12 : decode cX9_wanted 12 = .ok (.aload_n 0, 1) := by decide +kernel
theorem dX9_wanted_13 : decode cX9_wanted 13 = .ok (.getfield 65, 3) := by decide +kernel
theorem dX9_wanted_16 : decode cX9_wanted 16 = .ok (.iload_n 1, 1) := by decide +kernel
theorem dX9_wanted_17 : decode cX9_wanted 17 = .ok (.iaload, 1) := by decide +kernel
theorem dX9_wanted_18 : decode cX9_wanted 18 = .ok (.iconst 2, 1) := by decide +kernel
theorem dX9_wanted_19 : decode cX9_wanted 19 = .ok (.if_icmp .ne 8, 3) := by decide +kernel
theorem dX9_wanted_22 : decode cX9_wanted 22 = .ok (.bipush (-2), 2) := by decide +kernel
theorem dX9_wanted_24 : decode cX9_wanted 24 = .ok (.goto 18, 3) := by decide +kernel
theorem dX9_wanted_27 : decode cX9_wanted 27 = .ok (.aload_n 0, 1) := by decide +kernel
theorem dX9_wanted_28 : decode cX9_wanted 28 = .ok (.getfield 65, 3) := by decide +kernel
theorem dX9_wanted_31 : decode cX9_wanted 31 = .ok (.iload_n 1, 1) := by decide +kernel
theorem dX9_wanted_32 : decode cX9_wanted 32 = .ok (.iaload, 1) := by decide +kernel
theorem dX9_wanted_33 : decode cX9_wanted 33 = .ok (.ifCond .ne 8, 3) := by decide +kernel
theorem dX9_wanted_36 : decode cX9_wanted 36 = .ok (.bipush (-3), 2) := by decide +kernel
theorem dX9_wanted_38 : decode cX9_wanted 38 = .ok (.goto 4, 3) := by decide +kernel
theorem dX9_wanted_41 : decode cX9_wanted 41 = .ok (.iconst 0, 1) := by decide +kernel
theorem dX9_wanted_42 : decode cX9_wanted 42 = .ok (.ireturn, 1) := by decide +kernel
theorem dX9_intAt_0 : decode cX9_intAt 0 = .ok (.aload_n 0, 1) := by decide +kernel
theorem dX9_intAt_1 : decode cX9_intAt 1 = .ok (.getfield 77, 3) := by decide +kernel
theorem dX9_intAt_4 : decode cX9_intAt 4 = .ok (.sipush 160, 3) := by decide +kernel
theorem dX9_intAt_7 : decode cX9_intAt 7 = .ok (.iload_n 1, 1) := by decide +kernel
theorem dX9_intAt_8 : decode cX9_intAt 8 = .ok (.imul, 1) := by decide +kernel
theorem dX9_intAt_9 : decode cX9_intAt 9 = .ok (.iload_n 2, 1) := by decide +kernel
theorem dX9_intAt_10 : decode cX9_intAt 10 = .ok (.iadd, 1) := by decide +kernel
theorem dX9_intAt_11 : decode cX9_intAt 11 = .ok (.laload, 1) := by decide +kernel
theorem dX9_intAt_12 : decode cX9_intAt 12 = .ok (.l2i, 1) := by decide +kernel
theorem dX9_intAt_13 : decode cX9_intAt 13 = .ok (.ireturn, 1) := by decide +kernel
theorem dX9_nine_0 : decode cX9_nine 0 = .ok (.iload_n 1, 1) := by decide +kernel
theorem dX9_nine_1 : decode cX9_nine 1 = .ok (.bipush 9, 2) := by decide +kernel
theorem dX9_nine_3 : decode cX9_nine 3 = .ok (.if_icmp .le 8, 3) := by decide +kernel
theorem dX9_nine_6 : decode cX9_nine 6 = .ok (.bipush 9, 2) := by decide +kernel
theorem dX9_nine_8 : decode cX9_nine 8 = .ok (.goto 4, 3) := by decide +kernel
theorem dX9_nine_11 : decode cX9_nine 11 = .ok (.iload_n 1, 1) := by decide +kernel
theorem dX9_nine_12 : decode cX9_nine 12 = .ok (.ireturn, 1) := by decide +kernel
theorem dX9_apart_0 : decode cX9_apart 0 = .ok (.iload_n 1, 1) := by decide +kernel
theorem dX9_apart_1 : decode cX9_apart 1 = .ok (.iload_n 2, 1) := by decide +kernel
theorem dX9_apart_2 : decode cX9_apart 2 = .ok (.if_icmp .le 9, 3) := by decide +kernel
theorem dX9_apart_5 : decode cX9_apart 5 = .ok (.iload_n 1, 1) := by decide +kernel
theorem dX9_apart_6 : decode cX9_apart 6 = .ok (.iload_n 2, 1) := by decide +kernel
theorem dX9_apart_7 : decode cX9_apart 7 = .ok (.isub, 1) := by decide +kernel
theorem dX9_apart_8 : decode cX9_apart 8 = .ok (.goto 6, 3) := by decide +kernel
theorem dX9_apart_11 : decode cX9_apart 11 = .ok (.iload_n 2, 1) := by decide +kernel
theorem dX9_apart_12 : decode cX9_apart 12 = .ok (.iload_n 1, 1) := by decide +kernel
theorem dX9_apart_13 : decode cX9_apart 13 = .ok (.isub, 1) := by decide +kernel
theorem dX9_apart_14 : decode cX9_apart 14 = .ok (.ireturn, 1) := by decide +kernel
theorem dX9_shadeSeen_0 : decode cX9_shadeSeen 0 = .ok (.aload_n 0, 1) := by decide +kernel
theorem dX9_shadeSeen_1 : decode cX9_shadeSeen 1 = .ok (.aload_n 0, 1) := by decide +kernel
theorem dX9_shadeSeen_2 : decode cX9_shadeSeen 2 = .ok (.getfield 20, 3) := by decide +kernel
theorem dX9_shadeSeen_5 : decode cX9_shadeSeen 5 = .ok (.iload_n 1, 1) := by decide +kernel
theorem dX9_shadeSeen_6 : decode cX9_shadeSeen 6 = .ok (.iaload, 1) := by decide +kernel
theorem dX9_shadeSeen_7 : decode cX9_shadeSeen 7 = .ok (.iconst 1, 1) := by decide +kernel
theorem dX9_shadeSeen_8 : decode cX9_shadeSeen 8 = .ok (.invokevirtual 143, 3) := by decide +kernel
theorem dX9_shadeSeen_11 : decode cX9_shadeSeen 11 = .ok (.ifCond .eq 23, 3) := by decide +kernel
theorem dX9_shadeSeen_14 : decode cX9_shadeSeen 14 = .ok (.aload_n 0, 1) := by decide +kernel
theorem dX9_shadeSeen_15 : decode cX9_shadeSeen 15 = .ok (.aload_n 0, 1) := by decide +kernel
theorem dX9_shadeSeen_16 : decode cX9_shadeSeen 16 = .ok (.getfield 32, 3) := by decide +kernel
theorem dX9_shadeSeen_19 : decode cX9_shadeSeen 19 = .ok (.iload_n 1, 1) := by decide +kernel
theorem dX9_shadeSeen_20 : decode cX9_shadeSeen 20 = .ok (.iaload, 1) := by decide +kernel
theorem dX9_shadeSeen_21 : decode cX9_shadeSeen 21 = .ok (.aload_n 0, 1) := by decide +kernel
theorem dX9_shadeSeen_22 : decode cX9_shadeSeen 22 = .ok (.getfield 23, 3) := by decide +kernel
theorem dX9_shadeSeen_25 : decode cX9_shadeSeen 25 = .ok (.iload_n 1, 1) := by decide +kernel
theorem dX9_shadeSeen_26 : decode cX9_shadeSeen 26 = .ok (.iaload, 1) := by decide +kernel
theorem dX9_shadeSeen_27 : decode cX9_shadeSeen 27 = .ok (.iadd, 1) := by decide +kernel
theorem dX9_shadeSeen_28 : decode cX9_shadeSeen 28 = .ok (.invokevirtual 153, 3) := by decide +kernel
theorem dX9_shadeSeen_31 : decode cX9_shadeSeen 31 = .ok (.goto 9, 3) := by decide +kernel
theorem dX9_shadeSeen_34 : decode cX9_shadeSeen 34 = .ok (.aload_n 0, 1) := by decide +kernel
theorem dX9_shadeSeen_35 : decode cX9_shadeSeen 35 = .ok (.getfield 32, 3) := by decide +kernel
theorem dX9_shadeSeen_38 : decode cX9_shadeSeen 38 = .ok (.iload_n 1, 1) := by decide +kernel
theorem dX9_shadeSeen_39 : decode cX9_shadeSeen 39 = .ok (.iaload, 1) := by decide +kernel
theorem dX9_shadeSeen_40 : decode cX9_shadeSeen 40 = .ok (.ireturn, 1) := by decide +kernel
theorem dX9_wearSeen_0 : decode cX9_wearSeen 0 = .ok (.aload_n 0, 1) := by decide +kernel
theorem dX9_wearSeen_1 : decode cX9_wearSeen 1 = .ok (.getfield 20, 3) := by decide +kernel
theorem dX9_wearSeen_4 : decode cX9_wearSeen 4 = .ok (.iload_n 1, 1) := by decide +kernel
theorem dX9_wearSeen_5 : decode cX9_wearSeen 5 = .ok (.iaload, 1) := by decide +kernel
theorem dX9_wearSeen_6 : decode cX9_wearSeen 6 = .ok (.tableswitch 83 2 6 #[71, 34, 83, 73, 47], 34) := by decide +kernel
theorem dX9_wearSeen_40 : decode cX9_wearSeen 40 = .ok (.aload_n 0, 1) := by decide +kernel
theorem dX9_wearSeen_41 : decode cX9_wearSeen 41 = .ok (.aload_n 0, 1) := by decide +kernel
theorem dX9_wearSeen_42 : decode cX9_wearSeen 42 = .ok (.getfield 35, 3) := by decide +kernel
theorem dX9_wearSeen_45 : decode cX9_wearSeen 45 = .ok (.iload_n 1, 1) := by decide +kernel
theorem dX9_wearSeen_46 : decode cX9_wearSeen 46 = .ok (.iaload, 1) := by decide +kernel
theorem dX9_wearSeen_47 : decode cX9_wearSeen 47 = .ok (.iconst 1, 1) := by decide +kernel
theorem dX9_wearSeen_48 : decode cX9_wearSeen 48 = .ok (.iadd, 1) := by decide +kernel
theorem dX9_wearSeen_49 : decode cX9_wearSeen 49 = .ok (.invokevirtual 153, 3) := by decide +kernel
theorem dX9_wearSeen_52 : decode cX9_wearSeen 52 = .ok (.ireturn, 1) := by decide +kernel
theorem dX9_wearSeen_53 : decode cX9_wearSeen 53 = .ok (.aload_n 0, 1) := by decide +kernel
theorem dX9_wearSeen_54 : decode cX9_wearSeen 54 = .ok (.aload_n 0, 1) := by decide +kernel
theorem dX9_wearSeen_55 : decode cX9_wearSeen 55 = .ok (.aload_n 0, 1) := by decide +kernel
theorem dX9_wearSeen_56 : decode cX9_wearSeen 56 = .ok (.getfield 35, 3) := by decide +kernel
theorem dX9_wearSeen_59 : decode cX9_wearSeen 59 = .ok (.iload_n 1, 1) := by decide +kernel
theorem dX9_wearSeen_60 : decode cX9_wearSeen 60 = .ok (.iaload, 1) := by decide +kernel
theorem dX9_wearSeen_61 : decode cX9_wearSeen 61 = .ok (.iconst 1, 1) := by decide +kernel
theorem dX9_wearSeen_62 : decode cX9_wearSeen 62 = .ok (.iadd, 1) := by decide +kernel
theorem dX9_wearSeen_63 : decode cX9_wearSeen 63 = .ok (.invokevirtual 153, 3) := by decide +kernel
theorem dX9_wearSeen_66 : decode cX9_wearSeen 66 = .ok (.aload_n 0, 1) := by decide +kernel
theorem dX9_wearSeen_67 : decode cX9_wearSeen 67 = .ok (.getfield 23, 3) := by decide +kernel
theorem dX9_wearSeen_70 : decode cX9_wearSeen 70 = .ok (.iload_n 1, 1) := by decide +kernel
theorem dX9_wearSeen_71 : decode cX9_wearSeen 71 = .ok (.iaload, 1) := by decide +kernel
theorem dX9_wearSeen_72 : decode cX9_wearSeen 72 = .ok (.iadd, 1) := by decide +kernel
theorem dX9_wearSeen_73 : decode cX9_wearSeen 73 = .ok (.invokevirtual 153, 3) := by decide +kernel
theorem dX9_wearSeen_76 : decode cX9_wearSeen 76 = .ok (.ireturn, 1) := by decide +kernel
theorem dX9_wearSeen_77 : decode cX9_wearSeen 77 = .ok (.iconst 0, 1) := by decide +kernel
theorem dX9_wearSeen_78 : decode cX9_wearSeen 78 = .ok (.ireturn, 1) := by decide +kernel
theorem dX9_wearSeen_79 : decode cX9_wearSeen 79 = .ok (.bipush 9, 2) := by decide +kernel
theorem dX9_wearSeen_81 : decode cX9_wearSeen 81 = .ok (.aload_n 0, 1) := by decide +kernel
theorem dX9_wearSeen_82 : decode cX9_wearSeen 82 = .ok (.getfield 23, 3) := by decide +kernel
theorem dX9_wearSeen_85 : decode cX9_wearSeen 85 = .ok (.iload_n 1, 1) := by decide +kernel
theorem dX9_wearSeen_86 : decode cX9_wearSeen 86 = .ok (.iaload, 1) := by decide +kernel
theorem dX9_wearSeen_87 : decode cX9_wearSeen 87 = .ok (.isub, 1) := by decide +kernel
theorem dX9_wearSeen_88 : decode cX9_wearSeen 88 = .ok (.ireturn, 1) := by decide +kernel
theorem dX9_wearSeen_89 : decode cX9_wearSeen 89 = .ok (.aload_n 0, 1) := by decide +kernel
theorem dX9_wearSeen_90 : decode cX9_wearSeen 90 = .ok (.getfield 35, 3) := by decide +kernel
theorem dX9_wearSeen_93 : decode cX9_wearSeen 93 = .ok (.iload_n 1, 1) := by decide +kernel
theorem dX9_wearSeen_94 : decode cX9_wearSeen 94 = .ok (.iaload, 1) := by decide +kernel
theorem dX9_wearSeen_95 : decode cX9_wearSeen 95 = .ok (.ireturn, 1) := by decide +kernel
theorem dX9_isFit_0 : decode cX9_isFit 0 = .ok (.aload_n 0, 1) := by decide +kernel
theorem dX9_isFit_1 : decode cX9_isFit 1 = .ok (.getfield 20, 3) := by decide +kernel
theorem dX9_isFit_4 : decode cX9_isFit 4 = .ok (.iload_n 1, 1) := by decide +kernel
theorem dX9_isFit_5 : decode cX9_isFit 5 = .ok (.iaload, 1) := by decide +kernel
theorem dX9_isFit_6 : decode cX9_isFit 6 = .ok (.iconst 4, 1) := by decide +kernel
theorem dX9_isFit_7 : decode cX9_isFit 7 = .ok (.if_icmp .eq 13, 3) := by decide +kernel
theorem dX9_isFit_10 : decode cX9_isFit 10 = .ok (.aload_n 0, 1) := by decide +kernel
theorem dX9_isFit_11 : decode cX9_isFit 11 = .ok (.getfield 26, 3) := by decide +kernel
theorem dX9_isFit_14 : decode cX9_isFit 14 = .ok (.iload_n 1, 1) := by decide +kernel
theorem dX9_isFit_15 : decode cX9_isFit 15 = .ok (.iaload, 1) := by decide +kernel
theorem dX9_isFit_16 : decode cX9_isFit 16 = .ok (.iload_n 3, 1) := by decide +kernel
theorem dX9_isFit_17 : decode cX9_isFit 17 = .ok (.if_icmp .ne 42, 3) := by decide +kernel
theorem dX9_isFit_20 : decode cX9_isFit 20 = .ok (.aload_n 0, 1) := by decide +kernel
theorem dX9_isFit_21 : decode cX9_isFit 21 = .ok (.aload_n 0, 1) := by decide +kernel
theorem dX9_isFit_22 : decode cX9_isFit 22 = .ok (.getfield 29, 3) := by decide +kernel
theorem dX9_isFit_25 : decode cX9_isFit 25 = .ok (.iload_n 1, 1) := by decide +kernel
theorem dX9_isFit_26 : decode cX9_isFit 26 = .ok (.iaload, 1) := by decide +kernel
theorem dX9_isFit_27 : decode cX9_isFit 27 = .ok (.aload_n 0, 1) := by decide +kernel
theorem dX9_isFit_28 : decode cX9_isFit 28 = .ok (.getfield 41, 3) := by decide +kernel
theorem dX9_isFit_31 : decode cX9_isFit 31 = .ok (.iload_n 2, 1) := by decide +kernel
theorem dX9_isFit_32 : decode cX9_isFit 32 = .ok (.iaload, 1) := by decide +kernel
theorem dX9_isFit_33 : decode cX9_isFit 33 = .ok (.invokevirtual 156, 3) := by decide +kernel
theorem dX9_isFit_36 : decode cX9_isFit 36 = .ok (.aload_n 0, 1) := by decide +kernel
theorem dX9_isFit_37 : decode cX9_isFit 37 = .ok (.getfield 20, 3) := by decide +kernel
theorem dX9_isFit_40 : decode cX9_isFit 40 = .ok (.iload_n 1, 1) := by decide +kernel
theorem dX9_isFit_41 : decode cX9_isFit 41 = .ok (.iaload, 1) := by decide +kernel
theorem dX9_isFit_42 : decode cX9_isFit 42 = .ok (.bipush 6, 2) := by decide +kernel
theorem dX9_isFit_44 : decode cX9_isFit 44 = .ok (.if_icmp .ne 7, 3) := by decide +kernel
theorem dX9_isFit_47 : decode cX9_isFit 47 = .ok (.iconst 2, 1) := by decide +kernel
theorem dX9_isFit_48 : decode cX9_isFit 48 = .ok (.goto 4, 3) := by decide +kernel
theorem dX9_isFit_51 : decode cX9_isFit 51 = .ok (.iconst 1, 1) := by decide +kernel
theorem dX9_isFit_52 : decode cX9_isFit 52 = .ok (.if_icmp .gt 7, 3) := by decide +kernel
theorem dX9_isFit_55 : decode cX9_isFit 55 = .ok (.iconst 1, 1) := by decide +kernel
theorem dX9_isFit_56 : decode cX9_isFit 56 = .ok (.goto 4, 3) := by decide +kernel
theorem dX9_isFit_59 : decode cX9_isFit 59 = .ok (.iconst 0, 1) := by decide +kernel
theorem dX9_isFit_60 : decode cX9_isFit 60 = .ok (.ireturn, 1) := by decide +kernel
theorem dX9_differs_0 : decode cX9_differs 0 = .ok (.iconst 2, 1) := by decide +kernel
theorem dX9_differs_1 : decode cX9_differs 1 = .ok (.aload_n 0, 1) := by decide +kernel
theorem dX9_differs_2 : decode cX9_differs 2 = .ok (.aload_n 0, 1) := by decide +kernel
theorem dX9_differs_3 : decode cX9_differs 3 = .ok (.getfield 29, 3) := by decide +kernel
theorem dX9_differs_6 : decode cX9_differs 6 = .ok (.iload_n 1, 1) := by decide +kernel
theorem dX9_differs_7 : decode cX9_differs 7 = .ok (.iaload, 1) := by decide +kernel
theorem dX9_differs_8 : decode cX9_differs 8 = .ok (.aload_n 0, 1) := by decide +kernel
theorem dX9_differs_9 : decode cX9_differs 9 = .ok (.getfield 41, 3) := by decide +kernel
theorem dX9_differs_12 : decode cX9_differs 12 = .ok (.iload_n 2, 1) := by decide +kernel
theorem dX9_differs_13 : decode cX9_differs 13 = .ok (.iaload, 1) := by decide +kernel
theorem dX9_differs_14 : decode cX9_differs 14 = .ok (.invokevirtual 156, 3) := by decide +kernel
theorem dX9_differs_17 : decode cX9_differs 17 = .ok (.imul, 1) := by decide +kernel
theorem dX9_differs_18 : decode cX9_differs 18 = .ok (.istore_n 3, 1) := by decide +kernel
theorem dX9_differs_19 : decode cX9_differs 19 = .ok (.aload_n 0, 1) := by decide +kernel
theorem dX9_differs_20 : decode cX9_differs 20 = .ok (.getfield 50, 3) := by decide +kernel
theorem dX9_differs_23 : decode cX9_differs 23 = .ok (.iload_n 2, 1) := by decide +kernel
theorem dX9_differs_24 : decode cX9_differs 24 = .ok (.iaload, 1) := by decide +kernel
theorem dX9_differs_25 : decode cX9_differs 25 = .ok (.iconst 2, 1) := by decide +kernel
theorem dX9_differs_26 : decode cX9_differs 26 = .ok (.if_icmp .ne 5, 3) := by decide +kernel
theorem dX9_differs_29 : decode cX9_differs 29 = .ok (.iload_n 3, 1) := by decide +kernel
theorem dX9_differs_30 : decode cX9_differs 30 = .ok (.ireturn, 1) := by decide +kernel
theorem dX9_differs_31 : decode cX9_differs 31 = .ok (.iload_n 3, 1) := by decide +kernel
theorem dX9_differs_32 : decode cX9_differs 32 = .ok (.aload_n 0, 1) := by decide +kernel
theorem dX9_differs_33 : decode cX9_differs 33 = .ok (.aload_n 0, 1) := by decide +kernel
theorem dX9_differs_34 : decode cX9_differs 34 = .ok (.iload_n 1, 1) := by decide +kernel
theorem dX9_differs_35 : decode cX9_differs 35 = .ok (.invokevirtual 150, 3) := by decide +kernel
theorem dX9_differs_38 : decode cX9_differs 38 = .ok (.aload_n 0, 1) := by decide +kernel
theorem dX9_differs_39 : decode cX9_differs 39 = .ok (.getfield 44, 3) := by decide +kernel
theorem dX9_differs_42 : decode cX9_differs 42 = .ok (.iload_n 2, 1) := by decide +kernel
theorem dX9_differs_43 : decode cX9_differs 43 = .ok (.iaload, 1) := by decide +kernel
theorem dX9_differs_44 : decode cX9_differs 44 = .ok (.invokevirtual 156, 3) := by decide +kernel
theorem dX9_differs_47 : decode cX9_differs 47 = .ok (.iadd, 1) := by decide +kernel
theorem dX9_differs_48 : decode cX9_differs 48 = .ok (.istore_n 3, 1) := by decide +kernel
theorem dX9_differs_49 : decode cX9_differs 49 = .ok (.iload_n 3, 1) := by decide +kernel
theorem dX9_differs_50 : decode cX9_differs 50 = .ok (.aload_n 0, 1) := by decide +kernel
theorem dX9_differs_51 : decode cX9_differs 51 = .ok (.getfield 50, 3) := by decide +kernel
theorem dX9_differs_54 : decode cX9_differs 54 = .ok (.iload_n 2, 1) := by decide +kernel
theorem dX9_differs_55 : decode cX9_differs 55 = .ok (.iaload, 1) := by decide +kernel
theorem dX9_differs_56 : decode cX9_differs 56 = .ok (.iconst 1, 1) := by decide +kernel
theorem dX9_differs_57 : decode cX9_differs 57 = .ok (.if_icmp .ne 11, 3) := by decide +kernel
theorem dX9_differs_60 : decode cX9_differs 60 = .ok (.aload_n 0, 1) := by decide +kernel
theorem dX9_differs_61 : decode cX9_differs 61 = .ok (.iload_n 1, 1) := by decide +kernel
theorem dX9_differs_62 : decode cX9_differs 62 = .ok (.invokevirtual 147, 3) := by decide +kernel
theorem dX9_differs_65 : decode cX9_differs 65 = .ok (.goto 18, 3) := by decide +kernel
theorem dX9_differs_68 : decode cX9_differs 68 = .ok (.aload_n 0, 1) := by decide +kernel
theorem dX9_differs_69 : decode cX9_differs 69 = .ok (.aload_n 0, 1) := by decide +kernel
theorem dX9_differs_70 : decode cX9_differs 70 = .ok (.iload_n 1, 1) := by decide +kernel
theorem dX9_differs_71 : decode cX9_differs 71 = .ok (.invokevirtual 147, 3) := by decide +kernel
theorem dX9_differs_74 : decode cX9_differs 74 = .ok (.aload_n 0, 1) := by decide +kernel
theorem dX9_differs_75 : decode cX9_differs 75 = .ok (.getfield 47, 3) := by decide +kernel
theorem dX9_differs_78 : decode cX9_differs 78 = .ok (.iload_n 2, 1) := by decide +kernel
theorem dX9_differs_79 : decode cX9_differs 79 = .ok (.iaload, 1) := by decide +kernel
theorem dX9_differs_80 : decode cX9_differs 80 = .ok (.invokevirtual 156, 3) := by decide +kernel
theorem dX9_differs_83 : decode cX9_differs 83 = .ok (.iadd, 1) := by decide +kernel
theorem dX9_differs_84 : decode cX9_differs 84 = .ok (.ireturn, 1) := by decide +kernel
theorem dX9_armOn_0 : decode cX9_armOn 0 = .ok (.iconst 0, 1) := by decide +kernel
theorem dX9_armOn_1 : decode cX9_armOn 1 = .ok (.istore_n 3, 1) := by decide +kernel
theorem dX9_armOn_2 : decode cX9_armOn 2 = .ok (.iload_n 3, 1) := by decide +kernel
theorem dX9_armOn_3 : decode cX9_armOn 3 = .ok (.aload_n 0, 1) := by decide +kernel
theorem dX9_armOn_4 : decode cX9_armOn 4 = .ok (.getfield 126, 3) := by decide +kernel
theorem dX9_armOn_7 : decode cX9_armOn 7 = .ok (.if_icmp .ge 26, 3) := by decide +kernel
theorem dX9_armOn_10 : decode cX9_armOn 10 = .ok (.aload_n 0, 1) := by decide +kernel
theorem dX9_armOn_11 : decode cX9_armOn 11 = .ok (.getfield 38, 3) := by decide +kernel
theorem dX9_armOn_14 : decode cX9_armOn 14 = .ok (.iload_n 3, 1) := by decide +kernel
theorem dX9_armOn_15 : decode cX9_armOn 15 = .ok (.iaload, 1) := by decide +kernel
theorem dX9_armOn_16 : decode cX9_armOn 16 = .ok (.bipush 10, 2) := by decide +kernel
theorem dX9_armOn_18 : decode cX9_armOn 18 = .ok (.iload_n 1, 1) := by decide +kernel
theorem dX9_armOn_19 : decode cX9_armOn 19 = .ok (.imul, 1) := by decide +kernel
theorem dX9_armOn_20 : decode cX9_armOn 20 = .ok (.iload_n 2, 1) := by decide +kernel
theorem dX9_armOn_21 : decode cX9_armOn 21 = .ok (.iadd, 1) := by decide +kernel
theorem dX9_armOn_22 : decode cX9_armOn 22 = .ok (.if_icmp .ne 5, 3) := by decide +kernel
theorem dX9_armOn_25 : decode cX9_armOn 25 = .ok (.iload_n 3, 1) := by decide +kernel
theorem dX9_armOn_26 : decode cX9_armOn 26 = .ok (.ireturn, 1) := by decide +kernel
theorem dX9_armOn_27 : decode cX9_armOn 27 = .ok (.iinc 3 1, 3) := by decide +kernel
theorem dX9_armOn_30 : decode cX9_armOn 30 = .ok (.goto (-28), 3) := by decide +kernel
theorem dX9_armOn_33 : decode cX9_armOn 33 = .ok (.iconst (-1), 1) := by decide +kernel
theorem dX9_armOn_34 : decode cX9_armOn 34 = .ok (.ireturn, 1) := by decide +kernel
theorem dX9_unlikeOn_0 : decode cX9_unlikeOn 0 = .ok (.iconst 0, 1) := by decide +kernel
theorem dX9_unlikeOn_1 : decode cX9_unlikeOn 1 = .ok (.istore_n 2, 1) := by decide +kernel
theorem dX9_unlikeOn_2 : decode cX9_unlikeOn 2 = .ok (.iconst 0, 1) := by decide +kernel
theorem dX9_unlikeOn_3 : decode cX9_unlikeOn 3 = .ok (.istore_n 3, 1) := by decide +kernel
theorem dX9_unlikeOn_4 : decode cX9_unlikeOn 4 = .ok (.iload_n 3, 1) := by decide +kernel
theorem dX9_unlikeOn_5 : decode cX9_unlikeOn 5 = .ok (.iconst 2, 1) := by decide +kernel
theorem dX9_unlikeOn_6 : decode cX9_unlikeOn 6 = .ok (.if_icmp .ge 33, 3) := by decide +kernel
theorem dX9_unlikeOn_9 : decode cX9_unlikeOn 9 = .ok (.aload_n 0, 1) := by decide +kernel
theorem dX9_unlikeOn_10 : decode cX9_unlikeOn 10 = .ok (.iload_n 1, 1) := by decide +kernel
theorem dX9_unlikeOn_11 : decode cX9_unlikeOn 11 = .ok (.iload_n 3, 1) := by decide +kernel
theorem dX9_unlikeOn_12 : decode cX9_unlikeOn 12 = .ok (.invokevirtual 160, 3) := by decide +kernel
theorem dX9_unlikeOn_15 : decode cX9_unlikeOn 15 = .ok (.iconst (-1), 1) := by decide +kernel
theorem dX9_unlikeOn_16 : decode cX9_unlikeOn 16 = .ok (.if_icmp .eq 17, 3) := by decide +kernel
theorem dX9_unlikeOn_19 : decode cX9_unlikeOn 19 = .ok (.iload_n 2, 1) := by decide +kernel
theorem dX9_unlikeOn_20 : decode cX9_unlikeOn 20 = .ok (.aload_n 0, 1) := by decide +kernel
theorem dX9_unlikeOn_21 : decode cX9_unlikeOn 21 = .ok (.aload_n 0, 1) := by decide +kernel
theorem dX9_unlikeOn_22 : decode cX9_unlikeOn 22 = .ok (.iload_n 1, 1) := by decide +kernel
theorem dX9_unlikeOn_23 : decode cX9_unlikeOn 23 = .ok (.iload_n 3, 1) := by decide +kernel
theorem dX9_unlikeOn_24 : decode cX9_unlikeOn 24 = .ok (.invokevirtual 160, 3) := by decide +kernel
theorem dX9_unlikeOn_27 : decode cX9_unlikeOn 27 = .ok (.iload_n 1, 1) := by decide +kernel
theorem dX9_unlikeOn_28 : decode cX9_unlikeOn 28 = .ok (.invokevirtual 163, 3) := by decide +kernel
theorem dX9_unlikeOn_31 : decode cX9_unlikeOn 31 = .ok (.iadd, 1) := by decide +kernel
theorem dX9_unlikeOn_32 : decode cX9_unlikeOn 32 = .ok (.istore_n 2, 1) := by decide +kernel
theorem dX9_unlikeOn_33 : decode cX9_unlikeOn 33 = .ok (.iinc 3 1, 3) := by decide +kernel
theorem dX9_unlikeOn_36 : decode cX9_unlikeOn 36 = .ok (.goto (-32), 3) := by decide +kernel
theorem dX9_unlikeOn_39 : decode cX9_unlikeOn 39 = .ok (.iload_n 2, 1) := by decide +kernel
theorem dX9_unlikeOn_40 : decode cX9_unlikeOn 40 = .ok (.ireturn, 1) := by decide +kernel
theorem dX9_isHer_0 : decode cX9_isHer 0 = .ok (.aload_n 0, 1) := by decide +kernel
theorem dX9_isHer_1 : decode cX9_isHer 1 = .ok (.iload_n 1, 1) := by decide +kernel
theorem dX9_isHer_2 : decode cX9_isHer 2 = .ok (.invokevirtual 166, 3) := by decide +kernel
theorem dX9_isHer_5 : decode cX9_isHer 5 = .ok (.aload_n 0, 1) := by decide +kernel
theorem dX9_isHer_6 : decode cX9_isHer 6 = .ok (.getfield 59, 3) := by decide +kernel
theorem dX9_isHer_9 : decode cX9_isHer 9 = .ok (.iload_n 1, 1) := by decide +kernel
theorem dX9_isHer_10 : decode cX9_isHer 10 = .ok (.iaload, 1) := by decide +kernel
theorem dX9_isHer_11 : decode cX9_isHer 11 = .ok (.if_icmp .gt 7, 3) := by decide +kernel
theorem dX9_isHer_14 : decode cX9_isHer 14 = .ok (.iconst 1, 1) := by decide +kernel
theorem dX9_isHer_15 : decode cX9_isHer 15 = .ok (.goto 4, 3) := by decide +kernel
theorem dX9_isHer_18 : decode cX9_isHer 18 = .ok (.iconst 0, 1) := by decide +kernel
theorem dX9_isHer_19 : decode cX9_isHer 19 = .ok (.ireturn, 1) := by decide +kernel
theorem dX9_addsArm_0 : decode cX9_addsArm 0 = .ok (.aload_n 0, 1) := by decide +kernel
theorem dX9_addsArm_1 : decode cX9_addsArm 1 = .ok (.getfield 20, 3) := by decide +kernel
theorem dX9_addsArm_4 : decode cX9_addsArm 4 = .ok (.aload_n 0, 1) := by decide +kernel
theorem dX9_addsArm_5 : decode cX9_addsArm 5 = .ok (.getfield 126, 3) := by decide +kernel
theorem dX9_addsArm_8 : decode cX9_addsArm 8 = .ok (.iload_n 1, 1) := by decide +kernel
theorem dX9_addsArm_9 : decode cX9_addsArm 9 = .ok (.iastore, 1) := by decide +kernel
theorem dX9_addsArm_10 : decode cX9_addsArm 10 = .ok (.aload_n 0, 1) := by decide +kernel
theorem dX9_addsArm_11 : decode cX9_addsArm 11 = .ok (.getfield 23, 3) := by decide +kernel
theorem dX9_addsArm_14 : decode cX9_addsArm 14 = .ok (.aload_n 0, 1) := by decide +kernel
theorem dX9_addsArm_15 : decode cX9_addsArm 15 = .ok (.getfield 126, 3) := by decide +kernel
theorem dX9_addsArm_18 : decode cX9_addsArm 18 = .ok (.iload_n 2, 1) := by decide +kernel
theorem dX9_addsArm_19 : decode cX9_addsArm 19 = .ok (.iastore, 1) := by decide +kernel
theorem dX9_addsArm_20 : decode cX9_addsArm 20 = .ok (.aload_n 0, 1) := by decide +kernel
theorem dX9_addsArm_21 : decode cX9_addsArm 21 = .ok (.getfield 26, 3) := by decide +kernel
theorem dX9_addsArm_24 : decode cX9_addsArm 24 = .ok (.aload_n 0, 1) := by decide +kernel
theorem dX9_addsArm_25 : decode cX9_addsArm 25 = .ok (.getfield 126, 3) := by decide +kernel
theorem dX9_addsArm_28 : decode cX9_addsArm 28 = .ok (.iload_n 3, 1) := by decide +kernel
theorem dX9_addsArm_29 : decode cX9_addsArm 29 = .ok (.iastore, 1) := by decide +kernel
theorem dX9_addsArm_30 : decode cX9_addsArm 30 = .ok (.aload_n 0, 1) := by decide +kernel
theorem dX9_addsArm_31 : decode cX9_addsArm 31 = .ok (.getfield 29, 3) := by decide +kernel
theorem dX9_addsArm_34 : decode cX9_addsArm 34 = .ok (.aload_n 0, 1) := by decide +kernel
theorem dX9_addsArm_35 : decode cX9_addsArm 35 = .ok (.getfield 126, 3) := by decide +kernel
theorem dX9_addsArm_38 : decode cX9_addsArm 38 = .ok (.iload 4, 2) := by decide +kernel
theorem dX9_addsArm_40 : decode cX9_addsArm 40 = .ok (.iastore, 1) := by decide +kernel
theorem dX9_addsArm_41 : decode cX9_addsArm 41 = .ok (.aload_n 0, 1) := by decide +kernel
theorem dX9_addsArm_42 : decode cX9_addsArm 42 = .ok (.getfield 32, 3) := by decide +kernel
theorem dX9_addsArm_45 : decode cX9_addsArm 45 = .ok (.aload_n 0, 1) := by decide +kernel
theorem dX9_addsArm_46 : decode cX9_addsArm 46 = .ok (.getfield 126, 3) := by decide +kernel
theorem dX9_addsArm_49 : decode cX9_addsArm 49 = .ok (.iload 5, 2) := by decide +kernel
theorem dX9_addsArm_51 : decode cX9_addsArm 51 = .ok (.iastore, 1) := by decide +kernel
theorem dX9_addsArm_52 : decode cX9_addsArm 52 = .ok (.aload_n 0, 1) := by decide +kernel
theorem dX9_addsArm_53 : decode cX9_addsArm 53 = .ok (.getfield 35, 3) := by decide +kernel
theorem dX9_addsArm_56 : decode cX9_addsArm 56 = .ok (.aload_n 0, 1) := by decide +kernel
theorem dX9_addsArm_57 : decode cX9_addsArm 57 = .ok (.getfield 126, 3) := by decide +kernel
theorem dX9_addsArm_60 : decode cX9_addsArm 60 = .ok (.iload 6, 2) := by decide +kernel
theorem dX9_addsArm_62 : decode cX9_addsArm 62 = .ok (.iastore, 1) := by decide +kernel
theorem dX9_addsArm_63 : decode cX9_addsArm 63 = .ok (.aload_n 0, 1) := by decide +kernel
theorem dX9_addsArm_64 : decode cX9_addsArm 64 = .ok (.getfield 38, 3) := by decide +kernel
theorem dX9_addsArm_67 : decode cX9_addsArm 67 = .ok (.aload_n 0, 1) := by decide +kernel
theorem dX9_addsArm_68 : decode cX9_addsArm 68 = .ok (.getfield 126, 3) := by decide +kernel
theorem dX9_addsArm_71 : decode cX9_addsArm 71 = .ok (.bipush 99, 2) := by decide +kernel
theorem dX9_addsArm_73 : decode cX9_addsArm 73 = .ok (.iastore, 1) := by decide +kernel
theorem dX9_addsArm_74 : decode cX9_addsArm 74 = .ok (.aload_n 0, 1) := by decide +kernel
theorem dX9_addsArm_75 : decode cX9_addsArm 75 = .ok (.dup, 1) := by decide +kernel
theorem dX9_addsArm_76 : decode cX9_addsArm 76 = .ok (.getfield 126, 3) := by decide +kernel
theorem dX9_addsArm_79 : decode cX9_addsArm 79 = .ok (.dup_x1, 1) := by decide +kernel
theorem dX9_addsArm_80 : decode cX9_addsArm 80 = .ok (.iconst 1, 1) := by decide +kernel
theorem dX9_addsArm_81 : decode cX9_addsArm 81 = .ok (.iadd, 1) := by decide +kernel
theorem dX9_addsArm_82 : decode cX9_addsArm 82 = .ok (.putfield 126, 3) := by decide +kernel
theorem dX9_addsArm_85 : decode cX9_addsArm 85 = .ok (.ireturn, 1) := by decide +kernel
theorem dX9_addsDoll_0 : decode cX9_addsDoll 0 = .ok (.aload_n 0, 1) := by decide +kernel
theorem dX9_addsDoll_1 : decode cX9_addsDoll 1 = .ok (.getfield 41, 3) := by decide +kernel
theorem dX9_addsDoll_4 : decode cX9_addsDoll 4 = .ok (.aload_n 0, 1) := by decide +kernel
theorem dX9_addsDoll_5 : decode cX9_addsDoll 5 = .ok (.getfield 129, 3) := by decide +kernel
theorem dX9_addsDoll_8 : decode cX9_addsDoll 8 = .ok (.iload_n 1, 1) := by decide +kernel
theorem dX9_addsDoll_9 : decode cX9_addsDoll 9 = .ok (.iastore, 1) := by decide +kernel
theorem dX9_addsDoll_10 : decode cX9_addsDoll 10 = .ok (.aload_n 0, 1) := by decide +kernel
theorem dX9_addsDoll_11 : decode cX9_addsDoll 11 = .ok (.getfield 44, 3) := by decide +kernel
theorem dX9_addsDoll_14 : decode cX9_addsDoll 14 = .ok (.aload_n 0, 1) := by decide +kernel
theorem dX9_addsDoll_15 : decode cX9_addsDoll 15 = .ok (.getfield 129, 3) := by decide +kernel
theorem dX9_addsDoll_18 : decode cX9_addsDoll 18 = .ok (.iload_n 2, 1) := by decide +kernel
theorem dX9_addsDoll_19 : decode cX9_addsDoll 19 = .ok (.iastore, 1) := by decide +kernel
theorem dX9_addsDoll_20 : decode cX9_addsDoll 20 = .ok (.aload_n 0, 1) := by decide +kernel
theorem dX9_addsDoll_21 : decode cX9_addsDoll 21 = .ok (.getfield 47, 3) := by decide +kernel
theorem dX9_addsDoll_24 : decode cX9_addsDoll 24 = .ok (.aload_n 0, 1) := by decide +kernel
theorem dX9_addsDoll_25 : decode cX9_addsDoll 25 = .ok (.getfield 129, 3) := by decide +kernel
theorem dX9_addsDoll_28 : decode cX9_addsDoll 28 = .ok (.iload_n 3, 1) := by decide +kernel
theorem dX9_addsDoll_29 : decode cX9_addsDoll 29 = .ok (.iastore, 1) := by decide +kernel
theorem dX9_addsDoll_30 : decode cX9_addsDoll 30 = .ok (.aload_n 0, 1) := by decide +kernel
theorem dX9_addsDoll_31 : decode cX9_addsDoll 31 = .ok (.getfield 50, 3) := by decide +kernel
theorem dX9_addsDoll_34 : decode cX9_addsDoll 34 = .ok (.aload_n 0, 1) := by decide +kernel
theorem dX9_addsDoll_35 : decode cX9_addsDoll 35 = .ok (.getfield 129, 3) := by decide +kernel
theorem dX9_addsDoll_38 : decode cX9_addsDoll 38 = .ok (.iload 4, 2) := by decide +kernel
theorem dX9_addsDoll_40 : decode cX9_addsDoll 40 = .ok (.iastore, 1) := by decide +kernel
theorem dX9_addsDoll_41 : decode cX9_addsDoll 41 = .ok (.aload_n 0, 1) := by decide +kernel
theorem dX9_addsDoll_42 : decode cX9_addsDoll 42 = .ok (.getfield 53, 3) := by decide +kernel
theorem dX9_addsDoll_45 : decode cX9_addsDoll 45 = .ok (.aload_n 0, 1) := by decide +kernel
theorem dX9_addsDoll_46 : decode cX9_addsDoll 46 = .ok (.getfield 129, 3) := by decide +kernel
theorem dX9_addsDoll_49 : decode cX9_addsDoll 49 = .ok (.iload 5, 2) := by decide +kernel
theorem dX9_addsDoll_51 : decode cX9_addsDoll 51 = .ok (.iastore, 1) := by decide +kernel
theorem dX9_addsDoll_52 : decode cX9_addsDoll 52 = .ok (.aload_n 0, 1) := by decide +kernel
theorem dX9_addsDoll_53 : decode cX9_addsDoll 53 = .ok (.getfield 56, 3) := by decide +kernel
theorem dX9_addsDoll_56 : decode cX9_addsDoll 56 = .ok (.aload_n 0, 1) := by decide +kernel
theorem dX9_addsDoll_57 : decode cX9_addsDoll 57 = .ok (.getfield 129, 3) := by decide +kernel
theorem dX9_addsDoll_60 : decode cX9_addsDoll 60 = .ok (.iload 6, 2) := by decide +kernel
theorem dX9_addsDoll_62 : decode cX9_addsDoll 62 = .ok (.iastore, 1) := by decide +kernel
theorem dX9_addsDoll_63 : decode cX9_addsDoll 63 = .ok (.aload_n 0, 1) := by decide +kernel
theorem dX9_addsDoll_64 : decode cX9_addsDoll 64 = .ok (.getfield 59, 3) := by decide +kernel
theorem dX9_addsDoll_67 : decode cX9_addsDoll 67 = .ok (.aload_n 0, 1) := by decide +kernel
theorem dX9_addsDoll_68 : decode cX9_addsDoll 68 = .ok (.getfield 129, 3) := by decide +kernel
theorem dX9_addsDoll_71 : decode cX9_addsDoll 71 = .ok (.iload 7, 2) := by decide +kernel
theorem dX9_addsDoll_73 : decode cX9_addsDoll 73 = .ok (.iastore, 1) := by decide +kernel
theorem dX9_addsDoll_74 : decode cX9_addsDoll 74 = .ok (.aload_n 0, 1) := by decide +kernel
theorem dX9_addsDoll_75 : decode cX9_addsDoll 75 = .ok (.getfield 62, 3) := by decide +kernel
theorem dX9_addsDoll_78 : decode cX9_addsDoll 78 = .ok (.aload_n 0, 1) := by decide +kernel
theorem dX9_addsDoll_79 : decode cX9_addsDoll 79 = .ok (.getfield 129, 3) := by decide +kernel
theorem dX9_addsDoll_82 : decode cX9_addsDoll 82 = .ok (.iconst 0, 1) := by decide +kernel
theorem dX9_addsDoll_83 : decode cX9_addsDoll 83 = .ok (.iastore, 1) := by decide +kernel
theorem dX9_addsDoll_84 : decode cX9_addsDoll 84 = .ok (.aload_n 0, 1) := by decide +kernel
theorem dX9_addsDoll_85 : decode cX9_addsDoll 85 = .ok (.dup, 1) := by decide +kernel
theorem dX9_addsDoll_86 : decode cX9_addsDoll 86 = .ok (.getfield 129, 3) := by decide +kernel
theorem dX9_addsDoll_89 : decode cX9_addsDoll 89 = .ok (.dup_x1, 1) := by decide +kernel
theorem dX9_addsDoll_90 : decode cX9_addsDoll 90 = .ok (.iconst 1, 1) := by decide +kernel
theorem dX9_addsDoll_91 : decode cX9_addsDoll 91 = .ok (.iadd, 1) := by decide +kernel
theorem dX9_addsDoll_92 : decode cX9_addsDoll 92 = .ok (.putfield 129, 3) := by decide +kernel
theorem dX9_addsDoll_95 : decode cX9_addsDoll 95 = .ok (.ireturn, 1) := by decide +kernel
theorem dX9_isNine_0 : decode cX9_isNine 0 = .ok (.iload_n 1, 1) := by decide +kernel
theorem dX9_isNine_1 : decode cX9_isNine 1 = .ok (.ifCond .lt 13, 3) := by decide +kernel
theorem dX9_isNine_4 : decode cX9_isNine 4 = .ok (.iload_n 1, 1) := by decide +kernel
theorem dX9_isNine_5 : decode cX9_isNine 5 = .ok (.bipush 9, 2) := by decide +kernel
theorem dX9_isNine_7 : decode cX9_isNine 7 = .ok (.if_icmp .gt 7, 3) := by decide +kernel
theorem dX9_isNine_10 : decode cX9_isNine 10 = .ok (.iconst 1, 1) := by decide +kernel
theorem dX9_isNine_11 : decode cX9_isNine 11 = .ok (.goto 4, 3) := by decide +kernel
theorem dX9_isNine_14 : decode cX9_isNine 14 = .ok (.iconst 0, 1) := by decide +kernel
theorem dX9_isNine_15 : decode cX9_isNine 15 = .ok (.ireturn, 1) := by decide +kernel
theorem dX9_arm_0 : decode cX9_arm 0 = .ok (.iload_n 1, 1) := by decide +kernel
theorem dX9_arm_1 : decode cX9_arm 1 = .ok (.ifCond .lt 9, 3) := by decide +kernel
theorem dX9_arm_4 : decode cX9_arm 4 = .ok (.iload_n 1, 1) := by decide +kernel
theorem dX9_arm_5 : decode cX9_arm 5 = .ok (.bipush 6, 2) := by decide +kernel
theorem dX9_arm_7 : decode cX9_arm 7 = .ok (.if_icmp .le 9, 3) := by decide +kernel
theorem dX9_arm_10 : decode cX9_arm 10 = .ok (.aload_n 0, 1) := by decide +kernel
theorem dX9_arm_11 : decode cX9_arm 11 = .ok (.iconst (-1), 1) := by decide +kernel
theorem dX9_arm_12 : decode cX9_arm 12 = .ok (.invokevirtual 136, 3) := by decide +kernel
theorem dX9_arm_15 : decode cX9_arm 15 = .ok (.ireturn, 1) := by decide +kernel
theorem dX9_arm_16 : decode cX9_arm 16 = .ok (.aload_n 0, 1) := by decide +kernel
theorem dX9_arm_17 : decode cX9_arm 17 = .ok (.iload_n 2, 1) := by decide +kernel
theorem dX9_arm_18 : decode cX9_arm 18 = .ok (.invokevirtual 169, 3) := by decide +kernel
theorem dX9_arm_21 : decode cX9_arm 21 = .ok (.ifCond .eq 40, 3) := by decide +kernel
theorem dX9_arm_24 : decode cX9_arm 24 = .ok (.aload_n 0, 1) := by decide +kernel
theorem dX9_arm_25 : decode cX9_arm 25 = .ok (.iload_n 3, 1) := by decide +kernel
theorem dX9_arm_26 : decode cX9_arm 26 = .ok (.iconst 0, 1) := by decide +kernel
theorem dX9_arm_27 : decode cX9_arm 27 = .ok (.iconst 1, 1) := by decide +kernel
theorem dX9_arm_28 : decode cX9_arm 28 = .ok (.invokevirtual 172, 3) := by decide +kernel
theorem dX9_arm_31 : decode cX9_arm 31 = .ok (.ifCond .eq 30, 3) := by decide +kernel
theorem dX9_arm_34 : decode cX9_arm 34 = .ok (.aload_n 0, 1) := by decide +kernel
theorem dX9_arm_35 : decode cX9_arm 35 = .ok (.iload 4, 2) := by decide +kernel
theorem dX9_arm_37 : decode cX9_arm 37 = .ok (.invokevirtual 169, 3) := by decide +kernel
theorem dX9_arm_40 : decode cX9_arm 40 = .ok (.ifCond .eq 21, 3) := by decide +kernel
theorem dX9_arm_43 : decode cX9_arm 43 = .ok (.aload_n 0, 1) := by decide +kernel
theorem dX9_arm_44 : decode cX9_arm 44 = .ok (.iload 5, 2) := by decide +kernel
theorem dX9_arm_46 : decode cX9_arm 46 = .ok (.invokevirtual 169, 3) := by decide +kernel
theorem dX9_arm_49 : decode cX9_arm 49 = .ok (.ifCond .eq 12, 3) := by decide +kernel
theorem dX9_arm_52 : decode cX9_arm 52 = .ok (.aload_n 0, 1) := by decide +kernel
theorem dX9_arm_53 : decode cX9_arm 53 = .ok (.iload 6, 2) := by decide +kernel
theorem dX9_arm_55 : decode cX9_arm 55 = .ok (.invokevirtual 169, 3) := by decide +kernel
theorem dX9_arm_58 : decode cX9_arm 58 = .ok (.ifCond .ne 10, 3) := by decide +kernel
theorem dX9_arm_61 : decode cX9_arm 61 = .ok (.aload_n 0, 1) := by decide +kernel
theorem dX9_arm_62 : decode cX9_arm 62 = .ok (.bipush (-6), 2) := by decide +kernel
theorem dX9_arm_64 : decode cX9_arm 64 = .ok (.invokevirtual 136, 3) := by decide +kernel
theorem dX9_arm_67 : decode cX9_arm 67 = .ok (.ireturn, 1) := by decide +kernel
theorem dX9_arm_68 : decode cX9_arm 68 = .ok (.aload_n 0, 1) := by decide +kernel
theorem dX9_arm_69 : decode cX9_arm 69 = .ok (.getfield 126, 3) := by decide +kernel
theorem dX9_arm_72 : decode cX9_arm 72 = .ok (.bipush 8, 2) := by decide +kernel
theorem dX9_arm_74 : decode cX9_arm 74 = .ok (.if_icmp .ne 12, 3) := by decide +kernel
theorem dX9_arm_77 : decode cX9_arm 77 = .ok (.aload_n 0, 1) := by decide +kernel
theorem dX9_arm_78 : decode cX9_arm 78 = .ok (.bipush (-7), 2) := by decide +kernel
theorem dX9_arm_80 : decode cX9_arm 80 = .ok (.invokevirtual 136, 3) := by decide +kernel
theorem dX9_arm_83 : decode cX9_arm 83 = .ok (.goto 16, 3) := by decide +kernel
theorem dX9_arm_86 : decode cX9_arm 86 = .ok (.aload_n 0, 1) := by decide +kernel
theorem dX9_arm_87 : decode cX9_arm 87 = .ok (.iload_n 1, 1) := by decide +kernel
theorem dX9_arm_88 : decode cX9_arm 88 = .ok (.iload_n 2, 1) := by decide +kernel
theorem dX9_arm_89 : decode cX9_arm 89 = .ok (.iload_n 3, 1) := by decide +kernel
theorem dX9_arm_90 : decode cX9_arm 90 = .ok (.iload 4, 2) := by decide +kernel
theorem dX9_arm_92 : decode cX9_arm 92 = .ok (.iload 5, 2) := by decide +kernel
theorem dX9_arm_94 : decode cX9_arm 94 = .ok (.iload 6, 2) := by decide +kernel
theorem dX9_arm_96 : decode cX9_arm 96 = .ok (.invokevirtual 176, 3) := by decide +kernel
theorem dX9_arm_99 : decode cX9_arm 99 = .ok (.ireturn, 1) := by decide +kernel
theorem dX9_doll_0 : decode cX9_doll 0 = .ok (.aload_n 0, 1) := by decide +kernel
theorem dX9_doll_1 : decode cX9_doll 1 = .ok (.iload_n 1, 1) := by decide +kernel
theorem dX9_doll_2 : decode cX9_doll 2 = .ok (.invokevirtual 169, 3) := by decide +kernel
theorem dX9_doll_5 : decode cX9_doll 5 = .ok (.ifCond .eq 63, 3) := by decide +kernel
theorem dX9_doll_8 : decode cX9_doll 8 = .ok (.aload_n 0, 1) := by decide +kernel
theorem dX9_doll_9 : decode cX9_doll 9 = .ok (.iload_n 2, 1) := by decide +kernel
theorem dX9_doll_10 : decode cX9_doll 10 = .ok (.invokevirtual 169, 3) := by decide +kernel
theorem dX9_doll_13 : decode cX9_doll 13 = .ok (.ifCond .eq 55, 3) := by decide +kernel
theorem dX9_doll_16 : decode cX9_doll 16 = .ok (.aload_n 0, 1) := by decide +kernel
theorem dX9_doll_17 : decode cX9_doll 17 = .ok (.iload_n 3, 1) := by decide +kernel
theorem dX9_doll_18 : decode cX9_doll 18 = .ok (.invokevirtual 169, 3) := by decide +kernel
theorem dX9_doll_21 : decode cX9_doll 21 = .ok (.ifCond .eq 47, 3) := by decide +kernel
theorem dX9_doll_24 : decode cX9_doll 24 = .ok (.aload_n 0, 1) := by decide +kernel
theorem dX9_doll_25 : decode cX9_doll 25 = .ok (.iload 4, 2) := by decide +kernel
theorem dX9_doll_27 : decode cX9_doll 27 = .ok (.iconst 0, 1) := by decide +kernel
theorem dX9_doll_28 : decode cX9_doll 28 = .ok (.iconst 2, 1) := by decide +kernel
theorem dX9_doll_29 : decode cX9_doll 29 = .ok (.invokevirtual 172, 3) := by decide +kernel
theorem dX9_doll_32 : decode cX9_doll 32 = .ok (.ifCond .eq 36, 3) := by decide +kernel
theorem dX9_doll_35 : decode cX9_doll 35 = .ok (.aload_n 0, 1) := by decide +kernel
theorem dX9_doll_36 : decode cX9_doll 36 = .ok (.iload 5, 2) := by decide +kernel
theorem dX9_doll_38 : decode cX9_doll 38 = .ok (.iconst 1, 1) := by decide +kernel
theorem dX9_doll_39 : decode cX9_doll 39 = .ok (.bipush 99, 2) := by decide +kernel
theorem dX9_doll_41 : decode cX9_doll 41 = .ok (.invokevirtual 172, 3) := by decide +kernel
theorem dX9_doll_44 : decode cX9_doll 44 = .ok (.ifCond .eq 24, 3) := by decide +kernel
theorem dX9_doll_47 : decode cX9_doll 47 = .ok (.aload_n 0, 1) := by decide +kernel
theorem dX9_doll_48 : decode cX9_doll 48 = .ok (.iload 6, 2) := by decide +kernel
theorem dX9_doll_50 : decode cX9_doll 50 = .ok (.invokevirtual 169, 3) := by decide +kernel
theorem dX9_doll_53 : decode cX9_doll 53 = .ok (.ifCond .eq 15, 3) := by decide +kernel
theorem dX9_doll_56 : decode cX9_doll 56 = .ok (.aload_n 0, 1) := by decide +kernel
theorem dX9_doll_57 : decode cX9_doll 57 = .ok (.iload 7, 2) := by decide +kernel
theorem dX9_doll_59 : decode cX9_doll 59 = .ok (.iconst 0, 1) := by decide +kernel
theorem dX9_doll_60 : decode cX9_doll 60 = .ok (.bipush 40, 2) := by decide +kernel
theorem dX9_doll_62 : decode cX9_doll 62 = .ok (.invokevirtual 172, 3) := by decide +kernel
theorem dX9_doll_65 : decode cX9_doll 65 = .ok (.ifCond .ne 10, 3) := by decide +kernel
theorem dX9_doll_68 : decode cX9_doll 68 = .ok (.aload_n 0, 1) := by decide +kernel
theorem dX9_doll_69 : decode cX9_doll 69 = .ok (.bipush (-6), 2) := by decide +kernel
theorem dX9_doll_71 : decode cX9_doll 71 = .ok (.invokevirtual 136, 3) := by decide +kernel
theorem dX9_doll_74 : decode cX9_doll 74 = .ok (.ireturn, 1) := by decide +kernel
theorem dX9_doll_75 : decode cX9_doll 75 = .ok (.aload_n 0, 1) := by decide +kernel
theorem dX9_doll_76 : decode cX9_doll 76 = .ok (.getfield 129, 3) := by decide +kernel
theorem dX9_doll_79 : decode cX9_doll 79 = .ok (.iconst 5, 1) := by decide +kernel
theorem dX9_doll_80 : decode cX9_doll 80 = .ok (.if_icmp .ne 12, 3) := by decide +kernel
theorem dX9_doll_83 : decode cX9_doll 83 = .ok (.aload_n 0, 1) := by decide +kernel
theorem dX9_doll_84 : decode cX9_doll 84 = .ok (.bipush (-7), 2) := by decide +kernel
theorem dX9_doll_86 : decode cX9_doll 86 = .ok (.invokevirtual 136, 3) := by decide +kernel
theorem dX9_doll_89 : decode cX9_doll 89 = .ok (.goto 18, 3) := by decide +kernel
theorem dX9_doll_92 : decode cX9_doll 92 = .ok (.aload_n 0, 1) := by decide +kernel
theorem dX9_doll_93 : decode cX9_doll 93 = .ok (.iload_n 1, 1) := by decide +kernel
theorem dX9_doll_94 : decode cX9_doll 94 = .ok (.iload_n 2, 1) := by decide +kernel
theorem dX9_doll_95 : decode cX9_doll 95 = .ok (.iload_n 3, 1) := by decide +kernel
theorem dX9_doll_96 : decode cX9_doll 96 = .ok (.iload 4, 2) := by decide +kernel
theorem dX9_doll_98 : decode cX9_doll 98 = .ok (.iload 5, 2) := by decide +kernel
theorem dX9_doll_100 : decode cX9_doll 100 = .ok (.iload 6, 2) := by decide +kernel
theorem dX9_doll_102 : decode cX9_doll 102 = .ok (.iload 7, 2) := by decide +kernel
theorem dX9_doll_104 : decode cX9_doll 104 = .ok (.invokevirtual 180, 3) := by decide +kernel
theorem dX9_doll_107 : decode cX9_doll 107 = .ok (.ireturn, 1) := by decide +kernel
theorem dX9_dye_0 : decode cX9_dye 0 = .ok (.aload_n 0, 1) := by decide +kernel
theorem dX9_dye_1 : decode cX9_dye 1 = .ok (.iload_n 1, 1) := by decide +kernel
theorem dX9_dye_2 : decode cX9_dye 2 = .ok (.invokevirtual 140, 3) := by decide +kernel
theorem dX9_dye_5 : decode cX9_dye 5 = .ok (.ifCond .ne 9, 3) := by decide +kernel
theorem dX9_dye_8 : decode cX9_dye 8 = .ok (.aload_n 0, 1) := by decide +kernel
theorem dX9_dye_9 : decode cX9_dye 9 = .ok (.iconst (-1), 1) := by decide +kernel
theorem dX9_dye_10 : decode cX9_dye 10 = .ok (.invokevirtual 136, 3) := by decide +kernel
theorem dX9_dye_13 : decode cX9_dye 13 = .ok (.ireturn, 1) := by decide +kernel
theorem dX9_dye_14 : decode cX9_dye 14 = .ok (.iload_n 2, 1) := by decide +kernel
theorem dX9_dye_15 : decode cX9_dye 15 = .ok (.ifCond .lt 16, 3) := by decide +kernel
theorem dX9_dye_18 : decode cX9_dye 18 = .ok (.iload_n 2, 1) := by decide +kernel
theorem dX9_dye_19 : decode cX9_dye 19 = .ok (.iconst 1, 1) := by decide +kernel
theorem dX9_dye_20 : decode cX9_dye 20 = .ok (.if_icmp .gt 11, 3) := by decide +kernel
theorem dX9_dye_23 : decode cX9_dye 23 = .ok (.aload_n 0, 1) := by decide +kernel
theorem dX9_dye_24 : decode cX9_dye 24 = .ok (.iload_n 3, 1) := by decide +kernel
theorem dX9_dye_25 : decode cX9_dye 25 = .ok (.invokevirtual 169, 3) := by decide +kernel
theorem dX9_dye_28 : decode cX9_dye 28 = .ok (.ifCond .ne 10, 3) := by decide +kernel
theorem dX9_dye_31 : decode cX9_dye 31 = .ok (.aload_n 0, 1) := by decide +kernel
theorem dX9_dye_32 : decode cX9_dye 32 = .ok (.bipush (-6), 2) := by decide +kernel
theorem dX9_dye_34 : decode cX9_dye 34 = .ok (.invokevirtual 136, 3) := by decide +kernel
theorem dX9_dye_37 : decode cX9_dye 37 = .ok (.ireturn, 1) := by decide +kernel
theorem dX9_dye_38 : decode cX9_dye 38 = .ok (.iload_n 2, 1) := by decide +kernel
theorem dX9_dye_39 : decode cX9_dye 39 = .ok (.ifCond .ne 12, 3) := by decide +kernel
theorem dX9_dye_42 : decode cX9_dye 42 = .ok (.aload_n 0, 1) := by decide +kernel
theorem dX9_dye_43 : decode cX9_dye 43 = .ok (.getfield 32, 3) := by decide +kernel
theorem dX9_dye_46 : decode cX9_dye 46 = .ok (.iload_n 1, 1) := by decide +kernel
theorem dX9_dye_47 : decode cX9_dye 47 = .ok (.iaload, 1) := by decide +kernel
theorem dX9_dye_48 : decode cX9_dye 48 = .ok (.goto 9, 3) := by decide +kernel
theorem dX9_dye_51 : decode cX9_dye 51 = .ok (.aload_n 0, 1) := by decide +kernel
theorem dX9_dye_52 : decode cX9_dye 52 = .ok (.getfield 35, 3) := by decide +kernel
theorem dX9_dye_55 : decode cX9_dye 55 = .ok (.iload_n 1, 1) := by decide +kernel
theorem dX9_dye_56 : decode cX9_dye 56 = .ok (.iaload, 1) := by decide +kernel
theorem dX9_dye_57 : decode cX9_dye 57 = .ok (.istore 4, 2) := by decide +kernel
theorem dX9_dye_59 : decode cX9_dye 59 = .ok (.iload_n 2, 1) := by decide +kernel
theorem dX9_dye_60 : decode cX9_dye 60 = .ok (.ifCond .ne 13, 3) := by decide +kernel
theorem dX9_dye_63 : decode cX9_dye 63 = .ok (.aload_n 0, 1) := by decide +kernel
theorem dX9_dye_64 : decode cX9_dye 64 = .ok (.getfield 32, 3) := by decide +kernel
theorem dX9_dye_67 : decode cX9_dye 67 = .ok (.iload_n 1, 1) := by decide +kernel
theorem dX9_dye_68 : decode cX9_dye 68 = .ok (.iload_n 3, 1) := by decide +kernel
theorem dX9_dye_69 : decode cX9_dye 69 = .ok (.iastore, 1) := by decide +kernel
theorem dX9_dye_70 : decode cX9_dye 70 = .ok (.goto 10, 3) := by decide +kernel
theorem dX9_dye_73 : decode cX9_dye 73 = .ok (.aload_n 0, 1) := by decide +kernel
theorem dX9_dye_74 : decode cX9_dye 74 = .ok (.getfield 35, 3) := by decide +kernel
theorem dX9_dye_77 : decode cX9_dye 77 = .ok (.iload_n 1, 1) := by decide +kernel
theorem dX9_dye_78 : decode cX9_dye 78 = .ok (.iload_n 3, 1) := by decide +kernel
theorem dX9_dye_79 : decode cX9_dye 79 = .ok (.iastore, 1) := by decide +kernel
theorem dX9_dye_80 : decode cX9_dye 80 = .ok (.iload 4, 2) := by decide +kernel
theorem dX9_dye_82 : decode cX9_dye 82 = .ok (.ireturn, 1) := by decide +kernel
theorem dX9_tell_0 : decode cX9_tell 0 = .ok (.aload_n 0, 1) := by decide +kernel
theorem dX9_tell_1 : decode cX9_tell 1 = .ok (.iload_n 1, 1) := by decide +kernel
theorem dX9_tell_2 : decode cX9_tell 2 = .ok (.invokevirtual 184, 3) := by decide +kernel
theorem dX9_tell_5 : decode cX9_tell 5 = .ok (.ifCond .ne 9, 3) := by decide +kernel
theorem dX9_tell_8 : decode cX9_tell 8 = .ok (.aload_n 0, 1) := by decide +kernel
theorem dX9_tell_9 : decode cX9_tell 9 = .ok (.iconst (-1), 1) := by decide +kernel
theorem dX9_tell_10 : decode cX9_tell 10 = .ok (.invokevirtual 136, 3) := by decide +kernel
theorem dX9_tell_13 : decode cX9_tell 13 = .ok (.ireturn, 1) := by decide +kernel
theorem dX9_tell_14 : decode cX9_tell 14 = .ok (.iload_n 2, 1) := by decide +kernel
theorem dX9_tell_15 : decode cX9_tell 15 = .ok (.ifCond .ne 7, 3) := by decide +kernel
theorem dX9_tell_18 : decode cX9_tell 18 = .ok (.iconst 2, 1) := by decide +kernel
theorem dX9_tell_19 : decode cX9_tell 19 = .ok (.goto 25, 3) := by decide +kernel
theorem dX9_tell_22 : decode cX9_tell 22 = .ok (.iload_n 2, 1) := by decide +kernel
theorem dX9_tell_23 : decode cX9_tell 23 = .ok (.iconst 1, 1) := by decide +kernel
theorem dX9_tell_24 : decode cX9_tell 24 = .ok (.if_icmp .ne 8, 3) := by decide +kernel
theorem dX9_tell_27 : decode cX9_tell 27 = .ok (.bipush 9, 2) := by decide +kernel
theorem dX9_tell_29 : decode cX9_tell 29 = .ok (.goto 15, 3) := by decide +kernel
theorem dX9_tell_32 : decode cX9_tell 32 = .ok (.iload_n 2, 1) := by decide +kernel
theorem dX9_tell_33 : decode cX9_tell 33 = .ok (.iconst 2, 1) := by decide +kernel
theorem dX9_tell_34 : decode cX9_tell 34 = .ok (.if_icmp .ne 8, 3) := by decide +kernel
theorem dX9_tell_37 : decode cX9_tell 37 = .ok (.bipush 40, 2) := by decide +kernel
theorem dX9_tell_39 : decode cX9_tell 39 = .ok (.goto 5, 3) := by decide +kernel
theorem dX9_tell_42 : decode cX9_tell 42 = .ok (.bipush 99, 2) := by decide +kernel
theorem dX9_tell_44 : decode cX9_tell 44 = .ok (.istore 4, 2) := by decide +kernel
theorem dX9_tell_46 : decode cX9_tell 46 = .ok (.iload_n 2, 1) := by decide +kernel
theorem dX9_tell_47 : decode cX9_tell 47 = .ok (.ifCond .lt 19, 3) := by decide +kernel
theorem dX9_tell_50 : decode cX9_tell 50 = .ok (.iload_n 2, 1) := by decide +kernel
theorem dX9_tell_51 : decode cX9_tell 51 = .ok (.iconst 3, 1) := by decide +kernel
theorem dX9_tell_52 : decode cX9_tell 52 = .ok (.if_icmp .gt 14, 3) := by decide +kernel
theorem dX9_tell_55 : decode cX9_tell 55 = .ok (.aload_n 0, 1) := by decide +kernel
theorem dX9_tell_56 : decode cX9_tell 56 = .ok (.iload_n 3, 1) := by decide +kernel
theorem dX9_tell_57 : decode cX9_tell 57 = .ok (.iconst 0, 1) := by decide +kernel
theorem dX9_tell_58 : decode cX9_tell 58 = .ok (.iload 4, 2) := by decide +kernel
theorem dX9_tell_60 : decode cX9_tell 60 = .ok (.invokevirtual 172, 3) := by decide +kernel
theorem dX9_tell_63 : decode cX9_tell 63 = .ok (.ifCond .ne 10, 3) := by decide +kernel
theorem dX9_tell_66 : decode cX9_tell 66 = .ok (.aload_n 0, 1) := by decide +kernel
theorem dX9_tell_67 : decode cX9_tell 67 = .ok (.bipush (-6), 2) := by decide +kernel
theorem dX9_tell_69 : decode cX9_tell 69 = .ok (.invokevirtual 136, 3) := by decide +kernel
theorem dX9_tell_72 : decode cX9_tell 72 = .ok (.ireturn, 1) := by decide +kernel
theorem dX9_tell_73 : decode cX9_tell 73 = .ok (.iload_n 2, 1) := by decide +kernel
theorem dX9_tell_74 : decode cX9_tell 74 = .ok (.ifCond .ne 12, 3) := by decide +kernel
theorem dX9_tell_77 : decode cX9_tell 77 = .ok (.aload_n 0, 1) := by decide +kernel
theorem dX9_tell_78 : decode cX9_tell 78 = .ok (.getfield 50, 3) := by decide +kernel
theorem dX9_tell_81 : decode cX9_tell 81 = .ok (.iload_n 1, 1) := by decide +kernel
theorem dX9_tell_82 : decode cX9_tell 82 = .ok (.iaload, 1) := by decide +kernel
theorem dX9_tell_83 : decode cX9_tell 83 = .ok (.goto 37, 3) := by decide +kernel
theorem dX9_tell_86 : decode cX9_tell 86 = .ok (.iload_n 2, 1) := by decide +kernel
theorem dX9_tell_87 : decode cX9_tell 87 = .ok (.iconst 1, 1) := by decide +kernel
theorem dX9_tell_88 : decode cX9_tell 88 = .ok (.if_icmp .ne 12, 3) := by decide +kernel
theorem dX9_tell_91 : decode cX9_tell 91 = .ok (.aload_n 0, 1) := by decide +kernel
theorem dX9_tell_92 : decode cX9_tell 92 = .ok (.getfield 56, 3) := by decide +kernel
theorem dX9_tell_95 : decode cX9_tell 95 = .ok (.iload_n 1, 1) := by decide +kernel
theorem dX9_tell_96 : decode cX9_tell 96 = .ok (.iaload, 1) := by decide +kernel
theorem dX9_tell_97 : decode cX9_tell 97 = .ok (.goto 23, 3) := by decide +kernel
theorem dX9_tell_100 : decode cX9_tell 100 = .ok (.iload_n 2, 1) := by decide +kernel
theorem dX9_tell_101 : decode cX9_tell 101 = .ok (.iconst 2, 1) := by decide +kernel
theorem dX9_tell_102 : decode cX9_tell 102 = .ok (.if_icmp .ne 12, 3) := by decide +kernel
theorem dX9_tell_105 : decode cX9_tell 105 = .ok (.aload_n 0, 1) := by decide +kernel
theorem dX9_tell_106 : decode cX9_tell 106 = .ok (.getfield 59, 3) := by decide +kernel
theorem dX9_tell_109 : decode cX9_tell 109 = .ok (.iload_n 1, 1) := by decide +kernel
theorem dX9_tell_110 : decode cX9_tell 110 = .ok (.iaload, 1) := by decide +kernel
theorem dX9_tell_111 : decode cX9_tell 111 = .ok (.goto 9, 3) := by decide +kernel
theorem dX9_tell_114 : decode cX9_tell 114 = .ok (.aload_n 0, 1) := by decide +kernel
theorem dX9_tell_115 : decode cX9_tell 115 = .ok (.getfield 62, 3) := by decide +kernel
theorem dX9_tell_118 : decode cX9_tell 118 = .ok (.iload_n 1, 1) := by decide +kernel
theorem dX9_tell_119 : decode cX9_tell 119 = .ok (.iaload, 1) := by decide +kernel
theorem dX9_tell_120 : decode cX9_tell 120 = .ok (.istore 5, 2) := by decide +kernel
theorem dX9_tell_122 : decode cX9_tell 122 = .ok (.iload_n 2, 1) := by decide +kernel
theorem dX9_tell_123 : decode cX9_tell 123 = .ok (.ifCond .ne 13, 3) := by decide +kernel
theorem dX9_tell_126 : decode cX9_tell 126 = .ok (.aload_n 0, 1) := by decide +kernel
theorem dX9_tell_127 : decode cX9_tell 127 = .ok (.getfield 50, 3) := by decide +kernel
theorem dX9_tell_130 : decode cX9_tell 130 = .ok (.iload_n 1, 1) := by decide +kernel
theorem dX9_tell_131 : decode cX9_tell 131 = .ok (.iload_n 3, 1) := by decide +kernel
theorem dX9_tell_132 : decode cX9_tell 132 = .ok (.iastore, 1) := by decide +kernel
theorem dX9_tell_133 : decode cX9_tell 133 = .ok (.goto 40, 3) := by decide +kernel
theorem dX9_tell_136 : decode cX9_tell 136 = .ok (.iload_n 2, 1) := by decide +kernel
theorem dX9_tell_137 : decode cX9_tell 137 = .ok (.iconst 1, 1) := by decide +kernel
theorem dX9_tell_138 : decode cX9_tell 138 = .ok (.if_icmp .ne 13, 3) := by decide +kernel
theorem dX9_tell_141 : decode cX9_tell 141 = .ok (.aload_n 0, 1) := by decide +kernel
theorem dX9_tell_142 : decode cX9_tell 142 = .ok (.getfield 56, 3) := by decide +kernel
theorem dX9_tell_145 : decode cX9_tell 145 = .ok (.iload_n 1, 1) := by decide +kernel
theorem dX9_tell_146 : decode cX9_tell 146 = .ok (.iload_n 3, 1) := by decide +kernel
theorem dX9_tell_147 : decode cX9_tell 147 = .ok (.iastore, 1) := by decide +kernel
theorem dX9_tell_148 : decode cX9_tell 148 = .ok (.goto 25, 3) := by decide +kernel
theorem dX9_tell_151 : decode cX9_tell 151 = .ok (.iload_n 2, 1) := by decide +kernel
theorem dX9_tell_152 : decode cX9_tell 152 = .ok (.iconst 2, 1) := by decide +kernel
theorem dX9_tell_153 : decode cX9_tell 153 = .ok (.if_icmp .ne 13, 3) := by decide +kernel
theorem dX9_tell_156 : decode cX9_tell 156 = .ok (.aload_n 0, 1) := by decide +kernel
theorem dX9_tell_157 : decode cX9_tell 157 = .ok (.getfield 59, 3) := by decide +kernel
theorem dX9_tell_160 : decode cX9_tell 160 = .ok (.iload_n 1, 1) := by decide +kernel
theorem dX9_tell_161 : decode cX9_tell 161 = .ok (.iload_n 3, 1) := by decide +kernel
theorem dX9_tell_162 : decode cX9_tell 162 = .ok (.iastore, 1) := by decide +kernel
theorem dX9_tell_163 : decode cX9_tell 163 = .ok (.goto 10, 3) := by decide +kernel
theorem dX9_tell_166 : decode cX9_tell 166 = .ok (.aload_n 0, 1) := by decide +kernel
theorem dX9_tell_167 : decode cX9_tell 167 = .ok (.getfield 62, 3) := by decide +kernel
theorem dX9_tell_170 : decode cX9_tell 170 = .ok (.iload_n 1, 1) := by decide +kernel
theorem dX9_tell_171 : decode cX9_tell 171 = .ok (.iload_n 3, 1) := by decide +kernel
theorem dX9_tell_172 : decode cX9_tell 172 = .ok (.iastore, 1) := by decide +kernel
theorem dX9_tell_173 : decode cX9_tell 173 = .ok (.iload 5, 2) := by decide +kernel
theorem dX9_tell_175 : decode cX9_tell 175 = .ok (.ireturn, 1) := by decide +kernel
theorem dX9_armOf_0 : decode cX9_armOf 0 = .ok (.aload_n 0, 1) := by decide +kernel
theorem dX9_armOf_1 : decode cX9_armOf 1 = .ok (.iload_n 1, 1) := by decide +kernel
theorem dX9_armOf_2 : decode cX9_armOf 2 = .ok (.invokevirtual 140, 3) := by decide +kernel
theorem dX9_armOf_5 : decode cX9_armOf 5 = .ok (.ifCond .ne 10, 3) := by decide +kernel
theorem dX9_armOf_8 : decode cX9_armOf 8 = .ok (.aload_n 0, 1) := by decide +kernel
theorem dX9_armOf_9 : decode cX9_armOf 9 = .ok (.bipush (-5), 2) := by decide +kernel
theorem dX9_armOf_11 : decode cX9_armOf 11 = .ok (.invokevirtual 136, 3) := by decide +kernel
theorem dX9_armOf_14 : decode cX9_armOf 14 = .ok (.ireturn, 1) := by decide +kernel
theorem dX9_armOf_15 : decode cX9_armOf 15 = .ok (.iload_n 2, 1) := by decide +kernel
theorem dX9_armOf_16 : decode cX9_armOf 16 = .ok (.tableswitch 113 0 8 #[52, 59, 66, 73, 80, 87, 94, 100, 106], 52) := by decide +kernel
theorem dX9_armOf_68 : decode cX9_armOf 68 = .ok (.aload_n 0, 1) := by decide +kernel
theorem dX9_armOf_69 : decode cX9_armOf 69 = .ok (.getfield 20, 3) := by decide +kernel
theorem dX9_armOf_72 : decode cX9_armOf 72 = .ok (.iload_n 1, 1) := by decide +kernel
theorem dX9_armOf_73 : decode cX9_armOf 73 = .ok (.iaload, 1) := by decide +kernel
theorem dX9_armOf_74 : decode cX9_armOf 74 = .ok (.ireturn, 1) := by decide +kernel
theorem dX9_armOf_75 : decode cX9_armOf 75 = .ok (.aload_n 0, 1) := by decide +kernel
theorem dX9_armOf_76 : decode cX9_armOf 76 = .ok (.getfield 23, 3) := by decide +kernel
theorem dX9_armOf_79 : decode cX9_armOf 79 = .ok (.iload_n 1, 1) := by decide +kernel
theorem dX9_armOf_80 : decode cX9_armOf 80 = .ok (.iaload, 1) := by decide +kernel
theorem dX9_armOf_81 : decode cX9_armOf 81 = .ok (.ireturn, 1) := by decide +kernel
theorem dX9_armOf_82 : decode cX9_armOf 82 = .ok (.aload_n 0, 1) := by decide +kernel
theorem dX9_armOf_83 : decode cX9_armOf 83 = .ok (.getfield 26, 3) := by decide +kernel
theorem dX9_armOf_86 : decode cX9_armOf 86 = .ok (.iload_n 1, 1) := by decide +kernel
theorem dX9_armOf_87 : decode cX9_armOf 87 = .ok (.iaload, 1) := by decide +kernel
theorem dX9_armOf_88 : decode cX9_armOf 88 = .ok (.ireturn, 1) := by decide +kernel
theorem dX9_armOf_89 : decode cX9_armOf 89 = .ok (.aload_n 0, 1) := by decide +kernel
theorem dX9_armOf_90 : decode cX9_armOf 90 = .ok (.getfield 29, 3) := by decide +kernel
theorem dX9_armOf_93 : decode cX9_armOf 93 = .ok (.iload_n 1, 1) := by decide +kernel
theorem dX9_armOf_94 : decode cX9_armOf 94 = .ok (.iaload, 1) := by decide +kernel
theorem dX9_armOf_95 : decode cX9_armOf 95 = .ok (.ireturn, 1) := by decide +kernel
theorem dX9_armOf_96 : decode cX9_armOf 96 = .ok (.aload_n 0, 1) := by decide +kernel
theorem dX9_armOf_97 : decode cX9_armOf 97 = .ok (.getfield 32, 3) := by decide +kernel
theorem dX9_armOf_100 : decode cX9_armOf 100 = .ok (.iload_n 1, 1) := by decide +kernel
theorem dX9_armOf_101 : decode cX9_armOf 101 = .ok (.iaload, 1) := by decide +kernel
theorem dX9_armOf_102 : decode cX9_armOf 102 = .ok (.ireturn, 1) := by decide +kernel
theorem dX9_armOf_103 : decode cX9_armOf 103 = .ok (.aload_n 0, 1) := by decide +kernel
theorem dX9_armOf_104 : decode cX9_armOf 104 = .ok (.getfield 35, 3) := by decide +kernel
theorem dX9_armOf_107 : decode cX9_armOf 107 = .ok (.iload_n 1, 1) := by decide +kernel
theorem dX9_armOf_108 : decode cX9_armOf 108 = .ok (.iaload, 1) := by decide +kernel
theorem dX9_armOf_109 : decode cX9_armOf 109 = .ok (.ireturn, 1) := by decide +kernel
theorem dX9_armOf_110 : decode cX9_armOf 110 = .ok (.aload_n 0, 1) := by decide +kernel
theorem dX9_armOf_111 : decode cX9_armOf 111 = .ok (.iload_n 1, 1) := by decide +kernel
theorem dX9_armOf_112 : decode cX9_armOf 112 = .ok (.invokevirtual 150, 3) := by decide +kernel
theorem dX9_armOf_115 : decode cX9_armOf 115 = .ok (.ireturn, 1) := by decide +kernel
theorem dX9_armOf_116 : decode cX9_armOf 116 = .ok (.aload_n 0, 1) := by decide +kernel
theorem dX9_armOf_117 : decode cX9_armOf 117 = .ok (.iload_n 1, 1) := by decide +kernel
theorem dX9_armOf_118 : decode cX9_armOf 118 = .ok (.invokevirtual 147, 3) := by decide +kernel
theorem dX9_armOf_121 : decode cX9_armOf 121 = .ok (.ireturn, 1) := by decide +kernel
theorem dX9_armOf_122 : decode cX9_armOf 122 = .ok (.aload_n 0, 1) := by decide +kernel
theorem dX9_armOf_123 : decode cX9_armOf 123 = .ok (.getfield 38, 3) := by decide +kernel
theorem dX9_armOf_126 : decode cX9_armOf 126 = .ok (.iload_n 1, 1) := by decide +kernel
theorem dX9_armOf_127 : decode cX9_armOf 127 = .ok (.iaload, 1) := by decide +kernel
theorem dX9_armOf_128 : decode cX9_armOf 128 = .ok (.ireturn, 1) := by decide +kernel
theorem dX9_armOf_129 : decode cX9_armOf 129 = .ok (.aload_n 0, 1) := by decide +kernel
theorem dX9_armOf_130 : decode cX9_armOf 130 = .ok (.bipush (-5), 2) := by decide +kernel
theorem dX9_armOf_132 : decode cX9_armOf 132 = .ok (.invokevirtual 136, 3) := by decide +kernel
theorem dX9_armOf_135 : decode cX9_armOf 135 = .ok (.ireturn, 1) := by decide +kernel
theorem dX9_dollOf_0 : decode cX9_dollOf 0 = .ok (.aload_n 0, 1) := by decide +kernel
theorem dX9_dollOf_1 : decode cX9_dollOf 1 = .ok (.iload_n 1, 1) := by decide +kernel
theorem dX9_dollOf_2 : decode cX9_dollOf 2 = .ok (.invokevirtual 184, 3) := by decide +kernel
theorem dX9_dollOf_5 : decode cX9_dollOf 5 = .ok (.ifCond .ne 10, 3) := by decide +kernel
theorem dX9_dollOf_8 : decode cX9_dollOf 8 = .ok (.aload_n 0, 1) := by decide +kernel
theorem dX9_dollOf_9 : decode cX9_dollOf 9 = .ok (.bipush (-5), 2) := by decide +kernel
theorem dX9_dollOf_11 : decode cX9_dollOf 11 = .ok (.invokevirtual 136, 3) := by decide +kernel
theorem dX9_dollOf_14 : decode cX9_dollOf 14 = .ok (.ireturn, 1) := by decide +kernel
theorem dX9_dollOf_15 : decode cX9_dollOf 15 = .ok (.iload_n 2, 1) := by decide +kernel
theorem dX9_dollOf_16 : decode cX9_dollOf 16 = .ok (.tableswitch 122 0 8 #[52, 59, 66, 73, 80, 87, 94, 101, 108], 52) := by decide +kernel
theorem dX9_dollOf_68 : decode cX9_dollOf 68 = .ok (.aload_n 0, 1) := by decide +kernel
theorem dX9_dollOf_69 : decode cX9_dollOf 69 = .ok (.getfield 41, 3) := by decide +kernel
theorem dX9_dollOf_72 : decode cX9_dollOf 72 = .ok (.iload_n 1, 1) := by decide +kernel
theorem dX9_dollOf_73 : decode cX9_dollOf 73 = .ok (.iaload, 1) := by decide +kernel
theorem dX9_dollOf_74 : decode cX9_dollOf 74 = .ok (.ireturn, 1) := by decide +kernel
theorem dX9_dollOf_75 : decode cX9_dollOf 75 = .ok (.aload_n 0, 1) := by decide +kernel
theorem dX9_dollOf_76 : decode cX9_dollOf 76 = .ok (.getfield 44, 3) := by decide +kernel
theorem dX9_dollOf_79 : decode cX9_dollOf 79 = .ok (.iload_n 1, 1) := by decide +kernel
theorem dX9_dollOf_80 : decode cX9_dollOf 80 = .ok (.iaload, 1) := by decide +kernel
theorem dX9_dollOf_81 : decode cX9_dollOf 81 = .ok (.ireturn, 1) := by decide +kernel
theorem dX9_dollOf_82 : decode cX9_dollOf 82 = .ok (.aload_n 0, 1) := by decide +kernel
theorem dX9_dollOf_83 : decode cX9_dollOf 83 = .ok (.getfield 47, 3) := by decide +kernel
theorem dX9_dollOf_86 : decode cX9_dollOf 86 = .ok (.iload_n 1, 1) := by decide +kernel
theorem dX9_dollOf_87 : decode cX9_dollOf 87 = .ok (.iaload, 1) := by decide +kernel
theorem dX9_dollOf_88 : decode cX9_dollOf 88 = .ok (.ireturn, 1) := by decide +kernel
theorem dX9_dollOf_89 : decode cX9_dollOf 89 = .ok (.aload_n 0, 1) := by decide +kernel
theorem dX9_dollOf_90 : decode cX9_dollOf 90 = .ok (.getfield 50, 3) := by decide +kernel
theorem dX9_dollOf_93 : decode cX9_dollOf 93 = .ok (.iload_n 1, 1) := by decide +kernel
theorem dX9_dollOf_94 : decode cX9_dollOf 94 = .ok (.iaload, 1) := by decide +kernel
theorem dX9_dollOf_95 : decode cX9_dollOf 95 = .ok (.ireturn, 1) := by decide +kernel
theorem dX9_dollOf_96 : decode cX9_dollOf 96 = .ok (.aload_n 0, 1) := by decide +kernel
theorem dX9_dollOf_97 : decode cX9_dollOf 97 = .ok (.getfield 53, 3) := by decide +kernel
theorem dX9_dollOf_100 : decode cX9_dollOf 100 = .ok (.iload_n 1, 1) := by decide +kernel
theorem dX9_dollOf_101 : decode cX9_dollOf 101 = .ok (.iaload, 1) := by decide +kernel
theorem dX9_dollOf_102 : decode cX9_dollOf 102 = .ok (.ireturn, 1) := by decide +kernel
theorem dX9_dollOf_103 : decode cX9_dollOf 103 = .ok (.aload_n 0, 1) := by decide +kernel
theorem dX9_dollOf_104 : decode cX9_dollOf 104 = .ok (.getfield 56, 3) := by decide +kernel
theorem dX9_dollOf_107 : decode cX9_dollOf 107 = .ok (.iload_n 1, 1) := by decide +kernel
theorem dX9_dollOf_108 : decode cX9_dollOf 108 = .ok (.iaload, 1) := by decide +kernel
theorem dX9_dollOf_109 : decode cX9_dollOf 109 = .ok (.ireturn, 1) := by decide +kernel
theorem dX9_dollOf_110 : decode cX9_dollOf 110 = .ok (.aload_n 0, 1) := by decide +kernel
theorem dX9_dollOf_111 : decode cX9_dollOf 111 = .ok (.getfield 59, 3) := by decide +kernel
theorem dX9_dollOf_114 : decode cX9_dollOf 114 = .ok (.iload_n 1, 1) := by decide +kernel
theorem dX9_dollOf_115 : decode cX9_dollOf 115 = .ok (.iaload, 1) := by decide +kernel
theorem dX9_dollOf_116 : decode cX9_dollOf 116 = .ok (.ireturn, 1) := by decide +kernel
theorem dX9_dollOf_117 : decode cX9_dollOf 117 = .ok (.aload_n 0, 1) := by decide +kernel
theorem dX9_dollOf_118 : decode cX9_dollOf 118 = .ok (.getfield 62, 3) := by decide +kernel
theorem dX9_dollOf_121 : decode cX9_dollOf 121 = .ok (.iload_n 1, 1) := by decide +kernel
theorem dX9_dollOf_122 : decode cX9_dollOf 122 = .ok (.iaload, 1) := by decide +kernel
theorem dX9_dollOf_123 : decode cX9_dollOf 123 = .ok (.ireturn, 1) := by decide +kernel
theorem dX9_dollOf_124 : decode cX9_dollOf 124 = .ok (.aload_n 0, 1) := by decide +kernel
theorem dX9_dollOf_125 : decode cX9_dollOf 125 = .ok (.iload_n 1, 1) := by decide +kernel
theorem dX9_dollOf_126 : decode cX9_dollOf 126 = .ok (.invokevirtual 187, 3) := by decide +kernel
theorem dX9_dollOf_129 : decode cX9_dollOf 129 = .ok (.ifCond .eq 7, 3) := by decide +kernel
theorem dX9_dollOf_132 : decode cX9_dollOf 132 = .ok (.iconst 1, 1) := by decide +kernel
theorem dX9_dollOf_133 : decode cX9_dollOf 133 = .ok (.goto 4, 3) := by decide +kernel
theorem dX9_dollOf_136 : decode cX9_dollOf 136 = .ok (.iconst 0, 1) := by decide +kernel
theorem dX9_dollOf_137 : decode cX9_dollOf 137 = .ok (.ireturn, 1) := by decide +kernel
theorem dX9_dollOf_138 : decode cX9_dollOf 138 = .ok (.aload_n 0, 1) := by decide +kernel
theorem dX9_dollOf_139 : decode cX9_dollOf 139 = .ok (.bipush (-5), 2) := by decide +kernel
theorem dX9_dollOf_141 : decode cX9_dollOf 141 = .ok (.invokevirtual 136, 3) := by decide +kernel
theorem dX9_dollOf_144 : decode cX9_dollOf 144 = .ok (.ireturn, 1) := by decide +kernel
theorem dX9_on_0 : decode cX9_on 0 = .ok (.aload_n 0, 1) := by decide +kernel
theorem dX9_on_1 : decode cX9_on 1 = .ok (.iload_n 1, 1) := by decide +kernel
theorem dX9_on_2 : decode cX9_on 2 = .ok (.invokevirtual 184, 3) := by decide +kernel
theorem dX9_on_5 : decode cX9_on 5 = .ok (.ifCond .ne 9, 3) := by decide +kernel
theorem dX9_on_8 : decode cX9_on 8 = .ok (.aload_n 0, 1) := by decide +kernel
theorem dX9_on_9 : decode cX9_on 9 = .ok (.iconst (-1), 1) := by decide +kernel
theorem dX9_on_10 : decode cX9_on 10 = .ok (.invokevirtual 190, 3) := by decide +kernel
theorem dX9_on_13 : decode cX9_on 13 = .ok (.ireturn, 1) := by decide +kernel
theorem dX9_on_14 : decode cX9_on 14 = .ok (.aload_n 0, 1) := by decide +kernel
theorem dX9_on_15 : decode cX9_on 15 = .ok (.iload_n 2, 1) := by decide +kernel
theorem dX9_on_16 : decode cX9_on 16 = .ok (.iconst 0, 1) := by decide +kernel
theorem dX9_on_17 : decode cX9_on 17 = .ok (.iconst 1, 1) := by decide +kernel
theorem dX9_on_18 : decode cX9_on 18 = .ok (.invokevirtual 172, 3) := by decide +kernel
theorem dX9_on_21 : decode cX9_on 21 = .ok (.ifCond .eq 12, 3) := by decide +kernel
theorem dX9_on_24 : decode cX9_on 24 = .ok (.aload_n 0, 1) := by decide +kernel
theorem dX9_on_25 : decode cX9_on 25 = .ok (.iload_n 1, 1) := by decide +kernel
theorem dX9_on_26 : decode cX9_on 26 = .ok (.iload_n 2, 1) := by decide +kernel
theorem dX9_on_27 : decode cX9_on 27 = .ok (.invokevirtual 160, 3) := by decide +kernel
theorem dX9_on_30 : decode cX9_on 30 = .ok (.goto 9, 3) := by decide +kernel
theorem dX9_on_33 : decode cX9_on 33 = .ok (.aload_n 0, 1) := by decide +kernel
theorem dX9_on_34 : decode cX9_on 34 = .ok (.bipush (-6), 2) := by decide +kernel
theorem dX9_on_36 : decode cX9_on 36 = .ok (.invokevirtual 190, 3) := by decide +kernel
theorem dX9_on_39 : decode cX9_on 39 = .ok (.ireturn, 1) := by decide +kernel
theorem dX9_wrong_0 : decode cX9_wrong 0 = .ok (.aload_n 0, 1) := by decide +kernel
theorem dX9_wrong_1 : decode cX9_wrong 1 = .ok (.iload_n 1, 1) := by decide +kernel
theorem dX9_wrong_2 : decode cX9_wrong 2 = .ok (.putfield 193, 3) := by decide +kernel
theorem dX9_wrong_5 : decode cX9_wrong 5 = .ok (.iconst 0, 1) := by decide +kernel
theorem dX9_wrong_6 : decode cX9_wrong 6 = .ok (.ireturn, 1) := by decide +kernel
theorem dX9_stands_0 : decode cX9_stands 0 = .ok (.iconst 0, 1) := by decide +kernel
theorem dX9_stands_1 : decode cX9_stands 1 = .ok (.istore_n 2, 1) := by decide +kernel
theorem dX9_stands_2 : decode cX9_stands 2 = .ok (.iconst 0, 1) := by decide +kernel
theorem dX9_stands_3 : decode cX9_stands 3 = .ok (.istore_n 3, 1) := by decide +kernel
theorem dX9_stands_4 : decode cX9_stands 4 = .ok (.iload_n 3, 1) := by decide +kernel
theorem dX9_stands_5 : decode cX9_stands 5 = .ok (.iload_n 1, 1) := by decide +kernel
theorem dX9_stands_6 : decode cX9_stands 6 = .ok (.if_icmp .ge 26, 3) := by decide +kernel
theorem dX9_stands_9 : decode cX9_stands 9 = .ok (.iload_n 3, 1) := by decide +kernel
theorem dX9_stands_10 : decode cX9_stands 10 = .ok (.aload_n 0, 1) := by decide +kernel
theorem dX9_stands_11 : decode cX9_stands 11 = .ok (.getfield 84, 3) := by decide +kernel
theorem dX9_stands_14 : decode cX9_stands 14 = .ok (.iload_n 2, 1) := by decide +kernel
theorem dX9_stands_15 : decode cX9_stands 15 = .ok (.iaload, 1) := by decide +kernel
theorem dX9_stands_16 : decode cX9_stands 16 = .ok (.ifCond .ne 7, 3) := by decide +kernel
theorem dX9_stands_19 : decode cX9_stands 19 = .ok (.iconst 1, 1) := by decide +kernel
theorem dX9_stands_20 : decode cX9_stands 20 = .ok (.goto 4, 3) := by decide +kernel
theorem dX9_stands_23 : decode cX9_stands 23 = .ok (.iconst 0, 1) := by decide +kernel
theorem dX9_stands_24 : decode cX9_stands 24 = .ok (.iadd, 1) := by decide +kernel
theorem dX9_stands_25 : decode cX9_stands 25 = .ok (.istore_n 3, 1) := by decide +kernel
theorem dX9_stands_26 : decode cX9_stands 26 = .ok (.iinc 2 1, 3) := by decide +kernel
theorem dX9_stands_29 : decode cX9_stands 29 = .ok (.goto (-25), 3) := by decide +kernel
theorem dX9_stands_32 : decode cX9_stands 32 = .ok (.aload_n 0, 1) := by decide +kernel
theorem dX9_stands_33 : decode cX9_stands 33 = .ok (.getfield 196, 3) := by decide +kernel
theorem dX9_stands_36 : decode cX9_stands 36 = .ok (.istore_n 3, 1) := by decide +kernel
theorem dX9_stands_37 : decode cX9_stands 37 = .ok (.aload_n 0, 1) := by decide +kernel
theorem dX9_stands_38 : decode cX9_stands 38 = .ok (.getfield 84, 3) := by decide +kernel
theorem dX9_stands_41 : decode cX9_stands 41 = .ok (.iload_n 2, 1) := by decide +kernel
theorem dX9_stands_42 : decode cX9_stands 42 = .ok (.iaload, 1) := by decide +kernel
theorem dX9_stands_43 : decode cX9_stands 43 = .ok (.bipush 32, 2) := by decide +kernel
theorem dX9_stands_45 : decode cX9_stands 45 = .ok (.if_icmp .le 41, 3) := by decide +kernel
theorem dX9_stands_48 : decode cX9_stands 48 = .ok (.iload_n 3, 1) := by decide +kernel
theorem dX9_stands_49 : decode cX9_stands 49 = .ok (.aload_n 0, 1) := by decide +kernel
theorem dX9_stands_50 : decode cX9_stands 50 = .ok (.getfield 199, 3) := by decide +kernel
theorem dX9_stands_53 : decode cX9_stands 53 = .ok (.if_icmp .ge 33, 3) := by decide +kernel
theorem dX9_stands_56 : decode cX9_stands 56 = .ok (.aload_n 0, 1) := by decide +kernel
theorem dX9_stands_57 : decode cX9_stands 57 = .ok (.getfield 77, 3) := by decide +kernel
theorem dX9_stands_60 : decode cX9_stands 60 = .ok (.aload_n 0, 1) := by decide +kernel
theorem dX9_stands_61 : decode cX9_stands 61 = .ok (.getfield 202, 3) := by decide +kernel
theorem dX9_stands_64 : decode cX9_stands 64 = .ok (.iload_n 3, 1) := by decide +kernel
theorem dX9_stands_65 : decode cX9_stands 65 = .ok (.iadd, 1) := by decide +kernel
theorem dX9_stands_66 : decode cX9_stands 66 = .ok (.laload, 1) := by decide +kernel
theorem dX9_stands_67 : decode cX9_stands 67 = .ok (.l2i, 1) := by decide +kernel
theorem dX9_stands_68 : decode cX9_stands 68 = .ok (.aload_n 0, 1) := by decide +kernel
theorem dX9_stands_69 : decode cX9_stands 69 = .ok (.getfield 84, 3) := by decide +kernel
theorem dX9_stands_72 : decode cX9_stands 72 = .ok (.iload_n 2, 1) := by decide +kernel
theorem dX9_stands_73 : decode cX9_stands 73 = .ok (.iaload, 1) := by decide +kernel
theorem dX9_stands_74 : decode cX9_stands 74 = .ok (.if_icmp .ne 12, 3) := by decide +kernel
theorem dX9_stands_77 : decode cX9_stands 77 = .ok (.iinc 3 1, 3) := by decide +kernel
theorem dX9_stands_80 : decode cX9_stands 80 = .ok (.iinc 2 1, 3) := by decide +kernel
theorem dX9_stands_83 : decode cX9_stands 83 = .ok (.goto (-46), 3) := by decide +kernel
theorem dX9_stands_86 : decode cX9_stands 86 = .ok (.aload_n 0, 1) := by decide +kernel
theorem dX9_stands_87 : decode cX9_stands 87 = .ok (.getfield 84, 3) := by decide +kernel
theorem dX9_stands_90 : decode cX9_stands 90 = .ok (.iload_n 2, 1) := by decide +kernel
theorem dX9_stands_91 : decode cX9_stands 91 = .ok (.iaload, 1) := by decide +kernel
theorem dX9_stands_92 : decode cX9_stands 92 = .ok (.bipush 32, 2) := by decide +kernel
theorem dX9_stands_94 : decode cX9_stands 94 = .ok (.if_icmp .gt 7, 3) := by decide +kernel
theorem dX9_stands_97 : decode cX9_stands 97 = .ok (.iconst 1, 1) := by decide +kernel
theorem dX9_stands_98 : decode cX9_stands 98 = .ok (.goto 4, 3) := by decide +kernel
theorem dX9_stands_101 : decode cX9_stands 101 = .ok (.iconst 0, 1) := by decide +kernel
theorem dX9_stands_102 : decode cX9_stands 102 = .ok (.ireturn, 1) := by decide +kernel
theorem dX9_word_0 : decode cX9_word 0 = .ok (.iconst 0, 1) := by decide +kernel
theorem dX9_word_1 : decode cX9_word 1 = .ok (.istore_n 1, 1) := by decide +kernel
theorem dX9_word_2 : decode cX9_word 2 = .ok (.aload_n 0, 1) := by decide +kernel
theorem dX9_word_3 : decode cX9_word 3 = .ok (.getfield 196, 3) := by decide +kernel
theorem dX9_word_6 : decode cX9_word 6 = .ok (.istore_n 2, 1) := by decide +kernel
theorem dX9_word_7 : decode cX9_word 7 = .ok (.iconst 0, 1) := by decide +kernel
theorem dX9_word_8 : decode cX9_word 8 = .ok (.istore_n 3, 1) := by decide +kernel
theorem dX9_word_9 : decode cX9_word 9 = .ok (.iload_n 3, 1) := by decide +kernel
theorem dX9_word_10 : decode cX9_word 10 = .ok (.iconst 5, 1) := by decide +kernel
theorem dX9_word_11 : decode cX9_word 11 = .ok (.if_icmp .ge 118, 3) := by decide +kernel
theorem dX9_word_14 : decode cX9_word 14 = .ok (.aload_n 0, 1) := by decide +kernel
theorem dX9_word_15 : decode cX9_word 15 = .ok (.getfield 196, 3) := by decide +kernel
theorem dX9_word_18 : decode cX9_word 18 = .ok (.istore 4, 2) := by decide +kernel
theorem dX9_word_20 : decode cX9_word 20 = .ok (.iload_n 1, 1) := by decide +kernel
theorem dX9_word_21 : decode cX9_word 21 = .ok (.istore 5, 2) := by decide +kernel
theorem dX9_word_23 : decode cX9_word 23 = .ok (.aload_n 0, 1) := by decide +kernel
theorem dX9_word_24 : decode cX9_word 24 = .ok (.getfield 84, 3) := by decide +kernel
theorem dX9_word_27 : decode cX9_word 27 = .ok (.iload 5, 2) := by decide +kernel
theorem dX9_word_29 : decode cX9_word 29 = .ok (.iaload, 1) := by decide +kernel
theorem dX9_word_30 : decode cX9_word 30 = .ok (.ifCond .eq 44, 3) := by decide +kernel
theorem dX9_word_33 : decode cX9_word 33 = .ok (.iload 4, 2) := by decide +kernel
theorem dX9_word_35 : decode cX9_word 35 = .ok (.aload_n 0, 1) := by decide +kernel
theorem dX9_word_36 : decode cX9_word 36 = .ok (.getfield 199, 3) := by decide +kernel
theorem dX9_word_39 : decode cX9_word 39 = .ok (.if_icmp .ge 35, 3) := by decide +kernel
theorem dX9_word_42 : decode cX9_word 42 = .ok (.aload_n 0, 1) := by decide +kernel
theorem dX9_word_43 : decode cX9_word 43 = .ok (.getfield 77, 3) := by decide +kernel
theorem dX9_word_46 : decode cX9_word 46 = .ok (.aload_n 0, 1) := by decide +kernel
theorem dX9_word_47 : decode cX9_word 47 = .ok (.getfield 202, 3) := by decide +kernel
theorem dX9_word_50 : decode cX9_word 50 = .ok (.iload 4, 2) := by decide +kernel
theorem dX9_word_52 : decode cX9_word 52 = .ok (.iadd, 1) := by decide +kernel
theorem dX9_word_53 : decode cX9_word 53 = .ok (.laload, 1) := by decide +kernel
theorem dX9_word_54 : decode cX9_word 54 = .ok (.l2i, 1) := by decide +kernel
theorem dX9_word_55 : decode cX9_word 55 = .ok (.aload_n 0, 1) := by decide +kernel
theorem dX9_word_56 : decode cX9_word 56 = .ok (.getfield 84, 3) := by decide +kernel
theorem dX9_word_59 : decode cX9_word 59 = .ok (.iload 5, 2) := by decide +kernel
theorem dX9_word_61 : decode cX9_word 61 = .ok (.iaload, 1) := by decide +kernel
theorem dX9_word_62 : decode cX9_word 62 = .ok (.if_icmp .ne 12, 3) := by decide +kernel
theorem dX9_word_65 : decode cX9_word 65 = .ok (.iinc 4 1, 3) := by decide +kernel
theorem dX9_word_68 : decode cX9_word 68 = .ok (.iinc 5 1, 3) := by decide +kernel
theorem dX9_word_71 : decode cX9_word 71 = .ok (.goto (-48), 3) := by decide +kernel
theorem dX9_word_74 : decode cX9_word 74 = .ok (.aload_n 0, 1) := by decide +kernel
theorem dX9_word_75 : decode cX9_word 75 = .ok (.getfield 84, 3) := by decide +kernel
theorem dX9_word_78 : decode cX9_word 78 = .ok (.iload 5, 2) := by decide +kernel
theorem dX9_word_80 : decode cX9_word 80 = .ok (.iaload, 1) := by decide +kernel
theorem dX9_word_81 : decode cX9_word 81 = .ok (.ifCond .ne 11, 3) := by decide +kernel
theorem dX9_word_84 : decode cX9_word 84 = .ok (.aload_n 0, 1) := by decide +kernel
theorem dX9_word_85 : decode cX9_word 85 = .ok (.iload 4, 2) := by decide +kernel
theorem dX9_word_87 : decode cX9_word 87 = .ok (.putfield 196, 3) := by decide +kernel
theorem dX9_word_90 : decode cX9_word 90 = .ok (.iload_n 3, 1) := by decide +kernel
theorem dX9_word_91 : decode cX9_word 91 = .ok (.ireturn, 1) := by decide +kernel
theorem dX9_word_92 : decode cX9_word 92 = .ok (.iload 4, 2) := by decide +kernel
theorem dX9_word_94 : decode cX9_word 94 = .ok (.iload_n 2, 1) := by decide +kernel
theorem dX9_word_95 : decode cX9_word 95 = .ok (.if_icmp .le 8, 3) := by decide +kernel
theorem dX9_word_98 : decode cX9_word 98 = .ok (.iload 4, 2) := by decide +kernel
theorem dX9_word_100 : decode cX9_word 100 = .ok (.goto 4, 3) := by decide +kernel
theorem dX9_word_103 : decode cX9_word 103 = .ok (.iload_n 2, 1) := by decide +kernel
theorem dX9_word_104 : decode cX9_word 104 = .ok (.istore_n 2, 1) := by decide +kernel
theorem dX9_word_105 : decode cX9_word 105 = .ok (.aload_n 0, 1) := by decide +kernel
theorem dX9_word_106 : decode cX9_word 106 = .ok (.getfield 84, 3) := by decide +kernel
theorem dX9_word_109 : decode cX9_word 109 = .ok (.iload_n 1, 1) := by decide +kernel
theorem dX9_word_110 : decode cX9_word 110 = .ok (.iaload, 1) := by decide +kernel
theorem dX9_word_111 : decode cX9_word 111 = .ok (.ifCond .eq 9, 3) := by decide +kernel
theorem dX9_word_114 : decode cX9_word 114 = .ok (.iinc 1 1, 3) := by decide +kernel
theorem dX9_word_117 : decode cX9_word 117 = .ok (.goto (-12), 3) := by decide +kernel
theorem dX9_word_120 : decode cX9_word 120 = .ok (.iinc 1 1, 3) := by decide +kernel
theorem dX9_word_123 : decode cX9_word 123 = .ok (.iinc 3 1, 3) := by decide +kernel
theorem dX9_word_126 : decode cX9_word 126 = .ok (.goto (-117), 3) := by decide +kernel
theorem dX9_word_129 : decode cX9_word 129 = .ok (.aload_n 0, 1) := by decide +kernel
theorem dX9_word_130 : decode cX9_word 130 = .ok (.iload_n 2, 1) := by decide +kernel
theorem dX9_word_131 : decode cX9_word 131 = .ok (.putfield 193, 3) := by decide +kernel
theorem dX9_word_134 : decode cX9_word 134 = .ok (.iconst (-1), 1) := by decide +kernel
theorem dX9_word_135 : decode cX9_word 135 = .ok (.ireturn, 1) := by decide +kernel
theorem dX9_isDigit_0 : decode cX9_isDigit 0 = .ok (.aload_n 0, 1) := by decide +kernel
theorem dX9_isDigit_1 : decode cX9_isDigit 1 = .ok (.getfield 196, 3) := by decide +kernel
theorem dX9_isDigit_4 : decode cX9_isDigit 4 = .ok (.aload_n 0, 1) := by decide +kernel
theorem dX9_isDigit_5 : decode cX9_isDigit 5 = .ok (.getfield 199, 3) := by decide +kernel
theorem dX9_isDigit_8 : decode cX9_isDigit 8 = .ok (.if_icmp .ge 47, 3) := by decide +kernel
theorem dX9_isDigit_11 : decode cX9_isDigit 11 = .ok (.aload_n 0, 1) := by decide +kernel
theorem dX9_isDigit_12 : decode cX9_isDigit 12 = .ok (.getfield 77, 3) := by decide +kernel
theorem dX9_isDigit_15 : decode cX9_isDigit 15 = .ok (.aload_n 0, 1) := by decide +kernel
theorem dX9_isDigit_16 : decode cX9_isDigit 16 = .ok (.getfield 202, 3) := by decide +kernel
theorem dX9_isDigit_19 : decode cX9_isDigit 19 = .ok (.aload_n 0, 1) := by decide +kernel
theorem dX9_isDigit_20 : decode cX9_isDigit 20 = .ok (.getfield 196, 3) := by decide +kernel
theorem dX9_isDigit_23 : decode cX9_isDigit 23 = .ok (.iadd, 1) := by decide +kernel
theorem dX9_isDigit_24 : decode cX9_isDigit 24 = .ok (.laload, 1) := by decide +kernel
theorem dX9_isDigit_25 : decode cX9_isDigit 25 = .ok (.l2i, 1) := by decide +kernel
theorem dX9_isDigit_26 : decode cX9_isDigit 26 = .ok (.bipush 48, 2) := by decide +kernel
theorem dX9_isDigit_28 : decode cX9_isDigit 28 = .ok (.if_icmp .lt 27, 3) := by decide +kernel
theorem dX9_isDigit_31 : decode cX9_isDigit 31 = .ok (.aload_n 0, 1) := by decide +kernel
theorem dX9_isDigit_32 : decode cX9_isDigit 32 = .ok (.getfield 77, 3) := by decide +kernel
theorem dX9_isDigit_35 : decode cX9_isDigit 35 = .ok (.aload_n 0, 1) := by decide +kernel
theorem dX9_isDigit_36 : decode cX9_isDigit 36 = .ok (.getfield 202, 3) := by decide +kernel
theorem dX9_isDigit_39 : decode cX9_isDigit 39 = .ok (.aload_n 0, 1) := by decide +kernel
theorem dX9_isDigit_40 : decode cX9_isDigit 40 = .ok (.getfield 196, 3) := by decide +kernel
theorem dX9_isDigit_43 : decode cX9_isDigit 43 = .ok (.iadd, 1) := by decide +kernel
theorem dX9_isDigit_44 : decode cX9_isDigit 44 = .ok (.laload, 1) := by decide +kernel
theorem dX9_isDigit_45 : decode cX9_isDigit 45 = .ok (.l2i, 1) := by decide +kernel
theorem dX9_isDigit_46 : decode cX9_isDigit 46 = .ok (.bipush 57, 2) := by decide +kernel
theorem dX9_isDigit_48 : decode cX9_isDigit 48 = .ok (.if_icmp .gt 7, 3) := by decide +kernel
theorem dX9_isDigit_51 : decode cX9_isDigit 51 = .ok (.iconst 1, 1) := by decide +kernel
theorem dX9_isDigit_52 : decode cX9_isDigit 52 = .ok (.goto 4, 3) := by decide +kernel
theorem dX9_isDigit_55 : decode cX9_isDigit 55 = .ok (.iconst 0, 1) := by decide +kernel
theorem dX9_isDigit_56 : decode cX9_isDigit 56 = .ok (.ireturn, 1) := by decide +kernel
theorem dX9_reads_0 : decode cX9_reads 0 = .ok (.aload_n 0, 1) := by decide +kernel
theorem dX9_reads_1 : decode cX9_reads 1 = .ok (.iconst 0, 1) := by decide +kernel
theorem dX9_reads_2 : decode cX9_reads 2 = .ok (.putfield 205, 3) := by decide +kernel
theorem dX9_reads_5 : decode cX9_reads 5 = .ok (.aload_n 0, 1) := by decide +kernel
theorem dX9_reads_6 : decode cX9_reads 6 = .ok (.invokevirtual 208, 3) := by decide +kernel
theorem dX9_reads_9 : decode cX9_reads 9 = .ok (.ifCond .ne 12, 3) := by decide +kernel
theorem dX9_reads_12 : decode cX9_reads 12 = .ok (.aload_n 0, 1) := by decide +kernel
theorem dX9_reads_13 : decode cX9_reads 13 = .ok (.aload_n 0, 1) := by decide +kernel
theorem dX9_reads_14 : decode cX9_reads 14 = .ok (.getfield 196, 3) := by decide +kernel
theorem dX9_reads_17 : decode cX9_reads 17 = .ok (.invokevirtual 212, 3) := by decide +kernel
theorem dX9_reads_20 : decode cX9_reads 20 = .ok (.ireturn, 1) := by decide +kernel
theorem dX9_reads_21 : decode cX9_reads 21 = .ok (.iconst 0, 1) := by decide +kernel
theorem dX9_reads_22 : decode cX9_reads 22 = .ok (.istore_n 1, 1) := by decide +kernel
theorem dX9_reads_23 : decode cX9_reads 23 = .ok (.iload_n 1, 1) := by decide +kernel
theorem dX9_reads_24 : decode cX9_reads 24 = .ok (.iconst 2, 1) := by decide +kernel
theorem dX9_reads_25 : decode cX9_reads 25 = .ok (.if_icmp .ge 56, 3) := by decide +kernel
theorem dX9_reads_28 : decode cX9_reads 28 = .ok (.aload_n 0, 1) := by decide +kernel
theorem dX9_reads_29 : decode cX9_reads 29 = .ok (.invokevirtual 208, 3) := by decide +kernel
theorem dX9_reads_32 : decode cX9_reads 32 = .ok (.ifCond .eq 49, 3) := by decide +kernel
theorem dX9_reads_35 : decode cX9_reads 35 = .ok (.aload_n 0, 1) := by decide +kernel
theorem dX9_reads_36 : decode cX9_reads 36 = .ok (.bipush 10, 2) := by decide +kernel
theorem dX9_reads_38 : decode cX9_reads 38 = .ok (.aload_n 0, 1) := by decide +kernel
theorem dX9_reads_39 : decode cX9_reads 39 = .ok (.getfield 205, 3) := by decide +kernel
theorem dX9_reads_42 : decode cX9_reads 42 = .ok (.imul, 1) := by decide +kernel
theorem dX9_reads_43 : decode cX9_reads 43 = .ok (.aload_n 0, 1) := by decide +kernel
theorem dX9_reads_44 : decode cX9_reads 44 = .ok (.getfield 77, 3) := by decide +kernel
theorem dX9_reads_47 : decode cX9_reads 47 = .ok (.aload_n 0, 1) := by decide +kernel
theorem dX9_reads_48 : decode cX9_reads 48 = .ok (.getfield 202, 3) := by decide +kernel
theorem dX9_reads_51 : decode cX9_reads 51 = .ok (.aload_n 0, 1) := by decide +kernel
theorem dX9_reads_52 : decode cX9_reads 52 = .ok (.getfield 196, 3) := by decide +kernel
theorem dX9_reads_55 : decode cX9_reads 55 = .ok (.iadd, 1) := by decide +kernel
theorem dX9_reads_56 : decode cX9_reads 56 = .ok (.laload, 1) := by decide +kernel
theorem dX9_reads_57 : decode cX9_reads 57 = .ok (.l2i, 1) := by decide +kernel
theorem dX9_reads_58 : decode cX9_reads 58 = .ok (.iadd, 1) := by decide +kernel
theorem dX9_reads_59 : decode cX9_reads 59 = .ok (.bipush 48, 2) := by decide +kernel
theorem dX9_reads_61 : decode cX9_reads 61 = .ok (.isub, 1) := by decide +kernel
theorem dX9_reads_62 : decode cX9_reads 62 = .ok (.putfield 205, 3) := by decide +kernel
theorem dX9_reads_65 : decode cX9_reads 65 = .ok (.aload_n 0, 1) := by decide +kernel
theorem dX9_reads_66 : decode cX9_reads 66 = .ok (.dup, 1) := by decide +kernel
theorem dX9_reads_67 : decode cX9_reads 67 = .ok (.getfield 196, 3) := by decide +kernel
theorem dX9_reads_70 : decode cX9_reads 70 = .ok (.iconst 1, 1) := by decide +kernel
theorem dX9_reads_71 : decode cX9_reads 71 = .ok (.iadd, 1) := by decide +kernel
theorem dX9_reads_72 : decode cX9_reads 72 = .ok (.putfield 196, 3) := by decide +kernel
theorem dX9_reads_75 : decode cX9_reads 75 = .ok (.iinc 1 1, 3) := by decide +kernel
theorem dX9_reads_78 : decode cX9_reads 78 = .ok (.goto (-55), 3) := by decide +kernel
theorem dX9_reads_81 : decode cX9_reads 81 = .ok (.iconst 1, 1) := by decide +kernel
theorem dX9_reads_82 : decode cX9_reads 82 = .ok (.ireturn, 1) := by decide +kernel
theorem dX9_isSo_0 : decode cX9_isSo 0 = .ok (.iload_n 1, 1) := by decide +kernel
theorem dX9_isSo_1 : decode cX9_isSo 1 = .ok (.ifCond .ne 22, 3) := by decide +kernel
theorem dX9_isSo_4 : decode cX9_isSo 4 = .ok (.aload_n 0, 1) := by decide +kernel
theorem dX9_isSo_5 : decode cX9_isSo 5 = .ok (.getfield 205, 3) := by decide +kernel
theorem dX9_isSo_8 : decode cX9_isSo 8 = .ok (.aload_n 0, 1) := by decide +kernel
theorem dX9_isSo_9 : decode cX9_isSo 9 = .ok (.getfield 90, 3) := by decide +kernel
theorem dX9_isSo_12 : decode cX9_isSo 12 = .ok (.iload_n 2, 1) := by decide +kernel
theorem dX9_isSo_13 : decode cX9_isSo 13 = .ok (.iaload, 1) := by decide +kernel
theorem dX9_isSo_14 : decode cX9_isSo 14 = .ok (.if_icmp .gt 7, 3) := by decide +kernel
theorem dX9_isSo_17 : decode cX9_isSo 17 = .ok (.iconst 1, 1) := by decide +kernel
theorem dX9_isSo_18 : decode cX9_isSo 18 = .ok (.goto 4, 3) := by decide +kernel
theorem dX9_isSo_21 : decode cX9_isSo 21 = .ok (.iconst 0, 1) := by decide +kernel
theorem dX9_isSo_22 : decode cX9_isSo 22 = .ok (.ireturn, 1) := by decide +kernel
theorem dX9_isSo_23 : decode cX9_isSo 23 = .ok (.iload_n 1, 1) := by decide +kernel
theorem dX9_isSo_24 : decode cX9_isSo 24 = .ok (.iconst 1, 1) := by decide +kernel
theorem dX9_isSo_25 : decode cX9_isSo 25 = .ok (.if_icmp .ne 28, 3) := by decide +kernel
theorem dX9_isSo_28 : decode cX9_isSo 28 = .ok (.aload_n 0, 1) := by decide +kernel
theorem dX9_isSo_29 : decode cX9_isSo 29 = .ok (.aload_n 0, 1) := by decide +kernel
theorem dX9_isSo_30 : decode cX9_isSo 30 = .ok (.getfield 205, 3) := by decide +kernel
theorem dX9_isSo_33 : decode cX9_isSo 33 = .ok (.iload_n 2, 1) := by decide +kernel
theorem dX9_isSo_34 : decode cX9_isSo 34 = .ok (.iconst 4, 1) := by decide +kernel
theorem dX9_isSo_35 : decode cX9_isSo 35 = .ok (.if_icmp .ne 7, 3) := by decide +kernel
theorem dX9_isSo_38 : decode cX9_isSo 38 = .ok (.iconst 1, 1) := by decide +kernel
theorem dX9_isSo_39 : decode cX9_isSo 39 = .ok (.goto 4, 3) := by decide +kernel
theorem dX9_isSo_42 : decode cX9_isSo 42 = .ok (.iconst 0, 1) := by decide +kernel
theorem dX9_isSo_43 : decode cX9_isSo 43 = .ok (.aload_n 0, 1) := by decide +kernel
theorem dX9_isSo_44 : decode cX9_isSo 44 = .ok (.getfield 93, 3) := by decide +kernel
theorem dX9_isSo_47 : decode cX9_isSo 47 = .ok (.iload_n 2, 1) := by decide +kernel
theorem dX9_isSo_48 : decode cX9_isSo 48 = .ok (.iaload, 1) := by decide +kernel
theorem dX9_isSo_49 : decode cX9_isSo 49 = .ok (.invokevirtual 172, 3) := by decide +kernel
theorem dX9_isSo_52 : decode cX9_isSo 52 = .ok (.ireturn, 1) := by decide +kernel
theorem dX9_isSo_53 : decode cX9_isSo 53 = .ok (.iload_n 1, 1) := by decide +kernel
theorem dX9_isSo_54 : decode cX9_isSo 54 = .ok (.iconst 4, 1) := by decide +kernel

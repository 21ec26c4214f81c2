theorem dX12_keep_231 : decode cX12_keep 231 = .ok (.putfield 184, 3) := by decide +kernel
theorem dX12_keep_234 : decode cX12_keep 234 = .ok (.aload_n 0, 1) := by decide +kernel
theorem dX12_keep_235 : decode cX12_keep 235 = .ok (.aload_n 0, 1) := by decide +kernel
theorem dX12_keep_236 : decode cX12_keep 236 = .ok (.getfield 59, 3) := by decide +kernel
theorem dX12_keep_239 : decode cX12_keep 239 = .ok (.putfield 187, 3) := by decide +kernel
theorem dX12_keep_242 : decode cX12_keep 242 = .ok (.return_, 1) := by decide +kernel
theorem dX12_takeBack_0 : decode cX12_takeBack 0 = .ok (.aload_n 0, 1) := by decide +kernel
theorem dX12_takeBack_1 : decode cX12_takeBack 1 = .ok (.aload_n 0, 1) := by decide +kernel
theorem dX12_takeBack_2 : decode cX12_takeBack 2 = .ok (.getfield 178, 3) := by decide +kernel
theorem dX12_takeBack_5 : decode cX12_takeBack 5 = .ok (.putfield 7, 3) := by decide +kernel
theorem dX12_takeBack_8 : decode cX12_takeBack 8 = .ok (.aload_n 0, 1) := by decide +kernel
theorem dX12_takeBack_9 : decode cX12_takeBack 9 = .ok (.aload_n 0, 1) := by decide +kernel
theorem dX12_takeBack_10 : decode cX12_takeBack 10 = .ok (.getfield 181, 3) := by decide +kernel
theorem dX12_takeBack_13 : decode cX12_takeBack 13 = .ok (.putfield 13, 3) := by decide +kernel
theorem dX12_takeBack_16 : decode cX12_takeBack 16 = .ok (.aload_n 0, 1) := by decide +kernel
theorem dX12_takeBack_17 : decode cX12_takeBack 17 = .ok (.aload_n 0, 1) := by decide +kernel
theorem dX12_takeBack_18 : decode cX12_takeBack 18 = .ok (.getfield 184, 3) := by decide +kernel
theorem dX12_takeBack_21 : decode cX12_takeBack 21 = .ok (.putfield 16, 3) := by decide +kernel
theorem dX12_takeBack_24 : decode cX12_takeBack 24 = .ok (.aload_n 0, 1) := by decide +kernel
theorem dX12_takeBack_25 : decode cX12_takeBack 25 = .ok (.aload_n 0, 1) := by decide +kernel
theorem dX12_takeBack_26 : decode cX12_takeBack 26 = .ok (.getfield 187, 3) := by decide +kernel
theorem dX12_takeBack_29 : decode cX12_takeBack 29 = .ok (.putfield 59, 3) := by decide +kernel
theorem dX12_takeBack_32 : decode cX12_takeBack 32 = .ok (.iconst 0, 1) := by decide +kernel
theorem dX12_takeBack_33 : decode cX12_takeBack 33 = .ok (.istore_n 1, 1) := by decide +kernel
theorem dX12_takeBack_34 : decode cX12_takeBack 34 = .ok (.iload_n 1, 1) := by decide +kernel
theorem dX12_takeBack_35 : decode cX12_takeBack 35 = .ok (.aload_n 0, 1) := by decide +kernel
theorem dX12_takeBack_36 : decode cX12_takeBack 36 = .ok (.getfield 7, 3) := by decide +kernel
theorem dX12_takeBack_39 : decode cX12_takeBack 39 = .ok (.if_icmp .ge 45, 3) := by decide +kernel
theorem dX12_takeBack_42 : decode cX12_takeBack 42 = .ok (.aload_n 0, 1) := by decide +kernel
theorem dX12_takeBack_43 : decode cX12_takeBack 43 = .ok (.getfield 38, 3) := by decide +kernel
theorem dX12_takeBack_46 : decode cX12_takeBack 46 = .ok (.iload_n 1, 1) := by decide +kernel
theorem dX12_takeBack_47 : decode cX12_takeBack 47 = .ok (.aload_n 0, 1) := by decide +kernel
theorem dX12_takeBack_48 : decode cX12_takeBack 48 = .ok (.getfield 154, 3) := by decide +kernel
theorem dX12_takeBack_51 : decode cX12_takeBack 51 = .ok (.iload_n 1, 1) := by decide +kernel
theorem dX12_takeBack_52 : decode cX12_takeBack 52 = .ok (.iaload, 1) := by decide +kernel
theorem dX12_takeBack_53 : decode cX12_takeBack 53 = .ok (.iastore, 1) := by decide +kernel
theorem dX12_takeBack_54 : decode cX12_takeBack 54 = .ok (.aload_n 0, 1) := by decide +kernel
theorem dX12_takeBack_55 : decode cX12_takeBack 55 = .ok (.getfield 41, 3) := by decide +kernel
theorem dX12_takeBack_58 : decode cX12_takeBack 58 = .ok (.iload_n 1, 1) := by decide +kernel
theorem dX12_takeBack_59 : decode cX12_takeBack 59 = .ok (.aload_n 0, 1) := by decide +kernel
theorem dX12_takeBack_60 : decode cX12_takeBack 60 = .ok (.getfield 157, 3) := by decide +kernel
theorem dX12_takeBack_63 : decode cX12_takeBack 63 = .ok (.iload_n 1, 1) := by decide +kernel
theorem dX12_takeBack_64 : decode cX12_takeBack 64 = .ok (.iaload, 1) := by decide +kernel
theorem dX12_takeBack_65 : decode cX12_takeBack 65 = .ok (.iastore, 1) := by decide +kernel
theorem dX12_takeBack_66 : decode cX12_takeBack 66 = .ok (.aload_n 0, 1) := by decide +kernel
theorem dX12_takeBack_67 : decode cX12_takeBack 67 = .ok (.getfield 44, 3) := by decide +kernel
theorem dX12_takeBack_70 : decode cX12_takeBack 70 = .ok (.iload_n 1, 1) := by decide +kernel
theorem dX12_takeBack_71 : decode cX12_takeBack 71 = .ok (.aload_n 0, 1) := by decide +kernel
theorem dX12_takeBack_72 : decode cX12_takeBack 72 = .ok (.getfield 160, 3) := by decide +kernel
theorem dX12_takeBack_75 : decode cX12_takeBack 75 = .ok (.iload_n 1, 1) := by decide +kernel
theorem dX12_takeBack_76 : decode cX12_takeBack 76 = .ok (.iaload, 1) := by decide +kernel
theorem dX12_takeBack_77 : decode cX12_takeBack 77 = .ok (.iastore, 1) := by decide +kernel
theorem dX12_takeBack_78 : decode cX12_takeBack 78 = .ok (.iinc 1 1, 3) := by decide +kernel
theorem dX12_takeBack_81 : decode cX12_takeBack 81 = .ok (.goto (-47), 3) := by decide +kernel
theorem dX12_takeBack_84 : decode cX12_takeBack 84 = .ok (.iconst 0, 1) := by decide +kernel
theorem dX12_takeBack_85 : decode cX12_takeBack 85 = .ok (.istore_n 1, 1) := by decide +kernel
theorem dX12_takeBack_86 : decode cX12_takeBack 86 = .ok (.iload_n 1, 1) := by decide +kernel
theorem dX12_takeBack_87 : decode cX12_takeBack 87 = .ok (.aload_n 0, 1) := by decide +kernel
theorem dX12_takeBack_88 : decode cX12_takeBack 88 = .ok (.getfield 211, 3) := by decide +kernel
theorem dX12_takeBack_91 : decode cX12_takeBack 91 = .ok (.if_icmp .ge 33, 3) := by decide +kernel
theorem dX12_takeBack_94 : decode cX12_takeBack 94 = .ok (.aload_n 0, 1) := by decide +kernel
theorem dX12_takeBack_95 : decode cX12_takeBack 95 = .ok (.getfield 47, 3) := by decide +kernel
theorem dX12_takeBack_98 : decode cX12_takeBack 98 = .ok (.iload_n 1, 1) := by decide +kernel
theorem dX12_takeBack_99 : decode cX12_takeBack 99 = .ok (.aload_n 0, 1) := by decide +kernel
theorem dX12_takeBack_100 : decode cX12_takeBack 100 = .ok (.getfield 163, 3) := by decide +kernel
theorem dX12_takeBack_103 : decode cX12_takeBack 103 = .ok (.iload_n 1, 1) := by decide +kernel
theorem dX12_takeBack_104 : decode cX12_takeBack 104 = .ok (.iaload, 1) := by decide +kernel
theorem dX12_takeBack_105 : decode cX12_takeBack 105 = .ok (.iastore, 1) := by decide +kernel
theorem dX12_takeBack_106 : decode cX12_takeBack 106 = .ok (.aload_n 0, 1) := by decide +kernel
theorem dX12_takeBack_107 : decode cX12_takeBack 107 = .ok (.getfield 50, 3) := by decide +kernel
theorem dX12_takeBack_110 : decode cX12_takeBack 110 = .ok (.iload_n 1, 1) := by decide +kernel
theorem dX12_takeBack_111 : decode cX12_takeBack 111 = .ok (.aload_n 0, 1) := by decide +kernel
theorem dX12_takeBack_112 : decode cX12_takeBack 112 = .ok (.getfield 166, 3) := by decide +kernel
theorem dX12_takeBack_115 : decode cX12_takeBack 115 = .ok (.iload_n 1, 1) := by decide +kernel
theorem dX12_takeBack_116 : decode cX12_takeBack 116 = .ok (.iaload, 1) := by decide +kernel
theorem dX12_takeBack_117 : decode cX12_takeBack 117 = .ok (.iastore, 1) := by decide +kernel
theorem dX12_takeBack_118 : decode cX12_takeBack 118 = .ok (.iinc 1 1, 3) := by decide +kernel
theorem dX12_takeBack_121 : decode cX12_takeBack 121 = .ok (.goto (-35), 3) := by decide +kernel
theorem dX12_takeBack_124 : decode cX12_takeBack 124 = .ok (.iconst 0, 1) := by decide +kernel
theorem dX12_takeBack_125 : decode cX12_takeBack 125 = .ok (.istore_n 1, 1) := by decide +kernel
theorem dX12_takeBack_126 : decode cX12_takeBack 126 = .ok (.iload_n 1, 1) := by decide +kernel
theorem dX12_takeBack_127 : decode cX12_takeBack 127 = .ok (.aload_n 0, 1) := by decide +kernel
theorem dX12_takeBack_128 : decode cX12_takeBack 128 = .ok (.getfield 59, 3) := by decide +kernel
theorem dX12_takeBack_131 : decode cX12_takeBack 131 = .ok (.if_icmp .ge 21, 3) := by decide +kernel
theorem dX12_takeBack_134 : decode cX12_takeBack 134 = .ok (.aload_n 0, 1) := by decide +kernel
theorem dX12_takeBack_135 : decode cX12_takeBack 135 = .ok (.getfield 53, 3) := by decide +kernel
theorem dX12_takeBack_138 : decode cX12_takeBack 138 = .ok (.iload_n 1, 1) := by decide +kernel
theorem dX12_takeBack_139 : decode cX12_takeBack 139 = .ok (.aload_n 0, 1) := by decide +kernel
theorem dX12_takeBack_140 : decode cX12_takeBack 140 = .ok (.getfield 169, 3) := by decide +kernel
theorem dX12_takeBack_143 : decode cX12_takeBack 143 = .ok (.iload_n 1, 1) := by decide +kernel
theorem dX12_takeBack_144 : decode cX12_takeBack 144 = .ok (.iaload, 1) := by decide +kernel
theorem dX12_takeBack_145 : decode cX12_takeBack 145 = .ok (.iastore, 1) := by decide +kernel
theorem dX12_takeBack_146 : decode cX12_takeBack 146 = .ok (.iinc 1 1, 3) := by decide +kernel
theorem dX12_takeBack_149 : decode cX12_takeBack 149 = .ok (.goto (-23), 3) := by decide +kernel
theorem dX12_takeBack_152 : decode cX12_takeBack 152 = .ok (.iconst 0, 1) := by decide +kernel
theorem dX12_takeBack_153 : decode cX12_takeBack 153 = .ok (.istore_n 1, 1) := by decide +kernel
theorem dX12_takeBack_154 : decode cX12_takeBack 154 = .ok (.iload_n 1, 1) := by decide +kernel
theorem dX12_takeBack_155 : decode cX12_takeBack 155 = .ok (.aload_n 0, 1) := by decide +kernel
theorem dX12_takeBack_156 : decode cX12_takeBack 156 = .ok (.getfield 62, 3) := by decide +kernel
theorem dX12_takeBack_159 : decode cX12_takeBack 159 = .ok (.if_icmp .ge 83, 3) := by decide +kernel
theorem dX12_takeBack_162 : decode cX12_takeBack 162 = .ok (.aload_n 0, 1) := by decide +kernel
theorem dX12_takeBack_163 : decode cX12_takeBack 163 = .ok (.getfield 86, 3) := by decide +kernel
theorem dX12_takeBack_166 : decode cX12_takeBack 166 = .ok (.iload_n 1, 1) := by decide +kernel
theorem dX12_takeBack_167 : decode cX12_takeBack 167 = .ok (.aload_n 0, 1) := by decide +kernel
theorem dX12_takeBack_168 : decode cX12_takeBack 168 = .ok (.getfield 175, 3) := by decide +kernel
theorem dX12_takeBack_171 : decode cX12_takeBack 171 = .ok (.iload_n 1, 1) := by decide +kernel
theorem dX12_takeBack_172 : decode cX12_takeBack 172 = .ok (.baload, 1) := by decide +kernel
theorem dX12_takeBack_173 : decode cX12_takeBack 173 = .ok (.bastore, 1) := by decide +kernel
theorem dX12_takeBack_174 : decode cX12_takeBack 174 = .ok (.aload_n 0, 1) := by decide +kernel
theorem dX12_takeBack_175 : decode cX12_takeBack 175 = .ok (.getfield 71, 3) := by decide +kernel
theorem dX12_takeBack_178 : decode cX12_takeBack 178 = .ok (.iload_n 1, 1) := by decide +kernel
theorem dX12_takeBack_179 : decode cX12_takeBack 179 = .ok (.aload_n 0, 1) := by decide +kernel
theorem dX12_takeBack_180 : decode cX12_takeBack 180 = .ok (.getfield 172, 3) := by decide +kernel
theorem dX12_takeBack_183 : decode cX12_takeBack 183 = .ok (.iconst 5, 1) := by decide +kernel
theorem dX12_takeBack_184 : decode cX12_takeBack 184 = .ok (.iload_n 1, 1) := by decide +kernel
theorem dX12_takeBack_185 : decode cX12_takeBack 185 = .ok (.imul, 1) := by decide +kernel
theorem dX12_takeBack_186 : decode cX12_takeBack 186 = .ok (.iaload, 1) := by decide +kernel
theorem dX12_takeBack_187 : decode cX12_takeBack 187 = .ok (.iastore, 1) := by decide +kernel
theorem dX12_takeBack_188 : decode cX12_takeBack 188 = .ok (.aload_n 0, 1) := by decide +kernel
theorem dX12_takeBack_189 : decode cX12_takeBack 189 = .ok (.getfield 74, 3) := by decide +kernel
theorem dX12_takeBack_192 : decode cX12_takeBack 192 = .ok (.iload_n 1, 1) := by decide +kernel
theorem dX12_takeBack_193 : decode cX12_takeBack 193 = .ok (.aload_n 0, 1) := by decide +kernel
theorem dX12_takeBack_194 : decode cX12_takeBack 194 = .ok (.getfield 172, 3) := by decide +kernel
theorem dX12_takeBack_197 : decode cX12_takeBack 197 = .ok (.iconst 5, 1) := by decide +kernel
theorem dX12_takeBack_198 : decode cX12_takeBack 198 = .ok (.iload_n 1, 1) := by decide +kernel
theorem dX12_takeBack_199 : decode cX12_takeBack 199 = .ok (.imul, 1) := by decide +kernel
theorem dX12_takeBack_200 : decode cX12_takeBack 200 = .ok (.iconst 1, 1) := by decide +kernel
theorem dX12_takeBack_201 : decode cX12_takeBack 201 = .ok (.iadd, 1) := by decide +kernel
theorem dX12_takeBack_202 : decode cX12_takeBack 202 = .ok (.iaload, 1) := by decide +kernel
theorem dX12_takeBack_203 : decode cX12_takeBack 203 = .ok (.iastore, 1) := by decide +kernel
theorem dX12_takeBack_204 : decode cX12_takeBack 204 = .ok (.aload_n 0, 1) := by decide +kernel
theorem dX12_takeBack_205 : decode cX12_takeBack 205 = .ok (.getfield 77, 3) := by decide +kernel
theorem dX12_takeBack_208 : decode cX12_takeBack 208 = .ok (.iload_n 1, 1) := by decide +kernel
theorem dX12_takeBack_209 : decode cX12_takeBack 209 = .ok (.aload_n 0, 1) := by decide +kernel
theorem dX12_takeBack_210 : decode cX12_takeBack 210 = .ok (.getfield 172, 3) := by decide +kernel
theorem dX12_takeBack_213 : decode cX12_takeBack 213 = .ok (.iconst 5, 1) := by decide +kernel
theorem dX12_takeBack_214 : decode cX12_takeBack 214 = .ok (.iload_n 1, 1) := by decide +kernel
theorem dX12_takeBack_215 : decode cX12_takeBack 215 = .ok (.imul, 1) := by decide +kernel
theorem dX12_takeBack_216 : decode cX12_takeBack 216 = .ok (.iconst 2, 1) := by decide +kernel
theorem dX12_takeBack_217 : decode cX12_takeBack 217 = .ok (.iadd, 1) := by decide +kernel
theorem dX12_takeBack_218 : decode cX12_takeBack 218 = .ok (.iaload, 1) := by decide +kernel
theorem dX12_takeBack_219 : decode cX12_takeBack 219 = .ok (.iastore, 1) := by decide +kernel
theorem dX12_takeBack_220 : decode cX12_takeBack 220 = .ok (.aload_n 0, 1) := by decide +kernel
theorem dX12_takeBack_221 : decode cX12_takeBack 221 = .ok (.getfield 80, 3) := by decide +kernel
theorem dX12_takeBack_224 : decode cX12_takeBack 224 = .ok (.iload_n 1, 1) := by decide +kernel
theorem dX12_takeBack_225 : decode cX12_takeBack 225 = .ok (.aload_n 0, 1) := by decide +kernel
theorem dX12_takeBack_226 : decode cX12_takeBack 226 = .ok (.getfield 172, 3) := by decide +kernel
theorem dX12_takeBack_229 : decode cX12_takeBack 229 = .ok (.iconst 5, 1) := by decide +kernel
theorem dX12_takeBack_230 : decode cX12_takeBack 230 = .ok (.iload_n 1, 1) := by decide +kernel
theorem dX12_takeBack_231 : decode cX12_takeBack 231 = .ok (.imul, 1) := by decide +kernel
theorem dX12_takeBack_232 : decode cX12_takeBack 232 = .ok (.iconst 3, 1) := by decide +kernel
theorem dX12_takeBack_233 : decode cX12_takeBack 233 = .ok (.iadd, 1) := by decide +kernel
theorem dX12_takeBack_234 : decode cX12_takeBack 234 = .ok (.iaload, 1) := by decide +kernel
theorem dX12_takeBack_235 : decode cX12_takeBack 235 = .ok (.iastore, 1) := by decide +kernel
theorem dX12_takeBack_236 : decode cX12_takeBack 236 = .ok (.iinc 1 1, 3) := by decide +kernel
theorem dX12_takeBack_239 : decode cX12_takeBack 239 = .ok (.goto (-85), 3) := by decide +kernel
theorem dX12_takeBack_242 : decode cX12_takeBack 242 = .ok (.return_, 1) := by decide +kernel
theorem dX12_choice_0 : decode cX12_choice 0 = .ok (.iload_n 1, 1) := by decide +kernel
theorem dX12_choice_1 : decode cX12_choice 1 = .ok (.istore 4, 2) := by decide +kernel
theorem dX12_choice_3 : decode cX12_choice 3 = .ok (.iload_n 2, 1) := by decide +kernel
theorem dX12_choice_4 : decode cX12_choice 4 = .ok (.iconst 1, 1) := by decide +kernel
theorem dX12_choice_5 : decode cX12_choice 5 = .ok (.isub, 1) := by decide +kernel
theorem dX12_choice_6 : decode cX12_choice 6 = .ok (.istore 5, 2) := by decide +kernel
theorem dX12_choice_8 : decode cX12_choice 8 = .ok (.iload 5, 2) := by decide +kernel
theorem dX12_choice_10 : decode cX12_choice 10 = .ok (.iload_n 3, 1) := by decide +kernel
theorem dX12_choice_11 : decode cX12_choice 11 = .ok (.if_icmp .le 16, 3) := by decide +kernel
theorem dX12_choice_14 : decode cX12_choice 14 = .ok (.iload 4, 2) := by decide +kernel
theorem dX12_choice_16 : decode cX12_choice 16 = .ok (.bipush 7, 2) := by decide +kernel
theorem dX12_choice_18 : decode cX12_choice 18 = .ok (.idiv, 1) := by decide +kernel
theorem dX12_choice_19 : decode cX12_choice 19 = .ok (.istore 4, 2) := by decide +kernel
theorem dX12_choice_21 : decode cX12_choice 21 = .ok (.iinc 5 (-1), 3) := by decide +kernel
theorem dX12_choice_24 : decode cX12_choice 24 = .ok (.goto (-16), 3) := by decide +kernel
theorem dX12_choice_27 : decode cX12_choice 27 = .ok (.iload 4, 2) := by decide +kernel
theorem dX12_choice_29 : decode cX12_choice 29 = .ok (.bipush 7, 2) := by decide +kernel
theorem dX12_choice_31 : decode cX12_choice 31 = .ok (.irem, 1) := by decide +kernel
theorem dX12_choice_32 : decode cX12_choice 32 = .ok (.ireturn, 1) := by decide +kernel
theorem dX12_lookAhead_0 : decode cX12_lookAhead 0 = .ok (.iconst 1, 1) := by decide +kernel
theorem dX12_lookAhead_1 : decode cX12_lookAhead 1 = .ok (.istore_n 3, 1) := by decide +kernel
theorem dX12_lookAhead_2 : decode cX12_lookAhead 2 = .ok (.iconst 0, 1) := by decide +kernel
theorem dX12_lookAhead_3 : decode cX12_lookAhead 3 = .ok (.istore 4, 2) := by decide +kernel
theorem dX12_lookAhead_5 : decode cX12_lookAhead 5 = .ok (.iload 4, 2) := by decide +kernel
theorem dX12_lookAhead_7 : decode cX12_lookAhead 7 = .ok (.iload_n 1, 1) := by decide +kernel
theorem dX12_lookAhead_8 : decode cX12_lookAhead 8 = .ok (.if_icmp .ge 14, 3) := by decide +kernel
theorem dX12_lookAhead_11 : decode cX12_lookAhead 11 = .ok (.iload_n 3, 1) := by decide +kernel
theorem dX12_lookAhead_12 : decode cX12_lookAhead 12 = .ok (.bipush 7, 2) := by decide +kernel
theorem dX12_lookAhead_14 : decode cX12_lookAhead 14 = .ok (.imul, 1) := by decide +kernel
theorem dX12_lookAhead_15 : decode cX12_lookAhead 15 = .ok (.istore_n 3, 1) := by decide +kernel
theorem dX12_lookAhead_16 : decode cX12_lookAhead 16 = .ok (.iinc 4 1, 3) := by decide +kernel
theorem dX12_lookAhead_19 : decode cX12_lookAhead 19 = .ok (.goto (-14), 3) := by decide +kernel
theorem dX12_lookAhead_22 : decode cX12_lookAhead 22 = .ok (.aload_n 0, 1) := by decide +kernel
theorem dX12_lookAhead_23 : decode cX12_lookAhead 23 = .ok (.invokevirtual 364, 3) := by decide +kernel
theorem dX12_lookAhead_26 : decode cX12_lookAhead 26 = .ok (.iconst 0, 1) := by decide +kernel
theorem dX12_lookAhead_27 : decode cX12_lookAhead 27 = .ok (.istore 4, 2) := by decide +kernel
theorem dX12_lookAhead_29 : decode cX12_lookAhead 29 = .ok (.iload 4, 2) := by decide +kernel
theorem dX12_lookAhead_31 : decode cX12_lookAhead 31 = .ok (.iload_n 3, 1) := by decide +kernel
theorem dX12_lookAhead_32 : decode cX12_lookAhead 32 = .ok (.if_icmp .ge 136, 3) := by decide +kernel
theorem dX12_lookAhead_35 : decode cX12_lookAhead 35 = .ok (.aload_n 0, 1) := by decide +kernel
theorem dX12_lookAhead_36 : decode cX12_lookAhead 36 = .ok (.iconst 0, 1) := by decide +kernel
theorem dX12_lookAhead_37 : decode cX12_lookAhead 37 = .ok (.putfield 148, 3) := by decide +kernel
theorem dX12_lookAhead_40 : decode cX12_lookAhead 40 = .ok (.aload_n 0, 1) := by decide +kernel
theorem dX12_lookAhead_41 : decode cX12_lookAhead 41 = .ok (.iconst 0, 1) := by decide +kernel
theorem dX12_lookAhead_42 : decode cX12_lookAhead 42 = .ok (.putfield 151, 3) := by decide +kernel
theorem dX12_lookAhead_45 : decode cX12_lookAhead 45 = .ok (.iconst 0, 1) := by decide +kernel
theorem dX12_lookAhead_46 : decode cX12_lookAhead 46 = .ok (.istore 5, 2) := by decide +kernel
theorem dX12_lookAhead_48 : decode cX12_lookAhead 48 = .ok (.iload 5, 2) := by decide +kernel
theorem dX12_lookAhead_50 : decode cX12_lookAhead 50 = .ok (.iload_n 1, 1) := by decide +kernel
theorem dX12_lookAhead_51 : decode cX12_lookAhead 51 = .ok (.if_icmp .ge 43, 3) := by decide +kernel
theorem dX12_lookAhead_54 : decode cX12_lookAhead 54 = .ok (.aload_n 0, 1) := by decide +kernel
theorem dX12_lookAhead_55 : decode cX12_lookAhead 55 = .ok (.iload 4, 2) := by decide +kernel
theorem dX12_lookAhead_57 : decode cX12_lookAhead 57 = .ok (.iload_n 1, 1) := by decide +kernel
theorem dX12_lookAhead_58 : decode cX12_lookAhead 58 = .ok (.iload 5, 2) := by decide +kernel
theorem dX12_lookAhead_60 : decode cX12_lookAhead 60 = .ok (.invokevirtual 367, 3) := by decide +kernel
theorem dX12_lookAhead_63 : decode cX12_lookAhead 63 = .ok (.istore 6, 2) := by decide +kernel
theorem dX12_lookAhead_65 : decode cX12_lookAhead 65 = .ok (.iload 6, 2) := by decide +kernel
theorem dX12_lookAhead_67 : decode cX12_lookAhead 67 = .ok (.bipush 6, 2) := by decide +kernel
theorem dX12_lookAhead_69 : decode cX12_lookAhead 69 = .ok (.if_icmp .ge 12, 3) := by decide +kernel
theorem dX12_lookAhead_72 : decode cX12_lookAhead 72 = .ok (.aload_n 0, 1) := by decide +kernel
theorem dX12_lookAhead_73 : decode cX12_lookAhead 73 = .ok (.iload 6, 2) := by decide +kernel
theorem dX12_lookAhead_75 : decode cX12_lookAhead 75 = .ok (.invokevirtual 370, 3) := by decide +kernel
theorem dX12_lookAhead_78 : decode cX12_lookAhead 78 = .ok (.goto 4, 3) := by decide +kernel
theorem dX12_lookAhead_81 : decode cX12_lookAhead 81 = .ok (.iconst (-1), 1) := by decide +kernel
theorem dX12_lookAhead_82 : decode cX12_lookAhead 82 = .ok (.istore 7, 2) := by decide +kernel
theorem dX12_lookAhead_84 : decode cX12_lookAhead 84 = .ok (.aload_n 0, 1) := by decide +kernel
theorem dX12_lookAhead_85 : decode cX12_lookAhead 85 = .ok (.invokevirtual 358, 3) := by decide +kernel
theorem dX12_lookAhead_88 : decode cX12_lookAhead 88 = .ok (.iinc 5 1, 3) := by decide +kernel
theorem dX12_lookAhead_91 : decode cX12_lookAhead 91 = .ok (.goto (-43), 3) := by decide +kernel
theorem dX12_lookAhead_94 : decode cX12_lookAhead 94 = .ok (.iconst 0, 1) := by decide +kernel
theorem dX12_lookAhead_95 : decode cX12_lookAhead 95 = .ok (.istore 5, 2) := by decide +kernel
theorem dX12_lookAhead_97 : decode cX12_lookAhead 97 = .ok (.iload 5, 2) := by decide +kernel
theorem dX12_lookAhead_99 : decode cX12_lookAhead 99 = .ok (.iload_n 2, 1) := by decide +kernel
theorem dX12_lookAhead_100 : decode cX12_lookAhead 100 = .ok (.if_icmp .ge 13, 3) := by decide +kernel
theorem dX12_lookAhead_103 : decode cX12_lookAhead 103 = .ok (.aload_n 0, 1) := by decide +kernel
theorem dX12_lookAhead_104 : decode cX12_lookAhead 104 = .ok (.invokevirtual 358, 3) := by decide +kernel
theorem dX12_lookAhead_107 : decode cX12_lookAhead 107 = .ok (.iinc 5 1, 3) := by decide +kernel
theorem dX12_lookAhead_110 : decode cX12_lookAhead 110 = .ok (.goto (-13), 3) := by decide +kernel
theorem dX12_lookAhead_113 : decode cX12_lookAhead 113 = .ok (.aload_n 0, 1) := by decide +kernel
theorem dX12_lookAhead_114 : decode cX12_lookAhead 114 = .ok (.getfield 148, 3) := by decide +kernel
theorem dX12_lookAhead_117 : decode cX12_lookAhead 117 = .ok (.aload_n 0, 1) := by decide +kernel
theorem dX12_lookAhead_118 : decode cX12_lookAhead 118 = .ok (.getfield 19, 3) := by decide +kernel
theorem dX12_lookAhead_121 : decode cX12_lookAhead 121 = .ok (.aload_n 0, 1) := by decide +kernel
theorem dX12_lookAhead_122 : decode cX12_lookAhead 122 = .ok (.getfield 151, 3) := by decide +kernel
theorem dX12_lookAhead_125 : decode cX12_lookAhead 125 = .ok (.imul, 1) := by decide +kernel
theorem dX12_lookAhead_126 : decode cX12_lookAhead 126 = .ok (.isub, 1) := by decide +kernel
theorem dX12_lookAhead_127 : decode cX12_lookAhead 127 = .ok (.istore 5, 2) := by decide +kernel
theorem dX12_lookAhead_129 : decode cX12_lookAhead 129 = .ok (.aload_n 0, 1) := by decide +kernel
theorem dX12_lookAhead_130 : decode cX12_lookAhead 130 = .ok (.invokevirtual 373, 3) := by decide +kernel
theorem dX12_lookAhead_133 : decode cX12_lookAhead 133 = .ok (.iload 4, 2) := by decide +kernel
theorem dX12_lookAhead_135 : decode cX12_lookAhead 135 = .ok (.ifCond .le 15, 3) := by decide +kernel
theorem dX12_lookAhead_138 : decode cX12_lookAhead 138 = .ok (.iload 5, 2) := by decide +kernel
theorem dX12_lookAhead_140 : decode cX12_lookAhead 140 = .ok (.aload_n 0, 1) := by decide +kernel
theorem dX12_lookAhead_141 : decode cX12_lookAhead 141 = .ok (.getfield 193, 3) := by decide +kernel
theorem dX12_lookAhead_144 : decode cX12_lookAhead 144 = .ok (.if_icmp .gt 6, 3) := by decide +kernel
theorem dX12_lookAhead_147 : decode cX12_lookAhead 147 = .ok (.goto 15, 3) := by decide +kernel
theorem dX12_lookAhead_150 : decode cX12_lookAhead 150 = .ok (.aload_n 0, 1) := by decide +kernel
theorem dX12_lookAhead_151 : decode cX12_lookAhead 151 = .ok (.iload 5, 2) := by decide +kernel
theorem dX12_lookAhead_153 : decode cX12_lookAhead 153 = .ok (.putfield 193, 3) := by decide +kernel
theorem dX12_lookAhead_156 : decode cX12_lookAhead 156 = .ok (.aload_n 0, 1) := by decide +kernel
theorem dX12_lookAhead_157 : decode cX12_lookAhead 157 = .ok (.iload 4, 2) := by decide +kernel
theorem dX12_lookAhead_159 : decode cX12_lookAhead 159 = .ok (.putfield 190, 3) := by decide +kernel
theorem dX12_lookAhead_162 : decode cX12_lookAhead 162 = .ok (.iinc 4 1, 3) := by decide +kernel
theorem dX12_lookAhead_165 : decode cX12_lookAhead 165 = .ok (.goto (-136), 3) := by decide +kernel
theorem dX12_lookAhead_168 : decode cX12_lookAhead 168 = .ok (.return_, 1) := by decide +kernel
theorem dX12_isAhead_0 : decode cX12_isAhead 0 = .ok (.aload_n 0, 1) := by decide +kernel
theorem dX12_isAhead_1 : decode cX12_isAhead 1 = .ok (.iload_n 1, 1) := by decide +kernel
theorem dX12_isAhead_2 : decode cX12_isAhead 2 = .ok (.iconst 1, 1) := by decide +kernel
theorem dX12_isAhead_3 : decode cX12_isAhead 3 = .ok (.iconst 3, 1) := by decide +kernel
theorem dX12_isAhead_4 : decode cX12_isAhead 4 = .ok (.invokevirtual 217, 3) := by decide +kernel
theorem dX12_isAhead_7 : decode cX12_isAhead 7 = .ok (.ifCond .eq 18, 3) := by decide +kernel
theorem dX12_isAhead_10 : decode cX12_isAhead 10 = .ok (.aload_n 0, 1) := by decide +kernel
theorem dX12_isAhead_11 : decode cX12_isAhead 11 = .ok (.iload_n 2, 1) := by decide +kernel
theorem dX12_isAhead_12 : decode cX12_isAhead 12 = .ok (.iconst 0, 1) := by decide +kernel
theorem dX12_isAhead_13 : decode cX12_isAhead 13 = .ok (.bipush 24, 2) := by decide +kernel
theorem dX12_isAhead_15 : decode cX12_isAhead 15 = .ok (.invokevirtual 217, 3) := by decide +kernel
theorem dX12_isAhead_18 : decode cX12_isAhead 18 = .ok (.ifCond .eq 7, 3) := by decide +kernel
theorem dX12_isAhead_21 : decode cX12_isAhead 21 = .ok (.iconst 1, 1) := by decide +kernel
theorem dX12_isAhead_22 : decode cX12_isAhead 22 = .ok (.goto 4, 3) := by decide +kernel
theorem dX12_isAhead_25 : decode cX12_isAhead 25 = .ok (.iconst 0, 1) := by decide +kernel
theorem dX12_isAhead_26 : decode cX12_isAhead 26 = .ok (.ireturn, 1) := by decide +kernel
theorem dX12_waste_0 : decode cX12_waste 0 = .ok (.aload_n 0, 1) := by decide +kernel
theorem dX12_waste_1 : decode cX12_waste 1 = .ok (.iload_n 1, 1) := by decide +kernel
theorem dX12_waste_2 : decode cX12_waste 2 = .ok (.iconst 0, 1) := by decide +kernel
theorem dX12_waste_3 : decode cX12_waste 3 = .ok (.sipush 999, 3) := by decide +kernel
theorem dX12_waste_6 : decode cX12_waste 6 = .ok (.invokevirtual 217, 3) := by decide +kernel
theorem dX12_waste_9 : decode cX12_waste 9 = .ok (.ifCond .ne 6, 3) := by decide +kernel
theorem dX12_waste_12 : decode cX12_waste 12 = .ok (.bipush (-2), 2) := by decide +kernel
theorem dX12_waste_14 : decode cX12_waste 14 = .ok (.ireturn, 1) := by decide +kernel
theorem dX12_waste_15 : decode cX12_waste 15 = .ok (.aload_n 0, 1) := by decide +kernel
theorem dX12_waste_16 : decode cX12_waste 16 = .ok (.getfield 19, 3) := by decide +kernel
theorem dX12_waste_19 : decode cX12_waste 19 = .ok (.istore_n 2, 1) := by decide +kernel
theorem dX12_waste_20 : decode cX12_waste 20 = .ok (.aload_n 0, 1) := by decide +kernel
theorem dX12_waste_21 : decode cX12_waste 21 = .ok (.iload_n 1, 1) := by decide +kernel
theorem dX12_waste_22 : decode cX12_waste 22 = .ok (.putfield 19, 3) := by decide +kernel
theorem dX12_waste_25 : decode cX12_waste 25 = .ok (.iload_n 2, 1) := by decide +kernel
theorem dX12_waste_26 : decode cX12_waste 26 = .ok (.ireturn, 1) := by decide +kernel
theorem dX12_ahead__0 : decode cX12_ahead_ 0 = .ok (.aload_n 0, 1) := by decide +kernel
theorem dX12_ahead__1 : decode cX12_ahead_ 1 = .ok (.iload_n 1, 1) := by decide +kernel
theorem dX12_ahead__2 : decode cX12_ahead_ 2 = .ok (.iload_n 2, 1) := by decide +kernel
theorem dX12_ahead__3 : decode cX12_ahead_ 3 = .ok (.invokevirtual 376, 3) := by decide +kernel
theorem dX12_ahead__6 : decode cX12_ahead_ 6 = .ok (.ifCond .eq 15, 3) := by decide +kernel
theorem dX12_ahead__9 : decode cX12_ahead_ 9 = .ok (.aload_n 0, 1) := by decide +kernel
theorem dX12_ahead__10 : decode cX12_ahead_ 10 = .ok (.iload_n 3, 1) := by decide +kernel
theorem dX12_ahead__11 : decode cX12_ahead_ 11 = .ok (.iconst 0, 1) := by decide +kernel
theorem dX12_ahead__12 : decode cX12_ahead_ 12 = .ok (.iload_n 1, 1) := by decide +kernel
theorem dX12_ahead__13 : decode cX12_ahead_ 13 = .ok (.iconst 1, 1) := by decide +kernel
theorem dX12_ahead__14 : decode cX12_ahead_ 14 = .ok (.isub, 1) := by decide +kernel
theorem dX12_ahead__15 : decode cX12_ahead_ 15 = .ok (.invokevirtual 217, 3) := by decide +kernel
theorem dX12_ahead__18 : decode cX12_ahead_ 18 = .ok (.ifCond .ne 6, 3) := by decide +kernel
theorem dX12_ahead__21 : decode cX12_ahead_ 21 = .ok (.bipush (-2), 2) := by decide +kernel
theorem dX12_ahead__23 : decode cX12_ahead_ 23 = .ok (.ireturn, 1) := by decide +kernel
theorem dX12_ahead__24 : decode cX12_ahead_ 24 = .ok (.aload_n 0, 1) := by decide +kernel
theorem dX12_ahead__25 : decode cX12_ahead_ 25 = .ok (.iload_n 1, 1) := by decide +kernel
theorem dX12_ahead__26 : decode cX12_ahead_ 26 = .ok (.iload_n 2, 1) := by decide +kernel
theorem dX12_ahead__27 : decode cX12_ahead_ 27 = .ok (.invokevirtual 380, 3) := by decide +kernel
theorem dX12_ahead__30 : decode cX12_ahead_ 30 = .ok (.aload_n 0, 1) := by decide +kernel
theorem dX12_ahead__31 : decode cX12_ahead_ 31 = .ok (.aload_n 0, 1) := by decide +kernel
theorem dX12_ahead__32 : decode cX12_ahead_ 32 = .ok (.getfield 190, 3) := by decide +kernel
theorem dX12_ahead__35 : decode cX12_ahead_ 35 = .ok (.iload_n 1, 1) := by decide +kernel
theorem dX12_ahead__36 : decode cX12_ahead_ 36 = .ok (.iload_n 3, 1) := by decide +kernel
theorem dX12_ahead__37 : decode cX12_ahead_ 37 = .ok (.invokevirtual 367, 3) := by decide +kernel
theorem dX12_ahead__40 : decode cX12_ahead_ 40 = .ok (.ireturn, 1) := by decide +kernel
theorem dX12_worth_0 : decode cX12_worth 0 = .ok (.aload_n 0, 1) := by decide +kernel
theorem dX12_worth_1 : decode cX12_worth 1 = .ok (.iload_n 1, 1) := by decide +kernel
theorem dX12_worth_2 : decode cX12_worth 2 = .ok (.iload_n 2, 1) := by decide +kernel
theorem dX12_worth_3 : decode cX12_worth 3 = .ok (.invokevirtual 376, 3) := by decide +kernel
theorem dX12_worth_6 : decode cX12_worth 6 = .ok (.ifCond .ne 7, 3) := by decide +kernel
theorem dX12_worth_9 : decode cX12_worth 9 = .ok (.ldc2_w 258, 3) := by decide +kernel
theorem dX12_worth_12 : decode cX12_worth 12 = .ok (.lreturn, 1) := by decide +kernel
theorem dX12_worth_13 : decode cX12_worth 13 = .ok (.aload_n 0, 1) := by decide +kernel
theorem dX12_worth_14 : decode cX12_worth 14 = .ok (.iload_n 1, 1) := by decide +kernel
theorem dX12_worth_15 : decode cX12_worth 15 = .ok (.iload_n 2, 1) := by decide +kernel
theorem dX12_worth_16 : decode cX12_worth 16 = .ok (.invokevirtual 380, 3) := by decide +kernel
theorem dX12_worth_19 : decode cX12_worth 19 = .ok (.aload_n 0, 1) := by decide +kernel
theorem dX12_worth_20 : decode cX12_worth 20 = .ok (.getfield 193, 3) := by decide +kernel
theorem dX12_worth_23 : decode cX12_worth 23 = .ok (.i2l, 1) := by decide +kernel
theorem dX12_worth_24 : decode cX12_worth 24 = .ok (.lreturn, 1) := by decide +kernel
theorem dX12_piece_0 : decode cX12_piece 0 = .ok (.aload_n 0, 1) := by decide +kernel
theorem dX12_piece_1 : decode cX12_piece 1 = .ok (.iload_n 1, 1) := by decide +kernel
theorem dX12_piece_2 : decode cX12_piece 2 = .ok (.iconst 1, 1) := by decide +kernel
theorem dX12_piece_3 : decode cX12_piece 3 = .ok (.bipush 6, 2) := by decide +kernel
theorem dX12_piece_5 : decode cX12_piece 5 = .ok (.invokevirtual 217, 3) := by decide +kernel
theorem dX12_piece_8 : decode cX12_piece 8 = .ok (.ifCond .eq 15, 3) := by decide +kernel
theorem dX12_piece_11 : decode cX12_piece 11 = .ok (.aload_n 0, 1) := by decide +kernel
theorem dX12_piece_12 : decode cX12_piece 12 = .ok (.iload_n 2, 1) := by decide +kernel
theorem dX12_piece_13 : decode cX12_piece 13 = .ok (.iconst 0, 1) := by decide +kernel
theorem dX12_piece_14 : decode cX12_piece 14 = .ok (.sipush 999, 3) := by decide +kernel
theorem dX12_piece_17 : decode cX12_piece 17 = .ok (.invokevirtual 217, 3) := by decide +kernel
theorem dX12_piece_20 : decode cX12_piece 20 = .ok (.ifCond .ne 6, 3) := by decide +kernel
theorem dX12_piece_23 : decode cX12_piece 23 = .ok (.bipush (-2), 2) := by decide +kernel
theorem dX12_piece_25 : decode cX12_piece 25 = .ok (.ireturn, 1) := by decide +kernel
theorem dX12_piece_26 : decode cX12_piece 26 = .ok (.aload_n 0, 1) := by decide +kernel
theorem dX12_piece_27 : decode cX12_piece 27 = .ok (.getfield 196, 3) := by decide +kernel
theorem dX12_piece_30 : decode cX12_piece 30 = .ok (.iload_n 1, 1) := by decide +kernel
theorem dX12_piece_31 : decode cX12_piece 31 = .ok (.iaload, 1) := by decide +kernel
theorem dX12_piece_32 : decode cX12_piece 32 = .ok (.istore_n 3, 1) := by decide +kernel
theorem dX12_piece_33 : decode cX12_piece 33 = .ok (.aload_n 0, 1) := by decide +kernel
theorem dX12_piece_34 : decode cX12_piece 34 = .ok (.getfield 196, 3) := by decide +kernel
theorem dX12_piece_37 : decode cX12_piece 37 = .ok (.iload_n 1, 1) := by decide +kernel
theorem dX12_piece_38 : decode cX12_piece 38 = .ok (.iload_n 2, 1) := by decide +kernel
theorem dX12_piece_39 : decode cX12_piece 39 = .ok (.iastore, 1) := by decide +kernel
theorem dX12_piece_40 : decode cX12_piece 40 = .ok (.iload_n 3, 1) := by decide +kernel
theorem dX12_piece_41 : decode cX12_piece 41 = .ok (.ireturn, 1) := by decide +kernel
theorem dX12_partOf_0 : decode cX12_partOf 0 = .ok (.iload_n 3, 1) := by decide +kernel
theorem dX12_partOf_1 : decode cX12_partOf 1 = .ok (.ifCond .ne 8, 3) := by decide +kernel
theorem dX12_partOf_4 : decode cX12_partOf 4 = .ok (.iload_n 2, 1) := by decide +kernel
theorem dX12_partOf_5 : decode cX12_partOf 5 = .ok (.iload_n 1, 1) := by decide +kernel
theorem dX12_partOf_6 : decode cX12_partOf 6 = .ok (.if_icmp .ne 14, 3) := by decide +kernel
theorem dX12_partOf_9 : decode cX12_partOf 9 = .ok (.aload_n 0, 1) := by decide +kernel
theorem dX12_partOf_10 : decode cX12_partOf 10 = .ok (.getfield 196, 3) := by decide +kernel
theorem dX12_partOf_13 : decode cX12_partOf 13 = .ok (.iload_n 2, 1) := by decide +kernel
theorem dX12_partOf_14 : decode cX12_partOf 14 = .ok (.iaload, 1) := by decide +kernel
theorem dX12_partOf_15 : decode cX12_partOf 15 = .ok (.iconst 2, 1) := by decide +kernel
theorem dX12_partOf_16 : decode cX12_partOf 16 = .ok (.idiv, 1) := by decide +kernel
theorem dX12_partOf_17 : decode cX12_partOf 17 = .ok (.goto 9, 3) := by decide +kernel
theorem dX12_partOf_20 : decode cX12_partOf 20 = .ok (.aload_n 0, 1) := by decide +kernel
theorem dX12_partOf_21 : decode cX12_partOf 21 = .ok (.getfield 196, 3) := by decide +kernel
theorem dX12_partOf_24 : decode cX12_partOf 24 = .ok (.iload_n 2, 1) := by decide +kernel
theorem dX12_partOf_25 : decode cX12_partOf 25 = .ok (.iaload, 1) := by decide +kernel
theorem dX12_partOf_26 : decode cX12_partOf 26 = .ok (.istore 4, 2) := by decide +kernel
theorem dX12_partOf_28 : decode cX12_partOf 28 = .ok (.iload 4, 2) := by decide +kernel
theorem dX12_partOf_30 : decode cX12_partOf 30 = .ok (.iload_n 2, 1) := by decide +kernel
theorem dX12_partOf_31 : decode cX12_partOf 31 = .ok (.iload_n 1, 1) := by decide +kernel
theorem dX12_partOf_32 : decode cX12_partOf 32 = .ok (.if_icmp .ne 7, 3) := by decide +kernel
theorem dX12_partOf_35 : decode cX12_partOf 35 = .ok (.iconst 0, 1) := by decide +kernel
theorem dX12_partOf_36 : decode cX12_partOf 36 = .ok (.goto 11, 3) := by decide +kernel
theorem dX12_partOf_39 : decode cX12_partOf 39 = .ok (.aload_n 0, 1) := by decide +kernel
theorem dX12_partOf_40 : decode cX12_partOf 40 = .ok (.getfield 199, 3) := by decide +kernel
theorem dX12_partOf_43 : decode cX12_partOf 43 = .ok (.iload_n 1, 1) := by decide +kernel
theorem dX12_partOf_44 : decode cX12_partOf 44 = .ok (.iload_n 2, 1) := by decide +kernel
theorem dX12_partOf_45 : decode cX12_partOf 45 = .ok (.isub, 1) := by decide +kernel
theorem dX12_partOf_46 : decode cX12_partOf 46 = .ok (.iaload, 1) := by decide +kernel
theorem dX12_partOf_47 : decode cX12_partOf 47 = .ok (.iadd, 1) := by decide +kernel
theorem dX12_partOf_48 : decode cX12_partOf 48 = .ok (.ireturn, 1) := by decide +kernel
theorem dX12_most_0 : decode cX12_most 0 = .ok (.iconst 0, 1) := by decide +kernel
theorem dX12_most_1 : decode cX12_most 1 = .ok (.istore_n 3, 1) := by decide +kernel
theorem dX12_most_2 : decode cX12_most 2 = .ok (.iconst 1, 1) := by decide +kernel
theorem dX12_most_3 : decode cX12_most 3 = .ok (.istore 4, 2) := by decide +kernel
theorem dX12_most_5 : decode cX12_most 5 = .ok (.iload 4, 2) := by decide +kernel
theorem dX12_most_7 : decode cX12_most 7 = .ok (.bipush 7, 2) := by decide +kernel
theorem dX12_most_9 : decode cX12_most 9 = .ok (.if_icmp .ge 46, 3) := by decide +kernel
theorem dX12_most_12 : decode cX12_most 12 = .ok (.iload 4, 2) := by decide +kernel
theorem dX12_most_14 : decode cX12_most 14 = .ok (.iload_n 1, 1) := by decide +kernel
theorem dX12_most_15 : decode cX12_most 15 = .ok (.if_icmp .gt 40, 3) := by decide +kernel
theorem dX12_most_18 : decode cX12_most 18 = .ok (.iload 4, 2) := by decide +kernel
theorem dX12_most_20 : decode cX12_most 20 = .ok (.iconst 1, 1) := by decide +kernel
theorem dX12_most_21 : decode cX12_most 21 = .ok (.if_icmp .eq 15, 3) := by decide +kernel
theorem dX12_most_24 : decode cX12_most 24 = .ok (.aload_n 0, 1) := by decide +kernel
theorem dX12_most_25 : decode cX12_most 25 = .ok (.iload_n 1, 1) := by decide +kernel
theorem dX12_most_26 : decode cX12_most 26 = .ok (.iload 4, 2) := by decide +kernel
theorem dX12_most_28 : decode cX12_most 28 = .ok (.iload_n 2, 1) := by decide +kernel
theorem dX12_most_29 : decode cX12_most 29 = .ok (.invokevirtual 383, 3) := by decide +kernel
theorem dX12_most_32 : decode cX12_most 32 = .ok (.iload_n 3, 1) := by decide +kernel
theorem dX12_most_33 : decode cX12_most 33 = .ok (.if_icmp .le 14, 3) := by decide +kernel
theorem dX12_most_36 : decode cX12_most 36 = .ok (.aload_n 0, 1) := by decide +kernel
theorem dX12_most_37 : decode cX12_most 37 = .ok (.iload_n 1, 1) := by decide +kernel
theorem dX12_most_38 : decode cX12_most 38 = .ok (.iload 4, 2) := by decide +kernel
theorem dX12_most_40 : decode cX12_most 40 = .ok (.iload_n 2, 1) := by decide +kernel
theorem dX12_most_41 : decode cX12_most 41 = .ok (.invokevirtual 383, 3) := by decide +kernel
theorem dX12_most_44 : decode cX12_most 44 = .ok (.goto 4, 3) := by decide +kernel
theorem dX12_most_47 : decode cX12_most 47 = .ok (.iload_n 3, 1) := by decide +kernel
theorem dX12_most_48 : decode cX12_most 48 = .ok (.istore_n 3, 1) := by decide +kernel
theorem dX12_most_49 : decode cX12_most 49 = .ok (.iinc 4 1, 3) := by decide +kernel
theorem dX12_most_52 : decode cX12_most 52 = .ok (.goto (-47), 3) := by decide +kernel
theorem dX12_most_55 : decode cX12_most 55 = .ok (.iload_n 3, 1) := by decide +kernel
theorem dX12_most_56 : decode cX12_most 56 = .ok (.ireturn, 1) := by decide +kernel
theorem dX12_cut_0 : decode cX12_cut 0 = .ok (.aload_n 0, 1) := by decide +kernel
theorem dX12_cut_1 : decode cX12_cut 1 = .ok (.iload_n 1, 1) := by decide +kernel
theorem dX12_cut_2 : decode cX12_cut 2 = .ok (.iconst 1, 1) := by decide +kernel
theorem dX12_cut_3 : decode cX12_cut 3 = .ok (.bipush 30, 2) := by decide +kernel
theorem dX12_cut_5 : decode cX12_cut 5 = .ok (.invokevirtual 217, 3) := by decide +kernel
theorem dX12_cut_8 : decode cX12_cut 8 = .ok (.ifCond .ne 6, 3) := by decide +kernel
theorem dX12_cut_11 : decode cX12_cut 11 = .ok (.bipush (-2), 2) := by decide +kernel
theorem dX12_cut_13 : decode cX12_cut 13 = .ok (.ireturn, 1) := by decide +kernel
theorem dX12_cut_14 : decode cX12_cut 14 = .ok (.iconst 1, 1) := by decide +kernel
theorem dX12_cut_15 : decode cX12_cut 15 = .ok (.istore_n 3, 1) := by decide +kernel
theorem dX12_cut_16 : decode cX12_cut 16 = .ok (.iload_n 3, 1) := by decide +kernel
theorem dX12_cut_17 : decode cX12_cut 17 = .ok (.iload_n 1, 1) := by decide +kernel
theorem dX12_cut_18 : decode cX12_cut 18 = .ok (.if_icmp .gt 21, 3) := by decide +kernel
theorem dX12_cut_21 : decode cX12_cut 21 = .ok (.aload_n 0, 1) := by decide +kernel
theorem dX12_cut_22 : decode cX12_cut 22 = .ok (.getfield 199, 3) := by decide +kernel
theorem dX12_cut_25 : decode cX12_cut 25 = .ok (.iload_n 3, 1) := by decide +kernel
theorem dX12_cut_26 : decode cX12_cut 26 = .ok (.aload_n 0, 1) := by decide +kernel
theorem dX12_cut_27 : decode cX12_cut 27 = .ok (.iload_n 3, 1) := by decide +kernel
theorem dX12_cut_28 : decode cX12_cut 28 = .ok (.iconst 0, 1) := by decide +kernel
theorem dX12_cut_29 : decode cX12_cut 29 = .ok (.invokevirtual 387, 3) := by decide +kernel
theorem dX12_cut_32 : decode cX12_cut 32 = .ok (.iastore, 1) := by decide +kernel
theorem dX12_cut_33 : decode cX12_cut 33 = .ok (.iinc 3 1, 3) := by decide +kernel
theorem dX12_cut_36 : decode cX12_cut 36 = .ok (.goto (-20), 3) := by decide +kernel
theorem dX12_cut_39 : decode cX12_cut 39 = .ok (.iload_n 2, 1) := by decide +kernel
theorem dX12_cut_40 : decode cX12_cut 40 = .ok (.iconst (-1), 1) := by decide +kernel
theorem dX12_cut_41 : decode cX12_cut 41 = .ok (.if_icmp .ne 10, 3) := by decide +kernel
theorem dX12_cut_44 : decode cX12_cut 44 = .ok (.aload_n 0, 1) := by decide +kernel
theorem dX12_cut_45 : decode cX12_cut 45 = .ok (.iload_n 1, 1) := by decide +kernel
theorem dX12_cut_46 : decode cX12_cut 46 = .ok (.iconst 1, 1) := by decide +kernel
theorem dX12_cut_47 : decode cX12_cut 47 = .ok (.invokevirtual 387, 3) := by decide +kernel
theorem dX12_cut_50 : decode cX12_cut 50 = .ok (.ireturn, 1) := by decide +kernel
theorem dX12_cut_51 : decode cX12_cut 51 = .ok (.iload_n 1, 1) := by decide +kernel
theorem dX12_cut_52 : decode cX12_cut 52 = .ok (.istore_n 3, 1) := by decide +kernel
theorem dX12_cut_53 : decode cX12_cut 53 = .ok (.iconst 0, 1) := by decide +kernel
theorem dX12_cut_54 : decode cX12_cut 54 = .ok (.istore 4, 2) := by decide +kernel
theorem dX12_cut_56 : decode cX12_cut 56 = .ok (.iload_n 3, 1) := by decide +kernel
theorem dX12_cut_57 : decode cX12_cut 57 = .ok (.ifCond .le 71, 3) := by decide +kernel
theorem dX12_cut_60 : decode cX12_cut 60 = .ok (.iload_n 2, 1) := by decide +kernel
theorem dX12_cut_61 : decode cX12_cut 61 = .ok (.ifCond .lt 67, 3) := by decide +kernel
theorem dX12_cut_64 : decode cX12_cut 64 = .ok (.iconst 1, 1) := by decide +kernel
theorem dX12_cut_65 : decode cX12_cut 65 = .ok (.istore 5, 2) := by decide +kernel
theorem dX12_cut_67 : decode cX12_cut 67 = .ok (.aload_n 0, 1) := by decide +kernel
theorem dX12_cut_68 : decode cX12_cut 68 = .ok (.iload_n 3, 1) := by decide +kernel
theorem dX12_cut_69 : decode cX12_cut 69 = .ok (.iload 5, 2) := by decide +kernel
theorem dX12_cut_71 : decode cX12_cut 71 = .ok (.iload 4, 2) := by decide +kernel
theorem dX12_cut_73 : decode cX12_cut 73 = .ok (.ifCond .ne 7, 3) := by decide +kernel
theorem dX12_cut_76 : decode cX12_cut 76 = .ok (.iconst 1, 1) := by decide +kernel
theorem dX12_cut_77 : decode cX12_cut 77 = .ok (.goto 4, 3) := by decide +kernel
theorem dX12_cut_80 : decode cX12_cut 80 = .ok (.iconst 0, 1) := by decide +kernel
theorem dX12_cut_81 : decode cX12_cut 81 = .ok (.invokevirtual 383, 3) := by decide +kernel
theorem dX12_cut_84 : decode cX12_cut 84 = .ok (.aload_n 0, 1) := by decide +kernel
theorem dX12_cut_85 : decode cX12_cut 85 = .ok (.iload_n 3, 1) := by decide +kernel
theorem dX12_cut_86 : decode cX12_cut 86 = .ok (.iload 4, 2) := by decide +kernel
theorem dX12_cut_88 : decode cX12_cut 88 = .ok (.ifCond .ne 7, 3) := by decide +kernel
theorem dX12_cut_91 : decode cX12_cut 91 = .ok (.iconst 1, 1) := by decide +kernel
theorem dX12_cut_92 : decode cX12_cut 92 = .ok (.goto 4, 3) := by decide +kernel
theorem dX12_cut_95 : decode cX12_cut 95 = .ok (.iconst 0, 1) := by decide +kernel
theorem dX12_cut_96 : decode cX12_cut 96 = .ok (.invokevirtual 387, 3) := by decide +kernel
theorem dX12_cut_99 : decode cX12_cut 99 = .ok (.if_icmp .eq 9, 3) := by decide +kernel
theorem dX12_cut_102 : decode cX12_cut 102 = .ok (.iinc 5 1, 3) := by decide +kernel
theorem dX12_cut_105 : decode cX12_cut 105 = .ok (.goto (-38), 3) := by decide +kernel
theorem dX12_cut_108 : decode cX12_cut 108 = .ok (.iload 4, 2) := by decide +kernel
theorem dX12_cut_110 : decode cX12_cut 110 = .ok (.iload_n 2, 1) := by decide +kernel
theorem dX12_cut_111 : decode cX12_cut 111 = .ok (.if_icmp .ne 6, 3) := by decide +kernel
theorem dX12_cut_114 : decode cX12_cut 114 = .ok (.iload 5, 2) := by decide +kernel
theorem dX12_cut_116 : decode cX12_cut 116 = .ok (.ireturn, 1) := by decide +kernel
theorem dX12_cut_117 : decode cX12_cut 117 = .ok (.iload_n 3, 1) := by decide +kernel
theorem dX12_cut_118 : decode cX12_cut 118 = .ok (.iload 5, 2) := by decide +kernel
theorem dX12_cut_120 : decode cX12_cut 120 = .ok (.isub, 1) := by decide +kernel
theorem dX12_cut_121 : decode cX12_cut 121 = .ok (.istore_n 3, 1) := by decide +kernel
theorem dX12_cut_122 : decode cX12_cut 122 = .ok (.iinc 4 1, 3) := by decide +kernel
theorem dX12_cut_125 : decode cX12_cut 125 = .ok (.goto (-69), 3) := by decide +kernel
theorem dX12_cut_128 : decode cX12_cut 128 = .ok (.iconst (-1), 1) := by decide +kernel
theorem dX12_cut_129 : decode cX12_cut 129 = .ok (.ireturn, 1) := by decide +kernel
theorem dX12_sitting_0 : decode cX12_sitting 0 = .ok (.iconst 0, 1) := by decide +kernel
theorem dX12_sitting_1 : decode cX12_sitting 1 = .ok (.istore_n 1, 1) := by decide +kernel
theorem dX12_sitting_2 : decode cX12_sitting 2 = .ok (.iconst 0, 1) := by decide +kernel
theorem dX12_sitting_3 : decode cX12_sitting 3 = .ok (.istore_n 2, 1) := by decide +kernel
theorem dX12_sitting_4 : decode cX12_sitting 4 = .ok (.iload_n 2, 1) := by decide +kernel
theorem dX12_sitting_5 : decode cX12_sitting 5 = .ok (.aload_n 0, 1) := by decide +kernel
theorem dX12_sitting_6 : decode cX12_sitting 6 = .ok (.getfield 62, 3) := by decide +kernel
theorem dX12_sitting_9 : decode cX12_sitting 9 = .ok (.if_icmp .ge 26, 3) := by decide +kernel
theorem dX12_sitting_12 : decode cX12_sitting 12 = .ok (.iload_n 1, 1) := by decide +kernel
theorem dX12_sitting_13 : decode cX12_sitting 13 = .ok (.aload_n 0, 1) := by decide +kernel
theorem dX12_sitting_14 : decode cX12_sitting 14 = .ok (.getfield 86, 3) := by decide +kernel
theorem dX12_sitting_17 : decode cX12_sitting 17 = .ok (.iload_n 2, 1) := by decide +kernel
theorem dX12_sitting_18 : decode cX12_sitting 18 = .ok (.baload, 1) := by decide +kernel
theorem dX12_sitting_19 : decode cX12_sitting 19 = .ok (.ifCond .eq 7, 3) := by decide +kernel
theorem dX12_sitting_22 : decode cX12_sitting 22 = .ok (.iconst 1, 1) := by decide +kernel
theorem dX12_sitting_23 : decode cX12_sitting 23 = .ok (.goto 4, 3) := by decide +kernel
theorem dX12_sitting_26 : decode cX12_sitting 26 = .ok (.iconst 0, 1) := by decide +kernel
theorem dX12_sitting_27 : decode cX12_sitting 27 = .ok (.iadd, 1) := by decide +kernel
theorem dX12_sitting_28 : decode cX12_sitting 28 = .ok (.istore_n 1, 1) := by decide +kernel
theorem dX12_sitting_29 : decode cX12_sitting 29 = .ok (.iinc 2 1, 3) := by decide +kernel
theorem dX12_sitting_32 : decode cX12_sitting 32 = .ok (.goto (-28), 3) := by decide +kernel
theorem dX12_sitting_35 : decode cX12_sitting 35 = .ok (.iload_n 1, 1) := by decide +kernel
theorem dX12_sitting_36 : decode cX12_sitting 36 = .ok (.ireturn, 1) := by decide +kernel
theorem dX12_trays_0 : decode cX12_trays 0 = .ok (.iconst 0, 1) := by decide +kernel
theorem dX12_trays_1 : decode cX12_trays 1 = .ok (.istore_n 1, 1) := by decide +kernel
theorem dX12_trays_2 : decode cX12_trays 2 = .ok (.iconst 0, 1) := by decide +kernel
theorem dX12_trays_3 : decode cX12_trays 3 = .ok (.istore_n 2, 1) := by decide +kernel
theorem dX12_trays_4 : decode cX12_trays 4 = .ok (.iload_n 2, 1) := by decide +kernel
theorem dX12_trays_5 : decode cX12_trays 5 = .ok (.aload_n 0, 1) := by decide +kernel
theorem dX12_trays_6 : decode cX12_trays 6 = .ok (.getfield 211, 3) := by decide +kernel
theorem dX12_trays_9 : decode cX12_trays 9 = .ok (.if_icmp .ge 26, 3) := by decide +kernel
theorem dX12_trays_12 : decode cX12_trays 12 = .ok (.iload_n 1, 1) := by decide +kernel
theorem dX12_trays_13 : decode cX12_trays 13 = .ok (.aload_n 0, 1) := by decide +kernel
theorem dX12_trays_14 : decode cX12_trays 14 = .ok (.getfield 50, 3) := by decide +kernel
theorem dX12_trays_17 : decode cX12_trays 17 = .ok (.iload_n 2, 1) := by decide +kernel
theorem dX12_trays_18 : decode cX12_trays 18 = .ok (.iaload, 1) := by decide +kernel
theorem dX12_trays_19 : decode cX12_trays 19 = .ok (.ifCond .ge 7, 3) := by decide +kernel
theorem dX12_trays_22 : decode cX12_trays 22 = .ok (.iconst 0, 1) := by decide +kernel
theorem dX12_trays_23 : decode cX12_trays 23 = .ok (.goto 4, 3) := by decide +kernel
theorem dX12_trays_26 : decode cX12_trays 26 = .ok (.iconst 1, 1) := by decide +kernel
theorem dX12_trays_27 : decode cX12_trays 27 = .ok (.iadd, 1) := by decide +kernel
theorem dX12_trays_28 : decode cX12_trays 28 = .ok (.istore_n 1, 1) := by decide +kernel
theorem dX12_trays_29 : decode cX12_trays 29 = .ok (.iinc 2 1, 3) := by decide +kernel
theorem dX12_trays_32 : decode cX12_trays 32 = .ok (.goto (-28), 3) := by decide +kernel
theorem dX12_trays_35 : decode cX12_trays 35 = .ok (.iload_n 1, 1) := by decide +kernel
theorem dX12_trays_36 : decode cX12_trays 36 = .ok (.ireturn, 1) := by decide +kernel
theorem dX12_count_0 : decode cX12_count 0 = .ok (.iload_n 1, 1) := by decide +kernel
theorem dX12_count_1 : decode cX12_count 1 = .ok (.tableswitch 114 0 10 #[59, 64, 69, 74, 79, 84, 89, 94, 99, 104, 109], 59) := by decide +kernel
theorem dX12_count_60 : decode cX12_count 60 = .ok (.aload_n 0, 1) := by decide +kernel
theorem dX12_count_61 : decode cX12_count 61 = .ok (.getfield 211, 3) := by decide +kernel
theorem dX12_count_64 : decode cX12_count 64 = .ok (.ireturn, 1) := by decide +kernel
theorem dX12_count_65 : decode cX12_count 65 = .ok (.aload_n 0, 1) := by decide +kernel
theorem dX12_count_66 : decode cX12_count 66 = .ok (.getfield 7, 3) := by decide +kernel
theorem dX12_count_69 : decode cX12_count 69 = .ok (.ireturn, 1) := by decide +kernel
theorem dX12_count_70 : decode cX12_count 70 = .ok (.aload_n 0, 1) := by decide +kernel
theorem dX12_count_71 : decode cX12_count 71 = .ok (.getfield 62, 3) := by decide +kernel
theorem dX12_count_74 : decode cX12_count 74 = .ok (.ireturn, 1) := by decide +kernel
theorem dX12_count_75 : decode cX12_count 75 = .ok (.aload_n 0, 1) := by decide +kernel
theorem dX12_count_76 : decode cX12_count 76 = .ok (.invokevirtual 390, 3) := by decide +kernel
theorem dX12_count_79 : decode cX12_count 79 = .ok (.ireturn, 1) := by decide +kernel
theorem dX12_count_80 : decode cX12_count 80 = .ok (.aload_n 0, 1) := by decide +kernel
theorem dX12_count_81 : decode cX12_count 81 = .ok (.getfield 13, 3) := by decide +kernel
theorem dX12_count_84 : decode cX12_count 84 = .ok (.ireturn, 1) := by decide +kernel
theorem dX12_count_85 : decode cX12_count 85 = .ok (.aload_n 0, 1) := by decide +kernel
theorem dX12_count_86 : decode cX12_count 86 = .ok (.invokevirtual 393, 3) := by decide +kernel
theorem dX12_count_89 : decode cX12_count 89 = .ok (.ireturn, 1) := by decide +kernel
theorem dX12_count_90 : decode cX12_count 90 = .ok (.aload_n 0, 1) := by decide +kernel
theorem dX12_count_91 : decode cX12_count 91 = .ok (.getfield 59, 3) := by decide +kernel
theorem dX12_count_94 : decode cX12_count 94 = .ok (.ireturn, 1) := by decide +kernel
theorem dX12_count_95 : decode cX12_count 95 = .ok (.aload_n 0, 1) := by decide +kernel
theorem dX12_count_96 : decode cX12_count 96 = .ok (.getfield 16, 3) := by decide +kernel
theorem dX12_count_99 : decode cX12_count 99 = .ok (.ireturn, 1) := by decide +kernel
theorem dX12_count_100 : decode cX12_count 100 = .ok (.aload_n 0, 1) := by decide +kernel
theorem dX12_count_101 : decode cX12_count 101 = .ok (.getfield 97, 3) := by decide +kernel
theorem dX12_count_104 : decode cX12_count 104 = .ok (.ireturn, 1) := by decide +kernel
theorem dX12_count_105 : decode cX12_count 105 = .ok (.aload_n 0, 1) := by decide +kernel
theorem dX12_count_106 : decode cX12_count 106 = .ok (.getfield 94, 3) := by decide +kernel
theorem dX12_count_109 : decode cX12_count 109 = .ok (.ireturn, 1) := by decide +kernel
theorem dX12_count_110 : decode cX12_count 110 = .ok (.aload_n 0, 1) := by decide +kernel
theorem dX12_count_111 : decode cX12_count 111 = .ok (.getfield 100, 3) := by decide +kernel
theorem dX12_count_114 : decode cX12_count 114 = .ok (.ireturn, 1) := by decide +kernel
theorem dX12_count_115 : decode cX12_count 115 = .ok (.bipush (-2), 2) := by decide +kernel
theorem dX12_count_117 : decode cX12_count 117 = .ok (.ireturn, 1) := by decide +kernel
theorem dX12_isSheet_0 : decode cX12_isSheet 0 = .ok (.aload_n 0, 1) := by decide +kernel
theorem dX12_isSheet_1 : decode cX12_isSheet 1 = .ok (.iload_n 1, 1) := by decide +kernel
theorem dX12_isSheet_2 : decode cX12_isSheet 2 = .ok (.iconst 0, 1) := by decide +kernel
theorem dX12_isSheet_3 : decode cX12_isSheet 3 = .ok (.iconst 3, 1) := by decide +kernel
theorem dX12_isSheet_4 : decode cX12_isSheet 4 = .ok (.invokevirtual 217, 3) := by decide +kernel
theorem dX12_isSheet_7 : decode cX12_isSheet 7 = .ok (.ireturn, 1) := by decide +kernel
theorem dX12_sheet_0 : decode cX12_sheet 0 = .ok (.aload_n 0, 1) := by decide +kernel
theorem dX12_sheet_1 : decode cX12_sheet 1 = .ok (.iload_n 1, 1) := by decide +kernel
theorem dX12_sheet_2 : decode cX12_sheet 2 = .ok (.invokevirtual 396, 3) := by decide +kernel
theorem dX12_sheet_5 : decode cX12_sheet 5 = .ok (.ifCond .eq 23, 3) := by decide +kernel
theorem dX12_sheet_8 : decode cX12_sheet 8 = .ok (.aload_n 0, 1) := by decide +kernel
theorem dX12_sheet_9 : decode cX12_sheet 9 = .ok (.iload_n 2, 1) := by decide +kernel
theorem dX12_sheet_10 : decode cX12_sheet 10 = .ok (.iconst (-1), 1) := by decide +kernel
theorem dX12_sheet_11 : decode cX12_sheet 11 = .ok (.iconst 2, 1) := by decide +kernel
theorem dX12_sheet_12 : decode cX12_sheet 12 = .ok (.invokevirtual 217, 3) := by decide +kernel
theorem dX12_sheet_15 : decode cX12_sheet 15 = .ok (.ifCond .eq 13, 3) := by decide +kernel
theorem dX12_sheet_18 : decode cX12_sheet 18 = .ok (.iload_n 2, 1) := by decide +kernel
theorem dX12_sheet_19 : decode cX12_sheet 19 = .ok (.ifCond .lt 12, 3) := by decide +kernel
theorem dX12_sheet_22 : decode cX12_sheet 22 = .ok (.iload_n 3, 1) := by decide +kernel
theorem dX12_sheet_23 : decode cX12_sheet 23 = .ok (.bipush 40, 2) := by decide +kernel
theorem dX12_sheet_25 : decode cX12_sheet 25 = .ok (.if_icmp .le 6, 3) := by decide +kernel
theorem dX12_sheet_28 : decode cX12_sheet 28 = .ok (.bipush (-2), 2) := by decide +kernel
theorem dX12_sheet_30 : decode cX12_sheet 30 = .ok (.ireturn, 1) := by decide +kernel
theorem dX12_sheet_31 : decode cX12_sheet 31 = .ok (.iload_n 2, 1) := by decide +kernel
theorem dX12_sheet_32 : decode cX12_sheet 32 = .ok (.ifCond .lt 10, 3) := by decide +kernel
theorem dX12_sheet_35 : decode cX12_sheet 35 = .ok (.iload_n 3, 1) := by decide +kernel
theorem dX12_sheet_36 : decode cX12_sheet 36 = .ok (.ifCond .ge 6, 3) := by decide +kernel
theorem dX12_sheet_39 : decode cX12_sheet 39 = .ok (.bipush (-14), 2) := by decide +kernel
theorem dX12_sheet_41 : decode cX12_sheet 41 = .ok (.ireturn, 1) := by decide +kernel
theorem dX12_sheet_42 : decode cX12_sheet 42 = .ok (.aload_n 0, 1) := by decide +kernel
theorem dX12_sheet_43 : decode cX12_sheet 43 = .ok (.getfield 202, 3) := by decide +kernel
theorem dX12_sheet_46 : decode cX12_sheet 46 = .ok (.iload_n 1, 1) := by decide +kernel
theorem dX12_sheet_47 : decode cX12_sheet 47 = .ok (.iload_n 2, 1) := by decide +kernel
theorem dX12_sheet_48 : decode cX12_sheet 48 = .ok (.iastore, 1) := by decide +kernel
theorem dX12_sheet_49 : decode cX12_sheet 49 = .ok (.aload_n 0, 1) := by decide +kernel
theorem dX12_sheet_50 : decode cX12_sheet 50 = .ok (.getfield 205, 3) := by decide +kernel
theorem dX12_sheet_53 : decode cX12_sheet 53 = .ok (.iload_n 1, 1) := by decide +kernel
theorem dX12_sheet_54 : decode cX12_sheet 54 = .ok (.iload_n 2, 1) := by decide +kernel
theorem dX12_sheet_55 : decode cX12_sheet 55 = .ok (.ifCond .ge 7, 3) := by decide +kernel
theorem dX12_sheet_58 : decode cX12_sheet 58 = .ok (.iconst 0, 1) := by decide +kernel
theorem dX12_sheet_59 : decode cX12_sheet 59 = .ok (.goto 4, 3) := by decide +kernel
theorem dX12_sheet_62 : decode cX12_sheet 62 = .ok (.iload_n 3, 1) := by decide +kernel
theorem dX12_sheet_63 : decode cX12_sheet 63 = .ok (.iastore, 1) := by decide +kernel
theorem dX12_sheet_64 : decode cX12_sheet 64 = .ok (.iconst 0, 1) := by decide +kernel
theorem dX12_sheet_65 : decode cX12_sheet 65 = .ok (.istore 4, 2) := by decide +kernel
theorem dX12_sheet_67 : decode cX12_sheet 67 = .ok (.iload 4, 2) := by decide +kernel
theorem dX12_sheet_69 : decode cX12_sheet 69 = .ok (.bipush 40, 2) := by decide +kernel
theorem dX12_sheet_71 : decode cX12_sheet 71 = .ok (.if_icmp .ge 22, 3) := by decide +kernel
theorem dX12_sheet_74 : decode cX12_sheet 74 = .ok (.aload_n 0, 1) := by decide +kernel
theorem dX12_sheet_75 : decode cX12_sheet 75 = .ok (.getfield 208, 3) := by decide +kernel
theorem dX12_sheet_78 : decode cX12_sheet 78 = .ok (.bipush 40, 2) := by decide +kernel
theorem dX12_sheet_80 : decode cX12_sheet 80 = .ok (.iload_n 1, 1) := by decide +kernel
theorem dX12_sheet_81 : decode cX12_sheet 81 = .ok (.imul, 1) := by decide +kernel
theorem dX12_sheet_82 : decode cX12_sheet 82 = .ok (.iload 4, 2) := by decide +kernel
theorem dX12_sheet_84 : decode cX12_sheet 84 = .ok (.iadd, 1) := by decide +kernel
theorem dX12_sheet_85 : decode cX12_sheet 85 = .ok (.iconst 0, 1) := by decide +kernel
theorem dX12_sheet_86 : decode cX12_sheet 86 = .ok (.iastore, 1) := by decide +kernel
theorem dX12_sheet_87 : decode cX12_sheet 87 = .ok (.iinc 4 1, 3) := by decide +kernel
theorem dX12_sheet_90 : decode cX12_sheet 90 = .ok (.goto (-23), 3) := by decide +kernel
theorem dX12_sheet_93 : decode cX12_sheet 93 = .ok (.iconst 1, 1) := by decide +kernel
theorem dX12_sheet_94 : decode cX12_sheet 94 = .ok (.ireturn, 1) := by decide +kernel
theorem dX12_cell_0 : decode cX12_cell 0 = .ok (.aload_n 0, 1) := by decide +kernel
theorem dX12_cell_1 : decode cX12_cell 1 = .ok (.iload_n 1, 1) := by decide +kernel
theorem dX12_cell_2 : decode cX12_cell 2 = .ok (.invokevirtual 396, 3) := by decide +kernel
theorem dX12_cell_5 : decode cX12_cell 5 = .ok (.ifCond .ne 6, 3) := by decide +kernel
theorem dX12_cell_8 : decode cX12_cell 8 = .ok (.bipush (-2), 2) := by decide +kernel
theorem dX12_cell_10 : decode cX12_cell 10 = .ok (.ireturn, 1) := by decide +kernel
theorem dX12_cell_11 : decode cX12_cell 11 = .ok (.aload_n 0, 1) := by decide +kernel
theorem dX12_cell_12 : decode cX12_cell 12 = .ok (.getfield 202, 3) := by decide +kernel
theorem dX12_cell_15 : decode cX12_cell 15 = .ok (.iload_n 1, 1) := by decide +kernel
theorem dX12_cell_16 : decode cX12_cell 16 = .ok (.iaload, 1) := by decide +kernel
theorem dX12_cell_17 : decode cX12_cell 17 = .ok (.ifCond .ge 6, 3) := by decide +kernel
theorem dX12_cell_20 : decode cX12_cell 20 = .ok (.bipush (-11), 2) := by decide +kernel
theorem dX12_cell_22 : decode cX12_cell 22 = .ok (.ireturn, 1) := by decide +kernel
theorem dX12_cell_23 : decode cX12_cell 23 = .ok (.aload_n 0, 1) := by decide +kernel
theorem dX12_cell_24 : decode cX12_cell 24 = .ok (.iload_n 2, 1) := by decide +kernel
theorem dX12_cell_25 : decode cX12_cell 25 = .ok (.iconst 0, 1) := by decide +kernel
theorem dX12_cell_26 : decode cX12_cell 26 = .ok (.aload_n 0, 1) := by decide +kernel
theorem dX12_cell_27 : decode cX12_cell 27 = .ok (.getfield 205, 3) := by decide +kernel
theorem dX12_cell_30 : decode cX12_cell 30 = .ok (.iload_n 1, 1) := by decide +kernel
theorem dX12_cell_31 : decode cX12_cell 31 = .ok (.iaload, 1) := by decide +kernel
theorem dX12_cell_32 : decode cX12_cell 32 = .ok (.iconst 1, 1) := by decide +kernel
theorem dX12_cell_33 : decode cX12_cell 33 = .ok (.isub, 1) := by decide +kernel
theorem dX12_cell_34 : decode cX12_cell 34 = .ok (.invokevirtual 217, 3) := by decide +kernel
theorem dX12_cell_37 : decode cX12_cell 37 = .ok (.ifCond .ne 6, 3) := by decide +kernel
theorem dX12_cell_40 : decode cX12_cell 40 = .ok (.bipush (-12), 2) := by decide +kernel
theorem dX12_cell_42 : decode cX12_cell 42 = .ok (.ireturn, 1) := by decide +kernel
theorem dX12_cell_43 : decode cX12_cell 43 = .ok (.aload_n 0, 1) := by decide +kernel
theorem dX12_cell_44 : decode cX12_cell 44 = .ok (.getfield 208, 3) := by decide +kernel
theorem dX12_cell_47 : decode cX12_cell 47 = .ok (.bipush 40, 2) := by decide +kernel
theorem dX12_cell_49 : decode cX12_cell 49 = .ok (.iload_n 1, 1) := by decide +kernel
theorem dX12_cell_50 : decode cX12_cell 50 = .ok (.imul, 1) := by decide +kernel
theorem dX12_cell_51 : decode cX12_cell 51 = .ok (.iload_n 2, 1) := by decide +kernel
theorem dX12_cell_52 : decode cX12_cell 52 = .ok (.iadd, 1) := by decide +kernel
theorem dX12_cell_53 : decode cX12_cell 53 = .ok (.aload_n 0, 1) := by decide +kernel
theorem dX12_cell_54 : decode cX12_cell 54 = .ok (.getfield 202, 3) := by decide +kernel
theorem dX12_cell_57 : decode cX12_cell 57 = .ok (.iload_n 1, 1) := by decide +kernel
theorem dX12_cell_58 : decode cX12_cell 58 = .ok (.iaload, 1) := by decide +kernel
theorem dX12_cell_59 : decode cX12_cell 59 = .ok (.ifCond .ne 8, 3) := by decide +kernel
theorem dX12_cell_62 : decode cX12_cell 62 = .ok (.iload_n 3, 1) := by decide +kernel
theorem dX12_cell_63 : decode cX12_cell 63 = .ok (.i2b, 1) := by decide +kernel
theorem dX12_cell_64 : decode cX12_cell 64 = .ok (.goto 19, 3) := by decide +kernel
theorem dX12_cell_67 : decode cX12_cell 67 = .ok (.aload_n 0, 1) := by decide +kernel
theorem dX12_cell_68 : decode cX12_cell 68 = .ok (.getfield 202, 3) := by decide +kernel
theorem dX12_cell_71 : decode cX12_cell 71 = .ok (.iload_n 1, 1) := by decide +kernel
theorem dX12_cell_72 : decode cX12_cell 72 = .ok (.iaload, 1) := by decide +kernel
theorem dX12_cell_73 : decode cX12_cell 73 = .ok (.iconst 1, 1) := by decide +kernel
theorem dX12_cell_74 : decode cX12_cell 74 = .ok (.if_icmp .ne 8, 3) := by decide +kernel
theorem dX12_cell_77 : decode cX12_cell 77 = .ok (.iload_n 3, 1) := by decide +kernel
theorem dX12_cell_78 : decode cX12_cell 78 = .ok (.i2s, 1) := by decide +kernel
theorem dX12_cell_79 : decode cX12_cell 79 = .ok (.goto 4, 3) := by decide +kernel
theorem dX12_cell_82 : decode cX12_cell 82 = .ok (.iload_n 3, 1) := by decide +kernel
theorem dX12_cell_83 : decode cX12_cell 83 = .ok (.iastore, 1) := by decide +kernel
theorem dX12_cell_84 : decode cX12_cell 84 = .ok (.iconst 1, 1) := by decide +kernel
theorem dX12_cell_85 : decode cX12_cell 85 = .ok (.ireturn, 1) := by decide +kernel
theorem dX12_lays_0 : decode cX12_lays 0 = .ok (.aload_n 0, 1) := by decide +kernel
theorem dX12_lays_1 : decode cX12_lays 1 = .ok (.iload_n 1, 1) := by decide +kernel
theorem dX12_lays_2 : decode cX12_lays 2 = .ok (.invokevirtual 396, 3) := by decide +kernel
theorem dX12_lays_5 : decode cX12_lays 5 = .ok (.ifCond .eq 25, 3) := by decide +kernel
theorem dX12_lays_8 : decode cX12_lays 8 = .ok (.aload_n 0, 1) := by decide +kernel
theorem dX12_lays_9 : decode cX12_lays 9 = .ok (.iload_n 2, 1) := by decide +kernel
theorem dX12_lays_10 : decode cX12_lays 10 = .ok (.iconst 0, 1) := by decide +kernel
theorem dX12_lays_11 : decode cX12_lays 11 = .ok (.iconst 2, 1) := by decide +kernel
theorem dX12_lays_12 : decode cX12_lays 12 = .ok (.invokevirtual 217, 3) := by decide +kernel
theorem dX12_lays_15 : decode cX12_lays 15 = .ok (.ifCond .eq 15, 3) := by decide +kernel
theorem dX12_lays_18 : decode cX12_lays 18 = .ok (.aload_n 0, 1) := by decide +kernel
theorem dX12_lays_19 : decode cX12_lays 19 = .ok (.iload 4, 2) := by decide +kernel
theorem dX12_lays_21 : decode cX12_lays 21 = .ok (.iconst 0, 1) := by decide +kernel
theorem dX12_lays_22 : decode cX12_lays 22 = .ok (.bipush 24, 2) := by decide +kernel
theorem dX12_lays_24 : decode cX12_lays 24 = .ok (.invokevirtual 217, 3) := by decide +kernel
theorem dX12_lays_27 : decode cX12_lays 27 = .ok (.ifCond .ne 6, 3) := by decide +kernel
theorem dX12_lays_30 : decode cX12_lays 30 = .ok (.bipush (-2), 2) := by decide +kernel
theorem dX12_lays_32 : decode cX12_lays 32 = .ok (.ireturn, 1) := by decide +kernel
theorem dX12_lays_33 : decode cX12_lays 33 = .ok (.aload_n 0, 1) := by decide +kernel
theorem dX12_lays_34 : decode cX12_lays 34 = .ok (.getfield 13, 3) := by decide +kernel
theorem dX12_lays_37 : decode cX12_lays 37 = .ok (.iload 4, 2) := by decide +kernel
theorem dX12_lays_39 : decode cX12_lays 39 = .ok (.iadd, 1) := by decide +kernel
theorem dX12_lays_40 : decode cX12_lays 40 = .ok (.sipush 9999, 3) := by decide +kernel
theorem dX12_lays_43 : decode cX12_lays 43 = .ok (.if_icmp .le 6, 3) := by decide +kernel
theorem dX12_lays_46 : decode cX12_lays 46 = .ok (.bipush (-4), 2) := by decide +kernel
theorem dX12_lays_48 : decode cX12_lays 48 = .ok (.ireturn, 1) := by decide +kernel
theorem dX12_lays_49 : decode cX12_lays 49 = .ok (.aload_n 0, 1) := by decide +kernel
theorem dX12_lays_50 : decode cX12_lays 50 = .ok (.getfield 202, 3) := by decide +kernel
theorem dX12_lays_53 : decode cX12_lays 53 = .ok (.iload_n 1, 1) := by decide +kernel
theorem dX12_lays_54 : decode cX12_lays 54 = .ok (.iaload, 1) := by decide +kernel
theorem dX12_lays_55 : decode cX12_lays 55 = .ok (.ifCond .lt 16, 3) := by decide +kernel
theorem dX12_lays_58 : decode cX12_lays 58 = .ok (.aload_n 0, 1) := by decide +kernel
theorem dX12_lays_59 : decode cX12_lays 59 = .ok (.getfield 202, 3) := by decide +kernel
theorem dX12_lays_62 : decode cX12_lays 62 = .ok (.iload_n 1, 1) := by decide +kernel
theorem dX12_lays_63 : decode cX12_lays 63 = .ok (.iaload, 1) := by decide +kernel
theorem dX12_lays_64 : decode cX12_lays 64 = .ok (.iload_n 2, 1) := by decide +kernel
theorem dX12_lays_65 : decode cX12_lays 65 = .ok (.if_icmp .eq 6, 3) := by decide +kernel
theorem dX12_lays_68 : decode cX12_lays 68 = .ok (.bipush (-13), 2) := by decide +kernel
theorem dX12_lays_70 : decode cX12_lays 70 = .ok (.ireturn, 1) := by decide +kernel
theorem dX12_lays_71 : decode cX12_lays 71 = .ok (.aload_n 0, 1) := by decide +kernel
theorem dX12_lays_72 : decode cX12_lays 72 = .ok (.getfield 202, 3) := by decide +kernel
theorem dX12_lays_75 : decode cX12_lays 75 = .ok (.iload_n 1, 1) := by decide +kernel
theorem dX12_lays_76 : decode cX12_lays 76 = .ok (.iaload, 1) := by decide +kernel
theorem dX12_lays_77 : decode cX12_lays 77 = .ok (.ifCond .ge 6, 3) := by decide +kernel
theorem dX12_lays_80 : decode cX12_lays 80 = .ok (.bipush (-11), 2) := by decide +kernel
theorem dX12_lays_82 : decode cX12_lays 82 = .ok (.ireturn, 1) := by decide +kernel
theorem dX12_lays_83 : decode cX12_lays 83 = .ok (.iconst 0, 1) := by decide +kernel
theorem dX12_lays_84 : decode cX12_lays 84 = .ok (.istore 5, 2) := by decide +kernel
theorem dX12_lays_86 : decode cX12_lays 86 = .ok (.iconst 0, 1) := by decide +kernel
theorem dX12_lays_87 : decode cX12_lays 87 = .ok (.istore 6, 2) := by decide +kernel
theorem dX12_lays_89 : decode cX12_lays 89 = .ok (.iload 6, 2) := by decide +kernel
theorem dX12_lays_91 : decode cX12_lays 91 = .ok (.iload 4, 2) := by decide +kernel
theorem dX12_lays_93 : decode cX12_lays 93 = .ok (.if_icmp .ge 66, 3) := by decide +kernel
theorem dX12_lays_96 : decode cX12_lays 96 = .ok (.iload_n 3, 1) := by decide +kernel
theorem dX12_lays_97 : decode cX12_lays 97 = .ok (.ifCond .lt 18, 3) := by decide +kernel
theorem dX12_lays_100 : decode cX12_lays 100 = .ok (.iload_n 3, 1) := by decide +kernel
theorem dX12_lays_101 : decode cX12_lays 101 = .ok (.aload_n 0, 1) := by decide +kernel
theorem dX12_lays_102 : decode cX12_lays 102 = .ok (.getfield 205, 3) := by decide +kernel
theorem dX12_lays_105 : decode cX12_lays 105 = .ok (.iload_n 1, 1) := by decide +kernel
theorem dX12_lays_106 : decode cX12_lays 106 = .ok (.iaload, 1) := by decide +kernel
theorem dX12_lays_107 : decode cX12_lays 107 = .ok (.iload 6, 2) := by decide +kernel
theorem dX12_lays_109 : decode cX12_lays 109 = .ok (.isub, 1) := by decide +kernel
theorem dX12_lays_110 : decode cX12_lays 110 = .ok (.iconst 1, 1) := by decide +kernel
theorem dX12_lays_111 : decode cX12_lays 111 = .ok (.isub, 1) := by decide +kernel
theorem dX12_lays_112 : decode cX12_lays 112 = .ok (.if_icmp .le 6, 3) := by decide +kernel
theorem dX12_lays_115 : decode cX12_lays 115 = .ok (.bipush (-12), 2) := by decide +kernel
theorem dX12_lays_117 : decode cX12_lays 117 = .ok (.ireturn, 1) := by decide +kernel
theorem dX12_lays_118 : decode cX12_lays 118 = .ok (.iload 5, 2) := by decide +kernel
theorem dX12_lays_120 : decode cX12_lays 120 = .ok (.aload_n 0, 1) := by decide +kernel
theorem dX12_lays_121 : decode cX12_lays 121 = .ok (.aload_n 0, 1) := by decide +kernel
theorem dX12_lays_122 : decode cX12_lays 122 = .ok (.getfield 208, 3) := by decide +kernel
theorem dX12_lays_125 : decode cX12_lays 125 = .ok (.bipush 40, 2) := by decide +kernel
theorem dX12_lays_127 : decode cX12_lays 127 = .ok (.iload_n 1, 1) := by decide +kernel
theorem dX12_lays_128 : decode cX12_lays 128 = .ok (.imul, 1) := by decide +kernel
theorem dX12_lays_129 : decode cX12_lays 129 = .ok (.iload_n 3, 1) := by decide +kernel
theorem dX12_lays_130 : decode cX12_lays 130 = .ok (.iadd, 1) := by decide +kernel
theorem dX12_lays_131 : decode cX12_lays 131 = .ok (.iload 6, 2) := by decide +kernel
theorem dX12_lays_133 : decode cX12_lays 133 = .ok (.iadd, 1) := by decide +kernel
theorem dX12_lays_134 : decode cX12_lays 134 = .ok (.iaload, 1) := by decide +kernel
theorem dX12_lays_135 : decode cX12_lays 135 = .ok (.invokevirtual 370, 3) := by decide +kernel
theorem dX12_lays_138 : decode cX12_lays 138 = .ok (.ifCond .lt 7, 3) := by decide +kernel
theorem dX12_lays_141 : decode cX12_lays 141 = .ok (.iconst 1, 1) := by decide +kernel
theorem dX12_lays_142 : decode cX12_lays 142 = .ok (.goto 4, 3) := by decide +kernel
theorem dX12_lays_145 : decode cX12_lays 145 = .ok (.iconst 0, 1) := by decide +kernel
theorem dX12_lays_146 : decode cX12_lays 146 = .ok (.iadd, 1) := by decide +kernel
theorem dX12_lays_147 : decode cX12_lays 147 = .ok (.istore 5, 2) := by decide +kernel
theorem dX12_lays_149 : decode cX12_lays 149 = .ok (.aload_n 0, 1) := by decide +kernel
theorem dX12_lays_150 : decode cX12_lays 150 = .ok (.invokevirtual 358, 3) := by decide +kernel
theorem dX12_lays_153 : decode cX12_lays 153 = .ok (.iinc 6 1, 3) := by decide +kernel
theorem dX12_lays_156 : decode cX12_lays 156 = .ok (.goto (-67), 3) := by decide +kernel
theorem dX12_lays_159 : decode cX12_lays 159 = .ok (.iload 5, 2) := by decide +kernel
theorem dX12_lays_161 : decode cX12_lays 161 = .ok (.ireturn, 1) := by decide +kernel
theorem dX12_isUnder_0 : decode cX12_isUnder 0 = .ok (.iload_n 2, 1) := by decide +kernel
theorem dX12_isUnder_1 : decode cX12_isUnder 1 = .ok (.ifCond .eq 28, 3) := by decide +kernel
theorem dX12_isUnder_4 : decode cX12_isUnder 4 = .ok (.iload_n 1, 1) := by decide +kernel
theorem dX12_isUnder_5 : decode cX12_isUnder 5 = .ok (.iload_n 2, 1) := by decide +kernel
theorem dX12_isUnder_6 : decode cX12_isUnder 6 = .ok (.if_icmp .eq 23, 3) := by decide +kernel
theorem dX12_isUnder_9 : decode cX12_isUnder 9 = .ok (.iload_n 2, 1) := by decide +kernel
theorem dX12_isUnder_10 : decode cX12_isUnder 10 = .ok (.iconst 1, 1) := by decide +kernel
theorem dX12_isUnder_11 : decode cX12_isUnder 11 = .ok (.if_icmp .ne 8, 3) := by decide +kernel
theorem dX12_isUnder_14 : decode cX12_isUnder 14 = .ok (.iload_n 1, 1) := by decide +kernel
theorem dX12_isUnder_15 : decode cX12_isUnder 15 = .ok (.iconst 5, 1) := by decide +kernel
theorem dX12_isUnder_16 : decode cX12_isUnder 16 = .ok (.if_icmp .eq 13, 3) := by decide +kernel
theorem dX12_isUnder_19 : decode cX12_isUnder 19 = .ok (.iload_n 2, 1) := by decide +kernel
theorem dX12_isUnder_20 : decode cX12_isUnder 20 = .ok (.iconst 2, 1) := by decide +kernel
theorem dX12_isUnder_21 : decode cX12_isUnder 21 = .ok (.if_icmp .ne 12, 3) := by decide +kernel
theorem dX12_isUnder_24 : decode cX12_isUnder 24 = .ok (.iload_n 1, 1) := by decide +kernel
theorem dX12_isUnder_25 : decode cX12_isUnder 25 = .ok (.iconst 4, 1) := by decide +kernel
theorem dX12_isUnder_26 : decode cX12_isUnder 26 = .ok (.if_icmp .ne 7, 3) := by decide +kernel
theorem dX12_isUnder_29 : decode cX12_isUnder 29 = .ok (.iconst 1, 1) := by decide +kernel
theorem dX12_isUnder_30 : decode cX12_isUnder 30 = .ok (.goto 4, 3) := by decide +kernel
theorem dX12_isUnder_33 : decode cX12_isUnder 33 = .ok (.iconst 0, 1) := by decide +kernel
theorem dX12_isUnder_34 : decode cX12_isUnder 34 = .ok (.ireturn, 1) := by decide +kernel
theorem dX12_taken_0 : decode cX12_taken 0 = .ok (.aload_n 0, 1) := by decide +kernel
theorem dX12_taken_1 : decode cX12_taken 1 = .ok (.iload_n 2, 1) := by decide +kernel
theorem dX12_taken_2 : decode cX12_taken 2 = .ok (.iconst 0, 1) := by decide +kernel
theorem dX12_taken_3 : decode cX12_taken 3 = .ok (.iconst 5, 1) := by decide +kernel
theorem dX12_taken_4 : decode cX12_taken 4 = .ok (.invokevirtual 217, 3) := by decide +kernel
theorem dX12_taken_7 : decode cX12_taken 7 = .ok (.ifCond .ne 6, 3) := by decide +kernel
theorem dX12_taken_10 : decode cX12_taken 10 = .ok (.bipush (-2), 2) := by decide +kernel
theorem dX12_taken_12 : decode cX12_taken 12 = .ok (.ireturn, 1) := by decide +kernel
theorem dX12_taken_13 : decode cX12_taken 13 = .ok (.aload_n 0, 1) := by decide +kernel
theorem dX12_taken_14 : decode cX12_taken 14 = .ok (.iload_n 1, 1) := by decide +kernel
theorem dX12_taken_15 : decode cX12_taken 15 = .ok (.invokevirtual 251, 3) := by decide +kernel
theorem dX12_taken_18 : decode cX12_taken 18 = .ok (.ifCond .ne 6, 3) := by decide +kernel
theorem dX12_taken_21 : decode cX12_taken 21 = .ok (.bipush (-11), 2) := by decide +kernel
theorem dX12_taken_23 : decode cX12_taken 23 = .ok (.ireturn, 1) := by decide +kernel
theorem dX12_taken_24 : decode cX12_taken 24 = .ok (.aload_n 0, 1) := by decide +kernel
theorem dX12_taken_25 : decode cX12_taken 25 = .ok (.aload_n 0, 1) := by decide +kernel
theorem dX12_taken_26 : decode cX12_taken 26 = .ok (.getfield 68, 3) := by decide +kernel
theorem dX12_taken_29 : decode cX12_taken 29 = .ok (.iload_n 1, 1) := by decide +kernel
theorem dX12_taken_30 : decode cX12_taken 30 = .ok (.iaload, 1) := by decide +kernel
theorem dX12_taken_31 : decode cX12_taken 31 = .ok (.iload_n 2, 1) := by decide +kernel
theorem dX12_taken_32 : decode cX12_taken 32 = .ok (.invokevirtual 399, 3) := by decide +kernel
theorem dX12_taken_35 : decode cX12_taken 35 = .ok (.ifCond .eq 12, 3) := by decide +kernel
theorem dX12_taken_38 : decode cX12_taken 38 = .ok (.aload_n 0, 1) := by decide +kernel
theorem dX12_taken_39 : decode cX12_taken 39 = .ok (.getfield 71, 3) := by decide +kernel
theorem dX12_taken_42 : decode cX12_taken 42 = .ok (.iload_n 1, 1) := by decide +kernel
theorem dX12_taken_43 : decode cX12_taken 43 = .ok (.iaload, 1) := by decide +kernel
theorem dX12_taken_44 : decode cX12_taken 44 = .ok (.goto 5, 3) := by decide +kernel
theorem dX12_taken_47 : decode cX12_taken 47 = .ok (.bipush (-13), 2) := by decide +kernel
theorem dX12_taken_49 : decode cX12_taken 49 = .ok (.ireturn, 1) := by decide +kernel
theorem dJ9_floorMod_7cf53_0 : decode cJ9_floorMod_7cf53 0 = .ok (.iload_n 0, 1) := by decide +kernel
theorem dJ9_floorMod_7cf53_1 : decode cJ9_floorMod_7cf53 1 = .ok (.iload_n 1, 1) := by decide +kernel
theorem dJ9_floorMod_7cf53_2 : decode cJ9_floorMod_7cf53 2 = .ok (.irem, 1) := by decide +kernel
theorem dJ9_floorMod_7cf53_3 : decode cJ9_floorMod_7cf53 3 = .ok (.istore_n 2, 1) := by decide +kernel
theorem dJ9_floorMod_7cf53_4 : decode cJ9_floorMod_7cf53 4 = .ok (.iload_n 0, 1) := by decide +kernel
theorem dJ9_floorMod_7cf53_5 : decode cJ9_floorMod_7cf53 5 = .ok (.iload_n 1, 1) := by decide +kernel
theorem dJ9_floorMod_7cf53_6 : decode cJ9_floorMod_7cf53 6 = .ok (.ixor, 1) := by decide +kernel
theorem dJ9_floorMod_7cf53_7 : decode cJ9_floorMod_7cf53 7 = .ok (.ifCond .ge 11, 3) := by decide +kernel
theorem dJ9_floorMod_7cf53_10 : decode cJ9_floorMod_7cf53 10 = .ok (.iload_n 2, 1) := by decide +kernel
theorem dJ9_floorMod_7cf53_11 : decode cJ9_floorMod_7cf53 11 = .ok (.ifCond .eq 7, 3) := by decide +kernel
theorem dJ9_floorMod_7cf53_14 : decode cJ9_floorMod_7cf53 14 = .ok (.iload_n 2, 1) := by decide +kernel
theorem dJ9_floorMod_7cf53_15 : decode cJ9_floorMod_7cf53 15 = .ok (.iload_n 1, 1) := by decide +kernel
theorem dJ9_floorMod_7cf53_16 : decode cJ9_floorMod_7cf53 16 = .ok (.iadd, 1) := by decide +kernel
theorem dJ9_floorMod_7cf53_17 : decode cJ9_floorMod_7cf53 17 = .ok (.ireturn, 1) := by decide +kernel
theorem dJ9_floorMod_7cf53_18 : decode cJ9_floorMod_7cf53 18 = .ok (.iload_n 2, 1) := by decide +kernel
theorem dJ9_floorMod_7cf53_19 : decode cJ9_floorMod_7cf53 19 = .ok (.ireturn, 1) := by decide +kernel
theorem dJ9_max_7cf53_0 : decode cJ9_max_7cf53 0 = .ok (.iload_n 0, 1) := by decide +kernel
theorem dJ9_max_7cf53_1 : decode cJ9_max_7cf53 1 = .ok (.iload_n 1, 1) := by decide +kernel
theorem dJ9_max_7cf53_2 : decode cJ9_max_7cf53 2 = .ok (.if_icmp .lt 7, 3) := by decide +kernel
theorem dJ9_max_7cf53_5 : decode cJ9_max_7cf53 5 = .ok (.iload_n 0, 1) := by decide +kernel
theorem dJ9_max_7cf53_6 : decode cJ9_max_7cf53 6 = .ok (.goto 4, 3) := by decide +kernel
theorem dJ9_max_7cf53_9 : decode cJ9_max_7cf53 9 = .ok (.iload_n 1, 1) := by decide +kernel
theorem dJ9_max_7cf53_10 : decode cJ9_max_7cf53 10 = .ok (.ireturn, 1) := by decide +kernel
theorem dJ9_min_7cf53_0 : decode cJ9_min_7cf53 0 = .ok (.iload_n 0, 1) := by decide +kernel
theorem dJ9_min_7cf53_1 : decode cJ9_min_7cf53 1 = .ok (.iload_n 1, 1) := by decide +kernel
theorem dJ9_min_7cf53_2 : decode cJ9_min_7cf53 2 = .ok (.if_icmp .gt 7, 3) := by decide +kernel
theorem dJ9_min_7cf53_5 : decode cJ9_min_7cf53 5 = .ok (.iload_n 0, 1) := by decide +kernel
theorem dJ9_min_7cf53_6 : decode cJ9_min_7cf53 6 = .ok (.goto 4, 3) := by decide +kernel
theorem dJ9_min_7cf53_9 : decode cJ9_min_7cf53 9 = .ok (.iload_n 1, 1) := by decide +kernel
theorem dJ9_min_7cf53_10 : decode cJ9_min_7cf53 10 = .ok (.ireturn, 1) := by decide +kernel
theorem dJ0_length_8abf5_0 : decode cJ0_length_8abf5 0 = .ok (.aload_n 0, 1) := by decide +kernel
theorem dJ0_length_8abf5_1 : decode cJ0_length_8abf5 1 = .ok (.getfield 9, 3) := by decide +kernel
theorem dJ0_length_8abf5_4 : decode cJ0_length_8abf5 4 = .ok (.arraylength, 1) := by decide +kernel
theorem dJ0_length_8abf5_5 : decode cJ0_length_8abf5 5 = .ok (.aload_n 0, 1) := by decide +kernel
theorem dJ0_length_8abf5_6 : decode cJ0_length_8abf5 6 = .ok (.invokevirtual 335, 3) := by decide +kernel
theorem dJ0_length_8abf5_9 : decode cJ0_length_8abf5 9 = .ok (.ishr, 1) := by decide +kernel
theorem dJ0_length_8abf5_10 : decode cJ0_length_8abf5 10 = .ok (.ireturn, 1) := by decide +kernel
theorem dJ0_charAt_5068e_0 : decode cJ0_charAt_5068e 0 = .ok (.aload_n 0, 1) := by decide +kernel
theorem dJ0_charAt_5068e_1 : decode cJ0_charAt_5068e 1 = .ok (.invokevirtual 492, 3) := by decide +kernel
theorem dJ0_charAt_5068e_4 : decode cJ0_charAt_5068e 4 = .ok (.ifCond .eq 12, 3) := by decide +kernel
theorem dJ0_charAt_5068e_7 : decode cJ0_charAt_5068e 7 = .ok (.aload_n 0, 1) := by decide +kernel
theorem dJ0_charAt_5068e_8 : decode cJ0_charAt_5068e 8 = .ok (.getfield 9, 3) := by decide +kernel
theorem dJ0_charAt_5068e_11 : decode cJ0_charAt_5068e 11 = .ok (.iload_n 1, 1) := by decide +kernel
theorem dJ0_charAt_5068e_12 : decode cJ0_charAt_5068e 12 = .ok (.invokestatic 495, 3) := by decide +kernel
theorem dJ0_charAt_5068e_15 : decode cJ0_charAt_5068e 15 = .ok (.ireturn, 1) := by decide +kernel
theorem dJ0_charAt_5068e_16 : decode cJ0_charAt_5068e 16 = .ok (.aload_n 0, 1) := by decide +kernel
theorem dJ0_charAt_5068e_17 : decode cJ0_charAt_5068e 17 = .ok (.getfield 9, 3) := by decide +kernel
theorem dJ0_charAt_5068e_20 : decode cJ0_charAt_5068e 20 = .ok (.iload_n 1, 1) := by decide +kernel
theorem dJ0_charAt_5068e_21 : decode cJ0_charAt_5068e 21 = .ok (.invokestatic 498, 3) := by decide +kernel
theorem dJ0_charAt_5068e_24 : decode cJ0_charAt_5068e 24 = .ok (.ireturn, 1) := by decide +kernel
theorem dJ0_coder_7d493_0 : decode cJ0_coder_7d493 0 = .ok (.getstatic 38, 3) := by decide +kernel
theorem dJ0_coder_7d493_3 : decode cJ0_coder_7d493 3 = .ok (.ifCond .eq 10, 3) := by decide +kernel
theorem dJ0_coder_7d493_6 : decode cJ0_coder_7d493 6 = .ok (.aload_n 0, 1) := by decide +kernel
theorem dJ0_coder_7d493_7 : decode cJ0_coder_7d493 7 = .ok (.getfield 15, 3) := by decide +kernel
theorem dJ0_coder_7d493_10 : decode cJ0_coder_7d493 10 = .ok (.goto 4, 3) := by decide +kernel
theorem dJ0_coder_7d493_13 : decode cJ0_coder_7d493 13 = .ok (.iconst 1, 1) := by decide +kernel
theorem dJ0_coder_7d493_14 : decode cJ0_coder_7d493 14 = .ok (.ireturn, 1) := by decide +kernel
theorem dJ0_isLatin1_aae02_0 : decode cJ0_isLatin1_aae02 0 = .ok (.getstatic 38, 3) := by decide +kernel
theorem dJ0_isLatin1_aae02_3 : decode cJ0_isLatin1_aae02 3 = .ok (.ifCond .eq 14, 3) := by decide +kernel
theorem dJ0_isLatin1_aae02_6 : decode cJ0_isLatin1_aae02 6 = .ok (.aload_n 0, 1) := by decide +kernel
theorem dJ0_isLatin1_aae02_7 : decode cJ0_isLatin1_aae02 7 = .ok (.getfield 15, 3) := by decide +kernel
theorem dJ0_isLatin1_aae02_10 : decode cJ0_isLatin1_aae02 10 = .ok (.ifCond .ne 7, 3) := by decide +kernel
theorem dJ0_isLatin1_aae02_13 : decode cJ0_isLatin1_aae02 13 = .ok (.iconst 1, 1) := by decide +kernel
theorem dJ0_isLatin1_aae02_14 : decode cJ0_isLatin1_aae02 14 = .ok (.goto 4, 3) := by decide +kernel
theorem dJ0_isLatin1_aae02_17 : decode cJ0_isLatin1_aae02 17 = .ok (.iconst 0, 1) := by decide +kernel
theorem dJ0_isLatin1_aae02_18 : decode cJ0_isLatin1_aae02 18 = .ok (.ireturn, 1) := by decide +kernel
theorem dJ0_checkIndex_df160_0 : decode cJ0_checkIndex_df160 0 = .ok (.iload_n 0, 1) := by decide +kernel
theorem dJ0_checkIndex_df160_1 : decode cJ0_checkIndex_df160 1 = .ok (.iload_n 1, 1) := by decide +kernel
theorem dJ0_checkIndex_df160_2 : decode cJ0_checkIndex_df160 2 = .ok (.getstatic 1053, 3) := by decide +kernel
theorem dJ0_checkIndex_df160_5 : decode cJ0_checkIndex_df160 5 = .ok (.invokestatic 1059, 3) := by decide +kernel
theorem dJ0_checkIndex_df160_8 : decode cJ0_checkIndex_df160 8 = .ok (.pop, 1) := by decide +kernel
theorem dJ0_checkIndex_df160_9 : decode cJ0_checkIndex_df160 9 = .ok (.return_, 1) := by decide +kernel
theorem dJ1_charAt_3b067_0 : decode cJ1_charAt_3b067 0 = .ok (.iload_n 1, 1) := by decide +kernel
theorem dJ1_charAt_3b067_1 : decode cJ1_charAt_3b067 1 = .ok (.aload_n 0, 1) := by decide +kernel
theorem dJ1_charAt_3b067_2 : decode cJ1_charAt_3b067 2 = .ok (.arraylength, 1) := by decide +kernel
theorem dJ1_charAt_3b067_3 : decode cJ1_charAt_3b067 3 = .ok (.invokestatic 9, 3) := by decide +kernel
theorem dJ1_charAt_3b067_6 : decode cJ1_charAt_3b067 6 = .ok (.aload_n 0, 1) := by decide +kernel
theorem dJ1_charAt_3b067_7 : decode cJ1_charAt_3b067 7 = .ok (.iload_n 1, 1) := by decide +kernel
theorem dJ1_charAt_3b067_8 : decode cJ1_charAt_3b067 8 = .ok (.baload, 1) := by decide +kernel
theorem dJ1_charAt_3b067_9 : decode cJ1_charAt_3b067 9 = .ok (.sipush 255, 3) := by decide +kernel
theorem dJ1_charAt_3b067_12 : decode cJ1_charAt_3b067 12 = .ok (.iand, 1) := by decide +kernel
theorem dJ1_charAt_3b067_13 : decode cJ1_charAt_3b067 13 = .ok (.i2c, 1) := by decide +kernel
theorem dJ1_charAt_3b067_14 : decode cJ1_charAt_3b067 14 = .ok (.ireturn, 1) := by decide +kernel
theorem dJ2_getChar_3b067_0 : decode cJ2_getChar_3b067 0 = .ok (.getstatic 44, 3) := by decide +kernel
theorem dJ2_getChar_3b067_3 : decode cJ2_getChar_3b067 3 = .ok (.ifCond .ne 25, 3) := by decide +kernel
theorem dJ2_getChar_3b067_6 : decode cJ2_getChar_3b067 6 = .ok (.iload_n 1, 1) := by decide +kernel
theorem dJ2_getChar_3b067_7 : decode cJ2_getChar_3b067 7 = .ok (.ifCond .lt 11, 3) := by decide +kernel
theorem dJ2_getChar_3b067_10 : decode cJ2_getChar_3b067 10 = .ok (.iload_n 1, 1) := by decide +kernel
theorem dJ2_getChar_3b067_11 : decode cJ2_getChar_3b067 11 = .ok (.aload_n 0, 1) := by decide +kernel
theorem dJ2_getChar_3b067_12 : decode cJ2_getChar_3b067 12 = .ok (.invokestatic 48, 3) := by decide +kernel
theorem dJ2_getChar_3b067_15 : decode cJ2_getChar_3b067 15 = .ok (.if_icmp .lt 13, 3) := by decide +kernel
theorem dJ2_getChar_3b067_18 : decode cJ2_getChar_3b067 18 = .ok (.new 52, 3) := by decide +kernel
theorem dJ2_getChar_3b067_21 : decode cJ2_getChar_3b067 21 = .ok (.dup, 1) := by decide +kernel
theorem dJ2_getChar_3b067_22 : decode cJ2_getChar_3b067 22 = .ok (.ldc 54, 2) := by decide +kernel
theorem dJ2_getChar_3b067_24 : decode cJ2_getChar_3b067 24 = .ok (.invokespecial 56, 3) := by decide +kernel
theorem dJ2_getChar_3b067_27 : decode cJ2_getChar_3b067 27 = .ok (.athrow, 1) := by decide +kernel
theorem dJ2_getChar_3b067_28 : decode cJ2_getChar_3b067 28 = .ok (.iload_n 1, 1) := by decide +kernel
theorem dJ2_getChar_3b067_29 : decode cJ2_getChar_3b067 29 = .ok (.iconst 1, 1) := by decide +kernel
theorem dJ2_getChar_3b067_30 : decode cJ2_getChar_3b067 30 = .ok (.ishl, 1) := by decide +kernel
theorem dJ2_getChar_3b067_31 : decode cJ2_getChar_3b067 31 = .ok (.istore_n 1, 1) := by decide +kernel
theorem dJ2_getChar_3b067_32 : decode cJ2_getChar_3b067 32 = .ok (.aload_n 0, 1) := by decide +kernel
theorem dJ2_getChar_3b067_33 : decode cJ2_getChar_3b067 33 = .ok (.iload_n 1, 1) := by decide +kernel
theorem dJ2_getChar_3b067_34 : decode cJ2_getChar_3b067 34 = .ok (.iinc 1 1, 3) := by decide +kernel
theorem dJ2_getChar_3b067_37 : decode cJ2_getChar_3b067 37 = .ok (.baload, 1) := by decide +kernel
theorem dJ2_getChar_3b067_38 : decode cJ2_getChar_3b067 38 = .ok (.sipush 255, 3) := by decide +kernel
theorem dJ2_getChar_3b067_41 : decode cJ2_getChar_3b067 41 = .ok (.iand, 1) := by decide +kernel
theorem dJ2_getChar_3b067_42 : decode cJ2_getChar_3b067 42 = .ok (.getstatic 59, 3) := by decide +kernel
theorem dJ2_getChar_3b067_45 : decode cJ2_getChar_3b067 45 = .ok (.ishl, 1) := by decide +kernel
theorem dJ2_getChar_3b067_46 : decode cJ2_getChar_3b067 46 = .ok (.aload_n 0, 1) := by decide +kernel
theorem dJ2_getChar_3b067_47 : decode cJ2_getChar_3b067 47 = .ok (.iload_n 1, 1) := by decide +kernel
theorem dJ2_getChar_3b067_48 : decode cJ2_getChar_3b067 48 = .ok (.baload, 1) := by decide +kernel
theorem dJ2_getChar_3b067_49 : decode cJ2_getChar_3b067 49 = .ok (.sipush 255, 3) := by decide +kernel
theorem dJ2_getChar_3b067_52 : decode cJ2_getChar_3b067 52 = .ok (.iand, 1) := by decide +kernel
theorem dJ2_getChar_3b067_53 : decode cJ2_getChar_3b067 53 = .ok (.getstatic 63, 3) := by decide +kernel
theorem dJ2_getChar_3b067_56 : decode cJ2_getChar_3b067 56 = .ok (.ishl, 1) := by decide +kernel
theorem dJ2_getChar_3b067_57 : decode cJ2_getChar_3b067 57 = .ok (.ior, 1) := by decide +kernel
theorem dJ2_getChar_3b067_58 : decode cJ2_getChar_3b067 58 = .ok (.i2c, 1) := by decide +kernel
theorem dJ2_getChar_3b067_59 : decode cJ2_getChar_3b067 59 = .ok (.ireturn, 1) := by decide +kernel
theorem dJ2_length_9d52b_0 : decode cJ2_length_9d52b 0 = .ok (.aload_n 0, 1) := by decide +kernel
theorem dJ2_length_9d52b_1 : decode cJ2_length_9d52b 1 = .ok (.arraylength, 1) := by decide +kernel
theorem dJ2_length_9d52b_2 : decode cJ2_length_9d52b 2 = .ok (.iconst 1, 1) := by decide +kernel
theorem dJ2_length_9d52b_3 : decode cJ2_length_9d52b 3 = .ok (.ishr, 1) := by decide +kernel
theorem dJ2_length_9d52b_4 : decode cJ2_length_9d52b 4 = .ok (.ireturn, 1) := by decide +kernel
theorem dJ2_charAt_3b067_0 : decode cJ2_charAt_3b067 0 = .ok (.iload_n 1, 1) := by decide +kernel
theorem dJ2_charAt_3b067_1 : decode cJ2_charAt_3b067 1 = .ok (.aload_n 0, 1) := by decide +kernel
theorem dJ2_charAt_3b067_2 : decode cJ2_charAt_3b067 2 = .ok (.invokestatic 67, 3) := by decide +kernel
theorem dJ2_charAt_3b067_5 : decode cJ2_charAt_3b067 5 = .ok (.aload_n 0, 1) := by decide +kernel
theorem dJ2_charAt_3b067_6 : decode cJ2_charAt_3b067 6 = .ok (.iload_n 1, 1) := by decide +kernel
theorem dJ2_charAt_3b067_7 : decode cJ2_charAt_3b067 7 = .ok (.invokestatic 71, 3) := by decide +kernel
theorem dJ2_charAt_3b067_10 : decode cJ2_charAt_3b067 10 = .ok (.ireturn, 1) := by decide +kernel
theorem dJ2_checkIndex_2214a_0 : decode cJ2_checkIndex_2214a 0 = .ok (.iload_n 0, 1) := by decide +kernel
theorem dJ2_checkIndex_2214a_1 : decode cJ2_checkIndex_2214a 1 = .ok (.aload_n 1, 1) := by decide +kernel
theorem dJ2_checkIndex_2214a_2 : decode cJ2_checkIndex_2214a 2 = .ok (.invokestatic 48, 3) := by decide +kernel
theorem dJ2_checkIndex_2214a_5 : decode cJ2_checkIndex_2214a 5 = .ok (.invokestatic 414, 3) := by decide +kernel
theorem dJ2_checkIndex_2214a_8 : decode cJ2_checkIndex_2214a 8 = .ok (.return_, 1) := by decide +kernel
theorem dJ7_fill_53178_0 : decode cJ7_fill_53178 0 = .ok (.iconst 0, 1) := by decide +kernel
theorem dJ7_fill_53178_1 : decode cJ7_fill_53178 1 = .ok (.istore_n 2, 1) := by decide +kernel
theorem dJ7_fill_53178_2 : decode cJ7_fill_53178 2 = .ok (.aload_n 0, 1) := by decide +kernel
theorem dJ7_fill_53178_3 : decode cJ7_fill_53178 3 = .ok (.arraylength, 1) := by decide +kernel
theorem dJ7_fill_53178_4 : decode cJ7_fill_53178 4 = .ok (.istore_n 3, 1) := by decide +kernel
theorem dJ7_fill_53178_5 : decode cJ7_fill_53178 5 = .ok (.iload_n 2, 1) := by decide +kernel
theorem dJ7_fill_53178_6 : decode cJ7_fill_53178 6 = .ok (.iload_n 3, 1) := by decide +kernel
theorem dJ7_fill_53178_7 : decode cJ7_fill_53178 7 = .ok (.if_icmp .ge 13, 3) := by decide +kernel
theorem dJ7_fill_53178_10 : decode cJ7_fill_53178 10 = .ok (.aload_n 0, 1) := by decide +kernel
theorem dJ7_fill_53178_11 : decode cJ7_fill_53178 11 = .ok (.iload_n 2, 1) := by decide +kernel
theorem dJ7_fill_53178_12 : decode cJ7_fill_53178 12 = .ok (.iload_n 1, 1) := by decide +kernel
theorem dJ7_fill_53178_13 : decode cJ7_fill_53178 13 = .ok (.iastore, 1) := by decide +kernel
theorem dJ7_fill_53178_14 : decode cJ7_fill_53178 14 = .ok (.iinc 2 1, 3) := by decide +kernel
theorem dJ7_fill_53178_17 : decode cJ7_fill_53178 17 = .ok (.goto (-12), 3) := by decide +kernel
theorem dJ7_fill_53178_20 : decode cJ7_fill_53178 20 = .ok (.return_, 1) := by decide +kernel
theorem dJ7_checkLength_df160_0 : decode cJ7_checkLength_df160 0 = .ok (.iload_n 1, 1) := by decide +kernel
theorem dJ7_checkLength_df160_1 : decode cJ7_checkLength_df160 1 = .ok (.iload_n 0, 1) := by decide +kernel
theorem dJ7_checkLength_df160_2 : decode cJ7_checkLength_df160 2 = .ok (.if_icmp .ge 35, 3) := by decide +kernel
theorem dJ7_checkLength_df160_5 : decode cJ7_checkLength_df160 5 = .ok (.new 43, 3) := by decide +kernel
theorem dJ7_checkLength_df160_8 : decode cJ7_checkLength_df160 8 = .ok (.dup, 1) := by decide +kernel
theorem dJ7_checkLength_df160_9 : decode cJ7_checkLength_df160 9 = .ok (.new 45, 3) := by decide +kernel
theorem dJ7_checkLength_df160_12 : decode cJ7_checkLength_df160 12 = .ok (.dup, 1) := by decide +kernel
theorem dJ7_checkLength_df160_13 : decode cJ7_checkLength_df160 13 = .ok (.invokespecial 47, 3) := by decide +kernel
theorem dJ7_checkLength_df160_16 : decode cJ7_checkLength_df160 16 = .ok (.iload_n 0, 1) := by decide +kernel
theorem dJ7_checkLength_df160_17 : decode cJ7_checkLength_df160 17 = .ok (.invokevirtual 54, 3) := by decide +kernel
theorem dJ7_checkLength_df160_20 : decode cJ7_checkLength_df160 20 = .ok (.ldc_w 337, 3) := by decide +kernel
theorem dJ7_checkLength_df160_23 : decode cJ7_checkLength_df160 23 = .ok (.invokevirtual 50, 3) := by decide +kernel
theorem dJ7_checkLength_df160_26 : decode cJ7_checkLength_df160 26 = .ok (.iload_n 1, 1) := by decide +kernel
theorem dJ7_checkLength_df160_27 : decode cJ7_checkLength_df160 27 = .ok (.invokevirtual 54, 3) := by decide +kernel
theorem dJ7_checkLength_df160_30 : decode cJ7_checkLength_df160 30 = .ok (.invokevirtual 61, 3) := by decide +kernel
theorem dJ7_checkLength_df160_33 : decode cJ7_checkLength_df160 33 = .ok (.invokespecial 65, 3) := by decide +kernel
theorem dJ7_checkLength_df160_36 : decode cJ7_checkLength_df160 36 = .ok (.athrow, 1) := by decide +kernel
theorem dJ7_checkLength_df160_37 : decode cJ7_checkLength_df160 37 = .ok (.return_, 1) := by decide +kernel
theorem dJ7_copyOfRange_feecc_0 : decode cJ7_copyOfRange_feecc 0 = .ok (.iload_n 1, 1) := by decide +kernel
theorem dJ7_copyOfRange_feecc_1 : decode cJ7_copyOfRange_feecc 1 = .ok (.ifCond .ne 9, 3) := by decide +kernel
theorem dJ7_copyOfRange_feecc_4 : decode cJ7_copyOfRange_feecc 4 = .ok (.iload_n 2, 1) := by decide +kernel
theorem dJ7_copyOfRange_feecc_5 : decode cJ7_copyOfRange_feecc 5 = .ok (.aload_n 0, 1) := by decide +kernel
theorem dJ7_copyOfRange_feecc_6 : decode cJ7_copyOfRange_feecc 6 = .ok (.arraylength, 1) := by decide +kernel
theorem dJ7_copyOfRange_feecc_7 : decode cJ7_copyOfRange_feecc 7 = .ok (.if_icmp .eq 10, 3) := by decide +kernel
theorem dJ7_copyOfRange_feecc_10 : decode cJ7_copyOfRange_feecc 10 = .ok (.aload_n 0, 1) := by decide +kernel
theorem dJ7_copyOfRange_feecc_11 : decode cJ7_copyOfRange_feecc 11 = .ok (.iload_n 1, 1) := by decide +kernel
theorem dJ7_copyOfRange_feecc_12 : decode cJ7_copyOfRange_feecc 12 = .ok (.iload_n 2, 1) := by decide +kernel
theorem dJ7_copyOfRange_feecc_13 : decode cJ7_copyOfRange_feecc 13 = .ok (.invokestatic 351, 3) := by decide +kernel
theorem dJ7_copyOfRange_feecc_16 : decode cJ7_copyOfRange_feecc 16 = .ok (.areturn, 1) := by decide +kernel
theorem dJ7_copyOfRange_feecc_17 : decode cJ7_copyOfRange_feecc 17 = .ok (.aload_n 0, 1) := by decide +kernel
theorem dJ7_copyOfRange_feecc_18 : decode cJ7_copyOfRange_feecc 18 = .ok (.invokevirtual 316, 3) := by decide +kernel
theorem dJ7_copyOfRange_feecc_21 : decode cJ7_copyOfRange_feecc 21 = .ok (.checkcast 317, 3) := by decide +kernel
theorem dJ7_copyOfRange_feecc_24 : decode cJ7_copyOfRange_feecc 24 = .ok (.areturn, 1) := by decide +kernel
theorem dJ7_copyOfRangeInt_feecc_0 : decode cJ7_copyOfRangeInt_feecc 0 = .ok (.iload_n 1, 1) := by decide +kernel
theorem dJ7_copyOfRangeInt_feecc_1 : decode cJ7_copyOfRangeInt_feecc 1 = .ok (.iload_n 2, 1) := by decide +kernel
theorem dJ7_copyOfRangeInt_feecc_2 : decode cJ7_copyOfRangeInt_feecc 2 = .ok (.invokestatic 343, 3) := by decide +kernel
theorem dJ7_copyOfRangeInt_feecc_5 : decode cJ7_copyOfRangeInt_feecc 5 = .ok (.iload_n 2, 1) := by decide +kernel
theorem dJ7_copyOfRangeInt_feecc_6 : decode cJ7_copyOfRangeInt_feecc 6 = .ok (.iload_n 1, 1) := by decide +kernel
theorem dJ7_copyOfRangeInt_feecc_7 : decode cJ7_copyOfRangeInt_feecc 7 = .ok (.isub, 1) := by decide +kernel
theorem dJ7_copyOfRangeInt_feecc_8 : decode cJ7_copyOfRangeInt_feecc 8 = .ok (.istore_n 3, 1) := by decide +kernel
theorem dJ7_copyOfRangeInt_feecc_9 : decode cJ7_copyOfRangeInt_feecc 9 = .ok (.iload_n 3, 1) := by decide +kernel
theorem dJ7_copyOfRangeInt_feecc_10 : decode cJ7_copyOfRangeInt_feecc 10 = .ok (.newarray .int, 2) := by decide +kernel
theorem dJ7_copyOfRangeInt_feecc_12 : decode cJ7_copyOfRangeInt_feecc 12 = .ok (.astore 4, 2) := by decide +kernel
theorem dJ7_copyOfRangeInt_feecc_14 : decode cJ7_copyOfRangeInt_feecc 14 = .ok (.aload_n 0, 1) := by decide +kernel
theorem dJ7_copyOfRangeInt_feecc_15 : decode cJ7_copyOfRangeInt_feecc 15 = .ok (.iload_n 1, 1) := by decide +kernel
theorem dJ7_copyOfRangeInt_feecc_16 : decode cJ7_copyOfRangeInt_feecc 16 = .ok (.aload 4, 2) := by decide +kernel
theorem dJ7_copyOfRangeInt_feecc_18 : decode cJ7_copyOfRangeInt_feecc 18 = .ok (.iconst 0, 1) := by decide +kernel
theorem dJ7_copyOfRangeInt_feecc_19 : decode cJ7_copyOfRangeInt_feecc 19 = .ok (.aload_n 0, 1) := by decide +kernel
theorem dJ7_copyOfRangeInt_feecc_20 : decode cJ7_copyOfRangeInt_feecc 20 = .ok (.arraylength, 1) := by decide +kernel
theorem dJ7_copyOfRangeInt_feecc_21 : decode cJ7_copyOfRangeInt_feecc 21 = .ok (.iload_n 1, 1) := by decide +kernel
theorem dJ7_copyOfRangeInt_feecc_22 : decode cJ7_copyOfRangeInt_feecc 22 = .ok (.isub, 1) := by decide +kernel
theorem dJ7_copyOfRangeInt_feecc_23 : decode cJ7_copyOfRangeInt_feecc 23 = .ok (.iload_n 3, 1) := by decide +kernel
theorem dJ7_copyOfRangeInt_feecc_24 : decode cJ7_copyOfRangeInt_feecc 24 = .ok (.invokestatic 304, 3) := by decide +kernel
theorem dJ7_copyOfRangeInt_feecc_27 : decode cJ7_copyOfRangeInt_feecc 27 = .ok (.invokestatic 150, 3) := by decide +kernel
theorem dJ7_copyOfRangeInt_feecc_30 : decode cJ7_copyOfRangeInt_feecc 30 = .ok (.aload 4, 2) := by decide +kernel
theorem dJ7_copyOfRangeInt_feecc_32 : decode cJ7_copyOfRangeInt_feecc 32 = .ok (.areturn, 1) := by decide +kernel
theorem dJ3_checkIndex_8e157_0 : decode cJ3_checkIndex_8e157 0 = .ok (.iload_n 0, 1) := by decide +kernel
theorem dJ3_checkIndex_8e157_1 : decode cJ3_checkIndex_8e157 1 = .ok (.ifCond .lt 8, 3) := by decide +kernel
theorem dJ3_checkIndex_8e157_4 : decode cJ3_checkIndex_8e157 4 = .ok (.iload_n 0, 1) := by decide +kernel
theorem dJ3_checkIndex_8e157_5 : decode cJ3_checkIndex_8e157 5 = .ok (.iload_n 1, 1) := by decide +kernel
theorem dJ3_checkIndex_8e157_6 : decode cJ3_checkIndex_8e157 6 = .ok (.if_icmp .lt 10, 3) := by decide +kernel
theorem dJ3_checkIndex_8e157_9 : decode cJ3_checkIndex_8e157 9 = .ok (.aload_n 2, 1) := by decide +kernel
theorem dJ3_checkIndex_8e157_10 : decode cJ3_checkIndex_8e157 10 = .ok (.iload_n 0, 1) := by decide +kernel
theorem dJ3_checkIndex_8e157_11 : decode cJ3_checkIndex_8e157 11 = .ok (.iload_n 1, 1) := by decide +kernel
theorem dJ3_checkIndex_8e157_12 : decode cJ3_checkIndex_8e157 12 = .ok (.invokestatic 95, 3) := by decide +kernel
theorem dJ3_checkIndex_8e157_15 : decode cJ3_checkIndex_8e157 15 = .ok (.athrow, 1) := by decide +kernel
theorem dJ3_checkIndex_8e157_16 : decode cJ3_checkIndex_8e157 16 = .ok (.iload_n 0, 1) := by decide +kernel
theorem dJ3_checkIndex_8e157_17 : decode cJ3_checkIndex_8e157 17 = .ok (.ireturn, 1) := by decide +kernel
theorem dL_cell_0 : decode cL_cell 0 = .ok (.iload_n 1, 1) := by decide +kernel
theorem dL_cell_1 : decode cL_cell 1 = .ok (.aload_n 0, 1) := by decide +kernel
theorem dL_cell_2 : decode cL_cell 2 = .ok (.arraylength, 1) := by decide +kernel
theorem dL_cell_3 : decode cL_cell 3 = .ok (.if_icmp .ge 9, 3) := by decide +kernel
theorem dL_cell_6 : decode cL_cell 6 = .ok (.aload_n 0, 1) := by decide +kernel
theorem dL_cell_7 : decode cL_cell 7 = .ok (.iload_n 1, 1) := by decide +kernel
theorem dL_cell_8 : decode cL_cell 8 = .ok (.iaload, 1) := by decide +kernel
theorem dL_cell_9 : decode cL_cell 9 = .ok (.goto 4, 3) := by decide +kernel
theorem dL_cell_12 : decode cL_cell 12 = .ok (.iconst 0, 1) := by decide +kernel
theorem dL_cell_13 : decode cL_cell 13 = .ok (.ireturn, 1) := by decide +kernel
theorem dL_law_0 : decode cL_law 0 = .ok (.new 7, 3) := by decide +kernel
theorem dL_law_3 : decode cL_law 3 = .ok (.dup, 1) := by decide +kernel
theorem dL_law_4 : decode cL_law 4 = .ok (.aload_n 0, 1) := by decide +kernel
theorem dL_law_5 : decode cL_law 5 = .ok (.iconst 0, 1) := by decide +kernel
theorem dL_law_6 : decode cL_law 6 = .ok (.invokestatic 9, 3) := by decide +kernel
theorem dL_law_9 : decode cL_law 9 = .ok (.invokespecial 15, 3) := by decide +kernel
theorem dL_law_12 : decode cL_law 12 = .ok (.astore_n 1, 1) := by decide +kernel
theorem dL_law_13 : decode cL_law 13 = .ok (.new 18, 3) := by decide +kernel
theorem dL_law_16 : decode cL_law 16 = .ok (.dup, 1) := by decide +kernel
theorem dL_law_17 : decode cL_law 17 = .ok (.aload_n 0, 1) := by decide +kernel
theorem dL_law_18 : decode cL_law 18 = .ok (.iconst 0, 1) := by decide +kernel
theorem dL_law_19 : decode cL_law 19 = .ok (.invokestatic 9, 3) := by decide +kernel
theorem dL_law_22 : decode cL_law 22 = .ok (.invokespecial 20, 3) := by decide +kernel
theorem dL_law_25 : decode cL_law 25 = .ok (.astore_n 2, 1) := by decide +kernel
theorem dL_law_26 : decode cL_law 26 = .ok (.iconst 1, 1) := by decide +kernel
theorem dL_law_27 : decode cL_law 27 = .ok (.istore_n 3, 1) := by decide +kernel
theorem dL_law_28 : decode cL_law 28 = .ok (.iload_n 3, 1) := by decide +kernel
theorem dL_law_29 : decode cL_law 29 = .ok (.aload_n 0, 1) := by decide +kernel
theorem dL_law_30 : decode cL_law 30 = .ok (.arraylength, 1) := by decide +kernel
theorem dL_law_31 : decode cL_law 31 = .ok (.iconst 5, 1) := by decide +kernel
theorem dL_law_32 : decode cL_law 32 = .ok (.isub, 1) := by decide +kernel
theorem dL_law_33 : decode cL_law 33 = .ok (.if_icmp .gt 1132, 3) := by decide +kernel
theorem dL_law_36 : decode cL_law 36 = .ok (.aload_n 0, 1) := by decide +kernel
theorem dL_law_37 : decode cL_law 37 = .ok (.iload_n 3, 1) := by decide +kernel
theorem dL_law_38 : decode cL_law 38 = .ok (.iaload, 1) := by decide +kernel
theorem dL_law_39 : decode cL_law 39 = .ok (.bipush 31, 2) := by decide +kernel
theorem dL_law_41 : decode cL_law 41 = .ok (.iand, 1) := by decide +kernel
theorem dL_law_42 : decode cL_law 42 = .ok (.tableswitch 1117 0 29 #[134, 177, 210, 233, 266, 289, 312, 335, 378, 411, 445, 478, 501, 564, 577, 600, 644, 667, 700, 723, 756, 779, 822, 856, 889, 922, 945, 988, 1031, 1084], 134) := by decide +kernel
theorem dL_law_176 : decode cL_law 176 = .ok (.aload_n 1, 1) := by decide +kernel
theorem dL_law_177 : decode cL_law 177 = .ok (.aload_n 0, 1) := by decide +kernel
theorem dL_law_178 : decode cL_law 178 = .ok (.iload_n 3, 1) := by decide +kernel
theorem dL_law_179 : decode cL_law 179 = .ok (.iconst 1, 1) := by decide +kernel
theorem dL_law_180 : decode cL_law 180 = .ok (.iadd, 1) := by decide +kernel
theorem dL_law_181 : decode cL_law 181 = .ok (.iaload, 1) := by decide +kernel
theorem dL_law_182 : decode cL_law 182 = .ok (.aload_n 0, 1) := by decide +kernel
theorem dL_law_183 : decode cL_law 183 = .ok (.iload_n 3, 1) := by decide +kernel
theorem dL_law_184 : decode cL_law 184 = .ok (.iconst 2, 1) := by decide +kernel
theorem dL_law_185 : decode cL_law 185 = .ok (.iadd, 1) := by decide +kernel
theorem dL_law_186 : decode cL_law 186 = .ok (.iaload, 1) := by decide +kernel
theorem dL_law_187 : decode cL_law 187 = .ok (.aload_n 0, 1) := by decide +kernel
theorem dL_law_188 : decode cL_law 188 = .ok (.iload_n 3, 1) := by decide +kernel
theorem dL_law_189 : decode cL_law 189 = .ok (.iconst 3, 1) := by decide +kernel
theorem dL_law_190 : decode cL_law 190 = .ok (.iadd, 1) := by decide +kernel
theorem dL_law_191 : decode cL_law 191 = .ok (.iaload, 1) := by decide +kernel
theorem dL_law_192 : decode cL_law 192 = .ok (.invokevirtual 21, 3) := by decide +kernel
theorem dL_law_195 : decode cL_law 195 = .ok (.aload_n 2, 1) := by decide +kernel
theorem dL_law_196 : decode cL_law 196 = .ok (.aload_n 0, 1) := by decide +kernel
theorem dL_law_197 : decode cL_law 197 = .ok (.iload_n 3, 1) := by decide +kernel
theorem dL_law_198 : decode cL_law 198 = .ok (.iconst 1, 1) := by decide +kernel
theorem dL_law_199 : decode cL_law 199 = .ok (.iadd, 1) := by decide +kernel
theorem dL_law_200 : decode cL_law 200 = .ok (.iaload, 1) := by decide +kernel
theorem dL_law_201 : decode cL_law 201 = .ok (.aload_n 0, 1) := by decide +kernel
theorem dL_law_202 : decode cL_law 202 = .ok (.iload_n 3, 1) := by decide +kernel
theorem dL_law_203 : decode cL_law 203 = .ok (.iconst 2, 1) := by decide +kernel
theorem dL_law_204 : decode cL_law 204 = .ok (.iadd, 1) := by decide +kernel
theorem dL_law_205 : decode cL_law 205 = .ok (.iaload, 1) := by decide +kernel
theorem dL_law_206 : decode cL_law 206 = .ok (.aload_n 0, 1) := by decide +kernel
theorem dL_law_207 : decode cL_law 207 = .ok (.iload_n 3, 1) := by decide +kernel
theorem dL_law_208 : decode cL_law 208 = .ok (.iconst 3, 1) := by decide +kernel
theorem dL_law_209 : decode cL_law 209 = .ok (.iadd, 1) := by decide +kernel
theorem dL_law_210 : decode cL_law 210 = .ok (.iaload, 1) := by decide +kernel
theorem dL_law_211 : decode cL_law 211 = .ok (.invokevirtual 25, 3) := by decide +kernel
theorem dL_law_214 : decode cL_law 214 = .ok (.if_icmp .eq 945, 3) := by decide +kernel
theorem dL_law_217 : decode cL_law 217 = .ok (.iconst 0, 1) := by decide +kernel
theorem dL_law_218 : decode cL_law 218 = .ok (.ireturn, 1) := by decide +kernel
theorem dL_law_219 : decode cL_law 219 = .ok (.aload_n 1, 1) := by decide +kernel
theorem dL_law_220 : decode cL_law 220 = .ok (.aload_n 0, 1) := by decide +kernel
theorem dL_law_221 : decode cL_law 221 = .ok (.iload_n 3, 1) := by decide +kernel
theorem dL_law_222 : decode cL_law 222 = .ok (.iconst 1, 1) := by decide +kernel
theorem dL_law_223 : decode cL_law 223 = .ok (.iadd, 1) := by decide +kernel
theorem dL_law_224 : decode cL_law 224 = .ok (.iaload, 1) := by decide +kernel
theorem dL_law_225 : decode cL_law 225 = .ok (.aload_n 0, 1) := by decide +kernel
theorem dL_law_226 : decode cL_law 226 = .ok (.iload_n 3, 1) := by decide +kernel
theorem dL_law_227 : decode cL_law 227 = .ok (.iconst 2, 1) := by decide +kernel
theorem dL_law_228 : decode cL_law 228 = .ok (.iadd, 1) := by decide +kernel
theorem dL_law_229 : decode cL_law 229 = .ok (.iaload, 1) := by decide +kernel
theorem dL_law_230 : decode cL_law 230 = .ok (.invokevirtual 26, 3) := by decide +kernel
theorem dL_law_233 : decode cL_law 233 = .ok (.aload_n 2, 1) := by decide +kernel
theorem dL_law_234 : decode cL_law 234 = .ok (.aload_n 0, 1) := by decide +kernel
theorem dL_law_235 : decode cL_law 235 = .ok (.iload_n 3, 1) := by decide +kernel
theorem dL_law_236 : decode cL_law 236 = .ok (.iconst 1, 1) := by decide +kernel
theorem dL_law_237 : decode cL_law 237 = .ok (.iadd, 1) := by decide +kernel
theorem dL_law_238 : decode cL_law 238 = .ok (.iaload, 1) := by decide +kernel
theorem dL_law_239 : decode cL_law 239 = .ok (.aload_n 0, 1) := by decide +kernel
theorem dL_law_240 : decode cL_law 240 = .ok (.iload_n 3, 1) := by decide +kernel
theorem dL_law_241 : decode cL_law 241 = .ok (.iconst 2, 1) := by decide +kernel
theorem dL_law_242 : decode cL_law 242 = .ok (.iadd, 1) := by decide +kernel
theorem dL_law_243 : decode cL_law 243 = .ok (.iaload, 1) := by decide +kernel
theorem dL_law_244 : decode cL_law 244 = .ok (.invokevirtual 30, 3) := by decide +kernel
theorem dL_law_247 : decode cL_law 247 = .ok (.if_icmp .eq 912, 3) := by decide +kernel
theorem dL_law_250 : decode cL_law 250 = .ok (.iconst 0, 1) := by decide +kernel
theorem dL_law_251 : decode cL_law 251 = .ok (.ireturn, 1) := by decide +kernel
theorem dL_law_252 : decode cL_law 252 = .ok (.aload_n 1, 1) := by decide +kernel
theorem dL_law_253 : decode cL_law 253 = .ok (.aload_n 0, 1) := by decide +kernel
theorem dL_law_254 : decode cL_law 254 = .ok (.iload_n 3, 1) := by decide +kernel
theorem dL_law_255 : decode cL_law 255 = .ok (.iconst 1, 1) := by decide +kernel
theorem dL_law_256 : decode cL_law 256 = .ok (.iadd, 1) := by decide +kernel
theorem dL_law_257 : decode cL_law 257 = .ok (.iaload, 1) := by decide +kernel
theorem dL_law_258 : decode cL_law 258 = .ok (.invokevirtual 31, 3) := by decide +kernel
theorem dL_law_261 : decode cL_law 261 = .ok (.aload_n 2, 1) := by decide +kernel
theorem dL_law_262 : decode cL_law 262 = .ok (.aload_n 0, 1) := by decide +kernel
theorem dL_law_263 : decode cL_law 263 = .ok (.iload_n 3, 1) := by decide +kernel
theorem dL_law_264 : decode cL_law 264 = .ok (.iconst 1, 1) := by decide +kernel
theorem dL_law_265 : decode cL_law 265 = .ok (.iadd, 1) := by decide +kernel
theorem dL_law_266 : decode cL_law 266 = .ok (.iaload, 1) := by decide +kernel
theorem dL_law_267 : decode cL_law 267 = .ok (.invokevirtual 35, 3) := by decide +kernel
theorem dL_law_270 : decode cL_law 270 = .ok (.if_icmp .eq 889, 3) := by decide +kernel
theorem dL_law_273 : decode cL_law 273 = .ok (.iconst 0, 1) := by decide +kernel
theorem dL_law_274 : decode cL_law 274 = .ok (.ireturn, 1) := by decide +kernel
theorem dL_law_275 : decode cL_law 275 = .ok (.aload_n 1, 1) := by decide +kernel
theorem dL_law_276 : decode cL_law 276 = .ok (.aload_n 0, 1) := by decide +kernel
theorem dL_law_277 : decode cL_law 277 = .ok (.iload_n 3, 1) := by decide +kernel
theorem dL_law_278 : decode cL_law 278 = .ok (.iconst 1, 1) := by decide +kernel
theorem dL_law_279 : decode cL_law 279 = .ok (.iadd, 1) := by decide +kernel
theorem dL_law_280 : decode cL_law 280 = .ok (.iaload, 1) := by decide +kernel
theorem dL_law_281 : decode cL_law 281 = .ok (.aload_n 0, 1) := by decide +kernel
theorem dL_law_282 : decode cL_law 282 = .ok (.iload_n 3, 1) := by decide +kernel
theorem dL_law_283 : decode cL_law 283 = .ok (.iconst 2, 1) := by decide +kernel
theorem dL_law_284 : decode cL_law 284 = .ok (.iadd, 1) := by decide +kernel
theorem dL_law_285 : decode cL_law 285 = .ok (.iaload, 1) := by decide +kernel
theorem dL_law_286 : decode cL_law 286 = .ok (.invokevirtual 36, 3) := by decide +kernel
theorem dL_law_289 : decode cL_law 289 = .ok (.aload_n 2, 1) := by decide +kernel
theorem dL_law_290 : decode cL_law 290 = .ok (.aload_n 0, 1) := by decide +kernel
theorem dL_law_291 : decode cL_law 291 = .ok (.iload_n 3, 1) := by decide +kernel
theorem dL_law_292 : decode cL_law 292 = .ok (.iconst 1, 1) := by decide +kernel
theorem dL_law_293 : decode cL_law 293 = .ok (.iadd, 1) := by decide +kernel
theorem dL_law_294 : decode cL_law 294 = .ok (.iaload, 1) := by decide +kernel
theorem dL_law_295 : decode cL_law 295 = .ok (.aload_n 0, 1) := by decide +kernel
theorem dL_law_296 : decode cL_law 296 = .ok (.iload_n 3, 1) := by decide +kernel
theorem dL_law_297 : decode cL_law 297 = .ok (.iconst 2, 1) := by decide +kernel
theorem dL_law_298 : decode cL_law 298 = .ok (.iadd, 1) := by decide +kernel
theorem dL_law_299 : decode cL_law 299 = .ok (.iaload, 1) := by decide +kernel
theorem dL_law_300 : decode cL_law 300 = .ok (.invokevirtual 39, 3) := by decide +kernel
theorem dL_law_303 : decode cL_law 303 = .ok (.if_icmp .eq 856, 3) := by decide +kernel
theorem dL_law_306 : decode cL_law 306 = .ok (.iconst 0, 1) := by decide +kernel
theorem dL_law_307 : decode cL_law 307 = .ok (.ireturn, 1) := by decide +kernel
theorem dL_law_308 : decode cL_law 308 = .ok (.aload_n 1, 1) := by decide +kernel
theorem dL_law_309 : decode cL_law 309 = .ok (.aload_n 0, 1) := by decide +kernel
theorem dL_law_310 : decode cL_law 310 = .ok (.iload_n 3, 1) := by decide +kernel
theorem dL_law_311 : decode cL_law 311 = .ok (.iconst 1, 1) := by decide +kernel
theorem dL_law_312 : decode cL_law 312 = .ok (.iadd, 1) := by decide +kernel
theorem dL_law_313 : decode cL_law 313 = .ok (.iaload, 1) := by decide +kernel
theorem dL_law_314 : decode cL_law 314 = .ok (.invokevirtual 40, 3) := by decide +kernel
theorem dL_law_317 : decode cL_law 317 = .ok (.aload_n 2, 1) := by decide +kernel
theorem dL_law_318 : decode cL_law 318 = .ok (.aload_n 0, 1) := by decide +kernel
theorem dL_law_319 : decode cL_law 319 = .ok (.iload_n 3, 1) := by decide +kernel
theorem dL_law_320 : decode cL_law 320 = .ok (.iconst 1, 1) := by decide +kernel
theorem dL_law_321 : decode cL_law 321 = .ok (.iadd, 1) := by decide +kernel
theorem dL_law_322 : decode cL_law 322 = .ok (.iaload, 1) := by decide +kernel
theorem dL_law_323 : decode cL_law 323 = .ok (.invokevirtual 43, 3) := by decide +kernel
theorem dL_law_326 : decode cL_law 326 = .ok (.if_icmp .eq 833, 3) := by decide +kernel
theorem dL_law_329 : decode cL_law 329 = .ok (.iconst 0, 1) := by decide +kernel
theorem dL_law_330 : decode cL_law 330 = .ok (.ireturn, 1) := by decide +kernel
theorem dL_law_331 : decode cL_law 331 = .ok (.aload_n 1, 1) := by decide +kernel
theorem dL_law_332 : decode cL_law 332 = .ok (.aload_n 0, 1) := by decide +kernel
theorem dL_law_333 : decode cL_law 333 = .ok (.iload_n 3, 1) := by decide +kernel
theorem dL_law_334 : decode cL_law 334 = .ok (.iconst 1, 1) := by decide +kernel
theorem dL_law_335 : decode cL_law 335 = .ok (.iadd, 1) := by decide +kernel
theorem dL_law_336 : decode cL_law 336 = .ok (.iaload, 1) := by decide +kernel
theorem dL_law_337 : decode cL_law 337 = .ok (.invokevirtual 44, 3) := by decide +kernel
theorem dL_law_340 : decode cL_law 340 = .ok (.aload_n 2, 1) := by decide +kernel
theorem dL_law_341 : decode cL_law 341 = .ok (.aload_n 0, 1) := by decide +kernel
theorem dL_law_342 : decode cL_law 342 = .ok (.iload_n 3, 1) := by decide +kernel
theorem dL_law_343 : decode cL_law 343 = .ok (.iconst 1, 1) := by decide +kernel
theorem dL_law_344 : decode cL_law 344 = .ok (.iadd, 1) := by decide +kernel
theorem dL_law_345 : decode cL_law 345 = .ok (.iaload, 1) := by decide +kernel
theorem dL_law_346 : decode cL_law 346 = .ok (.invokevirtual 47, 3) := by decide +kernel
theorem dL_law_349 : decode cL_law 349 = .ok (.if_icmp .eq 810, 3) := by decide +kernel
theorem dL_law_352 : decode cL_law 352 = .ok (.iconst 0, 1) := by decide +kernel
theorem dL_law_353 : decode cL_law 353 = .ok (.ireturn, 1) := by decide +kernel
theorem dL_law_354 : decode cL_law 354 = .ok (.aload_n 1, 1) := by decide +kernel
theorem dL_law_355 : decode cL_law 355 = .ok (.aload_n 0, 1) := by decide +kernel
theorem dL_law_356 : decode cL_law 356 = .ok (.iload_n 3, 1) := by decide +kernel
theorem dL_law_357 : decode cL_law 357 = .ok (.iconst 1, 1) := by decide +kernel
theorem dL_law_358 : decode cL_law 358 = .ok (.iadd, 1) := by decide +kernel
theorem dL_law_359 : decode cL_law 359 = .ok (.iaload, 1) := by decide +kernel
theorem dL_law_360 : decode cL_law 360 = .ok (.invokevirtual 48, 3) := by decide +kernel
theorem dL_law_363 : decode cL_law 363 = .ok (.aload_n 2, 1) := by decide +kernel
theorem dL_law_364 : decode cL_law 364 = .ok (.aload_n 0, 1) := by decide +kernel
theorem dL_law_365 : decode cL_law 365 = .ok (.iload_n 3, 1) := by decide +kernel
theorem dL_law_366 : decode cL_law 366 = .ok (.iconst 1, 1) := by decide +kernel
theorem dL_law_367 : decode cL_law 367 = .ok (.iadd, 1) := by decide +kernel
theorem dL_law_368 : decode cL_law 368 = .ok (.iaload, 1) := by decide +kernel
theorem dL_law_369 : decode cL_law 369 = .ok (.invokevirtual 51, 3) := by decide +kernel
theorem dL_law_372 : decode cL_law 372 = .ok (.if_icmp .eq 787, 3) := by decide +kernel
theorem dL_law_375 : decode cL_law 375 = .ok (.iconst 0, 1) := by decide +kernel
theorem dL_law_376 : decode cL_law 376 = .ok (.ireturn, 1) := by decide +kernel
theorem dL_law_377 : decode cL_law 377 = .ok (.aload_n 1, 1) := by decide +kernel
theorem dL_law_378 : decode cL_law 378 = .ok (.aload_n 0, 1) := by decide +kernel
theorem dL_law_379 : decode cL_law 379 = .ok (.iload_n 3, 1) := by decide +kernel
theorem dL_law_380 : decode cL_law 380 = .ok (.iconst 1, 1) := by decide +kernel
theorem dL_law_381 : decode cL_law 381 = .ok (.iadd, 1) := by decide +kernel
theorem dL_law_382 : decode cL_law 382 = .ok (.iaload, 1) := by decide +kernel
theorem dL_law_383 : decode cL_law 383 = .ok (.aload_n 0, 1) := by decide +kernel
theorem dL_law_384 : decode cL_law 384 = .ok (.iload_n 3, 1) := by decide +kernel
theorem dL_law_385 : decode cL_law 385 = .ok (.iconst 2, 1) := by decide +kernel
theorem dL_law_386 : decode cL_law 386 = .ok (.iadd, 1) := by decide +kernel
theorem dL_law_387 : decode cL_law 387 = .ok (.iaload, 1) := by decide +kernel
theorem dL_law_388 : decode cL_law 388 = .ok (.aload_n 0, 1) := by decide +kernel
theorem dL_law_389 : decode cL_law 389 = .ok (.iload_n 3, 1) := by decide +kernel
theorem dL_law_390 : decode cL_law 390 = .ok (.iconst 3, 1) := by decide +kernel
theorem dL_law_391 : decode cL_law 391 = .ok (.iadd, 1) := by decide +kernel
theorem dL_law_392 : decode cL_law 392 = .ok (.iaload, 1) := by decide +kernel
theorem dL_law_393 : decode cL_law 393 = .ok (.invokevirtual 52, 3) := by decide +kernel
theorem dL_law_396 : decode cL_law 396 = .ok (.aload_n 2, 1) := by decide +kernel
theorem dL_law_397 : decode cL_law 397 = .ok (.aload_n 0, 1) := by decide +kernel
theorem dL_law_398 : decode cL_law 398 = .ok (.iload_n 3, 1) := by decide +kernel
theorem dL_law_399 : decode cL_law 399 = .ok (.iconst 1, 1) := by decide +kernel
theorem dL_law_400 : decode cL_law 400 = .ok (.iadd, 1) := by decide +kernel
theorem dL_law_401 : decode cL_law 401 = .ok (.iaload, 1) := by decide +kernel
theorem dL_law_402 : decode cL_law 402 = .ok (.aload_n 0, 1) := by decide +kernel
theorem dL_law_403 : decode cL_law 403 = .ok (.iload_n 3, 1) := by decide +kernel
theorem dL_law_404 : decode cL_law 404 = .ok (.iconst 2, 1) := by decide +kernel
theorem dL_law_405 : decode cL_law 405 = .ok (.iadd, 1) := by decide +kernel
theorem dL_law_406 : decode cL_law 406 = .ok (.iaload, 1) := by decide +kernel
theorem dL_law_407 : decode cL_law 407 = .ok (.aload_n 0, 1) := by decide +kernel
theorem dL_law_408 : decode cL_law 408 = .ok (.iload_n 3, 1) := by decide +kernel
theorem dL_law_409 : decode cL_law 409 = .ok (.iconst 3, 1) := by decide +kernel
theorem dL_law_410 : decode cL_law 410 = .ok (.iadd, 1) := by decide +kernel
theorem dL_law_411 : decode cL_law 411 = .ok (.iaload, 1) := by decide +kernel
theorem dL_law_412 : decode cL_law 412 = .ok (.invokevirtual 55, 3) := by decide +kernel
theorem dL_law_415 : decode cL_law 415 = .ok (.if_icmp .eq 744, 3) := by decide +kernel
theorem dL_law_418 : decode cL_law 418 = .ok (.iconst 0, 1) := by decide +kernel
theorem dL_law_419 : decode cL_law 419 = .ok (.ireturn, 1) := by decide +kernel
theorem dL_law_420 : decode cL_law 420 = .ok (.aload_n 1, 1) := by decide +kernel
theorem dL_law_421 : decode cL_law 421 = .ok (.aload_n 0, 1) := by decide +kernel
theorem dL_law_422 : decode cL_law 422 = .ok (.iload_n 3, 1) := by decide +kernel
theorem dL_law_423 : decode cL_law 423 = .ok (.iconst 1, 1) := by decide +kernel
theorem dL_law_424 : decode cL_law 424 = .ok (.iadd, 1) := by decide +kernel
theorem dL_law_425 : decode cL_law 425 = .ok (.iaload, 1) := by decide +kernel
theorem dL_law_426 : decode cL_law 426 = .ok (.aload_n 0, 1) := by decide +kernel
theorem dL_law_427 : decode cL_law 427 = .ok (.iload_n 3, 1) := by decide +kernel
theorem dL_law_428 : decode cL_law 428 = .ok (.iconst 2, 1) := by decide +kernel
theorem dL_law_429 : decode cL_law 429 = .ok (.iadd, 1) := by decide +kernel
theorem dL_law_430 : decode cL_law 430 = .ok (.iaload, 1) := by decide +kernel
theorem dL_law_431 : decode cL_law 431 = .ok (.invokevirtual 56, 3) := by decide +kernel
theorem dL_law_434 : decode cL_law 434 = .ok (.aload_n 2, 1) := by decide +kernel
theorem dL_law_435 : decode cL_law 435 = .ok (.aload_n 0, 1) := by decide +kernel
theorem dL_law_436 : decode cL_law 436 = .ok (.iload_n 3, 1) := by decide +kernel
theorem dL_law_437 : decode cL_law 437 = .ok (.iconst 1, 1) := by decide +kernel
theorem dL_law_438 : decode cL_law 438 = .ok (.iadd, 1) := by decide +kernel
theorem dL_law_439 : decode cL_law 439 = .ok (.iaload, 1) := by decide +kernel
theorem dL_law_440 : decode cL_law 440 = .ok (.aload_n 0, 1) := by decide +kernel
theorem dL_law_441 : decode cL_law 441 = .ok (.iload_n 3, 1) := by decide +kernel
theorem dL_law_442 : decode cL_law 442 = .ok (.iconst 2, 1) := by decide +kernel
theorem dL_law_443 : decode cL_law 443 = .ok (.iadd, 1) := by decide +kernel
theorem dL_law_444 : decode cL_law 444 = .ok (.iaload, 1) := by decide +kernel
theorem dL_law_445 : decode cL_law 445 = .ok (.invokevirtual 59, 3) := by decide +kernel
theorem dL_law_448 : decode cL_law 448 = .ok (.if_icmp .eq 711, 3) := by decide +kernel
theorem dL_law_451 : decode cL_law 451 = .ok (.iconst 0, 1) := by decide +kernel
theorem dL_law_452 : decode cL_law 452 = .ok (.ireturn, 1) := by decide +kernel
theorem dL_law_453 : decode cL_law 453 = .ok (.aload_n 1, 1) := by decide +kernel
theorem dL_law_454 : decode cL_law 454 = .ok (.aload_n 0, 1) := by decide +kernel
theorem dL_law_455 : decode cL_law 455 = .ok (.iload_n 3, 1) := by decide +kernel
theorem dL_law_456 : decode cL_law 456 = .ok (.iconst 1, 1) := by decide +kernel
theorem dL_law_457 : decode cL_law 457 = .ok (.iadd, 1) := by decide +kernel
theorem dL_law_458 : decode cL_law 458 = .ok (.iaload, 1) := by decide +kernel
theorem dL_law_459 : decode cL_law 459 = .ok (.aload_n 0, 1) := by decide +kernel
theorem dL_law_460 : decode cL_law 460 = .ok (.iload_n 3, 1) := by decide +kernel
theorem dL_law_461 : decode cL_law 461 = .ok (.iconst 2, 1) := by decide +kernel
theorem dL_law_462 : decode cL_law 462 = .ok (.iadd, 1) := by decide +kernel
theorem dL_law_463 : decode cL_law 463 = .ok (.iaload, 1) := by decide +kernel
theorem dL_law_464 : decode cL_law 464 = .ok (.invokevirtual 60, 3) := by decide +kernel
theorem dL_law_467 : decode cL_law 467 = .ok (.aload_n 2, 1) := by decide +kernel
theorem dL_law_468 : decode cL_law 468 = .ok (.aload_n 0, 1) := by decide +kernel
theorem dL_law_469 : decode cL_law 469 = .ok (.iload_n 3, 1) := by decide +kernel
theorem dL_law_470 : decode cL_law 470 = .ok (.iconst 1, 1) := by decide +kernel
theorem dL_law_471 : decode cL_law 471 = .ok (.iadd, 1) := by decide +kernel
theorem dL_law_472 : decode cL_law 472 = .ok (.iaload, 1) := by decide +kernel
theorem dL_law_473 : decode cL_law 473 = .ok (.aload_n 0, 1) := by decide +kernel
theorem dL_law_474 : decode cL_law 474 = .ok (.iload_n 3, 1) := by decide +kernel
theorem dL_law_475 : decode cL_law 475 = .ok (.iconst 2, 1) := by decide +kernel
theorem dL_law_476 : decode cL_law 476 = .ok (.iadd, 1) := by decide +kernel
theorem dL_law_477 : decode cL_law 477 = .ok (.iaload, 1) := by decide +kernel
theorem dL_law_478 : decode cL_law 478 = .ok (.invokevirtual 64, 3) := by decide +kernel
theorem dL_law_481 : decode cL_law 481 = .ok (.lcmp, 1) := by decide +kernel
theorem dL_law_482 : decode cL_law 482 = .ok (.ifCond .eq 677, 3) := by decide +kernel
theorem dL_law_485 : decode cL_law 485 = .ok (.iconst 0, 1) := by decide +kernel
theorem dL_law_486 : decode cL_law 486 = .ok (.ireturn, 1) := by decide +kernel
theorem dL_law_487 : decode cL_law 487 = .ok (.aload_n 1, 1) := by decide +kernel
theorem dL_law_488 : decode cL_law 488 = .ok (.aload_n 0, 1) := by decide +kernel
theorem dL_law_489 : decode cL_law 489 = .ok (.iload_n 3, 1) := by decide +kernel
theorem dL_law_490 : decode cL_law 490 = .ok (.iconst 1, 1) := by decide +kernel
theorem dL_law_491 : decode cL_law 491 = .ok (.iadd, 1) := by decide +kernel
theorem dL_law_492 : decode cL_law 492 = .ok (.iaload, 1) := by decide +kernel
theorem dL_law_493 : decode cL_law 493 = .ok (.aload_n 0, 1) := by decide +kernel
theorem dL_law_494 : decode cL_law 494 = .ok (.iload_n 3, 1) := by decide +kernel
theorem dL_law_495 : decode cL_law 495 = .ok (.iconst 2, 1) := by decide +kernel
theorem dL_law_496 : decode cL_law 496 = .ok (.iadd, 1) := by decide +kernel
theorem dL_law_497 : decode cL_law 497 = .ok (.iaload, 1) := by decide +kernel
theorem dL_law_498 : decode cL_law 498 = .ok (.invokevirtual 65, 3) := by decide +kernel
theorem dL_law_501 : decode cL_law 501 = .ok (.aload_n 2, 1) := by decide +kernel
theorem dL_law_502 : decode cL_law 502 = .ok (.aload_n 0, 1) := by decide +kernel
theorem dL_law_503 : decode cL_law 503 = .ok (.iload_n 3, 1) := by decide +kernel
theorem dL_law_504 : decode cL_law 504 = .ok (.iconst 1, 1) := by decide +kernel
theorem dL_law_505 : decode cL_law 505 = .ok (.iadd, 1) := by decide +kernel
theorem dL_law_506 : decode cL_law 506 = .ok (.iaload, 1) := by decide +kernel
theorem dL_law_507 : decode cL_law 507 = .ok (.aload_n 0, 1) := by decide +kernel
theorem dL_law_508 : decode cL_law 508 = .ok (.iload_n 3, 1) := by decide +kernel
theorem dL_law_509 : decode cL_law 509 = .ok (.iconst 2, 1) := by decide +kernel
theorem dL_law_510 : decode cL_law 510 = .ok (.iadd, 1) := by decide +kernel
theorem dL_law_511 : decode cL_law 511 = .ok (.iaload, 1) := by decide +kernel
theorem dL_law_512 : decode cL_law 512 = .ok (.invokevirtual 68, 3) := by decide +kernel
theorem dL_law_515 : decode cL_law 515 = .ok (.if_icmp .eq 644, 3) := by decide +kernel
theorem dL_law_518 : decode cL_law 518 = .ok (.iconst 0, 1) := by decide +kernel
theorem dL_law_519 : decode cL_law 519 = .ok (.ireturn, 1) := by decide +kernel
theorem dL_law_520 : decode cL_law 520 = .ok (.aload_n 1, 1) := by decide +kernel
theorem dL_law_521 : decode cL_law 521 = .ok (.aload_n 0, 1) := by decide +kernel
theorem dL_law_522 : decode cL_law 522 = .ok (.iload_n 3, 1) := by decide +kernel
theorem dL_law_523 : decode cL_law 523 = .ok (.iconst 1, 1) := by decide +kernel
theorem dL_law_524 : decode cL_law 524 = .ok (.iadd, 1) := by decide +kernel
theorem dL_law_525 : decode cL_law 525 = .ok (.iaload, 1) := by decide +kernel
theorem dL_law_526 : decode cL_law 526 = .ok (.invokevirtual 69, 3) := by decide +kernel
theorem dL_law_529 : decode cL_law 529 = .ok (.aload_n 2, 1) := by decide +kernel
theorem dL_law_530 : decode cL_law 530 = .ok (.aload_n 0, 1) := by decide +kernel
theorem dL_law_531 : decode cL_law 531 = .ok (.iload_n 3, 1) := by decide +kernel
theorem dL_law_532 : decode cL_law 532 = .ok (.iconst 1, 1) := by decide +kernel
theorem dL_law_533 : decode cL_law 533 = .ok (.iadd, 1) := by decide +kernel
theorem dL_law_534 : decode cL_law 534 = .ok (.iaload, 1) := by decide +kernel
theorem dL_law_535 : decode cL_law 535 = .ok (.invokevirtual 72, 3) := by decide +kernel
theorem dL_law_538 : decode cL_law 538 = .ok (.if_icmp .eq 621, 3) := by decide +kernel
theorem dL_law_541 : decode cL_law 541 = .ok (.iconst 0, 1) := by decide +kernel
theorem dL_law_542 : decode cL_law 542 = .ok (.ireturn, 1) := by decide +kernel
theorem dL_law_543 : decode cL_law 543 = .ok (.aload_n 1, 1) := by decide +kernel
theorem dL_law_544 : decode cL_law 544 = .ok (.aload_n 0, 1) := by decide +kernel
theorem dL_law_545 : decode cL_law 545 = .ok (.iload_n 3, 1) := by decide +kernel
theorem dL_law_546 : decode cL_law 546 = .ok (.iconst 1, 1) := by decide +kernel
theorem dL_law_547 : decode cL_law 547 = .ok (.iadd, 1) := by decide +kernel
theorem dL_law_548 : decode cL_law 548 = .ok (.iaload, 1) := by decide +kernel
theorem dL_law_549 : decode cL_law 549 = .ok (.aload_n 0, 1) := by decide +kernel
theorem dL_law_550 : decode cL_law 550 = .ok (.iload_n 3, 1) := by decide +kernel
theorem dL_law_551 : decode cL_law 551 = .ok (.iconst 2, 1) := by decide +kernel
theorem dL_law_552 : decode cL_law 552 = .ok (.iadd, 1) := by decide +kernel
theorem dL_law_553 : decode cL_law 553 = .ok (.iaload, 1) := by decide +kernel
theorem dL_law_554 : decode cL_law 554 = .ok (.i2l, 1) := by decide +kernel
theorem dL_law_555 : decode cL_law 555 = .ok (.bipush 32, 2) := by decide +kernel
theorem dL_law_557 : decode cL_law 557 = .ok (.lshl, 1) := by decide +kernel
theorem dL_law_558 : decode cL_law 558 = .ok (.aload_n 0, 1) := by decide +kernel
theorem dL_law_559 : decode cL_law 559 = .ok (.iload_n 3, 1) := by decide +kernel
theorem dL_law_560 : decode cL_law 560 = .ok (.iconst 3, 1) := by decide +kernel
theorem dL_law_561 : decode cL_law 561 = .ok (.iadd, 1) := by decide +kernel
theorem dL_law_562 : decode cL_law 562 = .ok (.iaload, 1) := by decide +kernel
theorem dL_law_563 : decode cL_law 563 = .ok (.i2l, 1) := by decide +kernel
theorem dL_law_564 : decode cL_law 564 = .ok (.ldc2_w 73, 3) := by decide +kernel
theorem dL_law_567 : decode cL_law 567 = .ok (.land, 1) := by decide +kernel
theorem dL_law_568 : decode cL_law 568 = .ok (.lor, 1) := by decide +kernel
theorem dL_law_569 : decode cL_law 569 = .ok (.invokevirtual 75, 3) := by decide +kernel
theorem dL_law_572 : decode cL_law 572 = .ok (.aload_n 2, 1) := by decide +kernel
theorem dL_law_573 : decode cL_law 573 = .ok (.aload_n 0, 1) := by decide +kernel
theorem dL_law_574 : decode cL_law 574 = .ok (.iload_n 3, 1) := by decide +kernel
theorem dL_law_575 : decode cL_law 575 = .ok (.iconst 1, 1) := by decide +kernel
theorem dL_law_576 : decode cL_law 576 = .ok (.iadd, 1) := by decide +kernel
theorem dL_law_577 : decode cL_law 577 = .ok (.iaload, 1) := by decide +kernel
theorem dL_law_578 : decode cL_law 578 = .ok (.aload_n 0, 1) := by decide +kernel
theorem dL_law_579 : decode cL_law 579 = .ok (.iload_n 3, 1) := by decide +kernel
theorem dL_law_580 : decode cL_law 580 = .ok (.iconst 2, 1) := by decide +kernel
theorem dL_law_581 : decode cL_law 581 = .ok (.iadd, 1) := by decide +kernel
theorem dL_law_582 : decode cL_law 582 = .ok (.iaload, 1) := by decide +kernel
theorem dL_law_583 : decode cL_law 583 = .ok (.i2l, 1) := by decide +kernel
theorem dL_law_584 : decode cL_law 584 = .ok (.bipush 32, 2) := by decide +kernel
theorem dL_law_586 : decode cL_law 586 = .ok (.lshl, 1) := by decide +kernel
theorem dL_law_587 : decode cL_law 587 = .ok (.aload_n 0, 1) := by decide +kernel
theorem dL_law_588 : decode cL_law 588 = .ok (.iload_n 3, 1) := by decide +kernel
theorem dL_law_589 : decode cL_law 589 = .ok (.iconst 3, 1) := by decide +kernel
theorem dL_law_590 : decode cL_law 590 = .ok (.iadd, 1) := by decide +kernel
theorem dL_law_591 : decode cL_law 591 = .ok (.iaload, 1) := by decide +kernel
theorem dL_law_592 : decode cL_law 592 = .ok (.i2l, 1) := by decide +kernel
theorem dL_law_593 : decode cL_law 593 = .ok (.ldc2_w 73, 3) := by decide +kernel
theorem dL_law_596 : decode cL_law 596 = .ok (.land, 1) := by decide +kernel
theorem dL_law_597 : decode cL_law 597 = .ok (.lor, 1) := by decide +kernel
theorem dL_law_598 : decode cL_law 598 = .ok (.invokevirtual 79, 3) := by decide +kernel
theorem dL_law_601 : decode cL_law 601 = .ok (.if_icmp .eq 558, 3) := by decide +kernel
theorem dL_law_604 : decode cL_law 604 = .ok (.iconst 0, 1) := by decide +kernel
theorem dL_law_605 : decode cL_law 605 = .ok (.ireturn, 1) := by decide +kernel
theorem dL_law_606 : decode cL_law 606 = .ok (.aload_n 1, 1) := by decide +kernel
theorem dL_law_607 : decode cL_law 607 = .ok (.invokevirtual 80, 3) := by decide +kernel
theorem dL_law_610 : decode cL_law 610 = .ok (.aload_n 2, 1) := by decide +kernel
theorem dL_law_611 : decode cL_law 611 = .ok (.invokevirtual 84, 3) := by decide +kernel
theorem dL_law_614 : decode cL_law 614 = .ok (.if_icmp .eq 545, 3) := by decide +kernel
theorem dL_law_617 : decode cL_law 617 = .ok (.iconst 0, 1) := by decide +kernel
theorem dL_law_618 : decode cL_law 618 = .ok (.ireturn, 1) := by decide +kernel
theorem dL_law_619 : decode cL_law 619 = .ok (.aload_n 1, 1) := by decide +kernel
theorem dL_law_620 : decode cL_law 620 = .ok (.aload_n 0, 1) := by decide +kernel
theorem dL_law_621 : decode cL_law 621 = .ok (.iload_n 3, 1) := by decide +kernel
theorem dL_law_622 : decode cL_law 622 = .ok (.iconst 1, 1) := by decide +kernel
theorem dL_law_623 : decode cL_law 623 = .ok (.iadd, 1) := by decide +kernel
theorem dL_law_624 : decode cL_law 624 = .ok (.iaload, 1) := by decide +kernel
theorem dL_law_625 : decode cL_law 625 = .ok (.invokevirtual 85, 3) := by decide +kernel
theorem dL_law_628 : decode cL_law 628 = .ok (.aload_n 2, 1) := by decide +kernel
theorem dL_law_629 : decode cL_law 629 = .ok (.aload_n 0, 1) := by decide +kernel
theorem dL_law_630 : decode cL_law 630 = .ok (.iload_n 3, 1) := by decide +kernel
theorem dL_law_631 : decode cL_law 631 = .ok (.iconst 1, 1) := by decide +kernel
theorem dL_law_632 : decode cL_law 632 = .ok (.iadd, 1) := by decide +kernel
theorem dL_law_633 : decode cL_law 633 = .ok (.iaload, 1) := by decide +kernel
theorem dL_law_634 : decode cL_law 634 = .ok (.invokevirtual 88, 3) := by decide +kernel
theorem dL_law_637 : decode cL_law 637 = .ok (.if_icmp .eq 522, 3) := by decide +kernel
theorem dL_law_640 : decode cL_law 640 = .ok (.iconst 0, 1) := by decide +kernel
theorem dL_law_641 : decode cL_law 641 = .ok (.ireturn, 1) := by decide +kernel
theorem dL_law_642 : decode cL_law 642 = .ok (.aload_n 1, 1) := by decide +kernel
theorem dL_law_643 : decode cL_law 643 = .ok (.aload_n 0, 1) := by decide +kernel
theorem dL_law_644 : decode cL_law 644 = .ok (.iload_n 3, 1) := by decide +kernel
theorem dL_law_645 : decode cL_law 645 = .ok (.iconst 1, 1) := by decide +kernel
theorem dL_law_646 : decode cL_law 646 = .ok (.iadd, 1) := by decide +kernel
theorem dL_law_647 : decode cL_law 647 = .ok (.iaload, 1) := by decide +kernel
theorem dL_law_648 : decode cL_law 648 = .ok (.aload_n 0, 1) := by decide +kernel
theorem dL_law_649 : decode cL_law 649 = .ok (.iload_n 3, 1) := by decide +kernel
theorem dL_law_650 : decode cL_law 650 = .ok (.iconst 2, 1) := by decide +kernel
theorem dL_law_651 : decode cL_law 651 = .ok (.iadd, 1) := by decide +kernel
theorem dL_law_652 : decode cL_law 652 = .ok (.iaload, 1) := by decide +kernel
theorem dL_law_653 : decode cL_law 653 = .ok (.aload_n 0, 1) := by decide +kernel
theorem dL_law_654 : decode cL_law 654 = .ok (.iload_n 3, 1) := by decide +kernel
theorem dL_law_655 : decode cL_law 655 = .ok (.iconst 3, 1) := by decide +kernel
theorem dL_law_656 : decode cL_law 656 = .ok (.iadd, 1) := by decide +kernel
theorem dL_law_657 : decode cL_law 657 = .ok (.iaload, 1) := by decide +kernel
theorem dL_law_658 : decode cL_law 658 = .ok (.invokevirtual 89, 3) := by decide +kernel
theorem dL_law_661 : decode cL_law 661 = .ok (.aload_n 2, 1) := by decide +kernel
theorem dL_law_662 : decode cL_law 662 = .ok (.aload_n 0, 1) := by decide +kernel
theorem dL_law_663 : decode cL_law 663 = .ok (.iload_n 3, 1) := by decide +kernel
theorem dL_law_664 : decode cL_law 664 = .ok (.iconst 1, 1) := by decide +kernel
theorem dL_law_665 : decode cL_law 665 = .ok (.iadd, 1) := by decide +kernel
theorem dL_law_666 : decode cL_law 666 = .ok (.iaload, 1) := by decide +kernel
theorem dL_law_667 : decode cL_law 667 = .ok (.aload_n 0, 1) := by decide +kernel
theorem dL_law_668 : decode cL_law 668 = .ok (.iload_n 3, 1) := by decide +kernel
theorem dL_law_669 : decode cL_law 669 = .ok (.iconst 2, 1) := by decide +kernel
theorem dL_law_670 : decode cL_law 670 = .ok (.iadd, 1) := by decide +kernel
theorem dL_law_671 : decode cL_law 671 = .ok (.iaload, 1) := by decide +kernel
theorem dL_law_672 : decode cL_law 672 = .ok (.aload_n 0, 1) := by decide +kernel
theorem dL_law_673 : decode cL_law 673 = .ok (.iload_n 3, 1) := by decide +kernel
theorem dL_law_674 : decode cL_law 674 = .ok (.iconst 3, 1) := by decide +kernel
theorem dL_law_675 : decode cL_law 675 = .ok (.iadd, 1) := by decide +kernel
theorem dL_law_676 : decode cL_law 676 = .ok (.iaload, 1) := by decide +kernel
theorem dL_law_677 : decode cL_law 677 = .ok (.invokevirtual 93, 3) := by decide +kernel
theorem dL_law_680 : decode cL_law 680 = .ok (.lcmp, 1) := by decide +kernel
theorem dL_law_681 : decode cL_law 681 = .ok (.ifCond .eq 478, 3) := by decide +kernel
theorem dL_law_684 : decode cL_law 684 = .ok (.iconst 0, 1) := by decide +kernel
theorem dL_law_685 : decode cL_law 685 = .ok (.ireturn, 1) := by decide +kernel
theorem dL_law_686 : decode cL_law 686 = .ok (.aload_n 1, 1) := by decide +kernel
theorem dL_law_687 : decode cL_law 687 = .ok (.aload_n 0, 1) := by decide +kernel
theorem dL_law_688 : decode cL_law 688 = .ok (.iload_n 3, 1) := by decide +kernel
theorem dL_law_689 : decode cL_law 689 = .ok (.iconst 1, 1) := by decide +kernel
theorem dL_law_690 : decode cL_law 690 = .ok (.iadd, 1) := by decide +kernel
theorem dL_law_691 : decode cL_law 691 = .ok (.iaload, 1) := by decide +kernel
theorem dL_law_692 : decode cL_law 692 = .ok (.invokevirtual 94, 3) := by decide +kernel
theorem dL_law_695 : decode cL_law 695 = .ok (.aload_n 2, 1) := by decide +kernel
theorem dL_law_696 : decode cL_law 696 = .ok (.aload_n 0, 1) := by decide +kernel
theorem dL_law_697 : decode cL_law 697 = .ok (.iload_n 3, 1) := by decide +kernel
theorem dL_law_698 : decode cL_law 698 = .ok (.iconst 1, 1) := by decide +kernel
theorem dL_law_699 : decode cL_law 699 = .ok (.iadd, 1) := by decide +kernel
theorem dL_law_700 : decode cL_law 700 = .ok (.iaload, 1) := by decide +kernel
theorem dL_law_701 : decode cL_law 701 = .ok (.invokevirtual 97, 3) := by decide +kernel
theorem dL_law_704 : decode cL_law 704 = .ok (.if_icmp .eq 455, 3) := by decide +kernel
theorem dL_law_707 : decode cL_law 707 = .ok (.iconst 0, 1) := by decide +kernel
theorem dL_law_708 : decode cL_law 708 = .ok (.ireturn, 1) := by decide +kernel
theorem dL_law_709 : decode cL_law 709 = .ok (.aload_n 1, 1) := by decide +kernel
theorem dL_law_710 : decode cL_law 710 = .ok (.aload_n 0, 1) := by decide +kernel
theorem dL_law_711 : decode cL_law 711 = .ok (.iload_n 3, 1) := by decide +kernel
theorem dL_law_712 : decode cL_law 712 = .ok (.iconst 1, 1) := by decide +kernel
theorem dL_law_713 : decode cL_law 713 = .ok (.iadd, 1) := by decide +kernel
theorem dL_law_714 : decode cL_law 714 = .ok (.iaload, 1) := by decide +kernel
theorem dL_law_715 : decode cL_law 715 = .ok (.aload_n 0, 1) := by decide +kernel
theorem dL_law_716 : decode cL_law 716 = .ok (.iload_n 3, 1) := by decide +kernel
theorem dL_law_717 : decode cL_law 717 = .ok (.iconst 2, 1) := by decide +kernel
theorem dL_law_718 : decode cL_law 718 = .ok (.iadd, 1) := by decide +kernel
theorem dL_law_719 : decode cL_law 719 = .ok (.iaload, 1) := by decide +kernel
theorem dL_law_720 : decode cL_law 720 = .ok (.invokevirtual 98, 3) := by decide +kernel
theorem dL_law_723 : decode cL_law 723 = .ok (.aload_n 2, 1) := by decide +kernel
theorem dL_law_724 : decode cL_law 724 = .ok (.aload_n 0, 1) := by decide +kernel
theorem dL_law_725 : decode cL_law 725 = .ok (.iload_n 3, 1) := by decide +kernel
theorem dL_law_726 : decode cL_law 726 = .ok (.iconst 1, 1) := by decide +kernel
theorem dL_law_727 : decode cL_law 727 = .ok (.iadd, 1) := by decide +kernel
theorem dL_law_728 : decode cL_law 728 = .ok (.iaload, 1) := by decide +kernel
theorem dL_law_729 : decode cL_law 729 = .ok (.aload_n 0, 1) := by decide +kernel
theorem dL_law_730 : decode cL_law 730 = .ok (.iload_n 3, 1) := by decide +kernel
theorem dL_law_731 : decode cL_law 731 = .ok (.iconst 2, 1) := by decide +kernel
theorem dL_law_732 : decode cL_law 732 = .ok (.iadd, 1) := by decide +kernel
theorem dL_law_733 : decode cL_law 733 = .ok (.iaload, 1) := by decide +kernel
theorem dL_law_734 : decode cL_law 734 = .ok (.invokevirtual 101, 3) := by decide +kernel
theorem dL_law_737 : decode cL_law 737 = .ok (.if_icmp .eq 422, 3) := by decide +kernel
theorem dL_law_740 : decode cL_law 740 = .ok (.iconst 0, 1) := by decide +kernel
theorem dL_law_741 : decode cL_law 741 = .ok (.ireturn, 1) := by decide +kernel
theorem dL_law_742 : decode cL_law 742 = .ok (.aload_n 1, 1) := by decide +kernel
theorem dL_law_743 : decode cL_law 743 = .ok (.aload_n 0, 1) := by decide +kernel
theorem dL_law_744 : decode cL_law 744 = .ok (.iload_n 3, 1) := by decide +kernel
theorem dL_law_745 : decode cL_law 745 = .ok (.iconst 1, 1) := by decide +kernel
theorem dL_law_746 : decode cL_law 746 = .ok (.iadd, 1) := by decide +kernel
theorem dL_law_747 : decode cL_law 747 = .ok (.iaload, 1) := by decide +kernel
theorem dL_law_748 : decode cL_law 748 = .ok (.invokevirtual 102, 3) := by decide +kernel
theorem dL_law_751 : decode cL_law 751 = .ok (.aload_n 2, 1) := by decide +kernel
theorem dL_law_752 : decode cL_law 752 = .ok (.aload_n 0, 1) := by decide +kernel
theorem dL_law_753 : decode cL_law 753 = .ok (.iload_n 3, 1) := by decide +kernel
theorem dL_law_754 : decode cL_law 754 = .ok (.iconst 1, 1) := by decide +kernel
theorem dL_law_755 : decode cL_law 755 = .ok (.iadd, 1) := by decide +kernel
theorem dL_law_756 : decode cL_law 756 = .ok (.iaload, 1) := by decide +kernel
theorem dL_law_757 : decode cL_law 757 = .ok (.invokevirtual 105, 3) := by decide +kernel
theorem dL_law_760 : decode cL_law 760 = .ok (.if_icmp .eq 399, 3) := by decide +kernel
theorem dL_law_763 : decode cL_law 763 = .ok (.iconst 0, 1) := by decide +kernel
theorem dL_law_764 : decode cL_law 764 = .ok (.ireturn, 1) := by decide +kernel
theorem dL_law_765 : decode cL_law 765 = .ok (.aload_n 1, 1) := by decide +kernel
theorem dL_law_766 : decode cL_law 766 = .ok (.aload_n 0, 1) := by decide +kernel
theorem dL_law_767 : decode cL_law 767 = .ok (.iload_n 3, 1) := by decide +kernel
theorem dL_law_768 : decode cL_law 768 = .ok (.iconst 1, 1) := by decide +kernel
theorem dL_law_769 : decode cL_law 769 = .ok (.iadd, 1) := by decide +kernel
theorem dL_law_770 : decode cL_law 770 = .ok (.iaload, 1) := by decide +kernel
theorem dL_law_771 : decode cL_law 771 = .ok (.aload_n 0, 1) := by decide +kernel
theorem dL_law_772 : decode cL_law 772 = .ok (.iload_n 3, 1) := by decide +kernel
theorem dL_law_773 : decode cL_law 773 = .ok (.iconst 2, 1) := by decide +kernel
theorem dL_law_774 : decode cL_law 774 = .ok (.iadd, 1) := by decide +kernel
theorem dL_law_775 : decode cL_law 775 = .ok (.iaload, 1) := by decide +kernel
theorem dL_law_776 : decode cL_law 776 = .ok (.invokevirtual 106, 3) := by decide +kernel
theorem dL_law_779 : decode cL_law 779 = .ok (.aload_n 2, 1) := by decide +kernel
theorem dL_law_780 : decode cL_law 780 = .ok (.aload_n 0, 1) := by decide +kernel
theorem dL_law_781 : decode cL_law 781 = .ok (.iload_n 3, 1) := by decide +kernel
theorem dL_law_782 : decode cL_law 782 = .ok (.iconst 1, 1) := by decide +kernel
theorem dL_law_783 : decode cL_law 783 = .ok (.iadd, 1) := by decide +kernel
theorem dL_law_784 : decode cL_law 784 = .ok (.iaload, 1) := by decide +kernel
theorem dL_law_785 : decode cL_law 785 = .ok (.aload_n 0, 1) := by decide +kernel
theorem dL_law_786 : decode cL_law 786 = .ok (.iload_n 3, 1) := by decide +kernel
theorem dL_law_787 : decode cL_law 787 = .ok (.iconst 2, 1) := by decide +kernel
theorem dL_law_788 : decode cL_law 788 = .ok (.iadd, 1) := by decide +kernel
theorem dL_law_789 : decode cL_law 789 = .ok (.iaload, 1) := by decide +kernel
theorem dL_law_790 : decode cL_law 790 = .ok (.invokevirtual 109, 3) := by decide +kernel
theorem dL_law_793 : decode cL_law 793 = .ok (.if_icmp .eq 366, 3) := by decide +kernel
theorem dL_law_796 : decode cL_law 796 = .ok (.iconst 0, 1) := by decide +kernel
theorem dL_law_797 : decode cL_law 797 = .ok (.ireturn, 1) := by decide +kernel
theorem dL_law_798 : decode cL_law 798 = .ok (.aload_n 1, 1) := by decide +kernel
theorem dL_law_799 : decode cL_law 799 = .ok (.aload_n 0, 1) := by decide +kernel
theorem dL_law_800 : decode cL_law 800 = .ok (.iload_n 3, 1) := by decide +kernel
theorem dL_law_801 : decode cL_law 801 = .ok (.iconst 1, 1) := by decide +kernel
theorem dL_law_802 : decode cL_law 802 = .ok (.iadd, 1) := by decide +kernel
theorem dL_law_803 : decode cL_law 803 = .ok (.iaload, 1) := by decide +kernel
theorem dL_law_804 : decode cL_law 804 = .ok (.invokevirtual 110, 3) := by decide +kernel
theorem dL_law_807 : decode cL_law 807 = .ok (.aload_n 2, 1) := by decide +kernel
theorem dL_law_808 : decode cL_law 808 = .ok (.aload_n 0, 1) := by decide +kernel
theorem dL_law_809 : decode cL_law 809 = .ok (.iload_n 3, 1) := by decide +kernel
theorem dL_law_810 : decode cL_law 810 = .ok (.iconst 1, 1) := by decide +kernel
theorem dL_law_811 : decode cL_law 811 = .ok (.iadd, 1) := by decide +kernel
theorem dL_law_812 : decode cL_law 812 = .ok (.iaload, 1) := by decide +kernel
theorem dL_law_813 : decode cL_law 813 = .ok (.invokevirtual 113, 3) := by decide +kernel
theorem dL_law_816 : decode cL_law 816 = .ok (.if_icmp .eq 343, 3) := by decide +kernel
theorem dL_law_819 : decode cL_law 819 = .ok (.iconst 0, 1) := by decide +kernel
theorem dL_law_820 : decode cL_law 820 = .ok (.ireturn, 1) := by decide +kernel
theorem dL_law_821 : decode cL_law 821 = .ok (.aload_n 1, 1) := by decide +kernel
theorem dL_law_822 : decode cL_law 822 = .ok (.aload_n 0, 1) := by decide +kernel
theorem dL_law_823 : decode cL_law 823 = .ok (.iload_n 3, 1) := by decide +kernel
theorem dL_law_824 : decode cL_law 824 = .ok (.iconst 1, 1) := by decide +kernel
theorem dL_law_825 : decode cL_law 825 = .ok (.iadd, 1) := by decide +kernel
theorem dL_law_826 : decode cL_law 826 = .ok (.iaload, 1) := by decide +kernel
theorem dL_law_827 : decode cL_law 827 = .ok (.aload_n 0, 1) := by decide +kernel
theorem dL_law_828 : decode cL_law 828 = .ok (.iload_n 3, 1) := by decide +kernel
theorem dL_law_829 : decode cL_law 829 = .ok (.iconst 2, 1) := by decide +kernel
theorem dL_law_830 : decode cL_law 830 = .ok (.iadd, 1) := by decide +kernel
theorem dL_law_831 : decode cL_law 831 = .ok (.iaload, 1) := by decide +kernel
theorem dL_law_832 : decode cL_law 832 = .ok (.aload_n 0, 1) := by decide +kernel
theorem dL_law_833 : decode cL_law 833 = .ok (.iload_n 3, 1) := by decide +kernel
theorem dL_law_834 : decode cL_law 834 = .ok (.iconst 3, 1) := by decide +kernel
theorem dL_law_835 : decode cL_law 835 = .ok (.iadd, 1) := by decide +kernel
theorem dL_law_836 : decode cL_law 836 = .ok (.iaload, 1) := by decide +kernel
theorem dL_law_837 : decode cL_law 837 = .ok (.invokevirtual 114, 3) := by decide +kernel
theorem dL_law_840 : decode cL_law 840 = .ok (.aload_n 2, 1) := by decide +kernel
theorem dL_law_841 : decode cL_law 841 = .ok (.aload_n 0, 1) := by decide +kernel
theorem dL_law_842 : decode cL_law 842 = .ok (.iload_n 3, 1) := by decide +kernel
theorem dL_law_843 : decode cL_law 843 = .ok (.iconst 1, 1) := by decide +kernel
theorem dL_law_844 : decode cL_law 844 = .ok (.iadd, 1) := by decide +kernel
theorem dL_law_845 : decode cL_law 845 = .ok (.iaload, 1) := by decide +kernel
theorem dL_law_846 : decode cL_law 846 = .ok (.aload_n 0, 1) := by decide +kernel
theorem dL_law_847 : decode cL_law 847 = .ok (.iload_n 3, 1) := by decide +kernel
theorem dL_law_848 : decode cL_law 848 = .ok (.iconst 2, 1) := by decide +kernel
theorem dL_law_849 : decode cL_law 849 = .ok (.iadd, 1) := by decide +kernel
theorem dL_law_850 : decode cL_law 850 = .ok (.iaload, 1) := by decide +kernel
theorem dL_law_851 : decode cL_law 851 = .ok (.aload_n 0, 1) := by decide +kernel
theorem dL_law_852 : decode cL_law 852 = .ok (.iload_n 3, 1) := by decide +kernel
theorem dL_law_853 : decode cL_law 853 = .ok (.iconst 3, 1) := by decide +kernel
theorem dL_law_854 : decode cL_law 854 = .ok (.iadd, 1) := by decide +kernel
theorem dL_law_855 : decode cL_law 855 = .ok (.iaload, 1) := by decide +kernel
theorem dL_law_856 : decode cL_law 856 = .ok (.invokevirtual 117, 3) := by decide +kernel
theorem dL_law_859 : decode cL_law 859 = .ok (.if_icmp .eq 300, 3) := by decide +kernel
theorem dL_law_862 : decode cL_law 862 = .ok (.iconst 0, 1) := by decide +kernel
theorem dL_law_863 : decode cL_law 863 = .ok (.ireturn, 1) := by decide +kernel
theorem dL_law_864 : decode cL_law 864 = .ok (.aload_n 1, 1) := by decide +kernel
theorem dL_law_865 : decode cL_law 865 = .ok (.aload_n 0, 1) := by decide +kernel
theorem dL_law_866 : decode cL_law 866 = .ok (.iload_n 3, 1) := by decide +kernel
theorem dL_law_867 : decode cL_law 867 = .ok (.iconst 1, 1) := by decide +kernel
theorem dL_law_868 : decode cL_law 868 = .ok (.iadd, 1) := by decide +kernel
theorem dL_law_869 : decode cL_law 869 = .ok (.iaload, 1) := by decide +kernel
theorem dL_law_870 : decode cL_law 870 = .ok (.aload_n 0, 1) := by decide +kernel
theorem dL_law_871 : decode cL_law 871 = .ok (.iload_n 3, 1) := by decide +kernel
theorem dL_law_872 : decode cL_law 872 = .ok (.iconst 2, 1) := by decide +kernel
theorem dL_law_873 : decode cL_law 873 = .ok (.iadd, 1) := by decide +kernel
theorem dL_law_874 : decode cL_law 874 = .ok (.iaload, 1) := by decide +kernel
theorem dL_law_875 : decode cL_law 875 = .ok (.invokevirtual 118, 3) := by decide +kernel
theorem dL_law_878 : decode cL_law 878 = .ok (.aload_n 2, 1) := by decide +kernel
theorem dL_law_879 : decode cL_law 879 = .ok (.aload_n 0, 1) := by decide +kernel
theorem dL_law_880 : decode cL_law 880 = .ok (.iload_n 3, 1) := by decide +kernel
theorem dL_law_881 : decode cL_law 881 = .ok (.iconst 1, 1) := by decide +kernel
theorem dL_law_882 : decode cL_law 882 = .ok (.iadd, 1) := by decide +kernel
theorem dL_law_883 : decode cL_law 883 = .ok (.iaload, 1) := by decide +kernel
theorem dL_law_884 : decode cL_law 884 = .ok (.aload_n 0, 1) := by decide +kernel
theorem dL_law_885 : decode cL_law 885 = .ok (.iload_n 3, 1) := by decide +kernel
theorem dL_law_886 : decode cL_law 886 = .ok (.iconst 2, 1) := by decide +kernel
theorem dL_law_887 : decode cL_law 887 = .ok (.iadd, 1) := by decide +kernel
theorem dL_law_888 : decode cL_law 888 = .ok (.iaload, 1) := by decide +kernel
theorem dL_law_889 : decode cL_law 889 = .ok (.invokevirtual 121, 3) := by decide +kernel
theorem dL_law_892 : decode cL_law 892 = .ok (.lcmp, 1) := by decide +kernel
theorem dL_law_893 : decode cL_law 893 = .ok (.ifCond .eq 266, 3) := by decide +kernel
theorem dL_law_896 : decode cL_law 896 = .ok (.iconst 0, 1) := by decide +kernel
theorem dL_law_897 : decode cL_law 897 = .ok (.ireturn, 1) := by decide +kernel
theorem dL_law_898 : decode cL_law 898 = .ok (.aload_n 1, 1) := by decide +kernel
theorem dL_law_899 : decode cL_law 899 = .ok (.aload_n 0, 1) := by decide +kernel
theorem dL_law_900 : decode cL_law 900 = .ok (.iload_n 3, 1) := by decide +kernel
theorem dL_law_901 : decode cL_law 901 = .ok (.iconst 1, 1) := by decide +kernel
theorem dL_law_902 : decode cL_law 902 = .ok (.iadd, 1) := by decide +kernel
theorem dL_law_903 : decode cL_law 903 = .ok (.iaload, 1) := by decide +kernel
theorem dL_law_904 : decode cL_law 904 = .ok (.aload_n 0, 1) := by decide +kernel
theorem dL_law_905 : decode cL_law 905 = .ok (.iload_n 3, 1) := by decide +kernel
theorem dL_law_906 : decode cL_law 906 = .ok (.iconst 2, 1) := by decide +kernel
theorem dL_law_907 : decode cL_law 907 = .ok (.iadd, 1) := by decide +kernel
theorem dL_law_908 : decode cL_law 908 = .ok (.iaload, 1) := by decide +kernel
theorem dL_law_909 : decode cL_law 909 = .ok (.invokevirtual 122, 3) := by decide +kernel
theorem dL_law_912 : decode cL_law 912 = .ok (.aload_n 2, 1) := by decide +kernel
theorem dL_law_913 : decode cL_law 913 = .ok (.aload_n 0, 1) := by decide +kernel
theorem dL_law_914 : decode cL_law 914 = .ok (.iload_n 3, 1) := by decide +kernel
theorem dL_law_915 : decode cL_law 915 = .ok (.iconst 1, 1) := by decide +kernel
theorem dL_law_916 : decode cL_law 916 = .ok (.iadd, 1) := by decide +kernel
theorem dL_law_917 : decode cL_law 917 = .ok (.iaload, 1) := by decide +kernel
theorem dL_law_918 : decode cL_law 918 = .ok (.aload_n 0, 1) := by decide +kernel
theorem dL_law_919 : decode cL_law 919 = .ok (.iload_n 3, 1) := by decide +kernel
theorem dL_law_920 : decode cL_law 920 = .ok (.iconst 2, 1) := by decide +kernel
theorem dL_law_921 : decode cL_law 921 = .ok (.iadd, 1) := by decide +kernel
theorem dL_law_922 : decode cL_law 922 = .ok (.iaload, 1) := by decide +kernel
theorem dL_law_923 : decode cL_law 923 = .ok (.invokevirtual 125, 3) := by decide +kernel
theorem dL_law_926 : decode cL_law 926 = .ok (.if_icmp .eq 233, 3) := by decide +kernel
theorem dL_law_929 : decode cL_law 929 = .ok (.iconst 0, 1) := by decide +kernel
theorem dL_law_930 : decode cL_law 930 = .ok (.ireturn, 1) := by decide +kernel
theorem dL_law_931 : decode cL_law 931 = .ok (.aload_n 1, 1) := by decide +kernel
theorem dL_law_932 : decode cL_law 932 = .ok (.aload_n 0, 1) := by decide +kernel
theorem dL_law_933 : decode cL_law 933 = .ok (.iload_n 3, 1) := by decide +kernel
theorem dL_law_934 : decode cL_law 934 = .ok (.iconst 1, 1) := by decide +kernel
theorem dL_law_935 : decode cL_law 935 = .ok (.iadd, 1) := by decide +kernel
theorem dL_law_936 : decode cL_law 936 = .ok (.iaload, 1) := by decide +kernel
theorem dL_law_937 : decode cL_law 937 = .ok (.aload_n 0, 1) := by decide +kernel
theorem dL_law_938 : decode cL_law 938 = .ok (.iload_n 3, 1) := by decide +kernel
theorem dL_law_939 : decode cL_law 939 = .ok (.iconst 2, 1) := by decide +kernel
theorem dL_law_940 : decode cL_law 940 = .ok (.iadd, 1) := by decide +kernel
theorem dL_law_941 : decode cL_law 941 = .ok (.iaload, 1) := by decide +kernel
theorem dL_law_942 : decode cL_law 942 = .ok (.invokevirtual 126, 3) := by decide +kernel
theorem dL_law_945 : decode cL_law 945 = .ok (.aload_n 2, 1) := by decide +kernel
theorem dL_law_946 : decode cL_law 946 = .ok (.aload_n 0, 1) := by decide +kernel
theorem dL_law_947 : decode cL_law 947 = .ok (.iload_n 3, 1) := by decide +kernel
theorem dL_law_948 : decode cL_law 948 = .ok (.iconst 1, 1) := by decide +kernel
theorem dL_law_949 : decode cL_law 949 = .ok (.iadd, 1) := by decide +kernel
theorem dL_law_950 : decode cL_law 950 = .ok (.iaload, 1) := by decide +kernel
theorem dL_law_951 : decode cL_law 951 = .ok (.aload_n 0, 1) := by decide +kernel
theorem dL_law_952 : decode cL_law 952 = .ok (.iload_n 3, 1) := by decide +kernel
theorem dL_law_953 : decode cL_law 953 = .ok (.iconst 2, 1) := by decide +kernel
theorem dL_law_954 : decode cL_law 954 = .ok (.iadd, 1) := by decide +kernel
theorem dL_law_955 : decode cL_law 955 = .ok (.iaload, 1) := by decide +kernel
theorem dL_law_956 : decode cL_law 956 = .ok (.invokevirtual 129, 3) := by decide +kernel
theorem dL_law_959 : decode cL_law 959 = .ok (.if_icmp .eq 200, 3) := by decide +kernel
theorem dL_law_962 : decode cL_law 962 = .ok (.iconst 0, 1) := by decide +kernel
theorem dL_law_963 : decode cL_law 963 = .ok (.ireturn, 1) := by decide +kernel
theorem dL_law_964 : decode cL_law 964 = .ok (.aload_n 1, 1) := by decide +kernel
theorem dL_law_965 : decode cL_law 965 = .ok (.aload_n 0, 1) := by decide +kernel
theorem dL_law_966 : decode cL_law 966 = .ok (.iload_n 3, 1) := by decide +kernel
theorem dL_law_967 : decode cL_law 967 = .ok (.iconst 1, 1) := by decide +kernel
theorem dL_law_968 : decode cL_law 968 = .ok (.iadd, 1) := by decide +kernel
theorem dL_law_969 : decode cL_law 969 = .ok (.iaload, 1) := by decide +kernel
theorem dL_law_970 : decode cL_law 970 = .ok (.invokevirtual 130, 3) := by decide +kernel
theorem dL_law_973 : decode cL_law 973 = .ok (.aload_n 2, 1) := by decide +kernel
theorem dL_law_974 : decode cL_law 974 = .ok (.aload_n 0, 1) := by decide +kernel
theorem dL_law_975 : decode cL_law 975 = .ok (.iload_n 3, 1) := by decide +kernel
theorem dL_law_976 : decode cL_law 976 = .ok (.iconst 1, 1) := by decide +kernel
theorem dL_law_977 : decode cL_law 977 = .ok (.iadd, 1) := by decide +kernel
theorem dL_law_978 : decode cL_law 978 = .ok (.iaload, 1) := by decide +kernel
theorem dL_law_979 : decode cL_law 979 = .ok (.invokevirtual 133, 3) := by decide +kernel
theorem dL_law_982 : decode cL_law 982 = .ok (.if_icmp .eq 177, 3) := by decide +kernel
theorem dL_law_985 : decode cL_law 985 = .ok (.iconst 0, 1) := by decide +kernel
theorem dL_law_986 : decode cL_law 986 = .ok (.ireturn, 1) := by decide +kernel
theorem dL_law_987 : decode cL_law 987 = .ok (.aload_n 1, 1) := by decide +kernel
theorem dL_law_988 : decode cL_law 988 = .ok (.aload_n 0, 1) := by decide +kernel
theorem dL_law_989 : decode cL_law 989 = .ok (.iload_n 3, 1) := by decide +kernel
theorem dL_law_990 : decode cL_law 990 = .ok (.iconst 1, 1) := by decide +kernel
theorem dL_law_991 : decode cL_law 991 = .ok (.iadd, 1) := by decide +kernel
theorem dL_law_992 : decode cL_law 992 = .ok (.iaload, 1) := by decide +kernel
theorem dL_law_993 : decode cL_law 993 = .ok (.aload_n 0, 1) := by decide +kernel
theorem dL_law_994 : decode cL_law 994 = .ok (.iload_n 3, 1) := by decide +kernel
theorem dL_law_995 : decode cL_law 995 = .ok (.iconst 2, 1) := by decide +kernel
theorem dL_law_996 : decode cL_law 996 = .ok (.iadd, 1) := by decide +kernel
theorem dL_law_997 : decode cL_law 997 = .ok (.iaload, 1) := by decide +kernel
theorem dL_law_998 : decode cL_law 998 = .ok (.aload_n 0, 1) := by decide +kernel
theorem dL_law_999 : decode cL_law 999 = .ok (.iload_n 3, 1) := by decide +kernel
theorem dL_law_1000 : decode cL_law 1000 = .ok (.iconst 3, 1) := by decide +kernel
theorem dL_law_1001 : decode cL_law 1001 = .ok (.iadd, 1) := by decide +kernel
theorem dL_law_1002 : decode cL_law 1002 = .ok (.iaload, 1) := by decide +kernel
theorem dL_law_1003 : decode cL_law 1003 = .ok (.invokevirtual 134, 3) := by decide +kernel
theorem dL_law_1006 : decode cL_law 1006 = .ok (.aload_n 2, 1) := by decide +kernel
theorem dL_law_1007 : decode cL_law 1007 = .ok (.aload_n 0, 1) := by decide +kernel
theorem dL_law_1008 : decode cL_law 1008 = .ok (.iload_n 3, 1) := by decide +kernel
theorem dL_law_1009 : decode cL_law 1009 = .ok (.iconst 1, 1) := by decide +kernel
theorem dL_law_1010 : decode cL_law 1010 = .ok (.iadd, 1) := by decide +kernel
theorem dL_law_1011 : decode cL_law 1011 = .ok (.iaload, 1) := by decide +kernel
theorem dL_law_1012 : decode cL_law 1012 = .ok (.aload_n 0, 1) := by decide +kernel
theorem dL_law_1013 : decode cL_law 1013 = .ok (.iload_n 3, 1) := by decide +kernel
theorem dL_law_1014 : decode cL_law 1014 = .ok (.iconst 2, 1) := by decide +kernel
theorem dL_law_1015 : decode cL_law 1015 = .ok (.iadd, 1) := by decide +kernel
theorem dL_law_1016 : decode cL_law 1016 = .ok (.iaload, 1) := by decide +kernel
theorem dL_law_1017 : decode cL_law 1017 = .ok (.aload_n 0, 1) := by decide +kernel
theorem dL_law_1018 : decode cL_law 1018 = .ok (.iload_n 3, 1) := by decide +kernel
theorem dL_law_1019 : decode cL_law 1019 = .ok (.iconst 3, 1) := by decide +kernel
theorem dL_law_1020 : decode cL_law 1020 = .ok (.iadd, 1) := by decide +kernel
theorem dL_law_1021 : decode cL_law 1021 = .ok (.iaload, 1) := by decide +kernel
theorem dL_law_1022 : decode cL_law 1022 = .ok (.invokevirtual 137, 3) := by decide +kernel
theorem dL_law_1025 : decode cL_law 1025 = .ok (.if_icmp .eq 134, 3) := by decide +kernel
theorem dL_law_1028 : decode cL_law 1028 = .ok (.iconst 0, 1) := by decide +kernel
theorem dL_law_1029 : decode cL_law 1029 = .ok (.ireturn, 1) := by decide +kernel
theorem dL_law_1030 : decode cL_law 1030 = .ok (.aload_n 1, 1) := by decide +kernel
theorem dL_law_1031 : decode cL_law 1031 = .ok (.aload_n 0, 1) := by decide +kernel
theorem dL_law_1032 : decode cL_law 1032 = .ok (.iload_n 3, 1) := by decide +kernel
theorem dL_law_1033 : decode cL_law 1033 = .ok (.iconst 1, 1) := by decide +kernel
theorem dL_law_1034 : decode cL_law 1034 = .ok (.iadd, 1) := by decide +kernel
theorem dL_law_1035 : decode cL_law 1035 = .ok (.iaload, 1) := by decide +kernel
theorem dL_law_1036 : decode cL_law 1036 = .ok (.aload_n 0, 1) := by decide +kernel
theorem dL_law_1037 : decode cL_law 1037 = .ok (.iload_n 3, 1) := by decide +kernel
theorem dL_law_1038 : decode cL_law 1038 = .ok (.iconst 2, 1) := by decide +kernel
theorem dL_law_1039 : decode cL_law 1039 = .ok (.iadd, 1) := by decide +kernel
theorem dL_law_1040 : decode cL_law 1040 = .ok (.iaload, 1) := by decide +kernel
theorem dL_law_1041 : decode cL_law 1041 = .ok (.aload_n 0, 1) := by decide +kernel
theorem dL_law_1042 : decode cL_law 1042 = .ok (.iload_n 3, 1) := by decide +kernel
theorem dL_law_1043 : decode cL_law 1043 = .ok (.iconst 3, 1) := by decide +kernel
theorem dL_law_1044 : decode cL_law 1044 = .ok (.iadd, 1) := by decide +kernel
theorem dL_law_1045 : decode cL_law 1045 = .ok (.iaload, 1) := by decide +kernel
theorem dL_law_1046 : decode cL_law 1046 = .ok (.invokevirtual 138, 3) := by decide +kernel
theorem dL_law_1049 : decode cL_law 1049 = .ok (.aload_n 2, 1) := by decide +kernel
theorem dL_law_1050 : decode cL_law 1050 = .ok (.aload_n 0, 1) := by decide +kernel
theorem dL_law_1051 : decode cL_law 1051 = .ok (.iload_n 3, 1) := by decide +kernel
theorem dL_law_1052 : decode cL_law 1052 = .ok (.iconst 1, 1) := by decide +kernel
theorem dL_law_1053 : decode cL_law 1053 = .ok (.iadd, 1) := by decide +kernel
theorem dL_law_1054 : decode cL_law 1054 = .ok (.iaload, 1) := by decide +kernel
theorem dL_law_1055 : decode cL_law 1055 = .ok (.aload_n 0, 1) := by decide +kernel
theorem dL_law_1056 : decode cL_law 1056 = .ok (.iload_n 3, 1) := by decide +kernel
theorem dL_law_1057 : decode cL_law 1057 = .ok (.iconst 2, 1) := by decide +kernel
theorem dL_law_1058 : decode cL_law 1058 = .ok (.iadd, 1) := by decide +kernel
theorem dL_law_1059 : decode cL_law 1059 = .ok (.iaload, 1) := by decide +kernel
theorem dL_law_1060 : decode cL_law 1060 = .ok (.aload_n 0, 1) := by decide +kernel
theorem dL_law_1061 : decode cL_law 1061 = .ok (.iload_n 3, 1) := by decide +kernel
theorem dL_law_1062 : decode cL_law 1062 = .ok (.iconst 3, 1) := by decide +kernel
theorem dL_law_1063 : decode cL_law 1063 = .ok (.iadd, 1) := by decide +kernel
theorem dL_law_1064 : decode cL_law 1064 = .ok (.iaload, 1) := by decide +kernel
theorem dL_law_1065 : decode cL_law 1065 = .ok (.invokevirtual 140, 3) := by decide +kernel
theorem dL_law_1068 : decode cL_law 1068 = .ok (.if_icmp .eq 91, 3) := by decide +kernel
theorem dL_law_1071 : decode cL_law 1071 = .ok (.iconst 0, 1) := by decide +kernel
theorem dL_law_1072 : decode cL_law 1072 = .ok (.ireturn, 1) := by decide +kernel
theorem dL_law_1073 : decode cL_law 1073 = .ok (.aload_n 1, 1) := by decide +kernel
theorem dL_law_1074 : decode cL_law 1074 = .ok (.aload_n 0, 1) := by decide +kernel
theorem dL_law_1075 : decode cL_law 1075 = .ok (.iload_n 3, 1) := by decide +kernel
theorem dL_law_1076 : decode cL_law 1076 = .ok (.iconst 1, 1) := by decide +kernel
theorem dL_law_1077 : decode cL_law 1077 = .ok (.iadd, 1) := by decide +kernel
theorem dL_law_1078 : decode cL_law 1078 = .ok (.iaload, 1) := by decide +kernel
theorem dL_law_1079 : decode cL_law 1079 = .ok (.aload_n 0, 1) := by decide +kernel
theorem dL_law_1080 : decode cL_law 1080 = .ok (.iload_n 3, 1) := by decide +kernel
theorem dL_law_1081 : decode cL_law 1081 = .ok (.iconst 2, 1) := by decide +kernel
theorem dL_law_1082 : decode cL_law 1082 = .ok (.iadd, 1) := by decide +kernel
theorem dL_law_1083 : decode cL_law 1083 = .ok (.iaload, 1) := by decide +kernel
theorem dL_law_1084 : decode cL_law 1084 = .ok (.aload_n 0, 1) := by decide +kernel
theorem dL_law_1085 : decode cL_law 1085 = .ok (.iload_n 3, 1) := by decide +kernel
theorem dL_law_1086 : decode cL_law 1086 = .ok (.iconst 3, 1) := by decide +kernel
theorem dL_law_1087 : decode cL_law 1087 = .ok (.iadd, 1) := by decide +kernel
theorem dL_law_1088 : decode cL_law 1088 = .ok (.iaload, 1) := by decide +kernel
theorem dL_law_1089 : decode cL_law 1089 = .ok (.aload_n 0, 1) := by decide +kernel
theorem dL_law_1090 : decode cL_law 1090 = .ok (.iload_n 3, 1) := by decide +kernel
theorem dL_law_1091 : decode cL_law 1091 = .ok (.iconst 4, 1) := by decide +kernel
theorem dL_law_1092 : decode cL_law 1092 = .ok (.iadd, 1) := by decide +kernel
theorem dL_law_1093 : decode cL_law 1093 = .ok (.iaload, 1) := by decide +kernel
theorem dL_law_1094 : decode cL_law 1094 = .ok (.invokevirtual 141, 3) := by decide +kernel
theorem dL_law_1097 : decode cL_law 1097 = .ok (.aload_n 2, 1) := by decide +kernel
theorem dL_law_1098 : decode cL_law 1098 = .ok (.aload_n 0, 1) := by decide +kernel
theorem dL_law_1099 : decode cL_law 1099 = .ok (.iload_n 3, 1) := by decide +kernel
theorem dL_law_1100 : decode cL_law 1100 = .ok (.iconst 1, 1) := by decide +kernel
theorem dL_law_1101 : decode cL_law 1101 = .ok (.iadd, 1) := by decide +kernel
theorem dL_law_1102 : decode cL_law 1102 = .ok (.iaload, 1) := by decide +kernel
theorem dL_law_1103 : decode cL_law 1103 = .ok (.aload_n 0, 1) := by decide +kernel
theorem dL_law_1104 : decode cL_law 1104 = .ok (.iload_n 3, 1) := by decide +kernel
theorem dL_law_1105 : decode cL_law 1105 = .ok (.iconst 2, 1) := by decide +kernel
theorem dL_law_1106 : decode cL_law 1106 = .ok (.iadd, 1) := by decide +kernel
theorem dL_law_1107 : decode cL_law 1107 = .ok (.iaload, 1) := by decide +kernel
theorem dL_law_1108 : decode cL_law 1108 = .ok (.aload_n 0, 1) := by decide +kernel
theorem dL_law_1109 : decode cL_law 1109 = .ok (.iload_n 3, 1) := by decide +kernel
theorem dL_law_1110 : decode cL_law 1110 = .ok (.iconst 3, 1) := by decide +kernel
theorem dL_law_1111 : decode cL_law 1111 = .ok (.iadd, 1) := by decide +kernel
theorem dL_law_1112 : decode cL_law 1112 = .ok (.iaload, 1) := by decide +kernel
theorem dL_law_1113 : decode cL_law 1113 = .ok (.aload_n 0, 1) := by decide +kernel
theorem dL_law_1114 : decode cL_law 1114 = .ok (.iload_n 3, 1) := by decide +kernel
theorem dL_law_1115 : decode cL_law 1115 = .ok (.iconst 4, 1) := by decide +kernel
theorem dL_law_1116 : decode cL_law 1116 = .ok (.iadd, 1) := by decide +kernel
theorem dL_law_1117 : decode cL_law 1117 = .ok (.iaload, 1) := by decide +kernel
theorem dL_law_1118 : decode cL_law 1118 = .ok (.invokevirtual 145, 3) := by decide +kernel
theorem dL_law_1121 : decode cL_law 1121 = .ok (.if_icmp .eq 38, 3) := by decide +kernel
theorem dL_law_1124 : decode cL_law 1124 = .ok (.iconst 0, 1) := by decide +kernel
theorem dL_law_1125 : decode cL_law 1125 = .ok (.ireturn, 1) := by decide +kernel
theorem dL_law_1126 : decode cL_law 1126 = .ok (.aload_n 1, 1) := by decide +kernel
theorem dL_law_1127 : decode cL_law 1127 = .ok (.aload_n 0, 1) := by decide +kernel
theorem dL_law_1128 : decode cL_law 1128 = .ok (.iload_n 3, 1) := by decide +kernel
theorem dL_law_1129 : decode cL_law 1129 = .ok (.iconst 1, 1) := by decide +kernel
theorem dL_law_1130 : decode cL_law 1130 = .ok (.iadd, 1) := by decide +kernel
theorem dL_law_1131 : decode cL_law 1131 = .ok (.iaload, 1) := by decide +kernel
theorem dL_law_1132 : decode cL_law 1132 = .ok (.aload_n 0, 1) := by decide +kernel
theorem dL_law_1133 : decode cL_law 1133 = .ok (.iload_n 3, 1) := by decide +kernel
theorem dL_law_1134 : decode cL_law 1134 = .ok (.iconst 2, 1) := by decide +kernel
theorem dL_law_1135 : decode cL_law 1135 = .ok (.iadd, 1) := by decide +kernel
theorem dL_law_1136 : decode cL_law 1136 = .ok (.iaload, 1) := by decide +kernel
theorem dL_law_1137 : decode cL_law 1137 = .ok (.invokevirtual 146, 3) := by decide +kernel
theorem dL_law_1140 : decode cL_law 1140 = .ok (.aload_n 2, 1) := by decide +kernel
theorem dL_law_1141 : decode cL_law 1141 = .ok (.aload_n 0, 1) := by decide +kernel
theorem dL_law_1142 : decode cL_law 1142 = .ok (.iload_n 3, 1) := by decide +kernel
theorem dL_law_1143 : decode cL_law 1143 = .ok (.iconst 1, 1) := by decide +kernel
theorem dL_law_1144 : decode cL_law 1144 = .ok (.iadd, 1) := by decide +kernel
theorem dL_law_1145 : decode cL_law 1145 = .ok (.iaload, 1) := by decide +kernel
theorem dL_law_1146 : decode cL_law 1146 = .ok (.aload_n 0, 1) := by decide +kernel
theorem dL_law_1147 : decode cL_law 1147 = .ok (.iload_n 3, 1) := by decide +kernel
theorem dL_law_1148 : decode cL_law 1148 = .ok (.iconst 2, 1) := by decide +kernel
theorem dL_law_1149 : decode cL_law 1149 = .ok (.iadd, 1) := by decide +kernel
theorem dL_law_1150 : decode cL_law 1150 = .ok (.iaload, 1) := by decide +kernel
theorem dL_law_1151 : decode cL_law 1151 = .ok (.invokevirtual 149, 3) := by decide +kernel
theorem dL_law_1154 : decode cL_law 1154 = .ok (.if_icmp .eq 5, 3) := by decide +kernel
theorem dL_law_1157 : decode cL_law 1157 = .ok (.iconst 0, 1) := by decide +kernel
theorem dL_law_1158 : decode cL_law 1158 = .ok (.ireturn, 1) := by decide +kernel
theorem dL_law_1159 : decode cL_law 1159 = .ok (.iinc 3 5, 3) := by decide +kernel
theorem dL_law_1162 : decode cL_law 1162 = .ok (.goto (-1134), 3) := by decide +kernel
theorem dL_law_1165 : decode cL_law 1165 = .ok (.iconst 1, 1) := by decide +kernel
theorem dL_law_1166 : decode cL_law 1166 = .ok (.ireturn, 1) := by decide +kernel

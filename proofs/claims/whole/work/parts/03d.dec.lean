theorem dX12_wordToken_11 : decode cX12_wordToken 11 = .ok (.aload_n 0, 1) := by decide +kernel
theorem dX12_wordToken_12 : decode cX12_wordToken 12 = .ok (.aload_n 0, 1) := by decide +kernel
theorem dX12_wordToken_13 : decode cX12_wordToken 13 = .ok (.getfield 90, 3) := by decide +kernel
theorem dX12_wordToken_16 : decode cX12_wordToken 16 = .ok (.aload_n 0, 1) := by decide +kernel
theorem dX12_wordToken_17 : decode cX12_wordToken 17 = .ok (.getfield 109, 3) := by decide +kernel
theorem dX12_wordToken_20 : decode cX12_wordToken 20 = .ok (.baload, 1) := by decide +kernel
theorem dX12_wordToken_21 : decode cX12_wordToken 21 = .ok (.invokevirtual 262, 3) := by decide +kernel
theorem dX12_wordToken_24 : decode cX12_wordToken 24 = .ok (.ifCond .eq 16, 3) := by decide +kernel
theorem dX12_wordToken_27 : decode cX12_wordToken 27 = .ok (.aload_n 0, 1) := by decide +kernel
theorem dX12_wordToken_28 : decode cX12_wordToken 28 = .ok (.dup, 1) := by decide +kernel
theorem dX12_wordToken_29 : decode cX12_wordToken 29 = .ok (.getfield 109, 3) := by decide +kernel
theorem dX12_wordToken_32 : decode cX12_wordToken 32 = .ok (.iconst 1, 1) := by decide +kernel
theorem dX12_wordToken_33 : decode cX12_wordToken 33 = .ok (.iadd, 1) := by decide +kernel
theorem dX12_wordToken_34 : decode cX12_wordToken 34 = .ok (.putfield 109, 3) := by decide +kernel
theorem dX12_wordToken_37 : decode cX12_wordToken 37 = .ok (.goto (-37), 3) := by decide +kernel
theorem dX12_wordToken_40 : decode cX12_wordToken 40 = .ok (.aload_n 0, 1) := by decide +kernel
theorem dX12_wordToken_41 : decode cX12_wordToken 41 = .ok (.iconst 2, 1) := by decide +kernel
theorem dX12_wordToken_42 : decode cX12_wordToken 42 = .ok (.putfield 112, 3) := by decide +kernel
theorem dX12_wordToken_45 : decode cX12_wordToken 45 = .ok (.aload_n 0, 1) := by decide +kernel
theorem dX12_wordToken_46 : decode cX12_wordToken 46 = .ok (.aload_n 0, 1) := by decide +kernel
theorem dX12_wordToken_47 : decode cX12_wordToken 47 = .ok (.ldc2_w 265, 3) := by decide +kernel
theorem dX12_wordToken_50 : decode cX12_wordToken 50 = .ok (.invokevirtual 267, 3) := by decide +kernel
theorem dX12_wordToken_53 : decode cX12_wordToken 53 = .ok (.ifCond .eq 7, 3) := by decide +kernel
theorem dX12_wordToken_56 : decode cX12_wordToken 56 = .ok (.iconst 0, 1) := by decide +kernel
theorem dX12_wordToken_57 : decode cX12_wordToken 57 = .ok (.goto 74, 3) := by decide +kernel
theorem dX12_wordToken_60 : decode cX12_wordToken 60 = .ok (.aload_n 0, 1) := by decide +kernel
theorem dX12_wordToken_61 : decode cX12_wordToken 61 = .ok (.ldc2_w 271, 3) := by decide +kernel
theorem dX12_wordToken_64 : decode cX12_wordToken 64 = .ok (.invokevirtual 267, 3) := by decide +kernel
theorem dX12_wordToken_67 : decode cX12_wordToken 67 = .ok (.ifCond .eq 7, 3) := by decide +kernel
theorem dX12_wordToken_70 : decode cX12_wordToken 70 = .ok (.iconst 1, 1) := by decide +kernel
theorem dX12_wordToken_71 : decode cX12_wordToken 71 = .ok (.goto 60, 3) := by decide +kernel
theorem dX12_wordToken_74 : decode cX12_wordToken 74 = .ok (.aload_n 0, 1) := by decide +kernel
theorem dX12_wordToken_75 : decode cX12_wordToken 75 = .ok (.ldc2_w 273, 3) := by decide +kernel
theorem dX12_wordToken_78 : decode cX12_wordToken 78 = .ok (.invokevirtual 267, 3) := by decide +kernel
theorem dX12_wordToken_81 : decode cX12_wordToken 81 = .ok (.ifCond .eq 7, 3) := by decide +kernel
theorem dX12_wordToken_84 : decode cX12_wordToken 84 = .ok (.iconst 2, 1) := by decide +kernel
theorem dX12_wordToken_85 : decode cX12_wordToken 85 = .ok (.goto 46, 3) := by decide +kernel
theorem dX12_wordToken_88 : decode cX12_wordToken 88 = .ok (.aload_n 0, 1) := by decide +kernel
theorem dX12_wordToken_89 : decode cX12_wordToken 89 = .ok (.ldc2_w 275, 3) := by decide +kernel
theorem dX12_wordToken_92 : decode cX12_wordToken 92 = .ok (.invokevirtual 267, 3) := by decide +kernel
theorem dX12_wordToken_95 : decode cX12_wordToken 95 = .ok (.ifCond .eq 7, 3) := by decide +kernel
theorem dX12_wordToken_98 : decode cX12_wordToken 98 = .ok (.iconst 3, 1) := by decide +kernel
theorem dX12_wordToken_99 : decode cX12_wordToken 99 = .ok (.goto 32, 3) := by decide +kernel
theorem dX12_wordToken_102 : decode cX12_wordToken 102 = .ok (.aload_n 0, 1) := by decide +kernel
theorem dX12_wordToken_103 : decode cX12_wordToken 103 = .ok (.ldc2_w 277, 3) := by decide +kernel
theorem dX12_wordToken_106 : decode cX12_wordToken 106 = .ok (.invokevirtual 267, 3) := by decide +kernel
theorem dX12_wordToken_109 : decode cX12_wordToken 109 = .ok (.ifCond .eq 7, 3) := by decide +kernel
theorem dX12_wordToken_112 : decode cX12_wordToken 112 = .ok (.iconst 4, 1) := by decide +kernel
theorem dX12_wordToken_113 : decode cX12_wordToken 113 = .ok (.goto 18, 3) := by decide +kernel
theorem dX12_wordToken_116 : decode cX12_wordToken 116 = .ok (.aload_n 0, 1) := by decide +kernel
theorem dX12_wordToken_117 : decode cX12_wordToken 117 = .ok (.ldc2_w 279, 3) := by decide +kernel
theorem dX12_wordToken_120 : decode cX12_wordToken 120 = .ok (.invokevirtual 267, 3) := by decide +kernel
theorem dX12_wordToken_123 : decode cX12_wordToken 123 = .ok (.ifCond .eq 7, 3) := by decide +kernel
theorem dX12_wordToken_126 : decode cX12_wordToken 126 = .ok (.iconst 5, 1) := by decide +kernel
theorem dX12_wordToken_127 : decode cX12_wordToken 127 = .ok (.goto 4, 3) := by decide +kernel
theorem dX12_wordToken_130 : decode cX12_wordToken 130 = .ok (.iconst (-1), 1) := by decide +kernel
theorem dX12_wordToken_131 : decode cX12_wordToken 131 = .ok (.putfield 115, 3) := by decide +kernel
theorem dX12_wordToken_134 : decode cX12_wordToken 134 = .ok (.aload_n 0, 1) := by decide +kernel
theorem dX12_wordToken_135 : decode cX12_wordToken 135 = .ok (.getfield 115, 3) := by decide +kernel
theorem dX12_wordToken_138 : decode cX12_wordToken 138 = .ok (.ifCond .lt 4, 3) := by decide +kernel
theorem dX12_wordToken_141 : decode cX12_wordToken 141 = .ok (.return_, 1) := by decide +kernel
theorem dX12_wordToken_142 : decode cX12_wordToken 142 = .ok (.aload_n 0, 1) := by decide +kernel
theorem dX12_wordToken_143 : decode cX12_wordToken 143 = .ok (.iconst 3, 1) := by decide +kernel
theorem dX12_wordToken_144 : decode cX12_wordToken 144 = .ok (.putfield 112, 3) := by decide +kernel
theorem dX12_wordToken_147 : decode cX12_wordToken 147 = .ok (.aload_n 0, 1) := by decide +kernel
theorem dX12_wordToken_148 : decode cX12_wordToken 148 = .ok (.aload_n 0, 1) := by decide +kernel
theorem dX12_wordToken_149 : decode cX12_wordToken 149 = .ok (.ldc2_w 281, 3) := by decide +kernel
theorem dX12_wordToken_152 : decode cX12_wordToken 152 = .ok (.invokevirtual 267, 3) := by decide +kernel
theorem dX12_wordToken_155 : decode cX12_wordToken 155 = .ok (.ifCond .eq 7, 3) := by decide +kernel
theorem dX12_wordToken_158 : decode cX12_wordToken 158 = .ok (.iconst 0, 1) := by decide +kernel
theorem dX12_wordToken_159 : decode cX12_wordToken 159 = .ok (.goto 60, 3) := by decide +kernel
theorem dX12_wordToken_162 : decode cX12_wordToken 162 = .ok (.aload_n 0, 1) := by decide +kernel
theorem dX12_wordToken_163 : decode cX12_wordToken 163 = .ok (.ldc2_w 283, 3) := by decide +kernel
theorem dX12_wordToken_166 : decode cX12_wordToken 166 = .ok (.invokevirtual 267, 3) := by decide +kernel
theorem dX12_wordToken_169 : decode cX12_wordToken 169 = .ok (.ifCond .eq 7, 3) := by decide +kernel
theorem dX12_wordToken_172 : decode cX12_wordToken 172 = .ok (.iconst 1, 1) := by decide +kernel
theorem dX12_wordToken_173 : decode cX12_wordToken 173 = .ok (.goto 46, 3) := by decide +kernel
theorem dX12_wordToken_176 : decode cX12_wordToken 176 = .ok (.aload_n 0, 1) := by decide +kernel
theorem dX12_wordToken_177 : decode cX12_wordToken 177 = .ok (.ldc2_w 285, 3) := by decide +kernel
theorem dX12_wordToken_180 : decode cX12_wordToken 180 = .ok (.invokevirtual 267, 3) := by decide +kernel
theorem dX12_wordToken_183 : decode cX12_wordToken 183 = .ok (.ifCond .eq 7, 3) := by decide +kernel
theorem dX12_wordToken_186 : decode cX12_wordToken 186 = .ok (.iconst 2, 1) := by decide +kernel
theorem dX12_wordToken_187 : decode cX12_wordToken 187 = .ok (.goto 32, 3) := by decide +kernel
theorem dX12_wordToken_190 : decode cX12_wordToken 190 = .ok (.aload_n 0, 1) := by decide +kernel
theorem dX12_wordToken_191 : decode cX12_wordToken 191 = .ok (.ldc2_w 287, 3) := by decide +kernel
theorem dX12_wordToken_194 : decode cX12_wordToken 194 = .ok (.invokevirtual 267, 3) := by decide +kernel
theorem dX12_wordToken_197 : decode cX12_wordToken 197 = .ok (.ifCond .eq 7, 3) := by decide +kernel
theorem dX12_wordToken_200 : decode cX12_wordToken 200 = .ok (.iconst 3, 1) := by decide +kernel
theorem dX12_wordToken_201 : decode cX12_wordToken 201 = .ok (.goto 18, 3) := by decide +kernel
theorem dX12_wordToken_204 : decode cX12_wordToken 204 = .ok (.aload_n 0, 1) := by decide +kernel
theorem dX12_wordToken_205 : decode cX12_wordToken 205 = .ok (.ldc2_w 289, 3) := by decide +kernel
theorem dX12_wordToken_208 : decode cX12_wordToken 208 = .ok (.invokevirtual 267, 3) := by decide +kernel
theorem dX12_wordToken_211 : decode cX12_wordToken 211 = .ok (.ifCond .eq 7, 3) := by decide +kernel
theorem dX12_wordToken_214 : decode cX12_wordToken 214 = .ok (.iconst 4, 1) := by decide +kernel
theorem dX12_wordToken_215 : decode cX12_wordToken 215 = .ok (.goto 4, 3) := by decide +kernel
theorem dX12_wordToken_218 : decode cX12_wordToken 218 = .ok (.iconst (-1), 1) := by decide +kernel
theorem dX12_wordToken_219 : decode cX12_wordToken 219 = .ok (.putfield 115, 3) := by decide +kernel
theorem dX12_wordToken_222 : decode cX12_wordToken 222 = .ok (.aload_n 0, 1) := by decide +kernel
theorem dX12_wordToken_223 : decode cX12_wordToken 223 = .ok (.getfield 115, 3) := by decide +kernel
theorem dX12_wordToken_226 : decode cX12_wordToken 226 = .ok (.ifCond .ge 8, 3) := by decide +kernel
theorem dX12_wordToken_229 : decode cX12_wordToken 229 = .ok (.aload_n 0, 1) := by decide +kernel
theorem dX12_wordToken_230 : decode cX12_wordToken 230 = .ok (.iconst 5, 1) := by decide +kernel
theorem dX12_wordToken_231 : decode cX12_wordToken 231 = .ok (.putfield 112, 3) := by decide +kernel
theorem dX12_wordToken_234 : decode cX12_wordToken 234 = .ok (.return_, 1) := by decide +kernel
theorem dX12_next_0 : decode cX12_next 0 = .ok (.aload_n 0, 1) := by decide +kernel
theorem dX12_next_1 : decode cX12_next 1 = .ok (.getfield 109, 3) := by decide +kernel
theorem dX12_next_4 : decode cX12_next 4 = .ok (.aload_n 0, 1) := by decide +kernel
theorem dX12_next_5 : decode cX12_next 5 = .ok (.getfield 94, 3) := by decide +kernel
theorem dX12_next_8 : decode cX12_next 8 = .ok (.if_icmp .ge 44, 3) := by decide +kernel
theorem dX12_next_11 : decode cX12_next 11 = .ok (.aload_n 0, 1) := by decide +kernel
theorem dX12_next_12 : decode cX12_next 12 = .ok (.getfield 90, 3) := by decide +kernel
theorem dX12_next_15 : decode cX12_next 15 = .ok (.aload_n 0, 1) := by decide +kernel
theorem dX12_next_16 : decode cX12_next 16 = .ok (.getfield 109, 3) := by decide +kernel
theorem dX12_next_19 : decode cX12_next 19 = .ok (.baload, 1) := by decide +kernel
theorem dX12_next_20 : decode cX12_next 20 = .ok (.bipush 32, 2) := by decide +kernel
theorem dX12_next_22 : decode cX12_next 22 = .ok (.if_icmp .eq 17, 3) := by decide +kernel
theorem dX12_next_25 : decode cX12_next 25 = .ok (.aload_n 0, 1) := by decide +kernel
theorem dX12_next_26 : decode cX12_next 26 = .ok (.getfield 90, 3) := by decide +kernel
theorem dX12_next_29 : decode cX12_next 29 = .ok (.aload_n 0, 1) := by decide +kernel
theorem dX12_next_30 : decode cX12_next 30 = .ok (.getfield 109, 3) := by decide +kernel
theorem dX12_next_33 : decode cX12_next 33 = .ok (.baload, 1) := by decide +kernel
theorem dX12_next_34 : decode cX12_next 34 = .ok (.bipush 10, 2) := by decide +kernel
theorem dX12_next_36 : decode cX12_next 36 = .ok (.if_icmp .ne 16, 3) := by decide +kernel
theorem dX12_next_39 : decode cX12_next 39 = .ok (.aload_n 0, 1) := by decide +kernel
theorem dX12_next_40 : decode cX12_next 40 = .ok (.dup, 1) := by decide +kernel
theorem dX12_next_41 : decode cX12_next 41 = .ok (.getfield 109, 3) := by decide +kernel
theorem dX12_next_44 : decode cX12_next 44 = .ok (.iconst 1, 1) := by decide +kernel
theorem dX12_next_45 : decode cX12_next 45 = .ok (.iadd, 1) := by decide +kernel
theorem dX12_next_46 : decode cX12_next 46 = .ok (.putfield 109, 3) := by decide +kernel
theorem dX12_next_49 : decode cX12_next 49 = .ok (.goto (-49), 3) := by decide +kernel
theorem dX12_next_52 : decode cX12_next 52 = .ok (.aload_n 0, 1) := by decide +kernel
theorem dX12_next_53 : decode cX12_next 53 = .ok (.aload_n 0, 1) := by decide +kernel
theorem dX12_next_54 : decode cX12_next 54 = .ok (.getfield 109, 3) := by decide +kernel
theorem dX12_next_57 : decode cX12_next 57 = .ok (.putfield 118, 3) := by decide +kernel
theorem dX12_next_60 : decode cX12_next 60 = .ok (.aload_n 0, 1) := by decide +kernel
theorem dX12_next_61 : decode cX12_next 61 = .ok (.iconst 0, 1) := by decide +kernel
theorem dX12_next_62 : decode cX12_next 62 = .ok (.putfield 112, 3) := by decide +kernel
theorem dX12_next_65 : decode cX12_next 65 = .ok (.aload_n 0, 1) := by decide +kernel
theorem dX12_next_66 : decode cX12_next 66 = .ok (.getfield 109, 3) := by decide +kernel
theorem dX12_next_69 : decode cX12_next 69 = .ok (.aload_n 0, 1) := by decide +kernel
theorem dX12_next_70 : decode cX12_next 70 = .ok (.getfield 94, 3) := by decide +kernel
theorem dX12_next_73 : decode cX12_next 73 = .ok (.if_icmp .ne 4, 3) := by decide +kernel
theorem dX12_next_76 : decode cX12_next 76 = .ok (.return_, 1) := by decide +kernel
theorem dX12_next_77 : decode cX12_next 77 = .ok (.aload_n 0, 1) := by decide +kernel
theorem dX12_next_78 : decode cX12_next 78 = .ok (.getfield 90, 3) := by decide +kernel
theorem dX12_next_81 : decode cX12_next 81 = .ok (.aload_n 0, 1) := by decide +kernel
theorem dX12_next_82 : decode cX12_next 82 = .ok (.getfield 109, 3) := by decide +kernel
theorem dX12_next_85 : decode cX12_next 85 = .ok (.baload, 1) := by decide +kernel
theorem dX12_next_86 : decode cX12_next 86 = .ok (.istore_n 1, 1) := by decide +kernel
theorem dX12_next_87 : decode cX12_next 87 = .ok (.aload_n 0, 1) := by decide +kernel
theorem dX12_next_88 : decode cX12_next 88 = .ok (.iload_n 1, 1) := by decide +kernel
theorem dX12_next_89 : decode cX12_next 89 = .ok (.invokevirtual 262, 3) := by decide +kernel
theorem dX12_next_92 : decode cX12_next 92 = .ok (.ifCond .eq 8, 3) := by decide +kernel
theorem dX12_next_95 : decode cX12_next 95 = .ok (.aload_n 0, 1) := by decide +kernel
theorem dX12_next_96 : decode cX12_next 96 = .ok (.invokevirtual 291, 3) := by decide +kernel
theorem dX12_next_99 : decode cX12_next 99 = .ok (.return_, 1) := by decide +kernel
theorem dX12_next_100 : decode cX12_next 100 = .ok (.aload_n 0, 1) := by decide +kernel
theorem dX12_next_101 : decode cX12_next 101 = .ok (.iload_n 1, 1) := by decide +kernel
theorem dX12_next_102 : decode cX12_next 102 = .ok (.invokevirtual 294, 3) := by decide +kernel
theorem dX12_next_105 : decode cX12_next 105 = .ok (.ifCond .eq 115, 3) := by decide +kernel
theorem dX12_next_108 : decode cX12_next 108 = .ok (.aload_n 0, 1) := by decide +kernel
theorem dX12_next_109 : decode cX12_next 109 = .ok (.iconst 0, 1) := by decide +kernel
theorem dX12_next_110 : decode cX12_next 110 = .ok (.putfield 115, 3) := by decide +kernel
theorem dX12_next_113 : decode cX12_next 113 = .ok (.aload_n 0, 1) := by decide +kernel
theorem dX12_next_114 : decode cX12_next 114 = .ok (.getfield 109, 3) := by decide +kernel
theorem dX12_next_117 : decode cX12_next 117 = .ok (.aload_n 0, 1) := by decide +kernel
theorem dX12_next_118 : decode cX12_next 118 = .ok (.getfield 94, 3) := by decide +kernel
theorem dX12_next_121 : decode cX12_next 121 = .ok (.if_icmp .ge 76, 3) := by decide +kernel
theorem dX12_next_124 : decode cX12_next 124 = .ok (.aload_n 0, 1) := by decide +kernel
theorem dX12_next_125 : decode cX12_next 125 = .ok (.aload_n 0, 1) := by decide +kernel
theorem dX12_next_126 : decode cX12_next 126 = .ok (.getfield 90, 3) := by decide +kernel
theorem dX12_next_129 : decode cX12_next 129 = .ok (.aload_n 0, 1) := by decide +kernel
theorem dX12_next_130 : decode cX12_next 130 = .ok (.getfield 109, 3) := by decide +kernel
theorem dX12_next_133 : decode cX12_next 133 = .ok (.baload, 1) := by decide +kernel
theorem dX12_next_134 : decode cX12_next 134 = .ok (.invokevirtual 294, 3) := by decide +kernel
theorem dX12_next_137 : decode cX12_next 137 = .ok (.ifCond .eq 60, 3) := by decide +kernel
theorem dX12_next_140 : decode cX12_next 140 = .ok (.aload_n 0, 1) := by decide +kernel
theorem dX12_next_141 : decode cX12_next 141 = .ok (.aload_n 0, 1) := by decide +kernel
theorem dX12_next_142 : decode cX12_next 142 = .ok (.getfield 109, 3) := by decide +kernel
theorem dX12_next_145 : decode cX12_next 145 = .ok (.aload_n 0, 1) := by decide +kernel
theorem dX12_next_146 : decode cX12_next 146 = .ok (.getfield 118, 3) := by decide +kernel
theorem dX12_next_149 : decode cX12_next 149 = .ok (.isub, 1) := by decide +kernel
theorem dX12_next_150 : decode cX12_next 150 = .ok (.iconst 4, 1) := by decide +kernel
theorem dX12_next_151 : decode cX12_next 151 = .ok (.if_icmp .ge 26, 3) := by decide +kernel
theorem dX12_next_154 : decode cX12_next 154 = .ok (.bipush 10, 2) := by decide +kernel
theorem dX12_next_156 : decode cX12_next 156 = .ok (.aload_n 0, 1) := by decide +kernel
theorem dX12_next_157 : decode cX12_next 157 = .ok (.getfield 115, 3) := by decide +kernel
theorem dX12_next_160 : decode cX12_next 160 = .ok (.imul, 1) := by decide +kernel
theorem dX12_next_161 : decode cX12_next 161 = .ok (.aload_n 0, 1) := by decide +kernel
theorem dX12_next_162 : decode cX12_next 162 = .ok (.getfield 90, 3) := by decide +kernel
theorem dX12_next_165 : decode cX12_next 165 = .ok (.aload_n 0, 1) := by decide +kernel
theorem dX12_next_166 : decode cX12_next 166 = .ok (.getfield 109, 3) := by decide +kernel
theorem dX12_next_169 : decode cX12_next 169 = .ok (.baload, 1) := by decide +kernel
theorem dX12_next_170 : decode cX12_next 170 = .ok (.iadd, 1) := by decide +kernel
theorem dX12_next_171 : decode cX12_next 171 = .ok (.bipush 48, 2) := by decide +kernel
theorem dX12_next_173 : decode cX12_next 173 = .ok (.isub, 1) := by decide +kernel
theorem dX12_next_174 : decode cX12_next 174 = .ok (.goto 7, 3) := by decide +kernel
theorem dX12_next_177 : decode cX12_next 177 = .ok (.aload_n 0, 1) := by decide +kernel
theorem dX12_next_178 : decode cX12_next 178 = .ok (.getfield 115, 3) := by decide +kernel
theorem dX12_next_181 : decode cX12_next 181 = .ok (.putfield 115, 3) := by decide +kernel
theorem dX12_next_184 : decode cX12_next 184 = .ok (.aload_n 0, 1) := by decide +kernel
theorem dX12_next_185 : decode cX12_next 185 = .ok (.dup, 1) := by decide +kernel
theorem dX12_next_186 : decode cX12_next 186 = .ok (.getfield 109, 3) := by decide +kernel
theorem dX12_next_189 : decode cX12_next 189 = .ok (.iconst 1, 1) := by decide +kernel
theorem dX12_next_190 : decode cX12_next 190 = .ok (.iadd, 1) := by decide +kernel
theorem dX12_next_191 : decode cX12_next 191 = .ok (.putfield 109, 3) := by decide +kernel
theorem dX12_next_194 : decode cX12_next 194 = .ok (.goto (-81), 3) := by decide +kernel
theorem dX12_next_197 : decode cX12_next 197 = .ok (.aload_n 0, 1) := by decide +kernel
theorem dX12_next_198 : decode cX12_next 198 = .ok (.aload_n 0, 1) := by decide +kernel
theorem dX12_next_199 : decode cX12_next 199 = .ok (.getfield 109, 3) := by decide +kernel
theorem dX12_next_202 : decode cX12_next 202 = .ok (.aload_n 0, 1) := by decide +kernel
theorem dX12_next_203 : decode cX12_next 203 = .ok (.getfield 118, 3) := by decide +kernel
theorem dX12_next_206 : decode cX12_next 206 = .ok (.isub, 1) := by decide +kernel
theorem dX12_next_207 : decode cX12_next 207 = .ok (.iconst 4, 1) := by decide +kernel
theorem dX12_next_208 : decode cX12_next 208 = .ok (.if_icmp .le 7, 3) := by decide +kernel
theorem dX12_next_211 : decode cX12_next 211 = .ok (.iconst 5, 1) := by decide +kernel
theorem dX12_next_212 : decode cX12_next 212 = .ok (.goto 4, 3) := by decide +kernel
theorem dX12_next_215 : decode cX12_next 215 = .ok (.iconst 1, 1) := by decide +kernel
theorem dX12_next_216 : decode cX12_next 216 = .ok (.putfield 112, 3) := by decide +kernel
theorem dX12_next_219 : decode cX12_next 219 = .ok (.return_, 1) := by decide +kernel
theorem dX12_next_220 : decode cX12_next 220 = .ok (.aload_n 0, 1) := by decide +kernel
theorem dX12_next_221 : decode cX12_next 221 = .ok (.dup, 1) := by decide +kernel
theorem dX12_next_222 : decode cX12_next 222 = .ok (.getfield 109, 3) := by decide +kernel
theorem dX12_next_225 : decode cX12_next 225 = .ok (.iconst 1, 1) := by decide +kernel
theorem dX12_next_226 : decode cX12_next 226 = .ok (.iadd, 1) := by decide +kernel
theorem dX12_next_227 : decode cX12_next 227 = .ok (.putfield 109, 3) := by decide +kernel
theorem dX12_next_230 : decode cX12_next 230 = .ok (.aload_n 0, 1) := by decide +kernel
theorem dX12_next_231 : decode cX12_next 231 = .ok (.iload_n 1, 1) := by decide +kernel
theorem dX12_next_232 : decode cX12_next 232 = .ok (.putfield 115, 3) := by decide +kernel
theorem dX12_next_235 : decode cX12_next 235 = .ok (.aload_n 0, 1) := by decide +kernel
theorem dX12_next_236 : decode cX12_next 236 = .ok (.iload_n 1, 1) := by decide +kernel
theorem dX12_next_237 : decode cX12_next 237 = .ok (.bipush 40, 2) := by decide +kernel
theorem dX12_next_239 : decode cX12_next 239 = .ok (.if_icmp .eq 45, 3) := by decide +kernel
theorem dX12_next_242 : decode cX12_next 242 = .ok (.iload_n 1, 1) := by decide +kernel
theorem dX12_next_243 : decode cX12_next 243 = .ok (.bipush 41, 2) := by decide +kernel
theorem dX12_next_245 : decode cX12_next 245 = .ok (.if_icmp .eq 39, 3) := by decide +kernel
theorem dX12_next_248 : decode cX12_next 248 = .ok (.iload_n 1, 1) := by decide +kernel
theorem dX12_next_249 : decode cX12_next 249 = .ok (.bipush 59, 2) := by decide +kernel
theorem dX12_next_251 : decode cX12_next 251 = .ok (.if_icmp .eq 33, 3) := by decide +kernel
theorem dX12_next_254 : decode cX12_next 254 = .ok (.iload_n 1, 1) := by decide +kernel
theorem dX12_next_255 : decode cX12_next 255 = .ok (.bipush 43, 2) := by decide +kernel
theorem dX12_next_257 : decode cX12_next 257 = .ok (.if_icmp .eq 27, 3) := by decide +kernel
theorem dX12_next_260 : decode cX12_next 260 = .ok (.iload_n 1, 1) := by decide +kernel
theorem dX12_next_261 : decode cX12_next 261 = .ok (.bipush 45, 2) := by decide +kernel
theorem dX12_next_263 : decode cX12_next 263 = .ok (.if_icmp .eq 21, 3) := by decide +kernel
theorem dX12_next_266 : decode cX12_next 266 = .ok (.iload_n 1, 1) := by decide +kernel
theorem dX12_next_267 : decode cX12_next 267 = .ok (.bipush 42, 2) := by decide +kernel
theorem dX12_next_269 : decode cX12_next 269 = .ok (.if_icmp .eq 15, 3) := by decide +kernel
theorem dX12_next_272 : decode cX12_next 272 = .ok (.iload_n 1, 1) := by decide +kernel
theorem dX12_next_273 : decode cX12_next 273 = .ok (.bipush 60, 2) := by decide +kernel
theorem dX12_next_275 : decode cX12_next 275 = .ok (.if_icmp .eq 9, 3) := by decide +kernel
theorem dX12_next_278 : decode cX12_next 278 = .ok (.iload_n 1, 1) := by decide +kernel
theorem dX12_next_279 : decode cX12_next 279 = .ok (.bipush 61, 2) := by decide +kernel
theorem dX12_next_281 : decode cX12_next 281 = .ok (.if_icmp .ne 7, 3) := by decide +kernel
theorem dX12_next_284 : decode cX12_next 284 = .ok (.iconst 4, 1) := by decide +kernel
theorem dX12_next_285 : decode cX12_next 285 = .ok (.goto 4, 3) := by decide +kernel
theorem dX12_next_288 : decode cX12_next 288 = .ok (.iconst 5, 1) := by decide +kernel
theorem dX12_next_289 : decode cX12_next 289 = .ok (.putfield 112, 3) := by decide +kernel
theorem dX12_next_292 : decode cX12_next 292 = .ok (.return_, 1) := by decide +kernel
theorem dX12_isKey_0 : decode cX12_isKey 0 = .ok (.aload_n 0, 1) := by decide +kernel
theorem dX12_isKey_1 : decode cX12_isKey 1 = .ok (.getfield 112, 3) := by decide +kernel
theorem dX12_isKey_4 : decode cX12_isKey 4 = .ok (.iconst 3, 1) := by decide +kernel
theorem dX12_isKey_5 : decode cX12_isKey 5 = .ok (.if_icmp .ne 15, 3) := by decide +kernel
theorem dX12_isKey_8 : decode cX12_isKey 8 = .ok (.aload_n 0, 1) := by decide +kernel
theorem dX12_isKey_9 : decode cX12_isKey 9 = .ok (.getfield 115, 3) := by decide +kernel
theorem dX12_isKey_12 : decode cX12_isKey 12 = .ok (.iload_n 1, 1) := by decide +kernel
theorem dX12_isKey_13 : decode cX12_isKey 13 = .ok (.if_icmp .ne 7, 3) := by decide +kernel
theorem dX12_isKey_16 : decode cX12_isKey 16 = .ok (.iconst 1, 1) := by decide +kernel
theorem dX12_isKey_17 : decode cX12_isKey 17 = .ok (.goto 4, 3) := by decide +kernel
theorem dX12_isKey_20 : decode cX12_isKey 20 = .ok (.iconst 0, 1) := by decide +kernel
theorem dX12_isKey_21 : decode cX12_isKey 21 = .ok (.ireturn, 1) := by decide +kernel
theorem dX12_isSign_0 : decode cX12_isSign 0 = .ok (.aload_n 0, 1) := by decide +kernel
theorem dX12_isSign_1 : decode cX12_isSign 1 = .ok (.getfield 112, 3) := by decide +kernel
theorem dX12_isSign_4 : decode cX12_isSign 4 = .ok (.iconst 4, 1) := by decide +kernel
theorem dX12_isSign_5 : decode cX12_isSign 5 = .ok (.if_icmp .ne 15, 3) := by decide +kernel
theorem dX12_isSign_8 : decode cX12_isSign 8 = .ok (.aload_n 0, 1) := by decide +kernel
theorem dX12_isSign_9 : decode cX12_isSign 9 = .ok (.getfield 115, 3) := by decide +kernel
theorem dX12_isSign_12 : decode cX12_isSign 12 = .ok (.iload_n 1, 1) := by decide +kernel
theorem dX12_isSign_13 : decode cX12_isSign 13 = .ok (.if_icmp .ne 7, 3) := by decide +kernel
theorem dX12_isSign_16 : decode cX12_isSign 16 = .ok (.iconst 1, 1) := by decide +kernel
theorem dX12_isSign_17 : decode cX12_isSign 17 = .ok (.goto 4, 3) := by decide +kernel
theorem dX12_isSign_20 : decode cX12_isSign 20 = .ok (.iconst 0, 1) := by decide +kernel
theorem dX12_isSign_21 : decode cX12_isSign 21 = .ok (.ireturn, 1) := by decide +kernel
theorem dX12_put_0 : decode cX12_put 0 = .ok (.aload_n 0, 1) := by decide +kernel
theorem dX12_put_1 : decode cX12_put 1 = .ok (.getfield 106, 3) := by decide +kernel
theorem dX12_put_4 : decode cX12_put 4 = .ok (.sipush 160, 3) := by decide +kernel
theorem dX12_put_7 : decode cX12_put 7 = .ok (.aload_n 0, 1) := by decide +kernel
theorem dX12_put_8 : decode cX12_put 8 = .ok (.getfield 136, 3) := by decide +kernel
theorem dX12_put_11 : decode cX12_put 11 = .ok (.imul, 1) := by decide +kernel
theorem dX12_put_12 : decode cX12_put 12 = .ok (.aload_n 0, 1) := by decide +kernel
theorem dX12_put_13 : decode cX12_put 13 = .ok (.getfield 103, 3) := by decide +kernel
theorem dX12_put_16 : decode cX12_put 16 = .ok (.aload_n 0, 1) := by decide +kernel
theorem dX12_put_17 : decode cX12_put 17 = .ok (.getfield 136, 3) := by decide +kernel
theorem dX12_put_20 : decode cX12_put 20 = .ok (.iaload, 1) := by decide +kernel
theorem dX12_put_21 : decode cX12_put 21 = .ok (.iadd, 1) := by decide +kernel
theorem dX12_put_22 : decode cX12_put 22 = .ok (.iload_n 1, 1) := by decide +kernel
theorem dX12_put_23 : decode cX12_put 23 = .ok (.iastore, 1) := by decide +kernel
theorem dX12_put_24 : decode cX12_put 24 = .ok (.aload_n 0, 1) := by decide +kernel
theorem dX12_put_25 : decode cX12_put 25 = .ok (.getfield 103, 3) := by decide +kernel
theorem dX12_put_28 : decode cX12_put 28 = .ok (.aload_n 0, 1) := by decide +kernel
theorem dX12_put_29 : decode cX12_put 29 = .ok (.getfield 136, 3) := by decide +kernel
theorem dX12_put_32 : decode cX12_put 32 = .ok (.dup2, 1) := by decide +kernel
theorem dX12_put_33 : decode cX12_put 33 = .ok (.iaload, 1) := by decide +kernel
theorem dX12_put_34 : decode cX12_put 34 = .ok (.iconst 1, 1) := by decide +kernel
theorem dX12_put_35 : decode cX12_put 35 = .ok (.iadd, 1) := by decide +kernel
theorem dX12_put_36 : decode cX12_put 36 = .ok (.iastore, 1) := by decide +kernel
theorem dX12_put_37 : decode cX12_put 37 = .ok (.return_, 1) := by decide +kernel
theorem dX12_rank_0 : decode cX12_rank 0 = .ok (.iload_n 1, 1) := by decide +kernel
theorem dX12_rank_1 : decode cX12_rank 1 = .ok (.iconst (-1), 1) := by decide +kernel
theorem dX12_rank_2 : decode cX12_rank 2 = .ok (.if_icmp .ne 7, 3) := by decide +kernel
theorem dX12_rank_5 : decode cX12_rank 5 = .ok (.iconst 1, 1) := by decide +kernel
theorem dX12_rank_6 : decode cX12_rank 6 = .ok (.goto 78, 3) := by decide +kernel
theorem dX12_rank_9 : decode cX12_rank 9 = .ok (.iload_n 1, 1) := by decide +kernel
theorem dX12_rank_10 : decode cX12_rank 10 = .ok (.bipush (-2), 2) := by decide +kernel
theorem dX12_rank_12 : decode cX12_rank 12 = .ok (.if_icmp .ne 7, 3) := by decide +kernel
theorem dX12_rank_15 : decode cX12_rank 15 = .ok (.iconst 2, 1) := by decide +kernel
theorem dX12_rank_16 : decode cX12_rank 16 = .ok (.goto 68, 3) := by decide +kernel
theorem dX12_rank_19 : decode cX12_rank 19 = .ok (.iload_n 1, 1) := by decide +kernel
theorem dX12_rank_20 : decode cX12_rank 20 = .ok (.bipush (-3), 2) := by decide +kernel
theorem dX12_rank_22 : decode cX12_rank 22 = .ok (.if_icmp .ne 7, 3) := by decide +kernel
theorem dX12_rank_25 : decode cX12_rank 25 = .ok (.iconst 3, 1) := by decide +kernel
theorem dX12_rank_26 : decode cX12_rank 26 = .ok (.goto 58, 3) := by decide +kernel
theorem dX12_rank_29 : decode cX12_rank 29 = .ok (.iload_n 1, 1) := by decide +kernel
theorem dX12_rank_30 : decode cX12_rank 30 = .ok (.bipush (-4), 2) := by decide +kernel
theorem dX12_rank_32 : decode cX12_rank 32 = .ok (.if_icmp .eq 9, 3) := by decide +kernel
theorem dX12_rank_35 : decode cX12_rank 35 = .ok (.iload_n 1, 1) := by decide +kernel
theorem dX12_rank_36 : decode cX12_rank 36 = .ok (.bipush (-5), 2) := by decide +kernel
theorem dX12_rank_38 : decode cX12_rank 38 = .ok (.if_icmp .ne 7, 3) := by decide +kernel
theorem dX12_rank_41 : decode cX12_rank 41 = .ok (.iconst 4, 1) := by decide +kernel
theorem dX12_rank_42 : decode cX12_rank 42 = .ok (.goto 42, 3) := by decide +kernel
theorem dX12_rank_45 : decode cX12_rank 45 = .ok (.iload_n 1, 1) := by decide +kernel
theorem dX12_rank_46 : decode cX12_rank 46 = .ok (.bipush (-6), 2) := by decide +kernel
theorem dX12_rank_48 : decode cX12_rank 48 = .ok (.if_icmp .eq 9, 3) := by decide +kernel
theorem dX12_rank_51 : decode cX12_rank 51 = .ok (.iload_n 1, 1) := by decide +kernel
theorem dX12_rank_52 : decode cX12_rank 52 = .ok (.bipush (-7), 2) := by decide +kernel
theorem dX12_rank_54 : decode cX12_rank 54 = .ok (.if_icmp .ne 7, 3) := by decide +kernel
theorem dX12_rank_57 : decode cX12_rank 57 = .ok (.iconst 5, 1) := by decide +kernel
theorem dX12_rank_58 : decode cX12_rank 58 = .ok (.goto 26, 3) := by decide +kernel
theorem dX12_rank_61 : decode cX12_rank 61 = .ok (.iload_n 1, 1) := by decide +kernel
theorem dX12_rank_62 : decode cX12_rank 62 = .ok (.bipush (-8), 2) := by decide +kernel
theorem dX12_rank_64 : decode cX12_rank 64 = .ok (.if_icmp .ne 8, 3) := by decide +kernel
theorem dX12_rank_67 : decode cX12_rank 67 = .ok (.bipush 6, 2) := by decide +kernel
theorem dX12_rank_69 : decode cX12_rank 69 = .ok (.goto 15, 3) := by decide +kernel
theorem dX12_rank_72 : decode cX12_rank 72 = .ok (.iload_n 1, 1) := by decide +kernel
theorem dX12_rank_73 : decode cX12_rank 73 = .ok (.bipush (-9), 2) := by decide +kernel
theorem dX12_rank_75 : decode cX12_rank 75 = .ok (.if_icmp .ne 8, 3) := by decide +kernel
theorem dX12_rank_78 : decode cX12_rank 78 = .ok (.bipush 7, 2) := by decide +kernel
theorem dX12_rank_80 : decode cX12_rank 80 = .ok (.goto 4, 3) := by decide +kernel
theorem dX12_rank_83 : decode cX12_rank 83 = .ok (.iconst 0, 1) := by decide +kernel
theorem dX12_rank_84 : decode cX12_rank 84 = .ok (.ireturn, 1) := by decide +kernel
theorem dX12_settle_0 : decode cX12_settle 0 = .ok (.aload_n 0, 1) := by decide +kernel
theorem dX12_settle_1 : decode cX12_settle 1 = .ok (.getfield 127, 3) := by decide +kernel
theorem dX12_settle_4 : decode cX12_settle 4 = .ok (.ifCond .le 86, 3) := by decide +kernel
theorem dX12_settle_7 : decode cX12_settle 7 = .ok (.aload_n 0, 1) := by decide +kernel
theorem dX12_settle_8 : decode cX12_settle 8 = .ok (.aload_n 0, 1) := by decide +kernel
theorem dX12_settle_9 : decode cX12_settle 9 = .ok (.getfield 121, 3) := by decide +kernel
theorem dX12_settle_12 : decode cX12_settle 12 = .ok (.aload_n 0, 1) := by decide +kernel
theorem dX12_settle_13 : decode cX12_settle 13 = .ok (.getfield 127, 3) := by decide +kernel
theorem dX12_settle_16 : decode cX12_settle 16 = .ok (.iconst 1, 1) := by decide +kernel
theorem dX12_settle_17 : decode cX12_settle 17 = .ok (.isub, 1) := by decide +kernel
theorem dX12_settle_18 : decode cX12_settle 18 = .ok (.iaload, 1) := by decide +kernel
theorem dX12_settle_19 : decode cX12_settle 19 = .ok (.invokevirtual 297, 3) := by decide +kernel
theorem dX12_settle_22 : decode cX12_settle 22 = .ok (.iload_n 1, 1) := by decide +kernel
theorem dX12_settle_23 : decode cX12_settle 23 = .ok (.if_icmp .lt 67, 3) := by decide +kernel
theorem dX12_settle_26 : decode cX12_settle 26 = .ok (.aload_n 0, 1) := by decide +kernel
theorem dX12_settle_27 : decode cX12_settle 27 = .ok (.dup, 1) := by decide +kernel
theorem dX12_settle_28 : decode cX12_settle 28 = .ok (.getfield 127, 3) := by decide +kernel
theorem dX12_settle_31 : decode cX12_settle 31 = .ok (.iconst 1, 1) := by decide +kernel
theorem dX12_settle_32 : decode cX12_settle 32 = .ok (.isub, 1) := by decide +kernel
theorem dX12_settle_33 : decode cX12_settle 33 = .ok (.putfield 127, 3) := by decide +kernel
theorem dX12_settle_36 : decode cX12_settle 36 = .ok (.aload_n 0, 1) := by decide +kernel
theorem dX12_settle_37 : decode cX12_settle 37 = .ok (.aload_n 0, 1) := by decide +kernel
theorem dX12_settle_38 : decode cX12_settle 38 = .ok (.getfield 121, 3) := by decide +kernel
theorem dX12_settle_41 : decode cX12_settle 41 = .ok (.aload_n 0, 1) := by decide +kernel
theorem dX12_settle_42 : decode cX12_settle 42 = .ok (.getfield 127, 3) := by decide +kernel
theorem dX12_settle_45 : decode cX12_settle 45 = .ok (.iaload, 1) := by decide +kernel
theorem dX12_settle_46 : decode cX12_settle 46 = .ok (.invokevirtual 300, 3) := by decide +kernel
theorem dX12_settle_49 : decode cX12_settle 49 = .ok (.aload_n 0, 1) := by decide +kernel
theorem dX12_settle_50 : decode cX12_settle 50 = .ok (.getfield 121, 3) := by decide +kernel
theorem dX12_settle_53 : decode cX12_settle 53 = .ok (.aload_n 0, 1) := by decide +kernel
theorem dX12_settle_54 : decode cX12_settle 54 = .ok (.getfield 127, 3) := by decide +kernel
theorem dX12_settle_57 : decode cX12_settle 57 = .ok (.iaload, 1) := by decide +kernel
theorem dX12_settle_58 : decode cX12_settle 58 = .ok (.bipush (-3), 2) := by decide +kernel
theorem dX12_settle_60 : decode cX12_settle 60 = .ok (.if_icmp .eq 17, 3) := by decide +kernel
theorem dX12_settle_63 : decode cX12_settle 63 = .ok (.aload_n 0, 1) := by decide +kernel
theorem dX12_settle_64 : decode cX12_settle 64 = .ok (.getfield 121, 3) := by decide +kernel
theorem dX12_settle_67 : decode cX12_settle 67 = .ok (.aload_n 0, 1) := by decide +kernel
theorem dX12_settle_68 : decode cX12_settle 68 = .ok (.getfield 127, 3) := by decide +kernel
theorem dX12_settle_71 : decode cX12_settle 71 = .ok (.iaload, 1) := by decide +kernel
theorem dX12_settle_72 : decode cX12_settle 72 = .ok (.bipush (-9), 2) := by decide +kernel
theorem dX12_settle_74 : decode cX12_settle 74 = .ok (.if_icmp .ne (-74), 3) := by decide +kernel
theorem dX12_settle_77 : decode cX12_settle 77 = .ok (.aload_n 0, 1) := by decide +kernel
theorem dX12_settle_78 : decode cX12_settle 78 = .ok (.dup, 1) := by decide +kernel
theorem dX12_settle_79 : decode cX12_settle 79 = .ok (.getfield 133, 3) := by decide +kernel
theorem dX12_settle_82 : decode cX12_settle 82 = .ok (.iconst 1, 1) := by decide +kernel
theorem dX12_settle_83 : decode cX12_settle 83 = .ok (.isub, 1) := by decide +kernel
theorem dX12_settle_84 : decode cX12_settle 84 = .ok (.putfield 133, 3) := by decide +kernel
theorem dX12_settle_87 : decode cX12_settle 87 = .ok (.goto (-87), 3) := by decide +kernel
theorem dX12_settle_90 : decode cX12_settle 90 = .ok (.return_, 1) := by decide +kernel
theorem dX12_hold_0 : decode cX12_hold 0 = .ok (.aload_n 0, 1) := by decide +kernel
theorem dX12_hold_1 : decode cX12_hold 1 = .ok (.getfield 121, 3) := by decide +kernel
theorem dX12_hold_4 : decode cX12_hold 4 = .ok (.aload_n 0, 1) := by decide +kernel
theorem dX12_hold_5 : decode cX12_hold 5 = .ok (.getfield 127, 3) := by decide +kernel
theorem dX12_hold_8 : decode cX12_hold 8 = .ok (.iload_n 1, 1) := by decide +kernel
theorem dX12_hold_9 : decode cX12_hold 9 = .ok (.iastore, 1) := by decide +kernel
theorem dX12_hold_10 : decode cX12_hold 10 = .ok (.aload_n 0, 1) := by decide +kernel
theorem dX12_hold_11 : decode cX12_hold 11 = .ok (.dup, 1) := by decide +kernel
theorem dX12_hold_12 : decode cX12_hold 12 = .ok (.getfield 127, 3) := by decide +kernel
theorem dX12_hold_15 : decode cX12_hold 15 = .ok (.iconst 1, 1) := by decide +kernel
theorem dX12_hold_16 : decode cX12_hold 16 = .ok (.iadd, 1) := by decide +kernel
theorem dX12_hold_17 : decode cX12_hold 17 = .ok (.putfield 127, 3) := by decide +kernel
theorem dX12_hold_20 : decode cX12_hold 20 = .ok (.iload_n 1, 1) := by decide +kernel
theorem dX12_hold_21 : decode cX12_hold 21 = .ok (.bipush (-3), 2) := by decide +kernel
theorem dX12_hold_23 : decode cX12_hold 23 = .ok (.if_icmp .eq 15, 3) := by decide +kernel
theorem dX12_hold_26 : decode cX12_hold 26 = .ok (.iload_n 1, 1) := by decide +kernel
theorem dX12_hold_27 : decode cX12_hold 27 = .ok (.bipush (-9), 2) := by decide +kernel
theorem dX12_hold_29 : decode cX12_hold 29 = .ok (.if_icmp .eq 9, 3) := by decide +kernel
theorem dX12_hold_32 : decode cX12_hold 32 = .ok (.iload_n 1, 1) := by decide +kernel
theorem dX12_hold_33 : decode cX12_hold 33 = .ok (.bipush (-10), 2) := by decide +kernel
theorem dX12_hold_35 : decode cX12_hold 35 = .ok (.if_icmp .ne 13, 3) := by decide +kernel
theorem dX12_hold_38 : decode cX12_hold 38 = .ok (.aload_n 0, 1) := by decide +kernel
theorem dX12_hold_39 : decode cX12_hold 39 = .ok (.dup, 1) := by decide +kernel
theorem dX12_hold_40 : decode cX12_hold 40 = .ok (.getfield 133, 3) := by decide +kernel
theorem dX12_hold_43 : decode cX12_hold 43 = .ok (.iconst 1, 1) := by decide +kernel
theorem dX12_hold_44 : decode cX12_hold 44 = .ok (.iadd, 1) := by decide +kernel
theorem dX12_hold_45 : decode cX12_hold 45 = .ok (.putfield 133, 3) := by decide +kernel
theorem dX12_hold_48 : decode cX12_hold 48 = .ok (.return_, 1) := by decide +kernel
theorem dX12_ahead_0 : decode cX12_ahead 0 = .ok (.aload_n 0, 1) := by decide +kernel
theorem dX12_ahead_1 : decode cX12_ahead 1 = .ok (.getfield 112, 3) := by decide +kernel
theorem dX12_ahead_4 : decode cX12_ahead 4 = .ok (.iconst 1, 1) := by decide +kernel
theorem dX12_ahead_5 : decode cX12_ahead 5 = .ok (.if_icmp .eq 11, 3) := by decide +kernel
theorem dX12_ahead_8 : decode cX12_ahead 8 = .ok (.aload_n 0, 1) := by decide +kernel
theorem dX12_ahead_9 : decode cX12_ahead 9 = .ok (.getfield 112, 3) := by decide +kernel
theorem dX12_ahead_12 : decode cX12_ahead 12 = .ok (.iconst 2, 1) := by decide +kernel
theorem dX12_ahead_13 : decode cX12_ahead 13 = .ok (.if_icmp .ne 5, 3) := by decide +kernel
theorem dX12_ahead_16 : decode cX12_ahead 16 = .ok (.iconst 1, 1) := by decide +kernel
theorem dX12_ahead_17 : decode cX12_ahead 17 = .ok (.ireturn, 1) := by decide +kernel
theorem dX12_ahead_18 : decode cX12_ahead 18 = .ok (.aload_n 0, 1) := by decide +kernel
theorem dX12_ahead_19 : decode cX12_ahead 19 = .ok (.getfield 133, 3) := by decide +kernel
theorem dX12_ahead_22 : decode cX12_ahead 22 = .ok (.iconst 5, 1) := by decide +kernel
theorem dX12_ahead_23 : decode cX12_ahead 23 = .ok (.if_icmp .ne 5, 3) := by decide +kernel
theorem dX12_ahead_26 : decode cX12_ahead 26 = .ok (.iconst 0, 1) := by decide +kernel
theorem dX12_ahead_27 : decode cX12_ahead 27 = .ok (.ireturn, 1) := by decide +kernel
theorem dX12_ahead_28 : decode cX12_ahead 28 = .ok (.aload_n 0, 1) := by decide +kernel
theorem dX12_ahead_29 : decode cX12_ahead 29 = .ok (.iconst 4, 1) := by decide +kernel
theorem dX12_ahead_30 : decode cX12_ahead 30 = .ok (.invokevirtual 304, 3) := by decide +kernel
theorem dX12_ahead_33 : decode cX12_ahead 33 = .ok (.ifCond .eq 5, 3) := by decide +kernel
theorem dX12_ahead_36 : decode cX12_ahead 36 = .ok (.iload_n 1, 1) := by decide +kernel
theorem dX12_ahead_37 : decode cX12_ahead 37 = .ok (.ireturn, 1) := by decide +kernel
theorem dX12_ahead_38 : decode cX12_ahead 38 = .ok (.aload_n 0, 1) := by decide +kernel
theorem dX12_ahead_39 : decode cX12_ahead 39 = .ok (.bipush 40, 2) := by decide +kernel
theorem dX12_ahead_41 : decode cX12_ahead 41 = .ok (.invokevirtual 307, 3) := by decide +kernel
theorem dX12_ahead_44 : decode cX12_ahead 44 = .ok (.ifCond .ne 12, 3) := by decide +kernel
theorem dX12_ahead_47 : decode cX12_ahead 47 = .ok (.aload_n 0, 1) := by decide +kernel
theorem dX12_ahead_48 : decode cX12_ahead 48 = .ok (.bipush 45, 2) := by decide +kernel
theorem dX12_ahead_50 : decode cX12_ahead 50 = .ok (.invokevirtual 307, 3) := by decide +kernel
theorem dX12_ahead_53 : decode cX12_ahead 53 = .ok (.ifCond .eq 7, 3) := by decide +kernel
theorem dX12_ahead_56 : decode cX12_ahead 56 = .ok (.iconst 1, 1) := by decide +kernel
theorem dX12_ahead_57 : decode cX12_ahead 57 = .ok (.goto 4, 3) := by decide +kernel
theorem dX12_ahead_60 : decode cX12_ahead 60 = .ok (.iconst 0, 1) := by decide +kernel
theorem dX12_ahead_61 : decode cX12_ahead 61 = .ok (.ireturn, 1) := by decide +kernel
theorem dX12_signOf_0 : decode cX12_signOf 0 = .ok (.aload_n 0, 1) := by decide +kernel
theorem dX12_signOf_1 : decode cX12_signOf 1 = .ok (.iconst 2, 1) := by decide +kernel
theorem dX12_signOf_2 : decode cX12_signOf 2 = .ok (.invokevirtual 304, 3) := by decide +kernel
theorem dX12_signOf_5 : decode cX12_signOf 5 = .ok (.ifCond .eq 7, 3) := by decide +kernel
theorem dX12_signOf_8 : decode cX12_signOf 8 = .ok (.iconst (-1), 1) := by decide +kernel
theorem dX12_signOf_9 : decode cX12_signOf 9 = .ok (.goto 87, 3) := by decide +kernel
theorem dX12_signOf_12 : decode cX12_signOf 12 = .ok (.aload_n 0, 1) := by decide +kernel
theorem dX12_signOf_13 : decode cX12_signOf 13 = .ok (.iconst 3, 1) := by decide +kernel
theorem dX12_signOf_14 : decode cX12_signOf 14 = .ok (.invokevirtual 304, 3) := by decide +kernel
theorem dX12_signOf_17 : decode cX12_signOf 17 = .ok (.ifCond .eq 8, 3) := by decide +kernel
theorem dX12_signOf_20 : decode cX12_signOf 20 = .ok (.bipush (-2), 2) := by decide +kernel
theorem dX12_signOf_22 : decode cX12_signOf 22 = .ok (.goto 74, 3) := by decide +kernel
theorem dX12_signOf_25 : decode cX12_signOf 25 = .ok (.aload_n 0, 1) := by decide +kernel
theorem dX12_signOf_26 : decode cX12_signOf 26 = .ok (.bipush 60, 2) := by decide +kernel
theorem dX12_signOf_28 : decode cX12_signOf 28 = .ok (.invokevirtual 307, 3) := by decide +kernel
theorem dX12_signOf_31 : decode cX12_signOf 31 = .ok (.ifCond .eq 8, 3) := by decide +kernel
theorem dX12_signOf_34 : decode cX12_signOf 34 = .ok (.bipush (-4), 2) := by decide +kernel
theorem dX12_signOf_36 : decode cX12_signOf 36 = .ok (.goto 60, 3) := by decide +kernel
theorem dX12_signOf_39 : decode cX12_signOf 39 = .ok (.aload_n 0, 1) := by decide +kernel
theorem dX12_signOf_40 : decode cX12_signOf 40 = .ok (.bipush 61, 2) := by decide +kernel
theorem dX12_signOf_42 : decode cX12_signOf 42 = .ok (.invokevirtual 307, 3) := by decide +kernel
theorem dX12_signOf_45 : decode cX12_signOf 45 = .ok (.ifCond .eq 8, 3) := by decide +kernel
theorem dX12_signOf_48 : decode cX12_signOf 48 = .ok (.bipush (-5), 2) := by decide +kernel
theorem dX12_signOf_50 : decode cX12_signOf 50 = .ok (.goto 46, 3) := by decide +kernel
theorem dX12_signOf_53 : decode cX12_signOf 53 = .ok (.aload_n 0, 1) := by decide +kernel
theorem dX12_signOf_54 : decode cX12_signOf 54 = .ok (.bipush 43, 2) := by decide +kernel
theorem dX12_signOf_56 : decode cX12_signOf 56 = .ok (.invokevirtual 307, 3) := by decide +kernel
theorem dX12_signOf_59 : decode cX12_signOf 59 = .ok (.ifCond .eq 8, 3) := by decide +kernel
theorem dX12_signOf_62 : decode cX12_signOf 62 = .ok (.bipush (-6), 2) := by decide +kernel
theorem dX12_signOf_64 : decode cX12_signOf 64 = .ok (.goto 32, 3) := by decide +kernel
theorem dX12_signOf_67 : decode cX12_signOf 67 = .ok (.aload_n 0, 1) := by decide +kernel
theorem dX12_signOf_68 : decode cX12_signOf 68 = .ok (.bipush 45, 2) := by decide +kernel
theorem dX12_signOf_70 : decode cX12_signOf 70 = .ok (.invokevirtual 307, 3) := by decide +kernel
theorem dX12_signOf_73 : decode cX12_signOf 73 = .ok (.ifCond .eq 8, 3) := by decide +kernel
theorem dX12_signOf_76 : decode cX12_signOf 76 = .ok (.bipush (-7), 2) := by decide +kernel
theorem dX12_signOf_78 : decode cX12_signOf 78 = .ok (.goto 18, 3) := by decide +kernel
theorem dX12_signOf_81 : decode cX12_signOf 81 = .ok (.aload_n 0, 1) := by decide +kernel
theorem dX12_signOf_82 : decode cX12_signOf 82 = .ok (.bipush 42, 2) := by decide +kernel
theorem dX12_signOf_84 : decode cX12_signOf 84 = .ok (.invokevirtual 307, 3) := by decide +kernel
theorem dX12_signOf_87 : decode cX12_signOf 87 = .ok (.ifCond .eq 8, 3) := by decide +kernel
theorem dX12_signOf_90 : decode cX12_signOf 90 = .ok (.bipush (-8), 2) := by decide +kernel
theorem dX12_signOf_92 : decode cX12_signOf 92 = .ok (.goto 4, 3) := by decide +kernel
theorem dX12_signOf_95 : decode cX12_signOf 95 = .ok (.iconst 0, 1) := by decide +kernel
theorem dX12_signOf_96 : decode cX12_signOf 96 = .ok (.ireturn, 1) := by decide +kernel
theorem dX12_part_0 : decode cX12_part 0 = .ok (.aload_n 0, 1) := by decide +kernel
theorem dX12_part_1 : decode cX12_part 1 = .ok (.iconst 0, 1) := by decide +kernel
theorem dX12_part_2 : decode cX12_part 2 = .ok (.putfield 127, 3) := by decide +kernel
theorem dX12_part_5 : decode cX12_part 5 = .ok (.aload_n 0, 1) := by decide +kernel
theorem dX12_part_6 : decode cX12_part 6 = .ok (.iconst 0, 1) := by decide +kernel
theorem dX12_part_7 : decode cX12_part 7 = .ok (.putfield 130, 3) := by decide +kernel
theorem dX12_part_10 : decode cX12_part 10 = .ok (.aload_n 0, 1) := by decide +kernel
theorem dX12_part_11 : decode cX12_part 11 = .ok (.iconst 0, 1) := by decide +kernel
theorem dX12_part_12 : decode cX12_part 12 = .ok (.putfield 133, 3) := by decide +kernel
theorem dX12_part_15 : decode cX12_part 15 = .ok (.aload_n 0, 1) := by decide +kernel
theorem dX12_part_16 : decode cX12_part 16 = .ok (.getfield 103, 3) := by decide +kernel
theorem dX12_part_19 : decode cX12_part 19 = .ok (.aload_n 0, 1) := by decide +kernel
theorem dX12_part_20 : decode cX12_part 20 = .ok (.getfield 136, 3) := by decide +kernel
theorem dX12_part_23 : decode cX12_part 23 = .ok (.iconst 0, 1) := by decide +kernel
theorem dX12_part_24 : decode cX12_part 24 = .ok (.iastore, 1) := by decide +kernel
theorem dX12_part_25 : decode cX12_part 25 = .ok (.aload_n 0, 1) := by decide +kernel
theorem dX12_part_26 : decode cX12_part 26 = .ok (.getfield 124, 3) := by decide +kernel
theorem dX12_part_29 : decode cX12_part 29 = .ok (.iconst 0, 1) := by decide +kernel
theorem dX12_part_30 : decode cX12_part 30 = .ok (.iconst 0, 1) := by decide +kernel
theorem dX12_part_31 : decode cX12_part 31 = .ok (.bastore, 1) := by decide +kernel
theorem dX12_part_32 : decode cX12_part 32 = .ok (.iconst 1, 1) := by decide +kernel
theorem dX12_part_33 : decode cX12_part 33 = .ok (.istore_n 1, 1) := by decide +kernel
theorem dX12_part_34 : decode cX12_part 34 = .ok (.iconst 1, 1) := by decide +kernel
theorem dX12_part_35 : decode cX12_part 35 = .ok (.istore_n 2, 1) := by decide +kernel
theorem dX12_part_36 : decode cX12_part 36 = .ok (.iload_n 1, 1) := by decide +kernel
theorem dX12_part_37 : decode cX12_part 37 = .ok (.ifCond .eq 132, 3) := by decide +kernel
theorem dX12_part_40 : decode cX12_part 40 = .ok (.aload_n 0, 1) := by decide +kernel
theorem dX12_part_41 : decode cX12_part 41 = .ok (.iload_n 2, 1) := by decide +kernel
theorem dX12_part_42 : decode cX12_part 42 = .ok (.invokevirtual 310, 3) := by decide +kernel
theorem dX12_part_45 : decode cX12_part 45 = .ok (.ifCond .ne 5, 3) := by decide +kernel
theorem dX12_part_48 : decode cX12_part 48 = .ok (.iconst 0, 1) := by decide +kernel
theorem dX12_part_49 : decode cX12_part 49 = .ok (.ireturn, 1) := by decide +kernel
theorem dX12_part_50 : decode cX12_part 50 = .ok (.aload_n 0, 1) := by decide +kernel
theorem dX12_part_51 : decode cX12_part 51 = .ok (.iconst 4, 1) := by decide +kernel
theorem dX12_part_52 : decode cX12_part 52 = .ok (.invokevirtual 304, 3) := by decide +kernel
theorem dX12_part_55 : decode cX12_part 55 = .ok (.ifCond .eq 12, 3) := by decide +kernel
theorem dX12_part_58 : decode cX12_part 58 = .ok (.aload_n 0, 1) := by decide +kernel
theorem dX12_part_59 : decode cX12_part 59 = .ok (.bipush (-3), 2) := by decide +kernel
theorem dX12_part_61 : decode cX12_part 61 = .ok (.invokevirtual 314, 3) := by decide +kernel
theorem dX12_part_64 : decode cX12_part 64 = .ok (.goto 98, 3) := by decide +kernel
theorem dX12_part_67 : decode cX12_part 67 = .ok (.aload_n 0, 1) := by decide +kernel
theorem dX12_part_68 : decode cX12_part 68 = .ok (.bipush 45, 2) := by decide +kernel
theorem dX12_part_70 : decode cX12_part 70 = .ok (.invokevirtual 307, 3) := by decide +kernel
theorem dX12_part_73 : decode cX12_part 73 = .ok (.ifCond .eq 14, 3) := by decide +kernel
theorem dX12_part_76 : decode cX12_part 76 = .ok (.aload_n 0, 1) := by decide +kernel
theorem dX12_part_77 : decode cX12_part 77 = .ok (.bipush (-9), 2) := by decide +kernel
theorem dX12_part_79 : decode cX12_part 79 = .ok (.invokevirtual 314, 3) := by decide +kernel
theorem dX12_part_82 : decode cX12_part 82 = .ok (.iconst 0, 1) := by decide +kernel
theorem dX12_part_83 : decode cX12_part 83 = .ok (.istore_n 2, 1) := by decide +kernel
theorem dX12_part_84 : decode cX12_part 84 = .ok (.goto 78, 3) := by decide +kernel
theorem dX12_part_87 : decode cX12_part 87 = .ok (.aload_n 0, 1) := by decide +kernel
theorem dX12_part_88 : decode cX12_part 88 = .ok (.bipush 40, 2) := by decide +kernel
theorem dX12_part_90 : decode cX12_part 90 = .ok (.invokevirtual 307, 3) := by decide +kernel
theorem dX12_part_93 : decode cX12_part 93 = .ok (.ifCond .eq 34, 3) := by decide +kernel
theorem dX12_part_96 : decode cX12_part 96 = .ok (.aload_n 0, 1) := by decide +kernel
theorem dX12_part_97 : decode cX12_part 97 = .ok (.bipush (-10), 2) := by decide +kernel
theorem dX12_part_99 : decode cX12_part 99 = .ok (.invokevirtual 314, 3) := by decide +kernel
theorem dX12_part_102 : decode cX12_part 102 = .ok (.aload_n 0, 1) := by decide +kernel
theorem dX12_part_103 : decode cX12_part 103 = .ok (.dup, 1) := by decide +kernel
theorem dX12_part_104 : decode cX12_part 104 = .ok (.getfield 130, 3) := by decide +kernel
theorem dX12_part_107 : decode cX12_part 107 = .ok (.iconst 1, 1) := by decide +kernel
theorem dX12_part_108 : decode cX12_part 108 = .ok (.iadd, 1) := by decide +kernel
theorem dX12_part_109 : decode cX12_part 109 = .ok (.putfield 130, 3) := by decide +kernel
theorem dX12_part_112 : decode cX12_part 112 = .ok (.aload_n 0, 1) := by decide +kernel
theorem dX12_part_113 : decode cX12_part 113 = .ok (.getfield 124, 3) := by decide +kernel
theorem dX12_part_116 : decode cX12_part 116 = .ok (.aload_n 0, 1) := by decide +kernel
theorem dX12_part_117 : decode cX12_part 117 = .ok (.getfield 130, 3) := by decide +kernel
theorem dX12_part_120 : decode cX12_part 120 = .ok (.iconst 0, 1) := by decide +kernel
theorem dX12_part_121 : decode cX12_part 121 = .ok (.bastore, 1) := by decide +kernel
theorem dX12_part_122 : decode cX12_part 122 = .ok (.iconst 1, 1) := by decide +kernel
theorem dX12_part_123 : decode cX12_part 123 = .ok (.istore_n 2, 1) := by decide +kernel
theorem dX12_part_124 : decode cX12_part 124 = .ok (.goto 38, 3) := by decide +kernel
theorem dX12_part_127 : decode cX12_part 127 = .ok (.aload_n 0, 1) := by decide +kernel
theorem dX12_part_128 : decode cX12_part 128 = .ok (.aload_n 0, 1) := by decide +kernel
theorem dX12_part_129 : decode cX12_part 129 = .ok (.getfield 112, 3) := by decide +kernel
theorem dX12_part_132 : decode cX12_part 132 = .ok (.iconst 1, 1) := by decide +kernel
theorem dX12_part_133 : decode cX12_part 133 = .ok (.if_icmp .ne 10, 3) := by decide +kernel
theorem dX12_part_136 : decode cX12_part 136 = .ok (.aload_n 0, 1) := by decide +kernel
theorem dX12_part_137 : decode cX12_part 137 = .ok (.getfield 115, 3) := by decide +kernel
theorem dX12_part_140 : decode cX12_part 140 = .ok (.goto 11, 3) := by decide +kernel
theorem dX12_part_143 : decode cX12_part 143 = .ok (.sipush 10000, 3) := by decide +kernel
theorem dX12_part_146 : decode cX12_part 146 = .ok (.aload_n 0, 1) := by decide +kernel
theorem dX12_part_147 : decode cX12_part 147 = .ok (.getfield 115, 3) := by decide +kernel
theorem dX12_part_150 : decode cX12_part 150 = .ok (.iadd, 1) := by decide +kernel
theorem dX12_part_151 : decode cX12_part 151 = .ok (.invokevirtual 300, 3) := by decide +kernel
theorem dX12_part_154 : decode cX12_part 154 = .ok (.aload_n 0, 1) := by decide +kernel
theorem dX12_part_155 : decode cX12_part 155 = .ok (.bipush 7, 2) := by decide +kernel
theorem dX12_part_157 : decode cX12_part 157 = .ok (.invokevirtual 317, 3) := by decide +kernel
theorem dX12_part_160 : decode cX12_part 160 = .ok (.iconst 0, 1) := by decide +kernel
theorem dX12_part_161 : decode cX12_part 161 = .ok (.istore_n 1, 1) := by decide +kernel
theorem dX12_part_162 : decode cX12_part 162 = .ok (.aload_n 0, 1) := by decide +kernel
theorem dX12_part_163 : decode cX12_part 163 = .ok (.invokevirtual 320, 3) := by decide +kernel
theorem dX12_part_166 : decode cX12_part 166 = .ok (.goto (-130), 3) := by decide +kernel
theorem dX12_part_169 : decode cX12_part 169 = .ok (.aload_n 0, 1) := by decide +kernel
theorem dX12_part_170 : decode cX12_part 170 = .ok (.bipush 59, 2) := by decide +kernel
theorem dX12_part_172 : decode cX12_part 172 = .ok (.invokevirtual 307, 3) := by decide +kernel
theorem dX12_part_175 : decode cX12_part 175 = .ok (.ifCond .eq 21, 3) := by decide +kernel
theorem dX12_part_178 : decode cX12_part 178 = .ok (.aload_n 0, 1) := by decide +kernel
theorem dX12_part_179 : decode cX12_part 179 = .ok (.iconst 1, 1) := by decide +kernel
theorem dX12_part_180 : decode cX12_part 180 = .ok (.invokevirtual 317, 3) := by decide +kernel
theorem dX12_part_183 : decode cX12_part 183 = .ok (.aload_n 0, 1) := by decide +kernel
theorem dX12_part_184 : decode cX12_part 184 = .ok (.getfield 130, 3) := by decide +kernel
theorem dX12_part_187 : decode cX12_part 187 = .ok (.ifCond .ne 7, 3) := by decide +kernel
theorem dX12_part_190 : decode cX12_part 190 = .ok (.iconst 1, 1) := by decide +kernel
theorem dX12_part_191 : decode cX12_part 191 = .ok (.goto 4, 3) := by decide +kernel
theorem dX12_part_194 : decode cX12_part 194 = .ok (.iconst 0, 1) := by decide +kernel
theorem dX12_part_195 : decode cX12_part 195 = .ok (.ireturn, 1) := by decide +kernel
theorem dX12_part_196 : decode cX12_part 196 = .ok (.aload_n 0, 1) := by decide +kernel
theorem dX12_part_197 : decode cX12_part 197 = .ok (.bipush 41, 2) := by decide +kernel
theorem dX12_part_199 : decode cX12_part 199 = .ok (.invokevirtual 307, 3) := by decide +kernel
theorem dX12_part_202 : decode cX12_part 202 = .ok (.ifCond .eq 60, 3) := by decide +kernel
theorem dX12_part_205 : decode cX12_part 205 = .ok (.aload_n 0, 1) := by decide +kernel
theorem dX12_part_206 : decode cX12_part 206 = .ok (.getfield 130, 3) := by decide +kernel
theorem dX12_part_209 : decode cX12_part 209 = .ok (.ifCond .ne 5, 3) := by decide +kernel
theorem dX12_part_212 : decode cX12_part 212 = .ok (.iconst 0, 1) := by decide +kernel
theorem dX12_part_213 : decode cX12_part 213 = .ok (.ireturn, 1) := by decide +kernel
theorem dX12_part_214 : decode cX12_part 214 = .ok (.aload_n 0, 1) := by decide +kernel
theorem dX12_part_215 : decode cX12_part 215 = .ok (.iconst 1, 1) := by decide +kernel
theorem dX12_part_216 : decode cX12_part 216 = .ok (.invokevirtual 317, 3) := by decide +kernel
theorem dX12_part_219 : decode cX12_part 219 = .ok (.aload_n 0, 1) := by decide +kernel
theorem dX12_part_220 : decode cX12_part 220 = .ok (.dup, 1) := by decide +kernel
theorem dX12_part_221 : decode cX12_part 221 = .ok (.getfield 127, 3) := by decide +kernel
theorem dX12_part_224 : decode cX12_part 224 = .ok (.iconst 1, 1) := by decide +kernel
theorem dX12_part_225 : decode cX12_part 225 = .ok (.isub, 1) := by decide +kernel
theorem dX12_part_226 : decode cX12_part 226 = .ok (.putfield 127, 3) := by decide +kernel
theorem dX12_part_229 : decode cX12_part 229 = .ok (.aload_n 0, 1) := by decide +kernel
theorem dX12_part_230 : decode cX12_part 230 = .ok (.dup, 1) := by decide +kernel
theorem dX12_part_231 : decode cX12_part 231 = .ok (.getfield 133, 3) := by decide +kernel
theorem dX12_part_234 : decode cX12_part 234 = .ok (.iconst 1, 1) := by decide +kernel
theorem dX12_part_235 : decode cX12_part 235 = .ok (.isub, 1) := by decide +kernel
theorem dX12_part_236 : decode cX12_part 236 = .ok (.putfield 133, 3) := by decide +kernel
theorem dX12_part_239 : decode cX12_part 239 = .ok (.aload_n 0, 1) := by decide +kernel
theorem dX12_part_240 : decode cX12_part 240 = .ok (.dup, 1) := by decide +kernel
theorem dX12_part_241 : decode cX12_part 241 = .ok (.getfield 130, 3) := by decide +kernel
theorem dX12_part_244 : decode cX12_part 244 = .ok (.iconst 1, 1) := by decide +kernel
theorem dX12_part_245 : decode cX12_part 245 = .ok (.isub, 1) := by decide +kernel
theorem dX12_part_246 : decode cX12_part 246 = .ok (.putfield 130, 3) := by decide +kernel
theorem dX12_part_249 : decode cX12_part 249 = .ok (.aload_n 0, 1) := by decide +kernel
theorem dX12_part_250 : decode cX12_part 250 = .ok (.bipush 7, 2) := by decide +kernel
theorem dX12_part_252 : decode cX12_part 252 = .ok (.invokevirtual 317, 3) := by decide +kernel
theorem dX12_part_255 : decode cX12_part 255 = .ok (.aload_n 0, 1) := by decide +kernel
theorem dX12_part_256 : decode cX12_part 256 = .ok (.invokevirtual 320, 3) := by decide +kernel
theorem dX12_part_259 : decode cX12_part 259 = .ok (.goto (-223), 3) := by decide +kernel
theorem dX12_part_262 : decode cX12_part 262 = .ok (.aload_n 0, 1) := by decide +kernel
theorem dX12_part_263 : decode cX12_part 263 = .ok (.invokevirtual 323, 3) := by decide +kernel
theorem dX12_part_266 : decode cX12_part 266 = .ok (.istore_n 3, 1) := by decide +kernel
theorem dX12_part_267 : decode cX12_part 267 = .ok (.iload_n 3, 1) := by decide +kernel
theorem dX12_part_268 : decode cX12_part 268 = .ok (.ifCond .eq 24, 3) := by decide +kernel
theorem dX12_part_271 : decode cX12_part 271 = .ok (.aload_n 0, 1) := by decide +kernel
theorem dX12_part_272 : decode cX12_part 272 = .ok (.iload_n 3, 1) := by decide +kernel
theorem dX12_part_273 : decode cX12_part 273 = .ok (.invokevirtual 297, 3) := by decide +kernel
theorem dX12_part_276 : decode cX12_part 276 = .ok (.iconst 4, 1) := by decide +kernel
theorem dX12_part_277 : decode cX12_part 277 = .ok (.if_icmp .ne 17, 3) := by decide +kernel
theorem dX12_part_280 : decode cX12_part 280 = .ok (.aload_n 0, 1) := by decide +kernel
theorem dX12_part_281 : decode cX12_part 281 = .ok (.getfield 124, 3) := by decide +kernel
theorem dX12_part_284 : decode cX12_part 284 = .ok (.aload_n 0, 1) := by decide +kernel
theorem dX12_part_285 : decode cX12_part 285 = .ok (.getfield 130, 3) := by decide +kernel
theorem dX12_part_288 : decode cX12_part 288 = .ok (.baload, 1) := by decide +kernel
theorem dX12_part_289 : decode cX12_part 289 = .ok (.ifCond .eq 5, 3) := by decide +kernel
theorem dX12_part_292 : decode cX12_part 292 = .ok (.iconst 0, 1) := by decide +kernel
theorem dX12_part_293 : decode cX12_part 293 = .ok (.ireturn, 1) := by decide +kernel
theorem dX12_part_294 : decode cX12_part 294 = .ok (.aload_n 0, 1) := by decide +kernel
theorem dX12_part_295 : decode cX12_part 295 = .ok (.getfield 124, 3) := by decide +kernel
theorem dX12_part_298 : decode cX12_part 298 = .ok (.aload_n 0, 1) := by decide +kernel
theorem dX12_part_299 : decode cX12_part 299 = .ok (.getfield 130, 3) := by decide +kernel
theorem dX12_part_302 : decode cX12_part 302 = .ok (.aload_n 0, 1) := by decide +kernel
theorem dX12_part_303 : decode cX12_part 303 = .ok (.iload_n 3, 1) := by decide +kernel
theorem dX12_part_304 : decode cX12_part 304 = .ok (.invokevirtual 297, 3) := by decide +kernel
theorem dX12_part_307 : decode cX12_part 307 = .ok (.iconst 4, 1) := by decide +kernel
theorem dX12_part_308 : decode cX12_part 308 = .ok (.if_icmp .eq 24, 3) := by decide +kernel
theorem dX12_part_311 : decode cX12_part 311 = .ok (.aload_n 0, 1) := by decide +kernel
theorem dX12_part_312 : decode cX12_part 312 = .ok (.iload_n 3, 1) := by decide +kernel
theorem dX12_part_313 : decode cX12_part 313 = .ok (.invokevirtual 297, 3) := by decide +kernel
theorem dX12_part_316 : decode cX12_part 316 = .ok (.iconst 2, 1) := by decide +kernel
theorem dX12_part_317 : decode cX12_part 317 = .ok (.if_icmp .le 19, 3) := by decide +kernel
theorem dX12_part_320 : decode cX12_part 320 = .ok (.aload_n 0, 1) := by decide +kernel
theorem dX12_part_321 : decode cX12_part 321 = .ok (.getfield 124, 3) := by decide +kernel
theorem dX12_part_324 : decode cX12_part 324 = .ok (.aload_n 0, 1) := by decide +kernel
theorem dX12_part_325 : decode cX12_part 325 = .ok (.getfield 130, 3) := by decide +kernel
theorem dX12_part_328 : decode cX12_part 328 = .ok (.baload, 1) := by decide +kernel
theorem dX12_part_329 : decode cX12_part 329 = .ok (.ifCond .eq 7, 3) := by decide +kernel
theorem dX12_part_332 : decode cX12_part 332 = .ok (.iconst 1, 1) := by decide +kernel
theorem dX12_part_333 : decode cX12_part 333 = .ok (.goto 4, 3) := by decide +kernel
theorem dX12_part_336 : decode cX12_part 336 = .ok (.iconst 0, 1) := by decide +kernel
theorem dX12_part_337 : decode cX12_part 337 = .ok (.bastore, 1) := by decide +kernel
theorem dX12_part_338 : decode cX12_part 338 = .ok (.aload_n 0, 1) := by decide +kernel
theorem dX12_part_339 : decode cX12_part 339 = .ok (.aload_n 0, 1) := by decide +kernel
theorem dX12_part_340 : decode cX12_part 340 = .ok (.iload_n 3, 1) := by decide +kernel
theorem dX12_part_341 : decode cX12_part 341 = .ok (.invokevirtual 297, 3) := by decide +kernel
theorem dX12_part_344 : decode cX12_part 344 = .ok (.invokevirtual 317, 3) := by decide +kernel
theorem dX12_part_347 : decode cX12_part 347 = .ok (.aload_n 0, 1) := by decide +kernel
theorem dX12_part_348 : decode cX12_part 348 = .ok (.iload_n 3, 1) := by decide +kernel
theorem dX12_part_349 : decode cX12_part 349 = .ok (.invokevirtual 314, 3) := by decide +kernel
theorem dX12_part_352 : decode cX12_part 352 = .ok (.iconst 1, 1) := by decide +kernel
theorem dX12_part_353 : decode cX12_part 353 = .ok (.istore_n 1, 1) := by decide +kernel
theorem dX12_part_354 : decode cX12_part 354 = .ok (.aload_n 0, 1) := by decide +kernel
theorem dX12_part_355 : decode cX12_part 355 = .ok (.iload_n 3, 1) := by decide +kernel
theorem dX12_part_356 : decode cX12_part 356 = .ok (.invokevirtual 297, 3) := by decide +kernel
theorem dX12_part_359 : decode cX12_part 359 = .ok (.iconst 3, 1) := by decide +kernel
theorem dX12_part_360 : decode cX12_part 360 = .ok (.if_icmp .ge 7, 3) := by decide +kernel
theorem dX12_part_363 : decode cX12_part 363 = .ok (.iconst 1, 1) := by decide +kernel
theorem dX12_part_364 : decode cX12_part 364 = .ok (.goto 4, 3) := by decide +kernel
theorem dX12_part_367 : decode cX12_part 367 = .ok (.iconst 0, 1) := by decide +kernel
theorem dX12_part_368 : decode cX12_part 368 = .ok (.istore_n 2, 1) := by decide +kernel
theorem dX12_part_369 : decode cX12_part 369 = .ok (.aload_n 0, 1) := by decide +kernel
theorem dX12_part_370 : decode cX12_part 370 = .ok (.invokevirtual 320, 3) := by decide +kernel
theorem dX12_part_373 : decode cX12_part 373 = .ok (.goto (-337), 3) := by decide +kernel
theorem dX12_isText_0 : decode cX12_isText 0 = .ok (.aload_n 0, 1) := by decide +kernel
theorem dX12_isText_1 : decode cX12_isText 1 = .ok (.iconst 0, 1) := by decide +kernel
theorem dX12_isText_2 : decode cX12_isText 2 = .ok (.putfield 109, 3) := by decide +kernel
theorem dX12_isText_5 : decode cX12_isText 5 = .ok (.aload_n 0, 1) := by decide +kernel
theorem dX12_isText_6 : decode cX12_isText 6 = .ok (.invokevirtual 320, 3) := by decide +kernel
theorem dX12_isText_9 : decode cX12_isText 9 = .ok (.iconst 0, 1) := by decide +kernel
theorem dX12_isText_10 : decode cX12_isText 10 = .ok (.istore_n 1, 1) := by decide +kernel
theorem dX12_isText_11 : decode cX12_isText 11 = .ok (.iload_n 1, 1) := by decide +kernel
theorem dX12_isText_12 : decode cX12_isText 12 = .ok (.iconst 2, 1) := by decide +kernel
theorem dX12_isText_13 : decode cX12_isText 13 = .ok (.if_icmp .ge 48, 3) := by decide +kernel
theorem dX12_isText_16 : decode cX12_isText 16 = .ok (.aload_n 0, 1) := by decide +kernel
theorem dX12_isText_17 : decode cX12_isText 17 = .ok (.iload_n 1, 1) := by decide +kernel
theorem dX12_isText_18 : decode cX12_isText 18 = .ok (.invokevirtual 304, 3) := by decide +kernel
theorem dX12_isText_21 : decode cX12_isText 21 = .ok (.ifCond .ne 5, 3) := by decide +kernel
theorem dX12_isText_24 : decode cX12_isText 24 = .ok (.iconst 0, 1) := by decide +kernel
theorem dX12_isText_25 : decode cX12_isText 25 = .ok (.ireturn, 1) := by decide +kernel
theorem dX12_isText_26 : decode cX12_isText 26 = .ok (.aload_n 0, 1) := by decide +kernel
theorem dX12_isText_27 : decode cX12_isText 27 = .ok (.invokevirtual 320, 3) := by decide +kernel
theorem dX12_isText_30 : decode cX12_isText 30 = .ok (.aload_n 0, 1) := by decide +kernel
theorem dX12_isText_31 : decode cX12_isText 31 = .ok (.iconst 2, 1) := by decide +kernel
theorem dX12_isText_32 : decode cX12_isText 32 = .ok (.aload_n 0, 1) := by decide +kernel
theorem dX12_isText_33 : decode cX12_isText 33 = .ok (.getfield 97, 3) := by decide +kernel
theorem dX12_isText_36 : decode cX12_isText 36 = .ok (.imul, 1) := by decide +kernel
theorem dX12_isText_37 : decode cX12_isText 37 = .ok (.iload_n 1, 1) := by decide +kernel
theorem dX12_isText_38 : decode cX12_isText 38 = .ok (.iadd, 1) := by decide +kernel
theorem dX12_isText_39 : decode cX12_isText 39 = .ok (.putfield 136, 3) := by decide +kernel
theorem dX12_isText_42 : decode cX12_isText 42 = .ok (.aload_n 0, 1) := by decide +kernel
theorem dX12_isText_43 : decode cX12_isText 43 = .ok (.invokevirtual 327, 3) := by decide +kernel
theorem dX12_isText_46 : decode cX12_isText 46 = .ok (.ifCond .ne 5, 3) := by decide +kernel
theorem dX12_isText_49 : decode cX12_isText 49 = .ok (.iconst 0, 1) := by decide +kernel
theorem dX12_isText_50 : decode cX12_isText 50 = .ok (.ireturn, 1) := by decide +kernel
theorem dX12_isText_51 : decode cX12_isText 51 = .ok (.aload_n 0, 1) := by decide +kernel
theorem dX12_isText_52 : decode cX12_isText 52 = .ok (.invokevirtual 320, 3) := by decide +kernel
theorem dX12_isText_55 : decode cX12_isText 55 = .ok (.iinc 1 1, 3) := by decide +kernel
theorem dX12_isText_58 : decode cX12_isText 58 = .ok (.goto (-47), 3) := by decide +kernel
theorem dX12_isText_61 : decode cX12_isText 61 = .ok (.aload_n 0, 1) := by decide +kernel
theorem dX12_isText_62 : decode cX12_isText 62 = .ok (.getfield 112, 3) := by decide +kernel
theorem dX12_isText_65 : decode cX12_isText 65 = .ok (.ifCond .ne 7, 3) := by decide +kernel
theorem dX12_isText_68 : decode cX12_isText 68 = .ok (.iconst 1, 1) := by decide +kernel
theorem dX12_isText_69 : decode cX12_isText 69 = .ok (.goto 4, 3) := by decide +kernel
theorem dX12_isText_72 : decode cX12_isText 72 = .ok (.iconst 0, 1) := by decide +kernel
theorem dX12_isText_73 : decode cX12_isText 73 = .ok (.ireturn, 1) := by decide +kernel
theorem dX12_text_0 : decode cX12_text 0 = .ok (.aload_n 0, 1) := by decide +kernel
theorem dX12_text_1 : decode cX12_text 1 = .ok (.getfield 97, 3) := by decide +kernel
theorem dX12_text_4 : decode cX12_text 4 = .ok (.bipush 6, 2) := by decide +kernel
theorem dX12_text_6 : decode cX12_text 6 = .ok (.if_icmp .ne 6, 3) := by decide +kernel
theorem dX12_text_9 : decode cX12_text 9 = .ok (.bipush (-4), 2) := by decide +kernel
theorem dX12_text_11 : decode cX12_text 11 = .ok (.ireturn, 1) := by decide +kernel
theorem dX12_text_12 : decode cX12_text 12 = .ok (.aload_n 0, 1) := by decide +kernel
theorem dX12_text_13 : decode cX12_text 13 = .ok (.invokevirtual 331, 3) := by decide +kernel
theorem dX12_text_16 : decode cX12_text 16 = .ok (.istore_n 1, 1) := by decide +kernel
theorem dX12_text_17 : decode cX12_text 17 = .ok (.aload_n 0, 1) := by decide +kernel
theorem dX12_text_18 : decode cX12_text 18 = .ok (.getfield 118, 3) := by decide +kernel
theorem dX12_text_21 : decode cX12_text 21 = .ok (.istore_n 2, 1) := by decide +kernel
theorem dX12_text_22 : decode cX12_text 22 = .ok (.aload_n 0, 1) := by decide +kernel
theorem dX12_text_23 : decode cX12_text 23 = .ok (.iconst 0, 1) := by decide +kernel
theorem dX12_text_24 : decode cX12_text 24 = .ok (.putfield 94, 3) := by decide +kernel
theorem dX12_text_27 : decode cX12_text 27 = .ok (.iload_n 1, 1) := by decide +kernel
theorem dX12_text_28 : decode cX12_text 28 = .ok (.ifCond .ne 8, 3) := by decide +kernel
theorem dX12_text_31 : decode cX12_text 31 = .ok (.bipush (-100), 2) := by decide +kernel
theorem dX12_text_33 : decode cX12_text 33 = .ok (.iload_n 2, 1) := by decide +kernel
theorem dX12_text_34 : decode cX12_text 34 = .ok (.isub, 1) := by decide +kernel
theorem dX12_text_35 : decode cX12_text 35 = .ok (.ireturn, 1) := by decide +kernel
theorem dX12_text_36 : decode cX12_text 36 = .ok (.aload_n 0, 1) := by decide +kernel
theorem dX12_text_37 : decode cX12_text 37 = .ok (.dup, 1) := by decide +kernel
theorem dX12_text_38 : decode cX12_text 38 = .ok (.getfield 97, 3) := by decide +kernel
theorem dX12_text_41 : decode cX12_text 41 = .ok (.iconst 1, 1) := by decide +kernel
theorem dX12_text_42 : decode cX12_text 42 = .ok (.iadd, 1) := by decide +kernel
theorem dX12_text_43 : decode cX12_text 43 = .ok (.putfield 97, 3) := by decide +kernel
theorem dX12_text_46 : decode cX12_text 46 = .ok (.aload_n 0, 1) := by decide +kernel
theorem dX12_text_47 : decode cX12_text 47 = .ok (.getfield 97, 3) := by decide +kernel
theorem dX12_text_50 : decode cX12_text 50 = .ok (.iconst 1, 1) := by decide +kernel
theorem dX12_text_51 : decode cX12_text 51 = .ok (.isub, 1) := by decide +kernel
theorem dX12_text_52 : decode cX12_text 52 = .ok (.ireturn, 1) := by decide +kernel
theorem dX12_force_0 : decode cX12_force 0 = .ok (.aload_n 0, 1) := by decide +kernel
theorem dX12_force_1 : decode cX12_force 1 = .ok (.iload_n 1, 1) := by decide +kernel
theorem dX12_force_2 : decode cX12_force 2 = .ok (.iconst 0, 1) := by decide +kernel
theorem dX12_force_3 : decode cX12_force 3 = .ok (.aload_n 0, 1) := by decide +kernel
theorem dX12_force_4 : decode cX12_force 4 = .ok (.getfield 97, 3) := by decide +kernel
theorem dX12_force_7 : decode cX12_force 7 = .ok (.iconst 1, 1) := by decide +kernel
theorem dX12_force_8 : decode cX12_force 8 = .ok (.isub, 1) := by decide +kernel
theorem dX12_force_9 : decode cX12_force 9 = .ok (.invokevirtual 217, 3) := by decide +kernel
theorem dX12_force_12 : decode cX12_force 12 = .ok (.ifCond .ne 6, 3) := by decide +kernel
theorem dX12_force_15 : decode cX12_force 15 = .ok (.bipush (-2), 2) := by decide +kernel
theorem dX12_force_17 : decode cX12_force 17 = .ok (.ireturn, 1) := by decide +kernel
theorem dX12_force_18 : decode cX12_force 18 = .ok (.aload_n 0, 1) := by decide +kernel
theorem dX12_force_19 : decode cX12_force 19 = .ok (.getfield 100, 3) := by decide +kernel
theorem dX12_force_22 : decode cX12_force 22 = .ok (.istore_n 2, 1) := by decide +kernel
theorem dX12_force_23 : decode cX12_force 23 = .ok (.aload_n 0, 1) := by decide +kernel
theorem dX12_force_24 : decode cX12_force 24 = .ok (.iload_n 1, 1) := by decide +kernel
theorem dX12_force_25 : decode cX12_force 25 = .ok (.putfield 100, 3) := by decide +kernel
theorem dX12_force_28 : decode cX12_force 28 = .ok (.iload_n 2, 1) := by decide +kernel
theorem dX12_force_29 : decode cX12_force 29 = .ok (.ireturn, 1) := by decide +kernel
theorem dX12_findFacts_0 : decode cX12_findFacts 0 = .ok (.aload_n 0, 1) := by decide +kernel
theorem dX12_findFacts_1 : decode cX12_findFacts 1 = .ok (.getfield 139, 3) := by decide +kernel
theorem dX12_findFacts_4 : decode cX12_findFacts 4 = .ok (.iconst 0, 1) := by decide +kernel
theorem dX12_findFacts_5 : decode cX12_findFacts 5 = .ok (.iload_n 2, 1) := by decide +kernel
theorem dX12_findFacts_6 : decode cX12_findFacts 6 = .ok (.ifCond .ge 7, 3) := by decide +kernel
theorem dX12_findFacts_9 : decode cX12_findFacts 9 = .ok (.iconst 0, 1) := by decide +kernel
theorem dX12_findFacts_10 : decode cX12_findFacts 10 = .ok (.goto 9, 3) := by decide +kernel
theorem dX12_findFacts_13 : decode cX12_findFacts 13 = .ok (.aload_n 0, 1) := by decide +kernel
theorem dX12_findFacts_14 : decode cX12_findFacts 14 = .ok (.iload_n 1, 1) := by decide +kernel
theorem dX12_findFacts_15 : decode cX12_findFacts 15 = .ok (.iload_n 2, 1) := by decide +kernel
theorem dX12_findFacts_16 : decode cX12_findFacts 16 = .ok (.invokevirtual 254, 3) := by decide +kernel
theorem dX12_findFacts_19 : decode cX12_findFacts 19 = .ok (.iastore, 1) := by decide +kernel
theorem dX12_findFacts_20 : decode cX12_findFacts 20 = .ok (.aload_n 0, 1) := by decide +kernel
theorem dX12_findFacts_21 : decode cX12_findFacts 21 = .ok (.getfield 139, 3) := by decide +kernel
theorem dX12_findFacts_24 : decode cX12_findFacts 24 = .ok (.iconst 1, 1) := by decide +kernel
theorem dX12_findFacts_25 : decode cX12_findFacts 25 = .ok (.iload_n 2, 1) := by decide +kernel
theorem dX12_findFacts_26 : decode cX12_findFacts 26 = .ok (.ifCond .ge 7, 3) := by decide +kernel
theorem dX12_findFacts_29 : decode cX12_findFacts 29 = .ok (.iconst 0, 1) := by decide +kernel
theorem dX12_findFacts_30 : decode cX12_findFacts 30 = .ok (.goto 9, 3) := by decide +kernel
theorem dX12_findFacts_33 : decode cX12_findFacts 33 = .ok (.aload_n 0, 1) := by decide +kernel
theorem dX12_findFacts_34 : decode cX12_findFacts 34 = .ok (.getfield 38, 3) := by decide +kernel
theorem dX12_findFacts_37 : decode cX12_findFacts 37 = .ok (.iload_n 2, 1) := by decide +kernel
theorem dX12_findFacts_38 : decode cX12_findFacts 38 = .ok (.iaload, 1) := by decide +kernel
theorem dX12_findFacts_39 : decode cX12_findFacts 39 = .ok (.iastore, 1) := by decide +kernel
theorem dX12_findFacts_40 : decode cX12_findFacts 40 = .ok (.aload_n 0, 1) := by decide +kernel
theorem dX12_findFacts_41 : decode cX12_findFacts 41 = .ok (.getfield 139, 3) := by decide +kernel
theorem dX12_findFacts_44 : decode cX12_findFacts 44 = .ok (.iconst 2, 1) := by decide +kernel
theorem dX12_findFacts_45 : decode cX12_findFacts 45 = .ok (.aload_n 0, 1) := by decide +kernel
theorem dX12_findFacts_46 : decode cX12_findFacts 46 = .ok (.getfield 74, 3) := by decide +kernel
theorem dX12_findFacts_49 : decode cX12_findFacts 49 = .ok (.iload_n 1, 1) := by decide +kernel
theorem dX12_findFacts_50 : decode cX12_findFacts 50 = .ok (.iaload, 1) := by decide +kernel
theorem dX12_findFacts_51 : decode cX12_findFacts 51 = .ok (.iastore, 1) := by decide +kernel
theorem dX12_findFacts_52 : decode cX12_findFacts 52 = .ok (.aload_n 0, 1) := by decide +kernel
theorem dX12_findFacts_53 : decode cX12_findFacts 53 = .ok (.getfield 139, 3) := by decide +kernel
theorem dX12_findFacts_56 : decode cX12_findFacts 56 = .ok (.iconst 3, 1) := by decide +kernel
theorem dX12_findFacts_57 : decode cX12_findFacts 57 = .ok (.aload_n 0, 1) := by decide +kernel
theorem dX12_findFacts_58 : decode cX12_findFacts 58 = .ok (.getfield 71, 3) := by decide +kernel
theorem dX12_findFacts_61 : decode cX12_findFacts 61 = .ok (.iload_n 1, 1) := by decide +kernel
theorem dX12_findFacts_62 : decode cX12_findFacts 62 = .ok (.iaload, 1) := by decide +kernel
theorem dX12_findFacts_63 : decode cX12_findFacts 63 = .ok (.iastore, 1) := by decide +kernel
theorem dX12_findFacts_64 : decode cX12_findFacts 64 = .ok (.aload_n 0, 1) := by decide +kernel
theorem dX12_findFacts_65 : decode cX12_findFacts 65 = .ok (.getfield 139, 3) := by decide +kernel
theorem dX12_findFacts_68 : decode cX12_findFacts 68 = .ok (.iconst 4, 1) := by decide +kernel
theorem dX12_findFacts_69 : decode cX12_findFacts 69 = .ok (.iload_n 2, 1) := by decide +kernel
theorem dX12_findFacts_70 : decode cX12_findFacts 70 = .ok (.ifCond .ge 7, 3) := by decide +kernel
theorem dX12_findFacts_73 : decode cX12_findFacts 73 = .ok (.iconst 0, 1) := by decide +kernel
theorem dX12_findFacts_74 : decode cX12_findFacts 74 = .ok (.goto 14, 3) := by decide +kernel
theorem dX12_findFacts_77 : decode cX12_findFacts 77 = .ok (.aload_n 0, 1) := by decide +kernel
theorem dX12_findFacts_78 : decode cX12_findFacts 78 = .ok (.getfield 29, 3) := by decide +kernel
theorem dX12_findFacts_81 : decode cX12_findFacts 81 = .ok (.aload_n 0, 1) := by decide +kernel
theorem dX12_findFacts_82 : decode cX12_findFacts 82 = .ok (.getfield 35, 3) := by decide +kernel
theorem dX12_findFacts_85 : decode cX12_findFacts 85 = .ok (.iload_n 2, 1) := by decide +kernel
theorem dX12_findFacts_86 : decode cX12_findFacts 86 = .ok (.iaload, 1) := by decide +kernel
theorem dX12_findFacts_87 : decode cX12_findFacts 87 = .ok (.iaload, 1) := by decide +kernel
theorem dX12_findFacts_88 : decode cX12_findFacts 88 = .ok (.iastore, 1) := by decide +kernel
theorem dX12_findFacts_89 : decode cX12_findFacts 89 = .ok (.aload_n 0, 1) := by decide +kernel
theorem dX12_findFacts_90 : decode cX12_findFacts 90 = .ok (.getfield 139, 3) := by decide +kernel
theorem dX12_findFacts_93 : decode cX12_findFacts 93 = .ok (.iconst 5, 1) := by decide +kernel
theorem dX12_findFacts_94 : decode cX12_findFacts 94 = .ok (.aload_n 0, 1) := by decide +kernel
theorem dX12_findFacts_95 : decode cX12_findFacts 95 = .ok (.aload_n 0, 1) := by decide +kernel
theorem dX12_findFacts_96 : decode cX12_findFacts 96 = .ok (.getfield 68, 3) := by decide +kernel
theorem dX12_findFacts_99 : decode cX12_findFacts 99 = .ok (.iload_n 1, 1) := by decide +kernel
theorem dX12_findFacts_100 : decode cX12_findFacts 100 = .ok (.iaload, 1) := by decide +kernel
theorem dX12_findFacts_101 : decode cX12_findFacts 101 = .ok (.invokevirtual 247, 3) := by decide +kernel
theorem dX12_findFacts_104 : decode cX12_findFacts 104 = .ok (.iastore, 1) := by decide +kernel
theorem dX12_findFacts_105 : decode cX12_findFacts 105 = .ok (.return_, 1) := by decide +kernel
theorem dX12_both_0 : decode cX12_both 0 = .ok (.iload_n 1, 1) := by decide +kernel
theorem dX12_both_1 : decode cX12_both 1 = .ok (.tableswitch 101 (-7) (-1) #[97, 93, 82, 71, 101, 57, 43], 43) := by decide +kernel
theorem dX12_both_44 : decode cX12_both 44 = .ok (.iload_n 2, 1) := by decide +kernel
theorem dX12_both_45 : decode cX12_both 45 = .ok (.ifCond .ne 7, 3) := by decide +kernel
theorem dX12_both_48 : decode cX12_both 48 = .ok (.iload_n 3, 1) := by decide +kernel
theorem dX12_both_49 : decode cX12_both 49 = .ok (.ifCond .eq 7, 3) := by decide +kernel
theorem dX12_both_52 : decode cX12_both 52 = .ok (.iconst 1, 1) := by decide +kernel
theorem dX12_both_53 : decode cX12_both 53 = .ok (.goto 4, 3) := by decide +kernel
theorem dX12_both_56 : decode cX12_both 56 = .ok (.iconst 0, 1) := by decide +kernel
theorem dX12_both_57 : decode cX12_both 57 = .ok (.ireturn, 1) := by decide +kernel
theorem dX12_both_58 : decode cX12_both 58 = .ok (.iload_n 2, 1) := by decide +kernel
theorem dX12_both_59 : decode cX12_both 59 = .ok (.ifCond .eq 11, 3) := by decide +kernel
theorem dX12_both_62 : decode cX12_both 62 = .ok (.iload_n 3, 1) := by decide +kernel
theorem dX12_both_63 : decode cX12_both 63 = .ok (.ifCond .eq 7, 3) := by decide +kernel
theorem dX12_both_66 : decode cX12_both 66 = .ok (.iconst 1, 1) := by decide +kernel
theorem dX12_both_67 : decode cX12_both 67 = .ok (.goto 4, 3) := by decide +kernel
theorem dX12_both_70 : decode cX12_both 70 = .ok (.iconst 0, 1) := by decide +kernel
theorem dX12_both_71 : decode cX12_both 71 = .ok (.ireturn, 1) := by decide +kernel
theorem dX12_both_72 : decode cX12_both 72 = .ok (.iload_n 2, 1) := by decide +kernel
theorem dX12_both_73 : decode cX12_both 73 = .ok (.iload_n 3, 1) := by decide +kernel
theorem dX12_both_74 : decode cX12_both 74 = .ok (.if_icmp .ge 7, 3) := by decide +kernel
theorem dX12_both_77 : decode cX12_both 77 = .ok (.iconst 1, 1) := by decide +kernel
theorem dX12_both_78 : decode cX12_both 78 = .ok (.goto 4, 3) := by decide +kernel
theorem dX12_both_81 : decode cX12_both 81 = .ok (.iconst 0, 1) := by decide +kernel
theorem dX12_both_82 : decode cX12_both 82 = .ok (.ireturn, 1) := by decide +kernel
theorem dX12_both_83 : decode cX12_both 83 = .ok (.iload_n 2, 1) := by decide +kernel
theorem dX12_both_84 : decode cX12_both 84 = .ok (.iload_n 3, 1) := by decide +kernel
theorem dX12_both_85 : decode cX12_both 85 = .ok (.if_icmp .ne 7, 3) := by decide +kernel
theorem dX12_both_88 : decode cX12_both 88 = .ok (.iconst 1, 1) := by decide +kernel
theorem dX12_both_89 : decode cX12_both 89 = .ok (.goto 4, 3) := by decide +kernel
theorem dX12_both_92 : decode cX12_both 92 = .ok (.iconst 0, 1) := by decide +kernel
theorem dX12_both_93 : decode cX12_both 93 = .ok (.ireturn, 1) := by decide +kernel
theorem dX12_both_94 : decode cX12_both 94 = .ok (.iload_n 2, 1) := by decide +kernel
theorem dX12_both_95 : decode cX12_both 95 = .ok (.iload_n 3, 1) := by decide +kernel
theorem dX12_both_96 : decode cX12_both 96 = .ok (.iadd, 1) := by decide +kernel
theorem dX12_both_97 : decode cX12_both 97 = .ok (.ireturn, 1) := by decide +kernel
theorem dX12_both_98 : decode cX12_both 98 = .ok (.iload_n 2, 1) := by decide +kernel
theorem dX12_both_99 : decode cX12_both 99 = .ok (.iload_n 3, 1) := by decide +kernel
theorem dX12_both_100 : decode cX12_both 100 = .ok (.isub, 1) := by decide +kernel
theorem dX12_both_101 : decode cX12_both 101 = .ok (.ireturn, 1) := by decide +kernel
theorem dX12_both_102 : decode cX12_both 102 = .ok (.iload_n 2, 1) := by decide +kernel
theorem dX12_both_103 : decode cX12_both 103 = .ok (.iload_n 3, 1) := by decide +kernel
theorem dX12_both_104 : decode cX12_both 104 = .ok (.imul, 1) := by decide +kernel
theorem dX12_both_105 : decode cX12_both 105 = .ok (.ireturn, 1) := by decide +kernel
theorem dX12_work_0 : decode cX12_work 0 = .ok (.iconst 2, 1) := by decide +kernel
theorem dX12_work_1 : decode cX12_work 1 = .ok (.aload_n 0, 1) := by decide +kernel
theorem dX12_work_2 : decode cX12_work 2 = .ok (.getfield 100, 3) := by decide +kernel
theorem dX12_work_5 : decode cX12_work 5 = .ok (.imul, 1) := by decide +kernel
theorem dX12_work_6 : decode cX12_work 6 = .ok (.iload_n 1, 1) := by decide +kernel
theorem dX12_work_7 : decode cX12_work 7 = .ok (.iadd, 1) := by decide +kernel
theorem dX12_work_8 : decode cX12_work 8 = .ok (.istore_n 2, 1) := by decide +kernel
theorem dX12_work_9 : decode cX12_work 9 = .ok (.iconst 0, 1) := by decide +kernel
theorem dX12_work_10 : decode cX12_work 10 = .ok (.istore_n 3, 1) := by decide +kernel
theorem dX12_work_11 : decode cX12_work 11 = .ok (.iconst 0, 1) := by decide +kernel
theorem dX12_work_12 : decode cX12_work 12 = .ok (.istore 4, 2) := by decide +kernel
theorem dX12_work_14 : decode cX12_work 14 = .ok (.iload 4, 2) := by decide +kernel
theorem dX12_work_16 : decode cX12_work 16 = .ok (.aload_n 0, 1) := by decide +kernel
theorem dX12_work_17 : decode cX12_work 17 = .ok (.getfield 103, 3) := by decide +kernel
theorem dX12_work_20 : decode cX12_work 20 = .ok (.iload_n 2, 1) := by decide +kernel
theorem dX12_work_21 : decode cX12_work 21 = .ok (.iaload, 1) := by decide +kernel
theorem dX12_work_22 : decode cX12_work 22 = .ok (.if_icmp .ge 156, 3) := by decide +kernel
theorem dX12_work_25 : decode cX12_work 25 = .ok (.aload_n 0, 1) := by decide +kernel
theorem dX12_work_26 : decode cX12_work 26 = .ok (.getfield 106, 3) := by decide +kernel
theorem dX12_work_29 : decode cX12_work 29 = .ok (.sipush 160, 3) := by decide +kernel
theorem dX12_work_32 : decode cX12_work 32 = .ok (.iload_n 2, 1) := by decide +kernel
theorem dX12_work_33 : decode cX12_work 33 = .ok (.imul, 1) := by decide +kernel
theorem dX12_work_34 : decode cX12_work 34 = .ok (.iload 4, 2) := by decide +kernel
theorem dX12_work_36 : decode cX12_work 36 = .ok (.iadd, 1) := by decide +kernel
theorem dX12_work_37 : decode cX12_work 37 = .ok (.iaload, 1) := by decide +kernel
theorem dX12_work_38 : decode cX12_work 38 = .ok (.istore 5, 2) := by decide +kernel
theorem dX12_work_40 : decode cX12_work 40 = .ok (.iload 5, 2) := by decide +kernel
theorem dX12_work_42 : decode cX12_work 42 = .ok (.ifCond .lt 39, 3) := by decide +kernel
theorem dX12_work_45 : decode cX12_work 45 = .ok (.aload_n 0, 1) := by decide +kernel
theorem dX12_work_46 : decode cX12_work 46 = .ok (.getfield 142, 3) := by decide +kernel
theorem dX12_work_49 : decode cX12_work 49 = .ok (.iload_n 3, 1) := by decide +kernel
theorem dX12_work_50 : decode cX12_work 50 = .ok (.iload 5, 2) := by decide +kernel
theorem dX12_work_52 : decode cX12_work 52 = .ok (.sipush 10000, 3) := by decide +kernel
theorem dX12_work_55 : decode cX12_work 55 = .ok (.if_icmp .ge 8, 3) := by decide +kernel
theorem dX12_work_58 : decode cX12_work 58 = .ok (.iload 5, 2) := by decide +kernel
theorem dX12_work_60 : decode cX12_work 60 = .ok (.goto 14, 3) := by decide +kernel
theorem dX12_work_63 : decode cX12_work 63 = .ok (.aload_n 0, 1) := by decide +kernel
theorem dX12_work_64 : decode cX12_work 64 = .ok (.getfield 139, 3) := by decide +kernel
theorem dX12_work_67 : decode cX12_work 67 = .ok (.iload 5, 2) := by decide +kernel
theorem dX12_work_69 : decode cX12_work 69 = .ok (.sipush 10000, 3) := by decide +kernel
theorem dX12_work_72 : decode cX12_work 72 = .ok (.isub, 1) := by decide +kernel
theorem dX12_work_73 : decode cX12_work 73 = .ok (.iaload, 1) := by decide +kernel
theorem dX12_work_74 : decode cX12_work 74 = .ok (.iastore, 1) := by decide +kernel
theorem dX12_work_75 : decode cX12_work 75 = .ok (.iinc 3 1, 3) := by decide +kernel
theorem dX12_work_78 : decode cX12_work 78 = .ok (.goto 94, 3) := by decide +kernel
theorem dX12_work_81 : decode cX12_work 81 = .ok (.iload 5, 2) := by decide +kernel
theorem dX12_work_83 : decode cX12_work 83 = .ok (.bipush (-3), 2) := by decide +kernel
theorem dX12_work_85 : decode cX12_work 85 = .ok (.if_icmp .eq 10, 3) := by decide +kernel
theorem dX12_work_88 : decode cX12_work 88 = .ok (.iload 5, 2) := by decide +kernel
theorem dX12_work_90 : decode cX12_work 90 = .ok (.bipush (-9), 2) := by decide +kernel
theorem dX12_work_92 : decode cX12_work 92 = .ok (.if_icmp .ne 49, 3) := by decide +kernel
theorem dX12_work_95 : decode cX12_work 95 = .ok (.aload_n 0, 1) := by decide +kernel
theorem dX12_work_96 : decode cX12_work 96 = .ok (.getfield 142, 3) := by decide +kernel
theorem dX12_work_99 : decode cX12_work 99 = .ok (.iload_n 3, 1) := by decide +kernel
theorem dX12_work_100 : decode cX12_work 100 = .ok (.iconst 1, 1) := by decide +kernel
theorem dX12_work_101 : decode cX12_work 101 = .ok (.isub, 1) := by decide +kernel
theorem dX12_work_102 : decode cX12_work 102 = .ok (.iload 5, 2) := by decide +kernel
theorem dX12_work_104 : decode cX12_work 104 = .ok (.bipush (-9), 2) := by decide +kernel
theorem dX12_work_106 : decode cX12_work 106 = .ok (.if_icmp .ne 15, 3) := by decide +kernel
theorem dX12_work_109 : decode cX12_work 109 = .ok (.aload_n 0, 1) := by decide +kernel
theorem dX12_work_110 : decode cX12_work 110 = .ok (.getfield 142, 3) := by decide +kernel
theorem dX12_work_113 : decode cX12_work 113 = .ok (.iload_n 3, 1) := by decide +kernel
theorem dX12_work_114 : decode cX12_work 114 = .ok (.iconst 1, 1) := by decide +kernel
theorem dX12_work_115 : decode cX12_work 115 = .ok (.isub, 1) := by decide +kernel
theorem dX12_work_116 : decode cX12_work 116 = .ok (.iaload, 1) := by decide +kernel
theorem dX12_work_117 : decode cX12_work 117 = .ok (.ineg, 1) := by decide +kernel
theorem dX12_work_118 : decode cX12_work 118 = .ok (.goto 19, 3) := by decide +kernel
theorem dX12_work_121 : decode cX12_work 121 = .ok (.aload_n 0, 1) := by decide +kernel
theorem dX12_work_122 : decode cX12_work 122 = .ok (.getfield 142, 3) := by decide +kernel
theorem dX12_work_125 : decode cX12_work 125 = .ok (.iload_n 3, 1) := by decide +kernel
theorem dX12_work_126 : decode cX12_work 126 = .ok (.iconst 1, 1) := by decide +kernel
theorem dX12_work_127 : decode cX12_work 127 = .ok (.isub, 1) := by decide +kernel
theorem dX12_work_128 : decode cX12_work 128 = .ok (.iaload, 1) := by decide +kernel
theorem dX12_work_129 : decode cX12_work 129 = .ok (.ifCond .ne 7, 3) := by decide +kernel
theorem dX12_work_132 : decode cX12_work 132 = .ok (.iconst 1, 1) := by decide +kernel
theorem dX12_work_133 : decode cX12_work 133 = .ok (.goto 4, 3) := by decide +kernel
theorem dX12_work_136 : decode cX12_work 136 = .ok (.iconst 0, 1) := by decide +kernel
theorem dX12_work_137 : decode cX12_work 137 = .ok (.iastore, 1) := by decide +kernel
theorem dX12_work_138 : decode cX12_work 138 = .ok (.goto 34, 3) := by decide +kernel
theorem dX12_work_141 : decode cX12_work 141 = .ok (.iinc 3 (-1), 3) := by decide +kernel
theorem dX12_work_144 : decode cX12_work 144 = .ok (.aload_n 0, 1) := by decide +kernel
theorem dX12_work_145 : decode cX12_work 145 = .ok (.getfield 142, 3) := by decide +kernel
theorem dX12_work_148 : decode cX12_work 148 = .ok (.iload_n 3, 1) := by decide +kernel
theorem dX12_work_149 : decode cX12_work 149 = .ok (.iconst 1, 1) := by decide +kernel
theorem dX12_work_150 : decode cX12_work 150 = .ok (.isub, 1) := by decide +kernel
theorem dX12_work_151 : decode cX12_work 151 = .ok (.aload_n 0, 1) := by decide +kernel
theorem dX12_work_152 : decode cX12_work 152 = .ok (.iload 5, 2) := by decide +kernel
theorem dX12_work_154 : decode cX12_work 154 = .ok (.aload_n 0, 1) := by decide +kernel
theorem dX12_work_155 : decode cX12_work 155 = .ok (.getfield 142, 3) := by decide +kernel
theorem dX12_work_158 : decode cX12_work 158 = .ok (.iload_n 3, 1) := by decide +kernel
theorem dX12_work_159 : decode cX12_work 159 = .ok (.iconst 1, 1) := by decide +kernel
theorem dX12_work_160 : decode cX12_work 160 = .ok (.isub, 1) := by decide +kernel
theorem dX12_work_161 : decode cX12_work 161 = .ok (.iaload, 1) := by decide +kernel
theorem dX12_work_162 : decode cX12_work 162 = .ok (.aload_n 0, 1) := by decide +kernel
theorem dX12_work_163 : decode cX12_work 163 = .ok (.getfield 142, 3) := by decide +kernel
theorem dX12_work_166 : decode cX12_work 166 = .ok (.iload_n 3, 1) := by decide +kernel
theorem dX12_work_167 : decode cX12_work 167 = .ok (.iaload, 1) := by decide +kernel
theorem dX12_work_168 : decode cX12_work 168 = .ok (.invokevirtual 334, 3) := by decide +kernel
theorem dX12_work_171 : decode cX12_work 171 = .ok (.iastore, 1) := by decide +kernel
theorem dX12_work_172 : decode cX12_work 172 = .ok (.iinc 4 1, 3) := by decide +kernel
theorem dX12_work_175 : decode cX12_work 175 = .ok (.goto (-161), 3) := by decide +kernel
theorem dX12_work_178 : decode cX12_work 178 = .ok (.aload_n 0, 1) := by decide +kernel
theorem dX12_work_179 : decode cX12_work 179 = .ok (.getfield 142, 3) := by decide +kernel
theorem dX12_work_182 : decode cX12_work 182 = .ok (.iconst 0, 1) := by decide +kernel
theorem dX12_work_183 : decode cX12_work 183 = .ok (.iaload, 1) := by decide +kernel
theorem dX12_work_184 : decode cX12_work 184 = .ok (.ireturn, 1) := by decide +kernel
theorem dX12_says_0 : decode cX12_says 0 = .ok (.aload_n 0, 1) := by decide +kernel
theorem dX12_says_1 : decode cX12_says 1 = .ok (.iload_n 1, 1) := by decide +kernel
theorem dX12_says_2 : decode cX12_says 2 = .ok (.invokevirtual 251, 3) := by decide +kernel
theorem dX12_says_5 : decode cX12_says 5 = .ok (.ifCond .eq 25, 3) := by decide +kernel
theorem dX12_says_8 : decode cX12_says 8 = .ok (.aload_n 0, 1) := by decide +kernel
theorem dX12_says_9 : decode cX12_says 9 = .ok (.iload_n 3, 1) := by decide +kernel
theorem dX12_says_10 : decode cX12_says 10 = .ok (.iconst 0, 1) := by decide +kernel
theorem dX12_says_11 : decode cX12_says 11 = .ok (.iconst 1, 1) := by decide +kernel
theorem dX12_says_12 : decode cX12_says 12 = .ok (.invokevirtual 217, 3) := by decide +kernel
theorem dX12_says_15 : decode cX12_says 15 = .ok (.ifCond .eq 15, 3) := by decide +kernel
theorem dX12_says_18 : decode cX12_says 18 = .ok (.iload_n 3, 1) := by decide +kernel
theorem dX12_says_19 : decode cX12_says 19 = .ok (.ifCond .ne 15, 3) := by decide +kernel
theorem dX12_says_22 : decode cX12_says 22 = .ok (.aload_n 0, 1) := by decide +kernel
theorem dX12_says_23 : decode cX12_says 23 = .ok (.iload_n 2, 1) := by decide +kernel
theorem dX12_says_24 : decode cX12_says 24 = .ok (.invokevirtual 229, 3) := by decide +kernel
theorem dX12_says_27 : decode cX12_says 27 = .ok (.ifCond .ne 7, 3) := by decide +kernel
theorem dX12_says_30 : decode cX12_says 30 = .ok (.ldc2_w 258, 3) := by decide +kernel
theorem dX12_says_33 : decode cX12_says 33 = .ok (.lreturn, 1) := by decide +kernel
theorem dX12_says_34 : decode cX12_says 34 = .ok (.aload_n 0, 1) := by decide +kernel
theorem dX12_says_35 : decode cX12_says 35 = .ok (.iload_n 1, 1) := by decide +kernel
theorem dX12_says_36 : decode cX12_says 36 = .ok (.iload_n 3, 1) := by decide +kernel
theorem dX12_says_37 : decode cX12_says 37 = .ok (.ifCond .ne 7, 3) := by decide +kernel
theorem dX12_says_40 : decode cX12_says 40 = .ok (.iload_n 2, 1) := by decide +kernel
theorem dX12_says_41 : decode cX12_says 41 = .ok (.goto 4, 3) := by decide +kernel
theorem dX12_says_44 : decode cX12_says 44 = .ok (.iconst (-1), 1) := by decide +kernel
theorem dX12_says_45 : decode cX12_says 45 = .ok (.invokevirtual 337, 3) := by decide +kernel
theorem dX12_says_48 : decode cX12_says 48 = .ok (.aload_n 0, 1) := by decide +kernel
theorem dX12_says_49 : decode cX12_says 49 = .ok (.iload_n 3, 1) := by decide +kernel
theorem dX12_says_50 : decode cX12_says 50 = .ok (.invokevirtual 340, 3) := by decide +kernel
theorem dX12_says_53 : decode cX12_says 53 = .ok (.i2l, 1) := by decide +kernel
theorem dX12_says_54 : decode cX12_says 54 = .ok (.lreturn, 1) := by decide +kernel
theorem dX12_goRound_0 : decode cX12_goRound 0 = .ok (.aload_n 0, 1) := by decide +kernel
theorem dX12_goRound_1 : decode cX12_goRound 1 = .ok (.getfield 47, 3) := by decide +kernel
theorem dX12_goRound_4 : decode cX12_goRound 4 = .ok (.aload_n 0, 1) := by decide +kernel
theorem dX12_goRound_5 : decode cX12_goRound 5 = .ok (.getfield 211, 3) := by decide +kernel
theorem dX12_goRound_8 : decode cX12_goRound 8 = .ok (.iconst 1, 1) := by decide +kernel
theorem dX12_goRound_9 : decode cX12_goRound 9 = .ok (.isub, 1) := by decide +kernel
theorem dX12_goRound_10 : decode cX12_goRound 10 = .ok (.iaload, 1) := by decide +kernel
theorem dX12_goRound_11 : decode cX12_goRound 11 = .ok (.istore_n 1, 1) := by decide +kernel
theorem dX12_goRound_12 : decode cX12_goRound 12 = .ok (.aload_n 0, 1) := by decide +kernel
theorem dX12_goRound_13 : decode cX12_goRound 13 = .ok (.getfield 211, 3) := by decide +kernel
theorem dX12_goRound_16 : decode cX12_goRound 16 = .ok (.iconst 1, 1) := by decide +kernel
theorem dX12_goRound_17 : decode cX12_goRound 17 = .ok (.isub, 1) := by decide +kernel
theorem dX12_goRound_18 : decode cX12_goRound 18 = .ok (.istore_n 2, 1) := by decide +kernel
theorem dX12_goRound_19 : decode cX12_goRound 19 = .ok (.iload_n 2, 1) := by decide +kernel
theorem dX12_goRound_20 : decode cX12_goRound 20 = .ok (.ifCond .le 23, 3) := by decide +kernel
theorem dX12_goRound_23 : decode cX12_goRound 23 = .ok (.aload_n 0, 1) := by decide +kernel
theorem dX12_goRound_24 : decode cX12_goRound 24 = .ok (.getfield 47, 3) := by decide +kernel
theorem dX12_goRound_27 : decode cX12_goRound 27 = .ok (.iload_n 2, 1) := by decide +kernel
theorem dX12_goRound_28 : decode cX12_goRound 28 = .ok (.aload_n 0, 1) := by decide +kernel
theorem dX12_goRound_29 : decode cX12_goRound 29 = .ok (.getfield 47, 3) := by decide +kernel
theorem dX12_goRound_32 : decode cX12_goRound 32 = .ok (.iload_n 2, 1) := by decide +kernel
theorem dX12_goRound_33 : decode cX12_goRound 33 = .ok (.iconst 1, 1) := by decide +kernel
theorem dX12_goRound_34 : decode cX12_goRound 34 = .ok (.isub, 1) := by decide +kernel
theorem dX12_goRound_35 : decode cX12_goRound 35 = .ok (.iaload, 1) := by decide +kernel
theorem dX12_goRound_36 : decode cX12_goRound 36 = .ok (.iastore, 1) := by decide +kernel
theorem dX12_goRound_37 : decode cX12_goRound 37 = .ok (.iinc 2 (-1), 3) := by decide +kernel
theorem dX12_goRound_40 : decode cX12_goRound 40 = .ok (.goto (-21), 3) := by decide +kernel
theorem dX12_goRound_43 : decode cX12_goRound 43 = .ok (.aload_n 0, 1) := by decide +kernel
theorem dX12_goRound_44 : decode cX12_goRound 44 = .ok (.getfield 47, 3) := by decide +kernel
theorem dX12_goRound_47 : decode cX12_goRound 47 = .ok (.iconst 0, 1) := by decide +kernel
theorem dX12_goRound_48 : decode cX12_goRound 48 = .ok (.iload_n 1, 1) := by decide +kernel
theorem dX12_goRound_49 : decode cX12_goRound 49 = .ok (.iastore, 1) := by decide +kernel
theorem dX12_goRound_50 : decode cX12_goRound 50 = .ok (.iconst 0, 1) := by decide +kernel
theorem dX12_goRound_51 : decode cX12_goRound 51 = .ok (.istore_n 2, 1) := by decide +kernel
theorem dX12_goRound_52 : decode cX12_goRound 52 = .ok (.iload_n 2, 1) := by decide +kernel
theorem dX12_goRound_53 : decode cX12_goRound 53 = .ok (.aload_n 0, 1) := by decide +kernel
theorem dX12_goRound_54 : decode cX12_goRound 54 = .ok (.getfield 211, 3) := by decide +kernel
theorem dX12_goRound_57 : decode cX12_goRound 57 = .ok (.if_icmp .ge 48, 3) := by decide +kernel
theorem dX12_goRound_60 : decode cX12_goRound 60 = .ok (.aload_n 0, 1) := by decide +kernel
theorem dX12_goRound_61 : decode cX12_goRound 61 = .ok (.getfield 47, 3) := by decide +kernel
theorem dX12_goRound_64 : decode cX12_goRound 64 = .ok (.iload_n 2, 1) := by decide +kernel
theorem dX12_goRound_65 : decode cX12_goRound 65 = .ok (.iaload, 1) := by decide +kernel
theorem dX12_goRound_66 : decode cX12_goRound 66 = .ok (.ifCond .ge 6, 3) := by decide +kernel
theorem dX12_goRound_69 : decode cX12_goRound 69 = .ok (.goto 30, 3) := by decide +kernel
theorem dX12_goRound_72 : decode cX12_goRound 72 = .ok (.aload_n 0, 1) := by decide +kernel
theorem dX12_goRound_73 : decode cX12_goRound 73 = .ok (.getfield 44, 3) := by decide +kernel
theorem dX12_goRound_76 : decode cX12_goRound 76 = .ok (.aload_n 0, 1) := by decide +kernel
theorem dX12_goRound_77 : decode cX12_goRound 77 = .ok (.getfield 47, 3) := by decide +kernel
theorem dX12_goRound_80 : decode cX12_goRound 80 = .ok (.iload_n 2, 1) := by decide +kernel
theorem dX12_goRound_81 : decode cX12_goRound 81 = .ok (.iaload, 1) := by decide +kernel
theorem dX12_goRound_82 : decode cX12_goRound 82 = .ok (.iload_n 2, 1) := by decide +kernel
theorem dX12_goRound_83 : decode cX12_goRound 83 = .ok (.iastore, 1) := by decide +kernel
theorem dX12_goRound_84 : decode cX12_goRound 84 = .ok (.aload_n 0, 1) := by decide +kernel
theorem dX12_goRound_85 : decode cX12_goRound 85 = .ok (.getfield 38, 3) := by decide +kernel
theorem dX12_goRound_88 : decode cX12_goRound 88 = .ok (.aload_n 0, 1) := by decide +kernel
theorem dX12_goRound_89 : decode cX12_goRound 89 = .ok (.getfield 47, 3) := by decide +kernel
theorem dX12_goRound_92 : decode cX12_goRound 92 = .ok (.iload_n 2, 1) := by decide +kernel
theorem dX12_goRound_93 : decode cX12_goRound 93 = .ok (.iaload, 1) := by decide +kernel
theorem dX12_goRound_94 : decode cX12_goRound 94 = .ok (.dup2, 1) := by decide +kernel
theorem dX12_goRound_95 : decode cX12_goRound 95 = .ok (.iaload, 1) := by decide +kernel
theorem dX12_goRound_96 : decode cX12_goRound 96 = .ok (.iconst 1, 1) := by decide +kernel
theorem dX12_goRound_97 : decode cX12_goRound 97 = .ok (.iadd, 1) := by decide +kernel
theorem dX12_goRound_98 : decode cX12_goRound 98 = .ok (.iastore, 1) := by decide +kernel
theorem dX12_goRound_99 : decode cX12_goRound 99 = .ok (.iinc 2 1, 3) := by decide +kernel
theorem dX12_goRound_102 : decode cX12_goRound 102 = .ok (.goto (-50), 3) := by decide +kernel
theorem dX12_goRound_105 : decode cX12_goRound 105 = .ok (.aload_n 0, 1) := by decide +kernel
theorem dX12_goRound_106 : decode cX12_goRound 106 = .ok (.getfield 47, 3) := by decide +kernel
theorem dX12_goRound_109 : decode cX12_goRound 109 = .ok (.iconst 0, 1) := by decide +kernel
theorem dX12_goRound_110 : decode cX12_goRound 110 = .ok (.iaload, 1) := by decide +kernel
theorem dX12_goRound_111 : decode cX12_goRound 111 = .ok (.ifCond .lt 33, 3) := by decide +kernel
theorem dX12_goRound_114 : decode cX12_goRound 114 = .ok (.aload_n 0, 1) := by decide +kernel
theorem dX12_goRound_115 : decode cX12_goRound 115 = .ok (.getfield 38, 3) := by decide +kernel
theorem dX12_goRound_118 : decode cX12_goRound 118 = .ok (.aload_n 0, 1) := by decide +kernel
theorem dX12_goRound_119 : decode cX12_goRound 119 = .ok (.getfield 47, 3) := by decide +kernel
theorem dX12_goRound_122 : decode cX12_goRound 122 = .ok (.iconst 0, 1) := by decide +kernel
theorem dX12_goRound_123 : decode cX12_goRound 123 = .ok (.iaload, 1) := by decide +kernel
theorem dX12_goRound_124 : decode cX12_goRound 124 = .ok (.iaload, 1) := by decide +kernel
theorem dX12_goRound_125 : decode cX12_goRound 125 = .ok (.aload_n 0, 1) := by decide +kernel
theorem dX12_goRound_126 : decode cX12_goRound 126 = .ok (.getfield 26, 3) := by decide +kernel
theorem dX12_goRound_129 : decode cX12_goRound 129 = .ok (.aload_n 0, 1) := by decide +kernel
theorem dX12_goRound_130 : decode cX12_goRound 130 = .ok (.getfield 32, 3) := by decide +kernel
theorem dX12_goRound_133 : decode cX12_goRound 133 = .ok (.aload_n 0, 1) := by decide +kernel
theorem dX12_goRound_134 : decode cX12_goRound 134 = .ok (.getfield 47, 3) := by decide +kernel
theorem dX12_goRound_137 : decode cX12_goRound 137 = .ok (.iconst 0, 1) := by decide +kernel
theorem dX12_goRound_138 : decode cX12_goRound 138 = .ok (.iaload, 1) := by decide +kernel
theorem dX12_goRound_139 : decode cX12_goRound 139 = .ok (.iaload, 1) := by decide +kernel
theorem dX12_goRound_140 : decode cX12_goRound 140 = .ok (.iaload, 1) := by decide +kernel
theorem dX12_goRound_141 : decode cX12_goRound 141 = .ok (.if_icmp .gt 4, 3) := by decide +kernel
theorem dX12_goRound_144 : decode cX12_goRound 144 = .ok (.return_, 1) := by decide +kernel
theorem dX12_goRound_145 : decode cX12_goRound 145 = .ok (.aload_n 0, 1) := by decide +kernel
theorem dX12_goRound_146 : decode cX12_goRound 146 = .ok (.aload_n 0, 1) := by decide +kernel
theorem dX12_goRound_147 : decode cX12_goRound 147 = .ok (.getfield 47, 3) := by decide +kernel
theorem dX12_goRound_150 : decode cX12_goRound 150 = .ok (.iconst 0, 1) := by decide +kernel
theorem dX12_goRound_151 : decode cX12_goRound 151 = .ok (.iaload, 1) := by decide +kernel
theorem dX12_goRound_152 : decode cX12_goRound 152 = .ok (.iconst 4, 1) := by decide +kernel
theorem dX12_goRound_153 : decode cX12_goRound 153 = .ok (.invokevirtual 235, 3) := by decide +kernel
theorem dX12_goRound_156 : decode cX12_goRound 156 = .ok (.aload_n 0, 1) := by decide +kernel
theorem dX12_goRound_157 : decode cX12_goRound 157 = .ok (.dup, 1) := by decide +kernel
theorem dX12_goRound_158 : decode cX12_goRound 158 = .ok (.getfield 151, 3) := by decide +kernel
theorem dX12_goRound_161 : decode cX12_goRound 161 = .ok (.iconst 1, 1) := by decide +kernel
theorem dX12_goRound_162 : decode cX12_goRound 162 = .ok (.iadd, 1) := by decide +kernel
theorem dX12_goRound_163 : decode cX12_goRound 163 = .ok (.putfield 151, 3) := by decide +kernel
theorem dX12_goRound_166 : decode cX12_goRound 166 = .ok (.aload_n 0, 1) := by decide +kernel
theorem dX12_goRound_167 : decode cX12_goRound 167 = .ok (.getfield 47, 3) := by decide +kernel
theorem dX12_goRound_170 : decode cX12_goRound 170 = .ok (.iconst 0, 1) := by decide +kernel
theorem dX12_goRound_171 : decode cX12_goRound 171 = .ok (.iconst (-1), 1) := by decide +kernel
theorem dX12_goRound_172 : decode cX12_goRound 172 = .ok (.iastore, 1) := by decide +kernel
theorem dX12_goRound_173 : decode cX12_goRound 173 = .ok (.return_, 1) := by decide +kernel
theorem dX12_goLane_0 : decode cX12_goLane 0 = .ok (.iconst 0, 1) := by decide +kernel
theorem dX12_goLane_1 : decode cX12_goLane 1 = .ok (.istore_n 1, 1) := by decide +kernel
theorem dX12_goLane_2 : decode cX12_goLane 2 = .ok (.iload_n 1, 1) := by decide +kernel
theorem dX12_goLane_3 : decode cX12_goLane 3 = .ok (.aload_n 0, 1) := by decide +kernel
theorem dX12_goLane_4 : decode cX12_goLane 4 = .ok (.getfield 211, 3) := by decide +kernel
theorem dX12_goLane_7 : decode cX12_goLane 7 = .ok (.if_icmp .ge 33, 3) := by decide +kernel
theorem dX12_goLane_10 : decode cX12_goLane 10 = .ok (.aload_n 0, 1) := by decide +kernel
theorem dX12_goLane_11 : decode cX12_goLane 11 = .ok (.getfield 50, 3) := by decide +kernel
theorem dX12_goLane_14 : decode cX12_goLane 14 = .ok (.iload_n 1, 1) := by decide +kernel
theorem dX12_goLane_15 : decode cX12_goLane 15 = .ok (.iaload, 1) := by decide +kernel
theorem dX12_goLane_16 : decode cX12_goLane 16 = .ok (.ifCond .lt 18, 3) := by decide +kernel
theorem dX12_goLane_19 : decode cX12_goLane 19 = .ok (.aload_n 0, 1) := by decide +kernel
theorem dX12_goLane_20 : decode cX12_goLane 20 = .ok (.getfield 38, 3) := by decide +kernel
theorem dX12_goLane_23 : decode cX12_goLane 23 = .ok (.aload_n 0, 1) := by decide +kernel
theorem dX12_goLane_24 : decode cX12_goLane 24 = .ok (.getfield 50, 3) := by decide +kernel
theorem dX12_goLane_27 : decode cX12_goLane 27 = .ok (.iload_n 1, 1) := by decide +kernel
theorem dX12_goLane_28 : decode cX12_goLane 28 = .ok (.iaload, 1) := by decide +kernel
theorem dX12_goLane_29 : decode cX12_goLane 29 = .ok (.dup2, 1) := by decide +kernel
theorem dX12_goLane_30 : decode cX12_goLane 30 = .ok (.iaload, 1) := by decide +kernel
theorem dX12_goLane_31 : decode cX12_goLane 31 = .ok (.iconst 1, 1) := by decide +kernel
theorem dX12_goLane_32 : decode cX12_goLane 32 = .ok (.iadd, 1) := by decide +kernel
theorem dX12_goLane_33 : decode cX12_goLane 33 = .ok (.iastore, 1) := by decide +kernel
theorem dX12_goLane_34 : decode cX12_goLane 34 = .ok (.iinc 1 1, 3) := by decide +kernel
theorem dX12_goLane_37 : decode cX12_goLane 37 = .ok (.goto (-35), 3) := by decide +kernel
theorem dX12_goLane_40 : decode cX12_goLane 40 = .ok (.aload_n 0, 1) := by decide +kernel
theorem dX12_goLane_41 : decode cX12_goLane 41 = .ok (.getfield 211, 3) := by decide +kernel
theorem dX12_goLane_44 : decode cX12_goLane 44 = .ok (.iconst 1, 1) := by decide +kernel
theorem dX12_goLane_45 : decode cX12_goLane 45 = .ok (.isub, 1) := by decide +kernel
theorem dX12_goLane_46 : decode cX12_goLane 46 = .ok (.istore_n 1, 1) := by decide +kernel
theorem dX12_goLane_47 : decode cX12_goLane 47 = .ok (.iload_n 1, 1) := by decide +kernel
theorem dX12_goLane_48 : decode cX12_goLane 48 = .ok (.ifCond .lt 124, 3) := by decide +kernel
theorem dX12_goLane_51 : decode cX12_goLane 51 = .ok (.aload_n 0, 1) := by decide +kernel
theorem dX12_goLane_52 : decode cX12_goLane 52 = .ok (.getfield 50, 3) := by decide +kernel
theorem dX12_goLane_55 : decode cX12_goLane 55 = .ok (.iload_n 1, 1) := by decide +kernel
theorem dX12_goLane_56 : decode cX12_goLane 56 = .ok (.iaload, 1) := by decide +kernel
theorem dX12_goLane_57 : decode cX12_goLane 57 = .ok (.istore_n 2, 1) := by decide +kernel
theorem dX12_goLane_58 : decode cX12_goLane 58 = .ok (.iload_n 2, 1) := by decide +kernel
theorem dX12_goLane_59 : decode cX12_goLane 59 = .ok (.ifCond .ge 6, 3) := by decide +kernel
theorem dX12_goLane_62 : decode cX12_goLane 62 = .ok (.goto 104, 3) := by decide +kernel
theorem dX12_goLane_65 : decode cX12_goLane 65 = .ok (.aload_n 0, 1) := by decide +kernel
theorem dX12_goLane_66 : decode cX12_goLane 66 = .ok (.getfield 56, 3) := by decide +kernel
theorem dX12_goLane_69 : decode cX12_goLane 69 = .ok (.iload_n 2, 1) := by decide +kernel
theorem dX12_goLane_70 : decode cX12_goLane 70 = .ok (.iaload, 1) := by decide +kernel
theorem dX12_goLane_71 : decode cX12_goLane 71 = .ok (.istore_n 3, 1) := by decide +kernel
theorem dX12_goLane_72 : decode cX12_goLane 72 = .ok (.aload_n 0, 1) := by decide +kernel
theorem dX12_goLane_73 : decode cX12_goLane 73 = .ok (.getfield 65, 3) := by decide +kernel
theorem dX12_goLane_76 : decode cX12_goLane 76 = .ok (.iload_n 3, 1) := by decide +kernel
theorem dX12_goLane_77 : decode cX12_goLane 77 = .ok (.iaload, 1) := by decide +kernel
theorem dX12_goLane_78 : decode cX12_goLane 78 = .ok (.iload_n 1, 1) := by decide +kernel
theorem dX12_goLane_79 : decode cX12_goLane 79 = .ok (.if_icmp .ne 41, 3) := by decide +kernel
theorem dX12_goLane_82 : decode cX12_goLane 82 = .ok (.aload_n 0, 1) := by decide +kernel
theorem dX12_goLane_83 : decode cX12_goLane 83 = .ok (.getfield 86, 3) := by decide +kernel
theorem dX12_goLane_86 : decode cX12_goLane 86 = .ok (.iload_n 3, 1) := by decide +kernel
theorem dX12_goLane_87 : decode cX12_goLane 87 = .ok (.baload, 1) := by decide +kernel
theorem dX12_goLane_88 : decode cX12_goLane 88 = .ok (.ifCond .eq 6, 3) := by decide +kernel
theorem dX12_goLane_91 : decode cX12_goLane 91 = .ok (.goto 75, 3) := by decide +kernel
theorem dX12_goLane_94 : decode cX12_goLane 94 = .ok (.aload_n 0, 1) := by decide +kernel
theorem dX12_goLane_95 : decode cX12_goLane 95 = .ok (.iload_n 2, 1) := by decide +kernel
theorem dX12_goLane_96 : decode cX12_goLane 96 = .ok (.iconst 4, 1) := by decide +kernel
theorem dX12_goLane_97 : decode cX12_goLane 97 = .ok (.invokevirtual 235, 3) := by decide +kernel
theorem dX12_goLane_100 : decode cX12_goLane 100 = .ok (.aload_n 0, 1) := by decide +kernel
theorem dX12_goLane_101 : decode cX12_goLane 101 = .ok (.dup, 1) := by decide +kernel
theorem dX12_goLane_102 : decode cX12_goLane 102 = .ok (.getfield 151, 3) := by decide +kernel
theorem dX12_goLane_105 : decode cX12_goLane 105 = .ok (.iconst 1, 1) := by decide +kernel
theorem dX12_goLane_106 : decode cX12_goLane 106 = .ok (.iadd, 1) := by decide +kernel
theorem dX12_goLane_107 : decode cX12_goLane 107 = .ok (.putfield 151, 3) := by decide +kernel
theorem dX12_goLane_110 : decode cX12_goLane 110 = .ok (.aload_n 0, 1) := by decide +kernel
theorem dX12_goLane_111 : decode cX12_goLane 111 = .ok (.getfield 50, 3) := by decide +kernel
theorem dX12_goLane_114 : decode cX12_goLane 114 = .ok (.iload_n 1, 1) := by decide +kernel
theorem dX12_goLane_115 : decode cX12_goLane 115 = .ok (.iconst (-1), 1) := by decide +kernel
theorem dX12_goLane_116 : decode cX12_goLane 116 = .ok (.iastore, 1) := by decide +kernel
theorem dX12_goLane_117 : decode cX12_goLane 117 = .ok (.goto 49, 3) := by decide +kernel
theorem dX12_goLane_120 : decode cX12_goLane 120 = .ok (.iload_n 1, 1) := by decide +kernel
theorem dX12_goLane_121 : decode cX12_goLane 121 = .ok (.iconst 1, 1) := by decide +kernel
theorem dX12_goLane_122 : decode cX12_goLane 122 = .ok (.iadd, 1) := by decide +kernel
theorem dX12_goLane_123 : decode cX12_goLane 123 = .ok (.aload_n 0, 1) := by decide +kernel
theorem dX12_goLane_124 : decode cX12_goLane 124 = .ok (.getfield 211, 3) := by decide +kernel
theorem dX12_goLane_127 : decode cX12_goLane 127 = .ok (.if_icmp .ge 39, 3) := by decide +kernel
theorem dX12_goLane_130 : decode cX12_goLane 130 = .ok (.aload_n 0, 1) := by decide +kernel
theorem dX12_goLane_131 : decode cX12_goLane 131 = .ok (.getfield 50, 3) := by decide +kernel
theorem dX12_goLane_134 : decode cX12_goLane 134 = .ok (.iload_n 1, 1) := by decide +kernel
theorem dX12_goLane_135 : decode cX12_goLane 135 = .ok (.iconst 1, 1) := by decide +kernel
theorem dX12_goLane_136 : decode cX12_goLane 136 = .ok (.iadd, 1) := by decide +kernel
theorem dX12_goLane_137 : decode cX12_goLane 137 = .ok (.iaload, 1) := by decide +kernel
theorem dX12_goLane_138 : decode cX12_goLane 138 = .ok (.ifCond .ge 28, 3) := by decide +kernel
theorem dX12_goLane_141 : decode cX12_goLane 141 = .ok (.aload_n 0, 1) := by decide +kernel
theorem dX12_goLane_142 : decode cX12_goLane 142 = .ok (.getfield 50, 3) := by decide +kernel
theorem dX12_goLane_145 : decode cX12_goLane 145 = .ok (.iload_n 1, 1) := by decide +kernel
theorem dX12_goLane_146 : decode cX12_goLane 146 = .ok (.iconst 1, 1) := by decide +kernel
theorem dX12_goLane_147 : decode cX12_goLane 147 = .ok (.iadd, 1) := by decide +kernel
theorem dX12_goLane_148 : decode cX12_goLane 148 = .ok (.iload_n 2, 1) := by decide +kernel
theorem dX12_goLane_149 : decode cX12_goLane 149 = .ok (.iastore, 1) := by decide +kernel
theorem dX12_goLane_150 : decode cX12_goLane 150 = .ok (.aload_n 0, 1) := by decide +kernel
theorem dX12_goLane_151 : decode cX12_goLane 151 = .ok (.getfield 50, 3) := by decide +kernel
theorem dX12_goLane_154 : decode cX12_goLane 154 = .ok (.iload_n 1, 1) := by decide +kernel
theorem dX12_goLane_155 : decode cX12_goLane 155 = .ok (.iconst (-1), 1) := by decide +kernel
theorem dX12_goLane_156 : decode cX12_goLane 156 = .ok (.iastore, 1) := by decide +kernel
theorem dX12_goLane_157 : decode cX12_goLane 157 = .ok (.aload_n 0, 1) := by decide +kernel
theorem dX12_goLane_158 : decode cX12_goLane 158 = .ok (.getfield 44, 3) := by decide +kernel
theorem dX12_goLane_161 : decode cX12_goLane 161 = .ok (.iload_n 2, 1) := by decide +kernel
theorem dX12_goLane_162 : decode cX12_goLane 162 = .ok (.iload_n 1, 1) := by decide +kernel
theorem dX12_goLane_163 : decode cX12_goLane 163 = .ok (.iconst 1, 1) := by decide +kernel
theorem dX12_goLane_164 : decode cX12_goLane 164 = .ok (.iadd, 1) := by decide +kernel
theorem dX12_goLane_165 : decode cX12_goLane 165 = .ok (.iastore, 1) := by decide +kernel
theorem dX12_goLane_166 : decode cX12_goLane 166 = .ok (.iinc 1 (-1), 3) := by decide +kernel
theorem dX12_goLane_169 : decode cX12_goLane 169 = .ok (.goto (-122), 3) := by decide +kernel
theorem dX12_goLane_172 : decode cX12_goLane 172 = .ok (.aload_n 0, 1) := by decide +kernel
theorem dX12_goLane_173 : decode cX12_goLane 173 = .ok (.getfield 50, 3) := by decide +kernel
theorem dX12_goLane_176 : decode cX12_goLane 176 = .ok (.iconst 0, 1) := by decide +kernel
theorem dX12_goLane_177 : decode cX12_goLane 177 = .ok (.iaload, 1) := by decide +kernel
theorem dX12_goLane_178 : decode cX12_goLane 178 = .ok (.ifCond .ge 10, 3) := by decide +kernel
theorem dX12_goLane_181 : decode cX12_goLane 181 = .ok (.aload_n 0, 1) := by decide +kernel
theorem dX12_goLane_182 : decode cX12_goLane 182 = .ok (.getfield 59, 3) := by decide +kernel
theorem dX12_goLane_185 : decode cX12_goLane 185 = .ok (.ifCond .ne 4, 3) := by decide +kernel
theorem dX12_goLane_188 : decode cX12_goLane 188 = .ok (.return_, 1) := by decide +kernel
theorem dX12_goLane_189 : decode cX12_goLane 189 = .ok (.aload_n 0, 1) := by decide +kernel
theorem dX12_goLane_190 : decode cX12_goLane 190 = .ok (.getfield 50, 3) := by decide +kernel
theorem dX12_goLane_193 : decode cX12_goLane 193 = .ok (.iconst 0, 1) := by decide +kernel
theorem dX12_goLane_194 : decode cX12_goLane 194 = .ok (.aload_n 0, 1) := by decide +kernel
theorem dX12_goLane_195 : decode cX12_goLane 195 = .ok (.getfield 53, 3) := by decide +kernel
theorem dX12_goLane_198 : decode cX12_goLane 198 = .ok (.iconst 0, 1) := by decide +kernel
theorem dX12_goLane_199 : decode cX12_goLane 199 = .ok (.iaload, 1) := by decide +kernel
theorem dX12_goLane_200 : decode cX12_goLane 200 = .ok (.iastore, 1) := by decide +kernel
theorem dX12_goLane_201 : decode cX12_goLane 201 = .ok (.aload_n 0, 1) := by decide +kernel
theorem dX12_goLane_202 : decode cX12_goLane 202 = .ok (.getfield 44, 3) := by decide +kernel
theorem dX12_goLane_205 : decode cX12_goLane 205 = .ok (.aload_n 0, 1) := by decide +kernel
theorem dX12_goLane_206 : decode cX12_goLane 206 = .ok (.getfield 53, 3) := by decide +kernel
theorem dX12_goLane_209 : decode cX12_goLane 209 = .ok (.iconst 0, 1) := by decide +kernel
theorem dX12_goLane_210 : decode cX12_goLane 210 = .ok (.iaload, 1) := by decide +kernel
theorem dX12_goLane_211 : decode cX12_goLane 211 = .ok (.iconst 0, 1) := by decide +kernel
theorem dX12_goLane_212 : decode cX12_goLane 212 = .ok (.iastore, 1) := by decide +kernel
theorem dX12_goLane_213 : decode cX12_goLane 213 = .ok (.aload_n 0, 1) := by decide +kernel
theorem dX12_goLane_214 : decode cX12_goLane 214 = .ok (.dup, 1) := by decide +kernel
theorem dX12_goLane_215 : decode cX12_goLane 215 = .ok (.getfield 59, 3) := by decide +kernel
theorem dX12_goLane_218 : decode cX12_goLane 218 = .ok (.iconst 1, 1) := by decide +kernel
theorem dX12_goLane_219 : decode cX12_goLane 219 = .ok (.isub, 1) := by decide +kernel
theorem dX12_goLane_220 : decode cX12_goLane 220 = .ok (.putfield 59, 3) := by decide +kernel
theorem dX12_goLane_223 : decode cX12_goLane 223 = .ok (.iconst 0, 1) := by decide +kernel
theorem dX12_goLane_224 : decode cX12_goLane 224 = .ok (.istore_n 1, 1) := by decide +kernel
theorem dX12_goLane_225 : decode cX12_goLane 225 = .ok (.iload_n 1, 1) := by decide +kernel
theorem dX12_goLane_226 : decode cX12_goLane 226 = .ok (.aload_n 0, 1) := by decide +kernel
theorem dX12_goLane_227 : decode cX12_goLane 227 = .ok (.getfield 59, 3) := by decide +kernel
theorem dX12_goLane_230 : decode cX12_goLane 230 = .ok (.if_icmp .ge 23, 3) := by decide +kernel
theorem dX12_goLane_233 : decode cX12_goLane 233 = .ok (.aload_n 0, 1) := by decide +kernel
theorem dX12_goLane_234 : decode cX12_goLane 234 = .ok (.getfield 53, 3) := by decide +kernel
theorem dX12_goLane_237 : decode cX12_goLane 237 = .ok (.iload_n 1, 1) := by decide +kernel
theorem dX12_goLane_238 : decode cX12_goLane 238 = .ok (.aload_n 0, 1) := by decide +kernel
theorem dX12_goLane_239 : decode cX12_goLane 239 = .ok (.getfield 53, 3) := by decide +kernel
theorem dX12_goLane_242 : decode cX12_goLane 242 = .ok (.iload_n 1, 1) := by decide +kernel
theorem dX12_goLane_243 : decode cX12_goLane 243 = .ok (.iconst 1, 1) := by decide +kernel
theorem dX12_goLane_244 : decode cX12_goLane 244 = .ok (.iadd, 1) := by decide +kernel
theorem dX12_goLane_245 : decode cX12_goLane 245 = .ok (.iaload, 1) := by decide +kernel
theorem dX12_goLane_246 : decode cX12_goLane 246 = .ok (.iastore, 1) := by decide +kernel
theorem dX12_goLane_247 : decode cX12_goLane 247 = .ok (.iinc 1 1, 3) := by decide +kernel
theorem dX12_goLane_250 : decode cX12_goLane 250 = .ok (.goto (-25), 3) := by decide +kernel
theorem dX12_goLane_253 : decode cX12_goLane 253 = .ok (.return_, 1) := by decide +kernel
theorem dX12_eats_0 : decode cX12_eats 0 = .ok (.aload_n 0, 1) := by decide +kernel
theorem dX12_eats_1 : decode cX12_eats 1 = .ok (.getfield 41, 3) := by decide +kernel
theorem dX12_eats_4 : decode cX12_eats 4 = .ok (.iload_n 2, 1) := by decide +kernel
theorem dX12_eats_5 : decode cX12_eats 5 = .ok (.iconst 2, 1) := by decide +kernel
theorem dX12_eats_6 : decode cX12_eats 6 = .ok (.iastore, 1) := by decide +kernel
theorem dX12_eats_7 : decode cX12_eats 7 = .ok (.aload_n 0, 1) := by decide +kernel
theorem dX12_eats_8 : decode cX12_eats 8 = .ok (.getfield 44, 3) := by decide +kernel
theorem dX12_eats_11 : decode cX12_eats 11 = .ok (.iload_n 2, 1) := by decide +kernel
theorem dX12_eats_12 : decode cX12_eats 12 = .ok (.iload_n 1, 1) := by decide +kernel
theorem dX12_eats_13 : decode cX12_eats 13 = .ok (.iastore, 1) := by decide +kernel
theorem dX12_eats_14 : decode cX12_eats 14 = .ok (.aload_n 0, 1) := by decide +kernel
theorem dX12_eats_15 : decode cX12_eats 15 = .ok (.getfield 71, 3) := by decide +kernel
theorem dX12_eats_18 : decode cX12_eats 18 = .ok (.iload_n 1, 1) := by decide +kernel
theorem dX12_eats_19 : decode cX12_eats 19 = .ok (.dup2, 1) := by decide +kernel
theorem dX12_eats_20 : decode cX12_eats 20 = .ok (.iaload, 1) := by decide +kernel
theorem dX12_eats_21 : decode cX12_eats 21 = .ok (.iconst 1, 1) := by decide +kernel
theorem dX12_eats_22 : decode cX12_eats 22 = .ok (.iadd, 1) := by decide +kernel
theorem dX12_eats_23 : decode cX12_eats 23 = .ok (.iastore, 1) := by decide +kernel
theorem dX12_eats_24 : decode cX12_eats 24 = .ok (.aload_n 0, 1) := by decide +kernel
theorem dX12_eats_25 : decode cX12_eats 25 = .ok (.dup, 1) := by decide +kernel
theorem dX12_eats_26 : decode cX12_eats 26 = .ok (.getfield 145, 3) := by decide +kernel
theorem dX12_eats_29 : decode cX12_eats 29 = .ok (.iconst 1, 1) := by decide +kernel
theorem dX12_eats_30 : decode cX12_eats 30 = .ok (.iadd, 1) := by decide +kernel
theorem dX12_eats_31 : decode cX12_eats 31 = .ok (.putfield 145, 3) := by decide +kernel
theorem dX12_eats_34 : decode cX12_eats 34 = .ok (.aload_n 0, 1) := by decide +kernel
theorem dX12_eats_35 : decode cX12_eats 35 = .ok (.dup, 1) := by decide +kernel
theorem dX12_eats_36 : decode cX12_eats 36 = .ok (.getfield 148, 3) := by decide +kernel
theorem dX12_eats_39 : decode cX12_eats 39 = .ok (.aload_n 0, 1) := by decide +kernel
theorem dX12_eats_40 : decode cX12_eats 40 = .ok (.getfield 29, 3) := by decide +kernel
theorem dX12_eats_43 : decode cX12_eats 43 = .ok (.aload_n 0, 1) := by decide +kernel
theorem dX12_eats_44 : decode cX12_eats 44 = .ok (.getfield 35, 3) := by decide +kernel
theorem dX12_eats_47 : decode cX12_eats 47 = .ok (.iload_n 2, 1) := by decide +kernel
theorem dX12_eats_48 : decode cX12_eats 48 = .ok (.iaload, 1) := by decide +kernel
theorem dX12_eats_49 : decode cX12_eats 49 = .ok (.iaload, 1) := by decide +kernel
theorem dX12_eats_50 : decode cX12_eats 50 = .ok (.iadd, 1) := by decide +kernel
theorem dX12_eats_51 : decode cX12_eats 51 = .ok (.putfield 148, 3) := by decide +kernel
theorem dX12_eats_54 : decode cX12_eats 54 = .ok (.return_, 1) := by decide +kernel
theorem dX12_dine_0 : decode cX12_dine 0 = .ok (.aload_n 0, 1) := by decide +kernel
theorem dX12_dine_1 : decode cX12_dine 1 = .ok (.getfield 65, 3) := by decide +kernel
theorem dX12_dine_4 : decode cX12_dine 4 = .ok (.iload_n 1, 1) := by decide +kernel
theorem dX12_dine_5 : decode cX12_dine 5 = .ok (.iaload, 1) := by decide +kernel
theorem dX12_dine_6 : decode cX12_dine 6 = .ok (.istore_n 2, 1) := by decide +kernel
theorem dX12_dine_7 : decode cX12_dine 7 = .ok (.aload_n 0, 1) := by decide +kernel
theorem dX12_dine_8 : decode cX12_dine 8 = .ok (.getfield 80, 3) := by decide +kernel
theorem dX12_dine_11 : decode cX12_dine 11 = .ok (.iload_n 1, 1) := by decide +kernel
theorem dX12_dine_12 : decode cX12_dine 12 = .ok (.iconst (-1), 1) := by decide +kernel
theorem dX12_dine_13 : decode cX12_dine 13 = .ok (.iastore, 1) := by decide +kernel
theorem dX12_dine_14 : decode cX12_dine 14 = .ok (.aload_n 0, 1) := by decide +kernel
theorem dX12_dine_15 : decode cX12_dine 15 = .ok (.getfield 50, 3) := by decide +kernel
theorem dX12_dine_18 : decode cX12_dine 18 = .ok (.iload_n 2, 1) := by decide +kernel
theorem dX12_dine_19 : decode cX12_dine 19 = .ok (.iaload, 1) := by decide +kernel
theorem dX12_dine_20 : decode cX12_dine 20 = .ok (.ifCond .lt 44, 3) := by decide +kernel
theorem dX12_dine_23 : decode cX12_dine 23 = .ok (.aload_n 0, 1) := by decide +kernel
theorem dX12_dine_24 : decode cX12_dine 24 = .ok (.getfield 56, 3) := by decide +kernel
theorem dX12_dine_27 : decode cX12_dine 27 = .ok (.aload_n 0, 1) := by decide +kernel
theorem dX12_dine_28 : decode cX12_dine 28 = .ok (.getfield 50, 3) := by decide +kernel
theorem dX12_dine_31 : decode cX12_dine 31 = .ok (.iload_n 2, 1) := by decide +kernel
theorem dX12_dine_32 : decode cX12_dine 32 = .ok (.iaload, 1) := by decide +kernel
theorem dX12_dine_33 : decode cX12_dine 33 = .ok (.iaload, 1) := by decide +kernel
theorem dX12_dine_34 : decode cX12_dine 34 = .ok (.iload_n 1, 1) := by decide +kernel
theorem dX12_dine_35 : decode cX12_dine 35 = .ok (.if_icmp .ne 29, 3) := by decide +kernel
theorem dX12_dine_38 : decode cX12_dine 38 = .ok (.aload_n 0, 1) := by decide +kernel
theorem dX12_dine_39 : decode cX12_dine 39 = .ok (.iload_n 1, 1) := by decide +kernel
theorem dX12_dine_40 : decode cX12_dine 40 = .ok (.aload_n 0, 1) := by decide +kernel
theorem dX12_dine_41 : decode cX12_dine 41 = .ok (.getfield 50, 3) := by decide +kernel
theorem dX12_dine_44 : decode cX12_dine 44 = .ok (.iload_n 2, 1) := by decide +kernel
theorem dX12_dine_45 : decode cX12_dine 45 = .ok (.iaload, 1) := by decide +kernel
theorem dX12_dine_46 : decode cX12_dine 46 = .ok (.invokevirtual 343, 3) := by decide +kernel
theorem dX12_dine_49 : decode cX12_dine 49 = .ok (.aload_n 0, 1) := by decide +kernel
theorem dX12_dine_50 : decode cX12_dine 50 = .ok (.getfield 50, 3) := by decide +kernel
theorem dX12_dine_53 : decode cX12_dine 53 = .ok (.iload_n 2, 1) := by decide +kernel
theorem dX12_dine_54 : decode cX12_dine 54 = .ok (.iconst (-1), 1) := by decide +kernel
theorem dX12_dine_55 : decode cX12_dine 55 = .ok (.iastore, 1) := by decide +kernel
theorem dX12_dine_56 : decode cX12_dine 56 = .ok (.aload_n 0, 1) := by decide +kernel
theorem dX12_dine_57 : decode cX12_dine 57 = .ok (.getfield 74, 3) := by decide +kernel
theorem dX12_dine_60 : decode cX12_dine 60 = .ok (.iload_n 1, 1) := by decide +kernel
theorem dX12_dine_61 : decode cX12_dine 61 = .ok (.iconst 0, 1) := by decide +kernel
theorem dX12_dine_62 : decode cX12_dine 62 = .ok (.iastore, 1) := by decide +kernel
theorem dX12_dine_63 : decode cX12_dine 63 = .ok (.return_, 1) := by decide +kernel
theorem dX12_dine_64 : decode cX12_dine 64 = .ok (.aload_n 0, 1) := by decide +kernel
theorem dX12_dine_65 : decode cX12_dine 65 = .ok (.getfield 47, 3) := by decide +kernel
theorem dX12_dine_68 : decode cX12_dine 68 = .ok (.iload_n 2, 1) := by decide +kernel
theorem dX12_dine_69 : decode cX12_dine 69 = .ok (.iaload, 1) := by decide +kernel
theorem dX12_dine_70 : decode cX12_dine 70 = .ok (.ifCond .lt 60, 3) := by decide +kernel
theorem dX12_dine_73 : decode cX12_dine 73 = .ok (.aload_n 0, 1) := by decide +kernel
theorem dX12_dine_74 : decode cX12_dine 74 = .ok (.iload_n 1, 1) := by decide +kernel
theorem dX12_dine_75 : decode cX12_dine 75 = .ok (.aload_n 0, 1) := by decide +kernel
theorem dX12_dine_76 : decode cX12_dine 76 = .ok (.getfield 47, 3) := by decide +kernel
theorem dX12_dine_79 : decode cX12_dine 79 = .ok (.iload_n 2, 1) := by decide +kernel
theorem dX12_dine_80 : decode cX12_dine 80 = .ok (.iaload, 1) := by decide +kernel
theorem dX12_dine_81 : decode cX12_dine 81 = .ok (.invokevirtual 337, 3) := by decide +kernel
theorem dX12_dine_84 : decode cX12_dine 84 = .ok (.aload_n 0, 1) := by decide +kernel
theorem dX12_dine_85 : decode cX12_dine 85 = .ok (.iconst 0, 1) := by decide +kernel
theorem dX12_dine_86 : decode cX12_dine 86 = .ok (.invokevirtual 340, 3) := by decide +kernel
theorem dX12_dine_89 : decode cX12_dine 89 = .ok (.ifCond .eq 41, 3) := by decide +kernel
theorem dX12_dine_92 : decode cX12_dine 92 = .ok (.aload_n 0, 1) := by decide +kernel
theorem dX12_dine_93 : decode cX12_dine 93 = .ok (.getfield 80, 3) := by decide +kernel
theorem dX12_dine_96 : decode cX12_dine 96 = .ok (.iload_n 1, 1) := by decide +kernel
theorem dX12_dine_97 : decode cX12_dine 97 = .ok (.aload_n 0, 1) := by decide +kernel
theorem dX12_dine_98 : decode cX12_dine 98 = .ok (.getfield 47, 3) := by decide +kernel
theorem dX12_dine_101 : decode cX12_dine 101 = .ok (.iload_n 2, 1) := by decide +kernel
theorem dX12_dine_102 : decode cX12_dine 102 = .ok (.iaload, 1) := by decide +kernel
theorem dX12_dine_103 : decode cX12_dine 103 = .ok (.iastore, 1) := by decide +kernel
theorem dX12_dine_104 : decode cX12_dine 104 = .ok (.aload_n 0, 1) := by decide +kernel
theorem dX12_dine_105 : decode cX12_dine 105 = .ok (.iload_n 1, 1) := by decide +kernel
theorem dX12_dine_106 : decode cX12_dine 106 = .ok (.aload_n 0, 1) := by decide +kernel
theorem dX12_dine_107 : decode cX12_dine 107 = .ok (.getfield 47, 3) := by decide +kernel
theorem dX12_dine_110 : decode cX12_dine 110 = .ok (.iload_n 2, 1) := by decide +kernel
theorem dX12_dine_111 : decode cX12_dine 111 = .ok (.iaload, 1) := by decide +kernel
theorem dX12_dine_112 : decode cX12_dine 112 = .ok (.invokevirtual 343, 3) := by decide +kernel
theorem dX12_dine_115 : decode cX12_dine 115 = .ok (.aload_n 0, 1) := by decide +kernel
theorem dX12_dine_116 : decode cX12_dine 116 = .ok (.getfield 47, 3) := by decide +kernel
theorem dX12_dine_119 : decode cX12_dine 119 = .ok (.iload_n 2, 1) := by decide +kernel
theorem dX12_dine_120 : decode cX12_dine 120 = .ok (.iconst (-1), 1) := by decide +kernel
theorem dX12_dine_121 : decode cX12_dine 121 = .ok (.iastore, 1) := by decide +kernel
theorem dX12_dine_122 : decode cX12_dine 122 = .ok (.aload_n 0, 1) := by decide +kernel
theorem dX12_dine_123 : decode cX12_dine 123 = .ok (.getfield 74, 3) := by decide +kernel
theorem dX12_dine_126 : decode cX12_dine 126 = .ok (.iload_n 1, 1) := by decide +kernel
theorem dX12_dine_127 : decode cX12_dine 127 = .ok (.iconst 0, 1) := by decide +kernel
theorem dX12_dine_128 : decode cX12_dine 128 = .ok (.iastore, 1) := by decide +kernel
theorem dX12_dine_129 : decode cX12_dine 129 = .ok (.return_, 1) := by decide +kernel
theorem dX12_dine_130 : decode cX12_dine 130 = .ok (.aload_n 0, 1) := by decide +kernel
theorem dX12_dine_131 : decode cX12_dine 131 = .ok (.getfield 74, 3) := by decide +kernel
theorem dX12_dine_134 : decode cX12_dine 134 = .ok (.iload_n 1, 1) := by decide +kernel
theorem dX12_dine_135 : decode cX12_dine 135 = .ok (.dup2, 1) := by decide +kernel
theorem dX12_dine_136 : decode cX12_dine 136 = .ok (.iaload, 1) := by decide +kernel
theorem dX12_dine_137 : decode cX12_dine 137 = .ok (.iconst 1, 1) := by decide +kernel
theorem dX12_dine_138 : decode cX12_dine 138 = .ok (.iadd, 1) := by decide +kernel
theorem dX12_dine_139 : decode cX12_dine 139 = .ok (.iastore, 1) := by decide +kernel
theorem dX12_dine_140 : decode cX12_dine 140 = .ok (.return_, 1) := by decide +kernel
theorem dX12_leave_0 : decode cX12_leave 0 = .ok (.aload_n 0, 1) := by decide +kernel
theorem dX12_leave_1 : decode cX12_leave 1 = .ok (.getfield 77, 3) := by decide +kernel
theorem dX12_leave_4 : decode cX12_leave 4 = .ok (.iload_n 1, 1) := by decide +kernel
theorem dX12_leave_5 : decode cX12_leave 5 = .ok (.iaload, 1) := by decide +kernel
theorem dX12_leave_6 : decode cX12_leave 6 = .ok (.istore_n 2, 1) := by decide +kernel
theorem dX12_leave_7 : decode cX12_leave 7 = .ok (.iconst 0, 1) := by decide +kernel
theorem dX12_leave_8 : decode cX12_leave 8 = .ok (.istore_n 3, 1) := by decide +kernel
theorem dX12_leave_9 : decode cX12_leave 9 = .ok (.iload_n 3, 1) := by decide +kernel
theorem dX12_leave_10 : decode cX12_leave 10 = .ok (.aload_n 0, 1) := by decide +kernel
theorem dX12_leave_11 : decode cX12_leave 11 = .ok (.getfield 7, 3) := by decide +kernel
theorem dX12_leave_14 : decode cX12_leave 14 = .ok (.if_icmp .ge 81, 3) := by decide +kernel
theorem dX12_leave_17 : decode cX12_leave 17 = .ok (.aload_n 0, 1) := by decide +kernel
theorem dX12_leave_18 : decode cX12_leave 18 = .ok (.getfield 41, 3) := by decide +kernel
theorem dX12_leave_21 : decode cX12_leave 21 = .ok (.iload_n 3, 1) := by decide +kernel
theorem dX12_leave_22 : decode cX12_leave 22 = .ok (.iaload, 1) := by decide +kernel
theorem dX12_leave_23 : decode cX12_leave 23 = .ok (.iconst 2, 1) := by decide +kernel
theorem dX12_leave_24 : decode cX12_leave 24 = .ok (.if_icmp .ne 65, 3) := by decide +kernel
theorem dX12_leave_27 : decode cX12_leave 27 = .ok (.aload_n 0, 1) := by decide +kernel
theorem dX12_leave_28 : decode cX12_leave 28 = .ok (.getfield 44, 3) := by decide +kernel
theorem dX12_leave_31 : decode cX12_leave 31 = .ok (.iload_n 3, 1) := by decide +kernel
theorem dX12_leave_32 : decode cX12_leave 32 = .ok (.iaload, 1) := by decide +kernel
theorem dX12_leave_33 : decode cX12_leave 33 = .ok (.iload_n 1, 1) := by decide +kernel
theorem dX12_leave_34 : decode cX12_leave 34 = .ok (.if_icmp .eq 6, 3) := by decide +kernel
theorem dX12_leave_37 : decode cX12_leave 37 = .ok (.goto 52, 3) := by decide +kernel
theorem dX12_leave_40 : decode cX12_leave 40 = .ok (.iload_n 2, 1) := by decide +kernel
theorem dX12_leave_41 : decode cX12_leave 41 = .ok (.ifCond .lt 22, 3) := by decide +kernel
theorem dX12_leave_44 : decode cX12_leave 44 = .ok (.aload_n 0, 1) := by decide +kernel
theorem dX12_leave_45 : decode cX12_leave 45 = .ok (.getfield 86, 3) := by decide +kernel
theorem dX12_leave_48 : decode cX12_leave 48 = .ok (.iload_n 2, 1) := by decide +kernel
theorem dX12_leave_49 : decode cX12_leave 49 = .ok (.baload, 1) := by decide +kernel
theorem dX12_leave_50 : decode cX12_leave 50 = .ok (.ifCond .eq 13, 3) := by decide +kernel
theorem dX12_leave_53 : decode cX12_leave 53 = .ok (.aload_n 0, 1) := by decide +kernel
theorem dX12_leave_54 : decode cX12_leave 54 = .ok (.getfield 44, 3) := by decide +kernel
theorem dX12_leave_57 : decode cX12_leave 57 = .ok (.iload_n 3, 1) := by decide +kernel
theorem dX12_leave_58 : decode cX12_leave 58 = .ok (.iload_n 2, 1) := by decide +kernel
theorem dX12_leave_59 : decode cX12_leave 59 = .ok (.iastore, 1) := by decide +kernel
theorem dX12_leave_60 : decode cX12_leave 60 = .ok (.goto 29, 3) := by decide +kernel
theorem dX12_leave_63 : decode cX12_leave 63 = .ok (.aload_n 0, 1) := by decide +kernel
theorem dX12_leave_64 : decode cX12_leave 64 = .ok (.dup, 1) := by decide +kernel
theorem dX12_leave_65 : decode cX12_leave 65 = .ok (.getfield 16, 3) := by decide +kernel
theorem dX12_leave_68 : decode cX12_leave 68 = .ok (.aload_n 0, 1) := by decide +kernel
theorem dX12_leave_69 : decode cX12_leave 69 = .ok (.getfield 29, 3) := by decide +kernel
theorem dX12_leave_72 : decode cX12_leave 72 = .ok (.aload_n 0, 1) := by decide +kernel
theorem dX12_leave_73 : decode cX12_leave 73 = .ok (.getfield 35, 3) := by decide +kernel
theorem dX12_leave_76 : decode cX12_leave 76 = .ok (.iload_n 3, 1) := by decide +kernel
theorem dX12_leave_77 : decode cX12_leave 77 = .ok (.iaload, 1) := by decide +kernel
theorem dX12_leave_78 : decode cX12_leave 78 = .ok (.iaload, 1) := by decide +kernel
theorem dX12_leave_79 : decode cX12_leave 79 = .ok (.iadd, 1) := by decide +kernel
theorem dX12_leave_80 : decode cX12_leave 80 = .ok (.putfield 16, 3) := by decide +kernel
theorem dX12_leave_83 : decode cX12_leave 83 = .ok (.aload_n 0, 1) := by decide +kernel
theorem dX12_leave_84 : decode cX12_leave 84 = .ok (.iload_n 3, 1) := by decide +kernel
theorem dX12_leave_85 : decode cX12_leave 85 = .ok (.iconst 3, 1) := by decide +kernel
theorem dX12_leave_86 : decode cX12_leave 86 = .ok (.invokevirtual 235, 3) := by decide +kernel
theorem dX12_leave_89 : decode cX12_leave 89 = .ok (.iinc 3 1, 3) := by decide +kernel
theorem dX12_leave_92 : decode cX12_leave 92 = .ok (.goto (-83), 3) := by decide +kernel
theorem dX12_leave_95 : decode cX12_leave 95 = .ok (.aload_n 0, 1) := by decide +kernel
theorem dX12_leave_96 : decode cX12_leave 96 = .ok (.getfield 86, 3) := by decide +kernel
theorem dX12_leave_99 : decode cX12_leave 99 = .ok (.iload_n 1, 1) := by decide +kernel
theorem dX12_leave_100 : decode cX12_leave 100 = .ok (.iconst 0, 1) := by decide +kernel
theorem dX12_leave_101 : decode cX12_leave 101 = .ok (.bastore, 1) := by decide +kernel
theorem dX12_leave_102 : decode cX12_leave 102 = .ok (.aload_n 0, 1) := by decide +kernel
theorem dX12_leave_103 : decode cX12_leave 103 = .ok (.getfield 80, 3) := by decide +kernel
theorem dX12_leave_106 : decode cX12_leave 106 = .ok (.iload_n 1, 1) := by decide +kernel
theorem dX12_leave_107 : decode cX12_leave 107 = .ok (.iconst (-1), 1) := by decide +kernel
theorem dX12_leave_108 : decode cX12_leave 108 = .ok (.iastore, 1) := by decide +kernel
theorem dX12_leave_109 : decode cX12_leave 109 = .ok (.aload_n 0, 1) := by decide +kernel
theorem dX12_leave_110 : decode cX12_leave 110 = .ok (.getfield 77, 3) := by decide +kernel
theorem dX12_leave_113 : decode cX12_leave 113 = .ok (.iload_n 1, 1) := by decide +kernel
theorem dX12_leave_114 : decode cX12_leave 114 = .ok (.iconst (-1), 1) := by decide +kernel
theorem dX12_leave_115 : decode cX12_leave 115 = .ok (.iastore, 1) := by decide +kernel
theorem dX12_leave_116 : decode cX12_leave 116 = .ok (.iconst 0, 1) := by decide +kernel
theorem dX12_leave_117 : decode cX12_leave 117 = .ok (.istore_n 3, 1) := by decide +kernel
theorem dX12_leave_118 : decode cX12_leave 118 = .ok (.iload_n 3, 1) := by decide +kernel
theorem dX12_leave_119 : decode cX12_leave 119 = .ok (.aload_n 0, 1) := by decide +kernel
theorem dX12_leave_120 : decode cX12_leave 120 = .ok (.getfield 62, 3) := by decide +kernel
theorem dX12_leave_123 : decode cX12_leave 123 = .ok (.if_icmp .ge 26, 3) := by decide +kernel
theorem dX12_leave_126 : decode cX12_leave 126 = .ok (.aload_n 0, 1) := by decide +kernel
theorem dX12_leave_127 : decode cX12_leave 127 = .ok (.getfield 77, 3) := by decide +kernel
theorem dX12_leave_130 : decode cX12_leave 130 = .ok (.iload_n 3, 1) := by decide +kernel
theorem dX12_leave_131 : decode cX12_leave 131 = .ok (.iaload, 1) := by decide +kernel
theorem dX12_leave_132 : decode cX12_leave 132 = .ok (.iload_n 1, 1) := by decide +kernel
theorem dX12_leave_133 : decode cX12_leave 133 = .ok (.if_icmp .ne 10, 3) := by decide +kernel
theorem dX12_leave_136 : decode cX12_leave 136 = .ok (.aload_n 0, 1) := by decide +kernel
theorem dX12_leave_137 : decode cX12_leave 137 = .ok (.getfield 77, 3) := by decide +kernel
theorem dX12_leave_140 : decode cX12_leave 140 = .ok (.iload_n 3, 1) := by decide +kernel
theorem dX12_leave_141 : decode cX12_leave 141 = .ok (.iconst (-1), 1) := by decide +kernel
theorem dX12_leave_142 : decode cX12_leave 142 = .ok (.iastore, 1) := by decide +kernel
theorem dX12_leave_143 : decode cX12_leave 143 = .ok (.iinc 3 1, 3) := by decide +kernel
theorem dX12_leave_146 : decode cX12_leave 146 = .ok (.goto (-28), 3) := by decide +kernel
theorem dX12_leave_149 : decode cX12_leave 149 = .ok (.return_, 1) := by decide +kernel
theorem dX12_goTick_0 : decode cX12_goTick 0 = .ok (.aload_n 0, 1) := by decide +kernel
theorem dX12_goTick_1 : decode cX12_goTick 1 = .ok (.invokevirtual 346, 3) := by decide +kernel
theorem dX12_goTick_4 : decode cX12_goTick 4 = .ok (.aload_n 0, 1) := by decide +kernel
theorem dX12_goTick_5 : decode cX12_goTick 5 = .ok (.invokevirtual 349, 3) := by decide +kernel
theorem dX12_goTick_8 : decode cX12_goTick 8 = .ok (.iconst 0, 1) := by decide +kernel
theorem dX12_goTick_9 : decode cX12_goTick 9 = .ok (.istore_n 1, 1) := by decide +kernel
theorem dX12_goTick_10 : decode cX12_goTick 10 = .ok (.iload_n 1, 1) := by decide +kernel
theorem dX12_goTick_11 : decode cX12_goTick 11 = .ok (.aload_n 0, 1) := by decide +kernel
theorem dX12_goTick_12 : decode cX12_goTick 12 = .ok (.getfield 62, 3) := by decide +kernel
theorem dX12_goTick_15 : decode cX12_goTick 15 = .ok (.if_icmp .ge 23, 3) := by decide +kernel
theorem dX12_goTick_18 : decode cX12_goTick 18 = .ok (.aload_n 0, 1) := by decide +kernel
theorem dX12_goTick_19 : decode cX12_goTick 19 = .ok (.getfield 86, 3) := by decide +kernel
theorem dX12_goTick_22 : decode cX12_goTick 22 = .ok (.iload_n 1, 1) := by decide +kernel
theorem dX12_goTick_23 : decode cX12_goTick 23 = .ok (.baload, 1) := by decide +kernel
theorem dX12_goTick_24 : decode cX12_goTick 24 = .ok (.ifCond .eq 8, 3) := by decide +kernel
theorem dX12_goTick_27 : decode cX12_goTick 27 = .ok (.aload_n 0, 1) := by decide +kernel
theorem dX12_goTick_28 : decode cX12_goTick 28 = .ok (.iload_n 1, 1) := by decide +kernel
theorem dX12_goTick_29 : decode cX12_goTick 29 = .ok (.invokevirtual 352, 3) := by decide +kernel
theorem dX12_goTick_32 : decode cX12_goTick 32 = .ok (.iinc 1 1, 3) := by decide +kernel
theorem dX12_goTick_35 : decode cX12_goTick 35 = .ok (.goto (-25), 3) := by decide +kernel
theorem dX12_goTick_38 : decode cX12_goTick 38 = .ok (.iconst 0, 1) := by decide +kernel
theorem dX12_goTick_39 : decode cX12_goTick 39 = .ok (.istore_n 1, 1) := by decide +kernel
theorem dX12_goTick_40 : decode cX12_goTick 40 = .ok (.iload_n 1, 1) := by decide +kernel
theorem dX12_goTick_41 : decode cX12_goTick 41 = .ok (.aload_n 0, 1) := by decide +kernel
theorem dX12_goTick_42 : decode cX12_goTick 42 = .ok (.getfield 62, 3) := by decide +kernel
theorem dX12_goTick_45 : decode cX12_goTick 45 = .ok (.if_icmp .ge 40, 3) := by decide +kernel
theorem dX12_goTick_48 : decode cX12_goTick 48 = .ok (.aload_n 0, 1) := by decide +kernel
theorem dX12_goTick_49 : decode cX12_goTick 49 = .ok (.getfield 86, 3) := by decide +kernel
theorem dX12_goTick_52 : decode cX12_goTick 52 = .ok (.iload_n 1, 1) := by decide +kernel
theorem dX12_goTick_53 : decode cX12_goTick 53 = .ok (.baload, 1) := by decide +kernel
theorem dX12_goTick_54 : decode cX12_goTick 54 = .ok (.ifCond .ne 6, 3) := by decide +kernel
theorem dX12_goTick_57 : decode cX12_goTick 57 = .ok (.goto 22, 3) := by decide +kernel
theorem dX12_goTick_60 : decode cX12_goTick 60 = .ok (.aload_n 0, 1) := by decide +kernel
theorem dX12_goTick_61 : decode cX12_goTick 61 = .ok (.iload_n 1, 1) := by decide +kernel
theorem dX12_goTick_62 : decode cX12_goTick 62 = .ok (.iconst (-1), 1) := by decide +kernel
theorem dX12_goTick_63 : decode cX12_goTick 63 = .ok (.invokevirtual 337, 3) := by decide +kernel
theorem dX12_goTick_66 : decode cX12_goTick 66 = .ok (.aload_n 0, 1) := by decide +kernel
theorem dX12_goTick_67 : decode cX12_goTick 67 = .ok (.iconst 1, 1) := by decide +kernel
theorem dX12_goTick_68 : decode cX12_goTick 68 = .ok (.invokevirtual 340, 3) := by decide +kernel
theorem dX12_goTick_71 : decode cX12_goTick 71 = .ok (.ifCond .eq 8, 3) := by decide +kernel
theorem dX12_goTick_74 : decode cX12_goTick 74 = .ok (.aload_n 0, 1) := by decide +kernel
theorem dX12_goTick_75 : decode cX12_goTick 75 = .ok (.iload_n 1, 1) := by decide +kernel
theorem dX12_goTick_76 : decode cX12_goTick 76 = .ok (.invokevirtual 355, 3) := by decide +kernel
theorem dX12_goTick_79 : decode cX12_goTick 79 = .ok (.iinc 1 1, 3) := by decide +kernel
theorem dX12_goTick_82 : decode cX12_goTick 82 = .ok (.goto (-42), 3) := by decide +kernel
theorem dX12_goTick_85 : decode cX12_goTick 85 = .ok (.aload_n 0, 1) := by decide +kernel
theorem dX12_goTick_86 : decode cX12_goTick 86 = .ok (.dup, 1) := by decide +kernel
theorem dX12_goTick_87 : decode cX12_goTick 87 = .ok (.getfield 13, 3) := by decide +kernel
theorem dX12_goTick_90 : decode cX12_goTick 90 = .ok (.iconst 1, 1) := by decide +kernel
theorem dX12_goTick_91 : decode cX12_goTick 91 = .ok (.iadd, 1) := by decide +kernel
theorem dX12_goTick_92 : decode cX12_goTick 92 = .ok (.putfield 13, 3) := by decide +kernel
theorem dX12_goTick_95 : decode cX12_goTick 95 = .ok (.return_, 1) := by decide +kernel
theorem dX12_tick_0 : decode cX12_tick 0 = .ok (.aload_n 0, 1) := by decide +kernel
theorem dX12_tick_1 : decode cX12_tick 1 = .ok (.iload_n 1, 1) := by decide +kernel
theorem dX12_tick_2 : decode cX12_tick 2 = .ok (.iconst 1, 1) := by decide +kernel
theorem dX12_tick_3 : decode cX12_tick 3 = .ok (.bipush 60, 2) := by decide +kernel
theorem dX12_tick_5 : decode cX12_tick 5 = .ok (.invokevirtual 217, 3) := by decide +kernel
theorem dX12_tick_8 : decode cX12_tick 8 = .ok (.ifCond .ne 6, 3) := by decide +kernel
theorem dX12_tick_11 : decode cX12_tick 11 = .ok (.bipush (-2), 2) := by decide +kernel
theorem dX12_tick_13 : decode cX12_tick 13 = .ok (.ireturn, 1) := by decide +kernel
theorem dX12_tick_14 : decode cX12_tick 14 = .ok (.aload_n 0, 1) := by decide +kernel
theorem dX12_tick_15 : decode cX12_tick 15 = .ok (.getfield 13, 3) := by decide +kernel
theorem dX12_tick_18 : decode cX12_tick 18 = .ok (.iload_n 1, 1) := by decide +kernel
theorem dX12_tick_19 : decode cX12_tick 19 = .ok (.iadd, 1) := by decide +kernel
theorem dX12_tick_20 : decode cX12_tick 20 = .ok (.sipush 9999, 3) := by decide +kernel
theorem dX12_tick_23 : decode cX12_tick 23 = .ok (.if_icmp .le 6, 3) := by decide +kernel
theorem dX12_tick_26 : decode cX12_tick 26 = .ok (.bipush (-4), 2) := by decide +kernel
theorem dX12_tick_28 : decode cX12_tick 28 = .ok (.ireturn, 1) := by decide +kernel
theorem dX12_tick_29 : decode cX12_tick 29 = .ok (.aload_n 0, 1) := by decide +kernel
theorem dX12_tick_30 : decode cX12_tick 30 = .ok (.iconst 0, 1) := by decide +kernel
theorem dX12_tick_31 : decode cX12_tick 31 = .ok (.putfield 145, 3) := by decide +kernel
theorem dX12_tick_34 : decode cX12_tick 34 = .ok (.iconst 0, 1) := by decide +kernel
theorem dX12_tick_35 : decode cX12_tick 35 = .ok (.istore_n 2, 1) := by decide +kernel
theorem dX12_tick_36 : decode cX12_tick 36 = .ok (.iload_n 2, 1) := by decide +kernel
theorem dX12_tick_37 : decode cX12_tick 37 = .ok (.iload_n 1, 1) := by decide +kernel
theorem dX12_tick_38 : decode cX12_tick 38 = .ok (.if_icmp .ge 13, 3) := by decide +kernel
theorem dX12_tick_41 : decode cX12_tick 41 = .ok (.aload_n 0, 1) := by decide +kernel
theorem dX12_tick_42 : decode cX12_tick 42 = .ok (.invokevirtual 358, 3) := by decide +kernel
theorem dX12_tick_45 : decode cX12_tick 45 = .ok (.iinc 2 1, 3) := by decide +kernel
theorem dX12_tick_48 : decode cX12_tick 48 = .ok (.goto (-12), 3) := by decide +kernel
theorem dX12_tick_51 : decode cX12_tick 51 = .ok (.aload_n 0, 1) := by decide +kernel
theorem dX12_tick_52 : decode cX12_tick 52 = .ok (.getfield 145, 3) := by decide +kernel
theorem dX12_tick_55 : decode cX12_tick 55 = .ok (.ireturn, 1) := by decide +kernel
theorem dX12_order_0 : decode cX12_order 0 = .ok (.aload_n 0, 1) := by decide +kernel
theorem dX12_order_1 : decode cX12_order 1 = .ok (.iload_n 1, 1) := by decide +kernel
theorem dX12_order_2 : decode cX12_order 2 = .ok (.invokevirtual 239, 3) := by decide +kernel
theorem dX12_order_5 : decode cX12_order 5 = .ok (.ifCond .eq 11, 3) := by decide +kernel
theorem dX12_order_8 : decode cX12_order 8 = .ok (.aload_n 0, 1) := by decide +kernel
theorem dX12_order_9 : decode cX12_order 9 = .ok (.iload_n 2, 1) := by decide +kernel
theorem dX12_order_10 : decode cX12_order 10 = .ok (.invokevirtual 221, 3) := by decide +kernel
theorem dX12_order_13 : decode cX12_order 13 = .ok (.ifCond .ne 6, 3) := by decide +kernel
theorem dX12_order_16 : decode cX12_order 16 = .ok (.bipush (-2), 2) := by decide +kernel
theorem dX12_order_18 : decode cX12_order 18 = .ok (.ireturn, 1) := by decide +kernel
theorem dX12_order_19 : decode cX12_order 19 = .ok (.aload_n 0, 1) := by decide +kernel
theorem dX12_order_20 : decode cX12_order 20 = .ok (.getfield 86, 3) := by decide +kernel
theorem dX12_order_23 : decode cX12_order 23 = .ok (.iload_n 1, 1) := by decide +kernel
theorem dX12_order_24 : decode cX12_order 24 = .ok (.baload, 1) := by decide +kernel
theorem dX12_order_25 : decode cX12_order 25 = .ok (.ifCond .ne 6, 3) := by decide +kernel
theorem dX12_order_28 : decode cX12_order 28 = .ok (.bipush (-3), 2) := by decide +kernel
theorem dX12_order_30 : decode cX12_order 30 = .ok (.ireturn, 1) := by decide +kernel
theorem dX12_order_31 : decode cX12_order 31 = .ok (.aload_n 0, 1) := by decide +kernel
theorem dX12_order_32 : decode cX12_order 32 = .ok (.getfield 59, 3) := by decide +kernel
theorem dX12_order_35 : decode cX12_order 35 = .ok (.bipush 16, 2) := by decide +kernel
theorem dX12_order_37 : decode cX12_order 37 = .ok (.if_icmp .eq 13, 3) := by decide +kernel
theorem dX12_order_40 : decode cX12_order 40 = .ok (.aload_n 0, 1) := by decide +kernel
theorem dX12_order_41 : decode cX12_order 41 = .ok (.getfield 7, 3) := by decide +kernel
theorem dX12_order_44 : decode cX12_order 44 = .ok (.sipush 300, 3) := by decide +kernel
theorem dX12_order_47 : decode cX12_order 47 = .ok (.if_icmp .ne 6, 3) := by decide +kernel
theorem dX12_order_50 : decode cX12_order 50 = .ok (.bipush (-4), 2) := by decide +kernel
theorem dX12_order_52 : decode cX12_order 52 = .ok (.ireturn, 1) := by decide +kernel
theorem dX12_order_53 : decode cX12_order 53 = .ok (.aload_n 0, 1) := by decide +kernel
theorem dX12_order_54 : decode cX12_order 54 = .ok (.iload_n 2, 1) := by decide +kernel
theorem dX12_order_55 : decode cX12_order 55 = .ok (.iconst 1, 1) := by decide +kernel
theorem dX12_order_56 : decode cX12_order 56 = .ok (.iconst (-1), 1) := by decide +kernel
theorem dX12_order_57 : decode cX12_order 57 = .ok (.invokevirtual 225, 3) := by decide +kernel
theorem dX12_order_60 : decode cX12_order 60 = .ok (.istore_n 3, 1) := by decide +kernel
theorem dX12_order_61 : decode cX12_order 61 = .ok (.aload_n 0, 1) := by decide +kernel
theorem dX12_order_62 : decode cX12_order 62 = .ok (.getfield 56, 3) := by decide +kernel
theorem dX12_order_65 : decode cX12_order 65 = .ok (.iload_n 3, 1) := by decide +kernel
theorem dX12_order_66 : decode cX12_order 66 = .ok (.iload_n 1, 1) := by decide +kernel
theorem dX12_order_67 : decode cX12_order 67 = .ok (.iastore, 1) := by decide +kernel
theorem dX12_order_68 : decode cX12_order 68 = .ok (.aload_n 0, 1) := by decide +kernel
theorem dX12_order_69 : decode cX12_order 69 = .ok (.getfield 53, 3) := by decide +kernel
theorem dX12_order_72 : decode cX12_order 72 = .ok (.aload_n 0, 1) := by decide +kernel
theorem dX12_order_73 : decode cX12_order 73 = .ok (.getfield 59, 3) := by decide +kernel
theorem dX12_order_76 : decode cX12_order 76 = .ok (.iload_n 3, 1) := by decide +kernel
theorem dX12_order_77 : decode cX12_order 77 = .ok (.iastore, 1) := by decide +kernel
theorem dX12_order_78 : decode cX12_order 78 = .ok (.aload_n 0, 1) := by decide +kernel
theorem dX12_order_79 : decode cX12_order 79 = .ok (.dup, 1) := by decide +kernel
theorem dX12_order_80 : decode cX12_order 80 = .ok (.getfield 59, 3) := by decide +kernel
theorem dX12_order_83 : decode cX12_order 83 = .ok (.iconst 1, 1) := by decide +kernel
theorem dX12_order_84 : decode cX12_order 84 = .ok (.iadd, 1) := by decide +kernel
theorem dX12_order_85 : decode cX12_order 85 = .ok (.putfield 59, 3) := by decide +kernel
theorem dX12_order_88 : decode cX12_order 88 = .ok (.iload_n 3, 1) := by decide +kernel
theorem dX12_order_89 : decode cX12_order 89 = .ok (.ireturn, 1) := by decide +kernel
theorem dX12_lane_0 : decode cX12_lane 0 = .ok (.aload_n 0, 1) := by decide +kernel
theorem dX12_lane_1 : decode cX12_lane 1 = .ok (.iload_n 1, 1) := by decide +kernel
theorem dX12_lane_2 : decode cX12_lane 2 = .ok (.invokevirtual 232, 3) := by decide +kernel
theorem dX12_lane_5 : decode cX12_lane 5 = .ok (.ifCond .ne 8, 3) := by decide +kernel
theorem dX12_lane_8 : decode cX12_lane 8 = .ok (.bipush (-2), 2) := by decide +kernel
theorem dX12_lane_10 : decode cX12_lane 10 = .ok (.goto 27, 3) := by decide +kernel
theorem dX12_lane_13 : decode cX12_lane 13 = .ok (.aload_n 0, 1) := by decide +kernel
theorem dX12_lane_14 : decode cX12_lane 14 = .ok (.getfield 50, 3) := by decide +kernel
theorem dX12_lane_17 : decode cX12_lane 17 = .ok (.iload_n 1, 1) := by decide +kernel
theorem dX12_lane_18 : decode cX12_lane 18 = .ok (.iaload, 1) := by decide +kernel
theorem dX12_lane_19 : decode cX12_lane 19 = .ok (.ifCond .ge 7, 3) := by decide +kernel
theorem dX12_lane_22 : decode cX12_lane 22 = .ok (.iconst (-1), 1) := by decide +kernel
theorem dX12_lane_23 : decode cX12_lane 23 = .ok (.goto 14, 3) := by decide +kernel
theorem dX12_lane_26 : decode cX12_lane 26 = .ok (.aload_n 0, 1) := by decide +kernel
theorem dX12_lane_27 : decode cX12_lane 27 = .ok (.getfield 56, 3) := by decide +kernel
theorem dX12_lane_30 : decode cX12_lane 30 = .ok (.aload_n 0, 1) := by decide +kernel
theorem dX12_lane_31 : decode cX12_lane 31 = .ok (.getfield 50, 3) := by decide +kernel
theorem dX12_lane_34 : decode cX12_lane 34 = .ok (.iload_n 1, 1) := by decide +kernel
theorem dX12_lane_35 : decode cX12_lane 35 = .ok (.iaload, 1) := by decide +kernel
theorem dX12_lane_36 : decode cX12_lane 36 = .ok (.iaload, 1) := by decide +kernel
theorem dX12_lane_37 : decode cX12_lane 37 = .ok (.ireturn, 1) := by decide +kernel
theorem dX12_countOf_0 : decode cX12_countOf 0 = .ok (.iconst 0, 1) := by decide +kernel
theorem dX12_countOf_1 : decode cX12_countOf 1 = .ok (.istore_n 3, 1) := by decide +kernel
theorem dX12_countOf_2 : decode cX12_countOf 2 = .ok (.iconst 0, 1) := by decide +kernel
theorem dX12_countOf_3 : decode cX12_countOf 3 = .ok (.istore 4, 2) := by decide +kernel
theorem dX12_countOf_5 : decode cX12_countOf 5 = .ok (.iload 4, 2) := by decide +kernel
theorem dX12_countOf_7 : decode cX12_countOf 7 = .ok (.aload_n 0, 1) := by decide +kernel
theorem dX12_countOf_8 : decode cX12_countOf 8 = .ok (.getfield 7, 3) := by decide +kernel
theorem dX12_countOf_11 : decode cX12_countOf 11 = .ok (.if_icmp .ge 43, 3) := by decide +kernel
theorem dX12_countOf_14 : decode cX12_countOf 14 = .ok (.iload_n 3, 1) := by decide +kernel
theorem dX12_countOf_15 : decode cX12_countOf 15 = .ok (.aload_n 0, 1) := by decide +kernel
theorem dX12_countOf_16 : decode cX12_countOf 16 = .ok (.getfield 35, 3) := by decide +kernel
theorem dX12_countOf_19 : decode cX12_countOf 19 = .ok (.iload 4, 2) := by decide +kernel
theorem dX12_countOf_21 : decode cX12_countOf 21 = .ok (.iaload, 1) := by decide +kernel
theorem dX12_countOf_22 : decode cX12_countOf 22 = .ok (.iload_n 1, 1) := by decide +kernel
theorem dX12_countOf_23 : decode cX12_countOf 23 = .ok (.if_icmp .ne 22, 3) := by decide +kernel
theorem dX12_countOf_26 : decode cX12_countOf 26 = .ok (.iload_n 2, 1) := by decide +kernel
theorem dX12_countOf_27 : decode cX12_countOf 27 = .ok (.ifCond .lt 14, 3) := by decide +kernel
theorem dX12_countOf_30 : decode cX12_countOf 30 = .ok (.aload_n 0, 1) := by decide +kernel
theorem dX12_countOf_31 : decode cX12_countOf 31 = .ok (.getfield 41, 3) := by decide +kernel
theorem dX12_countOf_34 : decode cX12_countOf 34 = .ok (.iload 4, 2) := by decide +kernel
theorem dX12_countOf_36 : decode cX12_countOf 36 = .ok (.iaload, 1) := by decide +kernel
theorem dX12_countOf_37 : decode cX12_countOf 37 = .ok (.iload_n 2, 1) := by decide +kernel
theorem dX12_countOf_38 : decode cX12_countOf 38 = .ok (.if_icmp .ne 7, 3) := by decide +kernel
theorem dX12_countOf_41 : decode cX12_countOf 41 = .ok (.iconst 1, 1) := by decide +kernel
theorem dX12_countOf_42 : decode cX12_countOf 42 = .ok (.goto 4, 3) := by decide +kernel
theorem dX12_countOf_45 : decode cX12_countOf 45 = .ok (.iconst 0, 1) := by decide +kernel
theorem dX12_countOf_46 : decode cX12_countOf 46 = .ok (.iadd, 1) := by decide +kernel
theorem dX12_countOf_47 : decode cX12_countOf 47 = .ok (.istore_n 3, 1) := by decide +kernel
theorem dX12_countOf_48 : decode cX12_countOf 48 = .ok (.iinc 4 1, 3) := by decide +kernel
theorem dX12_countOf_51 : decode cX12_countOf 51 = .ok (.goto (-46), 3) := by decide +kernel
theorem dX12_countOf_54 : decode cX12_countOf 54 = .ok (.iload_n 3, 1) := by decide +kernel
theorem dX12_countOf_55 : decode cX12_countOf 55 = .ok (.ireturn, 1) := by decide +kernel
theorem dX12_empties_0 : decode cX12_empties 0 = .ok (.aload_n 0, 1) := by decide +kernel
theorem dX12_empties_1 : decode cX12_empties 1 = .ok (.iload_n 1, 1) := by decide +kernel
theorem dX12_empties_2 : decode cX12_empties 2 = .ok (.iconst 0, 1) := by decide +kernel
theorem dX12_empties_3 : decode cX12_empties 3 = .ok (.iconst 4, 1) := by decide +kernel
theorem dX12_empties_4 : decode cX12_empties 4 = .ok (.invokevirtual 217, 3) := by decide +kernel
theorem dX12_empties_7 : decode cX12_empties 7 = .ok (.ifCond .eq 43, 3) := by decide +kernel
theorem dX12_empties_10 : decode cX12_empties 10 = .ok (.aload_n 0, 1) := by decide +kernel
theorem dX12_empties_11 : decode cX12_empties 11 = .ok (.iload_n 2, 1) := by decide +kernel
theorem dX12_empties_12 : decode cX12_empties 12 = .ok (.iconst 0, 1) := by decide +kernel
theorem dX12_empties_13 : decode cX12_empties 13 = .ok (.bipush 6, 2) := by decide +kernel
theorem dX12_empties_15 : decode cX12_empties 15 = .ok (.invokevirtual 217, 3) := by decide +kernel
theorem dX12_empties_18 : decode cX12_empties 18 = .ok (.ifCond .eq 32, 3) := by decide +kernel
theorem dX12_empties_21 : decode cX12_empties 21 = .ok (.aload_n 0, 1) := by decide +kernel
theorem dX12_empties_22 : decode cX12_empties 22 = .ok (.iload_n 1, 1) := by decide +kernel
theorem dX12_empties_23 : decode cX12_empties 23 = .ok (.iload_n 2, 1) := by decide +kernel
theorem dX12_empties_24 : decode cX12_empties 24 = .ok (.ifCond .ne 7, 3) := by decide +kernel
theorem dX12_empties_27 : decode cX12_empties 27 = .ok (.iconst (-1), 1) := by decide +kernel
theorem dX12_empties_28 : decode cX12_empties 28 = .ok (.goto 16, 3) := by decide +kernel
theorem dX12_empties_31 : decode cX12_empties 31 = .ok (.iload_n 2, 1) := by decide +kernel
theorem dX12_empties_32 : decode cX12_empties 32 = .ok (.bipush 6, 2) := by decide +kernel
theorem dX12_empties_34 : decode cX12_empties 34 = .ok (.if_icmp .ne 7, 3) := by decide +kernel
theorem dX12_empties_37 : decode cX12_empties 37 = .ok (.iconst 5, 1) := by decide +kernel
theorem dX12_empties_38 : decode cX12_empties 38 = .ok (.goto 6, 3) := by decide +kernel
theorem dX12_empties_41 : decode cX12_empties 41 = .ok (.iload_n 2, 1) := by decide +kernel
theorem dX12_empties_42 : decode cX12_empties 42 = .ok (.iconst 1, 1) := by decide +kernel
theorem dX12_empties_43 : decode cX12_empties 43 = .ok (.isub, 1) := by decide +kernel
theorem dX12_empties_44 : decode cX12_empties 44 = .ok (.invokevirtual 361, 3) := by decide +kernel
theorem dX12_empties_47 : decode cX12_empties 47 = .ok (.goto 5, 3) := by decide +kernel
theorem dX12_empties_50 : decode cX12_empties 50 = .ok (.bipush (-2), 2) := by decide +kernel
theorem dX12_empties_52 : decode cX12_empties 52 = .ok (.ireturn, 1) := by decide +kernel
theorem dX12_keep_0 : decode cX12_keep 0 = .ok (.iconst 0, 1) := by decide +kernel
theorem dX12_keep_1 : decode cX12_keep 1 = .ok (.istore_n 1, 1) := by decide +kernel
theorem dX12_keep_2 : decode cX12_keep 2 = .ok (.iload_n 1, 1) := by decide +kernel
theorem dX12_keep_3 : decode cX12_keep 3 = .ok (.aload_n 0, 1) := by decide +kernel
theorem dX12_keep_4 : decode cX12_keep 4 = .ok (.getfield 7, 3) := by decide +kernel
theorem dX12_keep_7 : decode cX12_keep 7 = .ok (.if_icmp .ge 45, 3) := by decide +kernel
theorem dX12_keep_10 : decode cX12_keep 10 = .ok (.aload_n 0, 1) := by decide +kernel
theorem dX12_keep_11 : decode cX12_keep 11 = .ok (.getfield 154, 3) := by decide +kernel
theorem dX12_keep_14 : decode cX12_keep 14 = .ok (.iload_n 1, 1) := by decide +kernel
theorem dX12_keep_15 : decode cX12_keep 15 = .ok (.aload_n 0, 1) := by decide +kernel
theorem dX12_keep_16 : decode cX12_keep 16 = .ok (.getfield 38, 3) := by decide +kernel
theorem dX12_keep_19 : decode cX12_keep 19 = .ok (.iload_n 1, 1) := by decide +kernel
theorem dX12_keep_20 : decode cX12_keep 20 = .ok (.iaload, 1) := by decide +kernel
theorem dX12_keep_21 : decode cX12_keep 21 = .ok (.iastore, 1) := by decide +kernel
theorem dX12_keep_22 : decode cX12_keep 22 = .ok (.aload_n 0, 1) := by decide +kernel
theorem dX12_keep_23 : decode cX12_keep 23 = .ok (.getfield 157, 3) := by decide +kernel
theorem dX12_keep_26 : decode cX12_keep 26 = .ok (.iload_n 1, 1) := by decide +kernel
theorem dX12_keep_27 : decode cX12_keep 27 = .ok (.aload_n 0, 1) := by decide +kernel
theorem dX12_keep_28 : decode cX12_keep 28 = .ok (.getfield 41, 3) := by decide +kernel
theorem dX12_keep_31 : decode cX12_keep 31 = .ok (.iload_n 1, 1) := by decide +kernel
theorem dX12_keep_32 : decode cX12_keep 32 = .ok (.iaload, 1) := by decide +kernel
theorem dX12_keep_33 : decode cX12_keep 33 = .ok (.iastore, 1) := by decide +kernel
theorem dX12_keep_34 : decode cX12_keep 34 = .ok (.aload_n 0, 1) := by decide +kernel
theorem dX12_keep_35 : decode cX12_keep 35 = .ok (.getfield 160, 3) := by decide +kernel
theorem dX12_keep_38 : decode cX12_keep 38 = .ok (.iload_n 1, 1) := by decide +kernel
theorem dX12_keep_39 : decode cX12_keep 39 = .ok (.aload_n 0, 1) := by decide +kernel
theorem dX12_keep_40 : decode cX12_keep 40 = .ok (.getfield 44, 3) := by decide +kernel
theorem dX12_keep_43 : decode cX12_keep 43 = .ok (.iload_n 1, 1) := by decide +kernel
theorem dX12_keep_44 : decode cX12_keep 44 = .ok (.iaload, 1) := by decide +kernel
theorem dX12_keep_45 : decode cX12_keep 45 = .ok (.iastore, 1) := by decide +kernel
theorem dX12_keep_46 : decode cX12_keep 46 = .ok (.iinc 1 1, 3) := by decide +kernel
theorem dX12_keep_49 : decode cX12_keep 49 = .ok (.goto (-47), 3) := by decide +kernel
theorem dX12_keep_52 : decode cX12_keep 52 = .ok (.iconst 0, 1) := by decide +kernel
theorem dX12_keep_53 : decode cX12_keep 53 = .ok (.istore_n 1, 1) := by decide +kernel
theorem dX12_keep_54 : decode cX12_keep 54 = .ok (.iload_n 1, 1) := by decide +kernel
theorem dX12_keep_55 : decode cX12_keep 55 = .ok (.aload_n 0, 1) := by decide +kernel
theorem dX12_keep_56 : decode cX12_keep 56 = .ok (.getfield 211, 3) := by decide +kernel
theorem dX12_keep_59 : decode cX12_keep 59 = .ok (.if_icmp .ge 33, 3) := by decide +kernel
theorem dX12_keep_62 : decode cX12_keep 62 = .ok (.aload_n 0, 1) := by decide +kernel
theorem dX12_keep_63 : decode cX12_keep 63 = .ok (.getfield 163, 3) := by decide +kernel
theorem dX12_keep_66 : decode cX12_keep 66 = .ok (.iload_n 1, 1) := by decide +kernel
theorem dX12_keep_67 : decode cX12_keep 67 = .ok (.aload_n 0, 1) := by decide +kernel
theorem dX12_keep_68 : decode cX12_keep 68 = .ok (.getfield 47, 3) := by decide +kernel
theorem dX12_keep_71 : decode cX12_keep 71 = .ok (.iload_n 1, 1) := by decide +kernel
theorem dX12_keep_72 : decode cX12_keep 72 = .ok (.iaload, 1) := by decide +kernel
theorem dX12_keep_73 : decode cX12_keep 73 = .ok (.iastore, 1) := by decide +kernel
theorem dX12_keep_74 : decode cX12_keep 74 = .ok (.aload_n 0, 1) := by decide +kernel
theorem dX12_keep_75 : decode cX12_keep 75 = .ok (.getfield 166, 3) := by decide +kernel
theorem dX12_keep_78 : decode cX12_keep 78 = .ok (.iload_n 1, 1) := by decide +kernel
theorem dX12_keep_79 : decode cX12_keep 79 = .ok (.aload_n 0, 1) := by decide +kernel
theorem dX12_keep_80 : decode cX12_keep 80 = .ok (.getfield 50, 3) := by decide +kernel
theorem dX12_keep_83 : decode cX12_keep 83 = .ok (.iload_n 1, 1) := by decide +kernel
theorem dX12_keep_84 : decode cX12_keep 84 = .ok (.iaload, 1) := by decide +kernel
theorem dX12_keep_85 : decode cX12_keep 85 = .ok (.iastore, 1) := by decide +kernel
theorem dX12_keep_86 : decode cX12_keep 86 = .ok (.iinc 1 1, 3) := by decide +kernel
theorem dX12_keep_89 : decode cX12_keep 89 = .ok (.goto (-35), 3) := by decide +kernel
theorem dX12_keep_92 : decode cX12_keep 92 = .ok (.iconst 0, 1) := by decide +kernel
theorem dX12_keep_93 : decode cX12_keep 93 = .ok (.istore_n 1, 1) := by decide +kernel
theorem dX12_keep_94 : decode cX12_keep 94 = .ok (.iload_n 1, 1) := by decide +kernel
theorem dX12_keep_95 : decode cX12_keep 95 = .ok (.aload_n 0, 1) := by decide +kernel
theorem dX12_keep_96 : decode cX12_keep 96 = .ok (.getfield 59, 3) := by decide +kernel
theorem dX12_keep_99 : decode cX12_keep 99 = .ok (.if_icmp .ge 21, 3) := by decide +kernel
theorem dX12_keep_102 : decode cX12_keep 102 = .ok (.aload_n 0, 1) := by decide +kernel
theorem dX12_keep_103 : decode cX12_keep 103 = .ok (.getfield 169, 3) := by decide +kernel
theorem dX12_keep_106 : decode cX12_keep 106 = .ok (.iload_n 1, 1) := by decide +kernel
theorem dX12_keep_107 : decode cX12_keep 107 = .ok (.aload_n 0, 1) := by decide +kernel
theorem dX12_keep_108 : decode cX12_keep 108 = .ok (.getfield 53, 3) := by decide +kernel
theorem dX12_keep_111 : decode cX12_keep 111 = .ok (.iload_n 1, 1) := by decide +kernel
theorem dX12_keep_112 : decode cX12_keep 112 = .ok (.iaload, 1) := by decide +kernel
theorem dX12_keep_113 : decode cX12_keep 113 = .ok (.iastore, 1) := by decide +kernel
theorem dX12_keep_114 : decode cX12_keep 114 = .ok (.iinc 1 1, 3) := by decide +kernel
theorem dX12_keep_117 : decode cX12_keep 117 = .ok (.goto (-23), 3) := by decide +kernel
theorem dX12_keep_120 : decode cX12_keep 120 = .ok (.iconst 0, 1) := by decide +kernel
theorem dX12_keep_121 : decode cX12_keep 121 = .ok (.istore_n 1, 1) := by decide +kernel
theorem dX12_keep_122 : decode cX12_keep 122 = .ok (.iload_n 1, 1) := by decide +kernel
theorem dX12_keep_123 : decode cX12_keep 123 = .ok (.aload_n 0, 1) := by decide +kernel
theorem dX12_keep_124 : decode cX12_keep 124 = .ok (.getfield 62, 3) := by decide +kernel
theorem dX12_keep_127 : decode cX12_keep 127 = .ok (.if_icmp .ge 83, 3) := by decide +kernel
theorem dX12_keep_130 : decode cX12_keep 130 = .ok (.aload_n 0, 1) := by decide +kernel
theorem dX12_keep_131 : decode cX12_keep 131 = .ok (.getfield 175, 3) := by decide +kernel
theorem dX12_keep_134 : decode cX12_keep 134 = .ok (.iload_n 1, 1) := by decide +kernel
theorem dX12_keep_135 : decode cX12_keep 135 = .ok (.aload_n 0, 1) := by decide +kernel
theorem dX12_keep_136 : decode cX12_keep 136 = .ok (.getfield 86, 3) := by decide +kernel
theorem dX12_keep_139 : decode cX12_keep 139 = .ok (.iload_n 1, 1) := by decide +kernel
theorem dX12_keep_140 : decode cX12_keep 140 = .ok (.baload, 1) := by decide +kernel
theorem dX12_keep_141 : decode cX12_keep 141 = .ok (.bastore, 1) := by decide +kernel
theorem dX12_keep_142 : decode cX12_keep 142 = .ok (.aload_n 0, 1) := by decide +kernel
theorem dX12_keep_143 : decode cX12_keep 143 = .ok (.getfield 172, 3) := by decide +kernel
theorem dX12_keep_146 : decode cX12_keep 146 = .ok (.iconst 5, 1) := by decide +kernel
theorem dX12_keep_147 : decode cX12_keep 147 = .ok (.iload_n 1, 1) := by decide +kernel
theorem dX12_keep_148 : decode cX12_keep 148 = .ok (.imul, 1) := by decide +kernel
theorem dX12_keep_149 : decode cX12_keep 149 = .ok (.aload_n 0, 1) := by decide +kernel
theorem dX12_keep_150 : decode cX12_keep 150 = .ok (.getfield 71, 3) := by decide +kernel
theorem dX12_keep_153 : decode cX12_keep 153 = .ok (.iload_n 1, 1) := by decide +kernel
theorem dX12_keep_154 : decode cX12_keep 154 = .ok (.iaload, 1) := by decide +kernel
theorem dX12_keep_155 : decode cX12_keep 155 = .ok (.iastore, 1) := by decide +kernel
theorem dX12_keep_156 : decode cX12_keep 156 = .ok (.aload_n 0, 1) := by decide +kernel
theorem dX12_keep_157 : decode cX12_keep 157 = .ok (.getfield 172, 3) := by decide +kernel
theorem dX12_keep_160 : decode cX12_keep 160 = .ok (.iconst 5, 1) := by decide +kernel
theorem dX12_keep_161 : decode cX12_keep 161 = .ok (.iload_n 1, 1) := by decide +kernel
theorem dX12_keep_162 : decode cX12_keep 162 = .ok (.imul, 1) := by decide +kernel
theorem dX12_keep_163 : decode cX12_keep 163 = .ok (.iconst 1, 1) := by decide +kernel
theorem dX12_keep_164 : decode cX12_keep 164 = .ok (.iadd, 1) := by decide +kernel
theorem dX12_keep_165 : decode cX12_keep 165 = .ok (.aload_n 0, 1) := by decide +kernel
theorem dX12_keep_166 : decode cX12_keep 166 = .ok (.getfield 74, 3) := by decide +kernel
theorem dX12_keep_169 : decode cX12_keep 169 = .ok (.iload_n 1, 1) := by decide +kernel
theorem dX12_keep_170 : decode cX12_keep 170 = .ok (.iaload, 1) := by decide +kernel
theorem dX12_keep_171 : decode cX12_keep 171 = .ok (.iastore, 1) := by decide +kernel
theorem dX12_keep_172 : decode cX12_keep 172 = .ok (.aload_n 0, 1) := by decide +kernel
theorem dX12_keep_173 : decode cX12_keep 173 = .ok (.getfield 172, 3) := by decide +kernel
theorem dX12_keep_176 : decode cX12_keep 176 = .ok (.iconst 5, 1) := by decide +kernel
theorem dX12_keep_177 : decode cX12_keep 177 = .ok (.iload_n 1, 1) := by decide +kernel
theorem dX12_keep_178 : decode cX12_keep 178 = .ok (.imul, 1) := by decide +kernel
theorem dX12_keep_179 : decode cX12_keep 179 = .ok (.iconst 2, 1) := by decide +kernel
theorem dX12_keep_180 : decode cX12_keep 180 = .ok (.iadd, 1) := by decide +kernel
theorem dX12_keep_181 : decode cX12_keep 181 = .ok (.aload_n 0, 1) := by decide +kernel
theorem dX12_keep_182 : decode cX12_keep 182 = .ok (.getfield 77, 3) := by decide +kernel
theorem dX12_keep_185 : decode cX12_keep 185 = .ok (.iload_n 1, 1) := by decide +kernel
theorem dX12_keep_186 : decode cX12_keep 186 = .ok (.iaload, 1) := by decide +kernel
theorem dX12_keep_187 : decode cX12_keep 187 = .ok (.iastore, 1) := by decide +kernel
theorem dX12_keep_188 : decode cX12_keep 188 = .ok (.aload_n 0, 1) := by decide +kernel
theorem dX12_keep_189 : decode cX12_keep 189 = .ok (.getfield 172, 3) := by decide +kernel
theorem dX12_keep_192 : decode cX12_keep 192 = .ok (.iconst 5, 1) := by decide +kernel
theorem dX12_keep_193 : decode cX12_keep 193 = .ok (.iload_n 1, 1) := by decide +kernel
theorem dX12_keep_194 : decode cX12_keep 194 = .ok (.imul, 1) := by decide +kernel
theorem dX12_keep_195 : decode cX12_keep 195 = .ok (.iconst 3, 1) := by decide +kernel
theorem dX12_keep_196 : decode cX12_keep 196 = .ok (.iadd, 1) := by decide +kernel
theorem dX12_keep_197 : decode cX12_keep 197 = .ok (.aload_n 0, 1) := by decide +kernel
theorem dX12_keep_198 : decode cX12_keep 198 = .ok (.getfield 80, 3) := by decide +kernel
theorem dX12_keep_201 : decode cX12_keep 201 = .ok (.iload_n 1, 1) := by decide +kernel
theorem dX12_keep_202 : decode cX12_keep 202 = .ok (.iaload, 1) := by decide +kernel
theorem dX12_keep_203 : decode cX12_keep 203 = .ok (.iastore, 1) := by decide +kernel
theorem dX12_keep_204 : decode cX12_keep 204 = .ok (.iinc 1 1, 3) := by decide +kernel
theorem dX12_keep_207 : decode cX12_keep 207 = .ok (.goto (-85), 3) := by decide +kernel
theorem dX12_keep_210 : decode cX12_keep 210 = .ok (.aload_n 0, 1) := by decide +kernel
theorem dX12_keep_211 : decode cX12_keep 211 = .ok (.aload_n 0, 1) := by decide +kernel
theorem dX12_keep_212 : decode cX12_keep 212 = .ok (.getfield 7, 3) := by decide +kernel
theorem dX12_keep_215 : decode cX12_keep 215 = .ok (.putfield 178, 3) := by decide +kernel
theorem dX12_keep_218 : decode cX12_keep 218 = .ok (.aload_n 0, 1) := by decide +kernel
theorem dX12_keep_219 : decode cX12_keep 219 = .ok (.aload_n 0, 1) := by decide +kernel
theorem dX12_keep_220 : decode cX12_keep 220 = .ok (.getfield 13, 3) := by decide +kernel
theorem dX12_keep_223 : decode cX12_keep 223 = .ok (.putfield 181, 3) := by decide +kernel
theorem dX12_keep_226 : decode cX12_keep 226 = .ok (.aload_n 0, 1) := by decide +kernel
theorem dX12_keep_227 : decode cX12_keep 227 = .ok (.aload_n 0, 1) := by decide +kernel
theorem dX12_keep_228 : decode cX12_keep 228 = .ok (.getfield 16, 3) := by decide +kernel

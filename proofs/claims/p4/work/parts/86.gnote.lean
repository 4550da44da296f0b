theorem dMD_plain_0 : decode cMD_plain 0 = .ok (.aload_n 0, 1) := by decide +kernel
theorem dMD_plain_1 : decode cMD_plain 1 = .ok (.getfield 13, 3) := by decide +kernel
theorem dMD_plain_4 : decode cMD_plain 4 = .ok (.iload_n 2, 1) := by decide +kernel
theorem dMD_plain_5 : decode cMD_plain 5 = .ok (.iaload, 1) := by decide +kernel
theorem dMD_plain_6 : decode cMD_plain 6 = .ok (.bipush 10, 2) := by decide +kernel
theorem dMD_plain_8 : decode cMD_plain 8 = .ok (.if_icmp .ne 18, 3) := by decide +kernel
theorem dMD_plain_11 : decode cMD_plain 11 = .ok (.aload_n 0, 1) := by decide +kernel
theorem dMD_plain_12 : decode cMD_plain 12 = .ok (.getfield 28, 3) := by decide +kernel
theorem dMD_plain_15 : decode cMD_plain 15 = .ok (.iload_n 1, 1) := by decide +kernel
theorem dMD_plain_16 : decode cMD_plain 16 = .ok (.aload_n 0, 1) := by decide +kernel
theorem dMD_plain_17 : decode cMD_plain 17 = .ok (.getfield 16, 3) := by decide +kernel
theorem dMD_plain_20 : decode cMD_plain 20 = .ok (.iload_n 2, 1) := by decide +kernel
theorem dMD_plain_21 : decode cMD_plain 21 = .ok (.iaload, 1) := by decide +kernel
theorem dMD_plain_22 : decode cMD_plain 22 = .ok (.iastore, 1) := by decide +kernel
theorem dMD_plain_23 : decode cMD_plain 23 = .ok (.goto 28, 3) := by decide +kernel
theorem dMD_plain_26 : decode cMD_plain 26 = .ok (.aload_n 0, 1) := by decide +kernel
theorem dMD_plain_27 : decode cMD_plain 27 = .ok (.getfield 28, 3) := by decide +kernel
theorem dMD_plain_30 : decode cMD_plain 30 = .ok (.iload_n 1, 1) := by decide +kernel
theorem dMD_plain_31 : decode cMD_plain 31 = .ok (.dup2, 1) := by decide +kernel
theorem dMD_plain_32 : decode cMD_plain 32 = .ok (.iaload, 1) := by decide +kernel
theorem dMD_plain_33 : decode cMD_plain 33 = .ok (.aload_n 0, 1) := by decide +kernel
theorem dMD_plain_34 : decode cMD_plain 34 = .ok (.getfield 13, 3) := by decide +kernel
theorem dMD_plain_37 : decode cMD_plain 37 = .ok (.iload_n 2, 1) := by decide +kernel
theorem dMD_plain_38 : decode cMD_plain 38 = .ok (.iaload, 1) := by decide +kernel
theorem dMD_plain_39 : decode cMD_plain 39 = .ok (.bipush 11, 2) := by decide +kernel
theorem dMD_plain_41 : decode cMD_plain 41 = .ok (.if_icmp .ne 7, 3) := by decide +kernel
theorem dMD_plain_44 : decode cMD_plain 44 = .ok (.iconst 1, 1) := by decide +kernel
theorem dMD_plain_45 : decode cMD_plain 45 = .ok (.goto 4, 3) := by decide +kernel
theorem dMD_plain_48 : decode cMD_plain 48 = .ok (.iconst (-1), 1) := by decide +kernel
theorem dMD_plain_49 : decode cMD_plain 49 = .ok (.iadd, 1) := by decide +kernel
theorem dMD_plain_50 : decode cMD_plain 50 = .ok (.iastore, 1) := by decide +kernel
theorem dMD_plain_51 : decode cMD_plain 51 = .ok (.aload_n 0, 1) := by decide +kernel
theorem dMD_plain_52 : decode cMD_plain 52 = .ok (.iload_n 1, 1) := by decide +kernel
theorem dMD_plain_53 : decode cMD_plain 53 = .ok (.aload_n 0, 1) := by decide +kernel
theorem dMD_plain_54 : decode cMD_plain 54 = .ok (.getfield 13, 3) := by decide +kernel
theorem dMD_plain_57 : decode cMD_plain 57 = .ok (.iload_n 2, 1) := by decide +kernel
theorem dMD_plain_58 : decode cMD_plain 58 = .ok (.iaload, 1) := by decide +kernel
theorem dMD_plain_59 : decode cMD_plain 59 = .ok (.bipush 12, 2) := by decide +kernel
theorem dMD_plain_61 : decode cMD_plain 61 = .ok (.if_icmp .ne 21, 3) := by decide +kernel
theorem dMD_plain_64 : decode cMD_plain 64 = .ok (.aload_n 0, 1) := by decide +kernel
theorem dMD_plain_65 : decode cMD_plain 65 = .ok (.getfield 28, 3) := by decide +kernel
theorem dMD_plain_68 : decode cMD_plain 68 = .ok (.iload_n 1, 1) := by decide +kernel
theorem dMD_plain_69 : decode cMD_plain 69 = .ok (.iaload, 1) := by decide +kernel
theorem dMD_plain_70 : decode cMD_plain 70 = .ok (.ifCond .le 12, 3) := by decide +kernel
theorem dMD_plain_73 : decode cMD_plain 73 = .ok (.aload_n 0, 1) := by decide +kernel
theorem dMD_plain_74 : decode cMD_plain 74 = .ok (.getfield 19, 3) := by decide +kernel
theorem dMD_plain_77 : decode cMD_plain 77 = .ok (.iload_n 2, 1) := by decide +kernel
theorem dMD_plain_78 : decode cMD_plain 78 = .ok (.iaload, 1) := by decide +kernel
theorem dMD_plain_79 : decode cMD_plain 79 = .ok (.goto 11, 3) := by decide +kernel
theorem dMD_plain_82 : decode cMD_plain 82 = .ok (.aload_n 0, 1) := by decide +kernel
theorem dMD_plain_83 : decode cMD_plain 83 = .ok (.getfield 25, 3) := by decide +kernel
theorem dMD_plain_86 : decode cMD_plain 86 = .ok (.iload_n 1, 1) := by decide +kernel
theorem dMD_plain_87 : decode cMD_plain 87 = .ok (.iaload, 1) := by decide +kernel
theorem dMD_plain_88 : decode cMD_plain 88 = .ok (.iconst 1, 1) := by decide +kernel
theorem dMD_plain_89 : decode cMD_plain 89 = .ok (.iadd, 1) := by decide +kernel
theorem dMD_plain_90 : decode cMD_plain 90 = .ok (.invokevirtual 100, 3) := by decide +kernel
theorem dMD_plain_93 : decode cMD_plain 93 = .ok (.return_, 1) := by decide +kernel
theorem dMD_note_0 : decode cMD_note 0 = .ok (.aload_n 0, 1) := by decide +kernel
theorem dMD_note_1 : decode cMD_note 1 = .ok (.getfield 78, 3) := by decide +kernel
theorem dMD_note_4 : decode cMD_note 4 = .ok (.istore 4, 2) := by decide +kernel
theorem dMD_note_6 : decode cMD_note 6 = .ok (.aload_n 0, 1) := by decide +kernel
theorem dMD_note_7 : decode cMD_note 7 = .ok (.getfield 37, 3) := by decide +kernel
theorem dMD_note_10 : decode cMD_note 10 = .ok (.iload 4, 2) := by decide +kernel
theorem dMD_note_12 : decode cMD_note 12 = .ok (.iload_n 1, 1) := by decide +kernel
theorem dMD_note_13 : decode cMD_note 13 = .ok (.iastore, 1) := by decide +kernel
theorem dMD_note_14 : decode cMD_note 14 = .ok (.aload_n 0, 1) := by decide +kernel
theorem dMD_note_15 : decode cMD_note 15 = .ok (.getfield 40, 3) := by decide +kernel
theorem dMD_note_18 : decode cMD_note 18 = .ok (.iload 4, 2) := by decide +kernel
theorem dMD_note_20 : decode cMD_note 20 = .ok (.iload_n 2, 1) := by decide +kernel
theorem dMD_note_21 : decode cMD_note 21 = .ok (.iastore, 1) := by decide +kernel
theorem dMD_note_22 : decode cMD_note 22 = .ok (.aload_n 0, 1) := by decide +kernel
theorem dMD_note_23 : decode cMD_note 23 = .ok (.getfield 43, 3) := by decide +kernel
theorem dMD_note_26 : decode cMD_note 26 = .ok (.iload 4, 2) := by decide +kernel
theorem dMD_note_28 : decode cMD_note 28 = .ok (.iload_n 3, 1) := by decide +kernel
theorem dMD_note_29 : decode cMD_note 29 = .ok (.iastore, 1) := by decide +kernel
theorem dMD_note_30 : decode cMD_note 30 = .ok (.aload_n 0, 1) := by decide +kernel
theorem dMD_note_31 : decode cMD_note 31 = .ok (.getfield 46, 3) := by decide +kernel
theorem dMD_note_34 : decode cMD_note 34 = .ok (.iload 4, 2) := by decide +kernel
theorem dMD_note_36 : decode cMD_note 36 = .ok (.iconst 0, 1) := by decide +kernel
theorem dMD_note_37 : decode cMD_note 37 = .ok (.bastore, 1) := by decide +kernel
theorem dMD_note_38 : decode cMD_note 38 = .ok (.iload_n 2, 1) := by decide +kernel
theorem dMD_note_39 : decode cMD_note 39 = .ok (.iconst 2, 1) := by decide +kernel
theorem dMD_note_40 : decode cMD_note 40 = .ok (.if_icmp .ne 44, 3) := by decide +kernel
theorem dMD_note_43 : decode cMD_note 43 = .ok (.aload_n 0, 1) := by decide +kernel
theorem dMD_note_44 : decode cMD_note 44 = .ok (.getfield 46, 3) := by decide +kernel
theorem dMD_note_47 : decode cMD_note 47 = .ok (.iload 4, 2) := by decide +kernel
theorem dMD_note_49 : decode cMD_note 49 = .ok (.aload_n 0, 1) := by decide +kernel
theorem dMD_note_50 : decode cMD_note 50 = .ok (.getfield 34, 3) := by decide +kernel
theorem dMD_note_53 : decode cMD_note 53 = .ok (.iload_n 3, 1) := by decide +kernel
theorem dMD_note_54 : decode cMD_note 54 = .ok (.iaload, 1) := by decide +kernel
theorem dMD_note_55 : decode cMD_note 55 = .ok (.ifCond .ne 7, 3) := by decide +kernel
theorem dMD_note_58 : decode cMD_note 58 = .ok (.iconst 1, 1) := by decide +kernel
theorem dMD_note_59 : decode cMD_note 59 = .ok (.goto 4, 3) := by decide +kernel
theorem dMD_note_62 : decode cMD_note 62 = .ok (.iconst 0, 1) := by decide +kernel
theorem dMD_note_63 : decode cMD_note 63 = .ok (.bastore, 1) := by decide +kernel
theorem dMD_note_64 : decode cMD_note 64 = .ok (.aload_n 0, 1) := by decide +kernel
theorem dMD_note_65 : decode cMD_note 65 = .ok (.getfield 31, 3) := by decide +kernel
theorem dMD_note_68 : decode cMD_note 68 = .ok (.iload_n 3, 1) := by decide +kernel
theorem dMD_note_69 : decode cMD_note 69 = .ok (.iload_n 1, 1) := by decide +kernel
theorem dMD_note_70 : decode cMD_note 70 = .ok (.iastore, 1) := by decide +kernel
theorem dMD_note_71 : decode cMD_note 71 = .ok (.aload_n 0, 1) := by decide +kernel
theorem dMD_note_72 : decode cMD_note 72 = .ok (.getfield 34, 3) := by decide +kernel
theorem dMD_note_75 : decode cMD_note 75 = .ok (.iload_n 3, 1) := by decide +kernel
theorem dMD_note_76 : decode cMD_note 76 = .ok (.dup2, 1) := by decide +kernel
theorem dMD_note_77 : decode cMD_note 77 = .ok (.iaload, 1) := by decide +kernel
theorem dMD_note_78 : decode cMD_note 78 = .ok (.iconst 1, 1) := by decide +kernel
theorem dMD_note_79 : decode cMD_note 79 = .ok (.iadd, 1) := by decide +kernel
theorem dMD_note_80 : decode cMD_note 80 = .ok (.iastore, 1) := by decide +kernel
theorem dMD_note_81 : decode cMD_note 81 = .ok (.goto 88, 3) := by decide +kernel
theorem dMD_note_84 : decode cMD_note 84 = .ok (.iload_n 2, 1) := by decide +kernel
theorem dMD_note_85 : decode cMD_note 85 = .ok (.iconst 3, 1) := by decide +kernel
theorem dMD_note_86 : decode cMD_note 86 = .ok (.if_icmp .ne 57, 3) := by decide +kernel
theorem dMD_note_89 : decode cMD_note 89 = .ok (.aload_n 0, 1) := by decide +kernel
theorem dMD_note_90 : decode cMD_note 90 = .ok (.getfield 34, 3) := by decide +kernel
theorem dMD_note_93 : decode cMD_note 93 = .ok (.iload_n 3, 1) := by decide +kernel
theorem dMD_note_94 : decode cMD_note 94 = .ok (.dup2, 1) := by decide +kernel
theorem dMD_note_95 : decode cMD_note 95 = .ok (.iaload, 1) := by decide +kernel
theorem dMD_note_96 : decode cMD_note 96 = .ok (.iconst 1, 1) := by decide +kernel
theorem dMD_note_97 : decode cMD_note 97 = .ok (.isub, 1) := by decide +kernel
theorem dMD_note_98 : decode cMD_note 98 = .ok (.iastore, 1) := by decide +kernel
theorem dMD_note_99 : decode cMD_note 99 = .ok (.aload_n 0, 1) := by decide +kernel
theorem dMD_note_100 : decode cMD_note 100 = .ok (.getfield 46, 3) := by decide +kernel
theorem dMD_note_103 : decode cMD_note 103 = .ok (.iload 4, 2) := by decide +kernel
theorem dMD_note_105 : decode cMD_note 105 = .ok (.aload_n 0, 1) := by decide +kernel
theorem dMD_note_106 : decode cMD_note 106 = .ok (.getfield 34, 3) := by decide +kernel
theorem dMD_note_109 : decode cMD_note 109 = .ok (.iload_n 3, 1) := by decide +kernel
theorem dMD_note_110 : decode cMD_note 110 = .ok (.iaload, 1) := by decide +kernel
theorem dMD_note_111 : decode cMD_note 111 = .ok (.ifCond .ne 7, 3) := by decide +kernel
theorem dMD_note_114 : decode cMD_note 114 = .ok (.iconst 1, 1) := by decide +kernel
theorem dMD_note_115 : decode cMD_note 115 = .ok (.goto 4, 3) := by decide +kernel
theorem dMD_note_118 : decode cMD_note 118 = .ok (.iconst 0, 1) := by decide +kernel
theorem dMD_note_119 : decode cMD_note 119 = .ok (.bastore, 1) := by decide +kernel
theorem dMD_note_120 : decode cMD_note 120 = .ok (.aload_n 0, 1) := by decide +kernel
theorem dMD_note_121 : decode cMD_note 121 = .ok (.getfield 31, 3) := by decide +kernel
theorem dMD_note_124 : decode cMD_note 124 = .ok (.iload_n 3, 1) := by decide +kernel
theorem dMD_note_125 : decode cMD_note 125 = .ok (.aload_n 0, 1) := by decide +kernel
theorem dMD_note_126 : decode cMD_note 126 = .ok (.getfield 34, 3) := by decide +kernel
theorem dMD_note_129 : decode cMD_note 129 = .ok (.iload_n 3, 1) := by decide +kernel
theorem dMD_note_130 : decode cMD_note 130 = .ok (.iaload, 1) := by decide +kernel
theorem dMD_note_131 : decode cMD_note 131 = .ok (.ifCond .ne 7, 3) := by decide +kernel
theorem dMD_note_134 : decode cMD_note 134 = .ok (.iconst (-1), 1) := by decide +kernel
theorem dMD_note_135 : decode cMD_note 135 = .ok (.goto 4, 3) := by decide +kernel
theorem dMD_note_138 : decode cMD_note 138 = .ok (.iload_n 1, 1) := by decide +kernel
theorem dMD_note_139 : decode cMD_note 139 = .ok (.iastore, 1) := by decide +kernel
theorem dMD_note_140 : decode cMD_note 140 = .ok (.goto 29, 3) := by decide +kernel
theorem dMD_note_143 : decode cMD_note 143 = .ok (.iload_n 2, 1) := by decide +kernel
theorem dMD_note_144 : decode cMD_note 144 = .ok (.bipush 6, 2) := by decide +kernel
theorem dMD_note_146 : decode cMD_note 146 = .ok (.if_icmp .ne 23, 3) := by decide +kernel
theorem dMD_note_149 : decode cMD_note 149 = .ok (.aload_n 0, 1) := by decide +kernel
theorem dMD_note_150 : decode cMD_note 150 = .ok (.getfield 22, 3) := by decide +kernel
theorem dMD_note_153 : decode cMD_note 153 = .ok (.iload_n 3, 1) := by decide +kernel
theorem dMD_note_154 : decode cMD_note 154 = .ok (.aload_n 0, 1) := by decide +kernel
theorem dMD_note_155 : decode cMD_note 155 = .ok (.getfield 7, 3) := by decide +kernel
theorem dMD_note_158 : decode cMD_note 158 = .ok (.iload_n 3, 1) := by decide +kernel
theorem dMD_note_159 : decode cMD_note 159 = .ok (.iaload, 1) := by decide +kernel
theorem dMD_note_160 : decode cMD_note 160 = .ok (.ifCond .le 7, 3) := by decide +kernel
theorem dMD_note_163 : decode cMD_note 163 = .ok (.iconst 1, 1) := by decide +kernel
theorem dMD_note_164 : decode cMD_note 164 = .ok (.goto 4, 3) := by decide +kernel
theorem dMD_note_167 : decode cMD_note 167 = .ok (.iconst 2, 1) := by decide +kernel
theorem dMD_note_168 : decode cMD_note 168 = .ok (.iastore, 1) := by decide +kernel
theorem dMD_note_169 : decode cMD_note 169 = .ok (.iconst 0, 1) := by decide +kernel
theorem dMD_note_170 : decode cMD_note 170 = .ok (.istore 5, 2) := by decide +kernel
theorem dMD_note_172 : decode cMD_note 172 = .ok (.iload 5, 2) := by decide +kernel
theorem dMD_note_174 : decode cMD_note 174 = .ok (.iconst 4, 1) := by decide +kernel
theorem dMD_note_175 : decode cMD_note 175 = .ok (.if_icmp .ge 22, 3) := by decide +kernel
theorem dMD_note_178 : decode cMD_note 178 = .ok (.aload_n 0, 1) := by decide +kernel
theorem dMD_note_179 : decode cMD_note 179 = .ok (.getfield 50, 3) := by decide +kernel
theorem dMD_note_182 : decode cMD_note 182 = .ok (.iconst 4, 1) := by decide +kernel
theorem dMD_note_183 : decode cMD_note 183 = .ok (.iload 4, 2) := by decide +kernel
theorem dMD_note_185 : decode cMD_note 185 = .ok (.imul, 1) := by decide +kernel
theorem dMD_note_186 : decode cMD_note 186 = .ok (.iload 5, 2) := by decide +kernel
theorem dMD_note_188 : decode cMD_note 188 = .ok (.iadd, 1) := by decide +kernel
theorem dMD_note_189 : decode cMD_note 189 = .ok (.lconst 0, 1) := by decide +kernel
theorem dMD_note_190 : decode cMD_note 190 = .ok (.lastore, 1) := by decide +kernel
theorem dMD_note_191 : decode cMD_note 191 = .ok (.iinc 5 1, 3) := by decide +kernel
theorem dMD_note_194 : decode cMD_note 194 = .ok (.goto (-22), 3) := by decide +kernel
theorem dMD_note_197 : decode cMD_note 197 = .ok (.iconst 0, 1) := by decide +kernel
theorem dMD_note_198 : decode cMD_note 198 = .ok (.istore 5, 2) := by decide +kernel
theorem dMD_note_200 : decode cMD_note 200 = .ok (.iload 5, 2) := by decide +kernel
theorem dMD_note_202 : decode cMD_note 202 = .ok (.iload 4, 2) := by decide +kernel
theorem dMD_note_204 : decode cMD_note 204 = .ok (.if_icmp .ge 28, 3) := by decide +kernel
theorem dMD_note_207 : decode cMD_note 207 = .ok (.aload_n 0, 1) := by decide +kernel
theorem dMD_note_208 : decode cMD_note 208 = .ok (.iload 5, 2) := by decide +kernel
theorem dMD_note_210 : decode cMD_note 210 = .ok (.iload 4, 2) := by decide +kernel
theorem dMD_note_212 : decode cMD_note 212 = .ok (.invokevirtual 103, 3) := by decide +kernel
theorem dMD_note_215 : decode cMD_note 215 = .ok (.ifCond .eq 11, 3) := by decide +kernel
theorem dMD_note_218 : decode cMD_note 218 = .ok (.aload_n 0, 1) := by decide +kernel
theorem dMD_note_219 : decode cMD_note 219 = .ok (.iload 5, 2) := by decide +kernel
theorem dMD_note_221 : decode cMD_note 221 = .ok (.iload 4, 2) := by decide +kernel
theorem dMD_note_223 : decode cMD_note 223 = .ok (.invokevirtual 106, 3) := by decide +kernel
theorem dMD_note_226 : decode cMD_note 226 = .ok (.iinc 5 1, 3) := by decide +kernel
theorem dMD_note_229 : decode cMD_note 229 = .ok (.goto (-29), 3) := by decide +kernel
theorem dMD_note_232 : decode cMD_note 232 = .ok (.aload_n 0, 1) := by decide +kernel
theorem dMD_note_233 : decode cMD_note 233 = .ok (.dup, 1) := by decide +kernel
theorem dMD_note_234 : decode cMD_note 234 = .ok (.getfield 78, 3) := by decide +kernel
theorem dMD_note_237 : decode cMD_note 237 = .ok (.iconst 1, 1) := by decide +kernel
theorem dMD_note_238 : decode cMD_note 238 = .ok (.iadd, 1) := by decide +kernel
theorem dMD_note_239 : decode cMD_note 239 = .ok (.putfield 78, 3) := by decide +kernel
theorem dMD_note_242 : decode cMD_note 242 = .ok (.iload_n 2, 1) := by decide +kernel
theorem dMD_note_243 : decode cMD_note 243 = .ok (.iconst 1, 1) := by decide +kernel
theorem dMD_note_244 : decode cMD_note 244 = .ok (.if_icmp .le 9, 3) := by decide +kernel
theorem dMD_note_247 : decode cMD_note 247 = .ok (.iload_n 2, 1) := by decide +kernel
theorem dMD_note_248 : decode cMD_note 248 = .ok (.bipush 8, 2) := by decide +kernel
theorem dMD_note_250 : decode cMD_note 250 = .ok (.if_icmp .lt 64, 3) := by decide +kernel
theorem dMD_note_253 : decode cMD_note 253 = .ok (.aload_n 0, 1) := by decide +kernel
theorem dMD_note_254 : decode cMD_note 254 = .ok (.iload 4, 2) := by decide +kernel
theorem dMD_note_256 : decode cMD_note 256 = .ok (.aload_n 0, 1) := by decide +kernel
theorem dMD_note_257 : decode cMD_note 257 = .ok (.getfield 89, 3) := by decide +kernel
theorem dMD_note_260 : decode cMD_note 260 = .ok (.invokevirtual 109, 3) := by decide +kernel
theorem dMD_note_263 : decode cMD_note 263 = .ok (.istore 5, 2) := by decide +kernel
theorem dMD_note_265 : decode cMD_note 265 = .ok (.aload_n 0, 1) := by decide +kernel
theorem dMD_note_266 : decode cMD_note 266 = .ok (.getfield 54, 3) := by decide +kernel
theorem dMD_note_269 : decode cMD_note 269 = .ok (.iload 5, 2) := by decide +kernel
theorem dMD_note_271 : decode cMD_note 271 = .ok (.iaload, 1) := by decide +kernel
theorem dMD_note_272 : decode cMD_note 272 = .ok (.ifCond .ge 42, 3) := by decide +kernel
theorem dMD_note_275 : decode cMD_note 275 = .ok (.aload_n 0, 1) := by decide +kernel
theorem dMD_note_276 : decode cMD_note 276 = .ok (.iload 4, 2) := by decide +kernel
theorem dMD_note_278 : decode cMD_note 278 = .ok (.aload_n 0, 1) := by decide +kernel
theorem dMD_note_279 : decode cMD_note 279 = .ok (.getfield 89, 3) := by decide +kernel
theorem dMD_note_282 : decode cMD_note 282 = .ok (.invokevirtual 113, 3) := by decide +kernel
theorem dMD_note_285 : decode cMD_note 285 = .ok (.ifCond .eq 29, 3) := by decide +kernel
theorem dMD_note_288 : decode cMD_note 288 = .ok (.aload_n 0, 1) := by decide +kernel
theorem dMD_note_289 : decode cMD_note 289 = .ok (.getfield 54, 3) := by decide +kernel
theorem dMD_note_292 : decode cMD_note 292 = .ok (.iload 5, 2) := by decide +kernel
theorem dMD_note_294 : decode cMD_note 294 = .ok (.iload 4, 2) := by decide +kernel
theorem dMD_note_296 : decode cMD_note 296 = .ok (.iastore, 1) := by decide +kernel
theorem dMD_note_297 : decode cMD_note 297 = .ok (.aload_n 0, 1) := by decide +kernel
theorem dMD_note_298 : decode cMD_note 298 = .ok (.getfield 57, 3) := by decide +kernel
theorem dMD_note_301 : decode cMD_note 301 = .ok (.iload 5, 2) := by decide +kernel
theorem dMD_note_303 : decode cMD_note 303 = .ok (.aload_n 0, 1) := by decide +kernel
theorem dMD_note_304 : decode cMD_note 304 = .ok (.iload 4, 2) := by decide +kernel
theorem dMD_note_306 : decode cMD_note 306 = .ok (.aload_n 0, 1) := by decide +kernel
theorem dMD_note_307 : decode cMD_note 307 = .ok (.getfield 89, 3) := by decide +kernel
theorem dMD_note_310 : decode cMD_note 310 = .ok (.invokevirtual 117, 3) := by decide +kernel
theorem dMD_note_313 : decode cMD_note 313 = .ok (.iastore, 1) := by decide +kernel
theorem dMD_note_314 : decode cMD_note 314 = .ok (.return_, 1) := by decide +kernel
set_option maxHeartbeats 4000000 in
set_option maxRecDepth 100000 in
theorem g_MD_plain (l : Launch) (D : va_G) (tc : Nat → ClassId) (ad : Nat → Nat) (E : Nat → va_E) (th st ic : Int32) (cn : Nat) (A : Nat → Nat → Int32) (J : Nat → Int64) (t i : Nat) (hM : isMD tc ad E th st ic (nI cn) A J) (ht : t < 5) (hi : i < 60) : Ct l D tc yMD_plain 1 17 ad E [.ref (ad 0), .int (nI t), .int (nI i)] (fun o E2 => o = .returned none ∧ ∃ (rg : Nat → Int32) (nx v : Int32), isMD tc ad E2 th st ic (nI cn) (va_up (va_up (va_up A 7 rg) 6 (upd (A 6) t nx)) 5 (upd (A 5) t v)) J ∧ (v = 1 → nx < A 1 t) ∧ ¬ v = 0 ∧ (nx = A 6 t + 1 ∨ nx = A 4 i ∧ A 2 i = 12)) := by
  refine Ct.ofW (cc := cMD_plain) (maxL := 3) (ret := none) (own := R_MD) (by decide) rfl w_575 (Nat.le_of_ble_eq_true rfl) ?_
  intro p e s m args below meth c ls X hlk hr hD hP hS hl
  have hx := X.1
  have hb := X.2.1
  have hl : lv_has ls 3 [(0, .ref (ad 0)), (1, .int (nI t)), (2, .int (nI i))] := hl
  have hM0 := hM
  obtain ⟨m0, m1, m2, m3, m4, m5, m6, m7, m8, m9, m10, m11, m12, m13, m14, m15, m16⟩ := hM
  refine lv_aload_n hx hb dMD_plain_0 rfl (lv_at hl 0 rfl) ?_
  refine g_MD_13 X hP (by omega) (m0) rfl dMD_plain_1 ?_
  refine lv_iload_n hx hb dMD_plain_4 rfl (lv_at hl 2 rfl) ?_
  refine q_iald i X hP (by omega) (m2) (rfl) (by omega) (by decide) dMD_plain_5 ?_
  refine lv_bipush (v := 10) hx hb dMD_plain_6 (by decide) ?_
  refine lv_icmp_ne (tgt := 26) hx hb dMD_plain_8 rfl (fun h8 => ?_) (fun h8 => ?_)
  · refine lv_aload_n hx hb dMD_plain_26 rfl (lv_at hl 0 rfl) ?_
    refine g_MD_28 X hP (by omega) (m0) rfl dMD_plain_27 ?_
    refine lv_iload_n hx hb dMD_plain_30 rfl (lv_at hl 1 rfl) ?_
    refine lv_dup2_11 hx hb dMD_plain_31 rfl rfl ?_
    refine q_iald t X hP (by omega) (m7) (rfl) (by omega) (by decide) dMD_plain_32 ?_
    refine lv_aload_n hx hb dMD_plain_33 rfl (lv_at hl 0 rfl) ?_
    refine g_MD_13 X hP (by omega) (m0) rfl dMD_plain_34 ?_
    refine lv_iload_n hx hb dMD_plain_37 rfl (lv_at hl 2 rfl) ?_
    refine q_iald i X hP (by omega) (m2) (rfl) (by omega) (by decide) dMD_plain_38 ?_
    refine lv_bipush (v := 11) hx hb dMD_plain_39 (by decide) ?_
    refine lv_icmp_ne (tgt := 48) hx hb dMD_plain_41 rfl (fun h41 => ?_) (fun h41 => ?_)
    · refine lv_iconst (v := (-1)) hx hb dMD_plain_48 (by decide) ?_
      refine lv_iadd hx hb dMD_plain_49 ?_
      refine q_iast t X hD hP hS (by omega) (m7) (rfl) (by omega) (by decide) dMD_plain_50 (fun H locs hD hP hS => ?_)
      have hP : va_P D vwCl (wW 17 ad (va_up E 7 (.inl (tc 0, 5, .inl (upd (A 7) t (((A 7) t) + (-1))))))) H := hP
      have hD : va_D (Aw 17 ad) (wW 17 ad (va_up E 7 (.inl (tc 0, 5, .inl (upd (A 7) t (((A 7) t) + (-1))))))) := hD
      generalize g2 : va_up E 7 (.inl (tc 0, 5, .inl (upd (A 7) t (((A 7) t) + (-1))))) = E1 at hD hP
      have f3 : E1 0 = .inr (7, [.int th, .int st, .int ic, .ref (ad 1), .ref (ad 2), .ref (ad 3), .ref (ad 4), .ref (ad 5), .ref (ad 6), .ref (ad 7), .ref (ad 8), .ref (ad 9), .int (nI cn), .ref (ad 10), .ref (ad 11), .ref (ad 12), .ref (ad 13), .ref (ad 14), .ref (ad 15), .ref (ad 16)]) := by rw [← g2, va_up_ne _ _ (by omega)]; exact m0
      have f4 : E1 1 = .inl (tc 0, 5, .inl (A 1)) := by rw [← g2, va_up_ne _ _ (by omega)]; exact m1
      have f5 : E1 2 = .inl (tc 0, 60, .inl (A 2)) := by rw [← g2, va_up_ne _ _ (by omega)]; exact m2
      have f6 : E1 3 = .inl (tc 0, 60, .inl (A 3)) := by rw [← g2, va_up_ne _ _ (by omega)]; exact m3
      have f7 : E1 4 = .inl (tc 0, 60, .inl (A 4)) := by rw [← g2, va_up_ne _ _ (by omega)]; exact m4
      have f8 : E1 5 = .inl (tc 0, 5, .inl (A 5)) := by rw [← g2, va_up_ne _ _ (by omega)]; exact m5
      have f9 : E1 6 = .inl (tc 0, 5, .inl (A 6)) := by rw [← g2, va_up_ne _ _ (by omega)]; exact m6
      have f10 : E1 7 = .inl (tc 0, 5, .inl (upd (A 7) t (((A 7) t) + (-1)))) := by rw [← g2]; exact va_up_self _ _ _
      have f11 : E1 8 = .inl (tc 0, 3, .inl (A 8)) := by rw [← g2, va_up_ne _ _ (by omega)]; exact m8
      have f12 : E1 9 = .inl (tc 0, 3, .inl (A 9)) := by rw [← g2, va_up_ne _ _ (by omega)]; exact m9
      have f13 : E1 10 = .inl (tc 0, 200, .inl (A 10)) := by rw [← g2, va_up_ne _ _ (by omega)]; exact m10
      have f14 : E1 11 = .inl (tc 0, 200, .inl (A 11)) := by rw [← g2, va_up_ne _ _ (by omega)]; exact m11
      have f15 : E1 12 = .inl (tc 0, 200, .inl (A 12)) := by rw [← g2, va_up_ne _ _ (by omega)]; exact m12
      have f16 : E1 13 = .inl (tc 2, 200, .inl (A 13)) := by rw [← g2, va_up_ne _ _ (by omega)]; exact m13
      have f17 : E1 15 = .inl (tc 0, 8, .inl (A 15)) := by rw [← g2, va_up_ne _ _ (by omega)]; exact m15
      have f18 : E1 16 = .inl (tc 0, 8, .inl (A 16)) := by rw [← g2, va_up_ne _ _ (by omega)]; exact m16
      have f19 : E1 14 = .inl (tc 1, 800, .inr (.inl J)) := by rw [← g2, va_up_ne _ _ (by omega)]; exact m14
      refine lv_aload_n hx hb dMD_plain_51 rfl (lv_at hl 0 rfl) ?_
      refine lv_iload_n hx hb dMD_plain_52 rfl (lv_at hl 1 rfl) ?_
      refine lv_aload_n hx hb dMD_plain_53 rfl (lv_at hl 0 rfl) ?_
      refine g_MD_13 X hP (by omega) (f3) rfl dMD_plain_54 ?_
      refine lv_iload_n hx hb dMD_plain_57 rfl (lv_at hl 2 rfl) ?_
      refine q_iald i X hP (by omega) (f5) (rfl) (by omega) (by decide) dMD_plain_58 ?_
      refine lv_bipush (v := 12) hx hb dMD_plain_59 (by decide) ?_
      refine lv_icmp_ne (tgt := 82) hx hb dMD_plain_61 rfl (fun h61 => ?_) (fun h61 => ?_)
      · refine lv_aload_n hx hb dMD_plain_82 rfl (lv_at hl 0 rfl) ?_
        refine g_MD_25 X hP (by omega) (f3) rfl dMD_plain_83 ?_
        refine lv_iload_n hx hb dMD_plain_86 rfl (lv_at hl 1 rfl) ?_
        refine q_iald t X hP (by omega) (f9) (rfl) (by omega) (by decide) dMD_plain_87 ?_
        refine lv_iconst (v := 1) hx hb dMD_plain_88 (by decide) ?_
        refine lv_iadd hx hb dMD_plain_89 ?_
        refine x_v (f := fun k => 0 + k) (x_runV (C := R_MD) (As := [.int (nI t), .int (((A 6) t) + 1)]) (rest := []) X (g_MD_go l D tc (fun k => ad (0 + k)) (fun k => E1 (0 + k)) th st ic cn (va_up A 7 (upd (A 7) t (((A 7) t) + (-1)))) J t (((A 6) t) + 1) (by simpa only [Nat.zero_add] using (show isMD tc ad E1 th st ic (nI cn) (va_up A 7 (upd (A 7) t (((A 7) t) + (-1)))) J from ⟨f3, f4, f5, f6, f7, f8, f9, f10, f11, f12, f13, f14, f15, f16, f19, f17, f18⟩)) ht) rfl rfl (by decide) (by decide) w_579 w_9 w_576 w_578 sel_MD_go ry_MD_go (x_recv X hP (by omega) (f3) rfl) (ct_pre X hP hD (fr_lt 17 17 0 (by omega)) (fr_inj 17 0)) ct_blind hl.1 (Nat.le_of_ble_eq_true rfl) dMD_plain_90 ⟨Nat.zero_le _, Nat.zero_le _⟩) hD hP hS (fr_lt 17 17 0 (by omega)) (fr_inj 17 0) (fun o E1 h => h.1) (fun E20 H locs q23 hD hP hS => ?_)
        obtain ⟨-, q23v, q23m, q231, q232⟩ := q23
        generalize g21 : wU 17 (fun k => 0 + k) E1 E20 = E22 at hD hP
        exact q_vret X hlk hr hP hS dMD_plain_93 ⟨rfl, (upd (A 7) t (((A 7) t) + (-1))), (((A 6) t) + 1), q23v, by rw [← g21]; exact isMD.back q23m, q231, q232, Or.inl rfl⟩
      · refine lv_aload_n hx hb dMD_plain_64 rfl (lv_at hl 0 rfl) ?_
        refine g_MD_28 X hP (by omega) (f3) rfl dMD_plain_65 ?_
        refine lv_iload_n hx hb dMD_plain_68 rfl (lv_at hl 1 rfl) ?_
        refine q_iald t X hP (by omega) (f10) (rfl) (by omega) (by decide) dMD_plain_69 ?_
        refine lv_if_le (tgt := 82) hx hb dMD_plain_70 rfl (fun h70 => ?_) (fun h70 => ?_)
        · refine lv_aload_n hx hb dMD_plain_82 rfl (lv_at hl 0 rfl) ?_
          refine g_MD_25 X hP (by omega) (f3) rfl dMD_plain_83 ?_
          refine lv_iload_n hx hb dMD_plain_86 rfl (lv_at hl 1 rfl) ?_
          refine q_iald t X hP (by omega) (f9) (rfl) (by omega) (by decide) dMD_plain_87 ?_
          refine lv_iconst (v := 1) hx hb dMD_plain_88 (by decide) ?_
          refine lv_iadd hx hb dMD_plain_89 ?_
          refine x_v (f := fun k => 0 + k) (x_runV (C := R_MD) (As := [.int (nI t), .int (((A 6) t) + 1)]) (rest := []) X (g_MD_go l D tc (fun k => ad (0 + k)) (fun k => E1 (0 + k)) th st ic cn (va_up A 7 (upd (A 7) t (((A 7) t) + (-1)))) J t (((A 6) t) + 1) (by simpa only [Nat.zero_add] using (show isMD tc ad E1 th st ic (nI cn) (va_up A 7 (upd (A 7) t (((A 7) t) + (-1)))) J from ⟨f3, f4, f5, f6, f7, f8, f9, f10, f11, f12, f13, f14, f15, f16, f19, f17, f18⟩)) ht) rfl rfl (by decide) (by decide) w_579 w_9 w_576 w_578 sel_MD_go ry_MD_go (x_recv X hP (by omega) (f3) rfl) (ct_pre X hP hD (fr_lt 17 17 0 (by omega)) (fr_inj 17 0)) ct_blind hl.1 (Nat.le_of_ble_eq_true rfl) dMD_plain_90 ⟨Nat.zero_le _, Nat.zero_le _⟩) hD hP hS (fr_lt 17 17 0 (by omega)) (fr_inj 17 0) (fun o E1 h => h.1) (fun E24 H locs q27 hD hP hS => ?_)
          obtain ⟨-, q27v, q27m, q271, q272⟩ := q27
          generalize g25 : wU 17 (fun k => 0 + k) E1 E24 = E26 at hD hP
          exact q_vret X hlk hr hP hS dMD_plain_93 ⟨rfl, (upd (A 7) t (((A 7) t) + (-1))), (((A 6) t) + 1), q27v, by rw [← g25]; exact isMD.back q27m, q271, q272, Or.inl rfl⟩
        · refine lv_aload_n hx hb dMD_plain_73 rfl (lv_at hl 0 rfl) ?_
          refine g_MD_19 X hP (by omega) (f3) rfl dMD_plain_74 ?_
          refine lv_iload_n hx hb dMD_plain_77 rfl (lv_at hl 2 rfl) ?_
          refine q_iald i X hP (by omega) (f7) (rfl) (by omega) (by decide) dMD_plain_78 ?_
          refine lv_goto (tgt := 90) hx hb dMD_plain_79 rfl ?_
          refine x_v (f := fun k => 0 + k) (x_runV (C := R_MD) (As := [.int (nI t), .int ((A 4) i)]) (rest := []) X (g_MD_go l D tc (fun k => ad (0 + k)) (fun k => E1 (0 + k)) th st ic cn (va_up A 7 (upd (A 7) t (((A 7) t) + (-1)))) J t ((A 4) i) (by simpa only [Nat.zero_add] using (show isMD tc ad E1 th st ic (nI cn) (va_up A 7 (upd (A 7) t (((A 7) t) + (-1)))) J from ⟨f3, f4, f5, f6, f7, f8, f9, f10, f11, f12, f13, f14, f15, f16, f19, f17, f18⟩)) ht) rfl rfl (by decide) (by decide) w_579 w_9 w_576 w_578 sel_MD_go ry_MD_go (x_recv X hP (by omega) (f3) rfl) (ct_pre X hP hD (fr_lt 17 17 0 (by omega)) (fr_inj 17 0)) ct_blind hl.1 (Nat.le_of_ble_eq_true rfl) dMD_plain_90 ⟨Nat.zero_le _, Nat.zero_le _⟩) hD hP hS (fr_lt 17 17 0 (by omega)) (fr_inj 17 0) (fun o E1 h => h.1) (fun E28 H locs q31 hD hP hS => ?_)
          obtain ⟨-, q31v, q31m, q311, q312⟩ := q31
          generalize g29 : wU 17 (fun k => 0 + k) E1 E28 = E30 at hD hP
          exact q_vret X hlk hr hP hS dMD_plain_93 ⟨rfl, (upd (A 7) t (((A 7) t) + (-1))), ((A 4) i), q31v, by rw [← g29]; exact isMD.back q31m, q311, q312, Or.inr ⟨rfl, h61⟩⟩
    · refine lv_iconst (v := 1) hx hb dMD_plain_44 (by decide) ?_
      refine lv_goto (tgt := 49) hx hb dMD_plain_45 rfl ?_
      refine lv_iadd hx hb dMD_plain_49 ?_
      refine q_iast t X hD hP hS (by omega) (m7) (rfl) (by omega) (by decide) dMD_plain_50 (fun H locs hD hP hS => ?_)
      have hP : va_P D vwCl (wW 17 ad (va_up E 7 (.inl (tc 0, 5, .inl (upd (A 7) t (((A 7) t) + 1)))))) H := hP
      have hD : va_D (Aw 17 ad) (wW 17 ad (va_up E 7 (.inl (tc 0, 5, .inl (upd (A 7) t (((A 7) t) + 1)))))) := hD
      generalize g33 : va_up E 7 (.inl (tc 0, 5, .inl (upd (A 7) t (((A 7) t) + 1)))) = E32 at hD hP
      have f34 : E32 0 = .inr (7, [.int th, .int st, .int ic, .ref (ad 1), .ref (ad 2), .ref (ad 3), .ref (ad 4), .ref (ad 5), .ref (ad 6), .ref (ad 7), .ref (ad 8), .ref (ad 9), .int (nI cn), .ref (ad 10), .ref (ad 11), .ref (ad 12), .ref (ad 13), .ref (ad 14), .ref (ad 15), .ref (ad 16)]) := by rw [← g33, va_up_ne _ _ (by omega)]; exact m0
      have f35 : E32 1 = .inl (tc 0, 5, .inl (A 1)) := by rw [← g33, va_up_ne _ _ (by omega)]; exact m1
      have f36 : E32 2 = .inl (tc 0, 60, .inl (A 2)) := by rw [← g33, va_up_ne _ _ (by omega)]; exact m2
      have f37 : E32 3 = .inl (tc 0, 60, .inl (A 3)) := by rw [← g33, va_up_ne _ _ (by omega)]; exact m3
      have f38 : E32 4 = .inl (tc 0, 60, .inl (A 4)) := by rw [← g33, va_up_ne _ _ (by omega)]; exact m4
      have f39 : E32 5 = .inl (tc 0, 5, .inl (A 5)) := by rw [← g33, va_up_ne _ _ (by omega)]; exact m5
      have f40 : E32 6 = .inl (tc 0, 5, .inl (A 6)) := by rw [← g33, va_up_ne _ _ (by omega)]; exact m6
      have f41 : E32 7 = .inl (tc 0, 5, .inl (upd (A 7) t (((A 7) t) + 1))) := by rw [← g33]; exact va_up_self _ _ _
      have f42 : E32 8 = .inl (tc 0, 3, .inl (A 8)) := by rw [← g33, va_up_ne _ _ (by omega)]; exact m8
      have f43 : E32 9 = .inl (tc 0, 3, .inl (A 9)) := by rw [← g33, va_up_ne _ _ (by omega)]; exact m9
      have f44 : E32 10 = .inl (tc 0, 200, .inl (A 10)) := by rw [← g33, va_up_ne _ _ (by omega)]; exact m10
      have f45 : E32 11 = .inl (tc 0, 200, .inl (A 11)) := by rw [← g33, va_up_ne _ _ (by omega)]; exact m11
      have f46 : E32 12 = .inl (tc 0, 200, .inl (A 12)) := by rw [← g33, va_up_ne _ _ (by omega)]; exact m12
      have f47 : E32 13 = .inl (tc 2, 200, .inl (A 13)) := by rw [← g33, va_up_ne _ _ (by omega)]; exact m13
      have f48 : E32 15 = .inl (tc 0, 8, .inl (A 15)) := by rw [← g33, va_up_ne _ _ (by omega)]; exact m15
      have f49 : E32 16 = .inl (tc 0, 8, .inl (A 16)) := by rw [← g33, va_up_ne _ _ (by omega)]; exact m16
      have f50 : E32 14 = .inl (tc 1, 800, .inr (.inl J)) := by rw [← g33, va_up_ne _ _ (by omega)]; exact m14
      refine lv_aload_n hx hb dMD_plain_51 rfl (lv_at hl 0 rfl) ?_
      refine lv_iload_n hx hb dMD_plain_52 rfl (lv_at hl 1 rfl) ?_
      refine lv_aload_n hx hb dMD_plain_53 rfl (lv_at hl 0 rfl) ?_
      refine g_MD_13 X hP (by omega) (f34) rfl dMD_plain_54 ?_
      refine lv_iload_n hx hb dMD_plain_57 rfl (lv_at hl 2 rfl) ?_
      refine q_iald i X hP (by omega) (f36) (rfl) (by omega) (by decide) dMD_plain_58 ?_
      refine lv_bipush (v := 12) hx hb dMD_plain_59 (by decide) ?_
      refine lv_icmp_ne (tgt := 82) hx hb dMD_plain_61 rfl (fun h61 => ?_) (fun h61 => ?_)
      · refine lv_aload_n hx hb dMD_plain_82 rfl (lv_at hl 0 rfl) ?_
        refine g_MD_25 X hP (by omega) (f34) rfl dMD_plain_83 ?_
        refine lv_iload_n hx hb dMD_plain_86 rfl (lv_at hl 1 rfl) ?_
        refine q_iald t X hP (by omega) (f40) (rfl) (by omega) (by decide) dMD_plain_87 ?_
        refine lv_iconst (v := 1) hx hb dMD_plain_88 (by decide) ?_
        refine lv_iadd hx hb dMD_plain_89 ?_
        refine x_v (f := fun k => 0 + k) (x_runV (C := R_MD) (As := [.int (nI t), .int (((A 6) t) + 1)]) (rest := []) X (g_MD_go l D tc (fun k => ad (0 + k)) (fun k => E32 (0 + k)) th st ic cn (va_up A 7 (upd (A 7) t (((A 7) t) + 1))) J t (((A 6) t) + 1) (by simpa only [Nat.zero_add] using (show isMD tc ad E32 th st ic (nI cn) (va_up A 7 (upd (A 7) t (((A 7) t) + 1))) J from ⟨f34, f35, f36, f37, f38, f39, f40, f41, f42, f43, f44, f45, f46, f47, f50, f48, f49⟩)) ht) rfl rfl (by decide) (by decide) w_579 w_9 w_576 w_578 sel_MD_go ry_MD_go (x_recv X hP (by omega) (f34) rfl) (ct_pre X hP hD (fr_lt 17 17 0 (by omega)) (fr_inj 17 0)) ct_blind hl.1 (Nat.le_of_ble_eq_true rfl) dMD_plain_90 ⟨Nat.zero_le _, Nat.zero_le _⟩) hD hP hS (fr_lt 17 17 0 (by omega)) (fr_inj 17 0) (fun o E1 h => h.1) (fun E51 H locs q54 hD hP hS => ?_)
        obtain ⟨-, q54v, q54m, q541, q542⟩ := q54
        generalize g52 : wU 17 (fun k => 0 + k) E32 E51 = E53 at hD hP
        exact q_vret X hlk hr hP hS dMD_plain_93 ⟨rfl, (upd (A 7) t (((A 7) t) + 1)), (((A 6) t) + 1), q54v, by rw [← g52]; exact isMD.back q54m, q541, q542, Or.inl rfl⟩
      · refine lv_aload_n hx hb dMD_plain_64 rfl (lv_at hl 0 rfl) ?_
        refine g_MD_28 X hP (by omega) (f34) rfl dMD_plain_65 ?_
        refine lv_iload_n hx hb dMD_plain_68 rfl (lv_at hl 1 rfl) ?_
        refine q_iald t X hP (by omega) (f41) (rfl) (by omega) (by decide) dMD_plain_69 ?_
        refine lv_if_le (tgt := 82) hx hb dMD_plain_70 rfl (fun h70 => ?_) (fun h70 => ?_)
        · refine lv_aload_n hx hb dMD_plain_82 rfl (lv_at hl 0 rfl) ?_
          refine g_MD_25 X hP (by omega) (f34) rfl dMD_plain_83 ?_
          refine lv_iload_n hx hb dMD_plain_86 rfl (lv_at hl 1 rfl) ?_
          refine q_iald t X hP (by omega) (f40) (rfl) (by omega) (by decide) dMD_plain_87 ?_
          refine lv_iconst (v := 1) hx hb dMD_plain_88 (by decide) ?_
          refine lv_iadd hx hb dMD_plain_89 ?_
          refine x_v (f := fun k => 0 + k) (x_runV (C := R_MD) (As := [.int (nI t), .int (((A 6) t) + 1)]) (rest := []) X (g_MD_go l D tc (fun k => ad (0 + k)) (fun k => E32 (0 + k)) th st ic cn (va_up A 7 (upd (A 7) t (((A 7) t) + 1))) J t (((A 6) t) + 1) (by simpa only [Nat.zero_add] using (show isMD tc ad E32 th st ic (nI cn) (va_up A 7 (upd (A 7) t (((A 7) t) + 1))) J from ⟨f34, f35, f36, f37, f38, f39, f40, f41, f42, f43, f44, f45, f46, f47, f50, f48, f49⟩)) ht) rfl rfl (by decide) (by decide) w_579 w_9 w_576 w_578 sel_MD_go ry_MD_go (x_recv X hP (by omega) (f34) rfl) (ct_pre X hP hD (fr_lt 17 17 0 (by omega)) (fr_inj 17 0)) ct_blind hl.1 (Nat.le_of_ble_eq_true rfl) dMD_plain_90 ⟨Nat.zero_le _, Nat.zero_le _⟩) hD hP hS (fr_lt 17 17 0 (by omega)) (fr_inj 17 0) (fun o E1 h => h.1) (fun E55 H locs q58 hD hP hS => ?_)
          obtain ⟨-, q58v, q58m, q581, q582⟩ := q58
          generalize g56 : wU 17 (fun k => 0 + k) E32 E55 = E57 at hD hP
          exact q_vret X hlk hr hP hS dMD_plain_93 ⟨rfl, (upd (A 7) t (((A 7) t) + 1)), (((A 6) t) + 1), q58v, by rw [← g56]; exact isMD.back q58m, q581, q582, Or.inl rfl⟩
        · refine lv_aload_n hx hb dMD_plain_73 rfl (lv_at hl 0 rfl) ?_
          refine g_MD_19 X hP (by omega) (f34) rfl dMD_plain_74 ?_
          refine lv_iload_n hx hb dMD_plain_77 rfl (lv_at hl 2 rfl) ?_
          refine q_iald i X hP (by omega) (f38) (rfl) (by omega) (by decide) dMD_plain_78 ?_
          refine lv_goto (tgt := 90) hx hb dMD_plain_79 rfl ?_
          refine x_v (f := fun k => 0 + k) (x_runV (C := R_MD) (As := [.int (nI t), .int ((A 4) i)]) (rest := []) X (g_MD_go l D tc (fun k => ad (0 + k)) (fun k => E32 (0 + k)) th st ic cn (va_up A 7 (upd (A 7) t (((A 7) t) + 1))) J t ((A 4) i) (by simpa only [Nat.zero_add] using (show isMD tc ad E32 th st ic (nI cn) (va_up A 7 (upd (A 7) t (((A 7) t) + 1))) J from ⟨f34, f35, f36, f37, f38, f39, f40, f41, f42, f43, f44, f45, f46, f47, f50, f48, f49⟩)) ht) rfl rfl (by decide) (by decide) w_579 w_9 w_576 w_578 sel_MD_go ry_MD_go (x_recv X hP (by omega) (f34) rfl) (ct_pre X hP hD (fr_lt 17 17 0 (by omega)) (fr_inj 17 0)) ct_blind hl.1 (Nat.le_of_ble_eq_true rfl) dMD_plain_90 ⟨Nat.zero_le _, Nat.zero_le _⟩) hD hP hS (fr_lt 17 17 0 (by omega)) (fr_inj 17 0) (fun o E1 h => h.1) (fun E59 H locs q62 hD hP hS => ?_)
          obtain ⟨-, q62v, q62m, q621, q622⟩ := q62
          generalize g60 : wU 17 (fun k => 0 + k) E32 E59 = E61 at hD hP
          exact q_vret X hlk hr hP hS dMD_plain_93 ⟨rfl, (upd (A 7) t (((A 7) t) + 1)), ((A 4) i), q62v, by rw [← g60]; exact isMD.back q62m, q621, q622, Or.inr ⟨rfl, h61⟩⟩
  · refine lv_aload_n hx hb dMD_plain_11 rfl (lv_at hl 0 rfl) ?_
    refine g_MD_28 X hP (by omega) (m0) rfl dMD_plain_12 ?_
    refine lv_iload_n hx hb dMD_plain_15 rfl (lv_at hl 1 rfl) ?_
    refine lv_aload_n hx hb dMD_plain_16 rfl (lv_at hl 0 rfl) ?_
    refine g_MD_16 X hP (by omega) (m0) rfl dMD_plain_17 ?_
    refine lv_iload_n hx hb dMD_plain_20 rfl (lv_at hl 2 rfl) ?_
    refine q_iald i X hP (by omega) (m3) (rfl) (by omega) (by decide) dMD_plain_21 ?_
    refine q_iast t X hD hP hS (by omega) (m7) (rfl) (by omega) (by decide) dMD_plain_22 (fun H locs hD hP hS => ?_)
    have hP : va_P D vwCl (wW 17 ad (va_up E 7 (.inl (tc 0, 5, .inl (upd (A 7) t ((A 3) i)))))) H := hP
    have hD : va_D (Aw 17 ad) (wW 17 ad (va_up E 7 (.inl (tc 0, 5, .inl (upd (A 7) t ((A 3) i)))))) := hD
    generalize g64 : va_up E 7 (.inl (tc 0, 5, .inl (upd (A 7) t ((A 3) i)))) = E63 at hD hP
    have f65 : E63 0 = .inr (7, [.int th, .int st, .int ic, .ref (ad 1), .ref (ad 2), .ref (ad 3), .ref (ad 4), .ref (ad 5), .ref (ad 6), .ref (ad 7), .ref (ad 8), .ref (ad 9), .int (nI cn), .ref (ad 10), .ref (ad 11), .ref (ad 12), .ref (ad 13), .ref (ad 14), .ref (ad 15), .ref (ad 16)]) := by rw [← g64, va_up_ne _ _ (by omega)]; exact m0
    have f66 : E63 1 = .inl (tc 0, 5, .inl (A 1)) := by rw [← g64, va_up_ne _ _ (by omega)]; exact m1
    have f67 : E63 2 = .inl (tc 0, 60, .inl (A 2)) := by rw [← g64, va_up_ne _ _ (by omega)]; exact m2
    have f68 : E63 3 = .inl (tc 0, 60, .inl (A 3)) := by rw [← g64, va_up_ne _ _ (by omega)]; exact m3
    have f69 : E63 4 = .inl (tc 0, 60, .inl (A 4)) := by rw [← g64, va_up_ne _ _ (by omega)]; exact m4
    have f70 : E63 5 = .inl (tc 0, 5, .inl (A 5)) := by rw [← g64, va_up_ne _ _ (by omega)]; exact m5
    have f71 : E63 6 = .inl (tc 0, 5, .inl (A 6)) := by rw [← g64, va_up_ne _ _ (by omega)]; exact m6
    have f72 : E63 7 = .inl (tc 0, 5, .inl (upd (A 7) t ((A 3) i))) := by rw [← g64]; exact va_up_self _ _ _
    have f73 : E63 8 = .inl (tc 0, 3, .inl (A 8)) := by rw [← g64, va_up_ne _ _ (by omega)]; exact m8
    have f74 : E63 9 = .inl (tc 0, 3, .inl (A 9)) := by rw [← g64, va_up_ne _ _ (by omega)]; exact m9
    have f75 : E63 10 = .inl (tc 0, 200, .inl (A 10)) := by rw [← g64, va_up_ne _ _ (by omega)]; exact m10
    have f76 : E63 11 = .inl (tc 0, 200, .inl (A 11)) := by rw [← g64, va_up_ne _ _ (by omega)]; exact m11
    have f77 : E63 12 = .inl (tc 0, 200, .inl (A 12)) := by rw [← g64, va_up_ne _ _ (by omega)]; exact m12
    have f78 : E63 13 = .inl (tc 2, 200, .inl (A 13)) := by rw [← g64, va_up_ne _ _ (by omega)]; exact m13
    have f79 : E63 15 = .inl (tc 0, 8, .inl (A 15)) := by rw [← g64, va_up_ne _ _ (by omega)]; exact m15
    have f80 : E63 16 = .inl (tc 0, 8, .inl (A 16)) := by rw [← g64, va_up_ne _ _ (by omega)]; exact m16
    have f81 : E63 14 = .inl (tc 1, 800, .inr (.inl J)) := by rw [← g64, va_up_ne _ _ (by omega)]; exact m14
    refine lv_goto (tgt := 51) hx hb dMD_plain_23 rfl ?_
    refine lv_aload_n hx hb dMD_plain_51 rfl (lv_at hl 0 rfl) ?_
    refine lv_iload_n hx hb dMD_plain_52 rfl (lv_at hl 1 rfl) ?_
    refine lv_aload_n hx hb dMD_plain_53 rfl (lv_at hl 0 rfl) ?_
    refine g_MD_13 X hP (by omega) (f65) rfl dMD_plain_54 ?_
    refine lv_iload_n hx hb dMD_plain_57 rfl (lv_at hl 2 rfl) ?_
    refine q_iald i X hP (by omega) (f67) (rfl) (by omega) (by decide) dMD_plain_58 ?_
    refine lv_bipush (v := 12) hx hb dMD_plain_59 (by decide) ?_
    refine lv_icmp_ne (tgt := 82) hx hb dMD_plain_61 rfl (fun h61 => ?_) (fun h61 => ?_)
    · refine lv_aload_n hx hb dMD_plain_82 rfl (lv_at hl 0 rfl) ?_
      refine g_MD_25 X hP (by omega) (f65) rfl dMD_plain_83 ?_
      refine lv_iload_n hx hb dMD_plain_86 rfl (lv_at hl 1 rfl) ?_
      refine q_iald t X hP (by omega) (f71) (rfl) (by omega) (by decide) dMD_plain_87 ?_
      refine lv_iconst (v := 1) hx hb dMD_plain_88 (by decide) ?_
      refine lv_iadd hx hb dMD_plain_89 ?_
      refine x_v (f := fun k => 0 + k) (x_runV (C := R_MD) (As := [.int (nI t), .int (((A 6) t) + 1)]) (rest := []) X (g_MD_go l D tc (fun k => ad (0 + k)) (fun k => E63 (0 + k)) th st ic cn (va_up A 7 (upd (A 7) t ((A 3) i))) J t (((A 6) t) + 1) (by simpa only [Nat.zero_add] using (show isMD tc ad E63 th st ic (nI cn) (va_up A 7 (upd (A 7) t ((A 3) i))) J from ⟨f65, f66, f67, f68, f69, f70, f71, f72, f73, f74, f75, f76, f77, f78, f81, f79, f80⟩)) ht) rfl rfl (by decide) (by decide) w_579 w_9 w_576 w_578 sel_MD_go ry_MD_go (x_recv X hP (by omega) (f65) rfl) (ct_pre X hP hD (fr_lt 17 17 0 (by omega)) (fr_inj 17 0)) ct_blind hl.1 (Nat.le_of_ble_eq_true rfl) dMD_plain_90 ⟨Nat.zero_le _, Nat.zero_le _⟩) hD hP hS (fr_lt 17 17 0 (by omega)) (fr_inj 17 0) (fun o E1 h => h.1) (fun E82 H locs q85 hD hP hS => ?_)
      obtain ⟨-, q85v, q85m, q851, q852⟩ := q85
      generalize g83 : wU 17 (fun k => 0 + k) E63 E82 = E84 at hD hP
      exact q_vret X hlk hr hP hS dMD_plain_93 ⟨rfl, (upd (A 7) t ((A 3) i)), (((A 6) t) + 1), q85v, by rw [← g83]; exact isMD.back q85m, q851, q852, Or.inl rfl⟩
    · refine lv_aload_n hx hb dMD_plain_64 rfl (lv_at hl 0 rfl) ?_
      refine g_MD_28 X hP (by omega) (f65) rfl dMD_plain_65 ?_
      refine lv_iload_n hx hb dMD_plain_68 rfl (lv_at hl 1 rfl) ?_
      refine q_iald t X hP (by omega) (f72) (rfl) (by omega) (by decide) dMD_plain_69 ?_
      refine lv_if_le (tgt := 82) hx hb dMD_plain_70 rfl (fun h70 => ?_) (fun h70 => ?_)
      · refine lv_aload_n hx hb dMD_plain_82 rfl (lv_at hl 0 rfl) ?_
        refine g_MD_25 X hP (by omega) (f65) rfl dMD_plain_83 ?_
        refine lv_iload_n hx hb dMD_plain_86 rfl (lv_at hl 1 rfl) ?_
        refine q_iald t X hP (by omega) (f71) (rfl) (by omega) (by decide) dMD_plain_87 ?_
        refine lv_iconst (v := 1) hx hb dMD_plain_88 (by decide) ?_
        refine lv_iadd hx hb dMD_plain_89 ?_
        refine x_v (f := fun k => 0 + k) (x_runV (C := R_MD) (As := [.int (nI t), .int (((A 6) t) + 1)]) (rest := []) X (g_MD_go l D tc (fun k => ad (0 + k)) (fun k => E63 (0 + k)) th st ic cn (va_up A 7 (upd (A 7) t ((A 3) i))) J t (((A 6) t) + 1) (by simpa only [Nat.zero_add] using (show isMD tc ad E63 th st ic (nI cn) (va_up A 7 (upd (A 7) t ((A 3) i))) J from ⟨f65, f66, f67, f68, f69, f70, f71, f72, f73, f74, f75, f76, f77, f78, f81, f79, f80⟩)) ht) rfl rfl (by decide) (by decide) w_579 w_9 w_576 w_578 sel_MD_go ry_MD_go (x_recv X hP (by omega) (f65) rfl) (ct_pre X hP hD (fr_lt 17 17 0 (by omega)) (fr_inj 17 0)) ct_blind hl.1 (Nat.le_of_ble_eq_true rfl) dMD_plain_90 ⟨Nat.zero_le _, Nat.zero_le _⟩) hD hP hS (fr_lt 17 17 0 (by omega)) (fr_inj 17 0) (fun o E1 h => h.1) (fun E86 H locs q89 hD hP hS => ?_)
        obtain ⟨-, q89v, q89m, q891, q892⟩ := q89
        generalize g87 : wU 17 (fun k => 0 + k) E63 E86 = E88 at hD hP
        exact q_vret X hlk hr hP hS dMD_plain_93 ⟨rfl, (upd (A 7) t ((A 3) i)), (((A 6) t) + 1), q89v, by rw [← g87]; exact isMD.back q89m, q891, q892, Or.inl rfl⟩
      · refine lv_aload_n hx hb dMD_plain_73 rfl (lv_at hl 0 rfl) ?_
        refine g_MD_19 X hP (by omega) (f65) rfl dMD_plain_74 ?_
        refine lv_iload_n hx hb dMD_plain_77 rfl (lv_at hl 2 rfl) ?_
        refine q_iald i X hP (by omega) (f69) (rfl) (by omega) (by decide) dMD_plain_78 ?_
        refine lv_goto (tgt := 90) hx hb dMD_plain_79 rfl ?_
        refine x_v (f := fun k => 0 + k) (x_runV (C := R_MD) (As := [.int (nI t), .int ((A 4) i)]) (rest := []) X (g_MD_go l D tc (fun k => ad (0 + k)) (fun k => E63 (0 + k)) th st ic cn (va_up A 7 (upd (A 7) t ((A 3) i))) J t ((A 4) i) (by simpa only [Nat.zero_add] using (show isMD tc ad E63 th st ic (nI cn) (va_up A 7 (upd (A 7) t ((A 3) i))) J from ⟨f65, f66, f67, f68, f69, f70, f71, f72, f73, f74, f75, f76, f77, f78, f81, f79, f80⟩)) ht) rfl rfl (by decide) (by decide) w_579 w_9 w_576 w_578 sel_MD_go ry_MD_go (x_recv X hP (by omega) (f65) rfl) (ct_pre X hP hD (fr_lt 17 17 0 (by omega)) (fr_inj 17 0)) ct_blind hl.1 (Nat.le_of_ble_eq_true rfl) dMD_plain_90 ⟨Nat.zero_le _, Nat.zero_le _⟩) hD hP hS (fr_lt 17 17 0 (by omega)) (fr_inj 17 0) (fun o E1 h => h.1) (fun E90 H locs q93 hD hP hS => ?_)
        obtain ⟨-, q93v, q93m, q931, q932⟩ := q93
        generalize g91 : wU 17 (fun k => 0 + k) E63 E90 = E92 at hD hP
        exact q_vret X hlk hr hP hS dMD_plain_93 ⟨rfl, (upd (A 7) t ((A 3) i)), ((A 4) i), q93v, by rw [← g91]; exact isMD.back q93m, q931, q932, Or.inr ⟨rfl, h61⟩⟩
set_option maxHeartbeats 4000000 in
set_option maxRecDepth 100000 in
theorem g_MD_note (l : Launch) (D : va_G) (tc : Nat → ClassId) (ad : Nat → Nat) (E : Nat → va_E) (th st ic : Int32) (cn : Nat) (A : Nat → Nat → Int32) (J : Nat → Int64) (t : Nat) (op x : Int32) (hM : isMD tc ad E th st ic (nI cn) A J) (ht : t < 5) (hc : cn < 200) (hx2 : (op = 2 ∨ op = 3) → ∃ q, q < 3 ∧ x = nI q) (hx6 : op = 6 → ∃ q, q < 5 ∧ x = nI q) (hx8 : (op ≤ 1 ∨ ¬ op < 8) → ∃ q, q < 8 ∧ x = nI q) : Ct l D tc yMD_note 3 17 ad E [.ref (ad 0), .int (nI t), .int op, .int x] (fun o E2 => o = .returned none ∧ ∃ (B : Nat → Nat → Int32) (J2 : Nat → Int64), isMD tc ad E2 th st ic (nI (cn + 1)) B J2 ∧ (∀ k, (k < 5 ∨ k = 6) → B k = A k) ∧ (∀ u, B 5 u = A 5 u ∨ (op = 6 ∧ x = nI u ∧ (B 5 u = 1 → 0 < A 1 u) ∧ ¬ B 5 u = 0))) := by
  refine Ct.ofW (cc := cMD_note) (maxL := 6) (ret := none) (own := R_MD) (by decide) rfl w_583 (Nat.le_of_ble_eq_true rfl) ?_
  intro p e s m args below meth c ls X hlk hr hD hP hS hl
  have hx := X.1
  have hb := X.2.1
  have hl : lv_has ls 6 [(0, .ref (ad 0)), (1, .int (nI t)), (2, .int op), (3, .int x)] := hl
  have hM0 := hM
  obtain ⟨m0, m1, m2, m3, m4, m5, m6, m7, m8, m9, m10, m11, m12, m13, m14, m15, m16⟩ := hM
  have J169 : ∀ (B : Nat → Nat → Int32) (H : Heap) (locs : List Loc) (ls : Array Slot) (F : Nat → va_E), isMD tc ad F th st ic (nI cn) B J → (∀ k, (k < 5 ∨ k = 6) → B k = A k) → (∀ u, B 5 u = A 5 u ∨ (op = 6 ∧ x = nI u ∧ (B 5 u = 1 → 0 < A 1 u) ∧ ¬ B 5 u = 0)) → B 12 cn = x → va_D (Aw 17 ad) (wW 17 ad F) → va_P D vwCl (wW 17 ad F) H → va_S (Aw 17 ad) s.heap H locs → lv_has ls 6 [(4, .int (nI cn)), (0, .ref (ad 0)), (1, .int (nI t)), (2, .int op), (3, .int x)] → W p l e (rmD 3) s m args below meth c H locs 0 0 (XQ below (CtQ D 17 ad (fun o E2 => o = .returned none ∧ ∃ (B : Nat → Nat → Int32) (J2 : Nat → Int64), isMD tc ad E2 th st ic (nI (cn + 1)) B J2 ∧ (∀ k, (k < 5 ∨ k = 6) → B k = A k) ∧ (∀ u, B 5 u = A 5 u ∨ (op = 6 ∧ x = nI u ∧ (B 5 u = 1 → 0 < A 1 u) ∧ ¬ B 5 u = 0)))) args s 0 0 (Aw 17 ad)) (F0 m 169 ls []) := by
    intro B H locs ls F hM hB hB5 hB12 hD hP hS hl
    have loop2 : ∀ (r i : Nat) (J : Nat → Int64) (H : Heap) (locs : List Loc) (ls : Array Slot) (F : Nat → va_E), i + r = cn → isMD tc ad F th st ic (nI cn) B J → va_D (Aw 17 ad) (wW 17 ad F) → va_P D vwCl (wW 17 ad F) H → va_S (Aw 17 ad) s.heap H locs → lv_has ls 6 [(5, .int (nI i)), (4, .int (nI cn)), (0, .ref (ad 0)), (1, .int (nI t)), (2, .int op), (3, .int x)] → W p l e (rmD 3) s m args below meth c H locs 0 0 (XQ below (CtQ D 17 ad (fun o E2 => o = .returned none ∧ ∃ (B : Nat → Nat → Int32) (J2 : Nat → Int64), isMD tc ad E2 th st ic (nI (cn + 1)) B J2 ∧ (∀ k, (k < 5 ∨ k = 6) → B k = A k) ∧ (∀ u, B 5 u = A 5 u ∨ (op = 6 ∧ x = nI u ∧ (B 5 u = 1 → 0 < A 1 u) ∧ ¬ B 5 u = 0)))) args s 0 0 (Aw 17 ad)) (F0 m 200 ls []) := by
      intro r
      induction r with
      | zero =>
        intro i J H locs ls F hi hM hD hP hS hl
        have hM9 := hM
        obtain ⟨m0, m1, m2, m3, m4, m5, m6, m7, m8, m9, m10, m11, m12, m13, m14, m15, m16⟩ := hM
        refine lv_iload hx hb dMD_note_200 (lv_at hl 0 rfl) ?_
        refine lv_iload hx hb dMD_note_202 (lv_at hl 1 rfl) ?_
        refine lv_icmp_ge (tgt := 232) hx hb dMD_note_204 rfl (fun h204 => ?_) (fun h204 => absurd (nI_le (by omega) (by omega)) h204)
        refine lv_aload_n hx hb dMD_note_232 rfl (lv_at hl 2 rfl) ?_
        refine lv_dup hx hb dMD_note_233 rfl ?_
        refine g_MD_78 X hP (by omega) (m0) rfl dMD_note_234 ?_
        refine lv_iconst (v := 1) hx hb dMD_note_237 (by decide) ?_
        refine lv_iadd hx hb dMD_note_238 ?_
        rw [show ((nI cn) + 1) = nI (cn + 1) from nI_1 cn]
        refine p_MD_78 X hD hP hS (by omega) (m0) rfl rfl (Nat.le_of_ble_eq_true rfl) dMD_note_239 (fun H locs hD hP hS => ?_)
        have hP : va_P D vwCl (wW 17 ad (va_up F 0 (.inr (7, [.int th, .int st, .int ic, .ref (ad 1), .ref (ad 2), .ref (ad 3), .ref (ad 4), .ref (ad 5), .ref (ad 6), .ref (ad 7), .ref (ad 8), .ref (ad 9), .int (nI (cn + 1)), .ref (ad 10), .ref (ad 11), .ref (ad 12), .ref (ad 13), .ref (ad 14), .ref (ad 15), .ref (ad 16)])))) H := hP
        have hD : va_D (Aw 17 ad) (wW 17 ad (va_up F 0 (.inr (7, [.int th, .int st, .int ic, .ref (ad 1), .ref (ad 2), .ref (ad 3), .ref (ad 4), .ref (ad 5), .ref (ad 6), .ref (ad 7), .ref (ad 8), .ref (ad 9), .int (nI (cn + 1)), .ref (ad 10), .ref (ad 11), .ref (ad 12), .ref (ad 13), .ref (ad 14), .ref (ad 15), .ref (ad 16)])))) := hD
        generalize g2 : va_up F 0 (.inr (7, [.int th, .int st, .int ic, .ref (ad 1), .ref (ad 2), .ref (ad 3), .ref (ad 4), .ref (ad 5), .ref (ad 6), .ref (ad 7), .ref (ad 8), .ref (ad 9), .int (nI (cn + 1)), .ref (ad 10), .ref (ad 11), .ref (ad 12), .ref (ad 13), .ref (ad 14), .ref (ad 15), .ref (ad 16)])) = E1 at hD hP
        have f3 : E1 0 = .inr (7, [.int th, .int st, .int ic, .ref (ad 1), .ref (ad 2), .ref (ad 3), .ref (ad 4), .ref (ad 5), .ref (ad 6), .ref (ad 7), .ref (ad 8), .ref (ad 9), .int (nI (cn + 1)), .ref (ad 10), .ref (ad 11), .ref (ad 12), .ref (ad 13), .ref (ad 14), .ref (ad 15), .ref (ad 16)]) := by rw [← g2]; exact va_up_self _ _ _
        have f4 : E1 1 = .inl (tc 0, 5, .inl (B 1)) := by rw [← g2, va_up_ne _ _ (by omega)]; exact m1
        have f5 : E1 2 = .inl (tc 0, 60, .inl (B 2)) := by rw [← g2, va_up_ne _ _ (by omega)]; exact m2
        have f6 : E1 3 = .inl (tc 0, 60, .inl (B 3)) := by rw [← g2, va_up_ne _ _ (by omega)]; exact m3
        have f7 : E1 4 = .inl (tc 0, 60, .inl (B 4)) := by rw [← g2, va_up_ne _ _ (by omega)]; exact m4
        have f8 : E1 5 = .inl (tc 0, 5, .inl (B 5)) := by rw [← g2, va_up_ne _ _ (by omega)]; exact m5
        have f9 : E1 6 = .inl (tc 0, 5, .inl (B 6)) := by rw [← g2, va_up_ne _ _ (by omega)]; exact m6
        have f10 : E1 7 = .inl (tc 0, 5, .inl (B 7)) := by rw [← g2, va_up_ne _ _ (by omega)]; exact m7
        have f11 : E1 8 = .inl (tc 0, 3, .inl (B 8)) := by rw [← g2, va_up_ne _ _ (by omega)]; exact m8
        have f12 : E1 9 = .inl (tc 0, 3, .inl (B 9)) := by rw [← g2, va_up_ne _ _ (by omega)]; exact m9
        have f13 : E1 10 = .inl (tc 0, 200, .inl (B 10)) := by rw [← g2, va_up_ne _ _ (by omega)]; exact m10
        have f14 : E1 11 = .inl (tc 0, 200, .inl (B 11)) := by rw [← g2, va_up_ne _ _ (by omega)]; exact m11
        have f15 : E1 12 = .inl (tc 0, 200, .inl (B 12)) := by rw [← g2, va_up_ne _ _ (by omega)]; exact m12
        have f16 : E1 13 = .inl (tc 2, 200, .inl (B 13)) := by rw [← g2, va_up_ne _ _ (by omega)]; exact m13
        have f17 : E1 15 = .inl (tc 0, 8, .inl (B 15)) := by rw [← g2, va_up_ne _ _ (by omega)]; exact m15
        have f18 : E1 16 = .inl (tc 0, 8, .inl (B 16)) := by rw [← g2, va_up_ne _ _ (by omega)]; exact m16
        have f19 : E1 14 = .inl (tc 1, 800, .inr (.inl J)) := by rw [← g2, va_up_ne _ _ (by omega)]; exact m14
        refine lv_iload_n hx hb dMD_note_242 rfl (lv_at hl 4 rfl) ?_
        refine lv_iconst (v := 1) hx hb dMD_note_243 (by decide) ?_
        refine lv_icmp_le (tgt := 253) hx hb dMD_note_244 rfl (fun h244 => ?_) (fun h244 => ?_)
        · refine lv_aload_n hx hb dMD_note_253 rfl (lv_at hl 2 rfl) ?_
          refine lv_iload hx hb dMD_note_254 (lv_at hl 1 rfl) ?_
          refine lv_aload_n hx hb dMD_note_256 rfl (lv_at hl 2 rfl) ?_
          refine g_MD_89 X hP (by omega) (f3) rfl dMD_note_257 ?_
          refine x_iX (f := fun k => 0 + k) (x_runV (C := R_MD) (As := [.int (nI cn), .int ic]) (rest := []) X (g_MD_spot l D tc (fun k => ad (0 + k)) (fun k => E1 (0 + k)) th st ic (cn + 1) B J cn ic (by simpa only [Nat.zero_add] using (show isMD tc ad E1 th st ic (nI (cn + 1)) B J from ⟨f3, f4, f5, f6, f7, f8, f9, f10, f11, f12, f13, f14, f15, f16, f19, f17, f18⟩)) (by omega)) rfl rfl (by decide) (by decide) w_595 w_9 w_592 w_594 sel_MD_spot ry_MD_spot (x_recv X hP (by omega) (f3) rfl) (ct_pre X hP hD (fr_lt 17 17 0 (by omega)) (fr_inj 17 0)) ct_blind hl.1 (Nat.le_of_ble_eq_true rfl) dMD_note_260 ⟨Nat.zero_le _, Nat.zero_le _⟩) hD hP hS (fr_lt 17 17 0 (by omega)) (fr_inj 17 0) (fun sp H locs hsp hD hP hS => ?_)
          obtain ⟨pp, hpp, rfl⟩ := hsp (by rw [hB12]; exact hx8 (Or.inl h244))
          refine lv_istore hx hb dMD_note_263 hl (by decide) rfl (fun ls hl => ?_)
          have hl : lv_has ls 6 [(5, .int (nI pp)), (4, .int (nI cn)), (0, .ref (ad 0)), (1, .int (nI t)), (2, .int op), (3, .int x)] := hl
          refine lv_aload_n hx hb dMD_note_265 rfl (lv_at hl 2 rfl) ?_
          refine g_MD_54 X hP (by omega) (f3) rfl dMD_note_266 ?_
          refine lv_iload hx hb dMD_note_269 (lv_at hl 0 rfl) ?_
          refine q_iald pp X hP (by omega) (f17) (rfl) (by omega) (by decide) dMD_note_271 ?_
          refine lv_if_ge (tgt := 314) hx hb dMD_note_272 rfl (fun h272 => ?_) (fun h272 => ?_)
          · exact q_vret X hlk hr hP hS dMD_note_314 ⟨rfl, B, J, ⟨f3, f4, f5, f6, f7, f8, f9, f10, f11, f12, f13, f14, f15, f16, f19, f17, f18⟩, hB, hB5⟩
          · refine lv_aload_n hx hb dMD_note_275 rfl (lv_at hl 2 rfl) ?_
            refine lv_iload hx hb dMD_note_276 (lv_at hl 1 rfl) ?_
            refine lv_aload_n hx hb dMD_note_278 rfl (lv_at hl 2 rfl) ?_
            refine g_MD_89 X hP (by omega) (f3) rfl dMD_note_279 ?_
            refine x_iX (f := fun k => 0 + k) (x_runV (C := R_MD) (As := [.int (nI cn), .int ic]) (rest := []) X (g_MD_meets l D tc (fun k => ad (0 + k)) (fun k => E1 (0 + k)) th st ic (cn + 1) B J cn ic (by simpa only [Nat.zero_add] using (show isMD tc ad E1 th st ic (nI (cn + 1)) B J from ⟨f3, f4, f5, f6, f7, f8, f9, f10, f11, f12, f13, f14, f15, f16, f19, f17, f18⟩)) (by omega)) rfl rfl (by decide) (by decide) w_599 w_9 w_596 w_598 sel_MD_meets ry_MD_meets (x_recv X hP (by omega) (f3) rfl) (ct_pre X hP hD (fr_lt 17 17 0 (by omega)) (fr_inj 17 0)) ct_blind hl.1 (Nat.le_of_ble_eq_true rfl) dMD_note_282 ⟨Nat.zero_le _, Nat.zero_le _⟩) hD hP hS (fr_lt 17 17 0 (by omega)) (fr_inj 17 0) (fun mt H locs hmt hD hP hS => ?_)
            refine lv_if_eq (tgt := 314) hx hb dMD_note_285 rfl (fun h285 => ?_) (fun h285 => ?_)
            · exact q_vret X hlk hr hP hS dMD_note_314 ⟨rfl, B, J, ⟨f3, f4, f5, f6, f7, f8, f9, f10, f11, f12, f13, f14, f15, f16, f19, f17, f18⟩, hB, hB5⟩
            · refine lv_aload_n hx hb dMD_note_288 rfl (lv_at hl 2 rfl) ?_
              refine g_MD_54 X hP (by omega) (f3) rfl dMD_note_289 ?_
              refine lv_iload hx hb dMD_note_292 (lv_at hl 0 rfl) ?_
              refine lv_iload hx hb dMD_note_294 (lv_at hl 1 rfl) ?_
              refine q_iast pp X hD hP hS (by omega) (f17) (rfl) (by omega) (by decide) dMD_note_296 (fun H locs hD hP hS => ?_)
              have hP : va_P D vwCl (wW 17 ad (va_up E1 15 (.inl (tc 0, 8, .inl (upd (B 15) pp (nI cn)))))) H := hP
              have hD : va_D (Aw 17 ad) (wW 17 ad (va_up E1 15 (.inl (tc 0, 8, .inl (upd (B 15) pp (nI cn)))))) := hD
              generalize g21 : va_up E1 15 (.inl (tc 0, 8, .inl (upd (B 15) pp (nI cn)))) = E20 at hD hP
              have f22 : E20 0 = .inr (7, [.int th, .int st, .int ic, .ref (ad 1), .ref (ad 2), .ref (ad 3), .ref (ad 4), .ref (ad 5), .ref (ad 6), .ref (ad 7), .ref (ad 8), .ref (ad 9), .int (nI (cn + 1)), .ref (ad 10), .ref (ad 11), .ref (ad 12), .ref (ad 13), .ref (ad 14), .ref (ad 15), .ref (ad 16)]) := by rw [← g21, va_up_ne _ _ (by omega)]; exact f3
              have f23 : E20 1 = .inl (tc 0, 5, .inl (B 1)) := by rw [← g21, va_up_ne _ _ (by omega)]; exact f4
              have f24 : E20 2 = .inl (tc 0, 60, .inl (B 2)) := by rw [← g21, va_up_ne _ _ (by omega)]; exact f5
              have f25 : E20 3 = .inl (tc 0, 60, .inl (B 3)) := by rw [← g21, va_up_ne _ _ (by omega)]; exact f6
              have f26 : E20 4 = .inl (tc 0, 60, .inl (B 4)) := by rw [← g21, va_up_ne _ _ (by omega)]; exact f7
              have f27 : E20 5 = .inl (tc 0, 5, .inl (B 5)) := by rw [← g21, va_up_ne _ _ (by omega)]; exact f8
              have f28 : E20 6 = .inl (tc 0, 5, .inl (B 6)) := by rw [← g21, va_up_ne _ _ (by omega)]; exact f9
              have f29 : E20 7 = .inl (tc 0, 5, .inl (B 7)) := by rw [← g21, va_up_ne _ _ (by omega)]; exact f10
              have f30 : E20 8 = .inl (tc 0, 3, .inl (B 8)) := by rw [← g21, va_up_ne _ _ (by omega)]; exact f11
              have f31 : E20 9 = .inl (tc 0, 3, .inl (B 9)) := by rw [← g21, va_up_ne _ _ (by omega)]; exact f12
              have f32 : E20 10 = .inl (tc 0, 200, .inl (B 10)) := by rw [← g21, va_up_ne _ _ (by omega)]; exact f13
              have f33 : E20 11 = .inl (tc 0, 200, .inl (B 11)) := by rw [← g21, va_up_ne _ _ (by omega)]; exact f14
              have f34 : E20 12 = .inl (tc 0, 200, .inl (B 12)) := by rw [← g21, va_up_ne _ _ (by omega)]; exact f15
              have f35 : E20 13 = .inl (tc 2, 200, .inl (B 13)) := by rw [← g21, va_up_ne _ _ (by omega)]; exact f16
              have f36 : E20 15 = .inl (tc 0, 8, .inl (upd (B 15) pp (nI cn))) := by rw [← g21]; exact va_up_self _ _ _
              have f37 : E20 16 = .inl (tc 0, 8, .inl (B 16)) := by rw [← g21, va_up_ne _ _ (by omega)]; exact f18
              have f38 : E20 14 = .inl (tc 1, 800, .inr (.inl J)) := by rw [← g21, va_up_ne _ _ (by omega)]; exact f19
              refine lv_aload_n hx hb dMD_note_297 rfl (lv_at hl 2 rfl) ?_
              refine g_MD_57 X hP (by omega) (f22) rfl dMD_note_298 ?_
              refine lv_iload hx hb dMD_note_301 (lv_at hl 0 rfl) ?_
              refine lv_aload_n hx hb dMD_note_303 rfl (lv_at hl 2 rfl) ?_
              refine lv_iload hx hb dMD_note_304 (lv_at hl 1 rfl) ?_
              refine lv_aload_n hx hb dMD_note_306 rfl (lv_at hl 2 rfl) ?_
              refine g_MD_89 X hP (by omega) (f22) rfl dMD_note_307 ?_
              refine x_iX (f := fun k => 0 + k) (x_runV (C := R_MD) (As := [.int (nI cn), .int ic]) (rest := [.int (nI pp), .ref (ad 16)]) X (g_MD_partnerOf l D tc (fun k => ad (0 + k)) (fun k => E20 (0 + k)) th st ic (cn + 1) (va_up B 15 (upd (B 15) pp (nI cn))) J cn ic (by simpa only [Nat.zero_add] using (show isMD tc ad E20 th st ic (nI (cn + 1)) (va_up B 15 (upd (B 15) pp (nI cn))) J from ⟨f22, f23, f24, f25, f26, f27, f28, f29, f30, f31, f32, f33, f34, f35, f38, f36, f37⟩)) (by omega)) rfl rfl (by decide) (by decide) w_619 w_9 w_616 w_618 sel_MD_partnerOf ry_MD_partnerOf (x_recv X hP (by omega) (f22) rfl) (ct_pre X hP hD (fr_lt 17 17 0 (by omega)) (fr_inj 17 0)) ct_blind hl.1 (Nat.le_of_ble_eq_true rfl) dMD_note_310 ⟨Nat.zero_le _, Nat.zero_le _⟩) hD hP hS (fr_lt 17 17 0 (by omega)) (fr_inj 17 0) (fun pt H locs hpt hD hP hS => ?_)
              refine q_iast pp X hD hP hS (by omega) (f37) (rfl) (by omega) (by decide) dMD_note_313 (fun H locs hD hP hS => ?_)
              have hP : va_P D vwCl (wW 17 ad (va_up E20 16 (.inl (tc 0, 8, .inl (upd (B 16) pp pt))))) H := hP
              have hD : va_D (Aw 17 ad) (wW 17 ad (va_up E20 16 (.inl (tc 0, 8, .inl (upd (B 16) pp pt))))) := hD
              generalize g40 : va_up E20 16 (.inl (tc 0, 8, .inl (upd (B 16) pp pt))) = E39 at hD hP
              have f41 : E39 0 = .inr (7, [.int th, .int st, .int ic, .ref (ad 1), .ref (ad 2), .ref (ad 3), .ref (ad 4), .ref (ad 5), .ref (ad 6), .ref (ad 7), .ref (ad 8), .ref (ad 9), .int (nI (cn + 1)), .ref (ad 10), .ref (ad 11), .ref (ad 12), .ref (ad 13), .ref (ad 14), .ref (ad 15), .ref (ad 16)]) := by rw [← g40, va_up_ne _ _ (by omega)]; exact f22
              have f42 : E39 1 = .inl (tc 0, 5, .inl (B 1)) := by rw [← g40, va_up_ne _ _ (by omega)]; exact f23
              have f43 : E39 2 = .inl (tc 0, 60, .inl (B 2)) := by rw [← g40, va_up_ne _ _ (by omega)]; exact f24
              have f44 : E39 3 = .inl (tc 0, 60, .inl (B 3)) := by rw [← g40, va_up_ne _ _ (by omega)]; exact f25
              have f45 : E39 4 = .inl (tc 0, 60, .inl (B 4)) := by rw [← g40, va_up_ne _ _ (by omega)]; exact f26
              have f46 : E39 5 = .inl (tc 0, 5, .inl (B 5)) := by rw [← g40, va_up_ne _ _ (by omega)]; exact f27
              have f47 : E39 6 = .inl (tc 0, 5, .inl (B 6)) := by rw [← g40, va_up_ne _ _ (by omega)]; exact f28
              have f48 : E39 7 = .inl (tc 0, 5, .inl (B 7)) := by rw [← g40, va_up_ne _ _ (by omega)]; exact f29
              have f49 : E39 8 = .inl (tc 0, 3, .inl (B 8)) := by rw [← g40, va_up_ne _ _ (by omega)]; exact f30
              have f50 : E39 9 = .inl (tc 0, 3, .inl (B 9)) := by rw [← g40, va_up_ne _ _ (by omega)]; exact f31
              have f51 : E39 10 = .inl (tc 0, 200, .inl (B 10)) := by rw [← g40, va_up_ne _ _ (by omega)]; exact f32
              have f52 : E39 11 = .inl (tc 0, 200, .inl (B 11)) := by rw [← g40, va_up_ne _ _ (by omega)]; exact f33
              have f53 : E39 12 = .inl (tc 0, 200, .inl (B 12)) := by rw [← g40, va_up_ne _ _ (by omega)]; exact f34
              have f54 : E39 13 = .inl (tc 2, 200, .inl (B 13)) := by rw [← g40, va_up_ne _ _ (by omega)]; exact f35
              have f55 : E39 15 = .inl (tc 0, 8, .inl (upd (B 15) pp (nI cn))) := by rw [← g40, va_up_ne _ _ (by omega)]; exact f36
              have f56 : E39 16 = .inl (tc 0, 8, .inl (upd (B 16) pp pt)) := by rw [← g40]; exact va_up_self _ _ _
              have f57 : E39 14 = .inl (tc 1, 800, .inr (.inl J)) := by rw [← g40, va_up_ne _ _ (by omega)]; exact f38
              exact q_vret X hlk hr hP hS dMD_note_314 ⟨rfl, (va_up (va_up B 15 (upd (B 15) pp (nI cn))) 16 (upd (B 16) pp pt)), J, ⟨f41, f42, f43, f44, f45, f46, f47, f48, f49, f50, f51, f52, f53, f54, f57, f55, f56⟩, fun k hk => by rw [va_up_ne _ _ (by omega), va_up_ne _ _ (by omega)]; exact hB k hk, fun u => by rw [va_up_ne _ _ (by decide), va_up_ne _ _ (by decide)]; exact hB5 u⟩
        · refine lv_iload_n hx hb dMD_note_247 rfl (lv_at hl 4 rfl) ?_
          refine lv_bipush (v := 8) hx hb dMD_note_248 (by decide) ?_
          refine lv_icmp_lt (tgt := 314) hx hb dMD_note_250 rfl (fun h250 => ?_) (fun h250 => ?_)
          · exact q_vret X hlk hr hP hS dMD_note_314 ⟨rfl, B, J, ⟨f3, f4, f5, f6, f7, f8, f9, f10, f11, f12, f13, f14, f15, f16, f19, f17, f18⟩, hB, hB5⟩
          · refine lv_aload_n hx hb dMD_note_253 rfl (lv_at hl 2 rfl) ?_
            refine lv_iload hx hb dMD_note_254 (lv_at hl 1 rfl) ?_
            refine lv_aload_n hx hb dMD_note_256 rfl (lv_at hl 2 rfl) ?_
            refine g_MD_89 X hP (by omega) (f3) rfl dMD_note_257 ?_
            refine x_iX (f := fun k => 0 + k) (x_runV (C := R_MD) (As := [.int (nI cn), .int ic]) (rest := []) X (g_MD_spot l D tc (fun k => ad (0 + k)) (fun k => E1 (0 + k)) th st ic (cn + 1) B J cn ic (by simpa only [Nat.zero_add] using (show isMD tc ad E1 th st ic (nI (cn + 1)) B J from ⟨f3, f4, f5, f6, f7, f8, f9, f10, f11, f12, f13, f14, f15, f16, f19, f17, f18⟩)) (by omega)) rfl rfl (by decide) (by decide) w_595 w_9 w_592 w_594 sel_MD_spot ry_MD_spot (x_recv X hP (by omega) (f3) rfl) (ct_pre X hP hD (fr_lt 17 17 0 (by omega)) (fr_inj 17 0)) ct_blind hl.1 (Nat.le_of_ble_eq_true rfl) dMD_note_260 ⟨Nat.zero_le _, Nat.zero_le _⟩) hD hP hS (fr_lt 17 17 0 (by omega)) (fr_inj 17 0) (fun sp H locs hsp hD hP hS => ?_)
            obtain ⟨pp, hpp, rfl⟩ := hsp (by rw [hB12]; exact hx8 (Or.inr h250))
            refine lv_istore hx hb dMD_note_263 hl (by decide) rfl (fun ls hl => ?_)
            have hl : lv_has ls 6 [(5, .int (nI pp)), (4, .int (nI cn)), (0, .ref (ad 0)), (1, .int (nI t)), (2, .int op), (3, .int x)] := hl
            refine lv_aload_n hx hb dMD_note_265 rfl (lv_at hl 2 rfl) ?_
            refine g_MD_54 X hP (by omega) (f3) rfl dMD_note_266 ?_
            refine lv_iload hx hb dMD_note_269 (lv_at hl 0 rfl) ?_
            refine q_iald pp X hP (by omega) (f17) (rfl) (by omega) (by decide) dMD_note_271 ?_
            refine lv_if_ge (tgt := 314) hx hb dMD_note_272 rfl (fun h272 => ?_) (fun h272 => ?_)
            · exact q_vret X hlk hr hP hS dMD_note_314 ⟨rfl, B, J, ⟨f3, f4, f5, f6, f7, f8, f9, f10, f11, f12, f13, f14, f15, f16, f19, f17, f18⟩, hB, hB5⟩
            · refine lv_aload_n hx hb dMD_note_275 rfl (lv_at hl 2 rfl) ?_
              refine lv_iload hx hb dMD_note_276 (lv_at hl 1 rfl) ?_
              refine lv_aload_n hx hb dMD_note_278 rfl (lv_at hl 2 rfl) ?_
              refine g_MD_89 X hP (by omega) (f3) rfl dMD_note_279 ?_
              refine x_iX (f := fun k => 0 + k) (x_runV (C := R_MD) (As := [.int (nI cn), .int ic]) (rest := []) X (g_MD_meets l D tc (fun k => ad (0 + k)) (fun k => E1 (0 + k)) th st ic (cn + 1) B J cn ic (by simpa only [Nat.zero_add] using (show isMD tc ad E1 th st ic (nI (cn + 1)) B J from ⟨f3, f4, f5, f6, f7, f8, f9, f10, f11, f12, f13, f14, f15, f16, f19, f17, f18⟩)) (by omega)) rfl rfl (by decide) (by decide) w_599 w_9 w_596 w_598 sel_MD_meets ry_MD_meets (x_recv X hP (by omega) (f3) rfl) (ct_pre X hP hD (fr_lt 17 17 0 (by omega)) (fr_inj 17 0)) ct_blind hl.1 (Nat.le_of_ble_eq_true rfl) dMD_note_282 ⟨Nat.zero_le _, Nat.zero_le _⟩) hD hP hS (fr_lt 17 17 0 (by omega)) (fr_inj 17 0) (fun mt H locs hmt hD hP hS => ?_)
              refine lv_if_eq (tgt := 314) hx hb dMD_note_285 rfl (fun h285 => ?_) (fun h285 => ?_)
              · exact q_vret X hlk hr hP hS dMD_note_314 ⟨rfl, B, J, ⟨f3, f4, f5, f6, f7, f8, f9, f10, f11, f12, f13, f14, f15, f16, f19, f17, f18⟩, hB, hB5⟩
              · refine lv_aload_n hx hb dMD_note_288 rfl (lv_at hl 2 rfl) ?_
                refine g_MD_54 X hP (by omega) (f3) rfl dMD_note_289 ?_
                refine lv_iload hx hb dMD_note_292 (lv_at hl 0 rfl) ?_
                refine lv_iload hx hb dMD_note_294 (lv_at hl 1 rfl) ?_
                refine q_iast pp X hD hP hS (by omega) (f17) (rfl) (by omega) (by decide) dMD_note_296 (fun H locs hD hP hS => ?_)
                have hP : va_P D vwCl (wW 17 ad (va_up E1 15 (.inl (tc 0, 8, .inl (upd (B 15) pp (nI cn)))))) H := hP
                have hD : va_D (Aw 17 ad) (wW 17 ad (va_up E1 15 (.inl (tc 0, 8, .inl (upd (B 15) pp (nI cn)))))) := hD
                generalize g59 : va_up E1 15 (.inl (tc 0, 8, .inl (upd (B 15) pp (nI cn)))) = E58 at hD hP
                have f60 : E58 0 = .inr (7, [.int th, .int st, .int ic, .ref (ad 1), .ref (ad 2), .ref (ad 3), .ref (ad 4), .ref (ad 5), .ref (ad 6), .ref (ad 7), .ref (ad 8), .ref (ad 9), .int (nI (cn + 1)), .ref (ad 10), .ref (ad 11), .ref (ad 12), .ref (ad 13), .ref (ad 14), .ref (ad 15), .ref (ad 16)]) := by rw [← g59, va_up_ne _ _ (by omega)]; exact f3
                have f61 : E58 1 = .inl (tc 0, 5, .inl (B 1)) := by rw [← g59, va_up_ne _ _ (by omega)]; exact f4
                have f62 : E58 2 = .inl (tc 0, 60, .inl (B 2)) := by rw [← g59, va_up_ne _ _ (by omega)]; exact f5
                have f63 : E58 3 = .inl (tc 0, 60, .inl (B 3)) := by rw [← g59, va_up_ne _ _ (by omega)]; exact f6
                have f64 : E58 4 = .inl (tc 0, 60, .inl (B 4)) := by rw [← g59, va_up_ne _ _ (by omega)]; exact f7
                have f65 : E58 5 = .inl (tc 0, 5, .inl (B 5)) := by rw [← g59, va_up_ne _ _ (by omega)]; exact f8
                have f66 : E58 6 = .inl (tc 0, 5, .inl (B 6)) := by rw [← g59, va_up_ne _ _ (by omega)]; exact f9
                have f67 : E58 7 = .inl (tc 0, 5, .inl (B 7)) := by rw [← g59, va_up_ne _ _ (by omega)]; exact f10
                have f68 : E58 8 = .inl (tc 0, 3, .inl (B 8)) := by rw [← g59, va_up_ne _ _ (by omega)]; exact f11
                have f69 : E58 9 = .inl (tc 0, 3, .inl (B 9)) := by rw [← g59, va_up_ne _ _ (by omega)]; exact f12
                have f70 : E58 10 = .inl (tc 0, 200, .inl (B 10)) := by rw [← g59, va_up_ne _ _ (by omega)]; exact f13
                have f71 : E58 11 = .inl (tc 0, 200, .inl (B 11)) := by rw [← g59, va_up_ne _ _ (by omega)]; exact f14
                have f72 : E58 12 = .inl (tc 0, 200, .inl (B 12)) := by rw [← g59, va_up_ne _ _ (by omega)]; exact f15
                have f73 : E58 13 = .inl (tc 2, 200, .inl (B 13)) := by rw [← g59, va_up_ne _ _ (by omega)]; exact f16
                have f74 : E58 15 = .inl (tc 0, 8, .inl (upd (B 15) pp (nI cn))) := by rw [← g59]; exact va_up_self _ _ _
                have f75 : E58 16 = .inl (tc 0, 8, .inl (B 16)) := by rw [← g59, va_up_ne _ _ (by omega)]; exact f18
                have f76 : E58 14 = .inl (tc 1, 800, .inr (.inl J)) := by rw [← g59, va_up_ne _ _ (by omega)]; exact f19
                refine lv_aload_n hx hb dMD_note_297 rfl (lv_at hl 2 rfl) ?_
                refine g_MD_57 X hP (by omega) (f60) rfl dMD_note_298 ?_
                refine lv_iload hx hb dMD_note_301 (lv_at hl 0 rfl) ?_
                refine lv_aload_n hx hb dMD_note_303 rfl (lv_at hl 2 rfl) ?_
                refine lv_iload hx hb dMD_note_304 (lv_at hl 1 rfl) ?_
                refine lv_aload_n hx hb dMD_note_306 rfl (lv_at hl 2 rfl) ?_
                refine g_MD_89 X hP (by omega) (f60) rfl dMD_note_307 ?_
                refine x_iX (f := fun k => 0 + k) (x_runV (C := R_MD) (As := [.int (nI cn), .int ic]) (rest := [.int (nI pp), .ref (ad 16)]) X (g_MD_partnerOf l D tc (fun k => ad (0 + k)) (fun k => E58 (0 + k)) th st ic (cn + 1) (va_up B 15 (upd (B 15) pp (nI cn))) J cn ic (by simpa only [Nat.zero_add] using (show isMD tc ad E58 th st ic (nI (cn + 1)) (va_up B 15 (upd (B 15) pp (nI cn))) J from ⟨f60, f61, f62, f63, f64, f65, f66, f67, f68, f69, f70, f71, f72, f73, f76, f74, f75⟩)) (by omega)) rfl rfl (by decide) (by decide) w_619 w_9 w_616 w_618 sel_MD_partnerOf ry_MD_partnerOf (x_recv X hP (by omega) (f60) rfl) (ct_pre X hP hD (fr_lt 17 17 0 (by omega)) (fr_inj 17 0)) ct_blind hl.1 (Nat.le_of_ble_eq_true rfl) dMD_note_310 ⟨Nat.zero_le _, Nat.zero_le _⟩) hD hP hS (fr_lt 17 17 0 (by omega)) (fr_inj 17 0) (fun pt H locs hpt hD hP hS => ?_)
                refine q_iast pp X hD hP hS (by omega) (f75) (rfl) (by omega) (by decide) dMD_note_313 (fun H locs hD hP hS => ?_)
                have hP : va_P D vwCl (wW 17 ad (va_up E58 16 (.inl (tc 0, 8, .inl (upd (B 16) pp pt))))) H := hP
                have hD : va_D (Aw 17 ad) (wW 17 ad (va_up E58 16 (.inl (tc 0, 8, .inl (upd (B 16) pp pt))))) := hD
                generalize g78 : va_up E58 16 (.inl (tc 0, 8, .inl (upd (B 16) pp pt))) = E77 at hD hP
                have f79 : E77 0 = .inr (7, [.int th, .int st, .int ic, .ref (ad 1), .ref (ad 2), .ref (ad 3), .ref (ad 4), .ref (ad 5), .ref (ad 6), .ref (ad 7), .ref (ad 8), .ref (ad 9), .int (nI (cn + 1)), .ref (ad 10), .ref (ad 11), .ref (ad 12), .ref (ad 13), .ref (ad 14), .ref (ad 15), .ref (ad 16)]) := by rw [← g78, va_up_ne _ _ (by omega)]; exact f60
                have f80 : E77 1 = .inl (tc 0, 5, .inl (B 1)) := by rw [← g78, va_up_ne _ _ (by omega)]; exact f61
                have f81 : E77 2 = .inl (tc 0, 60, .inl (B 2)) := by rw [← g78, va_up_ne _ _ (by omega)]; exact f62
                have f82 : E77 3 = .inl (tc 0, 60, .inl (B 3)) := by rw [← g78, va_up_ne _ _ (by omega)]; exact f63
                have f83 : E77 4 = .inl (tc 0, 60, .inl (B 4)) := by rw [← g78, va_up_ne _ _ (by omega)]; exact f64
                have f84 : E77 5 = .inl (tc 0, 5, .inl (B 5)) := by rw [← g78, va_up_ne _ _ (by omega)]; exact f65
                have f85 : E77 6 = .inl (tc 0, 5, .inl (B 6)) := by rw [← g78, va_up_ne _ _ (by omega)]; exact f66
                have f86 : E77 7 = .inl (tc 0, 5, .inl (B 7)) := by rw [← g78, va_up_ne _ _ (by omega)]; exact f67
                have f87 : E77 8 = .inl (tc 0, 3, .inl (B 8)) := by rw [← g78, va_up_ne _ _ (by omega)]; exact f68
                have f88 : E77 9 = .inl (tc 0, 3, .inl (B 9)) := by rw [← g78, va_up_ne _ _ (by omega)]; exact f69
                have f89 : E77 10 = .inl (tc 0, 200, .inl (B 10)) := by rw [← g78, va_up_ne _ _ (by omega)]; exact f70
                have f90 : E77 11 = .inl (tc 0, 200, .inl (B 11)) := by rw [← g78, va_up_ne _ _ (by omega)]; exact f71
                have f91 : E77 12 = .inl (tc 0, 200, .inl (B 12)) := by rw [← g78, va_up_ne _ _ (by omega)]; exact f72
                have f92 : E77 13 = .inl (tc 2, 200, .inl (B 13)) := by rw [← g78, va_up_ne _ _ (by omega)]; exact f73
                have f93 : E77 15 = .inl (tc 0, 8, .inl (upd (B 15) pp (nI cn))) := by rw [← g78, va_up_ne _ _ (by omega)]; exact f74
                have f94 : E77 16 = .inl (tc 0, 8, .inl (upd (B 16) pp pt)) := by rw [← g78]; exact va_up_self _ _ _
                have f95 : E77 14 = .inl (tc 1, 800, .inr (.inl J)) := by rw [← g78, va_up_ne _ _ (by omega)]; exact f76
                exact q_vret X hlk hr hP hS dMD_note_314 ⟨rfl, (va_up (va_up B 15 (upd (B 15) pp (nI cn))) 16 (upd (B 16) pp pt)), J, ⟨f79, f80, f81, f82, f83, f84, f85, f86, f87, f88, f89, f90, f91, f92, f95, f93, f94⟩, fun k hk => by rw [va_up_ne _ _ (by omega), va_up_ne _ _ (by omega)]; exact hB k hk, fun u => by rw [va_up_ne _ _ (by decide), va_up_ne _ _ (by decide)]; exact hB5 u⟩
      | succ r ih =>
        intro i J H locs ls F hi hM hD hP hS hl
        have hM9 := hM
        obtain ⟨m0, m1, m2, m3, m4, m5, m6, m7, m8, m9, m10, m11, m12, m13, m14, m15, m16⟩ := hM
        refine lv_iload hx hb dMD_note_200 (lv_at hl 0 rfl) ?_
        refine lv_iload hx hb dMD_note_202 (lv_at hl 1 rfl) ?_
        refine lv_icmp_ge (tgt := 232) hx hb dMD_note_204 rfl (fun h204 => absurd h204 (nI_ge (by omega) (by omega))) (fun h204 => ?_)
        refine lv_aload_n hx hb dMD_note_207 rfl (lv_at hl 2 rfl) ?_
        refine lv_iload hx hb dMD_note_208 (lv_at hl 0 rfl) ?_
        refine lv_iload hx hb dMD_note_210 (lv_at hl 1 rfl) ?_
        refine x_iX (f := fun k => 0 + k) (x_runV (C := R_MD) (As := [.int (nI i), .int (nI cn)]) (rest := []) X (g_MD_leads l D tc (fun k => ad (0 + k)) (fun k => F (0 + k)) th st ic cn B J i cn (by simpa only [Nat.zero_add] using hM9) (by omega) (by omega)) rfl rfl (by decide) (by decide) w_587 w_9 w_584 w_586 sel_MD_leads ry_MD_leads (x_recv X hP (by omega) (m0) rfl) (ct_pre X hP hD (fr_lt 17 17 0 (by omega)) (fr_inj 17 0)) ct_blind hl.1 (Nat.le_of_ble_eq_true rfl) dMD_note_212 ⟨Nat.zero_le _, Nat.zero_le _⟩) hD hP hS (fr_lt 17 17 0 (by omega)) (fr_inj 17 0) (fun y H locs hy hD hP hS => ?_)
        refine lv_if_eq (tgt := 226) hx hb dMD_note_215 rfl (fun h215 => ?_) (fun h215 => ?_)
        · refine lv_iinc (k := 0) (v := nI (i + 1)) hx hb dMD_note_226 hl rfl (nI_1 i) (by decide) rfl (fun ls hl => ?_)
          have hl : lv_has ls 6 [(5, .int (nI (i + 1))), (4, .int (nI cn)), (0, .ref (ad 0)), (1, .int (nI t)), (2, .int op), (3, .int x)] := hl
          refine lv_goto (tgt := 200) hx hb dMD_note_229 rfl ?_
          exact ih (i + 1) J _ _ _ _ (by omega) hM9 hD hP hS hl
        · refine lv_aload_n hx hb dMD_note_218 rfl (lv_at hl 2 rfl) ?_
          refine lv_iload hx hb dMD_note_219 (lv_at hl 0 rfl) ?_
          refine lv_iload hx hb dMD_note_221 (lv_at hl 1 rfl) ?_
          refine x_v (f := fun k => 0 + k) (x_runV (C := R_MD) (As := [.int (nI i), .int (nI cn)]) (rest := []) X (g_MD_join l D tc (fun k => ad (0 + k)) (fun k => F (0 + k)) th st ic cn B J i cn (by simpa only [Nat.zero_add] using hM9) (by omega) (by omega)) rfl rfl (by decide) (by decide) w_591 w_9 w_588 w_590 sel_MD_join ry_MD_join (x_recv X hP (by omega) (m0) rfl) (ct_pre X hP hD (fr_lt 17 17 0 (by omega)) (fr_inj 17 0)) ct_blind hl.1 (Nat.le_of_ble_eq_true rfl) dMD_note_223 ⟨Nat.zero_le _, Nat.zero_le _⟩) hD hP hS (fr_lt 17 17 0 (by omega)) (fr_inj 17 0) (fun o E1 h => h.1) (fun E96 H locs q99 hD hP hS => ?_)
          obtain ⟨-, q99J, q99m⟩ := q99
          generalize g97 : wU 17 (fun k => 0 + k) F E96 = E98 at hD hP
          refine lv_iinc (k := 0) (v := nI (i + 1)) hx hb dMD_note_226 hl rfl (nI_1 i) (by decide) rfl (fun ls hl => ?_)
          have hl : lv_has ls 6 [(5, .int (nI (i + 1))), (4, .int (nI cn)), (0, .ref (ad 0)), (1, .int (nI t)), (2, .int op), (3, .int x)] := hl
          refine lv_goto (tgt := 200) hx hb dMD_note_229 rfl ?_
          exact ih (i + 1) q99J _ _ _ _ (by omega) (by rw [← g97]; exact isMD.back q99m) hD hP hS hl
    have loop1 : ∀ (r i : Nat) (J : Nat → Int64) (H : Heap) (locs : List Loc) (ls : Array Slot) (F : Nat → va_E), i + r = 4 → isMD tc ad F th st ic (nI cn) B J → va_D (Aw 17 ad) (wW 17 ad F) → va_P D vwCl (wW 17 ad F) H → va_S (Aw 17 ad) s.heap H locs → lv_has ls 6 [(5, .int (nI i)), (4, .int (nI cn)), (0, .ref (ad 0)), (1, .int (nI t)), (2, .int op), (3, .int x)] → W p l e (rmD 3) s m args below meth c H locs 0 0 (XQ below (CtQ D 17 ad (fun o E2 => o = .returned none ∧ ∃ (B : Nat → Nat → Int32) (J2 : Nat → Int64), isMD tc ad E2 th st ic (nI (cn + 1)) B J2 ∧ (∀ k, (k < 5 ∨ k = 6) → B k = A k) ∧ (∀ u, B 5 u = A 5 u ∨ (op = 6 ∧ x = nI u ∧ (B 5 u = 1 → 0 < A 1 u) ∧ ¬ B 5 u = 0)))) args s 0 0 (Aw 17 ad)) (F0 m 172 ls []) := by
      intro r
      induction r with
      | zero =>
        intro i J H locs ls F hi hM hD hP hS hl
        have hM9 := hM
        obtain ⟨m0, m1, m2, m3, m4, m5, m6, m7, m8, m9, m10, m11, m12, m13, m14, m15, m16⟩ := hM
        refine lv_iload hx hb dMD_note_172 (lv_at hl 0 rfl) ?_
        refine lv_iconst (v := 4) hx hb dMD_note_174 (by decide) ?_
        refine lv_icmp_ge (tgt := 197) hx hb dMD_note_175 rfl (fun h175 => ?_) (fun h175 => absurd (nI_le (a := 4) (b := i) (by omega) (by omega)) h175)
        refine lv_iconst (v := 0) hx hb dMD_note_197 (by decide) ?_
        refine lv_istore hx hb dMD_note_198 hl (by decide) rfl (fun ls hl => ?_)
        have hl : lv_has ls 6 [(5, .int 0), (4, .int (nI cn)), (0, .ref (ad 0)), (1, .int (nI t)), (2, .int op), (3, .int x)] := hl
        exact loop2 cn 0 J _ _ _ _ (by omega) hM9 hD hP hS hl
      | succ r ih =>
        intro i J H locs ls F hi hM hD hP hS hl
        have hM9 := hM
        obtain ⟨m0, m1, m2, m3, m4, m5, m6, m7, m8, m9, m10, m11, m12, m13, m14, m15, m16⟩ := hM
        refine lv_iload hx hb dMD_note_172 (lv_at hl 0 rfl) ?_
        refine lv_iconst (v := 4) hx hb dMD_note_174 (by decide) ?_
        refine lv_icmp_ge (tgt := 197) hx hb dMD_note_175 rfl (fun h175 => absurd h175 (nI_ge (a := i) (b := 4) (by omega) (by omega))) (fun h175 => ?_)
        refine lv_aload_n hx hb dMD_note_178 rfl (lv_at hl 2 rfl) ?_
        refine g_MD_50 X hP (by omega) (m0) rfl dMD_note_179 ?_
        refine lv_iconst (v := 4) hx hb dMD_note_182 (by decide) ?_
        refine lv_iload hx hb dMD_note_183 (lv_at hl 1 rfl) ?_
        refine lv_imul hx hb dMD_note_185 ?_
        rw [show (4 * (nI cn)) = nI (4 * cn) from mul4 cn]
        refine lv_iload hx hb dMD_note_186 (lv_at hl 0 rfl) ?_
        refine lv_iadd hx hb dMD_note_188 ?_
        rw [show ((nI (4 * cn)) + (nI i)) = nI (4 * cn + i) from nI_add _ _]
        refine lv_lconst (v := 0) hx hb dMD_note_189 (by decide) ?_
        refine q_last (4 * cn + i) X hD hP hS (by omega) (m14) (rfl) (by omega) (by decide) dMD_note_190 (fun H locs hD hP hS => ?_)
        have hP : va_P D vwCl (wW 17 ad (va_up F 14 (.inl (tc 1, 800, .inr (.inl (vp_updL J (4 * cn + i) 0)))))) H := hP
        have hD : va_D (Aw 17 ad) (wW 17 ad (va_up F 14 (.inl (tc 1, 800, .inr (.inl (vp_updL J (4 * cn + i) 0)))))) := hD
        generalize g101 : va_up F 14 (.inl (tc 1, 800, .inr (.inl (vp_updL J (4 * cn + i) 0)))) = E100 at hD hP
        have f102 : E100 0 = .inr (7, [.int th, .int st, .int ic, .ref (ad 1), .ref (ad 2), .ref (ad 3), .ref (ad 4), .ref (ad 5), .ref (ad 6), .ref (ad 7), .ref (ad 8), .ref (ad 9), .int (nI cn), .ref (ad 10), .ref (ad 11), .ref (ad 12), .ref (ad 13), .ref (ad 14), .ref (ad 15), .ref (ad 16)]) := by rw [← g101, va_up_ne _ _ (by omega)]; exact m0
        have f103 : E100 1 = .inl (tc 0, 5, .inl (B 1)) := by rw [← g101, va_up_ne _ _ (by omega)]; exact m1
        have f104 : E100 2 = .inl (tc 0, 60, .inl (B 2)) := by rw [← g101, va_up_ne _ _ (by omega)]; exact m2
        have f105 : E100 3 = .inl (tc 0, 60, .inl (B 3)) := by rw [← g101, va_up_ne _ _ (by omega)]; exact m3
        have f106 : E100 4 = .inl (tc 0, 60, .inl (B 4)) := by rw [← g101, va_up_ne _ _ (by omega)]; exact m4
        have f107 : E100 5 = .inl (tc 0, 5, .inl (B 5)) := by rw [← g101, va_up_ne _ _ (by omega)]; exact m5
        have f108 : E100 6 = .inl (tc 0, 5, .inl (B 6)) := by rw [← g101, va_up_ne _ _ (by omega)]; exact m6
        have f109 : E100 7 = .inl (tc 0, 5, .inl (B 7)) := by rw [← g101, va_up_ne _ _ (by omega)]; exact m7
        have f110 : E100 8 = .inl (tc 0, 3, .inl (B 8)) := by rw [← g101, va_up_ne _ _ (by omega)]; exact m8
        have f111 : E100 9 = .inl (tc 0, 3, .inl (B 9)) := by rw [← g101, va_up_ne _ _ (by omega)]; exact m9
        have f112 : E100 10 = .inl (tc 0, 200, .inl (B 10)) := by rw [← g101, va_up_ne _ _ (by omega)]; exact m10
        have f113 : E100 11 = .inl (tc 0, 200, .inl (B 11)) := by rw [← g101, va_up_ne _ _ (by omega)]; exact m11
        have f114 : E100 12 = .inl (tc 0, 200, .inl (B 12)) := by rw [← g101, va_up_ne _ _ (by omega)]; exact m12
        have f115 : E100 13 = .inl (tc 2, 200, .inl (B 13)) := by rw [← g101, va_up_ne _ _ (by omega)]; exact m13
        have f116 : E100 15 = .inl (tc 0, 8, .inl (B 15)) := by rw [← g101, va_up_ne _ _ (by omega)]; exact m15
        have f117 : E100 16 = .inl (tc 0, 8, .inl (B 16)) := by rw [← g101, va_up_ne _ _ (by omega)]; exact m16
        have f118 : E100 14 = .inl (tc 1, 800, .inr (.inl (vp_updL J (4 * cn + i) 0))) := by rw [← g101]; exact va_up_self _ _ _
        refine lv_iinc (k := 0) (v := nI (i + 1)) hx hb dMD_note_191 hl rfl (nI_1 i) (by decide) rfl (fun ls hl => ?_)
        have hl : lv_has ls 6 [(5, .int (nI (i + 1))), (4, .int (nI cn)), (0, .ref (ad 0)), (1, .int (nI t)), (2, .int op), (3, .int x)] := hl
        refine lv_goto (tgt := 172) hx hb dMD_note_194 rfl ?_
        exact ih (i + 1) _ _ _ _ _ (by omega) ⟨f102, f103, f104, f105, f106, f107, f108, f109, f110, f111, f112, f113, f114, f115, f118, f116, f117⟩ hD hP hS hl
    refine lv_iconst (v := 0) hx hb dMD_note_169 (by decide) ?_
    refine lv_istore hx hb dMD_note_170 hl (by decide) rfl (fun ls hl => ?_)
    have hl : lv_has ls 6 [(5, .int 0), (4, .int (nI cn)), (0, .ref (ad 0)), (1, .int (nI t)), (2, .int op), (3, .int x)] := hl
    exact loop1 4 0 J _ _ _ _ (by omega) hM hD hP hS hl
  refine lv_aload_n hx hb dMD_note_0 rfl (lv_at hl 0 rfl) ?_
  refine g_MD_78 X hP (by omega) (m0) rfl dMD_note_1 ?_
  refine lv_istore hx hb dMD_note_4 hl (by decide) rfl (fun ls hl => ?_)
  have hl : lv_has ls 6 [(4, .int (nI cn)), (0, .ref (ad 0)), (1, .int (nI t)), (2, .int op), (3, .int x)] := hl
  refine lv_aload_n hx hb dMD_note_6 rfl (lv_at hl 1 rfl) ?_
  refine g_MD_37 X hP (by omega) (m0) rfl dMD_note_7 ?_
  refine lv_iload hx hb dMD_note_10 (lv_at hl 0 rfl) ?_
  refine lv_iload_n hx hb dMD_note_12 rfl (lv_at hl 2 rfl) ?_
  refine q_iast cn X hD hP hS (by omega) (m10) (rfl) (by omega) (by decide) dMD_note_13 (fun H locs hD hP hS => ?_)
  have hP : va_P D vwCl (wW 17 ad (va_up E 10 (.inl (tc 0, 200, .inl (upd (A 10) cn (nI t)))))) H := hP
  have hD : va_D (Aw 17 ad) (wW 17 ad (va_up E 10 (.inl (tc 0, 200, .inl (upd (A 10) cn (nI t)))))) := hD
  generalize g120 : va_up E 10 (.inl (tc 0, 200, .inl (upd (A 10) cn (nI t)))) = E119 at hD hP
  have f121 : E119 0 = .inr (7, [.int th, .int st, .int ic, .ref (ad 1), .ref (ad 2), .ref (ad 3), .ref (ad 4), .ref (ad 5), .ref (ad 6), .ref (ad 7), .ref (ad 8), .ref (ad 9), .int (nI cn), .ref (ad 10), .ref (ad 11), .ref (ad 12), .ref (ad 13), .ref (ad 14), .ref (ad 15), .ref (ad 16)]) := by rw [← g120, va_up_ne _ _ (by omega)]; exact m0
  have f122 : E119 1 = .inl (tc 0, 5, .inl (A 1)) := by rw [← g120, va_up_ne _ _ (by omega)]; exact m1
  have f123 : E119 2 = .inl (tc 0, 60, .inl (A 2)) := by rw [← g120, va_up_ne _ _ (by omega)]; exact m2
  have f124 : E119 3 = .inl (tc 0, 60, .inl (A 3)) := by rw [← g120, va_up_ne _ _ (by omega)]; exact m3
  have f125 : E119 4 = .inl (tc 0, 60, .inl (A 4)) := by rw [← g120, va_up_ne _ _ (by omega)]; exact m4
  have f126 : E119 5 = .inl (tc 0, 5, .inl (A 5)) := by rw [← g120, va_up_ne _ _ (by omega)]; exact m5
  have f127 : E119 6 = .inl (tc 0, 5, .inl (A 6)) := by rw [← g120, va_up_ne _ _ (by omega)]; exact m6
  have f128 : E119 7 = .inl (tc 0, 5, .inl (A 7)) := by rw [← g120, va_up_ne _ _ (by omega)]; exact m7
  have f129 : E119 8 = .inl (tc 0, 3, .inl (A 8)) := by rw [← g120, va_up_ne _ _ (by omega)]; exact m8
  have f130 : E119 9 = .inl (tc 0, 3, .inl (A 9)) := by rw [← g120, va_up_ne _ _ (by omega)]; exact m9
  have f131 : E119 10 = .inl (tc 0, 200, .inl (upd (A 10) cn (nI t))) := by rw [← g120]; exact va_up_self _ _ _
  have f132 : E119 11 = .inl (tc 0, 200, .inl (A 11)) := by rw [← g120, va_up_ne _ _ (by omega)]; exact m11
  have f133 : E119 12 = .inl (tc 0, 200, .inl (A 12)) := by rw [← g120, va_up_ne _ _ (by omega)]; exact m12
  have f134 : E119 13 = .inl (tc 2, 200, .inl (A 13)) := by rw [← g120, va_up_ne _ _ (by omega)]; exact m13
  have f135 : E119 15 = .inl (tc 0, 8, .inl (A 15)) := by rw [← g120, va_up_ne _ _ (by omega)]; exact m15
  have f136 : E119 16 = .inl (tc 0, 8, .inl (A 16)) := by rw [← g120, va_up_ne _ _ (by omega)]; exact m16
  have f137 : E119 14 = .inl (tc 1, 800, .inr (.inl J)) := by rw [← g120, va_up_ne _ _ (by omega)]; exact m14
  refine lv_aload_n hx hb dMD_note_14 rfl (lv_at hl 1 rfl) ?_
  refine g_MD_40 X hP (by omega) (f121) rfl dMD_note_15 ?_
  refine lv_iload hx hb dMD_note_18 (lv_at hl 0 rfl) ?_
  refine lv_iload_n hx hb dMD_note_20 rfl (lv_at hl 3 rfl) ?_
  refine q_iast cn X hD hP hS (by omega) (f132) (rfl) (by omega) (by decide) dMD_note_21 (fun H locs hD hP hS => ?_)
  have hP : va_P D vwCl (wW 17 ad (va_up E119 11 (.inl (tc 0, 200, .inl (upd (A 11) cn op))))) H := hP
  have hD : va_D (Aw 17 ad) (wW 17 ad (va_up E119 11 (.inl (tc 0, 200, .inl (upd (A 11) cn op))))) := hD
  generalize g139 : va_up E119 11 (.inl (tc 0, 200, .inl (upd (A 11) cn op))) = E138 at hD hP
  have f140 : E138 0 = .inr (7, [.int th, .int st, .int ic, .ref (ad 1), .ref (ad 2), .ref (ad 3), .ref (ad 4), .ref (ad 5), .ref (ad 6), .ref (ad 7), .ref (ad 8), .ref (ad 9), .int (nI cn), .ref (ad 10), .ref (ad 11), .ref (ad 12), .ref (ad 13), .ref (ad 14), .ref (ad 15), .ref (ad 16)]) := by rw [← g139, va_up_ne _ _ (by omega)]; exact f121
  have f141 : E138 1 = .inl (tc 0, 5, .inl (A 1)) := by rw [← g139, va_up_ne _ _ (by omega)]; exact f122
  have f142 : E138 2 = .inl (tc 0, 60, .inl (A 2)) := by rw [← g139, va_up_ne _ _ (by omega)]; exact f123
  have f143 : E138 3 = .inl (tc 0, 60, .inl (A 3)) := by rw [← g139, va_up_ne _ _ (by omega)]; exact f124
  have f144 : E138 4 = .inl (tc 0, 60, .inl (A 4)) := by rw [← g139, va_up_ne _ _ (by omega)]; exact f125
  have f145 : E138 5 = .inl (tc 0, 5, .inl (A 5)) := by rw [← g139, va_up_ne _ _ (by omega)]; exact f126
  have f146 : E138 6 = .inl (tc 0, 5, .inl (A 6)) := by rw [← g139, va_up_ne _ _ (by omega)]; exact f127
  have f147 : E138 7 = .inl (tc 0, 5, .inl (A 7)) := by rw [← g139, va_up_ne _ _ (by omega)]; exact f128
  have f148 : E138 8 = .inl (tc 0, 3, .inl (A 8)) := by rw [← g139, va_up_ne _ _ (by omega)]; exact f129
  have f149 : E138 9 = .inl (tc 0, 3, .inl (A 9)) := by rw [← g139, va_up_ne _ _ (by omega)]; exact f130
  have f150 : E138 10 = .inl (tc 0, 200, .inl (upd (A 10) cn (nI t))) := by rw [← g139, va_up_ne _ _ (by omega)]; exact f131
  have f151 : E138 11 = .inl (tc 0, 200, .inl (upd (A 11) cn op)) := by rw [← g139]; exact va_up_self _ _ _
  have f152 : E138 12 = .inl (tc 0, 200, .inl (A 12)) := by rw [← g139, va_up_ne _ _ (by omega)]; exact f133
  have f153 : E138 13 = .inl (tc 2, 200, .inl (A 13)) := by rw [← g139, va_up_ne _ _ (by omega)]; exact f134
  have f154 : E138 15 = .inl (tc 0, 8, .inl (A 15)) := by rw [← g139, va_up_ne _ _ (by omega)]; exact f135
  have f155 : E138 16 = .inl (tc 0, 8, .inl (A 16)) := by rw [← g139, va_up_ne _ _ (by omega)]; exact f136
  have f156 : E138 14 = .inl (tc 1, 800, .inr (.inl J)) := by rw [← g139, va_up_ne _ _ (by omega)]; exact f137
  refine lv_aload_n hx hb dMD_note_22 rfl (lv_at hl 1 rfl) ?_
  refine g_MD_43 X hP (by omega) (f140) rfl dMD_note_23 ?_
  refine lv_iload hx hb dMD_note_26 (lv_at hl 0 rfl) ?_
  refine lv_iload_n hx hb dMD_note_28 rfl (lv_at hl 4 rfl) ?_
  refine q_iast cn X hD hP hS (by omega) (f152) (rfl) (by omega) (by decide) dMD_note_29 (fun H locs hD hP hS => ?_)
  have hP : va_P D vwCl (wW 17 ad (va_up E138 12 (.inl (tc 0, 200, .inl (upd (A 12) cn x))))) H := hP
  have hD : va_D (Aw 17 ad) (wW 17 ad (va_up E138 12 (.inl (tc 0, 200, .inl (upd (A 12) cn x))))) := hD
  generalize g158 : va_up E138 12 (.inl (tc 0, 200, .inl (upd (A 12) cn x))) = E157 at hD hP
  have f159 : E157 0 = .inr (7, [.int th, .int st, .int ic, .ref (ad 1), .ref (ad 2), .ref (ad 3), .ref (ad 4), .ref (ad 5), .ref (ad 6), .ref (ad 7), .ref (ad 8), .ref (ad 9), .int (nI cn), .ref (ad 10), .ref (ad 11), .ref (ad 12), .ref (ad 13), .ref (ad 14), .ref (ad 15), .ref (ad 16)]) := by rw [← g158, va_up_ne _ _ (by omega)]; exact f140
  have f160 : E157 1 = .inl (tc 0, 5, .inl (A 1)) := by rw [← g158, va_up_ne _ _ (by omega)]; exact f141
  have f161 : E157 2 = .inl (tc 0, 60, .inl (A 2)) := by rw [← g158, va_up_ne _ _ (by omega)]; exact f142
  have f162 : E157 3 = .inl (tc 0, 60, .inl (A 3)) := by rw [← g158, va_up_ne _ _ (by omega)]; exact f143
  have f163 : E157 4 = .inl (tc 0, 60, .inl (A 4)) := by rw [← g158, va_up_ne _ _ (by omega)]; exact f144
  have f164 : E157 5 = .inl (tc 0, 5, .inl (A 5)) := by rw [← g158, va_up_ne _ _ (by omega)]; exact f145
  have f165 : E157 6 = .inl (tc 0, 5, .inl (A 6)) := by rw [← g158, va_up_ne _ _ (by omega)]; exact f146
  have f166 : E157 7 = .inl (tc 0, 5, .inl (A 7)) := by rw [← g158, va_up_ne _ _ (by omega)]; exact f147
  have f167 : E157 8 = .inl (tc 0, 3, .inl (A 8)) := by rw [← g158, va_up_ne _ _ (by omega)]; exact f148
  have f168 : E157 9 = .inl (tc 0, 3, .inl (A 9)) := by rw [← g158, va_up_ne _ _ (by omega)]; exact f149
  have f169 : E157 10 = .inl (tc 0, 200, .inl (upd (A 10) cn (nI t))) := by rw [← g158, va_up_ne _ _ (by omega)]; exact f150
  have f170 : E157 11 = .inl (tc 0, 200, .inl (upd (A 11) cn op)) := by rw [← g158, va_up_ne _ _ (by omega)]; exact f151
  have f171 : E157 12 = .inl (tc 0, 200, .inl (upd (A 12) cn x)) := by rw [← g158]; exact va_up_self _ _ _
  have f172 : E157 13 = .inl (tc 2, 200, .inl (A 13)) := by rw [← g158, va_up_ne _ _ (by omega)]; exact f153
  have f173 : E157 15 = .inl (tc 0, 8, .inl (A 15)) := by rw [← g158, va_up_ne _ _ (by omega)]; exact f154
  have f174 : E157 16 = .inl (tc 0, 8, .inl (A 16)) := by rw [← g158, va_up_ne _ _ (by omega)]; exact f155
  have f175 : E157 14 = .inl (tc 1, 800, .inr (.inl J)) := by rw [← g158, va_up_ne _ _ (by omega)]; exact f156
  refine lv_aload_n hx hb dMD_note_30 rfl (lv_at hl 1 rfl) ?_
  refine g_MD_46 X hP (by omega) (f159) rfl dMD_note_31 ?_
  refine lv_iload hx hb dMD_note_34 (lv_at hl 0 rfl) ?_
  refine lv_iconst (v := 0) hx hb dMD_note_36 (by decide) ?_
  refine q_zast cn X hD hP hS (by omega) (f172) (rfl) (by omega) (by decide) dMD_note_37 (fun H locs hD hP hS => ?_)
  have hP : va_P D vwCl (wW 17 ad (va_up E157 13 (.inl (tc 2, 200, .inl (upd (A 13) cn (vp_nar .boolean 0)))))) H := hP
  have hD : va_D (Aw 17 ad) (wW 17 ad (va_up E157 13 (.inl (tc 2, 200, .inl (upd (A 13) cn (vp_nar .boolean 0)))))) := hD
  generalize g177 : va_up E157 13 (.inl (tc 2, 200, .inl (upd (A 13) cn (vp_nar .boolean 0)))) = E176 at hD hP
  have f178 : E176 0 = .inr (7, [.int th, .int st, .int ic, .ref (ad 1), .ref (ad 2), .ref (ad 3), .ref (ad 4), .ref (ad 5), .ref (ad 6), .ref (ad 7), .ref (ad 8), .ref (ad 9), .int (nI cn), .ref (ad 10), .ref (ad 11), .ref (ad 12), .ref (ad 13), .ref (ad 14), .ref (ad 15), .ref (ad 16)]) := by rw [← g177, va_up_ne _ _ (by omega)]; exact f159
  have f179 : E176 1 = .inl (tc 0, 5, .inl (A 1)) := by rw [← g177, va_up_ne _ _ (by omega)]; exact f160
  have f180 : E176 2 = .inl (tc 0, 60, .inl (A 2)) := by rw [← g177, va_up_ne _ _ (by omega)]; exact f161
  have f181 : E176 3 = .inl (tc 0, 60, .inl (A 3)) := by rw [← g177, va_up_ne _ _ (by omega)]; exact f162
  have f182 : E176 4 = .inl (tc 0, 60, .inl (A 4)) := by rw [← g177, va_up_ne _ _ (by omega)]; exact f163
  have f183 : E176 5 = .inl (tc 0, 5, .inl (A 5)) := by rw [← g177, va_up_ne _ _ (by omega)]; exact f164
  have f184 : E176 6 = .inl (tc 0, 5, .inl (A 6)) := by rw [← g177, va_up_ne _ _ (by omega)]; exact f165
  have f185 : E176 7 = .inl (tc 0, 5, .inl (A 7)) := by rw [← g177, va_up_ne _ _ (by omega)]; exact f166
  have f186 : E176 8 = .inl (tc 0, 3, .inl (A 8)) := by rw [← g177, va_up_ne _ _ (by omega)]; exact f167
  have f187 : E176 9 = .inl (tc 0, 3, .inl (A 9)) := by rw [← g177, va_up_ne _ _ (by omega)]; exact f168
  have f188 : E176 10 = .inl (tc 0, 200, .inl (upd (A 10) cn (nI t))) := by rw [← g177, va_up_ne _ _ (by omega)]; exact f169
  have f189 : E176 11 = .inl (tc 0, 200, .inl (upd (A 11) cn op)) := by rw [← g177, va_up_ne _ _ (by omega)]; exact f170
  have f190 : E176 12 = .inl (tc 0, 200, .inl (upd (A 12) cn x)) := by rw [← g177, va_up_ne _ _ (by omega)]; exact f171
  have f191 : E176 13 = .inl (tc 2, 200, .inl (upd (A 13) cn (vp_nar .boolean 0))) := by rw [← g177]; exact va_up_self _ _ _
  have f192 : E176 15 = .inl (tc 0, 8, .inl (A 15)) := by rw [← g177, va_up_ne _ _ (by omega)]; exact f173
  have f193 : E176 16 = .inl (tc 0, 8, .inl (A 16)) := by rw [← g177, va_up_ne _ _ (by omega)]; exact f174
  have f194 : E176 14 = .inl (tc 1, 800, .inr (.inl J)) := by rw [← g177, va_up_ne _ _ (by omega)]; exact f175
  refine lv_iload_n hx hb dMD_note_38 rfl (lv_at hl 3 rfl) ?_
  refine lv_iconst (v := 2) hx hb dMD_note_39 (by decide) ?_
  refine lv_icmp_ne (tgt := 84) hx hb dMD_note_40 rfl (fun h40 => ?_) (fun h40 => ?_)
  · refine lv_iload_n hx hb dMD_note_84 rfl (lv_at hl 3 rfl) ?_
    refine lv_iconst (v := 3) hx hb dMD_note_85 (by decide) ?_
    refine lv_icmp_ne (tgt := 143) hx hb dMD_note_86 rfl (fun h86 => ?_) (fun h86 => ?_)
    · refine lv_iload_n hx hb dMD_note_143 rfl (lv_at hl 3 rfl) ?_
      refine lv_bipush (v := 6) hx hb dMD_note_144 (by decide) ?_
      refine lv_icmp_ne (tgt := 169) hx hb dMD_note_146 rfl (fun h146 => ?_) (fun h146 => ?_)
      · exact J169 (va_up (va_up (va_up (va_up A 10 (upd (A 10) cn (nI t))) 11 (upd (A 11) cn op)) 12 (upd (A 12) cn x)) 13 (upd (A 13) cn (vp_nar .boolean 0))) _ _ _ _ ⟨f178, f179, f180, f181, f182, f183, f184, f185, f186, f187, f188, f189, f190, f191, f194, f192, f193⟩ (fun k hk => by rw [va_up_ne _ _ (by omega), va_up_ne _ _ (by omega), va_up_ne _ _ (by omega), va_up_ne _ _ (by omega)]) (fun u => Or.inl (by rw [va_up_ne _ _ (by decide), va_up_ne _ _ (by decide), va_up_ne _ _ (by decide), va_up_ne _ _ (by decide)])) (by rw [va_up_ne _ _ (by decide), va_up_self]; exact pk_us) hD hP hS hl
      · obtain ⟨q, hq, eq⟩ := hx6 h146
        refine lv_aload_n hx hb dMD_note_149 rfl (lv_at hl 1 rfl) ?_
        refine g_MD_22 X hP (by omega) (f178) rfl dMD_note_150 ?_
        refine lv_iload_n hx hb dMD_note_153 rfl (lv_at hl 4 rfl) ?_
        refine lv_aload_n hx hb dMD_note_154 rfl (lv_at hl 1 rfl) ?_
        refine g_MD_7 X hP (by omega) (f178) rfl dMD_note_155 ?_
        refine lv_iload_n hx hb dMD_note_158 rfl (lv_at hl 4 rfl) ?_
        refine q_iald q X hP (by omega) (f179) (eq) (by omega) (by decide) dMD_note_159 ?_
        refine lv_if_le (tgt := 167) hx hb dMD_note_160 rfl (fun h160 => ?_) (fun h160 => ?_)
        · refine lv_iconst (v := 2) hx hb dMD_note_167 (by decide) ?_
          refine q_iast q X hD hP hS (by omega) (f183) (eq) (by omega) (by decide) dMD_note_168 (fun H locs hD hP hS => ?_)
          have hP : va_P D vwCl (wW 17 ad (va_up E176 5 (.inl (tc 0, 5, .inl (upd (A 5) q 2))))) H := hP
          have hD : va_D (Aw 17 ad) (wW 17 ad (va_up E176 5 (.inl (tc 0, 5, .inl (upd (A 5) q 2))))) := hD
          generalize g196 : va_up E176 5 (.inl (tc 0, 5, .inl (upd (A 5) q 2))) = E195 at hD hP
          have f197 : E195 0 = .inr (7, [.int th, .int st, .int ic, .ref (ad 1), .ref (ad 2), .ref (ad 3), .ref (ad 4), .ref (ad 5), .ref (ad 6), .ref (ad 7), .ref (ad 8), .ref (ad 9), .int (nI cn), .ref (ad 10), .ref (ad 11), .ref (ad 12), .ref (ad 13), .ref (ad 14), .ref (ad 15), .ref (ad 16)]) := by rw [← g196, va_up_ne _ _ (by omega)]; exact f178
          have f198 : E195 1 = .inl (tc 0, 5, .inl (A 1)) := by rw [← g196, va_up_ne _ _ (by omega)]; exact f179
          have f199 : E195 2 = .inl (tc 0, 60, .inl (A 2)) := by rw [← g196, va_up_ne _ _ (by omega)]; exact f180
          have f200 : E195 3 = .inl (tc 0, 60, .inl (A 3)) := by rw [← g196, va_up_ne _ _ (by omega)]; exact f181
          have f201 : E195 4 = .inl (tc 0, 60, .inl (A 4)) := by rw [← g196, va_up_ne _ _ (by omega)]; exact f182
          have f202 : E195 5 = .inl (tc 0, 5, .inl (upd (A 5) q 2)) := by rw [← g196]; exact va_up_self _ _ _
          have f203 : E195 6 = .inl (tc 0, 5, .inl (A 6)) := by rw [← g196, va_up_ne _ _ (by omega)]; exact f184
          have f204 : E195 7 = .inl (tc 0, 5, .inl (A 7)) := by rw [← g196, va_up_ne _ _ (by omega)]; exact f185
          have f205 : E195 8 = .inl (tc 0, 3, .inl (A 8)) := by rw [← g196, va_up_ne _ _ (by omega)]; exact f186
          have f206 : E195 9 = .inl (tc 0, 3, .inl (A 9)) := by rw [← g196, va_up_ne _ _ (by omega)]; exact f187
          have f207 : E195 10 = .inl (tc 0, 200, .inl (upd (A 10) cn (nI t))) := by rw [← g196, va_up_ne _ _ (by omega)]; exact f188
          have f208 : E195 11 = .inl (tc 0, 200, .inl (upd (A 11) cn op)) := by rw [← g196, va_up_ne _ _ (by omega)]; exact f189
          have f209 : E195 12 = .inl (tc 0, 200, .inl (upd (A 12) cn x)) := by rw [← g196, va_up_ne _ _ (by omega)]; exact f190
          have f210 : E195 13 = .inl (tc 2, 200, .inl (upd (A 13) cn (vp_nar .boolean 0))) := by rw [← g196, va_up_ne _ _ (by omega)]; exact f191
          have f211 : E195 15 = .inl (tc 0, 8, .inl (A 15)) := by rw [← g196, va_up_ne _ _ (by omega)]; exact f192
          have f212 : E195 16 = .inl (tc 0, 8, .inl (A 16)) := by rw [← g196, va_up_ne _ _ (by omega)]; exact f193
          have f213 : E195 14 = .inl (tc 1, 800, .inr (.inl J)) := by rw [← g196, va_up_ne _ _ (by omega)]; exact f194
          exact J169 (va_up (va_up (va_up (va_up (va_up A 5 (upd (A 5) q 2)) 10 (upd (A 10) cn (nI t))) 11 (upd (A 11) cn op)) 12 (upd (A 12) cn x)) 13 (upd (A 13) cn (vp_nar .boolean 0))) _ _ _ _ ⟨f197, f198, f199, f200, f201, f202, f203, f204, f205, f206, f207, f208, f209, f210, f213, f211, f212⟩ (fun k hk => by rw [va_up_ne _ _ (by omega), va_up_ne _ _ (by omega), va_up_ne _ _ (by omega), va_up_ne _ _ (by omega), va_up_ne _ _ (by omega)]) (fun u => by rw [va_up_ne _ _ (by decide), va_up_ne _ _ (by decide), va_up_ne _ _ (by decide), va_up_ne _ _ (by decide), va_up_self]; by_cases hu : u = q; (· subst hu; rw [pk_us]; exact Or.inr ⟨h146, eq, fun h => absurd h (by decide), by decide⟩); (· rw [pk_un hu]; exact Or.inl rfl)) (by rw [va_up_ne _ _ (by decide), va_up_self]; exact pk_us) hD hP hS hl
        · refine lv_iconst (v := 1) hx hb dMD_note_163 (by decide) ?_
          refine lv_goto (tgt := 168) hx hb dMD_note_164 rfl ?_
          refine q_iast q X hD hP hS (by omega) (f183) (eq) (by omega) (by decide) dMD_note_168 (fun H locs hD hP hS => ?_)
          have hP : va_P D vwCl (wW 17 ad (va_up E176 5 (.inl (tc 0, 5, .inl (upd (A 5) q 1))))) H := hP
          have hD : va_D (Aw 17 ad) (wW 17 ad (va_up E176 5 (.inl (tc 0, 5, .inl (upd (A 5) q 1))))) := hD
          generalize g215 : va_up E176 5 (.inl (tc 0, 5, .inl (upd (A 5) q 1))) = E214 at hD hP
          have f216 : E214 0 = .inr (7, [.int th, .int st, .int ic, .ref (ad 1), .ref (ad 2), .ref (ad 3), .ref (ad 4), .ref (ad 5), .ref (ad 6), .ref (ad 7), .ref (ad 8), .ref (ad 9), .int (nI cn), .ref (ad 10), .ref (ad 11), .ref (ad 12), .ref (ad 13), .ref (ad 14), .ref (ad 15), .ref (ad 16)]) := by rw [← g215, va_up_ne _ _ (by omega)]; exact f178
          have f217 : E214 1 = .inl (tc 0, 5, .inl (A 1)) := by rw [← g215, va_up_ne _ _ (by omega)]; exact f179
          have f218 : E214 2 = .inl (tc 0, 60, .inl (A 2)) := by rw [← g215, va_up_ne _ _ (by omega)]; exact f180
          have f219 : E214 3 = .inl (tc 0, 60, .inl (A 3)) := by rw [← g215, va_up_ne _ _ (by omega)]; exact f181
          have f220 : E214 4 = .inl (tc 0, 60, .inl (A 4)) := by rw [← g215, va_up_ne _ _ (by omega)]; exact f182
          have f221 : E214 5 = .inl (tc 0, 5, .inl (upd (A 5) q 1)) := by rw [← g215]; exact va_up_self _ _ _
          have f222 : E214 6 = .inl (tc 0, 5, .inl (A 6)) := by rw [← g215, va_up_ne _ _ (by omega)]; exact f184
          have f223 : E214 7 = .inl (tc 0, 5, .inl (A 7)) := by rw [← g215, va_up_ne _ _ (by omega)]; exact f185
          have f224 : E214 8 = .inl (tc 0, 3, .inl (A 8)) := by rw [← g215, va_up_ne _ _ (by omega)]; exact f186
          have f225 : E214 9 = .inl (tc 0, 3, .inl (A 9)) := by rw [← g215, va_up_ne _ _ (by omega)]; exact f187
          have f226 : E214 10 = .inl (tc 0, 200, .inl (upd (A 10) cn (nI t))) := by rw [← g215, va_up_ne _ _ (by omega)]; exact f188
          have f227 : E214 11 = .inl (tc 0, 200, .inl (upd (A 11) cn op)) := by rw [← g215, va_up_ne _ _ (by omega)]; exact f189
          have f228 : E214 12 = .inl (tc 0, 200, .inl (upd (A 12) cn x)) := by rw [← g215, va_up_ne _ _ (by omega)]; exact f190
          have f229 : E214 13 = .inl (tc 2, 200, .inl (upd (A 13) cn (vp_nar .boolean 0))) := by rw [← g215, va_up_ne _ _ (by omega)]; exact f191
          have f230 : E214 15 = .inl (tc 0, 8, .inl (A 15)) := by rw [← g215, va_up_ne _ _ (by omega)]; exact f192
          have f231 : E214 16 = .inl (tc 0, 8, .inl (A 16)) := by rw [← g215, va_up_ne _ _ (by omega)]; exact f193
          have f232 : E214 14 = .inl (tc 1, 800, .inr (.inl J)) := by rw [← g215, va_up_ne _ _ (by omega)]; exact f194
          exact J169 (va_up (va_up (va_up (va_up (va_up A 5 (upd (A 5) q 1)) 10 (upd (A 10) cn (nI t))) 11 (upd (A 11) cn op)) 12 (upd (A 12) cn x)) 13 (upd (A 13) cn (vp_nar .boolean 0))) _ _ _ _ ⟨f216, f217, f218, f219, f220, f221, f222, f223, f224, f225, f226, f227, f228, f229, f232, f230, f231⟩ (fun k hk => by rw [va_up_ne _ _ (by omega), va_up_ne _ _ (by omega), va_up_ne _ _ (by omega), va_up_ne _ _ (by omega), va_up_ne _ _ (by omega)]) (fun u => by rw [va_up_ne _ _ (by decide), va_up_ne _ _ (by decide), va_up_ne _ _ (by decide), va_up_ne _ _ (by decide), va_up_self]; by_cases hu : u = q; (· subst hu; rw [pk_us]; exact Or.inr ⟨h146, eq, fun _ => Int32.not_le.mp h160, by decide⟩); (· rw [pk_un hu]; exact Or.inl rfl)) (by rw [va_up_ne _ _ (by decide), va_up_self]; exact pk_us) hD hP hS hl
    · obtain ⟨q, hq, eq⟩ := hx2 (Or.inr h86)
      refine lv_aload_n hx hb dMD_note_89 rfl (lv_at hl 1 rfl) ?_
      refine g_MD_34 X hP (by omega) (f178) rfl dMD_note_90 ?_
      refine lv_iload_n hx hb dMD_note_93 rfl (lv_at hl 4 rfl) ?_
      refine lv_dup2_11 hx hb dMD_note_94 rfl rfl ?_
      refine q_iald q X hP (by omega) (f187) (eq) (by omega) (by decide) dMD_note_95 ?_
      refine lv_iconst (v := 1) hx hb dMD_note_96 (by decide) ?_
      refine lv_isub hx hb dMD_note_97 ?_
      refine q_iast q X hD hP hS (by omega) (f187) (eq) (by omega) (by decide) dMD_note_98 (fun H locs hD hP hS => ?_)
      have hP : va_P D vwCl (wW 17 ad (va_up E176 9 (.inl (tc 0, 3, .inl (upd (A 9) q (((A 9) q) - 1)))))) H := hP
      have hD : va_D (Aw 17 ad) (wW 17 ad (va_up E176 9 (.inl (tc 0, 3, .inl (upd (A 9) q (((A 9) q) - 1)))))) := hD
      generalize g234 : va_up E176 9 (.inl (tc 0, 3, .inl (upd (A 9) q (((A 9) q) - 1)))) = E233 at hD hP
      have f235 : E233 0 = .inr (7, [.int th, .int st, .int ic, .ref (ad 1), .ref (ad 2), .ref (ad 3), .ref (ad 4), .ref (ad 5), .ref (ad 6), .ref (ad 7), .ref (ad 8), .ref (ad 9), .int (nI cn), .ref (ad 10), .ref (ad 11), .ref (ad 12), .ref (ad 13), .ref (ad 14), .ref (ad 15), .ref (ad 16)]) := by rw [← g234, va_up_ne _ _ (by omega)]; exact f178
      have f236 : E233 1 = .inl (tc 0, 5, .inl (A 1)) := by rw [← g234, va_up_ne _ _ (by omega)]; exact f179
      have f237 : E233 2 = .inl (tc 0, 60, .inl (A 2)) := by rw [← g234, va_up_ne _ _ (by omega)]; exact f180
      have f238 : E233 3 = .inl (tc 0, 60, .inl (A 3)) := by rw [← g234, va_up_ne _ _ (by omega)]; exact f181
      have f239 : E233 4 = .inl (tc 0, 60, .inl (A 4)) := by rw [← g234, va_up_ne _ _ (by omega)]; exact f182
      have f240 : E233 5 = .inl (tc 0, 5, .inl (A 5)) := by rw [← g234, va_up_ne _ _ (by omega)]; exact f183
      have f241 : E233 6 = .inl (tc 0, 5, .inl (A 6)) := by rw [← g234, va_up_ne _ _ (by omega)]; exact f184
      have f242 : E233 7 = .inl (tc 0, 5, .inl (A 7)) := by rw [← g234, va_up_ne _ _ (by omega)]; exact f185
      have f243 : E233 8 = .inl (tc 0, 3, .inl (A 8)) := by rw [← g234, va_up_ne _ _ (by omega)]; exact f186
      have f244 : E233 9 = .inl (tc 0, 3, .inl (upd (A 9) q (((A 9) q) - 1))) := by rw [← g234]; exact va_up_self _ _ _
      have f245 : E233 10 = .inl (tc 0, 200, .inl (upd (A 10) cn (nI t))) := by rw [← g234, va_up_ne _ _ (by omega)]; exact f188
      have f246 : E233 11 = .inl (tc 0, 200, .inl (upd (A 11) cn op)) := by rw [← g234, va_up_ne _ _ (by omega)]; exact f189
      have f247 : E233 12 = .inl (tc 0, 200, .inl (upd (A 12) cn x)) := by rw [← g234, va_up_ne _ _ (by omega)]; exact f190
      have f248 : E233 13 = .inl (tc 2, 200, .inl (upd (A 13) cn (vp_nar .boolean 0))) := by rw [← g234, va_up_ne _ _ (by omega)]; exact f191
      have f249 : E233 15 = .inl (tc 0, 8, .inl (A 15)) := by rw [← g234, va_up_ne _ _ (by omega)]; exact f192
      have f250 : E233 16 = .inl (tc 0, 8, .inl (A 16)) := by rw [← g234, va_up_ne _ _ (by omega)]; exact f193
      have f251 : E233 14 = .inl (tc 1, 800, .inr (.inl J)) := by rw [← g234, va_up_ne _ _ (by omega)]; exact f194
      refine lv_aload_n hx hb dMD_note_99 rfl (lv_at hl 1 rfl) ?_
      refine g_MD_46 X hP (by omega) (f235) rfl dMD_note_100 ?_
      refine lv_iload hx hb dMD_note_103 (lv_at hl 0 rfl) ?_
      refine lv_aload_n hx hb dMD_note_105 rfl (lv_at hl 1 rfl) ?_
      refine g_MD_34 X hP (by omega) (f235) rfl dMD_note_106 ?_
      refine lv_iload_n hx hb dMD_note_109 rfl (lv_at hl 4 rfl) ?_
      refine q_iald q X hP (by omega) (f244) (eq) (by omega) (by decide) dMD_note_110 ?_
      refine lv_if_ne (tgt := 118) hx hb dMD_note_111 rfl (fun h111 => ?_) (fun h111 => ?_)
      · refine lv_iconst (v := 0) hx hb dMD_note_118 (by decide) ?_
        refine q_zast cn X hD hP hS (by omega) (f248) (rfl) (by omega) (by decide) dMD_note_119 (fun H locs hD hP hS => ?_)
        have hP : va_P D vwCl (wW 17 ad (va_up E233 13 (.inl (tc 2, 200, .inl (upd (upd (A 13) cn (vp_nar .boolean 0)) cn (vp_nar .boolean 0)))))) H := hP
        have hD : va_D (Aw 17 ad) (wW 17 ad (va_up E233 13 (.inl (tc 2, 200, .inl (upd (upd (A 13) cn (vp_nar .boolean 0)) cn (vp_nar .boolean 0)))))) := hD
        generalize g253 : va_up E233 13 (.inl (tc 2, 200, .inl (upd (upd (A 13) cn (vp_nar .boolean 0)) cn (vp_nar .boolean 0)))) = E252 at hD hP
        have f254 : E252 0 = .inr (7, [.int th, .int st, .int ic, .ref (ad 1), .ref (ad 2), .ref (ad 3), .ref (ad 4), .ref (ad 5), .ref (ad 6), .ref (ad 7), .ref (ad 8), .ref (ad 9), .int (nI cn), .ref (ad 10), .ref (ad 11), .ref (ad 12), .ref (ad 13), .ref (ad 14), .ref (ad 15), .ref (ad 16)]) := by rw [← g253, va_up_ne _ _ (by omega)]; exact f235
        have f255 : E252 1 = .inl (tc 0, 5, .inl (A 1)) := by rw [← g253, va_up_ne _ _ (by omega)]; exact f236
        have f256 : E252 2 = .inl (tc 0, 60, .inl (A 2)) := by rw [← g253, va_up_ne _ _ (by omega)]; exact f237
        have f257 : E252 3 = .inl (tc 0, 60, .inl (A 3)) := by rw [← g253, va_up_ne _ _ (by omega)]; exact f238
        have f258 : E252 4 = .inl (tc 0, 60, .inl (A 4)) := by rw [← g253, va_up_ne _ _ (by omega)]; exact f239
        have f259 : E252 5 = .inl (tc 0, 5, .inl (A 5)) := by rw [← g253, va_up_ne _ _ (by omega)]; exact f240
        have f260 : E252 6 = .inl (tc 0, 5, .inl (A 6)) := by rw [← g253, va_up_ne _ _ (by omega)]; exact f241
        have f261 : E252 7 = .inl (tc 0, 5, .inl (A 7)) := by rw [← g253, va_up_ne _ _ (by omega)]; exact f242
        have f262 : E252 8 = .inl (tc 0, 3, .inl (A 8)) := by rw [← g253, va_up_ne _ _ (by omega)]; exact f243
        have f263 : E252 9 = .inl (tc 0, 3, .inl (upd (A 9) q (((A 9) q) - 1))) := by rw [← g253, va_up_ne _ _ (by omega)]; exact f244
        have f264 : E252 10 = .inl (tc 0, 200, .inl (upd (A 10) cn (nI t))) := by rw [← g253, va_up_ne _ _ (by omega)]; exact f245
        have f265 : E252 11 = .inl (tc 0, 200, .inl (upd (A 11) cn op)) := by rw [← g253, va_up_ne _ _ (by omega)]; exact f246
        have f266 : E252 12 = .inl (tc 0, 200, .inl (upd (A 12) cn x)) := by rw [← g253, va_up_ne _ _ (by omega)]; exact f247
        have f267 : E252 13 = .inl (tc 2, 200, .inl (upd (upd (A 13) cn (vp_nar .boolean 0)) cn (vp_nar .boolean 0))) := by rw [← g253]; exact va_up_self _ _ _
        have f268 : E252 15 = .inl (tc 0, 8, .inl (A 15)) := by rw [← g253, va_up_ne _ _ (by omega)]; exact f249
        have f269 : E252 16 = .inl (tc 0, 8, .inl (A 16)) := by rw [← g253, va_up_ne _ _ (by omega)]; exact f250
        have f270 : E252 14 = .inl (tc 1, 800, .inr (.inl J)) := by rw [← g253, va_up_ne _ _ (by omega)]; exact f251
        refine lv_aload_n hx hb dMD_note_120 rfl (lv_at hl 1 rfl) ?_
        refine g_MD_31 X hP (by omega) (f254) rfl dMD_note_121 ?_
        refine lv_iload_n hx hb dMD_note_124 rfl (lv_at hl 4 rfl) ?_
        refine lv_aload_n hx hb dMD_note_125 rfl (lv_at hl 1 rfl) ?_
        refine g_MD_34 X hP (by omega) (f254) rfl dMD_note_126 ?_
        refine lv_iload_n hx hb dMD_note_129 rfl (lv_at hl 4 rfl) ?_
        refine q_iald q X hP (by omega) (f263) (eq) (by omega) (by decide) dMD_note_130 ?_
        refine lv_if_ne (tgt := 138) hx hb dMD_note_131 rfl (fun h131 => ?_) (fun h131 => ?_)
        · refine lv_iload_n hx hb dMD_note_138 rfl (lv_at hl 2 rfl) ?_
          refine q_iast q X hD hP hS (by omega) (f262) (eq) (by omega) (by decide) dMD_note_139 (fun H locs hD hP hS => ?_)
          have hP : va_P D vwCl (wW 17 ad (va_up E252 8 (.inl (tc 0, 3, .inl (upd (A 8) q (nI t)))))) H := hP
          have hD : va_D (Aw 17 ad) (wW 17 ad (va_up E252 8 (.inl (tc 0, 3, .inl (upd (A 8) q (nI t)))))) := hD
          generalize g272 : va_up E252 8 (.inl (tc 0, 3, .inl (upd (A 8) q (nI t)))) = E271 at hD hP
          have f273 : E271 0 = .inr (7, [.int th, .int st, .int ic, .ref (ad 1), .ref (ad 2), .ref (ad 3), .ref (ad 4), .ref (ad 5), .ref (ad 6), .ref (ad 7), .ref (ad 8), .ref (ad 9), .int (nI cn), .ref (ad 10), .ref (ad 11), .ref (ad 12), .ref (ad 13), .ref (ad 14), .ref (ad 15), .ref (ad 16)]) := by rw [← g272, va_up_ne _ _ (by omega)]; exact f254
          have f274 : E271 1 = .inl (tc 0, 5, .inl (A 1)) := by rw [← g272, va_up_ne _ _ (by omega)]; exact f255
          have f275 : E271 2 = .inl (tc 0, 60, .inl (A 2)) := by rw [← g272, va_up_ne _ _ (by omega)]; exact f256
          have f276 : E271 3 = .inl (tc 0, 60, .inl (A 3)) := by rw [← g272, va_up_ne _ _ (by omega)]; exact f257
          have f277 : E271 4 = .inl (tc 0, 60, .inl (A 4)) := by rw [← g272, va_up_ne _ _ (by omega)]; exact f258
          have f278 : E271 5 = .inl (tc 0, 5, .inl (A 5)) := by rw [← g272, va_up_ne _ _ (by omega)]; exact f259
          have f279 : E271 6 = .inl (tc 0, 5, .inl (A 6)) := by rw [← g272, va_up_ne _ _ (by omega)]; exact f260
          have f280 : E271 7 = .inl (tc 0, 5, .inl (A 7)) := by rw [← g272, va_up_ne _ _ (by omega)]; exact f261
          have f281 : E271 8 = .inl (tc 0, 3, .inl (upd (A 8) q (nI t))) := by rw [← g272]; exact va_up_self _ _ _
          have f282 : E271 9 = .inl (tc 0, 3, .inl (upd (A 9) q (((A 9) q) - 1))) := by rw [← g272, va_up_ne _ _ (by omega)]; exact f263
          have f283 : E271 10 = .inl (tc 0, 200, .inl (upd (A 10) cn (nI t))) := by rw [← g272, va_up_ne _ _ (by omega)]; exact f264
          have f284 : E271 11 = .inl (tc 0, 200, .inl (upd (A 11) cn op)) := by rw [← g272, va_up_ne _ _ (by omega)]; exact f265
          have f285 : E271 12 = .inl (tc 0, 200, .inl (upd (A 12) cn x)) := by rw [← g272, va_up_ne _ _ (by omega)]; exact f266
          have f286 : E271 13 = .inl (tc 2, 200, .inl (upd (upd (A 13) cn (vp_nar .boolean 0)) cn (vp_nar .boolean 0))) := by rw [← g272, va_up_ne _ _ (by omega)]; exact f267
          have f287 : E271 15 = .inl (tc 0, 8, .inl (A 15)) := by rw [← g272, va_up_ne _ _ (by omega)]; exact f268
          have f288 : E271 16 = .inl (tc 0, 8, .inl (A 16)) := by rw [← g272, va_up_ne _ _ (by omega)]; exact f269
          have f289 : E271 14 = .inl (tc 1, 800, .inr (.inl J)) := by rw [← g272, va_up_ne _ _ (by omega)]; exact f270
          refine lv_goto (tgt := 169) hx hb dMD_note_140 rfl ?_
          exact J169 (va_up (va_up (va_up (va_up (va_up (va_up A 8 (upd (A 8) q (nI t))) 9 (upd (A 9) q (((A 9) q) - 1))) 10 (upd (A 10) cn (nI t))) 11 (upd (A 11) cn op)) 12 (upd (A 12) cn x)) 13 (upd (upd (A 13) cn (vp_nar .boolean 0)) cn (vp_nar .boolean 0))) _ _ _ _ ⟨f273, f274, f275, f276, f277, f278, f279, f280, f281, f282, f283, f284, f285, f286, f289, f287, f288⟩ (fun k hk => by rw [va_up_ne _ _ (by omega), va_up_ne _ _ (by omega), va_up_ne _ _ (by omega), va_up_ne _ _ (by omega), va_up_ne _ _ (by omega), va_up_ne _ _ (by omega)]) (fun u => Or.inl (by rw [va_up_ne _ _ (by decide), va_up_ne _ _ (by decide), va_up_ne _ _ (by decide), va_up_ne _ _ (by decide), va_up_ne _ _ (by decide), va_up_ne _ _ (by decide)])) (by rw [va_up_ne _ _ (by decide), va_up_self]; exact pk_us) hD hP hS hl
        · refine lv_iconst (v := (-1)) hx hb dMD_note_134 (by decide) ?_
          refine lv_goto (tgt := 139) hx hb dMD_note_135 rfl ?_
          refine q_iast q X hD hP hS (by omega) (f262) (eq) (by omega) (by decide) dMD_note_139 (fun H locs hD hP hS => ?_)
          have hP : va_P D vwCl (wW 17 ad (va_up E252 8 (.inl (tc 0, 3, .inl (upd (A 8) q (-1)))))) H := hP
          have hD : va_D (Aw 17 ad) (wW 17 ad (va_up E252 8 (.inl (tc 0, 3, .inl (upd (A 8) q (-1)))))) := hD
          generalize g291 : va_up E252 8 (.inl (tc 0, 3, .inl (upd (A 8) q (-1)))) = E290 at hD hP
          have f292 : E290 0 = .inr (7, [.int th, .int st, .int ic, .ref (ad 1), .ref (ad 2), .ref (ad 3), .ref (ad 4), .ref (ad 5), .ref (ad 6), .ref (ad 7), .ref (ad 8), .ref (ad 9), .int (nI cn), .ref (ad 10), .ref (ad 11), .ref (ad 12), .ref (ad 13), .ref (ad 14), .ref (ad 15), .ref (ad 16)]) := by rw [← g291, va_up_ne _ _ (by omega)]; exact f254
          have f293 : E290 1 = .inl (tc 0, 5, .inl (A 1)) := by rw [← g291, va_up_ne _ _ (by omega)]; exact f255
          have f294 : E290 2 = .inl (tc 0, 60, .inl (A 2)) := by rw [← g291, va_up_ne _ _ (by omega)]; exact f256
          have f295 : E290 3 = .inl (tc 0, 60, .inl (A 3)) := by rw [← g291, va_up_ne _ _ (by omega)]; exact f257
          have f296 : E290 4 = .inl (tc 0, 60, .inl (A 4)) := by rw [← g291, va_up_ne _ _ (by omega)]; exact f258
          have f297 : E290 5 = .inl (tc 0, 5, .inl (A 5)) := by rw [← g291, va_up_ne _ _ (by omega)]; exact f259
          have f298 : E290 6 = .inl (tc 0, 5, .inl (A 6)) := by rw [← g291, va_up_ne _ _ (by omega)]; exact f260
          have f299 : E290 7 = .inl (tc 0, 5, .inl (A 7)) := by rw [← g291, va_up_ne _ _ (by omega)]; exact f261
          have f300 : E290 8 = .inl (tc 0, 3, .inl (upd (A 8) q (-1))) := by rw [← g291]; exact va_up_self _ _ _
          have f301 : E290 9 = .inl (tc 0, 3, .inl (upd (A 9) q (((A 9) q) - 1))) := by rw [← g291, va_up_ne _ _ (by omega)]; exact f263
          have f302 : E290 10 = .inl (tc 0, 200, .inl (upd (A 10) cn (nI t))) := by rw [← g291, va_up_ne _ _ (by omega)]; exact f264
          have f303 : E290 11 = .inl (tc 0, 200, .inl (upd (A 11) cn op)) := by rw [← g291, va_up_ne _ _ (by omega)]; exact f265
          have f304 : E290 12 = .inl (tc 0, 200, .inl (upd (A 12) cn x)) := by rw [← g291, va_up_ne _ _ (by omega)]; exact f266
          have f305 : E290 13 = .inl (tc 2, 200, .inl (upd (upd (A 13) cn (vp_nar .boolean 0)) cn (vp_nar .boolean 0))) := by rw [← g291, va_up_ne _ _ (by omega)]; exact f267
          have f306 : E290 15 = .inl (tc 0, 8, .inl (A 15)) := by rw [← g291, va_up_ne _ _ (by omega)]; exact f268
          have f307 : E290 16 = .inl (tc 0, 8, .inl (A 16)) := by rw [← g291, va_up_ne _ _ (by omega)]; exact f269
          have f308 : E290 14 = .inl (tc 1, 800, .inr (.inl J)) := by rw [← g291, va_up_ne _ _ (by omega)]; exact f270
          refine lv_goto (tgt := 169) hx hb dMD_note_140 rfl ?_
          exact J169 (va_up (va_up (va_up (va_up (va_up (va_up A 8 (upd (A 8) q (-1))) 9 (upd (A 9) q (((A 9) q) - 1))) 10 (upd (A 10) cn (nI t))) 11 (upd (A 11) cn op)) 12 (upd (A 12) cn x)) 13 (upd (upd (A 13) cn (vp_nar .boolean 0)) cn (vp_nar .boolean 0))) _ _ _ _ ⟨f292, f293, f294, f295, f296, f297, f298, f299, f300, f301, f302, f303, f304, f305, f308, f306, f307⟩ (fun k hk => by rw [va_up_ne _ _ (by omega), va_up_ne _ _ (by omega), va_up_ne _ _ (by omega), va_up_ne _ _ (by omega), va_up_ne _ _ (by omega), va_up_ne _ _ (by omega)]) (fun u => Or.inl (by rw [va_up_ne _ _ (by decide), va_up_ne _ _ (by decide), va_up_ne _ _ (by decide), va_up_ne _ _ (by decide), va_up_ne _ _ (by decide), va_up_ne _ _ (by decide)])) (by rw [va_up_ne _ _ (by decide), va_up_self]; exact pk_us) hD hP hS hl
      · refine lv_iconst (v := 1) hx hb dMD_note_114 (by decide) ?_
        refine lv_goto (tgt := 119) hx hb dMD_note_115 rfl ?_
        refine q_zast cn X hD hP hS (by omega) (f248) (rfl) (by omega) (by decide) dMD_note_119 (fun H locs hD hP hS => ?_)
        have hP : va_P D vwCl (wW 17 ad (va_up E233 13 (.inl (tc 2, 200, .inl (upd (upd (A 13) cn (vp_nar .boolean 0)) cn (vp_nar .boolean 1)))))) H := hP
        have hD : va_D (Aw 17 ad) (wW 17 ad (va_up E233 13 (.inl (tc 2, 200, .inl (upd (upd (A 13) cn (vp_nar .boolean 0)) cn (vp_nar .boolean 1)))))) := hD
        generalize g310 : va_up E233 13 (.inl (tc 2, 200, .inl (upd (upd (A 13) cn (vp_nar .boolean 0)) cn (vp_nar .boolean 1)))) = E309 at hD hP
        have f311 : E309 0 = .inr (7, [.int th, .int st, .int ic, .ref (ad 1), .ref (ad 2), .ref (ad 3), .ref (ad 4), .ref (ad 5), .ref (ad 6), .ref (ad 7), .ref (ad 8), .ref (ad 9), .int (nI cn), .ref (ad 10), .ref (ad 11), .ref (ad 12), .ref (ad 13), .ref (ad 14), .ref (ad 15), .ref (ad 16)]) := by rw [← g310, va_up_ne _ _ (by omega)]; exact f235
        have f312 : E309 1 = .inl (tc 0, 5, .inl (A 1)) := by rw [← g310, va_up_ne _ _ (by omega)]; exact f236
        have f313 : E309 2 = .inl (tc 0, 60, .inl (A 2)) := by rw [← g310, va_up_ne _ _ (by omega)]; exact f237
        have f314 : E309 3 = .inl (tc 0, 60, .inl (A 3)) := by rw [← g310, va_up_ne _ _ (by omega)]; exact f238
        have f315 : E309 4 = .inl (tc 0, 60, .inl (A 4)) := by rw [← g310, va_up_ne _ _ (by omega)]; exact f239
        have f316 : E309 5 = .inl (tc 0, 5, .inl (A 5)) := by rw [← g310, va_up_ne _ _ (by omega)]; exact f240
        have f317 : E309 6 = .inl (tc 0, 5, .inl (A 6)) := by rw [← g310, va_up_ne _ _ (by omega)]; exact f241
        have f318 : E309 7 = .inl (tc 0, 5, .inl (A 7)) := by rw [← g310, va_up_ne _ _ (by omega)]; exact f242
        have f319 : E309 8 = .inl (tc 0, 3, .inl (A 8)) := by rw [← g310, va_up_ne _ _ (by omega)]; exact f243
        have f320 : E309 9 = .inl (tc 0, 3, .inl (upd (A 9) q (((A 9) q) - 1))) := by rw [← g310, va_up_ne _ _ (by omega)]; exact f244
        have f321 : E309 10 = .inl (tc 0, 200, .inl (upd (A 10) cn (nI t))) := by rw [← g310, va_up_ne _ _ (by omega)]; exact f245
        have f322 : E309 11 = .inl (tc 0, 200, .inl (upd (A 11) cn op)) := by rw [← g310, va_up_ne _ _ (by omega)]; exact f246
        have f323 : E309 12 = .inl (tc 0, 200, .inl (upd (A 12) cn x)) := by rw [← g310, va_up_ne _ _ (by omega)]; exact f247
        have f324 : E309 13 = .inl (tc 2, 200, .inl (upd (upd (A 13) cn (vp_nar .boolean 0)) cn (vp_nar .boolean 1))) := by rw [← g310]; exact va_up_self _ _ _
        have f325 : E309 15 = .inl (tc 0, 8, .inl (A 15)) := by rw [← g310, va_up_ne _ _ (by omega)]; exact f249
        have f326 : E309 16 = .inl (tc 0, 8, .inl (A 16)) := by rw [← g310, va_up_ne _ _ (by omega)]; exact f250
        have f327 : E309 14 = .inl (tc 1, 800, .inr (.inl J)) := by rw [← g310, va_up_ne _ _ (by omega)]; exact f251
        refine lv_aload_n hx hb dMD_note_120 rfl (lv_at hl 1 rfl) ?_
        refine g_MD_31 X hP (by omega) (f311) rfl dMD_note_121 ?_
        refine lv_iload_n hx hb dMD_note_124 rfl (lv_at hl 4 rfl) ?_
        refine lv_aload_n hx hb dMD_note_125 rfl (lv_at hl 1 rfl) ?_
        refine g_MD_34 X hP (by omega) (f311) rfl dMD_note_126 ?_
        refine lv_iload_n hx hb dMD_note_129 rfl (lv_at hl 4 rfl) ?_
        refine q_iald q X hP (by omega) (f320) (eq) (by omega) (by decide) dMD_note_130 ?_
        refine lv_if_ne (tgt := 138) hx hb dMD_note_131 rfl (fun h131 => ?_) (fun h131 => ?_)
        · refine lv_iload_n hx hb dMD_note_138 rfl (lv_at hl 2 rfl) ?_
          refine q_iast q X hD hP hS (by omega) (f319) (eq) (by omega) (by decide) dMD_note_139 (fun H locs hD hP hS => ?_)
          have hP : va_P D vwCl (wW 17 ad (va_up E309 8 (.inl (tc 0, 3, .inl (upd (A 8) q (nI t)))))) H := hP
          have hD : va_D (Aw 17 ad) (wW 17 ad (va_up E309 8 (.inl (tc 0, 3, .inl (upd (A 8) q (nI t)))))) := hD
          generalize g329 : va_up E309 8 (.inl (tc 0, 3, .inl (upd (A 8) q (nI t)))) = E328 at hD hP
          have f330 : E328 0 = .inr (7, [.int th, .int st, .int ic, .ref (ad 1), .ref (ad 2), .ref (ad 3), .ref (ad 4), .ref (ad 5), .ref (ad 6), .ref (ad 7), .ref (ad 8), .ref (ad 9), .int (nI cn), .ref (ad 10), .ref (ad 11), .ref (ad 12), .ref (ad 13), .ref (ad 14), .ref (ad 15), .ref (ad 16)]) := by rw [← g329, va_up_ne _ _ (by omega)]; exact f311
          have f331 : E328 1 = .inl (tc 0, 5, .inl (A 1)) := by rw [← g329, va_up_ne _ _ (by omega)]; exact f312
          have f332 : E328 2 = .inl (tc 0, 60, .inl (A 2)) := by rw [← g329, va_up_ne _ _ (by omega)]; exact f313
          have f333 : E328 3 = .inl (tc 0, 60, .inl (A 3)) := by rw [← g329, va_up_ne _ _ (by omega)]; exact f314
          have f334 : E328 4 = .inl (tc 0, 60, .inl (A 4)) := by rw [← g329, va_up_ne _ _ (by omega)]; exact f315
          have f335 : E328 5 = .inl (tc 0, 5, .inl (A 5)) := by rw [← g329, va_up_ne _ _ (by omega)]; exact f316
          have f336 : E328 6 = .inl (tc 0, 5, .inl (A 6)) := by rw [← g329, va_up_ne _ _ (by omega)]; exact f317
          have f337 : E328 7 = .inl (tc 0, 5, .inl (A 7)) := by rw [← g329, va_up_ne _ _ (by omega)]; exact f318
          have f338 : E328 8 = .inl (tc 0, 3, .inl (upd (A 8) q (nI t))) := by rw [← g329]; exact va_up_self _ _ _
          have f339 : E328 9 = .inl (tc 0, 3, .inl (upd (A 9) q (((A 9) q) - 1))) := by rw [← g329, va_up_ne _ _ (by omega)]; exact f320
          have f340 : E328 10 = .inl (tc 0, 200, .inl (upd (A 10) cn (nI t))) := by rw [← g329, va_up_ne _ _ (by omega)]; exact f321
          have f341 : E328 11 = .inl (tc 0, 200, .inl (upd (A 11) cn op)) := by rw [← g329, va_up_ne _ _ (by omega)]; exact f322
          have f342 : E328 12 = .inl (tc 0, 200, .inl (upd (A 12) cn x)) := by rw [← g329, va_up_ne _ _ (by omega)]; exact f323
          have f343 : E328 13 = .inl (tc 2, 200, .inl (upd (upd (A 13) cn (vp_nar .boolean 0)) cn (vp_nar .boolean 1))) := by rw [← g329, va_up_ne _ _ (by omega)]; exact f324
          have f344 : E328 15 = .inl (tc 0, 8, .inl (A 15)) := by rw [← g329, va_up_ne _ _ (by omega)]; exact f325
          have f345 : E328 16 = .inl (tc 0, 8, .inl (A 16)) := by rw [← g329, va_up_ne _ _ (by omega)]; exact f326
          have f346 : E328 14 = .inl (tc 1, 800, .inr (.inl J)) := by rw [← g329, va_up_ne _ _ (by omega)]; exact f327
          refine lv_goto (tgt := 169) hx hb dMD_note_140 rfl ?_
          exact J169 (va_up (va_up (va_up (va_up (va_up (va_up A 8 (upd (A 8) q (nI t))) 9 (upd (A 9) q (((A 9) q) - 1))) 10 (upd (A 10) cn (nI t))) 11 (upd (A 11) cn op)) 12 (upd (A 12) cn x)) 13 (upd (upd (A 13) cn (vp_nar .boolean 0)) cn (vp_nar .boolean 1))) _ _ _ _ ⟨f330, f331, f332, f333, f334, f335, f336, f337, f338, f339, f340, f341, f342, f343, f346, f344, f345⟩ (fun k hk => by rw [va_up_ne _ _ (by omega), va_up_ne _ _ (by omega), va_up_ne _ _ (by omega), va_up_ne _ _ (by omega), va_up_ne _ _ (by omega), va_up_ne _ _ (by omega)]) (fun u => Or.inl (by rw [va_up_ne _ _ (by decide), va_up_ne _ _ (by decide), va_up_ne _ _ (by decide), va_up_ne _ _ (by decide), va_up_ne _ _ (by decide), va_up_ne _ _ (by decide)])) (by rw [va_up_ne _ _ (by decide), va_up_self]; exact pk_us) hD hP hS hl
        · refine lv_iconst (v := (-1)) hx hb dMD_note_134 (by decide) ?_
          refine lv_goto (tgt := 139) hx hb dMD_note_135 rfl ?_
          refine q_iast q X hD hP hS (by omega) (f319) (eq) (by omega) (by decide) dMD_note_139 (fun H locs hD hP hS => ?_)
          have hP : va_P D vwCl (wW 17 ad (va_up E309 8 (.inl (tc 0, 3, .inl (upd (A 8) q (-1)))))) H := hP
          have hD : va_D (Aw 17 ad) (wW 17 ad (va_up E309 8 (.inl (tc 0, 3, .inl (upd (A 8) q (-1)))))) := hD
          generalize g348 : va_up E309 8 (.inl (tc 0, 3, .inl (upd (A 8) q (-1)))) = E347 at hD hP
          have f349 : E347 0 = .inr (7, [.int th, .int st, .int ic, .ref (ad 1), .ref (ad 2), .ref (ad 3), .ref (ad 4), .ref (ad 5), .ref (ad 6), .ref (ad 7), .ref (ad 8), .ref (ad 9), .int (nI cn), .ref (ad 10), .ref (ad 11), .ref (ad 12), .ref (ad 13), .ref (ad 14), .ref (ad 15), .ref (ad 16)]) := by rw [← g348, va_up_ne _ _ (by omega)]; exact f311
          have f350 : E347 1 = .inl (tc 0, 5, .inl (A 1)) := by rw [← g348, va_up_ne _ _ (by omega)]; exact f312
          have f351 : E347 2 = .inl (tc 0, 60, .inl (A 2)) := by rw [← g348, va_up_ne _ _ (by omega)]; exact f313
          have f352 : E347 3 = .inl (tc 0, 60, .inl (A 3)) := by rw [← g348, va_up_ne _ _ (by omega)]; exact f314
          have f353 : E347 4 = .inl (tc 0, 60, .inl (A 4)) := by rw [← g348, va_up_ne _ _ (by omega)]; exact f315
          have f354 : E347 5 = .inl (tc 0, 5, .inl (A 5)) := by rw [← g348, va_up_ne _ _ (by omega)]; exact f316
          have f355 : E347 6 = .inl (tc 0, 5, .inl (A 6)) := by rw [← g348, va_up_ne _ _ (by omega)]; exact f317
          have f356 : E347 7 = .inl (tc 0, 5, .inl (A 7)) := by rw [← g348, va_up_ne _ _ (by omega)]; exact f318
          have f357 : E347 8 = .inl (tc 0, 3, .inl (upd (A 8) q (-1))) := by rw [← g348]; exact va_up_self _ _ _
          have f358 : E347 9 = .inl (tc 0, 3, .inl (upd (A 9) q (((A 9) q) - 1))) := by rw [← g348, va_up_ne _ _ (by omega)]; exact f320
          have f359 : E347 10 = .inl (tc 0, 200, .inl (upd (A 10) cn (nI t))) := by rw [← g348, va_up_ne _ _ (by omega)]; exact f321
          have f360 : E347 11 = .inl (tc 0, 200, .inl (upd (A 11) cn op)) := by rw [← g348, va_up_ne _ _ (by omega)]; exact f322
          have f361 : E347 12 = .inl (tc 0, 200, .inl (upd (A 12) cn x)) := by rw [← g348, va_up_ne _ _ (by omega)]; exact f323
          have f362 : E347 13 = .inl (tc 2, 200, .inl (upd (upd (A 13) cn (vp_nar .boolean 0)) cn (vp_nar .boolean 1))) := by rw [← g348, va_up_ne _ _ (by omega)]; exact f324
          have f363 : E347 15 = .inl (tc 0, 8, .inl (A 15)) := by rw [← g348, va_up_ne _ _ (by omega)]; exact f325
          have f364 : E347 16 = .inl (tc 0, 8, .inl (A 16)) := by rw [← g348, va_up_ne _ _ (by omega)]; exact f326
          have f365 : E347 14 = .inl (tc 1, 800, .inr (.inl J)) := by rw [← g348, va_up_ne _ _ (by omega)]; exact f327
          refine lv_goto (tgt := 169) hx hb dMD_note_140 rfl ?_
          exact J169 (va_up (va_up (va_up (va_up (va_up (va_up A 8 (upd (A 8) q (-1))) 9 (upd (A 9) q (((A 9) q) - 1))) 10 (upd (A 10) cn (nI t))) 11 (upd (A 11) cn op)) 12 (upd (A 12) cn x)) 13 (upd (upd (A 13) cn (vp_nar .boolean 0)) cn (vp_nar .boolean 1))) _ _ _ _ ⟨f349, f350, f351, f352, f353, f354, f355, f356, f357, f358, f359, f360, f361, f362, f365, f363, f364⟩ (fun k hk => by rw [va_up_ne _ _ (by omega), va_up_ne _ _ (by omega), va_up_ne _ _ (by omega), va_up_ne _ _ (by omega), va_up_ne _ _ (by omega), va_up_ne _ _ (by omega)]) (fun u => Or.inl (by rw [va_up_ne _ _ (by decide), va_up_ne _ _ (by decide), va_up_ne _ _ (by decide), va_up_ne _ _ (by decide), va_up_ne _ _ (by decide), va_up_ne _ _ (by decide)])) (by rw [va_up_ne _ _ (by decide), va_up_self]; exact pk_us) hD hP hS hl
  · obtain ⟨q, hq, eq⟩ := hx2 (Or.inl h40)
    refine lv_aload_n hx hb dMD_note_43 rfl (lv_at hl 1 rfl) ?_
    refine g_MD_46 X hP (by omega) (f178) rfl dMD_note_44 ?_
    refine lv_iload hx hb dMD_note_47 (lv_at hl 0 rfl) ?_
    refine lv_aload_n hx hb dMD_note_49 rfl (lv_at hl 1 rfl) ?_
    refine g_MD_34 X hP (by omega) (f178) rfl dMD_note_50 ?_
    refine lv_iload_n hx hb dMD_note_53 rfl (lv_at hl 4 rfl) ?_
    refine q_iald q X hP (by omega) (f187) (eq) (by omega) (by decide) dMD_note_54 ?_
    refine lv_if_ne (tgt := 62) hx hb dMD_note_55 rfl (fun h55 => ?_) (fun h55 => ?_)
    · refine lv_iconst (v := 0) hx hb dMD_note_62 (by decide) ?_
      refine q_zast cn X hD hP hS (by omega) (f191) (rfl) (by omega) (by decide) dMD_note_63 (fun H locs hD hP hS => ?_)
      have hP : va_P D vwCl (wW 17 ad (va_up E176 13 (.inl (tc 2, 200, .inl (upd (upd (A 13) cn (vp_nar .boolean 0)) cn (vp_nar .boolean 0)))))) H := hP
      have hD : va_D (Aw 17 ad) (wW 17 ad (va_up E176 13 (.inl (tc 2, 200, .inl (upd (upd (A 13) cn (vp_nar .boolean 0)) cn (vp_nar .boolean 0)))))) := hD
      generalize g367 : va_up E176 13 (.inl (tc 2, 200, .inl (upd (upd (A 13) cn (vp_nar .boolean 0)) cn (vp_nar .boolean 0)))) = E366 at hD hP
      have f368 : E366 0 = .inr (7, [.int th, .int st, .int ic, .ref (ad 1), .ref (ad 2), .ref (ad 3), .ref (ad 4), .ref (ad 5), .ref (ad 6), .ref (ad 7), .ref (ad 8), .ref (ad 9), .int (nI cn), .ref (ad 10), .ref (ad 11), .ref (ad 12), .ref (ad 13), .ref (ad 14), .ref (ad 15), .ref (ad 16)]) := by rw [← g367, va_up_ne _ _ (by omega)]; exact f178
      have f369 : E366 1 = .inl (tc 0, 5, .inl (A 1)) := by rw [← g367, va_up_ne _ _ (by omega)]; exact f179
      have f370 : E366 2 = .inl (tc 0, 60, .inl (A 2)) := by rw [← g367, va_up_ne _ _ (by omega)]; exact f180
      have f371 : E366 3 = .inl (tc 0, 60, .inl (A 3)) := by rw [← g367, va_up_ne _ _ (by omega)]; exact f181
      have f372 : E366 4 = .inl (tc 0, 60, .inl (A 4)) := by rw [← g367, va_up_ne _ _ (by omega)]; exact f182
      have f373 : E366 5 = .inl (tc 0, 5, .inl (A 5)) := by rw [← g367, va_up_ne _ _ (by omega)]; exact f183
      have f374 : E366 6 = .inl (tc 0, 5, .inl (A 6)) := by rw [← g367, va_up_ne _ _ (by omega)]; exact f184
      have f375 : E366 7 = .inl (tc 0, 5, .inl (A 7)) := by rw [← g367, va_up_ne _ _ (by omega)]; exact f185
      have f376 : E366 8 = .inl (tc 0, 3, .inl (A 8)) := by rw [← g367, va_up_ne _ _ (by omega)]; exact f186
      have f377 : E366 9 = .inl (tc 0, 3, .inl (A 9)) := by rw [← g367, va_up_ne _ _ (by omega)]; exact f187
      have f378 : E366 10 = .inl (tc 0, 200, .inl (upd (A 10) cn (nI t))) := by rw [← g367, va_up_ne _ _ (by omega)]; exact f188
      have f379 : E366 11 = .inl (tc 0, 200, .inl (upd (A 11) cn op)) := by rw [← g367, va_up_ne _ _ (by omega)]; exact f189
      have f380 : E366 12 = .inl (tc 0, 200, .inl (upd (A 12) cn x)) := by rw [← g367, va_up_ne _ _ (by omega)]; exact f190
      have f381 : E366 13 = .inl (tc 2, 200, .inl (upd (upd (A 13) cn (vp_nar .boolean 0)) cn (vp_nar .boolean 0))) := by rw [← g367]; exact va_up_self _ _ _
      have f382 : E366 15 = .inl (tc 0, 8, .inl (A 15)) := by rw [← g367, va_up_ne _ _ (by omega)]; exact f192
      have f383 : E366 16 = .inl (tc 0, 8, .inl (A 16)) := by rw [← g367, va_up_ne _ _ (by omega)]; exact f193
      have f384 : E366 14 = .inl (tc 1, 800, .inr (.inl J)) := by rw [← g367, va_up_ne _ _ (by omega)]; exact f194
      refine lv_aload_n hx hb dMD_note_64 rfl (lv_at hl 1 rfl) ?_
      refine g_MD_31 X hP (by omega) (f368) rfl dMD_note_65 ?_
      refine lv_iload_n hx hb dMD_note_68 rfl (lv_at hl 4 rfl) ?_
      refine lv_iload_n hx hb dMD_note_69 rfl (lv_at hl 2 rfl) ?_
      refine q_iast q X hD hP hS (by omega) (f376) (eq) (by omega) (by decide) dMD_note_70 (fun H locs hD hP hS => ?_)
      have hP : va_P D vwCl (wW 17 ad (va_up E366 8 (.inl (tc 0, 3, .inl (upd (A 8) q (nI t)))))) H := hP
      have hD : va_D (Aw 17 ad) (wW 17 ad (va_up E366 8 (.inl (tc 0, 3, .inl (upd (A 8) q (nI t)))))) := hD
      generalize g386 : va_up E366 8 (.inl (tc 0, 3, .inl (upd (A 8) q (nI t)))) = E385 at hD hP
      have f387 : E385 0 = .inr (7, [.int th, .int st, .int ic, .ref (ad 1), .ref (ad 2), .ref (ad 3), .ref (ad 4), .ref (ad 5), .ref (ad 6), .ref (ad 7), .ref (ad 8), .ref (ad 9), .int (nI cn), .ref (ad 10), .ref (ad 11), .ref (ad 12), .ref (ad 13), .ref (ad 14), .ref (ad 15), .ref (ad 16)]) := by rw [← g386, va_up_ne _ _ (by omega)]; exact f368
      have f388 : E385 1 = .inl (tc 0, 5, .inl (A 1)) := by rw [← g386, va_up_ne _ _ (by omega)]; exact f369
      have f389 : E385 2 = .inl (tc 0, 60, .inl (A 2)) := by rw [← g386, va_up_ne _ _ (by omega)]; exact f370
      have f390 : E385 3 = .inl (tc 0, 60, .inl (A 3)) := by rw [← g386, va_up_ne _ _ (by omega)]; exact f371
      have f391 : E385 4 = .inl (tc 0, 60, .inl (A 4)) := by rw [← g386, va_up_ne _ _ (by omega)]; exact f372
      have f392 : E385 5 = .inl (tc 0, 5, .inl (A 5)) := by rw [← g386, va_up_ne _ _ (by omega)]; exact f373
      have f393 : E385 6 = .inl (tc 0, 5, .inl (A 6)) := by rw [← g386, va_up_ne _ _ (by omega)]; exact f374
      have f394 : E385 7 = .inl (tc 0, 5, .inl (A 7)) := by rw [← g386, va_up_ne _ _ (by omega)]; exact f375
      have f395 : E385 8 = .inl (tc 0, 3, .inl (upd (A 8) q (nI t))) := by rw [← g386]; exact va_up_self _ _ _
      have f396 : E385 9 = .inl (tc 0, 3, .inl (A 9)) := by rw [← g386, va_up_ne _ _ (by omega)]; exact f377
      have f397 : E385 10 = .inl (tc 0, 200, .inl (upd (A 10) cn (nI t))) := by rw [← g386, va_up_ne _ _ (by omega)]; exact f378
      have f398 : E385 11 = .inl (tc 0, 200, .inl (upd (A 11) cn op)) := by rw [← g386, va_up_ne _ _ (by omega)]; exact f379
      have f399 : E385 12 = .inl (tc 0, 200, .inl (upd (A 12) cn x)) := by rw [← g386, va_up_ne _ _ (by omega)]; exact f380
      have f400 : E385 13 = .inl (tc 2, 200, .inl (upd (upd (A 13) cn (vp_nar .boolean 0)) cn (vp_nar .boolean 0))) := by rw [← g386, va_up_ne _ _ (by omega)]; exact f381
      have f401 : E385 15 = .inl (tc 0, 8, .inl (A 15)) := by rw [← g386, va_up_ne _ _ (by omega)]; exact f382
      have f402 : E385 16 = .inl (tc 0, 8, .inl (A 16)) := by rw [← g386, va_up_ne _ _ (by omega)]; exact f383
      have f403 : E385 14 = .inl (tc 1, 800, .inr (.inl J)) := by rw [← g386, va_up_ne _ _ (by omega)]; exact f384
      refine lv_aload_n hx hb dMD_note_71 rfl (lv_at hl 1 rfl) ?_
      refine g_MD_34 X hP (by omega) (f387) rfl dMD_note_72 ?_
      refine lv_iload_n hx hb dMD_note_75 rfl (lv_at hl 4 rfl) ?_
      refine lv_dup2_11 hx hb dMD_note_76 rfl rfl ?_
      refine q_iald q X hP (by omega) (f396) (eq) (by omega) (by decide) dMD_note_77 ?_
      refine lv_iconst (v := 1) hx hb dMD_note_78 (by decide) ?_
      refine lv_iadd hx hb dMD_note_79 ?_
      refine q_iast q X hD hP hS (by omega) (f396) (eq) (by omega) (by decide) dMD_note_80 (fun H locs hD hP hS => ?_)
      have hP : va_P D vwCl (wW 17 ad (va_up E385 9 (.inl (tc 0, 3, .inl (upd (A 9) q (((A 9) q) + 1)))))) H := hP
      have hD : va_D (Aw 17 ad) (wW 17 ad (va_up E385 9 (.inl (tc 0, 3, .inl (upd (A 9) q (((A 9) q) + 1)))))) := hD
      generalize g405 : va_up E385 9 (.inl (tc 0, 3, .inl (upd (A 9) q (((A 9) q) + 1)))) = E404 at hD hP
      have f406 : E404 0 = .inr (7, [.int th, .int st, .int ic, .ref (ad 1), .ref (ad 2), .ref (ad 3), .ref (ad 4), .ref (ad 5), .ref (ad 6), .ref (ad 7), .ref (ad 8), .ref (ad 9), .int (nI cn), .ref (ad 10), .ref (ad 11), .ref (ad 12), .ref (ad 13), .ref (ad 14), .ref (ad 15), .ref (ad 16)]) := by rw [← g405, va_up_ne _ _ (by omega)]; exact f387
      have f407 : E404 1 = .inl (tc 0, 5, .inl (A 1)) := by rw [← g405, va_up_ne _ _ (by omega)]; exact f388
      have f408 : E404 2 = .inl (tc 0, 60, .inl (A 2)) := by rw [← g405, va_up_ne _ _ (by omega)]; exact f389
      have f409 : E404 3 = .inl (tc 0, 60, .inl (A 3)) := by rw [← g405, va_up_ne _ _ (by omega)]; exact f390
      have f410 : E404 4 = .inl (tc 0, 60, .inl (A 4)) := by rw [← g405, va_up_ne _ _ (by omega)]; exact f391
      have f411 : E404 5 = .inl (tc 0, 5, .inl (A 5)) := by rw [← g405, va_up_ne _ _ (by omega)]; exact f392
      have f412 : E404 6 = .inl (tc 0, 5, .inl (A 6)) := by rw [← g405, va_up_ne _ _ (by omega)]; exact f393
      have f413 : E404 7 = .inl (tc 0, 5, .inl (A 7)) := by rw [← g405, va_up_ne _ _ (by omega)]; exact f394
      have f414 : E404 8 = .inl (tc 0, 3, .inl (upd (A 8) q (nI t))) := by rw [← g405, va_up_ne _ _ (by omega)]; exact f395
      have f415 : E404 9 = .inl (tc 0, 3, .inl (upd (A 9) q (((A 9) q) + 1))) := by rw [← g405]; exact va_up_self _ _ _
      have f416 : E404 10 = .inl (tc 0, 200, .inl (upd (A 10) cn (nI t))) := by rw [← g405, va_up_ne _ _ (by omega)]; exact f397
      have f417 : E404 11 = .inl (tc 0, 200, .inl (upd (A 11) cn op)) := by rw [← g405, va_up_ne _ _ (by omega)]; exact f398
      have f418 : E404 12 = .inl (tc 0, 200, .inl (upd (A 12) cn x)) := by rw [← g405, va_up_ne _ _ (by omega)]; exact f399
      have f419 : E404 13 = .inl (tc 2, 200, .inl (upd (upd (A 13) cn (vp_nar .boolean 0)) cn (vp_nar .boolean 0))) := by rw [← g405, va_up_ne _ _ (by omega)]; exact f400
      have f420 : E404 15 = .inl (tc 0, 8, .inl (A 15)) := by rw [← g405, va_up_ne _ _ (by omega)]; exact f401
      have f421 : E404 16 = .inl (tc 0, 8, .inl (A 16)) := by rw [← g405, va_up_ne _ _ (by omega)]; exact f402
      have f422 : E404 14 = .inl (tc 1, 800, .inr (.inl J)) := by rw [← g405, va_up_ne _ _ (by omega)]; exact f403
      refine lv_goto (tgt := 169) hx hb dMD_note_81 rfl ?_
      exact J169 (va_up (va_up (va_up (va_up (va_up (va_up A 8 (upd (A 8) q (nI t))) 9 (upd (A 9) q (((A 9) q) + 1))) 10 (upd (A 10) cn (nI t))) 11 (upd (A 11) cn op)) 12 (upd (A 12) cn x)) 13 (upd (upd (A 13) cn (vp_nar .boolean 0)) cn (vp_nar .boolean 0))) _ _ _ _ ⟨f406, f407, f408, f409, f410, f411, f412, f413, f414, f415, f416, f417, f418, f419, f422, f420, f421⟩ (fun k hk => by rw [va_up_ne _ _ (by omega), va_up_ne _ _ (by omega), va_up_ne _ _ (by omega), va_up_ne _ _ (by omega), va_up_ne _ _ (by omega), va_up_ne _ _ (by omega)]) (fun u => Or.inl (by rw [va_up_ne _ _ (by decide), va_up_ne _ _ (by decide), va_up_ne _ _ (by decide), va_up_ne _ _ (by decide), va_up_ne _ _ (by decide), va_up_ne _ _ (by decide)])) (by rw [va_up_ne _ _ (by decide), va_up_self]; exact pk_us) hD hP hS hl
    · refine lv_iconst (v := 1) hx hb dMD_note_58 (by decide) ?_
      refine lv_goto (tgt := 63) hx hb dMD_note_59 rfl ?_
      refine q_zast cn X hD hP hS (by omega) (f191) (rfl) (by omega) (by decide) dMD_note_63 (fun H locs hD hP hS => ?_)
      have hP : va_P D vwCl (wW 17 ad (va_up E176 13 (.inl (tc 2, 200, .inl (upd (upd (A 13) cn (vp_nar .boolean 0)) cn (vp_nar .boolean 1)))))) H := hP
      have hD : va_D (Aw 17 ad) (wW 17 ad (va_up E176 13 (.inl (tc 2, 200, .inl (upd (upd (A 13) cn (vp_nar .boolean 0)) cn (vp_nar .boolean 1)))))) := hD
      generalize g424 : va_up E176 13 (.inl (tc 2, 200, .inl (upd (upd (A 13) cn (vp_nar .boolean 0)) cn (vp_nar .boolean 1)))) = E423 at hD hP
      have f425 : E423 0 = .inr (7, [.int th, .int st, .int ic, .ref (ad 1), .ref (ad 2), .ref (ad 3), .ref (ad 4), .ref (ad 5), .ref (ad 6), .ref (ad 7), .ref (ad 8), .ref (ad 9), .int (nI cn), .ref (ad 10), .ref (ad 11), .ref (ad 12), .ref (ad 13), .ref (ad 14), .ref (ad 15), .ref (ad 16)]) := by rw [← g424, va_up_ne _ _ (by omega)]; exact f178
      have f426 : E423 1 = .inl (tc 0, 5, .inl (A 1)) := by rw [← g424, va_up_ne _ _ (by omega)]; exact f179
      have f427 : E423 2 = .inl (tc 0, 60, .inl (A 2)) := by rw [← g424, va_up_ne _ _ (by omega)]; exact f180
      have f428 : E423 3 = .inl (tc 0, 60, .inl (A 3)) := by rw [← g424, va_up_ne _ _ (by omega)]; exact f181
      have f429 : E423 4 = .inl (tc 0, 60, .inl (A 4)) := by rw [← g424, va_up_ne _ _ (by omega)]; exact f182
      have f430 : E423 5 = .inl (tc 0, 5, .inl (A 5)) := by rw [← g424, va_up_ne _ _ (by omega)]; exact f183
      have f431 : E423 6 = .inl (tc 0, 5, .inl (A 6)) := by rw [← g424, va_up_ne _ _ (by omega)]; exact f184
      have f432 : E423 7 = .inl (tc 0, 5, .inl (A 7)) := by rw [← g424, va_up_ne _ _ (by omega)]; exact f185
      have f433 : E423 8 = .inl (tc 0, 3, .inl (A 8)) := by rw [← g424, va_up_ne _ _ (by omega)]; exact f186
      have f434 : E423 9 = .inl (tc 0, 3, .inl (A 9)) := by rw [← g424, va_up_ne _ _ (by omega)]; exact f187
      have f435 : E423 10 = .inl (tc 0, 200, .inl (upd (A 10) cn (nI t))) := by rw [← g424, va_up_ne _ _ (by omega)]; exact f188
      have f436 : E423 11 = .inl (tc 0, 200, .inl (upd (A 11) cn op)) := by rw [← g424, va_up_ne _ _ (by omega)]; exact f189
      have f437 : E423 12 = .inl (tc 0, 200, .inl (upd (A 12) cn x)) := by rw [← g424, va_up_ne _ _ (by omega)]; exact f190
      have f438 : E423 13 = .inl (tc 2, 200, .inl (upd (upd (A 13) cn (vp_nar .boolean 0)) cn (vp_nar .boolean 1))) := by rw [← g424]; exact va_up_self _ _ _
      have f439 : E423 15 = .inl (tc 0, 8, .inl (A 15)) := by rw [← g424, va_up_ne _ _ (by omega)]; exact f192
      have f440 : E423 16 = .inl (tc 0, 8, .inl (A 16)) := by rw [← g424, va_up_ne _ _ (by omega)]; exact f193
      have f441 : E423 14 = .inl (tc 1, 800, .inr (.inl J)) := by rw [← g424, va_up_ne _ _ (by omega)]; exact f194
      refine lv_aload_n hx hb dMD_note_64 rfl (lv_at hl 1 rfl) ?_
      refine g_MD_31 X hP (by omega) (f425) rfl dMD_note_65 ?_
      refine lv_iload_n hx hb dMD_note_68 rfl (lv_at hl 4 rfl) ?_
      refine lv_iload_n hx hb dMD_note_69 rfl (lv_at hl 2 rfl) ?_
      refine q_iast q X hD hP hS (by omega) (f433) (eq) (by omega) (by decide) dMD_note_70 (fun H locs hD hP hS => ?_)
      have hP : va_P D vwCl (wW 17 ad (va_up E423 8 (.inl (tc 0, 3, .inl (upd (A 8) q (nI t)))))) H := hP
      have hD : va_D (Aw 17 ad) (wW 17 ad (va_up E423 8 (.inl (tc 0, 3, .inl (upd (A 8) q (nI t)))))) := hD
      generalize g443 : va_up E423 8 (.inl (tc 0, 3, .inl (upd (A 8) q (nI t)))) = E442 at hD hP
      have f444 : E442 0 = .inr (7, [.int th, .int st, .int ic, .ref (ad 1), .ref (ad 2), .ref (ad 3), .ref (ad 4), .ref (ad 5), .ref (ad 6), .ref (ad 7), .ref (ad 8), .ref (ad 9), .int (nI cn), .ref (ad 10), .ref (ad 11), .ref (ad 12), .ref (ad 13), .ref (ad 14), .ref (ad 15), .ref (ad 16)]) := by rw [← g443, va_up_ne _ _ (by omega)]; exact f425
      have f445 : E442 1 = .inl (tc 0, 5, .inl (A 1)) := by rw [← g443, va_up_ne _ _ (by omega)]; exact f426
      have f446 : E442 2 = .inl (tc 0, 60, .inl (A 2)) := by rw [← g443, va_up_ne _ _ (by omega)]; exact f427
      have f447 : E442 3 = .inl (tc 0, 60, .inl (A 3)) := by rw [← g443, va_up_ne _ _ (by omega)]; exact f428
      have f448 : E442 4 = .inl (tc 0, 60, .inl (A 4)) := by rw [← g443, va_up_ne _ _ (by omega)]; exact f429
      have f449 : E442 5 = .inl (tc 0, 5, .inl (A 5)) := by rw [← g443, va_up_ne _ _ (by omega)]; exact f430
      have f450 : E442 6 = .inl (tc 0, 5, .inl (A 6)) := by rw [← g443, va_up_ne _ _ (by omega)]; exact f431
      have f451 : E442 7 = .inl (tc 0, 5, .inl (A 7)) := by rw [← g443, va_up_ne _ _ (by omega)]; exact f432
      have f452 : E442 8 = .inl (tc 0, 3, .inl (upd (A 8) q (nI t))) := by rw [← g443]; exact va_up_self _ _ _
      have f453 : E442 9 = .inl (tc 0, 3, .inl (A 9)) := by rw [← g443, va_up_ne _ _ (by omega)]; exact f434
      have f454 : E442 10 = .inl (tc 0, 200, .inl (upd (A 10) cn (nI t))) := by rw [← g443, va_up_ne _ _ (by omega)]; exact f435
      have f455 : E442 11 = .inl (tc 0, 200, .inl (upd (A 11) cn op)) := by rw [← g443, va_up_ne _ _ (by omega)]; exact f436
      have f456 : E442 12 = .inl (tc 0, 200, .inl (upd (A 12) cn x)) := by rw [← g443, va_up_ne _ _ (by omega)]; exact f437
      have f457 : E442 13 = .inl (tc 2, 200, .inl (upd (upd (A 13) cn (vp_nar .boolean 0)) cn (vp_nar .boolean 1))) := by rw [← g443, va_up_ne _ _ (by omega)]; exact f438
      have f458 : E442 15 = .inl (tc 0, 8, .inl (A 15)) := by rw [← g443, va_up_ne _ _ (by omega)]; exact f439
      have f459 : E442 16 = .inl (tc 0, 8, .inl (A 16)) := by rw [← g443, va_up_ne _ _ (by omega)]; exact f440
      have f460 : E442 14 = .inl (tc 1, 800, .inr (.inl J)) := by rw [← g443, va_up_ne _ _ (by omega)]; exact f441
      refine lv_aload_n hx hb dMD_note_71 rfl (lv_at hl 1 rfl) ?_
      refine g_MD_34 X hP (by omega) (f444) rfl dMD_note_72 ?_
      refine lv_iload_n hx hb dMD_note_75 rfl (lv_at hl 4 rfl) ?_
      refine lv_dup2_11 hx hb dMD_note_76 rfl rfl ?_
      refine q_iald q X hP (by omega) (f453) (eq) (by omega) (by decide) dMD_note_77 ?_
      refine lv_iconst (v := 1) hx hb dMD_note_78 (by decide) ?_
      refine lv_iadd hx hb dMD_note_79 ?_
      refine q_iast q X hD hP hS (by omega) (f453) (eq) (by omega) (by decide) dMD_note_80 (fun H locs hD hP hS => ?_)
      have hP : va_P D vwCl (wW 17 ad (va_up E442 9 (.inl (tc 0, 3, .inl (upd (A 9) q (((A 9) q) + 1)))))) H := hP
      have hD : va_D (Aw 17 ad) (wW 17 ad (va_up E442 9 (.inl (tc 0, 3, .inl (upd (A 9) q (((A 9) q) + 1)))))) := hD
      generalize g462 : va_up E442 9 (.inl (tc 0, 3, .inl (upd (A 9) q (((A 9) q) + 1)))) = E461 at hD hP
      have f463 : E461 0 = .inr (7, [.int th, .int st, .int ic, .ref (ad 1), .ref (ad 2), .ref (ad 3), .ref (ad 4), .ref (ad 5), .ref (ad 6), .ref (ad 7), .ref (ad 8), .ref (ad 9), .int (nI cn), .ref (ad 10), .ref (ad 11), .ref (ad 12), .ref (ad 13), .ref (ad 14), .ref (ad 15), .ref (ad 16)]) := by rw [← g462, va_up_ne _ _ (by omega)]; exact f444
      have f464 : E461 1 = .inl (tc 0, 5, .inl (A 1)) := by rw [← g462, va_up_ne _ _ (by omega)]; exact f445
      have f465 : E461 2 = .inl (tc 0, 60, .inl (A 2)) := by rw [← g462, va_up_ne _ _ (by omega)]; exact f446
      have f466 : E461 3 = .inl (tc 0, 60, .inl (A 3)) := by rw [← g462, va_up_ne _ _ (by omega)]; exact f447
      have f467 : E461 4 = .inl (tc 0, 60, .inl (A 4)) := by rw [← g462, va_up_ne _ _ (by omega)]; exact f448
      have f468 : E461 5 = .inl (tc 0, 5, .inl (A 5)) := by rw [← g462, va_up_ne _ _ (by omega)]; exact f449
      have f469 : E461 6 = .inl (tc 0, 5, .inl (A 6)) := by rw [← g462, va_up_ne _ _ (by omega)]; exact f450
      have f470 : E461 7 = .inl (tc 0, 5, .inl (A 7)) := by rw [← g462, va_up_ne _ _ (by omega)]; exact f451
      have f471 : E461 8 = .inl (tc 0, 3, .inl (upd (A 8) q (nI t))) := by rw [← g462, va_up_ne _ _ (by omega)]; exact f452
      have f472 : E461 9 = .inl (tc 0, 3, .inl (upd (A 9) q (((A 9) q) + 1))) := by rw [← g462]; exact va_up_self _ _ _
      have f473 : E461 10 = .inl (tc 0, 200, .inl (upd (A 10) cn (nI t))) := by rw [← g462, va_up_ne _ _ (by omega)]; exact f454
      have f474 : E461 11 = .inl (tc 0, 200, .inl (upd (A 11) cn op)) := by rw [← g462, va_up_ne _ _ (by omega)]; exact f455
      have f475 : E461 12 = .inl (tc 0, 200, .inl (upd (A 12) cn x)) := by rw [← g462, va_up_ne _ _ (by omega)]; exact f456
      have f476 : E461 13 = .inl (tc 2, 200, .inl (upd (upd (A 13) cn (vp_nar .boolean 0)) cn (vp_nar .boolean 1))) := by rw [← g462, va_up_ne _ _ (by omega)]; exact f457
      have f477 : E461 15 = .inl (tc 0, 8, .inl (A 15)) := by rw [← g462, va_up_ne _ _ (by omega)]; exact f458
      have f478 : E461 16 = .inl (tc 0, 8, .inl (A 16)) := by rw [← g462, va_up_ne _ _ (by omega)]; exact f459
      have f479 : E461 14 = .inl (tc 1, 800, .inr (.inl J)) := by rw [← g462, va_up_ne _ _ (by omega)]; exact f460
      refine lv_goto (tgt := 169) hx hb dMD_note_81 rfl ?_
      exact J169 (va_up (va_up (va_up (va_up (va_up (va_up A 8 (upd (A 8) q (nI t))) 9 (upd (A 9) q (((A 9) q) + 1))) 10 (upd (A 10) cn (nI t))) 11 (upd (A 11) cn op)) 12 (upd (A 12) cn x)) 13 (upd (upd (A 13) cn (vp_nar .boolean 0)) cn (vp_nar .boolean 1))) _ _ _ _ ⟨f463, f464, f465, f466, f467, f468, f469, f470, f471, f472, f473, f474, f475, f476, f479, f477, f478⟩ (fun k hk => by rw [va_up_ne _ _ (by omega), va_up_ne _ _ (by omega), va_up_ne _ _ (by omega), va_up_ne _ _ (by omega), va_up_ne _ _ (by omega), va_up_ne _ _ (by omega)]) (fun u => Or.inl (by rw [va_up_ne _ _ (by decide), va_up_ne _ _ (by decide), va_up_ne _ _ (by decide), va_up_ne _ _ (by decide), va_up_ne _ _ (by decide), va_up_ne _ _ (by decide)])) (by rw [va_up_ne _ _ (by decide), va_up_self]; exact pk_us) hD hP hS hl

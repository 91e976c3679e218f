theorem dX11_write_69 : decode cX11_write 69 = .ok (.aload_n 0, 1) := by decide +kernel
theorem dX11_write_70 : decode cX11_write 70 = .ok (.getfield 222, 3) := by decide +kernel
theorem dX11_write_73 : decode cX11_write 73 = .ok (.bipush 32, 2) := by decide +kernel
theorem dX11_write_75 : decode cX11_write 75 = .ok (.iload_n 1, 1) := by decide +kernel
theorem dX11_write_76 : decode cX11_write 76 = .ok (.imul, 1) := by decide +kernel
theorem dX11_write_77 : decode cX11_write 77 = .ok (.aload_n 0, 1) := by decide +kernel
theorem dX11_write_78 : decode cX11_write 78 = .ok (.getfield 204, 3) := by decide +kernel
theorem dX11_write_81 : decode cX11_write 81 = .ok (.iload_n 1, 1) := by decide +kernel
theorem dX11_write_82 : decode cX11_write 82 = .ok (.iaload, 1) := by decide +kernel
theorem dX11_write_83 : decode cX11_write 83 = .ok (.aload_n 0, 1) := by decide +kernel
theorem dX11_write_84 : decode cX11_write 84 = .ok (.getfield 243, 3) := by decide +kernel
theorem dX11_write_87 : decode cX11_write 87 = .ok (.iconst 0, 1) := by decide +kernel
theorem dX11_write_88 : decode cX11_write 88 = .ok (.aload_n 0, 1) := by decide +kernel
theorem dX11_write_89 : decode cX11_write 89 = .ok (.getfield 418, 3) := by decide +kernel
theorem dX11_write_92 : decode cX11_write 92 = .ok (.invokevirtual 421, 3) := by decide +kernel
theorem dX11_write_95 : decode cX11_write 95 = .ok (.aload_n 0, 1) := by decide +kernel
theorem dX11_write_96 : decode cX11_write 96 = .ok (.aload_n 0, 1) := by decide +kernel
theorem dX11_write_97 : decode cX11_write 97 = .ok (.getfield 222, 3) := by decide +kernel
theorem dX11_write_100 : decode cX11_write 100 = .ok (.bipush 32, 2) := by decide +kernel
theorem dX11_write_102 : decode cX11_write 102 = .ok (.iload_n 1, 1) := by decide +kernel
theorem dX11_write_103 : decode cX11_write 103 = .ok (.imul, 1) := by decide +kernel
theorem dX11_write_104 : decode cX11_write 104 = .ok (.aload_n 0, 1) := by decide +kernel
theorem dX11_write_105 : decode cX11_write 105 = .ok (.getfield 204, 3) := by decide +kernel
theorem dX11_write_108 : decode cX11_write 108 = .ok (.iload_n 1, 1) := by decide +kernel
theorem dX11_write_109 : decode cX11_write 109 = .ok (.iaload, 1) := by decide +kernel
theorem dX11_write_110 : decode cX11_write 110 = .ok (.aload_n 0, 1) := by decide +kernel
theorem dX11_write_111 : decode cX11_write 111 = .ok (.getfield 219, 3) := by decide +kernel
theorem dX11_write_114 : decode cX11_write 114 = .ok (.iconst 0, 1) := by decide +kernel
theorem dX11_write_115 : decode cX11_write 115 = .ok (.iconst 0, 1) := by decide +kernel
theorem dX11_write_116 : decode cX11_write 116 = .ok (.aload_n 0, 1) := by decide +kernel
theorem dX11_write_117 : decode cX11_write 117 = .ok (.getfield 243, 3) := by decide +kernel
theorem dX11_write_120 : decode cX11_write 120 = .ok (.iconst 0, 1) := by decide +kernel
theorem dX11_write_121 : decode cX11_write 121 = .ok (.aload_n 0, 1) := by decide +kernel
theorem dX11_write_122 : decode cX11_write 122 = .ok (.getfield 418, 3) := by decide +kernel
theorem dX11_write_125 : decode cX11_write 125 = .ok (.invokevirtual 425, 3) := by decide +kernel
theorem dX11_write_128 : decode cX11_write 128 = .ok (.aload_n 0, 1) := by decide +kernel
theorem dX11_write_129 : decode cX11_write 129 = .ok (.getfield 149, 3) := by decide +kernel
theorem dX11_write_132 : decode cX11_write 132 = .ok (.iconst 0, 1) := by decide +kernel
theorem dX11_write_133 : decode cX11_write 133 = .ok (.aload_n 0, 1) := by decide +kernel
theorem dX11_write_134 : decode cX11_write 134 = .ok (.getfield 243, 3) := by decide +kernel
theorem dX11_write_137 : decode cX11_write 137 = .ok (.aload_n 0, 1) := by decide +kernel
theorem dX11_write_138 : decode cX11_write 138 = .ok (.getfield 418, 3) := by decide +kernel
theorem dX11_write_141 : decode cX11_write 141 = .ok (.bipush 16, 2) := by decide +kernel
theorem dX11_write_143 : decode cX11_write 143 = .ok (.invokestatic 270, 3) := by decide +kernel
theorem dX11_write_146 : decode cX11_write 146 = .ok (.aload_n 0, 1) := by decide +kernel
theorem dX11_write_147 : decode cX11_write 147 = .ok (.getfield 204, 3) := by decide +kernel
theorem dX11_write_150 : decode cX11_write 150 = .ok (.iload_n 1, 1) := by decide +kernel
theorem dX11_write_151 : decode cX11_write 151 = .ok (.dup2, 1) := by decide +kernel
theorem dX11_write_152 : decode cX11_write 152 = .ok (.iaload, 1) := by decide +kernel
theorem dX11_write_153 : decode cX11_write 153 = .ok (.iconst 1, 1) := by decide +kernel
theorem dX11_write_154 : decode cX11_write 154 = .ok (.iadd, 1) := by decide +kernel
theorem dX11_write_155 : decode cX11_write 155 = .ok (.iastore, 1) := by decide +kernel
theorem dX11_write_156 : decode cX11_write 156 = .ok (.aload_n 0, 1) := by decide +kernel
theorem dX11_write_157 : decode cX11_write 157 = .ok (.getfield 418, 3) := by decide +kernel
theorem dX11_write_160 : decode cX11_write 160 = .ok (.bipush 16, 2) := by decide +kernel
theorem dX11_write_162 : decode cX11_write 162 = .ok (.iadd, 1) := by decide +kernel
theorem dX11_write_163 : decode cX11_write 163 = .ok (.istore_n 2, 1) := by decide +kernel
theorem dX11_write_164 : decode cX11_write 164 = .ok (.goto 97, 3) := by decide +kernel
theorem dX11_write_167 : decode cX11_write 167 = .ok (.bipush 6, 2) := by decide +kernel
theorem dX11_write_169 : decode cX11_write 169 = .ok (.aload_n 0, 1) := by decide +kernel
theorem dX11_write_170 : decode cX11_write 170 = .ok (.getfield 177, 3) := by decide +kernel
theorem dX11_write_173 : decode cX11_write 173 = .ok (.iload_n 1, 1) := by decide +kernel
theorem dX11_write_174 : decode cX11_write 174 = .ok (.iaload, 1) := by decide +kernel
theorem dX11_write_175 : decode cX11_write 175 = .ok (.imul, 1) := by decide +kernel
theorem dX11_write_176 : decode cX11_write 176 = .ok (.aload_n 0, 1) := by decide +kernel
theorem dX11_write_177 : decode cX11_write 177 = .ok (.getfield 195, 3) := by decide +kernel
theorem dX11_write_180 : decode cX11_write 180 = .ok (.iload_n 1, 1) := by decide +kernel
theorem dX11_write_181 : decode cX11_write 181 = .ok (.iaload, 1) := by decide +kernel
theorem dX11_write_182 : decode cX11_write 182 = .ok (.iadd, 1) := by decide +kernel
theorem dX11_write_183 : decode cX11_write 183 = .ok (.istore_n 3, 1) := by decide +kernel
theorem dX11_write_184 : decode cX11_write 184 = .ok (.iconst 0, 1) := by decide +kernel
theorem dX11_write_185 : decode cX11_write 185 = .ok (.istore 4, 2) := by decide +kernel
theorem dX11_write_187 : decode cX11_write 187 = .ok (.iload 4, 2) := by decide +kernel
theorem dX11_write_189 : decode cX11_write 189 = .ok (.aload_n 0, 1) := by decide +kernel
theorem dX11_write_190 : decode cX11_write 190 = .ok (.getfield 159, 3) := by decide +kernel
theorem dX11_write_193 : decode cX11_write 193 = .ok (.iload_n 3, 1) := by decide +kernel
theorem dX11_write_194 : decode cX11_write 194 = .ok (.iaload, 1) := by decide +kernel
theorem dX11_write_195 : decode cX11_write 195 = .ok (.if_icmp .ge 27, 3) := by decide +kernel
theorem dX11_write_198 : decode cX11_write 198 = .ok (.aload_n 0, 1) := by decide +kernel
theorem dX11_write_199 : decode cX11_write 199 = .ok (.iload_n 1, 1) := by decide +kernel
theorem dX11_write_200 : decode cX11_write 200 = .ok (.aload_n 0, 1) := by decide +kernel
theorem dX11_write_201 : decode cX11_write 201 = .ok (.getfield 162, 3) := by decide +kernel
theorem dX11_write_204 : decode cX11_write 204 = .ok (.iconst 5, 1) := by decide +kernel
theorem dX11_write_205 : decode cX11_write 205 = .ok (.iload_n 3, 1) := by decide +kernel
theorem dX11_write_206 : decode cX11_write 206 = .ok (.imul, 1) := by decide +kernel
theorem dX11_write_207 : decode cX11_write 207 = .ok (.iload 4, 2) := by decide +kernel
theorem dX11_write_209 : decode cX11_write 209 = .ok (.iadd, 1) := by decide +kernel
theorem dX11_write_210 : decode cX11_write 210 = .ok (.iaload, 1) := by decide +kernel
theorem dX11_write_211 : decode cX11_write 211 = .ok (.iload_n 2, 1) := by decide +kernel
theorem dX11_write_212 : decode cX11_write 212 = .ok (.invokevirtual 443, 3) := by decide +kernel
theorem dX11_write_215 : decode cX11_write 215 = .ok (.istore_n 2, 1) := by decide +kernel
theorem dX11_write_216 : decode cX11_write 216 = .ok (.iinc 4 1, 3) := by decide +kernel
theorem dX11_write_219 : decode cX11_write 219 = .ok (.goto (-32), 3) := by decide +kernel
theorem dX11_write_222 : decode cX11_write 222 = .ok (.aload_n 0, 1) := by decide +kernel
theorem dX11_write_223 : decode cX11_write 223 = .ok (.getfield 240, 3) := by decide +kernel
theorem dX11_write_226 : decode cX11_write 226 = .ok (.iconst 0, 1) := by decide +kernel
theorem dX11_write_227 : decode cX11_write 227 = .ok (.aload_n 0, 1) := by decide +kernel
theorem dX11_write_228 : decode cX11_write 228 = .ok (.getfield 243, 3) := by decide +kernel
theorem dX11_write_231 : decode cX11_write 231 = .ok (.iload_n 2, 1) := by decide +kernel
theorem dX11_write_232 : decode cX11_write 232 = .ok (.aload_n 0, 1) := by decide +kernel
theorem dX11_write_233 : decode cX11_write 233 = .ok (.getfield 418, 3) := by decide +kernel
theorem dX11_write_236 : decode cX11_write 236 = .ok (.invokestatic 270, 3) := by decide +kernel
theorem dX11_write_239 : decode cX11_write 239 = .ok (.iload_n 2, 1) := by decide +kernel
theorem dX11_write_240 : decode cX11_write 240 = .ok (.aload_n 0, 1) := by decide +kernel
theorem dX11_write_241 : decode cX11_write 241 = .ok (.iload_n 1, 1) := by decide +kernel
theorem dX11_write_242 : decode cX11_write 242 = .ok (.aload_n 0, 1) := by decide +kernel
theorem dX11_write_243 : decode cX11_write 243 = .ok (.getfield 243, 3) := by decide +kernel
theorem dX11_write_246 : decode cX11_write 246 = .ok (.iload_n 2, 1) := by decide +kernel
theorem dX11_write_247 : decode cX11_write 247 = .ok (.aload_n 0, 1) := by decide +kernel
theorem dX11_write_248 : decode cX11_write 248 = .ok (.getfield 418, 3) := by decide +kernel
theorem dX11_write_251 : decode cX11_write 251 = .ok (.invokevirtual 433, 3) := by decide +kernel
theorem dX11_write_254 : decode cX11_write 254 = .ok (.iadd, 1) := by decide +kernel
theorem dX11_write_255 : decode cX11_write 255 = .ok (.istore_n 2, 1) := by decide +kernel
theorem dX11_write_256 : decode cX11_write 256 = .ok (.aload_n 0, 1) := by decide +kernel
theorem dX11_write_257 : decode cX11_write 257 = .ok (.iload_n 1, 1) := by decide +kernel
theorem dX11_write_258 : decode cX11_write 258 = .ok (.invokevirtual 447, 3) := by decide +kernel
theorem dX11_write_261 : decode cX11_write 261 = .ok (.aload_n 0, 1) := by decide +kernel
theorem dX11_write_262 : decode cX11_write 262 = .ok (.iload_n 2, 1) := by decide +kernel
theorem dX11_write_263 : decode cX11_write 263 = .ok (.putfield 450, 3) := by decide +kernel
theorem dX11_write_266 : decode cX11_write 266 = .ok (.aload_n 0, 1) := by decide +kernel
theorem dX11_write_267 : decode cX11_write 267 = .ok (.iconst 0, 1) := by decide +kernel
theorem dX11_write_268 : decode cX11_write 268 = .ok (.putfield 418, 3) := by decide +kernel
theorem dX11_write_271 : decode cX11_write 271 = .ok (.iload_n 2, 1) := by decide +kernel
theorem dX11_write_272 : decode cX11_write 272 = .ok (.ireturn, 1) := by decide +kernel
theorem dX11_readsToken_0 : decode cX11_readsToken 0 = .ok (.iload_n 2, 1) := by decide +kernel
theorem dX11_readsToken_1 : decode cX11_readsToken 1 = .ok (.ifCond .ne 59, 3) := by decide +kernel
theorem dX11_readsToken_4 : decode cX11_readsToken 4 = .ok (.aload_n 0, 1) := by decide +kernel
theorem dX11_readsToken_5 : decode cX11_readsToken 5 = .ok (.getfield 450, 3) := by decide +kernel
theorem dX11_readsToken_8 : decode cX11_readsToken 8 = .ok (.iload_n 3, 1) := by decide +kernel
theorem dX11_readsToken_9 : decode cX11_readsToken 9 = .ok (.isub, 1) := by decide +kernel
theorem dX11_readsToken_10 : decode cX11_readsToken 10 = .ok (.bipush 32, 2) := by decide +kernel
theorem dX11_readsToken_12 : decode cX11_readsToken 12 = .ok (.if_icmp .ge 6, 3) := by decide +kernel
theorem dX11_readsToken_15 : decode cX11_readsToken 15 = .ok (.bipush (-5), 2) := by decide +kernel
theorem dX11_readsToken_17 : decode cX11_readsToken 17 = .ok (.ireturn, 1) := by decide +kernel
theorem dX11_readsToken_18 : decode cX11_readsToken 18 = .ok (.aload_n 0, 1) := by decide +kernel
theorem dX11_readsToken_19 : decode cX11_readsToken 19 = .ok (.getfield 243, 3) := by decide +kernel
theorem dX11_readsToken_22 : decode cX11_readsToken 22 = .ok (.iload_n 3, 1) := by decide +kernel
theorem dX11_readsToken_23 : decode cX11_readsToken 23 = .ok (.aload_n 0, 1) := by decide +kernel
theorem dX11_readsToken_24 : decode cX11_readsToken 24 = .ok (.getfield 237, 3) := by decide +kernel
theorem dX11_readsToken_27 : decode cX11_readsToken 27 = .ok (.bipush 32, 2) := by decide +kernel
theorem dX11_readsToken_29 : decode cX11_readsToken 29 = .ok (.iload_n 1, 1) := by decide +kernel
theorem dX11_readsToken_30 : decode cX11_readsToken 30 = .ok (.imul, 1) := by decide +kernel
theorem dX11_readsToken_31 : decode cX11_readsToken 31 = .ok (.bipush 32, 2) := by decide +kernel
theorem dX11_readsToken_33 : decode cX11_readsToken 33 = .ok (.invokestatic 270, 3) := by decide +kernel
theorem dX11_readsToken_36 : decode cX11_readsToken 36 = .ok (.aload_n 0, 1) := by decide +kernel
theorem dX11_readsToken_37 : decode cX11_readsToken 37 = .ok (.getfield 210, 3) := by decide +kernel
theorem dX11_readsToken_40 : decode cX11_readsToken 40 = .ok (.iload_n 1, 1) := by decide +kernel
theorem dX11_readsToken_41 : decode cX11_readsToken 41 = .ok (.iconst 1, 1) := by decide +kernel
theorem dX11_readsToken_42 : decode cX11_readsToken 42 = .ok (.bastore, 1) := by decide +kernel
theorem dX11_readsToken_43 : decode cX11_readsToken 43 = .ok (.aload_n 0, 1) := by decide +kernel
theorem dX11_readsToken_44 : decode cX11_readsToken 44 = .ok (.iload_n 1, 1) := by decide +kernel
theorem dX11_readsToken_45 : decode cX11_readsToken 45 = .ok (.aload_n 0, 1) := by decide +kernel
theorem dX11_readsToken_46 : decode cX11_readsToken 46 = .ok (.getfield 243, 3) := by decide +kernel
theorem dX11_readsToken_49 : decode cX11_readsToken 49 = .ok (.iload_n 3, 1) := by decide +kernel
theorem dX11_readsToken_50 : decode cX11_readsToken 50 = .ok (.bipush 32, 2) := by decide +kernel
theorem dX11_readsToken_52 : decode cX11_readsToken 52 = .ok (.invokevirtual 404, 3) := by decide +kernel
theorem dX11_readsToken_55 : decode cX11_readsToken 55 = .ok (.iload_n 3, 1) := by decide +kernel
theorem dX11_readsToken_56 : decode cX11_readsToken 56 = .ok (.bipush 32, 2) := by decide +kernel
theorem dX11_readsToken_58 : decode cX11_readsToken 58 = .ok (.iadd, 1) := by decide +kernel
theorem dX11_readsToken_59 : decode cX11_readsToken 59 = .ok (.ireturn, 1) := by decide +kernel
theorem dX11_readsToken_60 : decode cX11_readsToken 60 = .ok (.iload_n 2, 1) := by decide +kernel
theorem dX11_readsToken_61 : decode cX11_readsToken 61 = .ok (.iconst 1, 1) := by decide +kernel
theorem dX11_readsToken_62 : decode cX11_readsToken 62 = .ok (.if_icmp .ne 89, 3) := by decide +kernel
theorem dX11_readsToken_65 : decode cX11_readsToken 65 = .ok (.aload_n 0, 1) := by decide +kernel
theorem dX11_readsToken_66 : decode cX11_readsToken 66 = .ok (.getfield 201, 3) := by decide +kernel
theorem dX11_readsToken_69 : decode cX11_readsToken 69 = .ok (.iload_n 1, 1) := by decide +kernel
theorem dX11_readsToken_70 : decode cX11_readsToken 70 = .ok (.baload, 1) := by decide +kernel
theorem dX11_readsToken_71 : decode cX11_readsToken 71 = .ok (.ifCond .eq 8, 3) := by decide +kernel
theorem dX11_readsToken_74 : decode cX11_readsToken 74 = .ok (.bipush 48, 2) := by decide +kernel
theorem dX11_readsToken_76 : decode cX11_readsToken 76 = .ok (.goto 5, 3) := by decide +kernel
theorem dX11_readsToken_79 : decode cX11_readsToken 79 = .ok (.bipush 32, 2) := by decide +kernel
theorem dX11_readsToken_81 : decode cX11_readsToken 81 = .ok (.istore 4, 2) := by decide +kernel
theorem dX11_readsToken_83 : decode cX11_readsToken 83 = .ok (.aload_n 0, 1) := by decide +kernel
theorem dX11_readsToken_84 : decode cX11_readsToken 84 = .ok (.getfield 450, 3) := by decide +kernel
theorem dX11_readsToken_87 : decode cX11_readsToken 87 = .ok (.iload_n 3, 1) := by decide +kernel
theorem dX11_readsToken_88 : decode cX11_readsToken 88 = .ok (.isub, 1) := by decide +kernel
theorem dX11_readsToken_89 : decode cX11_readsToken 89 = .ok (.iload 4, 2) := by decide +kernel
theorem dX11_readsToken_91 : decode cX11_readsToken 91 = .ok (.if_icmp .ge 6, 3) := by decide +kernel
theorem dX11_readsToken_94 : decode cX11_readsToken 94 = .ok (.bipush (-5), 2) := by decide +kernel
theorem dX11_readsToken_96 : decode cX11_readsToken 96 = .ok (.ireturn, 1) := by decide +kernel
theorem dX11_readsToken_97 : decode cX11_readsToken 97 = .ok (.aload_n 0, 1) := by decide +kernel
theorem dX11_readsToken_98 : decode cX11_readsToken 98 = .ok (.iload_n 1, 1) := by decide +kernel
theorem dX11_readsToken_99 : decode cX11_readsToken 99 = .ok (.aload_n 0, 1) := by decide +kernel
theorem dX11_readsToken_100 : decode cX11_readsToken 100 = .ok (.getfield 243, 3) := by decide +kernel
theorem dX11_readsToken_103 : decode cX11_readsToken 103 = .ok (.iload_n 3, 1) := by decide +kernel
theorem dX11_readsToken_104 : decode cX11_readsToken 104 = .ok (.iload 4, 2) := by decide +kernel
theorem dX11_readsToken_106 : decode cX11_readsToken 106 = .ok (.aload_n 0, 1) := by decide +kernel
theorem dX11_readsToken_107 : decode cX11_readsToken 107 = .ok (.getfield 249, 3) := by decide +kernel
theorem dX11_readsToken_110 : decode cX11_readsToken 110 = .ok (.invokevirtual 453, 3) := by decide +kernel
theorem dX11_readsToken_113 : decode cX11_readsToken 113 = .ok (.bipush (-6), 2) := by decide +kernel
theorem dX11_readsToken_115 : decode cX11_readsToken 115 = .ok (.if_icmp .ne 6, 3) := by decide +kernel
theorem dX11_readsToken_118 : decode cX11_readsToken 118 = .ok (.bipush (-6), 2) := by decide +kernel
theorem dX11_readsToken_120 : decode cX11_readsToken 120 = .ok (.ireturn, 1) := by decide +kernel
theorem dX11_readsToken_121 : decode cX11_readsToken 121 = .ok (.aload_n 0, 1) := by decide +kernel
theorem dX11_readsToken_122 : decode cX11_readsToken 122 = .ok (.getfield 249, 3) := by decide +kernel
theorem dX11_readsToken_125 : decode cX11_readsToken 125 = .ok (.iconst 0, 1) := by decide +kernel
theorem dX11_readsToken_126 : decode cX11_readsToken 126 = .ok (.aload_n 0, 1) := by decide +kernel
theorem dX11_readsToken_127 : decode cX11_readsToken 127 = .ok (.getfield 234, 3) := by decide +kernel
theorem dX11_readsToken_130 : decode cX11_readsToken 130 = .ok (.bipush 32, 2) := by decide +kernel
theorem dX11_readsToken_132 : decode cX11_readsToken 132 = .ok (.iload_n 1, 1) := by decide +kernel
theorem dX11_readsToken_133 : decode cX11_readsToken 133 = .ok (.imul, 1) := by decide +kernel
theorem dX11_readsToken_134 : decode cX11_readsToken 134 = .ok (.bipush 32, 2) := by decide +kernel
theorem dX11_readsToken_136 : decode cX11_readsToken 136 = .ok (.invokestatic 270, 3) := by decide +kernel
theorem dX11_readsToken_139 : decode cX11_readsToken 139 = .ok (.aload_n 0, 1) := by decide +kernel
theorem dX11_readsToken_140 : decode cX11_readsToken 140 = .ok (.getfield 213, 3) := by decide +kernel
theorem dX11_readsToken_143 : decode cX11_readsToken 143 = .ok (.iload_n 1, 1) := by decide +kernel
theorem dX11_readsToken_144 : decode cX11_readsToken 144 = .ok (.iconst 1, 1) := by decide +kernel
theorem dX11_readsToken_145 : decode cX11_readsToken 145 = .ok (.bastore, 1) := by decide +kernel
theorem dX11_readsToken_146 : decode cX11_readsToken 146 = .ok (.iload_n 3, 1) := by decide +kernel
theorem dX11_readsToken_147 : decode cX11_readsToken 147 = .ok (.iload 4, 2) := by decide +kernel
theorem dX11_readsToken_149 : decode cX11_readsToken 149 = .ok (.iadd, 1) := by decide +kernel
theorem dX11_readsToken_150 : decode cX11_readsToken 150 = .ok (.ireturn, 1) := by decide +kernel
theorem dX11_readsToken_151 : decode cX11_readsToken 151 = .ok (.aload_n 0, 1) := by decide +kernel
theorem dX11_readsToken_152 : decode cX11_readsToken 152 = .ok (.iload_n 1, 1) := by decide +kernel
theorem dX11_readsToken_153 : decode cX11_readsToken 153 = .ok (.iload_n 2, 1) := by decide +kernel
theorem dX11_readsToken_154 : decode cX11_readsToken 154 = .ok (.invokevirtual 437, 3) := by decide +kernel
theorem dX11_readsToken_157 : decode cX11_readsToken 157 = .ok (.aload_n 0, 1) := by decide +kernel
theorem dX11_readsToken_158 : decode cX11_readsToken 158 = .ok (.iload_n 1, 1) := by decide +kernel
theorem dX11_readsToken_159 : decode cX11_readsToken 159 = .ok (.invokevirtual 440, 3) := by decide +kernel
theorem dX11_readsToken_162 : decode cX11_readsToken 162 = .ok (.iload_n 3, 1) := by decide +kernel
theorem dX11_readsToken_163 : decode cX11_readsToken 163 = .ok (.ireturn, 1) := by decide +kernel
theorem dX11_readsDone_0 : decode cX11_readsDone 0 = .ok (.aload_n 0, 1) := by decide +kernel
theorem dX11_readsDone_1 : decode cX11_readsDone 1 = .ok (.getfield 450, 3) := by decide +kernel
theorem dX11_readsDone_4 : decode cX11_readsDone 4 = .ok (.bipush 16, 2) := by decide +kernel
theorem dX11_readsDone_6 : decode cX11_readsDone 6 = .ok (.isub, 1) := by decide +kernel
theorem dX11_readsDone_7 : decode cX11_readsDone 7 = .ok (.istore_n 2, 1) := by decide +kernel
theorem dX11_readsDone_8 : decode cX11_readsDone 8 = .ok (.iload_n 2, 1) := by decide +kernel
theorem dX11_readsDone_9 : decode cX11_readsDone 9 = .ok (.ifCond .ge 6, 3) := by decide +kernel
theorem dX11_readsDone_12 : decode cX11_readsDone 12 = .ok (.bipush (-5), 2) := by decide +kernel
theorem dX11_readsDone_14 : decode cX11_readsDone 14 = .ok (.ireturn, 1) := by decide +kernel
theorem dX11_readsDone_15 : decode cX11_readsDone 15 = .ok (.aload_n 0, 1) := by decide +kernel
theorem dX11_readsDone_16 : decode cX11_readsDone 16 = .ok (.aload_n 0, 1) := by decide +kernel
theorem dX11_readsDone_17 : decode cX11_readsDone 17 = .ok (.getfield 225, 3) := by decide +kernel
theorem dX11_readsDone_20 : decode cX11_readsDone 20 = .ok (.bipush 32, 2) := by decide +kernel
theorem dX11_readsDone_22 : decode cX11_readsDone 22 = .ok (.iload_n 1, 1) := by decide +kernel
theorem dX11_readsDone_23 : decode cX11_readsDone 23 = .ok (.imul, 1) := by decide +kernel
theorem dX11_readsDone_24 : decode cX11_readsDone 24 = .ok (.aload_n 0, 1) := by decide +kernel
theorem dX11_readsDone_25 : decode cX11_readsDone 25 = .ok (.getfield 207, 3) := by decide +kernel
theorem dX11_readsDone_28 : decode cX11_readsDone 28 = .ok (.iload_n 1, 1) := by decide +kernel
theorem dX11_readsDone_29 : decode cX11_readsDone 29 = .ok (.iaload, 1) := by decide +kernel
theorem dX11_readsDone_30 : decode cX11_readsDone 30 = .ok (.aload_n 0, 1) := by decide +kernel
theorem dX11_readsDone_31 : decode cX11_readsDone 31 = .ok (.getfield 219, 3) := by decide +kernel
theorem dX11_readsDone_34 : decode cX11_readsDone 34 = .ok (.iconst 0, 1) := by decide +kernel
theorem dX11_readsDone_35 : decode cX11_readsDone 35 = .ok (.iconst 0, 1) := by decide +kernel
theorem dX11_readsDone_36 : decode cX11_readsDone 36 = .ok (.aload_n 0, 1) := by decide +kernel
theorem dX11_readsDone_37 : decode cX11_readsDone 37 = .ok (.getfield 243, 3) := by decide +kernel
theorem dX11_readsDone_40 : decode cX11_readsDone 40 = .ok (.iconst 0, 1) := by decide +kernel
theorem dX11_readsDone_41 : decode cX11_readsDone 41 = .ok (.iload_n 2, 1) := by decide +kernel
theorem dX11_readsDone_42 : decode cX11_readsDone 42 = .ok (.invokevirtual 425, 3) := by decide +kernel
theorem dX11_readsDone_45 : decode cX11_readsDone 45 = .ok (.aload_n 0, 1) := by decide +kernel
theorem dX11_readsDone_46 : decode cX11_readsDone 46 = .ok (.aload_n 0, 1) := by decide +kernel
theorem dX11_readsDone_47 : decode cX11_readsDone 47 = .ok (.getfield 243, 3) := by decide +kernel
theorem dX11_readsDone_50 : decode cX11_readsDone 50 = .ok (.iload_n 2, 1) := by decide +kernel
theorem dX11_readsDone_51 : decode cX11_readsDone 51 = .ok (.invokevirtual 429, 3) := by decide +kernel
theorem dX11_readsDone_54 : decode cX11_readsDone 54 = .ok (.ifCond .ne 6, 3) := by decide +kernel
theorem dX11_readsDone_57 : decode cX11_readsDone 57 = .ok (.bipush (-6), 2) := by decide +kernel
theorem dX11_readsDone_59 : decode cX11_readsDone 59 = .ok (.ireturn, 1) := by decide +kernel
theorem dX11_readsDone_60 : decode cX11_readsDone 60 = .ok (.aload_n 0, 1) := by decide +kernel
theorem dX11_readsDone_61 : decode cX11_readsDone 61 = .ok (.getfield 243, 3) := by decide +kernel
theorem dX11_readsDone_64 : decode cX11_readsDone 64 = .ok (.iconst 0, 1) := by decide +kernel
theorem dX11_readsDone_65 : decode cX11_readsDone 65 = .ok (.aload_n 0, 1) := by decide +kernel
theorem dX11_readsDone_66 : decode cX11_readsDone 66 = .ok (.getfield 246, 3) := by decide +kernel
theorem dX11_readsDone_69 : decode cX11_readsDone 69 = .ok (.iconst 0, 1) := by decide +kernel
theorem dX11_readsDone_70 : decode cX11_readsDone 70 = .ok (.iload_n 2, 1) := by decide +kernel
theorem dX11_readsDone_71 : decode cX11_readsDone 71 = .ok (.invokestatic 270, 3) := by decide +kernel
theorem dX11_readsDone_74 : decode cX11_readsDone 74 = .ok (.aload_n 0, 1) := by decide +kernel
theorem dX11_readsDone_75 : decode cX11_readsDone 75 = .ok (.aload_n 0, 1) := by decide +kernel
theorem dX11_readsDone_76 : decode cX11_readsDone 76 = .ok (.getfield 225, 3) := by decide +kernel
theorem dX11_readsDone_79 : decode cX11_readsDone 79 = .ok (.bipush 32, 2) := by decide +kernel
theorem dX11_readsDone_81 : decode cX11_readsDone 81 = .ok (.iload_n 1, 1) := by decide +kernel
theorem dX11_readsDone_82 : decode cX11_readsDone 82 = .ok (.imul, 1) := by decide +kernel
theorem dX11_readsDone_83 : decode cX11_readsDone 83 = .ok (.aload_n 0, 1) := by decide +kernel
theorem dX11_readsDone_84 : decode cX11_readsDone 84 = .ok (.getfield 207, 3) := by decide +kernel
theorem dX11_readsDone_87 : decode cX11_readsDone 87 = .ok (.iload_n 1, 1) := by decide +kernel
theorem dX11_readsDone_88 : decode cX11_readsDone 88 = .ok (.iaload, 1) := by decide +kernel
theorem dX11_readsDone_89 : decode cX11_readsDone 89 = .ok (.aload_n 0, 1) := by decide +kernel
theorem dX11_readsDone_90 : decode cX11_readsDone 90 = .ok (.getfield 246, 3) := by decide +kernel
theorem dX11_readsDone_93 : decode cX11_readsDone 93 = .ok (.iconst 0, 1) := by decide +kernel
theorem dX11_readsDone_94 : decode cX11_readsDone 94 = .ok (.iload_n 2, 1) := by decide +kernel
theorem dX11_readsDone_95 : decode cX11_readsDone 95 = .ok (.invokevirtual 421, 3) := by decide +kernel
theorem dX11_readsDone_98 : decode cX11_readsDone 98 = .ok (.aload_n 0, 1) := by decide +kernel
theorem dX11_readsDone_99 : decode cX11_readsDone 99 = .ok (.getfield 207, 3) := by decide +kernel
theorem dX11_readsDone_102 : decode cX11_readsDone 102 = .ok (.iload_n 1, 1) := by decide +kernel
theorem dX11_readsDone_103 : decode cX11_readsDone 103 = .ok (.dup2, 1) := by decide +kernel
theorem dX11_readsDone_104 : decode cX11_readsDone 104 = .ok (.iaload, 1) := by decide +kernel
theorem dX11_readsDone_105 : decode cX11_readsDone 105 = .ok (.iconst 1, 1) := by decide +kernel
theorem dX11_readsDone_106 : decode cX11_readsDone 106 = .ok (.iadd, 1) := by decide +kernel
theorem dX11_readsDone_107 : decode cX11_readsDone 107 = .ok (.iastore, 1) := by decide +kernel
theorem dX11_readsDone_108 : decode cX11_readsDone 108 = .ok (.aload_n 0, 1) := by decide +kernel
theorem dX11_readsDone_109 : decode cX11_readsDone 109 = .ok (.iload_n 2, 1) := by decide +kernel
theorem dX11_readsDone_110 : decode cX11_readsDone 110 = .ok (.putfield 457, 3) := by decide +kernel
theorem dX11_readsDone_113 : decode cX11_readsDone 113 = .ok (.iload_n 2, 1) := by decide +kernel
theorem dX11_readsDone_114 : decode cX11_readsDone 114 = .ok (.ireturn, 1) := by decide +kernel
theorem dX11_reads_0 : decode cX11_reads 0 = .ok (.bipush 6, 2) := by decide +kernel
theorem dX11_reads_2 : decode cX11_reads 2 = .ok (.aload_n 0, 1) := by decide +kernel
theorem dX11_reads_3 : decode cX11_reads 3 = .ok (.getfield 177, 3) := by decide +kernel
theorem dX11_reads_6 : decode cX11_reads 6 = .ok (.iload_n 1, 1) := by decide +kernel
theorem dX11_reads_7 : decode cX11_reads 7 = .ok (.iaload, 1) := by decide +kernel
theorem dX11_reads_8 : decode cX11_reads 8 = .ok (.imul, 1) := by decide +kernel
theorem dX11_reads_9 : decode cX11_reads 9 = .ok (.aload_n 0, 1) := by decide +kernel
theorem dX11_reads_10 : decode cX11_reads 10 = .ok (.getfield 195, 3) := by decide +kernel
theorem dX11_reads_13 : decode cX11_reads 13 = .ok (.iload_n 1, 1) := by decide +kernel
theorem dX11_reads_14 : decode cX11_reads 14 = .ok (.iaload, 1) := by decide +kernel
theorem dX11_reads_15 : decode cX11_reads 15 = .ok (.iadd, 1) := by decide +kernel
theorem dX11_reads_16 : decode cX11_reads 16 = .ok (.istore_n 2, 1) := by decide +kernel
theorem dX11_reads_17 : decode cX11_reads 17 = .ok (.iconst 0, 1) := by decide +kernel
theorem dX11_reads_18 : decode cX11_reads 18 = .ok (.istore_n 3, 1) := by decide +kernel
theorem dX11_reads_19 : decode cX11_reads 19 = .ok (.iconst 0, 1) := by decide +kernel
theorem dX11_reads_20 : decode cX11_reads 20 = .ok (.istore 4, 2) := by decide +kernel
theorem dX11_reads_22 : decode cX11_reads 22 = .ok (.iload 4, 2) := by decide +kernel
theorem dX11_reads_24 : decode cX11_reads 24 = .ok (.aload_n 0, 1) := by decide +kernel
theorem dX11_reads_25 : decode cX11_reads 25 = .ok (.getfield 159, 3) := by decide +kernel
theorem dX11_reads_28 : decode cX11_reads 28 = .ok (.iload_n 2, 1) := by decide +kernel
theorem dX11_reads_29 : decode cX11_reads 29 = .ok (.iaload, 1) := by decide +kernel
theorem dX11_reads_30 : decode cX11_reads 30 = .ok (.if_icmp .ge 31, 3) := by decide +kernel
theorem dX11_reads_33 : decode cX11_reads 33 = .ok (.iload_n 3, 1) := by decide +kernel
theorem dX11_reads_34 : decode cX11_reads 34 = .ok (.ifCond .lt 27, 3) := by decide +kernel
theorem dX11_reads_37 : decode cX11_reads 37 = .ok (.aload_n 0, 1) := by decide +kernel
theorem dX11_reads_38 : decode cX11_reads 38 = .ok (.iload_n 1, 1) := by decide +kernel
theorem dX11_reads_39 : decode cX11_reads 39 = .ok (.aload_n 0, 1) := by decide +kernel
theorem dX11_reads_40 : decode cX11_reads 40 = .ok (.getfield 162, 3) := by decide +kernel
theorem dX11_reads_43 : decode cX11_reads 43 = .ok (.iconst 5, 1) := by decide +kernel
theorem dX11_reads_44 : decode cX11_reads 44 = .ok (.iload_n 2, 1) := by decide +kernel
theorem dX11_reads_45 : decode cX11_reads 45 = .ok (.imul, 1) := by decide +kernel
theorem dX11_reads_46 : decode cX11_reads 46 = .ok (.iload 4, 2) := by decide +kernel
theorem dX11_reads_48 : decode cX11_reads 48 = .ok (.iadd, 1) := by decide +kernel
theorem dX11_reads_49 : decode cX11_reads 49 = .ok (.iaload, 1) := by decide +kernel
theorem dX11_reads_50 : decode cX11_reads 50 = .ok (.iload_n 3, 1) := by decide +kernel
theorem dX11_reads_51 : decode cX11_reads 51 = .ok (.invokevirtual 460, 3) := by decide +kernel
theorem dX11_reads_54 : decode cX11_reads 54 = .ok (.istore_n 3, 1) := by decide +kernel
theorem dX11_reads_55 : decode cX11_reads 55 = .ok (.iinc 4 1, 3) := by decide +kernel
theorem dX11_reads_58 : decode cX11_reads 58 = .ok (.goto (-36), 3) := by decide +kernel
theorem dX11_reads_61 : decode cX11_reads 61 = .ok (.iload_n 3, 1) := by decide +kernel
theorem dX11_reads_62 : decode cX11_reads 62 = .ok (.ifCond .ge 5, 3) := by decide +kernel
theorem dX11_reads_65 : decode cX11_reads 65 = .ok (.iload_n 3, 1) := by decide +kernel
theorem dX11_reads_66 : decode cX11_reads 66 = .ok (.ireturn, 1) := by decide +kernel
theorem dX11_reads_67 : decode cX11_reads 67 = .ok (.aload_n 0, 1) := by decide +kernel
theorem dX11_reads_68 : decode cX11_reads 68 = .ok (.getfield 201, 3) := by decide +kernel
theorem dX11_reads_71 : decode cX11_reads 71 = .ok (.iload_n 1, 1) := by decide +kernel
theorem dX11_reads_72 : decode cX11_reads 72 = .ok (.baload, 1) := by decide +kernel
theorem dX11_reads_73 : decode cX11_reads 73 = .ok (.ifCond .eq 17, 3) := by decide +kernel
theorem dX11_reads_76 : decode cX11_reads 76 = .ok (.aload_n 0, 1) := by decide +kernel
theorem dX11_reads_77 : decode cX11_reads 77 = .ok (.getfield 450, 3) := by decide +kernel
theorem dX11_reads_80 : decode cX11_reads 80 = .ok (.iload_n 3, 1) := by decide +kernel
theorem dX11_reads_81 : decode cX11_reads 81 = .ok (.isub, 1) := by decide +kernel
theorem dX11_reads_82 : decode cX11_reads 82 = .ok (.bipush 16, 2) := by decide +kernel
theorem dX11_reads_84 : decode cX11_reads 84 = .ok (.if_icmp .ge 6, 3) := by decide +kernel
theorem dX11_reads_87 : decode cX11_reads 87 = .ok (.bipush (-5), 2) := by decide +kernel
theorem dX11_reads_89 : decode cX11_reads 89 = .ok (.ireturn, 1) := by decide +kernel
theorem dX11_reads_90 : decode cX11_reads 90 = .ok (.aload_n 0, 1) := by decide +kernel
theorem dX11_reads_91 : decode cX11_reads 91 = .ok (.iload_n 1, 1) := by decide +kernel
theorem dX11_reads_92 : decode cX11_reads 92 = .ok (.aload_n 0, 1) := by decide +kernel
theorem dX11_reads_93 : decode cX11_reads 93 = .ok (.getfield 243, 3) := by decide +kernel
theorem dX11_reads_96 : decode cX11_reads 96 = .ok (.iload_n 3, 1) := by decide +kernel
theorem dX11_reads_97 : decode cX11_reads 97 = .ok (.aload_n 0, 1) := by decide +kernel
theorem dX11_reads_98 : decode cX11_reads 98 = .ok (.getfield 450, 3) := by decide +kernel
theorem dX11_reads_101 : decode cX11_reads 101 = .ok (.iload_n 3, 1) := by decide +kernel
theorem dX11_reads_102 : decode cX11_reads 102 = .ok (.isub, 1) := by decide +kernel
theorem dX11_reads_103 : decode cX11_reads 103 = .ok (.aload_n 0, 1) := by decide +kernel
theorem dX11_reads_104 : decode cX11_reads 104 = .ok (.getfield 249, 3) := by decide +kernel
theorem dX11_reads_107 : decode cX11_reads 107 = .ok (.invokevirtual 453, 3) := by decide +kernel
theorem dX11_reads_110 : decode cX11_reads 110 = .ok (.istore 4, 2) := by decide +kernel
theorem dX11_reads_112 : decode cX11_reads 112 = .ok (.iload 4, 2) := by decide +kernel
theorem dX11_reads_114 : decode cX11_reads 114 = .ok (.bipush (-6), 2) := by decide +kernel
theorem dX11_reads_116 : decode cX11_reads 116 = .ok (.if_icmp .ne 6, 3) := by decide +kernel
theorem dX11_reads_119 : decode cX11_reads 119 = .ok (.bipush (-6), 2) := by decide +kernel
theorem dX11_reads_121 : decode cX11_reads 121 = .ok (.ireturn, 1) := by decide +kernel
theorem dX11_reads_122 : decode cX11_reads 122 = .ok (.aload_n 0, 1) := by decide +kernel
theorem dX11_reads_123 : decode cX11_reads 123 = .ok (.getfield 249, 3) := by decide +kernel
theorem dX11_reads_126 : decode cX11_reads 126 = .ok (.iconst 0, 1) := by decide +kernel
theorem dX11_reads_127 : decode cX11_reads 127 = .ok (.aload_n 0, 1) := by decide +kernel
theorem dX11_reads_128 : decode cX11_reads 128 = .ok (.getfield 246, 3) := by decide +kernel
theorem dX11_reads_131 : decode cX11_reads 131 = .ok (.iconst 0, 1) := by decide +kernel
theorem dX11_reads_132 : decode cX11_reads 132 = .ok (.iload 4, 2) := by decide +kernel
theorem dX11_reads_134 : decode cX11_reads 134 = .ok (.invokestatic 270, 3) := by decide +kernel
theorem dX11_reads_137 : decode cX11_reads 137 = .ok (.aload_n 0, 1) := by decide +kernel
theorem dX11_reads_138 : decode cX11_reads 138 = .ok (.iload 4, 2) := by decide +kernel
theorem dX11_reads_140 : decode cX11_reads 140 = .ok (.putfield 457, 3) := by decide +kernel
theorem dX11_reads_143 : decode cX11_reads 143 = .ok (.aload_n 0, 1) := by decide +kernel
theorem dX11_reads_144 : decode cX11_reads 144 = .ok (.iload_n 1, 1) := by decide +kernel
theorem dX11_reads_145 : decode cX11_reads 145 = .ok (.invokevirtual 447, 3) := by decide +kernel
theorem dX11_reads_148 : decode cX11_reads 148 = .ok (.iload 4, 2) := by decide +kernel
theorem dX11_reads_150 : decode cX11_reads 150 = .ok (.ireturn, 1) := by decide +kernel
theorem dX11_read_0 : decode cX11_read 0 = .ok (.aload_n 0, 1) := by decide +kernel
theorem dX11_read_1 : decode cX11_read 1 = .ok (.iload_n 1, 1) := by decide +kernel
theorem dX11_read_2 : decode cX11_read 2 = .ok (.invokevirtual 415, 3) := by decide +kernel
theorem dX11_read_5 : decode cX11_read 5 = .ok (.ifCond .ne 6, 3) := by decide +kernel
theorem dX11_read_8 : decode cX11_read 8 = .ok (.bipush (-2), 2) := by decide +kernel
theorem dX11_read_10 : decode cX11_read 10 = .ok (.ireturn, 1) := by decide +kernel
theorem dX11_read_11 : decode cX11_read 11 = .ok (.aload_n 0, 1) := by decide +kernel
theorem dX11_read_12 : decode cX11_read 12 = .ok (.getfield 198, 3) := by decide +kernel
theorem dX11_read_15 : decode cX11_read 15 = .ok (.iload_n 1, 1) := by decide +kernel
theorem dX11_read_16 : decode cX11_read 16 = .ok (.baload, 1) := by decide +kernel
theorem dX11_read_17 : decode cX11_read 17 = .ok (.ifCond .eq 9, 3) := by decide +kernel
theorem dX11_read_20 : decode cX11_read 20 = .ok (.aload_n 0, 1) := by decide +kernel
theorem dX11_read_21 : decode cX11_read 21 = .ok (.iload_n 1, 1) := by decide +kernel
theorem dX11_read_22 : decode cX11_read 22 = .ok (.invokevirtual 463, 3) := by decide +kernel
theorem dX11_read_25 : decode cX11_read 25 = .ok (.ireturn, 1) := by decide +kernel
theorem dX11_read_26 : decode cX11_read 26 = .ok (.aload_n 0, 1) := by decide +kernel
theorem dX11_read_27 : decode cX11_read 27 = .ok (.getfield 195, 3) := by decide +kernel
theorem dX11_read_30 : decode cX11_read 30 = .ok (.iload_n 1, 1) := by decide +kernel
theorem dX11_read_31 : decode cX11_read 31 = .ok (.iaload, 1) := by decide +kernel
theorem dX11_read_32 : decode cX11_read 32 = .ok (.iconst 2, 1) := by decide +kernel
theorem dX11_read_33 : decode cX11_read 33 = .ok (.irem, 1) := by decide +kernel
theorem dX11_read_34 : decode cX11_read 34 = .ok (.aload_n 0, 1) := by decide +kernel
theorem dX11_read_35 : decode cX11_read 35 = .ok (.getfield 180, 3) := by decide +kernel
theorem dX11_read_38 : decode cX11_read 38 = .ok (.iload_n 1, 1) := by decide +kernel
theorem dX11_read_39 : decode cX11_read 39 = .ok (.iaload, 1) := by decide +kernel
theorem dX11_read_40 : decode cX11_read 40 = .ok (.if_icmp .ne 6, 3) := by decide +kernel
theorem dX11_read_43 : decode cX11_read 43 = .ok (.bipush (-3), 2) := by decide +kernel
theorem dX11_read_45 : decode cX11_read 45 = .ok (.ireturn, 1) := by decide +kernel
theorem dX11_read_46 : decode cX11_read 46 = .ok (.aload_n 0, 1) := by decide +kernel
theorem dX11_read_47 : decode cX11_read 47 = .ok (.iconst 4, 1) := by decide +kernel
theorem dX11_read_48 : decode cX11_read 48 = .ok (.iload_n 1, 1) := by decide +kernel
theorem dX11_read_49 : decode cX11_read 49 = .ok (.invokevirtual 466, 3) := by decide +kernel
theorem dX11_read_52 : decode cX11_read 52 = .ok (.aload_n 0, 1) := by decide +kernel
theorem dX11_read_53 : decode cX11_read 53 = .ok (.iload_n 1, 1) := by decide +kernel
theorem dX11_read_54 : decode cX11_read 54 = .ok (.invokevirtual 469, 3) := by decide +kernel
theorem dX11_read_57 : decode cX11_read 57 = .ok (.istore_n 2, 1) := by decide +kernel
theorem dX11_read_58 : decode cX11_read 58 = .ok (.iload_n 2, 1) := by decide +kernel
theorem dX11_read_59 : decode cX11_read 59 = .ok (.ifCond .ge 9, 3) := by decide +kernel
theorem dX11_read_62 : decode cX11_read 62 = .ok (.aload_n 0, 1) := by decide +kernel
theorem dX11_read_63 : decode cX11_read 63 = .ok (.iload_n 1, 1) := by decide +kernel
theorem dX11_read_64 : decode cX11_read 64 = .ok (.iconst 4, 1) := by decide +kernel
theorem dX11_read_65 : decode cX11_read 65 = .ok (.invokevirtual 466, 3) := by decide +kernel
theorem dX11_read_68 : decode cX11_read 68 = .ok (.iload_n 2, 1) := by decide +kernel
theorem dX11_read_69 : decode cX11_read 69 = .ok (.ireturn, 1) := by decide +kernel
theorem dX11_alter_0 : decode cX11_alter 0 = .ok (.iload_n 1, 1) := by decide +kernel
theorem dX11_alter_1 : decode cX11_alter 1 = .ok (.iconst 0, 1) := by decide +kernel
theorem dX11_alter_2 : decode cX11_alter 2 = .ok (.aload_n 0, 1) := by decide +kernel
theorem dX11_alter_3 : decode cX11_alter 3 = .ok (.getfield 450, 3) := by decide +kernel
theorem dX11_alter_6 : decode cX11_alter 6 = .ok (.iconst 1, 1) := by decide +kernel
theorem dX11_alter_7 : decode cX11_alter 7 = .ok (.isub, 1) := by decide +kernel
theorem dX11_alter_8 : decode cX11_alter 8 = .ok (.invokestatic 366, 3) := by decide +kernel
theorem dX11_alter_11 : decode cX11_alter 11 = .ok (.ifCond .eq 14, 3) := by decide +kernel
theorem dX11_alter_14 : decode cX11_alter 14 = .ok (.iload_n 2, 1) := by decide +kernel
theorem dX11_alter_15 : decode cX11_alter 15 = .ok (.iconst 0, 1) := by decide +kernel
theorem dX11_alter_16 : decode cX11_alter 16 = .ok (.sipush 255, 3) := by decide +kernel
theorem dX11_alter_19 : decode cX11_alter 19 = .ok (.invokestatic 366, 3) := by decide +kernel
theorem dX11_alter_22 : decode cX11_alter 22 = .ok (.ifCond .ne 6, 3) := by decide +kernel
theorem dX11_alter_25 : decode cX11_alter 25 = .ok (.bipush (-2), 2) := by decide +kernel
theorem dX11_alter_27 : decode cX11_alter 27 = .ok (.ireturn, 1) := by decide +kernel
theorem dX11_alter_28 : decode cX11_alter 28 = .ok (.aload_n 0, 1) := by decide +kernel
theorem dX11_alter_29 : decode cX11_alter 29 = .ok (.getfield 243, 3) := by decide +kernel
theorem dX11_alter_32 : decode cX11_alter 32 = .ok (.iload_n 1, 1) := by decide +kernel
theorem dX11_alter_33 : decode cX11_alter 33 = .ok (.iaload, 1) := by decide +kernel
theorem dX11_alter_34 : decode cX11_alter 34 = .ok (.istore_n 3, 1) := by decide +kernel
theorem dX11_alter_35 : decode cX11_alter 35 = .ok (.aload_n 0, 1) := by decide +kernel
theorem dX11_alter_36 : decode cX11_alter 36 = .ok (.getfield 243, 3) := by decide +kernel
theorem dX11_alter_39 : decode cX11_alter 39 = .ok (.iload_n 1, 1) := by decide +kernel
theorem dX11_alter_40 : decode cX11_alter 40 = .ok (.iload_n 3, 1) := by decide +kernel
theorem dX11_alter_41 : decode cX11_alter 41 = .ok (.iload_n 2, 1) := by decide +kernel
theorem dX11_alter_42 : decode cX11_alter 42 = .ok (.ixor, 1) := by decide +kernel
theorem dX11_alter_43 : decode cX11_alter 43 = .ok (.iastore, 1) := by decide +kernel
theorem dX11_alter_44 : decode cX11_alter 44 = .ok (.iload_n 3, 1) := by decide +kernel
theorem dX11_alter_45 : decode cX11_alter 45 = .ok (.ireturn, 1) := by decide +kernel
theorem dX11_cut_0 : decode cX11_cut 0 = .ok (.iload_n 1, 1) := by decide +kernel
theorem dX11_cut_1 : decode cX11_cut 1 = .ok (.iconst 0, 1) := by decide +kernel
theorem dX11_cut_2 : decode cX11_cut 2 = .ok (.aload_n 0, 1) := by decide +kernel
theorem dX11_cut_3 : decode cX11_cut 3 = .ok (.getfield 450, 3) := by decide +kernel
theorem dX11_cut_6 : decode cX11_cut 6 = .ok (.invokestatic 366, 3) := by decide +kernel
theorem dX11_cut_9 : decode cX11_cut 9 = .ok (.ifCond .ne 6, 3) := by decide +kernel
theorem dX11_cut_12 : decode cX11_cut 12 = .ok (.bipush (-2), 2) := by decide +kernel
theorem dX11_cut_14 : decode cX11_cut 14 = .ok (.ireturn, 1) := by decide +kernel
theorem dX11_cut_15 : decode cX11_cut 15 = .ok (.aload_n 0, 1) := by decide +kernel
theorem dX11_cut_16 : decode cX11_cut 16 = .ok (.getfield 450, 3) := by decide +kernel
theorem dX11_cut_19 : decode cX11_cut 19 = .ok (.iload_n 1, 1) := by decide +kernel
theorem dX11_cut_20 : decode cX11_cut 20 = .ok (.isub, 1) := by decide +kernel
theorem dX11_cut_21 : decode cX11_cut 21 = .ok (.istore_n 2, 1) := by decide +kernel
theorem dX11_cut_22 : decode cX11_cut 22 = .ok (.aload_n 0, 1) := by decide +kernel
theorem dX11_cut_23 : decode cX11_cut 23 = .ok (.iload_n 1, 1) := by decide +kernel
theorem dX11_cut_24 : decode cX11_cut 24 = .ok (.putfield 450, 3) := by decide +kernel
theorem dX11_cut_27 : decode cX11_cut 27 = .ok (.iload_n 2, 1) := by decide +kernel
theorem dX11_cut_28 : decode cX11_cut 28 = .ok (.ireturn, 1) := by decide +kernel
theorem dX11_byteOf_0 : decode cX11_byteOf 0 = .ok (.iload_n 1, 1) := by decide +kernel
theorem dX11_byteOf_1 : decode cX11_byteOf 1 = .ok (.iconst 0, 1) := by decide +kernel
theorem dX11_byteOf_2 : decode cX11_byteOf 2 = .ok (.iconst 2, 1) := by decide +kernel
theorem dX11_byteOf_3 : decode cX11_byteOf 3 = .ok (.invokestatic 366, 3) := by decide +kernel
theorem dX11_byteOf_6 : decode cX11_byteOf 6 = .ok (.ifCond .ne 6, 3) := by decide +kernel
theorem dX11_byteOf_9 : decode cX11_byteOf 9 = .ok (.bipush (-2), 2) := by decide +kernel
theorem dX11_byteOf_11 : decode cX11_byteOf 11 = .ok (.ireturn, 1) := by decide +kernel
theorem dX11_byteOf_12 : decode cX11_byteOf 12 = .ok (.iload_n 1, 1) := by decide +kernel
theorem dX11_byteOf_13 : decode cX11_byteOf 13 = .ok (.ifCond .ne 10, 3) := by decide +kernel
theorem dX11_byteOf_16 : decode cX11_byteOf 16 = .ok (.aload_n 0, 1) := by decide +kernel
theorem dX11_byteOf_17 : decode cX11_byteOf 17 = .ok (.getfield 450, 3) := by decide +kernel
theorem dX11_byteOf_20 : decode cX11_byteOf 20 = .ok (.goto 19, 3) := by decide +kernel
theorem dX11_byteOf_23 : decode cX11_byteOf 23 = .ok (.iload_n 1, 1) := by decide +kernel
theorem dX11_byteOf_24 : decode cX11_byteOf 24 = .ok (.iconst 1, 1) := by decide +kernel
theorem dX11_byteOf_25 : decode cX11_byteOf 25 = .ok (.if_icmp .ne 10, 3) := by decide +kernel
theorem dX11_byteOf_28 : decode cX11_byteOf 28 = .ok (.aload_n 0, 1) := by decide +kernel
theorem dX11_byteOf_29 : decode cX11_byteOf 29 = .ok (.getfield 457, 3) := by decide +kernel
theorem dX11_byteOf_32 : decode cX11_byteOf 32 = .ok (.goto 7, 3) := by decide +kernel
theorem dX11_byteOf_35 : decode cX11_byteOf 35 = .ok (.aload_n 0, 1) := by decide +kernel
theorem dX11_byteOf_36 : decode cX11_byteOf 36 = .ok (.getfield 418, 3) := by decide +kernel
theorem dX11_byteOf_39 : decode cX11_byteOf 39 = .ok (.istore_n 3, 1) := by decide +kernel
theorem dX11_byteOf_40 : decode cX11_byteOf 40 = .ok (.iload_n 2, 1) := by decide +kernel
theorem dX11_byteOf_41 : decode cX11_byteOf 41 = .ok (.iconst 0, 1) := by decide +kernel
theorem dX11_byteOf_42 : decode cX11_byteOf 42 = .ok (.iload_n 3, 1) := by decide +kernel
theorem dX11_byteOf_43 : decode cX11_byteOf 43 = .ok (.iconst 1, 1) := by decide +kernel
theorem dX11_byteOf_44 : decode cX11_byteOf 44 = .ok (.isub, 1) := by decide +kernel
theorem dX11_byteOf_45 : decode cX11_byteOf 45 = .ok (.invokestatic 366, 3) := by decide +kernel
theorem dX11_byteOf_48 : decode cX11_byteOf 48 = .ok (.ifCond .ne 7, 3) := by decide +kernel
theorem dX11_byteOf_51 : decode cX11_byteOf 51 = .ok (.iconst (-1), 1) := by decide +kernel
theorem dX11_byteOf_52 : decode cX11_byteOf 52 = .ok (.goto 36, 3) := by decide +kernel
theorem dX11_byteOf_55 : decode cX11_byteOf 55 = .ok (.iload_n 1, 1) := by decide +kernel
theorem dX11_byteOf_56 : decode cX11_byteOf 56 = .ok (.ifCond .ne 12, 3) := by decide +kernel
theorem dX11_byteOf_59 : decode cX11_byteOf 59 = .ok (.aload_n 0, 1) := by decide +kernel
theorem dX11_byteOf_60 : decode cX11_byteOf 60 = .ok (.getfield 243, 3) := by decide +kernel
theorem dX11_byteOf_63 : decode cX11_byteOf 63 = .ok (.iload_n 2, 1) := by decide +kernel
theorem dX11_byteOf_64 : decode cX11_byteOf 64 = .ok (.iaload, 1) := by decide +kernel
theorem dX11_byteOf_65 : decode cX11_byteOf 65 = .ok (.goto 23, 3) := by decide +kernel
theorem dX11_byteOf_68 : decode cX11_byteOf 68 = .ok (.iload_n 1, 1) := by decide +kernel
theorem dX11_byteOf_69 : decode cX11_byteOf 69 = .ok (.iconst 1, 1) := by decide +kernel
theorem dX11_byteOf_70 : decode cX11_byteOf 70 = .ok (.if_icmp .ne 12, 3) := by decide +kernel
theorem dX11_byteOf_73 : decode cX11_byteOf 73 = .ok (.aload_n 0, 1) := by decide +kernel
theorem dX11_byteOf_74 : decode cX11_byteOf 74 = .ok (.getfield 246, 3) := by decide +kernel
theorem dX11_byteOf_77 : decode cX11_byteOf 77 = .ok (.iload_n 2, 1) := by decide +kernel
theorem dX11_byteOf_78 : decode cX11_byteOf 78 = .ok (.iaload, 1) := by decide +kernel
theorem dX11_byteOf_79 : decode cX11_byteOf 79 = .ok (.goto 9, 3) := by decide +kernel
theorem dX11_byteOf_82 : decode cX11_byteOf 82 = .ok (.aload_n 0, 1) := by decide +kernel
theorem dX11_byteOf_83 : decode cX11_byteOf 83 = .ok (.getfield 240, 3) := by decide +kernel
theorem dX11_byteOf_86 : decode cX11_byteOf 86 = .ok (.iload_n 2, 1) := by decide +kernel
theorem dX11_byteOf_87 : decode cX11_byteOf 87 = .ok (.iaload, 1) := by decide +kernel
theorem dX11_byteOf_88 : decode cX11_byteOf 88 = .ok (.ireturn, 1) := by decide +kernel
theorem dX11_hash_0 : decode cX11_hash 0 = .ok (.aload_n 0, 1) := by decide +kernel
theorem dX11_hash_1 : decode cX11_hash 1 = .ok (.iload_n 1, 1) := by decide +kernel
theorem dX11_hash_2 : decode cX11_hash 2 = .ok (.invokevirtual 415, 3) := by decide +kernel
theorem dX11_hash_5 : decode cX11_hash 5 = .ok (.ifCond .eq 27, 3) := by decide +kernel
theorem dX11_hash_8 : decode cX11_hash 8 = .ok (.iload_n 2, 1) := by decide +kernel
theorem dX11_hash_9 : decode cX11_hash 9 = .ok (.iconst 0, 1) := by decide +kernel
theorem dX11_hash_10 : decode cX11_hash 10 = .ok (.bipush 31, 2) := by decide +kernel
theorem dX11_hash_12 : decode cX11_hash 12 = .ok (.invokestatic 366, 3) := by decide +kernel
theorem dX11_hash_15 : decode cX11_hash 15 = .ok (.ifCond .eq 17, 3) := by decide +kernel
theorem dX11_hash_18 : decode cX11_hash 18 = .ok (.aload_n 0, 1) := by decide +kernel
theorem dX11_hash_19 : decode cX11_hash 19 = .ok (.getfield 219, 3) := by decide +kernel
theorem dX11_hash_22 : decode cX11_hash 22 = .ok (.bipush 32, 2) := by decide +kernel
theorem dX11_hash_24 : decode cX11_hash 24 = .ok (.iload_n 1, 1) := by decide +kernel
theorem dX11_hash_25 : decode cX11_hash 25 = .ok (.imul, 1) := by decide +kernel
theorem dX11_hash_26 : decode cX11_hash 26 = .ok (.iload_n 2, 1) := by decide +kernel
theorem dX11_hash_27 : decode cX11_hash 27 = .ok (.iadd, 1) := by decide +kernel
theorem dX11_hash_28 : decode cX11_hash 28 = .ok (.iaload, 1) := by decide +kernel
theorem dX11_hash_29 : decode cX11_hash 29 = .ok (.goto 5, 3) := by decide +kernel
theorem dX11_hash_32 : decode cX11_hash 32 = .ok (.bipush (-2), 2) := by decide +kernel
theorem dX11_hash_34 : decode cX11_hash 34 = .ok (.ireturn, 1) := by decide +kernel
theorem dX11_aboutOf_0 : decode cX11_aboutOf 0 = .ok (.iload_n 2, 1) := by decide +kernel
theorem dX11_aboutOf_1 : decode cX11_aboutOf 1 = .ok (.tableswitch 135 0 7 #[47, 54, 61, 68, 83, 98, 105, 120], 47) := by decide +kernel
theorem dX11_aboutOf_48 : decode cX11_aboutOf 48 = .ok (.aload_n 0, 1) := by decide +kernel
theorem dX11_aboutOf_49 : decode cX11_aboutOf 49 = .ok (.getfield 177, 3) := by decide +kernel
theorem dX11_aboutOf_52 : decode cX11_aboutOf 52 = .ok (.iload_n 1, 1) := by decide +kernel
theorem dX11_aboutOf_53 : decode cX11_aboutOf 53 = .ok (.iaload, 1) := by decide +kernel
theorem dX11_aboutOf_54 : decode cX11_aboutOf 54 = .ok (.ireturn, 1) := by decide +kernel
theorem dX11_aboutOf_55 : decode cX11_aboutOf 55 = .ok (.aload_n 0, 1) := by decide +kernel
theorem dX11_aboutOf_56 : decode cX11_aboutOf 56 = .ok (.getfield 180, 3) := by decide +kernel
theorem dX11_aboutOf_59 : decode cX11_aboutOf 59 = .ok (.iload_n 1, 1) := by decide +kernel
theorem dX11_aboutOf_60 : decode cX11_aboutOf 60 = .ok (.iaload, 1) := by decide +kernel
theorem dX11_aboutOf_61 : decode cX11_aboutOf 61 = .ok (.ireturn, 1) := by decide +kernel
theorem dX11_aboutOf_62 : decode cX11_aboutOf 62 = .ok (.aload_n 0, 1) := by decide +kernel
theorem dX11_aboutOf_63 : decode cX11_aboutOf 63 = .ok (.getfield 195, 3) := by decide +kernel
theorem dX11_aboutOf_66 : decode cX11_aboutOf 66 = .ok (.iload_n 1, 1) := by decide +kernel
theorem dX11_aboutOf_67 : decode cX11_aboutOf 67 = .ok (.iaload, 1) := by decide +kernel
theorem dX11_aboutOf_68 : decode cX11_aboutOf 68 = .ok (.ireturn, 1) := by decide +kernel
theorem dX11_aboutOf_69 : decode cX11_aboutOf 69 = .ok (.aload_n 0, 1) := by decide +kernel
theorem dX11_aboutOf_70 : decode cX11_aboutOf 70 = .ok (.getfield 198, 3) := by decide +kernel
theorem dX11_aboutOf_73 : decode cX11_aboutOf 73 = .ok (.iload_n 1, 1) := by decide +kernel
theorem dX11_aboutOf_74 : decode cX11_aboutOf 74 = .ok (.baload, 1) := by decide +kernel
theorem dX11_aboutOf_75 : decode cX11_aboutOf 75 = .ok (.ifCond .eq 7, 3) := by decide +kernel
theorem dX11_aboutOf_78 : decode cX11_aboutOf 78 = .ok (.iconst 1, 1) := by decide +kernel
theorem dX11_aboutOf_79 : decode cX11_aboutOf 79 = .ok (.goto 4, 3) := by decide +kernel
theorem dX11_aboutOf_82 : decode cX11_aboutOf 82 = .ok (.iconst 0, 1) := by decide +kernel
theorem dX11_aboutOf_83 : decode cX11_aboutOf 83 = .ok (.ireturn, 1) := by decide +kernel
theorem dX11_aboutOf_84 : decode cX11_aboutOf 84 = .ok (.aload_n 0, 1) := by decide +kernel
theorem dX11_aboutOf_85 : decode cX11_aboutOf 85 = .ok (.getfield 201, 3) := by decide +kernel
theorem dX11_aboutOf_88 : decode cX11_aboutOf 88 = .ok (.iload_n 1, 1) := by decide +kernel
theorem dX11_aboutOf_89 : decode cX11_aboutOf 89 = .ok (.baload, 1) := by decide +kernel
theorem dX11_aboutOf_90 : decode cX11_aboutOf 90 = .ok (.ifCond .eq 7, 3) := by decide +kernel
theorem dX11_aboutOf_93 : decode cX11_aboutOf 93 = .ok (.iconst 1, 1) := by decide +kernel
theorem dX11_aboutOf_94 : decode cX11_aboutOf 94 = .ok (.goto 4, 3) := by decide +kernel
theorem dX11_aboutOf_97 : decode cX11_aboutOf 97 = .ok (.iconst 0, 1) := by decide +kernel
theorem dX11_aboutOf_98 : decode cX11_aboutOf 98 = .ok (.ireturn, 1) := by decide +kernel
theorem dX11_aboutOf_99 : decode cX11_aboutOf 99 = .ok (.aload_n 0, 1) := by decide +kernel
theorem dX11_aboutOf_100 : decode cX11_aboutOf 100 = .ok (.getfield 204, 3) := by decide +kernel
theorem dX11_aboutOf_103 : decode cX11_aboutOf 103 = .ok (.iload_n 1, 1) := by decide +kernel
theorem dX11_aboutOf_104 : decode cX11_aboutOf 104 = .ok (.iaload, 1) := by decide +kernel
theorem dX11_aboutOf_105 : decode cX11_aboutOf 105 = .ok (.ireturn, 1) := by decide +kernel
theorem dX11_aboutOf_106 : decode cX11_aboutOf 106 = .ok (.aload_n 0, 1) := by decide +kernel
theorem dX11_aboutOf_107 : decode cX11_aboutOf 107 = .ok (.getfield 210, 3) := by decide +kernel
theorem dX11_aboutOf_110 : decode cX11_aboutOf 110 = .ok (.iload_n 1, 1) := by decide +kernel
theorem dX11_aboutOf_111 : decode cX11_aboutOf 111 = .ok (.baload, 1) := by decide +kernel
theorem dX11_aboutOf_112 : decode cX11_aboutOf 112 = .ok (.ifCond .eq 7, 3) := by decide +kernel
theorem dX11_aboutOf_115 : decode cX11_aboutOf 115 = .ok (.iconst 1, 1) := by decide +kernel
theorem dX11_aboutOf_116 : decode cX11_aboutOf 116 = .ok (.goto 4, 3) := by decide +kernel
theorem dX11_aboutOf_119 : decode cX11_aboutOf 119 = .ok (.iconst 0, 1) := by decide +kernel
theorem dX11_aboutOf_120 : decode cX11_aboutOf 120 = .ok (.ireturn, 1) := by decide +kernel
theorem dX11_aboutOf_121 : decode cX11_aboutOf 121 = .ok (.aload_n 0, 1) := by decide +kernel
theorem dX11_aboutOf_122 : decode cX11_aboutOf 122 = .ok (.getfield 213, 3) := by decide +kernel
theorem dX11_aboutOf_125 : decode cX11_aboutOf 125 = .ok (.iload_n 1, 1) := by decide +kernel
theorem dX11_aboutOf_126 : decode cX11_aboutOf 126 = .ok (.baload, 1) := by decide +kernel
theorem dX11_aboutOf_127 : decode cX11_aboutOf 127 = .ok (.ifCond .eq 7, 3) := by decide +kernel
theorem dX11_aboutOf_130 : decode cX11_aboutOf 130 = .ok (.iconst 1, 1) := by decide +kernel
theorem dX11_aboutOf_131 : decode cX11_aboutOf 131 = .ok (.goto 4, 3) := by decide +kernel
theorem dX11_aboutOf_134 : decode cX11_aboutOf 134 = .ok (.iconst 0, 1) := by decide +kernel
theorem dX11_aboutOf_135 : decode cX11_aboutOf 135 = .ok (.ireturn, 1) := by decide +kernel
theorem dX11_aboutOf_136 : decode cX11_aboutOf 136 = .ok (.aload_n 0, 1) := by decide +kernel
theorem dX11_aboutOf_137 : decode cX11_aboutOf 137 = .ok (.getfield 192, 3) := by decide +kernel
theorem dX11_aboutOf_140 : decode cX11_aboutOf 140 = .ok (.iload_n 1, 1) := by decide +kernel
theorem dX11_aboutOf_141 : decode cX11_aboutOf 141 = .ok (.iaload, 1) := by decide +kernel
theorem dX11_aboutOf_142 : decode cX11_aboutOf 142 = .ok (.ireturn, 1) := by decide +kernel
theorem dX11_about_0 : decode cX11_about 0 = .ok (.aload_n 0, 1) := by decide +kernel
theorem dX11_about_1 : decode cX11_about 1 = .ok (.iload_n 1, 1) := by decide +kernel
theorem dX11_about_2 : decode cX11_about 2 = .ok (.invokevirtual 415, 3) := by decide +kernel
theorem dX11_about_5 : decode cX11_about 5 = .ok (.ifCond .eq 22, 3) := by decide +kernel
theorem dX11_about_8 : decode cX11_about 8 = .ok (.iload_n 2, 1) := by decide +kernel
theorem dX11_about_9 : decode cX11_about 9 = .ok (.iconst 0, 1) := by decide +kernel
theorem dX11_about_10 : decode cX11_about 10 = .ok (.bipush 8, 2) := by decide +kernel
theorem dX11_about_12 : decode cX11_about 12 = .ok (.invokestatic 366, 3) := by decide +kernel
theorem dX11_about_15 : decode cX11_about 15 = .ok (.ifCond .eq 12, 3) := by decide +kernel
theorem dX11_about_18 : decode cX11_about 18 = .ok (.aload_n 0, 1) := by decide +kernel
theorem dX11_about_19 : decode cX11_about 19 = .ok (.iload_n 1, 1) := by decide +kernel
theorem dX11_about_20 : decode cX11_about 20 = .ok (.iload_n 2, 1) := by decide +kernel
theorem dX11_about_21 : decode cX11_about 21 = .ok (.invokevirtual 472, 3) := by decide +kernel
theorem dX11_about_24 : decode cX11_about 24 = .ok (.goto 5, 3) := by decide +kernel
theorem dX11_about_27 : decode cX11_about 27 = .ok (.bipush (-2), 2) := by decide +kernel
theorem dX11_about_29 : decode cX11_about 29 = .ok (.ireturn, 1) := by decide +kernel
theorem dX11_same_0 : decode cX11_same 0 = .ok (.aload_n 0, 1) := by decide +kernel
theorem dX11_same_1 : decode cX11_same 1 = .ok (.iload_n 1, 1) := by decide +kernel
theorem dX11_same_2 : decode cX11_same 2 = .ok (.invokevirtual 415, 3) := by decide +kernel
theorem dX11_same_5 : decode cX11_same 5 = .ok (.ifCond .eq 11, 3) := by decide +kernel
theorem dX11_same_8 : decode cX11_same 8 = .ok (.aload_n 0, 1) := by decide +kernel
theorem dX11_same_9 : decode cX11_same 9 = .ok (.iload_n 2, 1) := by decide +kernel
theorem dX11_same_10 : decode cX11_same 10 = .ok (.invokevirtual 415, 3) := by decide +kernel
theorem dX11_same_13 : decode cX11_same 13 = .ok (.ifCond .ne 6, 3) := by decide +kernel
theorem dX11_same_16 : decode cX11_same 16 = .ok (.bipush (-2), 2) := by decide +kernel
theorem dX11_same_18 : decode cX11_same 18 = .ok (.ireturn, 1) := by decide +kernel
theorem dX11_same_19 : decode cX11_same 19 = .ok (.aload_n 0, 1) := by decide +kernel
theorem dX11_same_20 : decode cX11_same 20 = .ok (.getfield 198, 3) := by decide +kernel
theorem dX11_same_23 : decode cX11_same 23 = .ok (.iload_n 1, 1) := by decide +kernel
theorem dX11_same_24 : decode cX11_same 24 = .ok (.baload, 1) := by decide +kernel
theorem dX11_same_25 : decode cX11_same 25 = .ok (.ifCond .eq 12, 3) := by decide +kernel
theorem dX11_same_28 : decode cX11_same 28 = .ok (.aload_n 0, 1) := by decide +kernel
theorem dX11_same_29 : decode cX11_same 29 = .ok (.getfield 198, 3) := by decide +kernel
theorem dX11_same_32 : decode cX11_same 32 = .ok (.iload_n 2, 1) := by decide +kernel
theorem dX11_same_33 : decode cX11_same 33 = .ok (.baload, 1) := by decide +kernel
theorem dX11_same_34 : decode cX11_same 34 = .ok (.ifCond .ne 6, 3) := by decide +kernel
theorem dX11_same_37 : decode cX11_same 37 = .ok (.bipush (-3), 2) := by decide +kernel
theorem dX11_same_39 : decode cX11_same 39 = .ok (.ireturn, 1) := by decide +kernel
theorem dX11_same_40 : decode cX11_same 40 = .ok (.aload_n 0, 1) := by decide +kernel
theorem dX11_same_41 : decode cX11_same 41 = .ok (.getfield 180, 3) := by decide +kernel
theorem dX11_same_44 : decode cX11_same 44 = .ok (.iload_n 1, 1) := by decide +kernel
theorem dX11_same_45 : decode cX11_same 45 = .ok (.iaload, 1) := by decide +kernel
theorem dX11_same_46 : decode cX11_same 46 = .ok (.aload_n 0, 1) := by decide +kernel
theorem dX11_same_47 : decode cX11_same 47 = .ok (.getfield 180, 3) := by decide +kernel
theorem dX11_same_50 : decode cX11_same 50 = .ok (.iload_n 2, 1) := by decide +kernel
theorem dX11_same_51 : decode cX11_same 51 = .ok (.iaload, 1) := by decide +kernel
theorem dX11_same_52 : decode cX11_same 52 = .ok (.if_icmp .eq 7, 3) := by decide +kernel
theorem dX11_same_55 : decode cX11_same 55 = .ok (.iconst 1, 1) := by decide +kernel
theorem dX11_same_56 : decode cX11_same 56 = .ok (.goto 4, 3) := by decide +kernel
theorem dX11_same_59 : decode cX11_same 59 = .ok (.iconst 0, 1) := by decide +kernel
theorem dX11_same_60 : decode cX11_same 60 = .ok (.istore_n 3, 1) := by decide +kernel
theorem dX11_same_61 : decode cX11_same 61 = .ok (.iconst 0, 1) := by decide +kernel
theorem dX11_same_62 : decode cX11_same 62 = .ok (.istore 4, 2) := by decide +kernel
theorem dX11_same_64 : decode cX11_same 64 = .ok (.iload 4, 2) := by decide +kernel
theorem dX11_same_66 : decode cX11_same 66 = .ok (.bipush 32, 2) := by decide +kernel
theorem dX11_same_68 : decode cX11_same 68 = .ok (.if_icmp .ge 88, 3) := by decide +kernel
theorem dX11_same_71 : decode cX11_same 71 = .ok (.bipush 32, 2) := by decide +kernel
theorem dX11_same_73 : decode cX11_same 73 = .ok (.iload_n 1, 1) := by decide +kernel
theorem dX11_same_74 : decode cX11_same 74 = .ok (.imul, 1) := by decide +kernel
theorem dX11_same_75 : decode cX11_same 75 = .ok (.iload 4, 2) := by decide +kernel
theorem dX11_same_77 : decode cX11_same 77 = .ok (.iadd, 1) := by decide +kernel
theorem dX11_same_78 : decode cX11_same 78 = .ok (.istore 5, 2) := by decide +kernel
theorem dX11_same_80 : decode cX11_same 80 = .ok (.bipush 32, 2) := by decide +kernel
theorem dX11_same_82 : decode cX11_same 82 = .ok (.iload_n 2, 1) := by decide +kernel
theorem dX11_same_83 : decode cX11_same 83 = .ok (.imul, 1) := by decide +kernel
theorem dX11_same_84 : decode cX11_same 84 = .ok (.iload 4, 2) := by decide +kernel
theorem dX11_same_86 : decode cX11_same 86 = .ok (.iadd, 1) := by decide +kernel
theorem dX11_same_87 : decode cX11_same 87 = .ok (.istore 6, 2) := by decide +kernel
theorem dX11_same_89 : decode cX11_same 89 = .ok (.iload_n 3, 1) := by decide +kernel
theorem dX11_same_90 : decode cX11_same 90 = .ok (.ifCond .eq 58, 3) := by decide +kernel
theorem dX11_same_93 : decode cX11_same 93 = .ok (.aload_n 0, 1) := by decide +kernel
theorem dX11_same_94 : decode cX11_same 94 = .ok (.getfield 219, 3) := by decide +kernel
theorem dX11_same_97 : decode cX11_same 97 = .ok (.iload 5, 2) := by decide +kernel
theorem dX11_same_99 : decode cX11_same 99 = .ok (.iaload, 1) := by decide +kernel
theorem dX11_same_100 : decode cX11_same 100 = .ok (.aload_n 0, 1) := by decide +kernel
theorem dX11_same_101 : decode cX11_same 101 = .ok (.getfield 219, 3) := by decide +kernel
theorem dX11_same_104 : decode cX11_same 104 = .ok (.iload 6, 2) := by decide +kernel
theorem dX11_same_106 : decode cX11_same 106 = .ok (.iaload, 1) := by decide +kernel
theorem dX11_same_107 : decode cX11_same 107 = .ok (.if_icmp .ne 41, 3) := by decide +kernel
theorem dX11_same_110 : decode cX11_same 110 = .ok (.aload_n 0, 1) := by decide +kernel
theorem dX11_same_111 : decode cX11_same 111 = .ok (.getfield 222, 3) := by decide +kernel
theorem dX11_same_114 : decode cX11_same 114 = .ok (.iload 5, 2) := by decide +kernel
theorem dX11_same_116 : decode cX11_same 116 = .ok (.iaload, 1) := by decide +kernel
theorem dX11_same_117 : decode cX11_same 117 = .ok (.aload_n 0, 1) := by decide +kernel
theorem dX11_same_118 : decode cX11_same 118 = .ok (.getfield 225, 3) := by decide +kernel
theorem dX11_same_121 : decode cX11_same 121 = .ok (.iload 6, 2) := by decide +kernel
theorem dX11_same_123 : decode cX11_same 123 = .ok (.iaload, 1) := by decide +kernel
theorem dX11_same_124 : decode cX11_same 124 = .ok (.if_icmp .ne 24, 3) := by decide +kernel
theorem dX11_same_127 : decode cX11_same 127 = .ok (.aload_n 0, 1) := by decide +kernel
theorem dX11_same_128 : decode cX11_same 128 = .ok (.getfield 225, 3) := by decide +kernel
theorem dX11_same_131 : decode cX11_same 131 = .ok (.iload 5, 2) := by decide +kernel
theorem dX11_same_133 : decode cX11_same 133 = .ok (.iaload, 1) := by decide +kernel
theorem dX11_same_134 : decode cX11_same 134 = .ok (.aload_n 0, 1) := by decide +kernel
theorem dX11_same_135 : decode cX11_same 135 = .ok (.getfield 222, 3) := by decide +kernel
theorem dX11_same_138 : decode cX11_same 138 = .ok (.iload 6, 2) := by decide +kernel
theorem dX11_same_140 : decode cX11_same 140 = .ok (.iaload, 1) := by decide +kernel
theorem dX11_same_141 : decode cX11_same 141 = .ok (.if_icmp .ne 7, 3) := by decide +kernel
theorem dX11_same_144 : decode cX11_same 144 = .ok (.iconst 1, 1) := by decide +kernel
theorem dX11_same_145 : decode cX11_same 145 = .ok (.goto 4, 3) := by decide +kernel
theorem dX11_same_148 : decode cX11_same 148 = .ok (.iconst 0, 1) := by decide +kernel
theorem dX11_same_149 : decode cX11_same 149 = .ok (.istore_n 3, 1) := by decide +kernel
theorem dX11_same_150 : decode cX11_same 150 = .ok (.iinc 4 1, 3) := by decide +kernel
theorem dX11_same_153 : decode cX11_same 153 = .ok (.goto (-89), 3) := by decide +kernel
theorem dX11_same_156 : decode cX11_same 156 = .ok (.iload_n 3, 1) := by decide +kernel
theorem dX11_same_157 : decode cX11_same 157 = .ok (.ifCond .eq 7, 3) := by decide +kernel
theorem dX11_same_160 : decode cX11_same 160 = .ok (.iconst 1, 1) := by decide +kernel
theorem dX11_same_161 : decode cX11_same 161 = .ok (.goto 4, 3) := by decide +kernel
theorem dX11_same_164 : decode cX11_same 164 = .ok (.iconst 0, 1) := by decide +kernel
theorem dX11_same_165 : decode cX11_same 165 = .ok (.ireturn, 1) := by decide +kernel
theorem dX11_key_0 : decode cX11_key 0 = .ok (.iload_n 3, 1) := by decide +kernel
theorem dX11_key_1 : decode cX11_key 1 = .ok (.iconst 0, 1) := by decide +kernel
theorem dX11_key_2 : decode cX11_key 2 = .ok (.bipush 31, 2) := by decide +kernel
theorem dX11_key_4 : decode cX11_key 4 = .ok (.invokestatic 366, 3) := by decide +kernel
theorem dX11_key_7 : decode cX11_key 7 = .ok (.ifCond .ne 6, 3) := by decide +kernel
theorem dX11_key_10 : decode cX11_key 10 = .ok (.bipush (-2), 2) := by decide +kernel
theorem dX11_key_12 : decode cX11_key 12 = .ok (.ireturn, 1) := by decide +kernel
theorem dX11_key_13 : decode cX11_key 13 = .ok (.aload_n 0, 1) := by decide +kernel
theorem dX11_key_14 : decode cX11_key 14 = .ok (.iload_n 1, 1) := by decide +kernel
theorem dX11_key_15 : decode cX11_key 15 = .ok (.iload_n 2, 1) := by decide +kernel
theorem dX11_key_16 : decode cX11_key 16 = .ok (.aload_n 0, 1) := by decide +kernel
theorem dX11_key_17 : decode cX11_key 17 = .ok (.getfield 249, 3) := by decide +kernel
theorem dX11_key_20 : decode cX11_key 20 = .ok (.iconst 0, 1) := by decide +kernel
theorem dX11_key_21 : decode cX11_key 21 = .ok (.invokevirtual 394, 3) := by decide +kernel
theorem dX11_key_24 : decode cX11_key 24 = .ok (.aload_n 0, 1) := by decide +kernel
theorem dX11_key_25 : decode cX11_key 25 = .ok (.aload_n 0, 1) := by decide +kernel
theorem dX11_key_26 : decode cX11_key 26 = .ok (.getfield 249, 3) := by decide +kernel
theorem dX11_key_29 : decode cX11_key 29 = .ok (.iconst 0, 1) := by decide +kernel
theorem dX11_key_30 : decode cX11_key 30 = .ok (.aload_n 0, 1) := by decide +kernel
theorem dX11_key_31 : decode cX11_key 31 = .ok (.getfield 249, 3) := by decide +kernel
theorem dX11_key_34 : decode cX11_key 34 = .ok (.bipush 32, 2) := by decide +kernel
theorem dX11_key_36 : decode cX11_key 36 = .ok (.invokevirtual 398, 3) := by decide +kernel
theorem dX11_key_39 : decode cX11_key 39 = .ok (.aload_n 0, 1) := by decide +kernel
theorem dX11_key_40 : decode cX11_key 40 = .ok (.getfield 249, 3) := by decide +kernel
theorem dX11_key_43 : decode cX11_key 43 = .ok (.bipush 32, 2) := by decide +kernel
theorem dX11_key_45 : decode cX11_key 45 = .ok (.iload_n 3, 1) := by decide +kernel
theorem dX11_key_46 : decode cX11_key 46 = .ok (.iadd, 1) := by decide +kernel
theorem dX11_key_47 : decode cX11_key 47 = .ok (.iaload, 1) := by decide +kernel
theorem dX11_key_48 : decode cX11_key 48 = .ok (.ireturn, 1) := by decide +kernel
theorem dX11_count_0 : decode cX11_count 0 = .ok (.iload_n 1, 1) := by decide +kernel
theorem dX11_count_1 : decode cX11_count 1 = .ok (.tableswitch 60 0 4 #[35, 40, 45, 50, 55], 35) := by decide +kernel
theorem dX11_count_36 : decode cX11_count 36 = .ok (.aload_n 0, 1) := by decide +kernel
theorem dX11_count_37 : decode cX11_count 37 = .ok (.getfield 363, 3) := by decide +kernel
theorem dX11_count_40 : decode cX11_count 40 = .ok (.ireturn, 1) := by decide +kernel
theorem dX11_count_41 : decode cX11_count 41 = .ok (.aload_n 0, 1) := by decide +kernel
theorem dX11_count_42 : decode cX11_count 42 = .ok (.getfield 370, 3) := by decide +kernel
theorem dX11_count_45 : decode cX11_count 45 = .ok (.ireturn, 1) := by decide +kernel
theorem dX11_count_46 : decode cX11_count 46 = .ok (.aload_n 0, 1) := by decide +kernel
theorem dX11_count_47 : decode cX11_count 47 = .ok (.getfield 418, 3) := by decide +kernel
theorem dX11_count_50 : decode cX11_count 50 = .ok (.ireturn, 1) := by decide +kernel
theorem dX11_count_51 : decode cX11_count 51 = .ok (.aload_n 0, 1) := by decide +kernel
theorem dX11_count_52 : decode cX11_count 52 = .ok (.getfield 450, 3) := by decide +kernel
theorem dX11_count_55 : decode cX11_count 55 = .ok (.ireturn, 1) := by decide +kernel
theorem dX11_count_56 : decode cX11_count 56 = .ok (.aload_n 0, 1) := by decide +kernel
theorem dX11_count_57 : decode cX11_count 57 = .ok (.getfield 457, 3) := by decide +kernel
theorem dX11_count_60 : decode cX11_count 60 = .ok (.ireturn, 1) := by decide +kernel
theorem dX11_count_61 : decode cX11_count 61 = .ok (.bipush (-2), 2) := by decide +kernel
theorem dX11_count_63 : decode cX11_count 63 = .ok (.ireturn, 1) := by decide +kernel
theorem dX11_digest_0 : decode cX11_digest 0 = .ok (.ldc2_w 475, 3) := by decide +kernel
theorem dX11_digest_3 : decode cX11_digest 3 = .ok (.lstore_n 1, 1) := by decide +kernel
theorem dX11_digest_4 : decode cX11_digest 4 = .ok (.iconst 0, 1) := by decide +kernel
theorem dX11_digest_5 : decode cX11_digest 5 = .ok (.istore_n 3, 1) := by decide +kernel
theorem dX11_digest_6 : decode cX11_digest 6 = .ok (.iload_n 3, 1) := by decide +kernel
theorem dX11_digest_7 : decode cX11_digest 7 = .ok (.aload_n 0, 1) := by decide +kernel
theorem dX11_digest_8 : decode cX11_digest 8 = .ok (.getfield 370, 3) := by decide +kernel
theorem dX11_digest_11 : decode cX11_digest 11 = .ok (.if_icmp .ge 76, 3) := by decide +kernel
theorem dX11_digest_14 : decode cX11_digest 14 = .ok (.iconst 2, 1) := by decide +kernel
theorem dX11_digest_15 : decode cX11_digest 15 = .ok (.istore 4, 2) := by decide +kernel
theorem dX11_digest_17 : decode cX11_digest 17 = .ok (.iload 4, 2) := by decide +kernel
theorem dX11_digest_19 : decode cX11_digest 19 = .ok (.bipush 9, 2) := by decide +kernel
theorem dX11_digest_21 : decode cX11_digest 21 = .ok (.if_icmp .ge 24, 3) := by decide +kernel
theorem dX11_digest_24 : decode cX11_digest 24 = .ok (.ldc2_w 477, 3) := by decide +kernel
theorem dX11_digest_27 : decode cX11_digest 27 = .ok (.lload_n 1, 1) := by decide +kernel
theorem dX11_digest_28 : decode cX11_digest 28 = .ok (.lmul, 1) := by decide +kernel
theorem dX11_digest_29 : decode cX11_digest 29 = .ok (.aload_n 0, 1) := by decide +kernel
theorem dX11_digest_30 : decode cX11_digest 30 = .ok (.iload_n 3, 1) := by decide +kernel
theorem dX11_digest_31 : decode cX11_digest 31 = .ok (.iload 4, 2) := by decide +kernel
theorem dX11_digest_33 : decode cX11_digest 33 = .ok (.invokevirtual 472, 3) := by decide +kernel
theorem dX11_digest_36 : decode cX11_digest 36 = .ok (.i2l, 1) := by decide +kernel
theorem dX11_digest_37 : decode cX11_digest 37 = .ok (.ladd, 1) := by decide +kernel
theorem dX11_digest_38 : decode cX11_digest 38 = .ok (.lstore_n 1, 1) := by decide +kernel
theorem dX11_digest_39 : decode cX11_digest 39 = .ok (.iinc 4 1, 3) := by decide +kernel
theorem dX11_digest_42 : decode cX11_digest 42 = .ok (.goto (-25), 3) := by decide +kernel
theorem dX11_digest_45 : decode cX11_digest 45 = .ok (.iconst 0, 1) := by decide +kernel
theorem dX11_digest_46 : decode cX11_digest 46 = .ok (.istore 4, 2) := by decide +kernel
theorem dX11_digest_48 : decode cX11_digest 48 = .ok (.iload 4, 2) := by decide +kernel
theorem dX11_digest_50 : decode cX11_digest 50 = .ok (.bipush 32, 2) := by decide +kernel
theorem dX11_digest_52 : decode cX11_digest 52 = .ok (.if_icmp .ge 29, 3) := by decide +kernel
theorem dX11_digest_55 : decode cX11_digest 55 = .ok (.ldc2_w 477, 3) := by decide +kernel
theorem dX11_digest_58 : decode cX11_digest 58 = .ok (.lload_n 1, 1) := by decide +kernel
theorem dX11_digest_59 : decode cX11_digest 59 = .ok (.lmul, 1) := by decide +kernel
theorem dX11_digest_60 : decode cX11_digest 60 = .ok (.aload_n 0, 1) := by decide +kernel
theorem dX11_digest_61 : decode cX11_digest 61 = .ok (.getfield 219, 3) := by decide +kernel
theorem dX11_digest_64 : decode cX11_digest 64 = .ok (.bipush 32, 2) := by decide +kernel
theorem dX11_digest_66 : decode cX11_digest 66 = .ok (.iload_n 3, 1) := by decide +kernel
theorem dX11_digest_67 : decode cX11_digest 67 = .ok (.imul, 1) := by decide +kernel
theorem dX11_digest_68 : decode cX11_digest 68 = .ok (.iload 4, 2) := by decide +kernel
theorem dX11_digest_70 : decode cX11_digest 70 = .ok (.iadd, 1) := by decide +kernel
theorem dX11_digest_71 : decode cX11_digest 71 = .ok (.iaload, 1) := by decide +kernel
theorem dX11_digest_72 : decode cX11_digest 72 = .ok (.i2l, 1) := by decide +kernel
theorem dX11_digest_73 : decode cX11_digest 73 = .ok (.ladd, 1) := by decide +kernel
theorem dX11_digest_74 : decode cX11_digest 74 = .ok (.lstore_n 1, 1) := by decide +kernel
theorem dX11_digest_75 : decode cX11_digest 75 = .ok (.iinc 4 1, 3) := by decide +kernel
theorem dX11_digest_78 : decode cX11_digest 78 = .ok (.goto (-30), 3) := by decide +kernel
theorem dX11_digest_81 : decode cX11_digest 81 = .ok (.iinc 3 1, 3) := by decide +kernel
theorem dX11_digest_84 : decode cX11_digest 84 = .ok (.goto (-78), 3) := by decide +kernel
theorem dX11_digest_87 : decode cX11_digest 87 = .ok (.iconst 0, 1) := by decide +kernel
theorem dX11_digest_88 : decode cX11_digest 88 = .ok (.istore_n 3, 1) := by decide +kernel
theorem dX11_digest_89 : decode cX11_digest 89 = .ok (.iload_n 3, 1) := by decide +kernel
theorem dX11_digest_90 : decode cX11_digest 90 = .ok (.aload_n 0, 1) := by decide +kernel
theorem dX11_digest_91 : decode cX11_digest 91 = .ok (.getfield 450, 3) := by decide +kernel
theorem dX11_digest_94 : decode cX11_digest 94 = .ok (.if_icmp .ge 23, 3) := by decide +kernel
theorem dX11_digest_97 : decode cX11_digest 97 = .ok (.ldc2_w 477, 3) := by decide +kernel
theorem dX11_digest_100 : decode cX11_digest 100 = .ok (.lload_n 1, 1) := by decide +kernel
theorem dX11_digest_101 : decode cX11_digest 101 = .ok (.lmul, 1) := by decide +kernel
theorem dX11_digest_102 : decode cX11_digest 102 = .ok (.aload_n 0, 1) := by decide +kernel
theorem dX11_digest_103 : decode cX11_digest 103 = .ok (.getfield 243, 3) := by decide +kernel
theorem dX11_digest_106 : decode cX11_digest 106 = .ok (.iload_n 3, 1) := by decide +kernel
theorem dX11_digest_107 : decode cX11_digest 107 = .ok (.iaload, 1) := by decide +kernel
theorem dX11_digest_108 : decode cX11_digest 108 = .ok (.i2l, 1) := by decide +kernel
theorem dX11_digest_109 : decode cX11_digest 109 = .ok (.ladd, 1) := by decide +kernel
theorem dX11_digest_110 : decode cX11_digest 110 = .ok (.lstore_n 1, 1) := by decide +kernel
theorem dX11_digest_111 : decode cX11_digest 111 = .ok (.iinc 3 1, 3) := by decide +kernel
theorem dX11_digest_114 : decode cX11_digest 114 = .ok (.goto (-25), 3) := by decide +kernel
theorem dX11_digest_117 : decode cX11_digest 117 = .ok (.iconst 0, 1) := by decide +kernel
theorem dX11_digest_118 : decode cX11_digest 118 = .ok (.istore_n 3, 1) := by decide +kernel
theorem dX11_digest_119 : decode cX11_digest 119 = .ok (.iload_n 3, 1) := by decide +kernel
theorem dX11_digest_120 : decode cX11_digest 120 = .ok (.aload_n 0, 1) := by decide +kernel
theorem dX11_digest_121 : decode cX11_digest 121 = .ok (.getfield 457, 3) := by decide +kernel
theorem dX11_digest_124 : decode cX11_digest 124 = .ok (.if_icmp .ge 23, 3) := by decide +kernel
theorem dX11_digest_127 : decode cX11_digest 127 = .ok (.ldc2_w 477, 3) := by decide +kernel
theorem dX11_digest_130 : decode cX11_digest 130 = .ok (.lload_n 1, 1) := by decide +kernel
theorem dX11_digest_131 : decode cX11_digest 131 = .ok (.lmul, 1) := by decide +kernel
theorem dX11_digest_132 : decode cX11_digest 132 = .ok (.aload_n 0, 1) := by decide +kernel
theorem dX11_digest_133 : decode cX11_digest 133 = .ok (.getfield 246, 3) := by decide +kernel
theorem dX11_digest_136 : decode cX11_digest 136 = .ok (.iload_n 3, 1) := by decide +kernel
theorem dX11_digest_137 : decode cX11_digest 137 = .ok (.iaload, 1) := by decide +kernel
theorem dX11_digest_138 : decode cX11_digest 138 = .ok (.i2l, 1) := by decide +kernel
theorem dX11_digest_139 : decode cX11_digest 139 = .ok (.ladd, 1) := by decide +kernel
theorem dX11_digest_140 : decode cX11_digest 140 = .ok (.lstore_n 1, 1) := by decide +kernel
theorem dX11_digest_141 : decode cX11_digest 141 = .ok (.iinc 3 1, 3) := by decide +kernel
theorem dX11_digest_144 : decode cX11_digest 144 = .ok (.goto (-25), 3) := by decide +kernel
theorem dX11_digest_147 : decode cX11_digest 147 = .ok (.lload_n 1, 1) := by decide +kernel
theorem dX11_digest_148 : decode cX11_digest 148 = .ok (.lreturn, 1) := by decide +kernel
theorem dJ9_min_7cf53_0 : decode cJ9_min_7cf53 0 = .ok (.iload_n 0, 1) := by decide +kernel
theorem dJ9_min_7cf53_1 : decode cJ9_min_7cf53 1 = .ok (.iload_n 1, 1) := by decide +kernel
theorem dJ9_min_7cf53_2 : decode cJ9_min_7cf53 2 = .ok (.if_icmp .gt 7, 3) := by decide +kernel
theorem dJ9_min_7cf53_5 : decode cJ9_min_7cf53 5 = .ok (.iload_n 0, 1) := by decide +kernel
theorem dJ9_min_7cf53_6 : decode cJ9_min_7cf53 6 = .ok (.goto 4, 3) := by decide +kernel
theorem dJ9_min_7cf53_9 : decode cJ9_min_7cf53 9 = .ok (.iload_n 1, 1) := by decide +kernel
theorem dJ9_min_7cf53_10 : decode cJ9_min_7cf53 10 = .ok (.ireturn, 1) := by decide +kernel
theorem dJ0_length_8abf5_0 : decode cJ0_length_8abf5 0 = .ok (.aload_n 0, 1) := by decide +kernel
theorem dJ0_length_8abf5_1 : decode cJ0_length_8abf5 1 = .ok (.getfield 9, 3) := by decide +kernel
theorem dJ0_length_8abf5_4 : decode cJ0_length_8abf5 4 = .ok (.arraylength, 1) := by decide +kernel
theorem dJ0_length_8abf5_5 : decode cJ0_length_8abf5 5 = .ok (.aload_n 0, 1) := by decide +kernel
theorem dJ0_length_8abf5_6 : decode cJ0_length_8abf5 6 = .ok (.invokevirtual 335, 3) := by decide +kernel
theorem dJ0_length_8abf5_9 : decode cJ0_length_8abf5 9 = .ok (.ishr, 1) := by decide +kernel
theorem dJ0_length_8abf5_10 : decode cJ0_length_8abf5 10 = .ok (.ireturn, 1) := by decide +kernel
theorem dJ0_charAt_5068e_0 : decode cJ0_charAt_5068e 0 = .ok (.aload_n 0, 1) := by decide +kernel
theorem dJ0_charAt_5068e_1 : decode cJ0_charAt_5068e 1 = .ok (.invokevirtual 492, 3) := by decide +kernel
theorem dJ0_charAt_5068e_4 : decode cJ0_charAt_5068e 4 = .ok (.ifCond .eq 12, 3) := by decide +kernel
theorem dJ0_charAt_5068e_7 : decode cJ0_charAt_5068e 7 = .ok (.aload_n 0, 1) := by decide +kernel
theorem dJ0_charAt_5068e_8 : decode cJ0_charAt_5068e 8 = .ok (.getfield 9, 3) := by decide +kernel
theorem dJ0_charAt_5068e_11 : decode cJ0_charAt_5068e 11 = .ok (.iload_n 1, 1) := by decide +kernel
theorem dJ0_charAt_5068e_12 : decode cJ0_charAt_5068e 12 = .ok (.invokestatic 495, 3) := by decide +kernel
theorem dJ0_charAt_5068e_15 : decode cJ0_charAt_5068e 15 = .ok (.ireturn, 1) := by decide +kernel
theorem dJ0_charAt_5068e_16 : decode cJ0_charAt_5068e 16 = .ok (.aload_n 0, 1) := by decide +kernel
theorem dJ0_charAt_5068e_17 : decode cJ0_charAt_5068e 17 = .ok (.getfield 9, 3) := by decide +kernel
theorem dJ0_charAt_5068e_20 : decode cJ0_charAt_5068e 20 = .ok (.iload_n 1, 1) := by decide +kernel
theorem dJ0_charAt_5068e_21 : decode cJ0_charAt_5068e 21 = .ok (.invokestatic 498, 3) := by decide +kernel
theorem dJ0_charAt_5068e_24 : decode cJ0_charAt_5068e 24 = .ok (.ireturn, 1) := by decide +kernel
theorem dJ0_coder_7d493_0 : decode cJ0_coder_7d493 0 = .ok (.getstatic 38, 3) := by decide +kernel
theorem dJ0_coder_7d493_3 : decode cJ0_coder_7d493 3 = .ok (.ifCond .eq 10, 3) := by decide +kernel
theorem dJ0_coder_7d493_6 : decode cJ0_coder_7d493 6 = .ok (.aload_n 0, 1) := by decide +kernel
theorem dJ0_coder_7d493_7 : decode cJ0_coder_7d493 7 = .ok (.getfield 15, 3) := by decide +kernel
theorem dJ0_coder_7d493_10 : decode cJ0_coder_7d493 10 = .ok (.goto 4, 3) := by decide +kernel
theorem dJ0_coder_7d493_13 : decode cJ0_coder_7d493 13 = .ok (.iconst 1, 1) := by decide +kernel
theorem dJ0_coder_7d493_14 : decode cJ0_coder_7d493 14 = .ok (.ireturn, 1) := by decide +kernel
theorem dJ0_isLatin1_aae02_0 : decode cJ0_isLatin1_aae02 0 = .ok (.getstatic 38, 3) := by decide +kernel
theorem dJ0_isLatin1_aae02_3 : decode cJ0_isLatin1_aae02 3 = .ok (.ifCond .eq 14, 3) := by decide +kernel
theorem dJ0_isLatin1_aae02_6 : decode cJ0_isLatin1_aae02 6 = .ok (.aload_n 0, 1) := by decide +kernel
theorem dJ0_isLatin1_aae02_7 : decode cJ0_isLatin1_aae02 7 = .ok (.getfield 15, 3) := by decide +kernel
theorem dJ0_isLatin1_aae02_10 : decode cJ0_isLatin1_aae02 10 = .ok (.ifCond .ne 7, 3) := by decide +kernel
theorem dJ0_isLatin1_aae02_13 : decode cJ0_isLatin1_aae02 13 = .ok (.iconst 1, 1) := by decide +kernel
theorem dJ0_isLatin1_aae02_14 : decode cJ0_isLatin1_aae02 14 = .ok (.goto 4, 3) := by decide +kernel
theorem dJ0_isLatin1_aae02_17 : decode cJ0_isLatin1_aae02 17 = .ok (.iconst 0, 1) := by decide +kernel
theorem dJ0_isLatin1_aae02_18 : decode cJ0_isLatin1_aae02 18 = .ok (.ireturn, 1) := by decide +kernel
theorem dJ0_checkIndex_df160_0 : decode cJ0_checkIndex_df160 0 = .ok (.iload_n 0, 1) := by decide +kernel
theorem dJ0_checkIndex_df160_1 : decode cJ0_checkIndex_df160 1 = .ok (.iload_n 1, 1) := by decide +kernel
theorem dJ0_checkIndex_df160_2 : decode cJ0_checkIndex_df160 2 = .ok (.getstatic 1053, 3) := by decide +kernel
theorem dJ0_checkIndex_df160_5 : decode cJ0_checkIndex_df160 5 = .ok (.invokestatic 1059, 3) := by decide +kernel
theorem dJ0_checkIndex_df160_8 : decode cJ0_checkIndex_df160 8 = .ok (.pop, 1) := by decide +kernel
theorem dJ0_checkIndex_df160_9 : decode cJ0_checkIndex_df160 9 = .ok (.return_, 1) := by decide +kernel
theorem dJ1_charAt_3b067_0 : decode cJ1_charAt_3b067 0 = .ok (.iload_n 1, 1) := by decide +kernel

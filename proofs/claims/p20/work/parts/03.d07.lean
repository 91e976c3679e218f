theorem dX11_packs_30 : decode cX11_packs 30 = .ok (.iconst 2, 1) := by decide +kernel
theorem dX11_packs_31 : decode cX11_packs 31 = .ok (.if_icmp .ge 118, 3) := by decide +kernel
theorem dX11_packs_34 : decode cX11_packs 34 = .ok (.lconst 0, 1) := by decide +kernel
theorem dX11_packs_35 : decode cX11_packs 35 = .ok (.lstore 5, 2) := by decide +kernel
theorem dX11_packs_37 : decode cX11_packs 37 = .ok (.iconst 0, 1) := by decide +kernel
theorem dX11_packs_38 : decode cX11_packs 38 = .ok (.istore 7, 2) := by decide +kernel
theorem dX11_packs_40 : decode cX11_packs 40 = .ok (.iload 7, 2) := by decide +kernel
theorem dX11_packs_42 : decode cX11_packs 42 = .ok (.bipush 16, 2) := by decide +kernel
theorem dX11_packs_44 : decode cX11_packs 44 = .ok (.if_icmp .ge 84, 3) := by decide +kernel
theorem dX11_packs_47 : decode cX11_packs 47 = .ok (.aload_n 0, 1) := by decide +kernel
theorem dX11_packs_48 : decode cX11_packs 48 = .ok (.getfield 109, 3) := by decide +kernel
theorem dX11_packs_51 : decode cX11_packs 51 = .ok (.sipush 128, 3) := by decide +kernel
theorem dX11_packs_54 : decode cX11_packs 54 = .ok (.iload 7, 2) := by decide +kernel
theorem dX11_packs_56 : decode cX11_packs 56 = .ok (.iadd, 1) := by decide +kernel
theorem dX11_packs_57 : decode cX11_packs 57 = .ok (.laload, 1) := by decide +kernel
theorem dX11_packs_58 : decode cX11_packs 58 = .ok (.iload 7, 2) := by decide +kernel
theorem dX11_packs_60 : decode cX11_packs 60 = .ok (.ifCond .ne 9, 3) := by decide +kernel
theorem dX11_packs_63 : decode cX11_packs 63 = .ok (.ldc2_w 307, 3) := by decide +kernel
theorem dX11_packs_66 : decode cX11_packs 66 = .ok (.goto 19, 3) := by decide +kernel
theorem dX11_packs_69 : decode cX11_packs 69 = .ok (.iload 7, 2) := by decide +kernel
theorem dX11_packs_71 : decode cX11_packs 71 = .ok (.bipush 15, 2) := by decide +kernel
theorem dX11_packs_73 : decode cX11_packs 73 = .ok (.if_icmp .ne 9, 3) := by decide +kernel
theorem dX11_packs_76 : decode cX11_packs 76 = .ok (.ldc2_w 309, 3) := by decide +kernel
theorem dX11_packs_79 : decode cX11_packs 79 = .ok (.goto 6, 3) := by decide +kernel
theorem dX11_packs_82 : decode cX11_packs 82 = .ok (.ldc2_w 311, 3) := by decide +kernel
theorem dX11_packs_85 : decode cX11_packs 85 = .ok (.lsub, 1) := by decide +kernel
theorem dX11_packs_86 : decode cX11_packs 86 = .ok (.lload 5, 2) := by decide +kernel
theorem dX11_packs_88 : decode cX11_packs 88 = .ok (.lsub, 1) := by decide +kernel
theorem dX11_packs_89 : decode cX11_packs 89 = .ok (.lstore 8, 2) := by decide +kernel
theorem dX11_packs_91 : decode cX11_packs 91 = .ok (.lload 8, 2) := by decide +kernel
theorem dX11_packs_93 : decode cX11_packs 93 = .ok (.lconst 0, 1) := by decide +kernel
theorem dX11_packs_94 : decode cX11_packs 94 = .ok (.lcmp, 1) := by decide +kernel
theorem dX11_packs_95 : decode cX11_packs 95 = .ok (.ifCond .ge 7, 3) := by decide +kernel
theorem dX11_packs_98 : decode cX11_packs 98 = .ok (.lconst 1, 1) := by decide +kernel
theorem dX11_packs_99 : decode cX11_packs 99 = .ok (.goto 4, 3) := by decide +kernel
theorem dX11_packs_102 : decode cX11_packs 102 = .ok (.lconst 0, 1) := by decide +kernel
theorem dX11_packs_103 : decode cX11_packs 103 = .ok (.lstore 5, 2) := by decide +kernel
theorem dX11_packs_105 : decode cX11_packs 105 = .ok (.aload_n 0, 1) := by decide +kernel
theorem dX11_packs_106 : decode cX11_packs 106 = .ok (.getfield 109, 3) := by decide +kernel
theorem dX11_packs_109 : decode cX11_packs 109 = .ok (.sipush 144, 3) := by decide +kernel
theorem dX11_packs_112 : decode cX11_packs 112 = .ok (.iload 7, 2) := by decide +kernel
theorem dX11_packs_114 : decode cX11_packs 114 = .ok (.iadd, 1) := by decide +kernel
theorem dX11_packs_115 : decode cX11_packs 115 = .ok (.lload 8, 2) := by decide +kernel
theorem dX11_packs_117 : decode cX11_packs 117 = .ok (.ldc2_w 311, 3) := by decide +kernel
theorem dX11_packs_120 : decode cX11_packs 120 = .ok (.land, 1) := by decide +kernel
theorem dX11_packs_121 : decode cX11_packs 121 = .ok (.lastore, 1) := by decide +kernel
theorem dX11_packs_122 : decode cX11_packs 122 = .ok (.iinc 7 1, 3) := by decide +kernel
theorem dX11_packs_125 : decode cX11_packs 125 = .ok (.goto (-85), 3) := by decide +kernel
theorem dX11_packs_128 : decode cX11_packs 128 = .ok (.lload 5, 2) := by decide +kernel
theorem dX11_packs_130 : decode cX11_packs 130 = .ok (.lconst 0, 1) := by decide +kernel
theorem dX11_packs_131 : decode cX11_packs 131 = .ok (.lcmp, 1) := by decide +kernel
theorem dX11_packs_132 : decode cX11_packs 132 = .ok (.ifCond .ne 11, 3) := by decide +kernel
theorem dX11_packs_135 : decode cX11_packs 135 = .ok (.aload_n 0, 1) := by decide +kernel
theorem dX11_packs_136 : decode cX11_packs 136 = .ok (.bipush 8, 2) := by decide +kernel
theorem dX11_packs_138 : decode cX11_packs 138 = .ok (.bipush 9, 2) := by decide +kernel
theorem dX11_packs_140 : decode cX11_packs 140 = .ok (.invokevirtual 304, 3) := by decide +kernel
theorem dX11_packs_143 : decode cX11_packs 143 = .ok (.iinc 4 1, 3) := by decide +kernel
theorem dX11_packs_146 : decode cX11_packs 146 = .ok (.goto (-118), 3) := by decide +kernel
theorem dX11_packs_149 : decode cX11_packs 149 = .ok (.iconst 0, 1) := by decide +kernel
theorem dX11_packs_150 : decode cX11_packs 150 = .ok (.istore 4, 2) := by decide +kernel
theorem dX11_packs_152 : decode cX11_packs 152 = .ok (.iload 4, 2) := by decide +kernel
theorem dX11_packs_154 : decode cX11_packs 154 = .ok (.bipush 16, 2) := by decide +kernel
theorem dX11_packs_156 : decode cX11_packs 156 = .ok (.if_icmp .ge 62, 3) := by decide +kernel
theorem dX11_packs_159 : decode cX11_packs 159 = .ok (.aload_n 2, 1) := by decide +kernel
theorem dX11_packs_160 : decode cX11_packs 160 = .ok (.iload_n 3, 1) := by decide +kernel
theorem dX11_packs_161 : decode cX11_packs 161 = .ok (.iconst 2, 1) := by decide +kernel
theorem dX11_packs_162 : decode cX11_packs 162 = .ok (.iload 4, 2) := by decide +kernel
theorem dX11_packs_164 : decode cX11_packs 164 = .ok (.imul, 1) := by decide +kernel
theorem dX11_packs_165 : decode cX11_packs 165 = .ok (.iadd, 1) := by decide +kernel
theorem dX11_packs_166 : decode cX11_packs 166 = .ok (.aload_n 0, 1) := by decide +kernel
theorem dX11_packs_167 : decode cX11_packs 167 = .ok (.getfield 109, 3) := by decide +kernel
theorem dX11_packs_170 : decode cX11_packs 170 = .ok (.sipush 128, 3) := by decide +kernel
theorem dX11_packs_173 : decode cX11_packs 173 = .ok (.iload 4, 2) := by decide +kernel
theorem dX11_packs_175 : decode cX11_packs 175 = .ok (.iadd, 1) := by decide +kernel
theorem dX11_packs_176 : decode cX11_packs 176 = .ok (.laload, 1) := by decide +kernel
theorem dX11_packs_177 : decode cX11_packs 177 = .ok (.ldc2_w 313, 3) := by decide +kernel
theorem dX11_packs_180 : decode cX11_packs 180 = .ok (.land, 1) := by decide +kernel
theorem dX11_packs_181 : decode cX11_packs 181 = .ok (.l2i, 1) := by decide +kernel
theorem dX11_packs_182 : decode cX11_packs 182 = .ok (.iastore, 1) := by decide +kernel
theorem dX11_packs_183 : decode cX11_packs 183 = .ok (.aload_n 2, 1) := by decide +kernel
theorem dX11_packs_184 : decode cX11_packs 184 = .ok (.iload_n 3, 1) := by decide +kernel
theorem dX11_packs_185 : decode cX11_packs 185 = .ok (.iconst 2, 1) := by decide +kernel
theorem dX11_packs_186 : decode cX11_packs 186 = .ok (.iload 4, 2) := by decide +kernel
theorem dX11_packs_188 : decode cX11_packs 188 = .ok (.imul, 1) := by decide +kernel
theorem dX11_packs_189 : decode cX11_packs 189 = .ok (.iadd, 1) := by decide +kernel
theorem dX11_packs_190 : decode cX11_packs 190 = .ok (.iconst 1, 1) := by decide +kernel
theorem dX11_packs_191 : decode cX11_packs 191 = .ok (.iadd, 1) := by decide +kernel
theorem dX11_packs_192 : decode cX11_packs 192 = .ok (.aload_n 0, 1) := by decide +kernel
theorem dX11_packs_193 : decode cX11_packs 193 = .ok (.getfield 109, 3) := by decide +kernel
theorem dX11_packs_196 : decode cX11_packs 196 = .ok (.sipush 128, 3) := by decide +kernel
theorem dX11_packs_199 : decode cX11_packs 199 = .ok (.iload 4, 2) := by decide +kernel
theorem dX11_packs_201 : decode cX11_packs 201 = .ok (.iadd, 1) := by decide +kernel
theorem dX11_packs_202 : decode cX11_packs 202 = .ok (.laload, 1) := by decide +kernel
theorem dX11_packs_203 : decode cX11_packs 203 = .ok (.bipush 8, 2) := by decide +kernel
theorem dX11_packs_205 : decode cX11_packs 205 = .ok (.lshr, 1) := by decide +kernel
theorem dX11_packs_206 : decode cX11_packs 206 = .ok (.ldc2_w 313, 3) := by decide +kernel
theorem dX11_packs_209 : decode cX11_packs 209 = .ok (.land, 1) := by decide +kernel
theorem dX11_packs_210 : decode cX11_packs 210 = .ok (.l2i, 1) := by decide +kernel
theorem dX11_packs_211 : decode cX11_packs 211 = .ok (.iastore, 1) := by decide +kernel
theorem dX11_packs_212 : decode cX11_packs 212 = .ok (.iinc 4 1, 3) := by decide +kernel
theorem dX11_packs_215 : decode cX11_packs 215 = .ok (.goto (-63), 3) := by decide +kernel
theorem dX11_packs_218 : decode cX11_packs 218 = .ok (.return_, 1) := by decide +kernel
theorem dX11_dh_0 : decode cX11_dh 0 = .ok (.aload_n 1, 1) := by decide +kernel
theorem dX11_dh_1 : decode cX11_dh 1 = .ok (.iload_n 2, 1) := by decide +kernel
theorem dX11_dh_2 : decode cX11_dh 2 = .ok (.aload_n 0, 1) := by decide +kernel
theorem dX11_dh_3 : decode cX11_dh 3 = .ok (.getfield 116, 3) := by decide +kernel
theorem dX11_dh_6 : decode cX11_dh 6 = .ok (.iconst 0, 1) := by decide +kernel
theorem dX11_dh_7 : decode cX11_dh 7 = .ok (.bipush 32, 2) := by decide +kernel
theorem dX11_dh_9 : decode cX11_dh 9 = .ok (.invokestatic 270, 3) := by decide +kernel
theorem dX11_dh_12 : decode cX11_dh 12 = .ok (.aload_n 0, 1) := by decide +kernel
theorem dX11_dh_13 : decode cX11_dh 13 = .ok (.getfield 116, 3) := by decide +kernel
theorem dX11_dh_16 : decode cX11_dh 16 = .ok (.iconst 0, 1) := by decide +kernel
theorem dX11_dh_17 : decode cX11_dh 17 = .ok (.dup2, 1) := by decide +kernel
theorem dX11_dh_18 : decode cX11_dh 18 = .ok (.iaload, 1) := by decide +kernel
theorem dX11_dh_19 : decode cX11_dh 19 = .ok (.sipush 248, 3) := by decide +kernel
theorem dX11_dh_22 : decode cX11_dh 22 = .ok (.iand, 1) := by decide +kernel
theorem dX11_dh_23 : decode cX11_dh 23 = .ok (.iastore, 1) := by decide +kernel
theorem dX11_dh_24 : decode cX11_dh 24 = .ok (.aload_n 0, 1) := by decide +kernel
theorem dX11_dh_25 : decode cX11_dh 25 = .ok (.getfield 116, 3) := by decide +kernel
theorem dX11_dh_28 : decode cX11_dh 28 = .ok (.bipush 31, 2) := by decide +kernel
theorem dX11_dh_30 : decode cX11_dh 30 = .ok (.aload_n 0, 1) := by decide +kernel
theorem dX11_dh_31 : decode cX11_dh 31 = .ok (.getfield 116, 3) := by decide +kernel
theorem dX11_dh_34 : decode cX11_dh 34 = .ok (.bipush 31, 2) := by decide +kernel
theorem dX11_dh_36 : decode cX11_dh 36 = .ok (.iaload, 1) := by decide +kernel
theorem dX11_dh_37 : decode cX11_dh 37 = .ok (.bipush 127, 2) := by decide +kernel
theorem dX11_dh_39 : decode cX11_dh 39 = .ok (.iand, 1) := by decide +kernel
theorem dX11_dh_40 : decode cX11_dh 40 = .ok (.bipush 64, 2) := by decide +kernel
theorem dX11_dh_42 : decode cX11_dh 42 = .ok (.ior, 1) := by decide +kernel
theorem dX11_dh_43 : decode cX11_dh 43 = .ok (.iastore, 1) := by decide +kernel
theorem dX11_dh_44 : decode cX11_dh 44 = .ok (.iconst 0, 1) := by decide +kernel
theorem dX11_dh_45 : decode cX11_dh 45 = .ok (.istore 7, 2) := by decide +kernel
theorem dX11_dh_47 : decode cX11_dh 47 = .ok (.iload 7, 2) := by decide +kernel
theorem dX11_dh_49 : decode cX11_dh 49 = .ok (.bipush 16, 2) := by decide +kernel
theorem dX11_dh_51 : decode cX11_dh 51 = .ok (.if_icmp .ge 44, 3) := by decide +kernel
theorem dX11_dh_54 : decode cX11_dh 54 = .ok (.aload_n 0, 1) := by decide +kernel
theorem dX11_dh_55 : decode cX11_dh 55 = .ok (.getfield 109, 3) := by decide +kernel
theorem dX11_dh_58 : decode cX11_dh 58 = .ok (.bipush 96, 2) := by decide +kernel
theorem dX11_dh_60 : decode cX11_dh 60 = .ok (.iload 7, 2) := by decide +kernel
theorem dX11_dh_62 : decode cX11_dh 62 = .ok (.iadd, 1) := by decide +kernel
theorem dX11_dh_63 : decode cX11_dh 63 = .ok (.aload_n 3, 1) := by decide +kernel
theorem dX11_dh_64 : decode cX11_dh 64 = .ok (.iload 4, 2) := by decide +kernel
theorem dX11_dh_66 : decode cX11_dh 66 = .ok (.iconst 2, 1) := by decide +kernel
theorem dX11_dh_67 : decode cX11_dh 67 = .ok (.iload 7, 2) := by decide +kernel
theorem dX11_dh_69 : decode cX11_dh 69 = .ok (.imul, 1) := by decide +kernel
theorem dX11_dh_70 : decode cX11_dh 70 = .ok (.iadd, 1) := by decide +kernel
theorem dX11_dh_71 : decode cX11_dh 71 = .ok (.iaload, 1) := by decide +kernel
theorem dX11_dh_72 : decode cX11_dh 72 = .ok (.aload_n 3, 1) := by decide +kernel
theorem dX11_dh_73 : decode cX11_dh 73 = .ok (.iload 4, 2) := by decide +kernel
theorem dX11_dh_75 : decode cX11_dh 75 = .ok (.iconst 2, 1) := by decide +kernel
theorem dX11_dh_76 : decode cX11_dh 76 = .ok (.iload 7, 2) := by decide +kernel
theorem dX11_dh_78 : decode cX11_dh 78 = .ok (.imul, 1) := by decide +kernel
theorem dX11_dh_79 : decode cX11_dh 79 = .ok (.iadd, 1) := by decide +kernel
theorem dX11_dh_80 : decode cX11_dh 80 = .ok (.iconst 1, 1) := by decide +kernel
theorem dX11_dh_81 : decode cX11_dh 81 = .ok (.iadd, 1) := by decide +kernel
theorem dX11_dh_82 : decode cX11_dh 82 = .ok (.iaload, 1) := by decide +kernel
theorem dX11_dh_83 : decode cX11_dh 83 = .ok (.bipush 8, 2) := by decide +kernel
theorem dX11_dh_85 : decode cX11_dh 85 = .ok (.ishl, 1) := by decide +kernel
theorem dX11_dh_86 : decode cX11_dh 86 = .ok (.ior, 1) := by decide +kernel
theorem dX11_dh_87 : decode cX11_dh 87 = .ok (.i2l, 1) := by decide +kernel
theorem dX11_dh_88 : decode cX11_dh 88 = .ok (.lastore, 1) := by decide +kernel
theorem dX11_dh_89 : decode cX11_dh 89 = .ok (.iinc 7 1, 3) := by decide +kernel
theorem dX11_dh_92 : decode cX11_dh 92 = .ok (.goto (-45), 3) := by decide +kernel
theorem dX11_dh_95 : decode cX11_dh 95 = .ok (.aload_n 0, 1) := by decide +kernel
theorem dX11_dh_96 : decode cX11_dh 96 = .ok (.getfield 109, 3) := by decide +kernel
theorem dX11_dh_99 : decode cX11_dh 99 = .ok (.bipush 111, 2) := by decide +kernel
theorem dX11_dh_101 : decode cX11_dh 101 = .ok (.dup2, 1) := by decide +kernel
theorem dX11_dh_102 : decode cX11_dh 102 = .ok (.laload, 1) := by decide +kernel
theorem dX11_dh_103 : decode cX11_dh 103 = .ok (.ldc2_w 309, 3) := by decide +kernel
theorem dX11_dh_106 : decode cX11_dh 106 = .ok (.land, 1) := by decide +kernel
theorem dX11_dh_107 : decode cX11_dh 107 = .ok (.lastore, 1) := by decide +kernel
theorem dX11_dh_108 : decode cX11_dh 108 = .ok (.aload_n 0, 1) := by decide +kernel
theorem dX11_dh_109 : decode cX11_dh 109 = .ok (.bipush 7, 2) := by decide +kernel
theorem dX11_dh_111 : decode cX11_dh 111 = .ok (.ldc2_w 315, 3) := by decide +kernel
theorem dX11_dh_114 : decode cX11_dh 114 = .ok (.invokevirtual 317, 3) := by decide +kernel
theorem dX11_dh_117 : decode cX11_dh 117 = .ok (.aload_n 0, 1) := by decide +kernel
theorem dX11_dh_118 : decode cX11_dh 118 = .ok (.getfield 109, 3) := by decide +kernel
theorem dX11_dh_121 : decode cX11_dh 121 = .ok (.bipush 113, 2) := by decide +kernel
theorem dX11_dh_123 : decode cX11_dh 123 = .ok (.lconst 1, 1) := by decide +kernel
theorem dX11_dh_124 : decode cX11_dh 124 = .ok (.lastore, 1) := by decide +kernel
theorem dX11_dh_125 : decode cX11_dh 125 = .ok (.aload_n 0, 1) := by decide +kernel
theorem dX11_dh_126 : decode cX11_dh 126 = .ok (.iconst 1, 1) := by decide +kernel
theorem dX11_dh_127 : decode cX11_dh 127 = .ok (.bipush 6, 2) := by decide +kernel
theorem dX11_dh_129 : decode cX11_dh 129 = .ok (.invokevirtual 304, 3) := by decide +kernel
theorem dX11_dh_132 : decode cX11_dh 132 = .ok (.aload_n 0, 1) := by decide +kernel
theorem dX11_dh_133 : decode cX11_dh 133 = .ok (.iconst 0, 1) := by decide +kernel
theorem dX11_dh_134 : decode cX11_dh 134 = .ok (.lconst 1, 1) := by decide +kernel
theorem dX11_dh_135 : decode cX11_dh 135 = .ok (.invokevirtual 317, 3) := by decide +kernel
theorem dX11_dh_138 : decode cX11_dh 138 = .ok (.aload_n 0, 1) := by decide +kernel
theorem dX11_dh_139 : decode cX11_dh 139 = .ok (.iconst 2, 1) := by decide +kernel
theorem dX11_dh_140 : decode cX11_dh 140 = .ok (.lconst 0, 1) := by decide +kernel
theorem dX11_dh_141 : decode cX11_dh 141 = .ok (.invokevirtual 317, 3) := by decide +kernel
theorem dX11_dh_144 : decode cX11_dh 144 = .ok (.aload_n 0, 1) := by decide +kernel
theorem dX11_dh_145 : decode cX11_dh 145 = .ok (.iconst 3, 1) := by decide +kernel
theorem dX11_dh_146 : decode cX11_dh 146 = .ok (.lconst 1, 1) := by decide +kernel
theorem dX11_dh_147 : decode cX11_dh 147 = .ok (.invokevirtual 317, 3) := by decide +kernel
theorem dX11_dh_150 : decode cX11_dh 150 = .ok (.sipush 254, 3) := by decide +kernel
theorem dX11_dh_153 : decode cX11_dh 153 = .ok (.istore 7, 2) := by decide +kernel
theorem dX11_dh_155 : decode cX11_dh 155 = .ok (.iload 7, 2) := by decide +kernel
theorem dX11_dh_157 : decode cX11_dh 157 = .ok (.ifCond .lt 74, 3) := by decide +kernel
theorem dX11_dh_160 : decode cX11_dh 160 = .ok (.aload_n 0, 1) := by decide +kernel
theorem dX11_dh_161 : decode cX11_dh 161 = .ok (.getfield 116, 3) := by decide +kernel
theorem dX11_dh_164 : decode cX11_dh 164 = .ok (.iload 7, 2) := by decide +kernel
theorem dX11_dh_166 : decode cX11_dh 166 = .ok (.bipush 8, 2) := by decide +kernel
theorem dX11_dh_168 : decode cX11_dh 168 = .ok (.idiv, 1) := by decide +kernel
theorem dX11_dh_169 : decode cX11_dh 169 = .ok (.iaload, 1) := by decide +kernel
theorem dX11_dh_170 : decode cX11_dh 170 = .ok (.iload 7, 2) := by decide +kernel
theorem dX11_dh_172 : decode cX11_dh 172 = .ok (.bipush 8, 2) := by decide +kernel
theorem dX11_dh_174 : decode cX11_dh 174 = .ok (.irem, 1) := by decide +kernel
theorem dX11_dh_175 : decode cX11_dh 175 = .ok (.ishr, 1) := by decide +kernel
theorem dX11_dh_176 : decode cX11_dh 176 = .ok (.iconst 1, 1) := by decide +kernel
theorem dX11_dh_177 : decode cX11_dh 177 = .ok (.iand, 1) := by decide +kernel
theorem dX11_dh_178 : decode cX11_dh 178 = .ok (.iconst 1, 1) := by decide +kernel
theorem dX11_dh_179 : decode cX11_dh 179 = .ok (.if_icmp .ne 7, 3) := by decide +kernel
theorem dX11_dh_182 : decode cX11_dh 182 = .ok (.iconst 1, 1) := by decide +kernel
theorem dX11_dh_183 : decode cX11_dh 183 = .ok (.goto 4, 3) := by decide +kernel
theorem dX11_dh_186 : decode cX11_dh 186 = .ok (.iconst 0, 1) := by decide +kernel
theorem dX11_dh_187 : decode cX11_dh 187 = .ok (.istore 8, 2) := by decide +kernel
theorem dX11_dh_189 : decode cX11_dh 189 = .ok (.aload_n 0, 1) := by decide +kernel
theorem dX11_dh_190 : decode cX11_dh 190 = .ok (.iconst 0, 1) := by decide +kernel
theorem dX11_dh_191 : decode cX11_dh 191 = .ok (.iconst 1, 1) := by decide +kernel
theorem dX11_dh_192 : decode cX11_dh 192 = .ok (.iload 8, 2) := by decide +kernel
theorem dX11_dh_194 : decode cX11_dh 194 = .ok (.invokevirtual 321, 3) := by decide +kernel
theorem dX11_dh_197 : decode cX11_dh 197 = .ok (.aload_n 0, 1) := by decide +kernel
theorem dX11_dh_198 : decode cX11_dh 198 = .ok (.iconst 2, 1) := by decide +kernel
theorem dX11_dh_199 : decode cX11_dh 199 = .ok (.iconst 3, 1) := by decide +kernel
theorem dX11_dh_200 : decode cX11_dh 200 = .ok (.iload 8, 2) := by decide +kernel
theorem dX11_dh_202 : decode cX11_dh 202 = .ok (.invokevirtual 321, 3) := by decide +kernel
theorem dX11_dh_205 : decode cX11_dh 205 = .ok (.aload_n 0, 1) := by decide +kernel
theorem dX11_dh_206 : decode cX11_dh 206 = .ok (.invokevirtual 325, 3) := by decide +kernel
theorem dX11_dh_209 : decode cX11_dh 209 = .ok (.aload_n 0, 1) := by decide +kernel
theorem dX11_dh_210 : decode cX11_dh 210 = .ok (.iconst 0, 1) := by decide +kernel
theorem dX11_dh_211 : decode cX11_dh 211 = .ok (.iconst 1, 1) := by decide +kernel
theorem dX11_dh_212 : decode cX11_dh 212 = .ok (.iload 8, 2) := by decide +kernel
theorem dX11_dh_214 : decode cX11_dh 214 = .ok (.invokevirtual 321, 3) := by decide +kernel
theorem dX11_dh_217 : decode cX11_dh 217 = .ok (.aload_n 0, 1) := by decide +kernel
theorem dX11_dh_218 : decode cX11_dh 218 = .ok (.iconst 2, 1) := by decide +kernel
theorem dX11_dh_219 : decode cX11_dh 219 = .ok (.iconst 3, 1) := by decide +kernel
theorem dX11_dh_220 : decode cX11_dh 220 = .ok (.iload 8, 2) := by decide +kernel
theorem dX11_dh_222 : decode cX11_dh 222 = .ok (.invokevirtual 321, 3) := by decide +kernel
theorem dX11_dh_225 : decode cX11_dh 225 = .ok (.iinc 7 (-1), 3) := by decide +kernel
theorem dX11_dh_228 : decode cX11_dh 228 = .ok (.goto (-73), 3) := by decide +kernel
theorem dX11_dh_231 : decode cX11_dh 231 = .ok (.aload_n 0, 1) := by decide +kernel
theorem dX11_dh_232 : decode cX11_dh 232 = .ok (.invokevirtual 328, 3) := by decide +kernel
theorem dX11_dh_235 : decode cX11_dh 235 = .ok (.aload_n 0, 1) := by decide +kernel
theorem dX11_dh_236 : decode cX11_dh 236 = .ok (.iconst 0, 1) := by decide +kernel
theorem dX11_dh_237 : decode cX11_dh 237 = .ok (.iconst 0, 1) := by decide +kernel
theorem dX11_dh_238 : decode cX11_dh 238 = .ok (.bipush 8, 2) := by decide +kernel
theorem dX11_dh_240 : decode cX11_dh 240 = .ok (.invokevirtual 301, 3) := by decide +kernel
theorem dX11_dh_243 : decode cX11_dh 243 = .ok (.aload_n 0, 1) := by decide +kernel
theorem dX11_dh_244 : decode cX11_dh 244 = .ok (.iconst 0, 1) := by decide +kernel
theorem dX11_dh_245 : decode cX11_dh 245 = .ok (.aload 5, 2) := by decide +kernel
theorem dX11_dh_247 : decode cX11_dh 247 = .ok (.iload 6, 2) := by decide +kernel
theorem dX11_dh_249 : decode cX11_dh 249 = .ok (.invokevirtual 331, 3) := by decide +kernel
theorem dX11_dh_252 : decode cX11_dh 252 = .ok (.return_, 1) := by decide +kernel
theorem dX11_publicOf_0 : decode cX11_publicOf 0 = .ok (.aload_n 0, 1) := by decide +kernel
theorem dX11_publicOf_1 : decode cX11_publicOf 1 = .ok (.getfield 119, 3) := by decide +kernel
theorem dX11_publicOf_4 : decode cX11_publicOf 4 = .ok (.iconst 0, 1) := by decide +kernel
theorem dX11_publicOf_5 : decode cX11_publicOf 5 = .ok (.bipush 9, 2) := by decide +kernel
theorem dX11_publicOf_7 : decode cX11_publicOf 7 = .ok (.iastore, 1) := by decide +kernel
theorem dX11_publicOf_8 : decode cX11_publicOf 8 = .ok (.aload_n 0, 1) := by decide +kernel
theorem dX11_publicOf_9 : decode cX11_publicOf 9 = .ok (.aload_n 1, 1) := by decide +kernel
theorem dX11_publicOf_10 : decode cX11_publicOf 10 = .ok (.iload_n 2, 1) := by decide +kernel
theorem dX11_publicOf_11 : decode cX11_publicOf 11 = .ok (.aload_n 0, 1) := by decide +kernel
theorem dX11_publicOf_12 : decode cX11_publicOf 12 = .ok (.getfield 119, 3) := by decide +kernel
theorem dX11_publicOf_15 : decode cX11_publicOf 15 = .ok (.iconst 0, 1) := by decide +kernel
theorem dX11_publicOf_16 : decode cX11_publicOf 16 = .ok (.aload_n 3, 1) := by decide +kernel
theorem dX11_publicOf_17 : decode cX11_publicOf 17 = .ok (.iload 4, 2) := by decide +kernel
theorem dX11_publicOf_19 : decode cX11_publicOf 19 = .ok (.invokevirtual 335, 3) := by decide +kernel
theorem dX11_publicOf_22 : decode cX11_publicOf 22 = .ok (.return_, 1) := by decide +kernel
theorem dX11_quarter_0 : decode cX11_quarter 0 = .ok (.aload_n 0, 1) := by decide +kernel
theorem dX11_quarter_1 : decode cX11_quarter 1 = .ok (.getfield 125, 3) := by decide +kernel
theorem dX11_quarter_4 : decode cX11_quarter 4 = .ok (.iload_n 1, 1) := by decide +kernel
theorem dX11_quarter_5 : decode cX11_quarter 5 = .ok (.dup2, 1) := by decide +kernel
theorem dX11_quarter_6 : decode cX11_quarter 6 = .ok (.iaload, 1) := by decide +kernel
theorem dX11_quarter_7 : decode cX11_quarter 7 = .ok (.aload_n 0, 1) := by decide +kernel
theorem dX11_quarter_8 : decode cX11_quarter 8 = .ok (.getfield 125, 3) := by decide +kernel
theorem dX11_quarter_11 : decode cX11_quarter 11 = .ok (.iload_n 2, 1) := by decide +kernel
theorem dX11_quarter_12 : decode cX11_quarter 12 = .ok (.iaload, 1) := by decide +kernel
theorem dX11_quarter_13 : decode cX11_quarter 13 = .ok (.iadd, 1) := by decide +kernel
theorem dX11_quarter_14 : decode cX11_quarter 14 = .ok (.iastore, 1) := by decide +kernel
theorem dX11_quarter_15 : decode cX11_quarter 15 = .ok (.aload_n 0, 1) := by decide +kernel
theorem dX11_quarter_16 : decode cX11_quarter 16 = .ok (.getfield 125, 3) := by decide +kernel
theorem dX11_quarter_19 : decode cX11_quarter 19 = .ok (.iload 4, 2) := by decide +kernel
theorem dX11_quarter_21 : decode cX11_quarter 21 = .ok (.aload_n 0, 1) := by decide +kernel
theorem dX11_quarter_22 : decode cX11_quarter 22 = .ok (.getfield 125, 3) := by decide +kernel
theorem dX11_quarter_25 : decode cX11_quarter 25 = .ok (.iload 4, 2) := by decide +kernel
theorem dX11_quarter_27 : decode cX11_quarter 27 = .ok (.iaload, 1) := by decide +kernel
theorem dX11_quarter_28 : decode cX11_quarter 28 = .ok (.aload_n 0, 1) := by decide +kernel
theorem dX11_quarter_29 : decode cX11_quarter 29 = .ok (.getfield 125, 3) := by decide +kernel
theorem dX11_quarter_32 : decode cX11_quarter 32 = .ok (.iload_n 1, 1) := by decide +kernel
theorem dX11_quarter_33 : decode cX11_quarter 33 = .ok (.iaload, 1) := by decide +kernel
theorem dX11_quarter_34 : decode cX11_quarter 34 = .ok (.ixor, 1) := by decide +kernel
theorem dX11_quarter_35 : decode cX11_quarter 35 = .ok (.bipush 16, 2) := by decide +kernel
theorem dX11_quarter_37 : decode cX11_quarter 37 = .ok (.invokestatic 263, 3) := by decide +kernel
theorem dX11_quarter_40 : decode cX11_quarter 40 = .ok (.iastore, 1) := by decide +kernel
theorem dX11_quarter_41 : decode cX11_quarter 41 = .ok (.aload_n 0, 1) := by decide +kernel
theorem dX11_quarter_42 : decode cX11_quarter 42 = .ok (.getfield 125, 3) := by decide +kernel
theorem dX11_quarter_45 : decode cX11_quarter 45 = .ok (.iload_n 3, 1) := by decide +kernel
theorem dX11_quarter_46 : decode cX11_quarter 46 = .ok (.dup2, 1) := by decide +kernel
theorem dX11_quarter_47 : decode cX11_quarter 47 = .ok (.iaload, 1) := by decide +kernel
theorem dX11_quarter_48 : decode cX11_quarter 48 = .ok (.aload_n 0, 1) := by decide +kernel
theorem dX11_quarter_49 : decode cX11_quarter 49 = .ok (.getfield 125, 3) := by decide +kernel
theorem dX11_quarter_52 : decode cX11_quarter 52 = .ok (.iload 4, 2) := by decide +kernel
theorem dX11_quarter_54 : decode cX11_quarter 54 = .ok (.iaload, 1) := by decide +kernel
theorem dX11_quarter_55 : decode cX11_quarter 55 = .ok (.iadd, 1) := by decide +kernel
theorem dX11_quarter_56 : decode cX11_quarter 56 = .ok (.iastore, 1) := by decide +kernel
theorem dX11_quarter_57 : decode cX11_quarter 57 = .ok (.aload_n 0, 1) := by decide +kernel
theorem dX11_quarter_58 : decode cX11_quarter 58 = .ok (.getfield 125, 3) := by decide +kernel
theorem dX11_quarter_61 : decode cX11_quarter 61 = .ok (.iload_n 2, 1) := by decide +kernel
theorem dX11_quarter_62 : decode cX11_quarter 62 = .ok (.aload_n 0, 1) := by decide +kernel
theorem dX11_quarter_63 : decode cX11_quarter 63 = .ok (.getfield 125, 3) := by decide +kernel
theorem dX11_quarter_66 : decode cX11_quarter 66 = .ok (.iload_n 2, 1) := by decide +kernel
theorem dX11_quarter_67 : decode cX11_quarter 67 = .ok (.iaload, 1) := by decide +kernel
theorem dX11_quarter_68 : decode cX11_quarter 68 = .ok (.aload_n 0, 1) := by decide +kernel
theorem dX11_quarter_69 : decode cX11_quarter 69 = .ok (.getfield 125, 3) := by decide +kernel
theorem dX11_quarter_72 : decode cX11_quarter 72 = .ok (.iload_n 3, 1) := by decide +kernel
theorem dX11_quarter_73 : decode cX11_quarter 73 = .ok (.iaload, 1) := by decide +kernel
theorem dX11_quarter_74 : decode cX11_quarter 74 = .ok (.ixor, 1) := by decide +kernel
theorem dX11_quarter_75 : decode cX11_quarter 75 = .ok (.bipush 20, 2) := by decide +kernel
theorem dX11_quarter_77 : decode cX11_quarter 77 = .ok (.invokestatic 263, 3) := by decide +kernel
theorem dX11_quarter_80 : decode cX11_quarter 80 = .ok (.iastore, 1) := by decide +kernel
theorem dX11_quarter_81 : decode cX11_quarter 81 = .ok (.aload_n 0, 1) := by decide +kernel
theorem dX11_quarter_82 : decode cX11_quarter 82 = .ok (.getfield 125, 3) := by decide +kernel
theorem dX11_quarter_85 : decode cX11_quarter 85 = .ok (.iload_n 1, 1) := by decide +kernel
theorem dX11_quarter_86 : decode cX11_quarter 86 = .ok (.dup2, 1) := by decide +kernel
theorem dX11_quarter_87 : decode cX11_quarter 87 = .ok (.iaload, 1) := by decide +kernel
theorem dX11_quarter_88 : decode cX11_quarter 88 = .ok (.aload_n 0, 1) := by decide +kernel
theorem dX11_quarter_89 : decode cX11_quarter 89 = .ok (.getfield 125, 3) := by decide +kernel
theorem dX11_quarter_92 : decode cX11_quarter 92 = .ok (.iload_n 2, 1) := by decide +kernel
theorem dX11_quarter_93 : decode cX11_quarter 93 = .ok (.iaload, 1) := by decide +kernel
theorem dX11_quarter_94 : decode cX11_quarter 94 = .ok (.iadd, 1) := by decide +kernel
theorem dX11_quarter_95 : decode cX11_quarter 95 = .ok (.iastore, 1) := by decide +kernel
theorem dX11_quarter_96 : decode cX11_quarter 96 = .ok (.aload_n 0, 1) := by decide +kernel
theorem dX11_quarter_97 : decode cX11_quarter 97 = .ok (.getfield 125, 3) := by decide +kernel
theorem dX11_quarter_100 : decode cX11_quarter 100 = .ok (.iload 4, 2) := by decide +kernel
theorem dX11_quarter_102 : decode cX11_quarter 102 = .ok (.aload_n 0, 1) := by decide +kernel
theorem dX11_quarter_103 : decode cX11_quarter 103 = .ok (.getfield 125, 3) := by decide +kernel
theorem dX11_quarter_106 : decode cX11_quarter 106 = .ok (.iload 4, 2) := by decide +kernel
theorem dX11_quarter_108 : decode cX11_quarter 108 = .ok (.iaload, 1) := by decide +kernel
theorem dX11_quarter_109 : decode cX11_quarter 109 = .ok (.aload_n 0, 1) := by decide +kernel
theorem dX11_quarter_110 : decode cX11_quarter 110 = .ok (.getfield 125, 3) := by decide +kernel
theorem dX11_quarter_113 : decode cX11_quarter 113 = .ok (.iload_n 1, 1) := by decide +kernel
theorem dX11_quarter_114 : decode cX11_quarter 114 = .ok (.iaload, 1) := by decide +kernel
theorem dX11_quarter_115 : decode cX11_quarter 115 = .ok (.ixor, 1) := by decide +kernel
theorem dX11_quarter_116 : decode cX11_quarter 116 = .ok (.bipush 24, 2) := by decide +kernel
theorem dX11_quarter_118 : decode cX11_quarter 118 = .ok (.invokestatic 263, 3) := by decide +kernel
theorem dX11_quarter_121 : decode cX11_quarter 121 = .ok (.iastore, 1) := by decide +kernel
theorem dX11_quarter_122 : decode cX11_quarter 122 = .ok (.aload_n 0, 1) := by decide +kernel
theorem dX11_quarter_123 : decode cX11_quarter 123 = .ok (.getfield 125, 3) := by decide +kernel
theorem dX11_quarter_126 : decode cX11_quarter 126 = .ok (.iload_n 3, 1) := by decide +kernel
theorem dX11_quarter_127 : decode cX11_quarter 127 = .ok (.dup2, 1) := by decide +kernel
theorem dX11_quarter_128 : decode cX11_quarter 128 = .ok (.iaload, 1) := by decide +kernel
theorem dX11_quarter_129 : decode cX11_quarter 129 = .ok (.aload_n 0, 1) := by decide +kernel
theorem dX11_quarter_130 : decode cX11_quarter 130 = .ok (.getfield 125, 3) := by decide +kernel
theorem dX11_quarter_133 : decode cX11_quarter 133 = .ok (.iload 4, 2) := by decide +kernel
theorem dX11_quarter_135 : decode cX11_quarter 135 = .ok (.iaload, 1) := by decide +kernel
theorem dX11_quarter_136 : decode cX11_quarter 136 = .ok (.iadd, 1) := by decide +kernel
theorem dX11_quarter_137 : decode cX11_quarter 137 = .ok (.iastore, 1) := by decide +kernel
theorem dX11_quarter_138 : decode cX11_quarter 138 = .ok (.aload_n 0, 1) := by decide +kernel
theorem dX11_quarter_139 : decode cX11_quarter 139 = .ok (.getfield 125, 3) := by decide +kernel
theorem dX11_quarter_142 : decode cX11_quarter 142 = .ok (.iload_n 2, 1) := by decide +kernel
theorem dX11_quarter_143 : decode cX11_quarter 143 = .ok (.aload_n 0, 1) := by decide +kernel
theorem dX11_quarter_144 : decode cX11_quarter 144 = .ok (.getfield 125, 3) := by decide +kernel
theorem dX11_quarter_147 : decode cX11_quarter 147 = .ok (.iload_n 2, 1) := by decide +kernel
theorem dX11_quarter_148 : decode cX11_quarter 148 = .ok (.iaload, 1) := by decide +kernel
theorem dX11_quarter_149 : decode cX11_quarter 149 = .ok (.aload_n 0, 1) := by decide +kernel
theorem dX11_quarter_150 : decode cX11_quarter 150 = .ok (.getfield 125, 3) := by decide +kernel
theorem dX11_quarter_153 : decode cX11_quarter 153 = .ok (.iload_n 3, 1) := by decide +kernel
theorem dX11_quarter_154 : decode cX11_quarter 154 = .ok (.iaload, 1) := by decide +kernel
theorem dX11_quarter_155 : decode cX11_quarter 155 = .ok (.ixor, 1) := by decide +kernel
theorem dX11_quarter_156 : decode cX11_quarter 156 = .ok (.bipush 25, 2) := by decide +kernel
theorem dX11_quarter_158 : decode cX11_quarter 158 = .ok (.invokestatic 263, 3) := by decide +kernel
theorem dX11_quarter_161 : decode cX11_quarter 161 = .ok (.iastore, 1) := by decide +kernel
theorem dX11_quarter_162 : decode cX11_quarter 162 = .ok (.return_, 1) := by decide +kernel
theorem dX11_streams_0 : decode cX11_streams 0 = .ok (.aload_n 0, 1) := by decide +kernel
theorem dX11_streams_1 : decode cX11_streams 1 = .ok (.getfield 122, 3) := by decide +kernel
theorem dX11_streams_4 : decode cX11_streams 4 = .ok (.iconst 0, 1) := by decide +kernel
theorem dX11_streams_5 : decode cX11_streams 5 = .ok (.ldc_w 339, 3) := by decide +kernel
theorem dX11_streams_8 : decode cX11_streams 8 = .ok (.iastore, 1) := by decide +kernel
theorem dX11_streams_9 : decode cX11_streams 9 = .ok (.aload_n 0, 1) := by decide +kernel
theorem dX11_streams_10 : decode cX11_streams 10 = .ok (.getfield 122, 3) := by decide +kernel
theorem dX11_streams_13 : decode cX11_streams 13 = .ok (.iconst 1, 1) := by decide +kernel
theorem dX11_streams_14 : decode cX11_streams 14 = .ok (.ldc_w 340, 3) := by decide +kernel
theorem dX11_streams_17 : decode cX11_streams 17 = .ok (.iastore, 1) := by decide +kernel
theorem dX11_streams_18 : decode cX11_streams 18 = .ok (.aload_n 0, 1) := by decide +kernel
theorem dX11_streams_19 : decode cX11_streams 19 = .ok (.getfield 122, 3) := by decide +kernel
theorem dX11_streams_22 : decode cX11_streams 22 = .ok (.iconst 2, 1) := by decide +kernel
theorem dX11_streams_23 : decode cX11_streams 23 = .ok (.ldc_w 341, 3) := by decide +kernel
theorem dX11_streams_26 : decode cX11_streams 26 = .ok (.iastore, 1) := by decide +kernel
theorem dX11_streams_27 : decode cX11_streams 27 = .ok (.aload_n 0, 1) := by decide +kernel
theorem dX11_streams_28 : decode cX11_streams 28 = .ok (.getfield 122, 3) := by decide +kernel
theorem dX11_streams_31 : decode cX11_streams 31 = .ok (.iconst 3, 1) := by decide +kernel
theorem dX11_streams_32 : decode cX11_streams 32 = .ok (.ldc_w 342, 3) := by decide +kernel
theorem dX11_streams_35 : decode cX11_streams 35 = .ok (.iastore, 1) := by decide +kernel
theorem dX11_streams_36 : decode cX11_streams 36 = .ok (.iconst 0, 1) := by decide +kernel
theorem dX11_streams_37 : decode cX11_streams 37 = .ok (.istore 5, 2) := by decide +kernel
theorem dX11_streams_39 : decode cX11_streams 39 = .ok (.iload 5, 2) := by decide +kernel
theorem dX11_streams_41 : decode cX11_streams 41 = .ok (.bipush 8, 2) := by decide +kernel
theorem dX11_streams_43 : decode cX11_streams 43 = .ok (.if_icmp .ge 60, 3) := by decide +kernel
theorem dX11_streams_46 : decode cX11_streams 46 = .ok (.iload_n 2, 1) := by decide +kernel
theorem dX11_streams_47 : decode cX11_streams 47 = .ok (.iconst 4, 1) := by decide +kernel
theorem dX11_streams_48 : decode cX11_streams 48 = .ok (.iload 5, 2) := by decide +kernel
theorem dX11_streams_50 : decode cX11_streams 50 = .ok (.imul, 1) := by decide +kernel
theorem dX11_streams_51 : decode cX11_streams 51 = .ok (.iadd, 1) := by decide +kernel
theorem dX11_streams_52 : decode cX11_streams 52 = .ok (.istore 6, 2) := by decide +kernel
theorem dX11_streams_54 : decode cX11_streams 54 = .ok (.aload_n 0, 1) := by decide +kernel
theorem dX11_streams_55 : decode cX11_streams 55 = .ok (.getfield 122, 3) := by decide +kernel
theorem dX11_streams_58 : decode cX11_streams 58 = .ok (.iconst 4, 1) := by decide +kernel
theorem dX11_streams_59 : decode cX11_streams 59 = .ok (.iload 5, 2) := by decide +kernel
theorem dX11_streams_61 : decode cX11_streams 61 = .ok (.iadd, 1) := by decide +kernel
theorem dX11_streams_62 : decode cX11_streams 62 = .ok (.aload_n 1, 1) := by decide +kernel
theorem dX11_streams_63 : decode cX11_streams 63 = .ok (.iload 6, 2) := by decide +kernel
theorem dX11_streams_65 : decode cX11_streams 65 = .ok (.iaload, 1) := by decide +kernel
theorem dX11_streams_66 : decode cX11_streams 66 = .ok (.aload_n 1, 1) := by decide +kernel
theorem dX11_streams_67 : decode cX11_streams 67 = .ok (.iload 6, 2) := by decide +kernel
theorem dX11_streams_69 : decode cX11_streams 69 = .ok (.iconst 1, 1) := by decide +kernel
theorem dX11_streams_70 : decode cX11_streams 70 = .ok (.iadd, 1) := by decide +kernel
theorem dX11_streams_71 : decode cX11_streams 71 = .ok (.iaload, 1) := by decide +kernel
theorem dX11_streams_72 : decode cX11_streams 72 = .ok (.bipush 8, 2) := by decide +kernel
theorem dX11_streams_74 : decode cX11_streams 74 = .ok (.ishl, 1) := by decide +kernel
theorem dX11_streams_75 : decode cX11_streams 75 = .ok (.ior, 1) := by decide +kernel
theorem dX11_streams_76 : decode cX11_streams 76 = .ok (.aload_n 1, 1) := by decide +kernel
theorem dX11_streams_77 : decode cX11_streams 77 = .ok (.iload 6, 2) := by decide +kernel
theorem dX11_streams_79 : decode cX11_streams 79 = .ok (.iconst 2, 1) := by decide +kernel
theorem dX11_streams_80 : decode cX11_streams 80 = .ok (.iadd, 1) := by decide +kernel
theorem dX11_streams_81 : decode cX11_streams 81 = .ok (.iaload, 1) := by decide +kernel
theorem dX11_streams_82 : decode cX11_streams 82 = .ok (.bipush 16, 2) := by decide +kernel
theorem dX11_streams_84 : decode cX11_streams 84 = .ok (.ishl, 1) := by decide +kernel
theorem dX11_streams_85 : decode cX11_streams 85 = .ok (.ior, 1) := by decide +kernel
theorem dX11_streams_86 : decode cX11_streams 86 = .ok (.aload_n 1, 1) := by decide +kernel
theorem dX11_streams_87 : decode cX11_streams 87 = .ok (.iload 6, 2) := by decide +kernel
theorem dX11_streams_89 : decode cX11_streams 89 = .ok (.iconst 3, 1) := by decide +kernel
theorem dX11_streams_90 : decode cX11_streams 90 = .ok (.iadd, 1) := by decide +kernel
theorem dX11_streams_91 : decode cX11_streams 91 = .ok (.iaload, 1) := by decide +kernel
theorem dX11_streams_92 : decode cX11_streams 92 = .ok (.bipush 24, 2) := by decide +kernel
theorem dX11_streams_94 : decode cX11_streams 94 = .ok (.ishl, 1) := by decide +kernel
theorem dX11_streams_95 : decode cX11_streams 95 = .ok (.ior, 1) := by decide +kernel
theorem dX11_streams_96 : decode cX11_streams 96 = .ok (.iastore, 1) := by decide +kernel
theorem dX11_streams_97 : decode cX11_streams 97 = .ok (.iinc 5 1, 3) := by decide +kernel
theorem dX11_streams_100 : decode cX11_streams 100 = .ok (.goto (-61), 3) := by decide +kernel
theorem dX11_streams_103 : decode cX11_streams 103 = .ok (.aload_n 0, 1) := by decide +kernel
theorem dX11_streams_104 : decode cX11_streams 104 = .ok (.getfield 122, 3) := by decide +kernel
theorem dX11_streams_107 : decode cX11_streams 107 = .ok (.bipush 12, 2) := by decide +kernel
theorem dX11_streams_109 : decode cX11_streams 109 = .ok (.iload_n 3, 1) := by decide +kernel
theorem dX11_streams_110 : decode cX11_streams 110 = .ok (.iastore, 1) := by decide +kernel
theorem dX11_streams_111 : decode cX11_streams 111 = .ok (.aload_n 0, 1) := by decide +kernel
theorem dX11_streams_112 : decode cX11_streams 112 = .ok (.getfield 122, 3) := by decide +kernel
theorem dX11_streams_115 : decode cX11_streams 115 = .ok (.bipush 13, 2) := by decide +kernel
theorem dX11_streams_117 : decode cX11_streams 117 = .ok (.iconst 0, 1) := by decide +kernel
theorem dX11_streams_118 : decode cX11_streams 118 = .ok (.iastore, 1) := by decide +kernel
theorem dX11_streams_119 : decode cX11_streams 119 = .ok (.aload_n 0, 1) := by decide +kernel
theorem dX11_streams_120 : decode cX11_streams 120 = .ok (.getfield 122, 3) := by decide +kernel
theorem dX11_streams_123 : decode cX11_streams 123 = .ok (.bipush 14, 2) := by decide +kernel
theorem dX11_streams_125 : decode cX11_streams 125 = .ok (.iload 4, 2) := by decide +kernel
theorem dX11_streams_127 : decode cX11_streams 127 = .ok (.iastore, 1) := by decide +kernel
theorem dX11_streams_128 : decode cX11_streams 128 = .ok (.aload_n 0, 1) := by decide +kernel
theorem dX11_streams_129 : decode cX11_streams 129 = .ok (.getfield 122, 3) := by decide +kernel
theorem dX11_streams_132 : decode cX11_streams 132 = .ok (.bipush 15, 2) := by decide +kernel
theorem dX11_streams_134 : decode cX11_streams 134 = .ok (.iconst 0, 1) := by decide +kernel
theorem dX11_streams_135 : decode cX11_streams 135 = .ok (.iastore, 1) := by decide +kernel
theorem dX11_streams_136 : decode cX11_streams 136 = .ok (.aload_n 0, 1) := by decide +kernel
theorem dX11_streams_137 : decode cX11_streams 137 = .ok (.getfield 122, 3) := by decide +kernel
theorem dX11_streams_140 : decode cX11_streams 140 = .ok (.iconst 0, 1) := by decide +kernel
theorem dX11_streams_141 : decode cX11_streams 141 = .ok (.aload_n 0, 1) := by decide +kernel
theorem dX11_streams_142 : decode cX11_streams 142 = .ok (.getfield 125, 3) := by decide +kernel
theorem dX11_streams_145 : decode cX11_streams 145 = .ok (.iconst 0, 1) := by decide +kernel
theorem dX11_streams_146 : decode cX11_streams 146 = .ok (.bipush 16, 2) := by decide +kernel
theorem dX11_streams_148 : decode cX11_streams 148 = .ok (.invokestatic 270, 3) := by decide +kernel
theorem dX11_streams_151 : decode cX11_streams 151 = .ok (.iconst 0, 1) := by decide +kernel
theorem dX11_streams_152 : decode cX11_streams 152 = .ok (.istore 5, 2) := by decide +kernel
theorem dX11_streams_154 : decode cX11_streams 154 = .ok (.iload 5, 2) := by decide +kernel
theorem dX11_streams_156 : decode cX11_streams 156 = .ok (.bipush 10, 2) := by decide +kernel
theorem dX11_streams_158 : decode cX11_streams 158 = .ok (.if_icmp .ge 93, 3) := by decide +kernel
theorem dX11_streams_161 : decode cX11_streams 161 = .ok (.aload_n 0, 1) := by decide +kernel
theorem dX11_streams_162 : decode cX11_streams 162 = .ok (.iconst 0, 1) := by decide +kernel
theorem dX11_streams_163 : decode cX11_streams 163 = .ok (.iconst 4, 1) := by decide +kernel
theorem dX11_streams_164 : decode cX11_streams 164 = .ok (.bipush 8, 2) := by decide +kernel
theorem dX11_streams_166 : decode cX11_streams 166 = .ok (.bipush 12, 2) := by decide +kernel
theorem dX11_streams_168 : decode cX11_streams 168 = .ok (.invokevirtual 343, 3) := by decide +kernel
theorem dX11_streams_171 : decode cX11_streams 171 = .ok (.aload_n 0, 1) := by decide +kernel
theorem dX11_streams_172 : decode cX11_streams 172 = .ok (.iconst 1, 1) := by decide +kernel
theorem dX11_streams_173 : decode cX11_streams 173 = .ok (.iconst 5, 1) := by decide +kernel
theorem dX11_streams_174 : decode cX11_streams 174 = .ok (.bipush 9, 2) := by decide +kernel
theorem dX11_streams_176 : decode cX11_streams 176 = .ok (.bipush 13, 2) := by decide +kernel
theorem dX11_streams_178 : decode cX11_streams 178 = .ok (.invokevirtual 343, 3) := by decide +kernel
theorem dX11_streams_181 : decode cX11_streams 181 = .ok (.aload_n 0, 1) := by decide +kernel
theorem dX11_streams_182 : decode cX11_streams 182 = .ok (.iconst 2, 1) := by decide +kernel
theorem dX11_streams_183 : decode cX11_streams 183 = .ok (.bipush 6, 2) := by decide +kernel
theorem dX11_streams_185 : decode cX11_streams 185 = .ok (.bipush 10, 2) := by decide +kernel
theorem dX11_streams_187 : decode cX11_streams 187 = .ok (.bipush 14, 2) := by decide +kernel
theorem dX11_streams_189 : decode cX11_streams 189 = .ok (.invokevirtual 343, 3) := by decide +kernel
theorem dX11_streams_192 : decode cX11_streams 192 = .ok (.aload_n 0, 1) := by decide +kernel
theorem dX11_streams_193 : decode cX11_streams 193 = .ok (.iconst 3, 1) := by decide +kernel
theorem dX11_streams_194 : decode cX11_streams 194 = .ok (.bipush 7, 2) := by decide +kernel
theorem dX11_streams_196 : decode cX11_streams 196 = .ok (.bipush 11, 2) := by decide +kernel
theorem dX11_streams_198 : decode cX11_streams 198 = .ok (.bipush 15, 2) := by decide +kernel
theorem dX11_streams_200 : decode cX11_streams 200 = .ok (.invokevirtual 343, 3) := by decide +kernel
theorem dX11_streams_203 : decode cX11_streams 203 = .ok (.aload_n 0, 1) := by decide +kernel
theorem dX11_streams_204 : decode cX11_streams 204 = .ok (.iconst 0, 1) := by decide +kernel
theorem dX11_streams_205 : decode cX11_streams 205 = .ok (.iconst 5, 1) := by decide +kernel
theorem dX11_streams_206 : decode cX11_streams 206 = .ok (.bipush 10, 2) := by decide +kernel
theorem dX11_streams_208 : decode cX11_streams 208 = .ok (.bipush 15, 2) := by decide +kernel
theorem dX11_streams_210 : decode cX11_streams 210 = .ok (.invokevirtual 343, 3) := by decide +kernel
theorem dX11_streams_213 : decode cX11_streams 213 = .ok (.aload_n 0, 1) := by decide +kernel
theorem dX11_streams_214 : decode cX11_streams 214 = .ok (.iconst 1, 1) := by decide +kernel
theorem dX11_streams_215 : decode cX11_streams 215 = .ok (.bipush 6, 2) := by decide +kernel
theorem dX11_streams_217 : decode cX11_streams 217 = .ok (.bipush 11, 2) := by decide +kernel
theorem dX11_streams_219 : decode cX11_streams 219 = .ok (.bipush 12, 2) := by decide +kernel
theorem dX11_streams_221 : decode cX11_streams 221 = .ok (.invokevirtual 343, 3) := by decide +kernel
theorem dX11_streams_224 : decode cX11_streams 224 = .ok (.aload_n 0, 1) := by decide +kernel
theorem dX11_streams_225 : decode cX11_streams 225 = .ok (.iconst 2, 1) := by decide +kernel
theorem dX11_streams_226 : decode cX11_streams 226 = .ok (.bipush 7, 2) := by decide +kernel
theorem dX11_streams_228 : decode cX11_streams 228 = .ok (.bipush 8, 2) := by decide +kernel
theorem dX11_streams_230 : decode cX11_streams 230 = .ok (.bipush 13, 2) := by decide +kernel
theorem dX11_streams_232 : decode cX11_streams 232 = .ok (.invokevirtual 343, 3) := by decide +kernel
theorem dX11_streams_235 : decode cX11_streams 235 = .ok (.aload_n 0, 1) := by decide +kernel
theorem dX11_streams_236 : decode cX11_streams 236 = .ok (.iconst 3, 1) := by decide +kernel
theorem dX11_streams_237 : decode cX11_streams 237 = .ok (.iconst 4, 1) := by decide +kernel
theorem dX11_streams_238 : decode cX11_streams 238 = .ok (.bipush 9, 2) := by decide +kernel
theorem dX11_streams_240 : decode cX11_streams 240 = .ok (.bipush 14, 2) := by decide +kernel
theorem dX11_streams_242 : decode cX11_streams 242 = .ok (.invokevirtual 343, 3) := by decide +kernel
theorem dX11_streams_245 : decode cX11_streams 245 = .ok (.iinc 5 1, 3) := by decide +kernel
theorem dX11_streams_248 : decode cX11_streams 248 = .ok (.goto (-94), 3) := by decide +kernel
theorem dX11_streams_251 : decode cX11_streams 251 = .ok (.iconst 0, 1) := by decide +kernel
theorem dX11_streams_252 : decode cX11_streams 252 = .ok (.istore 5, 2) := by decide +kernel
theorem dX11_streams_254 : decode cX11_streams 254 = .ok (.iload 5, 2) := by decide +kernel
theorem dX11_streams_256 : decode cX11_streams 256 = .ok (.bipush 64, 2) := by decide +kernel
theorem dX11_streams_258 : decode cX11_streams 258 = .ok (.if_icmp .ge 47, 3) := by decide +kernel
theorem dX11_streams_261 : decode cX11_streams 261 = .ok (.aload_n 0, 1) := by decide +kernel
theorem dX11_streams_262 : decode cX11_streams 262 = .ok (.getfield 128, 3) := by decide +kernel
theorem dX11_streams_265 : decode cX11_streams 265 = .ok (.iload 5, 2) := by decide +kernel
theorem dX11_streams_267 : decode cX11_streams 267 = .ok (.aload_n 0, 1) := by decide +kernel
theorem dX11_streams_268 : decode cX11_streams 268 = .ok (.getfield 125, 3) := by decide +kernel
theorem dX11_streams_271 : decode cX11_streams 271 = .ok (.iload 5, 2) := by decide +kernel
theorem dX11_streams_273 : decode cX11_streams 273 = .ok (.iconst 4, 1) := by decide +kernel
theorem dX11_streams_274 : decode cX11_streams 274 = .ok (.idiv, 1) := by decide +kernel
theorem dX11_streams_275 : decode cX11_streams 275 = .ok (.iaload, 1) := by decide +kernel
theorem dX11_streams_276 : decode cX11_streams 276 = .ok (.aload_n 0, 1) := by decide +kernel
theorem dX11_streams_277 : decode cX11_streams 277 = .ok (.getfield 122, 3) := by decide +kernel
theorem dX11_streams_280 : decode cX11_streams 280 = .ok (.iload 5, 2) := by decide +kernel
theorem dX11_streams_282 : decode cX11_streams 282 = .ok (.iconst 4, 1) := by decide +kernel
theorem dX11_streams_283 : decode cX11_streams 283 = .ok (.idiv, 1) := by decide +kernel
theorem dX11_streams_284 : decode cX11_streams 284 = .ok (.iaload, 1) := by decide +kernel
theorem dX11_streams_285 : decode cX11_streams 285 = .ok (.iadd, 1) := by decide +kernel
theorem dX11_streams_286 : decode cX11_streams 286 = .ok (.bipush 8, 2) := by decide +kernel
theorem dX11_streams_288 : decode cX11_streams 288 = .ok (.iload 5, 2) := by decide +kernel
theorem dX11_streams_290 : decode cX11_streams 290 = .ok (.iconst 4, 1) := by decide +kernel
theorem dX11_streams_291 : decode cX11_streams 291 = .ok (.irem, 1) := by decide +kernel
theorem dX11_streams_292 : decode cX11_streams 292 = .ok (.imul, 1) := by decide +kernel
theorem dX11_streams_293 : decode cX11_streams 293 = .ok (.iushr, 1) := by decide +kernel
theorem dX11_streams_294 : decode cX11_streams 294 = .ok (.sipush 255, 3) := by decide +kernel
theorem dX11_streams_297 : decode cX11_streams 297 = .ok (.iand, 1) := by decide +kernel
theorem dX11_streams_298 : decode cX11_streams 298 = .ok (.iastore, 1) := by decide +kernel
theorem dX11_streams_299 : decode cX11_streams 299 = .ok (.iinc 5 1, 3) := by decide +kernel
theorem dX11_streams_302 : decode cX11_streams 302 = .ok (.goto (-48), 3) := by decide +kernel
theorem dX11_streams_305 : decode cX11_streams 305 = .ok (.return_, 1) := by decide +kernel
theorem dX11_adds_0 : decode cX11_adds 0 = .ok (.iconst 0, 1) := by decide +kernel
theorem dX11_adds_1 : decode cX11_adds 1 = .ok (.istore_n 1, 1) := by decide +kernel
theorem dX11_adds_2 : decode cX11_adds 2 = .ok (.iconst 0, 1) := by decide +kernel
theorem dX11_adds_3 : decode cX11_adds 3 = .ok (.istore_n 2, 1) := by decide +kernel
theorem dX11_adds_4 : decode cX11_adds 4 = .ok (.iload_n 2, 1) := by decide +kernel
theorem dX11_adds_5 : decode cX11_adds 5 = .ok (.bipush 17, 2) := by decide +kernel
theorem dX11_adds_7 : decode cX11_adds 7 = .ok (.if_icmp .ge 41, 3) := by decide +kernel
theorem dX11_adds_10 : decode cX11_adds 10 = .ok (.iload_n 1, 1) := by decide +kernel
theorem dX11_adds_11 : decode cX11_adds 11 = .ok (.aload_n 0, 1) := by decide +kernel
theorem dX11_adds_12 : decode cX11_adds 12 = .ok (.getfield 131, 3) := by decide +kernel
theorem dX11_adds_15 : decode cX11_adds 15 = .ok (.iload_n 2, 1) := by decide +kernel
theorem dX11_adds_16 : decode cX11_adds 16 = .ok (.iaload, 1) := by decide +kernel
theorem dX11_adds_17 : decode cX11_adds 17 = .ok (.aload_n 0, 1) := by decide +kernel
theorem dX11_adds_18 : decode cX11_adds 18 = .ok (.getfield 137, 3) := by decide +kernel
theorem dX11_adds_21 : decode cX11_adds 21 = .ok (.iload_n 2, 1) := by decide +kernel
theorem dX11_adds_22 : decode cX11_adds 22 = .ok (.iaload, 1) := by decide +kernel
theorem dX11_adds_23 : decode cX11_adds 23 = .ok (.iadd, 1) := by decide +kernel
theorem dX11_adds_24 : decode cX11_adds 24 = .ok (.iadd, 1) := by decide +kernel
theorem dX11_adds_25 : decode cX11_adds 25 = .ok (.istore_n 1, 1) := by decide +kernel
theorem dX11_adds_26 : decode cX11_adds 26 = .ok (.aload_n 0, 1) := by decide +kernel
theorem dX11_adds_27 : decode cX11_adds 27 = .ok (.getfield 131, 3) := by decide +kernel
theorem dX11_adds_30 : decode cX11_adds 30 = .ok (.iload_n 2, 1) := by decide +kernel
theorem dX11_adds_31 : decode cX11_adds 31 = .ok (.iload_n 1, 1) := by decide +kernel
theorem dX11_adds_32 : decode cX11_adds 32 = .ok (.sipush 255, 3) := by decide +kernel
theorem dX11_adds_35 : decode cX11_adds 35 = .ok (.iand, 1) := by decide +kernel
theorem dX11_adds_36 : decode cX11_adds 36 = .ok (.iastore, 1) := by decide +kernel
theorem dX11_adds_37 : decode cX11_adds 37 = .ok (.iload_n 1, 1) := by decide +kernel
theorem dX11_adds_38 : decode cX11_adds 38 = .ok (.bipush 8, 2) := by decide +kernel
theorem dX11_adds_40 : decode cX11_adds 40 = .ok (.ishr, 1) := by decide +kernel
theorem dX11_adds_41 : decode cX11_adds 41 = .ok (.istore_n 1, 1) := by decide +kernel
theorem dX11_adds_42 : decode cX11_adds 42 = .ok (.iinc 2 1, 3) := by decide +kernel
theorem dX11_adds_45 : decode cX11_adds 45 = .ok (.goto (-41), 3) := by decide +kernel
theorem dX11_adds_48 : decode cX11_adds 48 = .ok (.return_, 1) := by decide +kernel
theorem dX11_multiplies_0 : decode cX11_multiplies 0 = .ok (.iconst 0, 1) := by decide +kernel
theorem dX11_multiplies_1 : decode cX11_multiplies 1 = .ok (.istore_n 1, 1) := by decide +kernel
theorem dX11_multiplies_2 : decode cX11_multiplies 2 = .ok (.iload_n 1, 1) := by decide +kernel
theorem dX11_multiplies_3 : decode cX11_multiplies 3 = .ok (.bipush 17, 2) := by decide +kernel
theorem dX11_multiplies_5 : decode cX11_multiplies 5 = .ok (.if_icmp .ge 73, 3) := by decide +kernel
theorem dX11_multiplies_8 : decode cX11_multiplies 8 = .ok (.iconst 0, 1) := by decide +kernel
theorem dX11_multiplies_9 : decode cX11_multiplies 9 = .ok (.istore_n 2, 1) := by decide +kernel
theorem dX11_multiplies_10 : decode cX11_multiplies 10 = .ok (.iconst 0, 1) := by decide +kernel
theorem dX11_multiplies_11 : decode cX11_multiplies 11 = .ok (.istore_n 3, 1) := by decide +kernel
theorem dX11_multiplies_12 : decode cX11_multiplies 12 = .ok (.iload_n 3, 1) := by decide +kernel
theorem dX11_multiplies_13 : decode cX11_multiplies 13 = .ok (.bipush 17, 2) := by decide +kernel
theorem dX11_multiplies_15 : decode cX11_multiplies 15 = .ok (.if_icmp .ge 50, 3) := by decide +kernel
theorem dX11_multiplies_18 : decode cX11_multiplies 18 = .ok (.iload_n 2, 1) := by decide +kernel
theorem dX11_multiplies_19 : decode cX11_multiplies 19 = .ok (.aload_n 0, 1) := by decide +kernel
theorem dX11_multiplies_20 : decode cX11_multiplies 20 = .ok (.getfield 131, 3) := by decide +kernel
theorem dX11_multiplies_23 : decode cX11_multiplies 23 = .ok (.iload_n 3, 1) := by decide +kernel
theorem dX11_multiplies_24 : decode cX11_multiplies 24 = .ok (.iaload, 1) := by decide +kernel
theorem dX11_multiplies_25 : decode cX11_multiplies 25 = .ok (.iload_n 3, 1) := by decide +kernel
theorem dX11_multiplies_26 : decode cX11_multiplies 26 = .ok (.iload_n 1, 1) := by decide +kernel
theorem dX11_multiplies_27 : decode cX11_multiplies 27 = .ok (.if_icmp .gt 14, 3) := by decide +kernel
theorem dX11_multiplies_30 : decode cX11_multiplies 30 = .ok (.aload_n 0, 1) := by decide +kernel
theorem dX11_multiplies_31 : decode cX11_multiplies 31 = .ok (.getfield 134, 3) := by decide +kernel
theorem dX11_multiplies_34 : decode cX11_multiplies 34 = .ok (.iload_n 1, 1) := by decide +kernel
theorem dX11_multiplies_35 : decode cX11_multiplies 35 = .ok (.iload_n 3, 1) := by decide +kernel
theorem dX11_multiplies_36 : decode cX11_multiplies 36 = .ok (.isub, 1) := by decide +kernel
theorem dX11_multiplies_37 : decode cX11_multiplies 37 = .ok (.iaload, 1) := by decide +kernel
theorem dX11_multiplies_38 : decode cX11_multiplies 38 = .ok (.goto 18, 3) := by decide +kernel
theorem dX11_multiplies_41 : decode cX11_multiplies 41 = .ok (.sipush 320, 3) := by decide +kernel
theorem dX11_multiplies_44 : decode cX11_multiplies 44 = .ok (.aload_n 0, 1) := by decide +kernel
theorem dX11_multiplies_45 : decode cX11_multiplies 45 = .ok (.getfield 134, 3) := by decide +kernel
theorem dX11_multiplies_48 : decode cX11_multiplies 48 = .ok (.iload_n 1, 1) := by decide +kernel
theorem dX11_multiplies_49 : decode cX11_multiplies 49 = .ok (.bipush 17, 2) := by decide +kernel
theorem dX11_multiplies_51 : decode cX11_multiplies 51 = .ok (.iadd, 1) := by decide +kernel
theorem dX11_multiplies_52 : decode cX11_multiplies 52 = .ok (.iload_n 3, 1) := by decide +kernel
theorem dX11_multiplies_53 : decode cX11_multiplies 53 = .ok (.isub, 1) := by decide +kernel
theorem dX11_multiplies_54 : decode cX11_multiplies 54 = .ok (.iaload, 1) := by decide +kernel
theorem dX11_multiplies_55 : decode cX11_multiplies 55 = .ok (.imul, 1) := by decide +kernel
theorem dX11_multiplies_56 : decode cX11_multiplies 56 = .ok (.imul, 1) := by decide +kernel
theorem dX11_multiplies_57 : decode cX11_multiplies 57 = .ok (.iadd, 1) := by decide +kernel
theorem dX11_multiplies_58 : decode cX11_multiplies 58 = .ok (.istore_n 2, 1) := by decide +kernel
theorem dX11_multiplies_59 : decode cX11_multiplies 59 = .ok (.iinc 3 1, 3) := by decide +kernel
theorem dX11_multiplies_62 : decode cX11_multiplies 62 = .ok (.goto (-50), 3) := by decide +kernel
theorem dX11_multiplies_65 : decode cX11_multiplies 65 = .ok (.aload_n 0, 1) := by decide +kernel
theorem dX11_multiplies_66 : decode cX11_multiplies 66 = .ok (.getfield 140, 3) := by decide +kernel
theorem dX11_multiplies_69 : decode cX11_multiplies 69 = .ok (.iload_n 1, 1) := by decide +kernel
theorem dX11_multiplies_70 : decode cX11_multiplies 70 = .ok (.iload_n 2, 1) := by decide +kernel
theorem dX11_multiplies_71 : decode cX11_multiplies 71 = .ok (.iastore, 1) := by decide +kernel
theorem dX11_multiplies_72 : decode cX11_multiplies 72 = .ok (.iinc 1 1, 3) := by decide +kernel
theorem dX11_multiplies_75 : decode cX11_multiplies 75 = .ok (.goto (-73), 3) := by decide +kernel
theorem dX11_multiplies_78 : decode cX11_multiplies 78 = .ok (.iconst 0, 1) := by decide +kernel
theorem dX11_multiplies_79 : decode cX11_multiplies 79 = .ok (.istore_n 1, 1) := by decide +kernel
theorem dX11_multiplies_80 : decode cX11_multiplies 80 = .ok (.iconst 0, 1) := by decide +kernel
theorem dX11_multiplies_81 : decode cX11_multiplies 81 = .ok (.istore_n 2, 1) := by decide +kernel
theorem dX11_multiplies_82 : decode cX11_multiplies 82 = .ok (.iload_n 2, 1) := by decide +kernel
theorem dX11_multiplies_83 : decode cX11_multiplies 83 = .ok (.bipush 16, 2) := by decide +kernel
theorem dX11_multiplies_85 : decode cX11_multiplies 85 = .ok (.if_icmp .ge 34, 3) := by decide +kernel
theorem dX11_multiplies_88 : decode cX11_multiplies 88 = .ok (.iload_n 1, 1) := by decide +kernel
theorem dX11_multiplies_89 : decode cX11_multiplies 89 = .ok (.aload_n 0, 1) := by decide +kernel
theorem dX11_multiplies_90 : decode cX11_multiplies 90 = .ok (.getfield 140, 3) := by decide +kernel
theorem dX11_multiplies_93 : decode cX11_multiplies 93 = .ok (.iload_n 2, 1) := by decide +kernel
theorem dX11_multiplies_94 : decode cX11_multiplies 94 = .ok (.iaload, 1) := by decide +kernel
theorem dX11_multiplies_95 : decode cX11_multiplies 95 = .ok (.iadd, 1) := by decide +kernel
theorem dX11_multiplies_96 : decode cX11_multiplies 96 = .ok (.istore_n 1, 1) := by decide +kernel
theorem dX11_multiplies_97 : decode cX11_multiplies 97 = .ok (.aload_n 0, 1) := by decide +kernel
theorem dX11_multiplies_98 : decode cX11_multiplies 98 = .ok (.getfield 131, 3) := by decide +kernel
theorem dX11_multiplies_101 : decode cX11_multiplies 101 = .ok (.iload_n 2, 1) := by decide +kernel
theorem dX11_multiplies_102 : decode cX11_multiplies 102 = .ok (.iload_n 1, 1) := by decide +kernel
theorem dX11_multiplies_103 : decode cX11_multiplies 103 = .ok (.sipush 255, 3) := by decide +kernel
theorem dX11_multiplies_106 : decode cX11_multiplies 106 = .ok (.iand, 1) := by decide +kernel
theorem dX11_multiplies_107 : decode cX11_multiplies 107 = .ok (.iastore, 1) := by decide +kernel
theorem dX11_multiplies_108 : decode cX11_multiplies 108 = .ok (.iload_n 1, 1) := by decide +kernel
theorem dX11_multiplies_109 : decode cX11_multiplies 109 = .ok (.bipush 8, 2) := by decide +kernel
theorem dX11_multiplies_111 : decode cX11_multiplies 111 = .ok (.ishr, 1) := by decide +kernel
theorem dX11_multiplies_112 : decode cX11_multiplies 112 = .ok (.istore_n 1, 1) := by decide +kernel
theorem dX11_multiplies_113 : decode cX11_multiplies 113 = .ok (.iinc 2 1, 3) := by decide +kernel
theorem dX11_multiplies_116 : decode cX11_multiplies 116 = .ok (.goto (-34), 3) := by decide +kernel
theorem dX11_multiplies_119 : decode cX11_multiplies 119 = .ok (.iload_n 1, 1) := by decide +kernel
theorem dX11_multiplies_120 : decode cX11_multiplies 120 = .ok (.aload_n 0, 1) := by decide +kernel
theorem dX11_multiplies_121 : decode cX11_multiplies 121 = .ok (.getfield 140, 3) := by decide +kernel
theorem dX11_multiplies_124 : decode cX11_multiplies 124 = .ok (.bipush 16, 2) := by decide +kernel
theorem dX11_multiplies_126 : decode cX11_multiplies 126 = .ok (.iaload, 1) := by decide +kernel
theorem dX11_multiplies_127 : decode cX11_multiplies 127 = .ok (.iadd, 1) := by decide +kernel
theorem dX11_multiplies_128 : decode cX11_multiplies 128 = .ok (.istore_n 1, 1) := by decide +kernel
theorem dX11_multiplies_129 : decode cX11_multiplies 129 = .ok (.aload_n 0, 1) := by decide +kernel
theorem dX11_multiplies_130 : decode cX11_multiplies 130 = .ok (.getfield 131, 3) := by decide +kernel
theorem dX11_multiplies_133 : decode cX11_multiplies 133 = .ok (.bipush 16, 2) := by decide +kernel
theorem dX11_multiplies_135 : decode cX11_multiplies 135 = .ok (.iload_n 1, 1) := by decide +kernel
theorem dX11_multiplies_136 : decode cX11_multiplies 136 = .ok (.iconst 3, 1) := by decide +kernel
theorem dX11_multiplies_137 : decode cX11_multiplies 137 = .ok (.iand, 1) := by decide +kernel
theorem dX11_multiplies_138 : decode cX11_multiplies 138 = .ok (.iastore, 1) := by decide +kernel
theorem dX11_multiplies_139 : decode cX11_multiplies 139 = .ok (.iconst 5, 1) := by decide +kernel
theorem dX11_multiplies_140 : decode cX11_multiplies 140 = .ok (.iload_n 1, 1) := by decide +kernel
theorem dX11_multiplies_141 : decode cX11_multiplies 141 = .ok (.iconst 2, 1) := by decide +kernel
theorem dX11_multiplies_142 : decode cX11_multiplies 142 = .ok (.ishr, 1) := by decide +kernel
theorem dX11_multiplies_143 : decode cX11_multiplies 143 = .ok (.imul, 1) := by decide +kernel
theorem dX11_multiplies_144 : decode cX11_multiplies 144 = .ok (.istore_n 1, 1) := by decide +kernel
theorem dX11_multiplies_145 : decode cX11_multiplies 145 = .ok (.iconst 0, 1) := by decide +kernel
theorem dX11_multiplies_146 : decode cX11_multiplies 146 = .ok (.istore_n 2, 1) := by decide +kernel
theorem dX11_multiplies_147 : decode cX11_multiplies 147 = .ok (.iload_n 2, 1) := by decide +kernel
theorem dX11_multiplies_148 : decode cX11_multiplies 148 = .ok (.bipush 16, 2) := by decide +kernel
theorem dX11_multiplies_150 : decode cX11_multiplies 150 = .ok (.if_icmp .ge 34, 3) := by decide +kernel
theorem dX11_multiplies_153 : decode cX11_multiplies 153 = .ok (.iload_n 1, 1) := by decide +kernel
theorem dX11_multiplies_154 : decode cX11_multiplies 154 = .ok (.aload_n 0, 1) := by decide +kernel
theorem dX11_multiplies_155 : decode cX11_multiplies 155 = .ok (.getfield 131, 3) := by decide +kernel
theorem dX11_multiplies_158 : decode cX11_multiplies 158 = .ok (.iload_n 2, 1) := by decide +kernel
theorem dX11_multiplies_159 : decode cX11_multiplies 159 = .ok (.iaload, 1) := by decide +kernel
theorem dX11_multiplies_160 : decode cX11_multiplies 160 = .ok (.iadd, 1) := by decide +kernel
theorem dX11_multiplies_161 : decode cX11_multiplies 161 = .ok (.istore_n 1, 1) := by decide +kernel
theorem dX11_multiplies_162 : decode cX11_multiplies 162 = .ok (.aload_n 0, 1) := by decide +kernel
theorem dX11_multiplies_163 : decode cX11_multiplies 163 = .ok (.getfield 131, 3) := by decide +kernel
theorem dX11_multiplies_166 : decode cX11_multiplies 166 = .ok (.iload_n 2, 1) := by decide +kernel
theorem dX11_multiplies_167 : decode cX11_multiplies 167 = .ok (.iload_n 1, 1) := by decide +kernel
theorem dX11_multiplies_168 : decode cX11_multiplies 168 = .ok (.sipush 255, 3) := by decide +kernel
theorem dX11_multiplies_171 : decode cX11_multiplies 171 = .ok (.iand, 1) := by decide +kernel
theorem dX11_multiplies_172 : decode cX11_multiplies 172 = .ok (.iastore, 1) := by decide +kernel
theorem dX11_multiplies_173 : decode cX11_multiplies 173 = .ok (.iload_n 1, 1) := by decide +kernel
theorem dX11_multiplies_174 : decode cX11_multiplies 174 = .ok (.bipush 8, 2) := by decide +kernel
theorem dX11_multiplies_176 : decode cX11_multiplies 176 = .ok (.ishr, 1) := by decide +kernel
theorem dX11_multiplies_177 : decode cX11_multiplies 177 = .ok (.istore_n 1, 1) := by decide +kernel
theorem dX11_multiplies_178 : decode cX11_multiplies 178 = .ok (.iinc 2 1, 3) := by decide +kernel
theorem dX11_multiplies_181 : decode cX11_multiplies 181 = .ok (.goto (-34), 3) := by decide +kernel
theorem dX11_multiplies_184 : decode cX11_multiplies 184 = .ok (.aload_n 0, 1) := by decide +kernel
theorem dX11_multiplies_185 : decode cX11_multiplies 185 = .ok (.getfield 131, 3) := by decide +kernel
theorem dX11_multiplies_188 : decode cX11_multiplies 188 = .ok (.bipush 16, 2) := by decide +kernel
theorem dX11_multiplies_190 : decode cX11_multiplies 190 = .ok (.dup2, 1) := by decide +kernel
theorem dX11_multiplies_191 : decode cX11_multiplies 191 = .ok (.iaload, 1) := by decide +kernel
theorem dX11_multiplies_192 : decode cX11_multiplies 192 = .ok (.iload_n 1, 1) := by decide +kernel
theorem dX11_multiplies_193 : decode cX11_multiplies 193 = .ok (.iadd, 1) := by decide +kernel
theorem dX11_multiplies_194 : decode cX11_multiplies 194 = .ok (.iastore, 1) := by decide +kernel
theorem dX11_multiplies_195 : decode cX11_multiplies 195 = .ok (.return_, 1) := by decide +kernel
theorem dX11_tags_0 : decode cX11_tags 0 = .ok (.iconst 0, 1) := by decide +kernel
theorem dX11_tags_1 : decode cX11_tags 1 = .ok (.istore_n 2, 1) := by decide +kernel
theorem dX11_tags_2 : decode cX11_tags 2 = .ok (.iload_n 2, 1) := by decide +kernel
theorem dX11_tags_3 : decode cX11_tags 3 = .ok (.bipush 17, 2) := by decide +kernel
theorem dX11_tags_5 : decode cX11_tags 5 = .ok (.if_icmp .ge 80, 3) := by decide +kernel
theorem dX11_tags_8 : decode cX11_tags 8 = .ok (.aload_n 0, 1) := by decide +kernel
theorem dX11_tags_9 : decode cX11_tags 9 = .ok (.getfield 131, 3) := by decide +kernel
theorem dX11_tags_12 : decode cX11_tags 12 = .ok (.iload_n 2, 1) := by decide +kernel
theorem dX11_tags_13 : decode cX11_tags 13 = .ok (.iconst 0, 1) := by decide +kernel
theorem dX11_tags_14 : decode cX11_tags 14 = .ok (.iastore, 1) := by decide +kernel
theorem dX11_tags_15 : decode cX11_tags 15 = .ok (.aload_n 0, 1) := by decide +kernel
theorem dX11_tags_16 : decode cX11_tags 16 = .ok (.getfield 134, 3) := by decide +kernel
theorem dX11_tags_19 : decode cX11_tags 19 = .ok (.iload_n 2, 1) := by decide +kernel
theorem dX11_tags_20 : decode cX11_tags 20 = .ok (.iload_n 2, 1) := by decide +kernel
theorem dX11_tags_21 : decode cX11_tags 21 = .ok (.bipush 16, 2) := by decide +kernel
theorem dX11_tags_23 : decode cX11_tags 23 = .ok (.if_icmp .ne 7, 3) := by decide +kernel
theorem dX11_tags_26 : decode cX11_tags 26 = .ok (.iconst 0, 1) := by decide +kernel
theorem dX11_tags_27 : decode cX11_tags 27 = .ok (.goto 51, 3) := by decide +kernel
theorem dX11_tags_30 : decode cX11_tags 30 = .ok (.iload_n 2, 1) := by decide +kernel
theorem dX11_tags_31 : decode cX11_tags 31 = .ok (.iconst 4, 1) := by decide +kernel
theorem dX11_tags_32 : decode cX11_tags 32 = .ok (.irem, 1) := by decide +kernel
theorem dX11_tags_33 : decode cX11_tags 33 = .ok (.iconst 3, 1) := by decide +kernel
theorem dX11_tags_34 : decode cX11_tags 34 = .ok (.if_icmp .ne 15, 3) := by decide +kernel
theorem dX11_tags_37 : decode cX11_tags 37 = .ok (.aload_n 0, 1) := by decide +kernel
theorem dX11_tags_38 : decode cX11_tags 38 = .ok (.getfield 143, 3) := by decide +kernel
theorem dX11_tags_41 : decode cX11_tags 41 = .ok (.iload_n 2, 1) := by decide +kernel
theorem dX11_tags_42 : decode cX11_tags 42 = .ok (.iaload, 1) := by decide +kernel
theorem dX11_tags_43 : decode cX11_tags 43 = .ok (.bipush 15, 2) := by decide +kernel
theorem dX11_tags_45 : decode cX11_tags 45 = .ok (.iand, 1) := by decide +kernel
theorem dX11_tags_46 : decode cX11_tags 46 = .ok (.goto 32, 3) := by decide +kernel
theorem dX11_tags_49 : decode cX11_tags 49 = .ok (.iload_n 2, 1) := by decide +kernel
theorem dX11_tags_50 : decode cX11_tags 50 = .ok (.ifCond .le 22, 3) := by decide +kernel
theorem dX11_tags_53 : decode cX11_tags 53 = .ok (.iload_n 2, 1) := by decide +kernel
theorem dX11_tags_54 : decode cX11_tags 54 = .ok (.iconst 4, 1) := by decide +kernel
theorem dX11_tags_55 : decode cX11_tags 55 = .ok (.irem, 1) := by decide +kernel
theorem dX11_tags_56 : decode cX11_tags 56 = .ok (.ifCond .ne 16, 3) := by decide +kernel
theorem dX11_tags_59 : decode cX11_tags 59 = .ok (.aload_n 0, 1) := by decide +kernel
theorem dX11_tags_60 : decode cX11_tags 60 = .ok (.getfield 143, 3) := by decide +kernel
theorem dX11_tags_63 : decode cX11_tags 63 = .ok (.iload_n 2, 1) := by decide +kernel
theorem dX11_tags_64 : decode cX11_tags 64 = .ok (.iaload, 1) := by decide +kernel
theorem dX11_tags_65 : decode cX11_tags 65 = .ok (.sipush 252, 3) := by decide +kernel
theorem dX11_tags_68 : decode cX11_tags 68 = .ok (.iand, 1) := by decide +kernel
theorem dX11_tags_69 : decode cX11_tags 69 = .ok (.goto 9, 3) := by decide +kernel
theorem dX11_tags_72 : decode cX11_tags 72 = .ok (.aload_n 0, 1) := by decide +kernel
theorem dX11_tags_73 : decode cX11_tags 73 = .ok (.getfield 143, 3) := by decide +kernel
theorem dX11_tags_76 : decode cX11_tags 76 = .ok (.iload_n 2, 1) := by decide +kernel
theorem dX11_tags_77 : decode cX11_tags 77 = .ok (.iaload, 1) := by decide +kernel
theorem dX11_tags_78 : decode cX11_tags 78 = .ok (.iastore, 1) := by decide +kernel
theorem dX11_tags_79 : decode cX11_tags 79 = .ok (.iinc 2 1, 3) := by decide +kernel
theorem dX11_tags_82 : decode cX11_tags 82 = .ok (.goto (-80), 3) := by decide +kernel
theorem dX11_tags_85 : decode cX11_tags 85 = .ok (.iconst 0, 1) := by decide +kernel
theorem dX11_tags_86 : decode cX11_tags 86 = .ok (.istore_n 2, 1) := by decide +kernel
theorem dX11_tags_87 : decode cX11_tags 87 = .ok (.iload_n 2, 1) := by decide +kernel
theorem dX11_tags_88 : decode cX11_tags 88 = .ok (.iload_n 1, 1) := by decide +kernel
theorem dX11_tags_89 : decode cX11_tags 89 = .ok (.if_icmp .ge 55, 3) := by decide +kernel
theorem dX11_tags_92 : decode cX11_tags 92 = .ok (.iconst 0, 1) := by decide +kernel
theorem dX11_tags_93 : decode cX11_tags 93 = .ok (.istore_n 3, 1) := by decide +kernel
theorem dX11_tags_94 : decode cX11_tags 94 = .ok (.iload_n 3, 1) := by decide +kernel
theorem dX11_tags_95 : decode cX11_tags 95 = .ok (.bipush 17, 2) := by decide +kernel
theorem dX11_tags_97 : decode cX11_tags 97 = .ok (.if_icmp .ge 33, 3) := by decide +kernel
theorem dX11_tags_100 : decode cX11_tags 100 = .ok (.aload_n 0, 1) := by decide +kernel
theorem dX11_tags_101 : decode cX11_tags 101 = .ok (.getfield 137, 3) := by decide +kernel
theorem dX11_tags_104 : decode cX11_tags 104 = .ok (.iload_n 3, 1) := by decide +kernel
theorem dX11_tags_105 : decode cX11_tags 105 = .ok (.iload_n 3, 1) := by decide +kernel
theorem dX11_tags_106 : decode cX11_tags 106 = .ok (.bipush 16, 2) := by decide +kernel
theorem dX11_tags_108 : decode cX11_tags 108 = .ok (.if_icmp .ge 14, 3) := by decide +kernel
theorem dX11_tags_111 : decode cX11_tags 111 = .ok (.aload_n 0, 1) := by decide +kernel
theorem dX11_tags_112 : decode cX11_tags 112 = .ok (.getfield 146, 3) := by decide +kernel
theorem dX11_tags_115 : decode cX11_tags 115 = .ok (.iload_n 2, 1) := by decide +kernel
theorem dX11_tags_116 : decode cX11_tags 116 = .ok (.iload_n 3, 1) := by decide +kernel
theorem dX11_tags_117 : decode cX11_tags 117 = .ok (.iadd, 1) := by decide +kernel
theorem dX11_tags_118 : decode cX11_tags 118 = .ok (.iaload, 1) := by decide +kernel
theorem dX11_tags_119 : decode cX11_tags 119 = .ok (.goto 4, 3) := by decide +kernel
theorem dX11_tags_122 : decode cX11_tags 122 = .ok (.iconst 1, 1) := by decide +kernel
theorem dX11_tags_123 : decode cX11_tags 123 = .ok (.iastore, 1) := by decide +kernel
theorem dX11_tags_124 : decode cX11_tags 124 = .ok (.iinc 3 1, 3) := by decide +kernel
theorem dX11_tags_127 : decode cX11_tags 127 = .ok (.goto (-33), 3) := by decide +kernel
theorem dX11_tags_130 : decode cX11_tags 130 = .ok (.aload_n 0, 1) := by decide +kernel
theorem dX11_tags_131 : decode cX11_tags 131 = .ok (.invokevirtual 347, 3) := by decide +kernel
theorem dX11_tags_134 : decode cX11_tags 134 = .ok (.aload_n 0, 1) := by decide +kernel
theorem dX11_tags_135 : decode cX11_tags 135 = .ok (.invokevirtual 350, 3) := by decide +kernel
theorem dX11_tags_138 : decode cX11_tags 138 = .ok (.iinc 2 16, 3) := by decide +kernel
theorem dX11_tags_141 : decode cX11_tags 141 = .ok (.goto (-54), 3) := by decide +kernel
theorem dX11_tags_144 : decode cX11_tags 144 = .ok (.aload_n 0, 1) := by decide +kernel
theorem dX11_tags_145 : decode cX11_tags 145 = .ok (.getfield 131, 3) := by decide +kernel
theorem dX11_tags_148 : decode cX11_tags 148 = .ok (.iconst 0, 1) := by decide +kernel
theorem dX11_tags_149 : decode cX11_tags 149 = .ok (.aload_n 0, 1) := by decide +kernel
theorem dX11_tags_150 : decode cX11_tags 150 = .ok (.getfield 140, 3) := by decide +kernel
theorem dX11_tags_153 : decode cX11_tags 153 = .ok (.iconst 0, 1) := by decide +kernel
theorem dX11_tags_154 : decode cX11_tags 154 = .ok (.bipush 17, 2) := by decide +kernel
theorem dX11_tags_156 : decode cX11_tags 156 = .ok (.invokestatic 270, 3) := by decide +kernel
theorem dX11_tags_159 : decode cX11_tags 159 = .ok (.iconst 0, 1) := by decide +kernel
theorem dX11_tags_160 : decode cX11_tags 160 = .ok (.istore_n 2, 1) := by decide +kernel
theorem dX11_tags_161 : decode cX11_tags 161 = .ok (.iload_n 2, 1) := by decide +kernel
theorem dX11_tags_162 : decode cX11_tags 162 = .ok (.bipush 17, 2) := by decide +kernel
theorem dX11_tags_164 : decode cX11_tags 164 = .ok (.if_icmp .ge 36, 3) := by decide +kernel
theorem dX11_tags_167 : decode cX11_tags 167 = .ok (.aload_n 0, 1) := by decide +kernel
theorem dX11_tags_168 : decode cX11_tags 168 = .ok (.getfield 137, 3) := by decide +kernel
theorem dX11_tags_171 : decode cX11_tags 171 = .ok (.iload_n 2, 1) := by decide +kernel
theorem dX11_tags_172 : decode cX11_tags 172 = .ok (.iload_n 2, 1) := by decide +kernel
theorem dX11_tags_173 : decode cX11_tags 173 = .ok (.ifCond .ne 7, 3) := by decide +kernel
theorem dX11_tags_176 : decode cX11_tags 176 = .ok (.iconst 5, 1) := by decide +kernel
theorem dX11_tags_177 : decode cX11_tags 177 = .ok (.goto 16, 3) := by decide +kernel
theorem dX11_tags_180 : decode cX11_tags 180 = .ok (.iload_n 2, 1) := by decide +kernel
theorem dX11_tags_181 : decode cX11_tags 181 = .ok (.bipush 16, 2) := by decide +kernel
theorem dX11_tags_183 : decode cX11_tags 183 = .ok (.if_icmp .ne 9, 3) := by decide +kernel
theorem dX11_tags_186 : decode cX11_tags 186 = .ok (.sipush 252, 3) := by decide +kernel
theorem dX11_tags_189 : decode cX11_tags 189 = .ok (.goto 4, 3) := by decide +kernel
theorem dX11_tags_192 : decode cX11_tags 192 = .ok (.iconst 0, 1) := by decide +kernel
theorem dX11_tags_193 : decode cX11_tags 193 = .ok (.iastore, 1) := by decide +kernel
theorem dX11_tags_194 : decode cX11_tags 194 = .ok (.iinc 2 1, 3) := by decide +kernel
theorem dX11_tags_197 : decode cX11_tags 197 = .ok (.goto (-36), 3) := by decide +kernel
theorem dX11_tags_200 : decode cX11_tags 200 = .ok (.aload_n 0, 1) := by decide +kernel
theorem dX11_tags_201 : decode cX11_tags 201 = .ok (.invokevirtual 347, 3) := by decide +kernel
theorem dX11_tags_204 : decode cX11_tags 204 = .ok (.aload_n 0, 1) := by decide +kernel
theorem dX11_tags_205 : decode cX11_tags 205 = .ok (.getfield 131, 3) := by decide +kernel
theorem dX11_tags_208 : decode cX11_tags 208 = .ok (.bipush 16, 2) := by decide +kernel
theorem dX11_tags_210 : decode cX11_tags 210 = .ok (.iaload, 1) := by decide +kernel
theorem dX11_tags_211 : decode cX11_tags 211 = .ok (.sipush 128, 3) := by decide +kernel
theorem dX11_tags_214 : decode cX11_tags 214 = .ok (.if_icmp .lt 18, 3) := by decide +kernel
theorem dX11_tags_217 : decode cX11_tags 217 = .ok (.aload_n 0, 1) := by decide +kernel
theorem dX11_tags_218 : decode cX11_tags 218 = .ok (.getfield 140, 3) := by decide +kernel
theorem dX11_tags_221 : decode cX11_tags 221 = .ok (.iconst 0, 1) := by decide +kernel
theorem dX11_tags_222 : decode cX11_tags 222 = .ok (.aload_n 0, 1) := by decide +kernel
theorem dX11_tags_223 : decode cX11_tags 223 = .ok (.getfield 131, 3) := by decide +kernel
theorem dX11_tags_226 : decode cX11_tags 226 = .ok (.iconst 0, 1) := by decide +kernel
theorem dX11_tags_227 : decode cX11_tags 227 = .ok (.bipush 17, 2) := by decide +kernel
theorem dX11_tags_229 : decode cX11_tags 229 = .ok (.invokestatic 270, 3) := by decide +kernel
theorem dX11_tags_232 : decode cX11_tags 232 = .ok (.iconst 0, 1) := by decide +kernel
theorem dX11_tags_233 : decode cX11_tags 233 = .ok (.istore_n 2, 1) := by decide +kernel
theorem dX11_tags_234 : decode cX11_tags 234 = .ok (.iload_n 2, 1) := by decide +kernel
theorem dX11_tags_235 : decode cX11_tags 235 = .ok (.bipush 17, 2) := by decide +kernel
theorem dX11_tags_237 : decode cX11_tags 237 = .ok (.if_icmp .ge 34, 3) := by decide +kernel
theorem dX11_tags_240 : decode cX11_tags 240 = .ok (.aload_n 0, 1) := by decide +kernel
theorem dX11_tags_241 : decode cX11_tags 241 = .ok (.getfield 137, 3) := by decide +kernel
theorem dX11_tags_244 : decode cX11_tags 244 = .ok (.iload_n 2, 1) := by decide +kernel
theorem dX11_tags_245 : decode cX11_tags 245 = .ok (.iload_n 2, 1) := by decide +kernel
theorem dX11_tags_246 : decode cX11_tags 246 = .ok (.bipush 16, 2) := by decide +kernel
theorem dX11_tags_248 : decode cX11_tags 248 = .ok (.if_icmp .ge 15, 3) := by decide +kernel
theorem dX11_tags_251 : decode cX11_tags 251 = .ok (.aload_n 0, 1) := by decide +kernel
theorem dX11_tags_252 : decode cX11_tags 252 = .ok (.getfield 143, 3) := by decide +kernel
theorem dX11_tags_255 : decode cX11_tags 255 = .ok (.bipush 16, 2) := by decide +kernel
theorem dX11_tags_257 : decode cX11_tags 257 = .ok (.iload_n 2, 1) := by decide +kernel
theorem dX11_tags_258 : decode cX11_tags 258 = .ok (.iadd, 1) := by decide +kernel
theorem dX11_tags_259 : decode cX11_tags 259 = .ok (.iaload, 1) := by decide +kernel
theorem dX11_tags_260 : decode cX11_tags 260 = .ok (.goto 4, 3) := by decide +kernel
theorem dX11_tags_263 : decode cX11_tags 263 = .ok (.iconst 0, 1) := by decide +kernel
theorem dX11_tags_264 : decode cX11_tags 264 = .ok (.iastore, 1) := by decide +kernel
theorem dX11_tags_265 : decode cX11_tags 265 = .ok (.iinc 2 1, 3) := by decide +kernel
theorem dX11_tags_268 : decode cX11_tags 268 = .ok (.goto (-34), 3) := by decide +kernel
theorem dX11_tags_271 : decode cX11_tags 271 = .ok (.aload_n 0, 1) := by decide +kernel
theorem dX11_tags_272 : decode cX11_tags 272 = .ok (.invokevirtual 347, 3) := by decide +kernel
theorem dX11_tags_275 : decode cX11_tags 275 = .ok (.aload_n 0, 1) := by decide +kernel
theorem dX11_tags_276 : decode cX11_tags 276 = .ok (.getfield 131, 3) := by decide +kernel
theorem dX11_tags_279 : decode cX11_tags 279 = .ok (.iconst 0, 1) := by decide +kernel
theorem dX11_tags_280 : decode cX11_tags 280 = .ok (.aload_n 0, 1) := by decide +kernel
theorem dX11_tags_281 : decode cX11_tags 281 = .ok (.getfield 149, 3) := by decide +kernel
theorem dX11_tags_284 : decode cX11_tags 284 = .ok (.iconst 0, 1) := by decide +kernel
theorem dX11_tags_285 : decode cX11_tags 285 = .ok (.bipush 16, 2) := by decide +kernel
theorem dX11_tags_287 : decode cX11_tags 287 = .ok (.invokestatic 270, 3) := by decide +kernel
theorem dX11_tags_290 : decode cX11_tags 290 = .ok (.return_, 1) := by decide +kernel
theorem dX11_tellsLong_0 : decode cX11_tellsLong 0 = .ok (.iconst 0, 1) := by decide +kernel
theorem dX11_tellsLong_1 : decode cX11_tellsLong 1 = .ok (.istore_n 3, 1) := by decide +kernel
theorem dX11_tellsLong_2 : decode cX11_tellsLong 2 = .ok (.iload_n 3, 1) := by decide +kernel
theorem dX11_tellsLong_3 : decode cX11_tellsLong 3 = .ok (.bipush 8, 2) := by decide +kernel
theorem dX11_tellsLong_5 : decode cX11_tellsLong 5 = .ok (.if_icmp .ge 36, 3) := by decide +kernel
theorem dX11_tellsLong_8 : decode cX11_tellsLong 8 = .ok (.aload_n 0, 1) := by decide +kernel
theorem dX11_tellsLong_9 : decode cX11_tellsLong 9 = .ok (.getfield 146, 3) := by decide +kernel
theorem dX11_tellsLong_12 : decode cX11_tellsLong 12 = .ok (.iload_n 1, 1) := by decide +kernel
theorem dX11_tellsLong_13 : decode cX11_tellsLong 13 = .ok (.iload_n 3, 1) := by decide +kernel
theorem dX11_tellsLong_14 : decode cX11_tellsLong 14 = .ok (.iadd, 1) := by decide +kernel
theorem dX11_tellsLong_15 : decode cX11_tellsLong 15 = .ok (.iload_n 3, 1) := by decide +kernel
theorem dX11_tellsLong_16 : decode cX11_tellsLong 16 = .ok (.iconst 4, 1) := by decide +kernel
theorem dX11_tellsLong_17 : decode cX11_tellsLong 17 = .ok (.if_icmp .ge 16, 3) := by decide +kernel
theorem dX11_tellsLong_20 : decode cX11_tellsLong 20 = .ok (.iload_n 2, 1) := by decide +kernel
theorem dX11_tellsLong_21 : decode cX11_tellsLong 21 = .ok (.bipush 8, 2) := by decide +kernel
theorem dX11_tellsLong_23 : decode cX11_tellsLong 23 = .ok (.iload_n 3, 1) := by decide +kernel
theorem dX11_tellsLong_24 : decode cX11_tellsLong 24 = .ok (.imul, 1) := by decide +kernel
theorem dX11_tellsLong_25 : decode cX11_tellsLong 25 = .ok (.iushr, 1) := by decide +kernel
theorem dX11_tellsLong_26 : decode cX11_tellsLong 26 = .ok (.sipush 255, 3) := by decide +kernel
theorem dX11_tellsLong_29 : decode cX11_tellsLong 29 = .ok (.iand, 1) := by decide +kernel

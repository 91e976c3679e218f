theorem dX11_mixKey_40 : decode cX11_mixKey 40 = .ok (.iconst 0, 1) := by decide +kernel
theorem dX11_mixKey_41 : decode cX11_mixKey 41 = .ok (.aload_n 0, 1) := by decide +kernel
theorem dX11_mixKey_42 : decode cX11_mixKey 42 = .ok (.getfield 222, 3) := by decide +kernel
theorem dX11_mixKey_45 : decode cX11_mixKey 45 = .ok (.bipush 32, 2) := by decide +kernel
theorem dX11_mixKey_47 : decode cX11_mixKey 47 = .ok (.iload_n 1, 1) := by decide +kernel
theorem dX11_mixKey_48 : decode cX11_mixKey 48 = .ok (.imul, 1) := by decide +kernel
theorem dX11_mixKey_49 : decode cX11_mixKey 49 = .ok (.bipush 32, 2) := by decide +kernel
theorem dX11_mixKey_51 : decode cX11_mixKey 51 = .ok (.invokestatic 270, 3) := by decide +kernel
theorem dX11_mixKey_54 : decode cX11_mixKey 54 = .ok (.aload_n 0, 1) := by decide +kernel
theorem dX11_mixKey_55 : decode cX11_mixKey 55 = .ok (.getfield 201, 3) := by decide +kernel
theorem dX11_mixKey_58 : decode cX11_mixKey 58 = .ok (.iload_n 1, 1) := by decide +kernel
theorem dX11_mixKey_59 : decode cX11_mixKey 59 = .ok (.iconst 1, 1) := by decide +kernel
theorem dX11_mixKey_60 : decode cX11_mixKey 60 = .ok (.bastore, 1) := by decide +kernel
theorem dX11_mixKey_61 : decode cX11_mixKey 61 = .ok (.aload_n 0, 1) := by decide +kernel
theorem dX11_mixKey_62 : decode cX11_mixKey 62 = .ok (.getfield 204, 3) := by decide +kernel
theorem dX11_mixKey_65 : decode cX11_mixKey 65 = .ok (.iload_n 1, 1) := by decide +kernel
theorem dX11_mixKey_66 : decode cX11_mixKey 66 = .ok (.iconst 0, 1) := by decide +kernel
theorem dX11_mixKey_67 : decode cX11_mixKey 67 = .ok (.iastore, 1) := by decide +kernel
theorem dX11_mixKey_68 : decode cX11_mixKey 68 = .ok (.return_, 1) := by decide +kernel
theorem dX11_nameByte_0 : decode cX11_nameByte 0 = .ok (.iload_n 0, 1) := by decide +kernel
theorem dX11_nameByte_1 : decode cX11_nameByte 1 = .ok (.tableswitch 141 0 17 #[87, 90, 93, 96, 99, 102, 105, 108, 111, 114, 117, 120, 123, 126, 129, 132, 135, 138], 87) := by decide +kernel
theorem dX11_nameByte_88 : decode cX11_nameByte 88 = .ok (.bipush 72, 2) := by decide +kernel
theorem dX11_nameByte_90 : decode cX11_nameByte 90 = .ok (.ireturn, 1) := by decide +kernel
theorem dX11_nameByte_91 : decode cX11_nameByte 91 = .ok (.bipush 97, 2) := by decide +kernel
theorem dX11_nameByte_93 : decode cX11_nameByte 93 = .ok (.ireturn, 1) := by decide +kernel
theorem dX11_nameByte_94 : decode cX11_nameByte 94 = .ok (.bipush 110, 2) := by decide +kernel
theorem dX11_nameByte_96 : decode cX11_nameByte 96 = .ok (.ireturn, 1) := by decide +kernel
theorem dX11_nameByte_97 : decode cX11_nameByte 97 = .ok (.bipush 100, 2) := by decide +kernel
theorem dX11_nameByte_99 : decode cX11_nameByte 99 = .ok (.ireturn, 1) := by decide +kernel
theorem dX11_nameByte_100 : decode cX11_nameByte 100 = .ok (.bipush 115, 2) := by decide +kernel
theorem dX11_nameByte_102 : decode cX11_nameByte 102 = .ok (.ireturn, 1) := by decide +kernel
theorem dX11_nameByte_103 : decode cX11_nameByte 103 = .ok (.bipush 104, 2) := by decide +kernel
theorem dX11_nameByte_105 : decode cX11_nameByte 105 = .ok (.ireturn, 1) := by decide +kernel
theorem dX11_nameByte_106 : decode cX11_nameByte 106 = .ok (.bipush 97, 2) := by decide +kernel
theorem dX11_nameByte_108 : decode cX11_nameByte 108 = .ok (.ireturn, 1) := by decide +kernel
theorem dX11_nameByte_109 : decode cX11_nameByte 109 = .ok (.bipush 107, 2) := by decide +kernel
theorem dX11_nameByte_111 : decode cX11_nameByte 111 = .ok (.ireturn, 1) := by decide +kernel
theorem dX11_nameByte_112 : decode cX11_nameByte 112 = .ok (.bipush 101, 2) := by decide +kernel
theorem dX11_nameByte_114 : decode cX11_nameByte 114 = .ok (.ireturn, 1) := by decide +kernel
theorem dX11_nameByte_115 : decode cX11_nameByte 115 = .ok (.bipush 32, 2) := by decide +kernel
theorem dX11_nameByte_117 : decode cX11_nameByte 117 = .ok (.ireturn, 1) := by decide +kernel
theorem dX11_nameByte_118 : decode cX11_nameByte 118 = .ok (.bipush 98, 2) := by decide +kernel
theorem dX11_nameByte_120 : decode cX11_nameByte 120 = .ok (.ireturn, 1) := by decide +kernel
theorem dX11_nameByte_121 : decode cX11_nameByte 121 = .ok (.bipush 121, 2) := by decide +kernel
theorem dX11_nameByte_123 : decode cX11_nameByte 123 = .ok (.ireturn, 1) := by decide +kernel
theorem dX11_nameByte_124 : decode cX11_nameByte 124 = .ok (.bipush 32, 2) := by decide +kernel
theorem dX11_nameByte_126 : decode cX11_nameByte 126 = .ok (.ireturn, 1) := by decide +kernel
theorem dX11_nameByte_127 : decode cX11_nameByte 127 = .ok (.bipush 115, 2) := by decide +kernel
theorem dX11_nameByte_129 : decode cX11_nameByte 129 = .ok (.ireturn, 1) := by decide +kernel
theorem dX11_nameByte_130 : decode cX11_nameByte 130 = .ok (.bipush 116, 2) := by decide +kernel
theorem dX11_nameByte_132 : decode cX11_nameByte 132 = .ok (.ireturn, 1) := by decide +kernel
theorem dX11_nameByte_133 : decode cX11_nameByte 133 = .ok (.bipush 101, 2) := by decide +kernel
theorem dX11_nameByte_135 : decode cX11_nameByte 135 = .ok (.ireturn, 1) := by decide +kernel
theorem dX11_nameByte_136 : decode cX11_nameByte 136 = .ok (.bipush 112, 2) := by decide +kernel
theorem dX11_nameByte_138 : decode cX11_nameByte 138 = .ok (.ireturn, 1) := by decide +kernel
theorem dX11_nameByte_139 : decode cX11_nameByte 139 = .ok (.bipush 115, 2) := by decide +kernel
theorem dX11_nameByte_141 : decode cX11_nameByte 141 = .ok (.ireturn, 1) := by decide +kernel
theorem dX11_nameByte_142 : decode cX11_nameByte 142 = .ok (.iconst 0, 1) := by decide +kernel
theorem dX11_nameByte_143 : decode cX11_nameByte 143 = .ok (.ireturn, 1) := by decide +kernel
theorem dX11_begins_0 : decode cX11_begins 0 = .ok (.aload_n 0, 1) := by decide +kernel
theorem dX11_begins_1 : decode cX11_begins 1 = .ok (.getfield 195, 3) := by decide +kernel
theorem dX11_begins_4 : decode cX11_begins 4 = .ok (.iload_n 1, 1) := by decide +kernel
theorem dX11_begins_5 : decode cX11_begins 5 = .ok (.iconst 0, 1) := by decide +kernel
theorem dX11_begins_6 : decode cX11_begins 6 = .ok (.iastore, 1) := by decide +kernel
theorem dX11_begins_7 : decode cX11_begins 7 = .ok (.aload_n 0, 1) := by decide +kernel
theorem dX11_begins_8 : decode cX11_begins 8 = .ok (.getfield 198, 3) := by decide +kernel
theorem dX11_begins_11 : decode cX11_begins 11 = .ok (.iload_n 1, 1) := by decide +kernel
theorem dX11_begins_12 : decode cX11_begins 12 = .ok (.iconst 0, 1) := by decide +kernel
theorem dX11_begins_13 : decode cX11_begins 13 = .ok (.bastore, 1) := by decide +kernel
theorem dX11_begins_14 : decode cX11_begins 14 = .ok (.aload_n 0, 1) := by decide +kernel
theorem dX11_begins_15 : decode cX11_begins 15 = .ok (.getfield 201, 3) := by decide +kernel
theorem dX11_begins_18 : decode cX11_begins 18 = .ok (.iload_n 1, 1) := by decide +kernel
theorem dX11_begins_19 : decode cX11_begins 19 = .ok (.iconst 0, 1) := by decide +kernel
theorem dX11_begins_20 : decode cX11_begins 20 = .ok (.bastore, 1) := by decide +kernel
theorem dX11_begins_21 : decode cX11_begins 21 = .ok (.aload_n 0, 1) := by decide +kernel
theorem dX11_begins_22 : decode cX11_begins 22 = .ok (.getfield 204, 3) := by decide +kernel
theorem dX11_begins_25 : decode cX11_begins 25 = .ok (.iload_n 1, 1) := by decide +kernel
theorem dX11_begins_26 : decode cX11_begins 26 = .ok (.iconst 0, 1) := by decide +kernel
theorem dX11_begins_27 : decode cX11_begins 27 = .ok (.iastore, 1) := by decide +kernel
theorem dX11_begins_28 : decode cX11_begins 28 = .ok (.aload_n 0, 1) := by decide +kernel
theorem dX11_begins_29 : decode cX11_begins 29 = .ok (.getfield 207, 3) := by decide +kernel
theorem dX11_begins_32 : decode cX11_begins 32 = .ok (.iload_n 1, 1) := by decide +kernel
theorem dX11_begins_33 : decode cX11_begins 33 = .ok (.iconst 0, 1) := by decide +kernel
theorem dX11_begins_34 : decode cX11_begins 34 = .ok (.iastore, 1) := by decide +kernel
theorem dX11_begins_35 : decode cX11_begins 35 = .ok (.aload_n 0, 1) := by decide +kernel
theorem dX11_begins_36 : decode cX11_begins 36 = .ok (.getfield 210, 3) := by decide +kernel
theorem dX11_begins_39 : decode cX11_begins 39 = .ok (.iload_n 1, 1) := by decide +kernel
theorem dX11_begins_40 : decode cX11_begins 40 = .ok (.iconst 0, 1) := by decide +kernel
theorem dX11_begins_41 : decode cX11_begins 41 = .ok (.bastore, 1) := by decide +kernel
theorem dX11_begins_42 : decode cX11_begins 42 = .ok (.aload_n 0, 1) := by decide +kernel
theorem dX11_begins_43 : decode cX11_begins 43 = .ok (.getfield 213, 3) := by decide +kernel
theorem dX11_begins_46 : decode cX11_begins 46 = .ok (.iload_n 1, 1) := by decide +kernel
theorem dX11_begins_47 : decode cX11_begins 47 = .ok (.aload_n 0, 1) := by decide +kernel
theorem dX11_begins_48 : decode cX11_begins 48 = .ok (.getfield 186, 3) := by decide +kernel
theorem dX11_begins_51 : decode cX11_begins 51 = .ok (.iload_n 1, 1) := by decide +kernel
theorem dX11_begins_52 : decode cX11_begins 52 = .ok (.iaload, 1) := by decide +kernel
theorem dX11_begins_53 : decode cX11_begins 53 = .ok (.iconst (-1), 1) := by decide +kernel
theorem dX11_begins_54 : decode cX11_begins 54 = .ok (.if_icmp .eq 7, 3) := by decide +kernel
theorem dX11_begins_57 : decode cX11_begins 57 = .ok (.iconst 1, 1) := by decide +kernel
theorem dX11_begins_58 : decode cX11_begins 58 = .ok (.goto 4, 3) := by decide +kernel
theorem dX11_begins_61 : decode cX11_begins 61 = .ok (.iconst 0, 1) := by decide +kernel
theorem dX11_begins_62 : decode cX11_begins 62 = .ok (.bastore, 1) := by decide +kernel
theorem dX11_begins_63 : decode cX11_begins 63 = .ok (.aload_n 0, 1) := by decide +kernel
theorem dX11_begins_64 : decode cX11_begins 64 = .ok (.getfield 213, 3) := by decide +kernel
theorem dX11_begins_67 : decode cX11_begins 67 = .ok (.iload_n 1, 1) := by decide +kernel
theorem dX11_begins_68 : decode cX11_begins 68 = .ok (.baload, 1) := by decide +kernel
theorem dX11_begins_69 : decode cX11_begins 69 = .ok (.ifCond .eq 36, 3) := by decide +kernel
theorem dX11_begins_72 : decode cX11_begins 72 = .ok (.aload_n 0, 1) := by decide +kernel
theorem dX11_begins_73 : decode cX11_begins 73 = .ok (.aload_n 0, 1) := by decide +kernel
theorem dX11_begins_74 : decode cX11_begins 74 = .ok (.getfield 186, 3) := by decide +kernel
theorem dX11_begins_77 : decode cX11_begins 77 = .ok (.iload_n 1, 1) := by decide +kernel
theorem dX11_begins_78 : decode cX11_begins 78 = .ok (.iaload, 1) := by decide +kernel
theorem dX11_begins_79 : decode cX11_begins 79 = .ok (.iconst 0, 1) := by decide +kernel
theorem dX11_begins_80 : decode cX11_begins 80 = .ok (.aload_n 0, 1) := by decide +kernel
theorem dX11_begins_81 : decode cX11_begins 81 = .ok (.getfield 249, 3) := by decide +kernel
theorem dX11_begins_84 : decode cX11_begins 84 = .ok (.iconst 0, 1) := by decide +kernel
theorem dX11_begins_85 : decode cX11_begins 85 = .ok (.invokevirtual 394, 3) := by decide +kernel
theorem dX11_begins_88 : decode cX11_begins 88 = .ok (.aload_n 0, 1) := by decide +kernel
theorem dX11_begins_89 : decode cX11_begins 89 = .ok (.aload_n 0, 1) := by decide +kernel
theorem dX11_begins_90 : decode cX11_begins 90 = .ok (.getfield 249, 3) := by decide +kernel
theorem dX11_begins_93 : decode cX11_begins 93 = .ok (.iconst 0, 1) := by decide +kernel
theorem dX11_begins_94 : decode cX11_begins 94 = .ok (.aload_n 0, 1) := by decide +kernel
theorem dX11_begins_95 : decode cX11_begins 95 = .ok (.getfield 234, 3) := by decide +kernel
theorem dX11_begins_98 : decode cX11_begins 98 = .ok (.bipush 32, 2) := by decide +kernel
theorem dX11_begins_100 : decode cX11_begins 100 = .ok (.iload_n 1, 1) := by decide +kernel
theorem dX11_begins_101 : decode cX11_begins 101 = .ok (.imul, 1) := by decide +kernel
theorem dX11_begins_102 : decode cX11_begins 102 = .ok (.invokevirtual 398, 3) := by decide +kernel
theorem dX11_begins_105 : decode cX11_begins 105 = .ok (.iconst 0, 1) := by decide +kernel
theorem dX11_begins_106 : decode cX11_begins 106 = .ok (.istore_n 2, 1) := by decide +kernel
theorem dX11_begins_107 : decode cX11_begins 107 = .ok (.iload_n 2, 1) := by decide +kernel
theorem dX11_begins_108 : decode cX11_begins 108 = .ok (.bipush 32, 2) := by decide +kernel
theorem dX11_begins_110 : decode cX11_begins 110 = .ok (.if_icmp .ge 39, 3) := by decide +kernel
theorem dX11_begins_113 : decode cX11_begins 113 = .ok (.aload_n 0, 1) := by decide +kernel
theorem dX11_begins_114 : decode cX11_begins 114 = .ok (.getfield 216, 3) := by decide +kernel
theorem dX11_begins_117 : decode cX11_begins 117 = .ok (.bipush 32, 2) := by decide +kernel
theorem dX11_begins_119 : decode cX11_begins 119 = .ok (.iload_n 1, 1) := by decide +kernel
theorem dX11_begins_120 : decode cX11_begins 120 = .ok (.imul, 1) := by decide +kernel
theorem dX11_begins_121 : decode cX11_begins 121 = .ok (.iload_n 2, 1) := by decide +kernel
theorem dX11_begins_122 : decode cX11_begins 122 = .ok (.iadd, 1) := by decide +kernel
theorem dX11_begins_123 : decode cX11_begins 123 = .ok (.iload_n 2, 1) := by decide +kernel
theorem dX11_begins_124 : decode cX11_begins 124 = .ok (.invokestatic 401, 3) := by decide +kernel
theorem dX11_begins_127 : decode cX11_begins 127 = .ok (.iastore, 1) := by decide +kernel
theorem dX11_begins_128 : decode cX11_begins 128 = .ok (.aload_n 0, 1) := by decide +kernel
theorem dX11_begins_129 : decode cX11_begins 129 = .ok (.getfield 219, 3) := by decide +kernel
theorem dX11_begins_132 : decode cX11_begins 132 = .ok (.bipush 32, 2) := by decide +kernel
theorem dX11_begins_134 : decode cX11_begins 134 = .ok (.iload_n 1, 1) := by decide +kernel
theorem dX11_begins_135 : decode cX11_begins 135 = .ok (.imul, 1) := by decide +kernel
theorem dX11_begins_136 : decode cX11_begins 136 = .ok (.iload_n 2, 1) := by decide +kernel
theorem dX11_begins_137 : decode cX11_begins 137 = .ok (.iadd, 1) := by decide +kernel
theorem dX11_begins_138 : decode cX11_begins 138 = .ok (.iload_n 2, 1) := by decide +kernel
theorem dX11_begins_139 : decode cX11_begins 139 = .ok (.invokestatic 401, 3) := by decide +kernel
theorem dX11_begins_142 : decode cX11_begins 142 = .ok (.iastore, 1) := by decide +kernel
theorem dX11_begins_143 : decode cX11_begins 143 = .ok (.iinc 2 1, 3) := by decide +kernel
theorem dX11_begins_146 : decode cX11_begins 146 = .ok (.goto (-39), 3) := by decide +kernel
theorem dX11_begins_149 : decode cX11_begins 149 = .ok (.iconst 0, 1) := by decide +kernel
theorem dX11_begins_150 : decode cX11_begins 150 = .ok (.istore_n 2, 1) := by decide +kernel
theorem dX11_begins_151 : decode cX11_begins 151 = .ok (.iload_n 2, 1) := by decide +kernel
theorem dX11_begins_152 : decode cX11_begins 152 = .ok (.iconst 2, 1) := by decide +kernel
theorem dX11_begins_153 : decode cX11_begins 153 = .ok (.if_icmp .ge 87, 3) := by decide +kernel
theorem dX11_begins_156 : decode cX11_begins 156 = .ok (.aload_n 0, 1) := by decide +kernel
theorem dX11_begins_157 : decode cX11_begins 157 = .ok (.getfield 152, 3) := by decide +kernel
theorem dX11_begins_160 : decode cX11_begins 160 = .ok (.iconst 2, 1) := by decide +kernel
theorem dX11_begins_161 : decode cX11_begins 161 = .ok (.aload_n 0, 1) := by decide +kernel
theorem dX11_begins_162 : decode cX11_begins 162 = .ok (.getfield 177, 3) := by decide +kernel
theorem dX11_begins_165 : decode cX11_begins 165 = .ok (.iload_n 1, 1) := by decide +kernel
theorem dX11_begins_166 : decode cX11_begins 166 = .ok (.iaload, 1) := by decide +kernel
theorem dX11_begins_167 : decode cX11_begins 167 = .ok (.imul, 1) := by decide +kernel
theorem dX11_begins_168 : decode cX11_begins 168 = .ok (.iload_n 2, 1) := by decide +kernel
theorem dX11_begins_169 : decode cX11_begins 169 = .ok (.iadd, 1) := by decide +kernel
theorem dX11_begins_170 : decode cX11_begins 170 = .ok (.baload, 1) := by decide +kernel
theorem dX11_begins_171 : decode cX11_begins 171 = .ok (.ifCond .eq 63, 3) := by decide +kernel
theorem dX11_begins_174 : decode cX11_begins 174 = .ok (.aload_n 0, 1) := by decide +kernel
theorem dX11_begins_175 : decode cX11_begins 175 = .ok (.getfield 180, 3) := by decide +kernel
theorem dX11_begins_178 : decode cX11_begins 178 = .ok (.iload_n 1, 1) := by decide +kernel
theorem dX11_begins_179 : decode cX11_begins 179 = .ok (.iaload, 1) := by decide +kernel
theorem dX11_begins_180 : decode cX11_begins 180 = .ok (.iload_n 2, 1) := by decide +kernel
theorem dX11_begins_181 : decode cX11_begins 181 = .ok (.if_icmp .ne 23, 3) := by decide +kernel
theorem dX11_begins_184 : decode cX11_begins 184 = .ok (.aload_n 0, 1) := by decide +kernel
theorem dX11_begins_185 : decode cX11_begins 185 = .ok (.aload_n 0, 1) := by decide +kernel
theorem dX11_begins_186 : decode cX11_begins 186 = .ok (.getfield 228, 3) := by decide +kernel
theorem dX11_begins_189 : decode cX11_begins 189 = .ok (.bipush 32, 2) := by decide +kernel
theorem dX11_begins_191 : decode cX11_begins 191 = .ok (.iload_n 1, 1) := by decide +kernel
theorem dX11_begins_192 : decode cX11_begins 192 = .ok (.imul, 1) := by decide +kernel
theorem dX11_begins_193 : decode cX11_begins 193 = .ok (.aload_n 0, 1) := by decide +kernel
theorem dX11_begins_194 : decode cX11_begins 194 = .ok (.getfield 249, 3) := by decide +kernel
theorem dX11_begins_197 : decode cX11_begins 197 = .ok (.iconst 0, 1) := by decide +kernel
theorem dX11_begins_198 : decode cX11_begins 198 = .ok (.invokevirtual 398, 3) := by decide +kernel
theorem dX11_begins_201 : decode cX11_begins 201 = .ok (.goto 21, 3) := by decide +kernel
theorem dX11_begins_204 : decode cX11_begins 204 = .ok (.aload_n 0, 1) := by decide +kernel
theorem dX11_begins_205 : decode cX11_begins 205 = .ok (.getfield 234, 3) := by decide +kernel
theorem dX11_begins_208 : decode cX11_begins 208 = .ok (.bipush 32, 2) := by decide +kernel
theorem dX11_begins_210 : decode cX11_begins 210 = .ok (.iload_n 1, 1) := by decide +kernel
theorem dX11_begins_211 : decode cX11_begins 211 = .ok (.imul, 1) := by decide +kernel
theorem dX11_begins_212 : decode cX11_begins 212 = .ok (.aload_n 0, 1) := by decide +kernel
theorem dX11_begins_213 : decode cX11_begins 213 = .ok (.getfield 249, 3) := by decide +kernel
theorem dX11_begins_216 : decode cX11_begins 216 = .ok (.iconst 0, 1) := by decide +kernel
theorem dX11_begins_217 : decode cX11_begins 217 = .ok (.bipush 32, 2) := by decide +kernel
theorem dX11_begins_219 : decode cX11_begins 219 = .ok (.invokestatic 270, 3) := by decide +kernel
theorem dX11_begins_222 : decode cX11_begins 222 = .ok (.aload_n 0, 1) := by decide +kernel
theorem dX11_begins_223 : decode cX11_begins 223 = .ok (.iload_n 1, 1) := by decide +kernel
theorem dX11_begins_224 : decode cX11_begins 224 = .ok (.aload_n 0, 1) := by decide +kernel
theorem dX11_begins_225 : decode cX11_begins 225 = .ok (.getfield 249, 3) := by decide +kernel
theorem dX11_begins_228 : decode cX11_begins 228 = .ok (.iconst 0, 1) := by decide +kernel
theorem dX11_begins_229 : decode cX11_begins 229 = .ok (.bipush 32, 2) := by decide +kernel
theorem dX11_begins_231 : decode cX11_begins 231 = .ok (.invokevirtual 404, 3) := by decide +kernel
theorem dX11_begins_234 : decode cX11_begins 234 = .ok (.iinc 2 1, 3) := by decide +kernel
theorem dX11_begins_237 : decode cX11_begins 237 = .ok (.goto (-86), 3) := by decide +kernel
theorem dX11_begins_240 : decode cX11_begins 240 = .ok (.return_, 1) := by decide +kernel
theorem dX11_sendsS_0 : decode cX11_sendsS 0 = .ok (.iload_n 2, 1) := by decide +kernel
theorem dX11_sendsS_1 : decode cX11_sendsS 1 = .ok (.istore_n 3, 1) := by decide +kernel
theorem dX11_sendsS_2 : decode cX11_sendsS 2 = .ok (.iload_n 3, 1) := by decide +kernel
theorem dX11_sendsS_3 : decode cX11_sendsS 3 = .ok (.aload_n 0, 1) := by decide +kernel
theorem dX11_sendsS_4 : decode cX11_sendsS 4 = .ok (.getfield 156, 3) := by decide +kernel
theorem dX11_sendsS_7 : decode cX11_sendsS 7 = .ok (.iload_n 1, 1) := by decide +kernel
theorem dX11_sendsS_8 : decode cX11_sendsS 8 = .ok (.iaload, 1) := by decide +kernel
theorem dX11_sendsS_9 : decode cX11_sendsS 9 = .ok (.if_icmp .ge 56, 3) := by decide +kernel
theorem dX11_sendsS_12 : decode cX11_sendsS 12 = .ok (.bipush 6, 2) := by decide +kernel
theorem dX11_sendsS_14 : decode cX11_sendsS 14 = .ok (.iload_n 1, 1) := by decide +kernel
theorem dX11_sendsS_15 : decode cX11_sendsS 15 = .ok (.imul, 1) := by decide +kernel
theorem dX11_sendsS_16 : decode cX11_sendsS 16 = .ok (.iload_n 3, 1) := by decide +kernel
theorem dX11_sendsS_17 : decode cX11_sendsS 17 = .ok (.iadd, 1) := by decide +kernel
theorem dX11_sendsS_18 : decode cX11_sendsS 18 = .ok (.istore 4, 2) := by decide +kernel
theorem dX11_sendsS_20 : decode cX11_sendsS 20 = .ok (.iconst 0, 1) := by decide +kernel
theorem dX11_sendsS_21 : decode cX11_sendsS 21 = .ok (.istore 5, 2) := by decide +kernel
theorem dX11_sendsS_23 : decode cX11_sendsS 23 = .ok (.iload 5, 2) := by decide +kernel
theorem dX11_sendsS_25 : decode cX11_sendsS 25 = .ok (.aload_n 0, 1) := by decide +kernel
theorem dX11_sendsS_26 : decode cX11_sendsS 26 = .ok (.getfield 159, 3) := by decide +kernel
theorem dX11_sendsS_29 : decode cX11_sendsS 29 = .ok (.iload 4, 2) := by decide +kernel
theorem dX11_sendsS_31 : decode cX11_sendsS 31 = .ok (.iaload, 1) := by decide +kernel
theorem dX11_sendsS_32 : decode cX11_sendsS 32 = .ok (.if_icmp .ge 27, 3) := by decide +kernel
theorem dX11_sendsS_35 : decode cX11_sendsS 35 = .ok (.aload_n 0, 1) := by decide +kernel
theorem dX11_sendsS_36 : decode cX11_sendsS 36 = .ok (.getfield 162, 3) := by decide +kernel
theorem dX11_sendsS_39 : decode cX11_sendsS 39 = .ok (.iconst 5, 1) := by decide +kernel
theorem dX11_sendsS_40 : decode cX11_sendsS 40 = .ok (.iload 4, 2) := by decide +kernel
theorem dX11_sendsS_42 : decode cX11_sendsS 42 = .ok (.imul, 1) := by decide +kernel
theorem dX11_sendsS_43 : decode cX11_sendsS 43 = .ok (.iload 5, 2) := by decide +kernel
theorem dX11_sendsS_45 : decode cX11_sendsS 45 = .ok (.iadd, 1) := by decide +kernel
theorem dX11_sendsS_46 : decode cX11_sendsS 46 = .ok (.iaload, 1) := by decide +kernel
theorem dX11_sendsS_47 : decode cX11_sendsS 47 = .ok (.iconst 1, 1) := by decide +kernel
theorem dX11_sendsS_48 : decode cX11_sendsS 48 = .ok (.if_icmp .ne 5, 3) := by decide +kernel
theorem dX11_sendsS_51 : decode cX11_sendsS 51 = .ok (.iconst 1, 1) := by decide +kernel
theorem dX11_sendsS_52 : decode cX11_sendsS 52 = .ok (.ireturn, 1) := by decide +kernel
theorem dX11_sendsS_53 : decode cX11_sendsS 53 = .ok (.iinc 5 1, 3) := by decide +kernel
theorem dX11_sendsS_56 : decode cX11_sendsS 56 = .ok (.goto (-33), 3) := by decide +kernel
theorem dX11_sendsS_59 : decode cX11_sendsS 59 = .ok (.iinc 3 2, 3) := by decide +kernel
theorem dX11_sendsS_62 : decode cX11_sendsS 62 = .ok (.goto (-60), 3) := by decide +kernel
theorem dX11_sendsS_65 : decode cX11_sendsS 65 = .ok (.iconst 0, 1) := by decide +kernel
theorem dX11_sendsS_66 : decode cX11_sendsS 66 = .ok (.ireturn, 1) := by decide +kernel
theorem dX11_side_0 : decode cX11_side 0 = .ok (.aload_n 0, 1) := by decide +kernel
theorem dX11_side_1 : decode cX11_side 1 = .ok (.iload_n 1, 1) := by decide +kernel
theorem dX11_side_2 : decode cX11_side 2 = .ok (.invokevirtual 373, 3) := by decide +kernel
theorem dX11_side_5 : decode cX11_side 5 = .ok (.ifCond .eq 23, 3) := by decide +kernel
theorem dX11_side_8 : decode cX11_side 8 = .ok (.iload_n 2, 1) := by decide +kernel
theorem dX11_side_9 : decode cX11_side 9 = .ok (.iconst 0, 1) := by decide +kernel
theorem dX11_side_10 : decode cX11_side 10 = .ok (.iconst 1, 1) := by decide +kernel
theorem dX11_side_11 : decode cX11_side 11 = .ok (.invokestatic 366, 3) := by decide +kernel
theorem dX11_side_14 : decode cX11_side 14 = .ok (.ifCond .eq 14, 3) := by decide +kernel
theorem dX11_side_17 : decode cX11_side 17 = .ok (.iload_n 3, 1) := by decide +kernel
theorem dX11_side_18 : decode cX11_side 18 = .ok (.iconst (-1), 1) := by decide +kernel
theorem dX11_side_19 : decode cX11_side 19 = .ok (.if_icmp .lt 9, 3) := by decide +kernel
theorem dX11_side_22 : decode cX11_side 22 = .ok (.iload 4, 2) := by decide +kernel
theorem dX11_side_24 : decode cX11_side 24 = .ok (.iconst (-1), 1) := by decide +kernel
theorem dX11_side_25 : decode cX11_side 25 = .ok (.if_icmp .ge 6, 3) := by decide +kernel
theorem dX11_side_28 : decode cX11_side 28 = .ok (.bipush (-2), 2) := by decide +kernel
theorem dX11_side_30 : decode cX11_side 30 = .ok (.ireturn, 1) := by decide +kernel
theorem dX11_side_31 : decode cX11_side 31 = .ok (.aload_n 0, 1) := by decide +kernel
theorem dX11_side_32 : decode cX11_side 32 = .ok (.getfield 152, 3) := by decide +kernel
theorem dX11_side_35 : decode cX11_side 35 = .ok (.iconst 2, 1) := by decide +kernel
theorem dX11_side_36 : decode cX11_side 36 = .ok (.iload_n 1, 1) := by decide +kernel
theorem dX11_side_37 : decode cX11_side 37 = .ok (.imul, 1) := by decide +kernel
theorem dX11_side_38 : decode cX11_side 38 = .ok (.iload_n 2, 1) := by decide +kernel
theorem dX11_side_39 : decode cX11_side 39 = .ok (.iadd, 1) := by decide +kernel
theorem dX11_side_40 : decode cX11_side 40 = .ok (.baload, 1) := by decide +kernel
theorem dX11_side_41 : decode cX11_side 41 = .ok (.ifCond .ne 12, 3) := by decide +kernel
theorem dX11_side_44 : decode cX11_side 44 = .ok (.aload_n 0, 1) := by decide +kernel
theorem dX11_side_45 : decode cX11_side 45 = .ok (.iload_n 1, 1) := by decide +kernel
theorem dX11_side_46 : decode cX11_side 46 = .ok (.iload_n 2, 1) := by decide +kernel
theorem dX11_side_47 : decode cX11_side 47 = .ok (.invokevirtual 408, 3) := by decide +kernel
theorem dX11_side_50 : decode cX11_side 50 = .ok (.ifCond .eq 7, 3) := by decide +kernel
theorem dX11_side_53 : decode cX11_side 53 = .ok (.iconst 1, 1) := by decide +kernel
theorem dX11_side_54 : decode cX11_side 54 = .ok (.goto 4, 3) := by decide +kernel
theorem dX11_side_57 : decode cX11_side 57 = .ok (.iconst 0, 1) := by decide +kernel
theorem dX11_side_58 : decode cX11_side 58 = .ok (.istore 6, 2) := by decide +kernel
theorem dX11_side_60 : decode cX11_side 60 = .ok (.aload_n 0, 1) := by decide +kernel
theorem dX11_side_61 : decode cX11_side 61 = .ok (.iload_n 1, 1) := by decide +kernel
theorem dX11_side_62 : decode cX11_side 62 = .ok (.invokevirtual 386, 3) := by decide +kernel
theorem dX11_side_65 : decode cX11_side 65 = .ok (.ifCond .ne 34, 3) := by decide +kernel
theorem dX11_side_68 : decode cX11_side 68 = .ok (.iload_n 3, 1) := by decide +kernel
theorem dX11_side_69 : decode cX11_side 69 = .ok (.iconst (-1), 1) := by decide +kernel
theorem dX11_side_70 : decode cX11_side 70 = .ok (.if_icmp .ne 8, 3) := by decide +kernel
theorem dX11_side_73 : decode cX11_side 73 = .ok (.iload 6, 2) := by decide +kernel
theorem dX11_side_75 : decode cX11_side 75 = .ok (.ifCond .ne 24, 3) := by decide +kernel
theorem dX11_side_78 : decode cX11_side 78 = .ok (.iload 4, 2) := by decide +kernel
theorem dX11_side_80 : decode cX11_side 80 = .ok (.iconst (-1), 1) := by decide +kernel
theorem dX11_side_81 : decode cX11_side 81 = .ok (.if_icmp .ne 21, 3) := by decide +kernel
theorem dX11_side_84 : decode cX11_side 84 = .ok (.aload_n 0, 1) := by decide +kernel
theorem dX11_side_85 : decode cX11_side 85 = .ok (.getfield 152, 3) := by decide +kernel
theorem dX11_side_88 : decode cX11_side 88 = .ok (.iconst 2, 1) := by decide +kernel
theorem dX11_side_89 : decode cX11_side 89 = .ok (.iload_n 1, 1) := by decide +kernel
theorem dX11_side_90 : decode cX11_side 90 = .ok (.imul, 1) := by decide +kernel
theorem dX11_side_91 : decode cX11_side 91 = .ok (.iconst 1, 1) := by decide +kernel
theorem dX11_side_92 : decode cX11_side 92 = .ok (.iadd, 1) := by decide +kernel
theorem dX11_side_93 : decode cX11_side 93 = .ok (.iload_n 2, 1) := by decide +kernel
theorem dX11_side_94 : decode cX11_side 94 = .ok (.isub, 1) := by decide +kernel
theorem dX11_side_95 : decode cX11_side 95 = .ok (.baload, 1) := by decide +kernel
theorem dX11_side_96 : decode cX11_side 96 = .ok (.ifCond .eq 6, 3) := by decide +kernel
theorem dX11_side_99 : decode cX11_side 99 = .ok (.bipush (-3), 2) := by decide +kernel
theorem dX11_side_101 : decode cX11_side 101 = .ok (.ireturn, 1) := by decide +kernel
theorem dX11_side_102 : decode cX11_side 102 = .ok (.aload_n 0, 1) := by decide +kernel
theorem dX11_side_103 : decode cX11_side 103 = .ok (.getfield 370, 3) := by decide +kernel
theorem dX11_side_106 : decode cX11_side 106 = .ok (.iconst 4, 1) := by decide +kernel
theorem dX11_side_107 : decode cX11_side 107 = .ok (.if_icmp .ne 6, 3) := by decide +kernel
theorem dX11_side_110 : decode cX11_side 110 = .ok (.bipush (-4), 2) := by decide +kernel
theorem dX11_side_112 : decode cX11_side 112 = .ok (.ireturn, 1) := by decide +kernel
theorem dX11_side_113 : decode cX11_side 113 = .ok (.aload_n 0, 1) := by decide +kernel
theorem dX11_side_114 : decode cX11_side 114 = .ok (.getfield 370, 3) := by decide +kernel
theorem dX11_side_117 : decode cX11_side 117 = .ok (.istore 7, 2) := by decide +kernel
theorem dX11_side_119 : decode cX11_side 119 = .ok (.aload_n 0, 1) := by decide +kernel
theorem dX11_side_120 : decode cX11_side 120 = .ok (.getfield 177, 3) := by decide +kernel
theorem dX11_side_123 : decode cX11_side 123 = .ok (.iload 7, 2) := by decide +kernel
theorem dX11_side_125 : decode cX11_side 125 = .ok (.iload_n 1, 1) := by decide +kernel
theorem dX11_side_126 : decode cX11_side 126 = .ok (.iastore, 1) := by decide +kernel
theorem dX11_side_127 : decode cX11_side 127 = .ok (.aload_n 0, 1) := by decide +kernel
theorem dX11_side_128 : decode cX11_side 128 = .ok (.getfield 180, 3) := by decide +kernel
theorem dX11_side_131 : decode cX11_side 131 = .ok (.iload 7, 2) := by decide +kernel
theorem dX11_side_133 : decode cX11_side 133 = .ok (.iload_n 2, 1) := by decide +kernel
theorem dX11_side_134 : decode cX11_side 134 = .ok (.iastore, 1) := by decide +kernel
theorem dX11_side_135 : decode cX11_side 135 = .ok (.aload_n 0, 1) := by decide +kernel
theorem dX11_side_136 : decode cX11_side 136 = .ok (.getfield 183, 3) := by decide +kernel
theorem dX11_side_139 : decode cX11_side 139 = .ok (.iload 7, 2) := by decide +kernel
theorem dX11_side_141 : decode cX11_side 141 = .ok (.iload_n 3, 1) := by decide +kernel
theorem dX11_side_142 : decode cX11_side 142 = .ok (.iconst (-1), 1) := by decide +kernel
theorem dX11_side_143 : decode cX11_side 143 = .ok (.if_icmp .eq 7, 3) := by decide +kernel
theorem dX11_side_146 : decode cX11_side 146 = .ok (.iconst 1, 1) := by decide +kernel
theorem dX11_side_147 : decode cX11_side 147 = .ok (.goto 4, 3) := by decide +kernel
theorem dX11_side_150 : decode cX11_side 150 = .ok (.iconst 0, 1) := by decide +kernel
theorem dX11_side_151 : decode cX11_side 151 = .ok (.bastore, 1) := by decide +kernel
theorem dX11_side_152 : decode cX11_side 152 = .ok (.aload_n 0, 1) := by decide +kernel
theorem dX11_side_153 : decode cX11_side 153 = .ok (.getfield 183, 3) := by decide +kernel
theorem dX11_side_156 : decode cX11_side 156 = .ok (.iload 7, 2) := by decide +kernel
theorem dX11_side_158 : decode cX11_side 158 = .ok (.baload, 1) := by decide +kernel
theorem dX11_side_159 : decode cX11_side 159 = .ok (.ifCond .eq 18, 3) := by decide +kernel
theorem dX11_side_162 : decode cX11_side 162 = .ok (.aload_n 0, 1) := by decide +kernel
theorem dX11_side_163 : decode cX11_side 163 = .ok (.iload_n 3, 1) := by decide +kernel
theorem dX11_side_164 : decode cX11_side 164 = .ok (.iconst 0, 1) := by decide +kernel
theorem dX11_side_165 : decode cX11_side 165 = .ok (.aload_n 0, 1) := by decide +kernel
theorem dX11_side_166 : decode cX11_side 166 = .ok (.getfield 228, 3) := by decide +kernel
theorem dX11_side_169 : decode cX11_side 169 = .ok (.bipush 32, 2) := by decide +kernel
theorem dX11_side_171 : decode cX11_side 171 = .ok (.iload 7, 2) := by decide +kernel
theorem dX11_side_173 : decode cX11_side 173 = .ok (.imul, 1) := by decide +kernel
theorem dX11_side_174 : decode cX11_side 174 = .ok (.invokevirtual 394, 3) := by decide +kernel
theorem dX11_side_177 : decode cX11_side 177 = .ok (.aload_n 0, 1) := by decide +kernel
theorem dX11_side_178 : decode cX11_side 178 = .ok (.getfield 186, 3) := by decide +kernel
theorem dX11_side_181 : decode cX11_side 181 = .ok (.iload 7, 2) := by decide +kernel
theorem dX11_side_183 : decode cX11_side 183 = .ok (.iload 4, 2) := by decide +kernel
theorem dX11_side_185 : decode cX11_side 185 = .ok (.iastore, 1) := by decide +kernel
theorem dX11_side_186 : decode cX11_side 186 = .ok (.aload_n 0, 1) := by decide +kernel
theorem dX11_side_187 : decode cX11_side 187 = .ok (.getfield 189, 3) := by decide +kernel
theorem dX11_side_190 : decode cX11_side 190 = .ok (.iload 7, 2) := by decide +kernel
theorem dX11_side_192 : decode cX11_side 192 = .ok (.iload 5, 2) := by decide +kernel
theorem dX11_side_194 : decode cX11_side 194 = .ok (.iastore, 1) := by decide +kernel
theorem dX11_side_195 : decode cX11_side 195 = .ok (.aload_n 0, 1) := by decide +kernel
theorem dX11_side_196 : decode cX11_side 196 = .ok (.getfield 192, 3) := by decide +kernel
theorem dX11_side_199 : decode cX11_side 199 = .ok (.iload 7, 2) := by decide +kernel
theorem dX11_side_201 : decode cX11_side 201 = .ok (.iconst 0, 1) := by decide +kernel
theorem dX11_side_202 : decode cX11_side 202 = .ok (.iastore, 1) := by decide +kernel
theorem dX11_side_203 : decode cX11_side 203 = .ok (.aload_n 0, 1) := by decide +kernel
theorem dX11_side_204 : decode cX11_side 204 = .ok (.dup, 1) := by decide +kernel
theorem dX11_side_205 : decode cX11_side 205 = .ok (.getfield 370, 3) := by decide +kernel
theorem dX11_side_208 : decode cX11_side 208 = .ok (.iconst 1, 1) := by decide +kernel
theorem dX11_side_209 : decode cX11_side 209 = .ok (.iadd, 1) := by decide +kernel
theorem dX11_side_210 : decode cX11_side 210 = .ok (.putfield 370, 3) := by decide +kernel
theorem dX11_side_213 : decode cX11_side 213 = .ok (.aload_n 0, 1) := by decide +kernel
theorem dX11_side_214 : decode cX11_side 214 = .ok (.iload 7, 2) := by decide +kernel
theorem dX11_side_216 : decode cX11_side 216 = .ok (.invokevirtual 412, 3) := by decide +kernel
theorem dX11_side_219 : decode cX11_side 219 = .ok (.iload 7, 2) := by decide +kernel
theorem dX11_side_221 : decode cX11_side 221 = .ok (.ireturn, 1) := by decide +kernel
theorem dX11_again_0 : decode cX11_again 0 = .ok (.aload_n 0, 1) := by decide +kernel
theorem dX11_again_1 : decode cX11_again 1 = .ok (.iload_n 1, 1) := by decide +kernel
theorem dX11_again_2 : decode cX11_again 2 = .ok (.invokevirtual 415, 3) := by decide +kernel
theorem dX11_again_5 : decode cX11_again 5 = .ok (.ifCond .ne 6, 3) := by decide +kernel
theorem dX11_again_8 : decode cX11_again 8 = .ok (.bipush (-2), 2) := by decide +kernel
theorem dX11_again_10 : decode cX11_again 10 = .ok (.ireturn, 1) := by decide +kernel
theorem dX11_again_11 : decode cX11_again 11 = .ok (.aload_n 0, 1) := by decide +kernel
theorem dX11_again_12 : decode cX11_again 12 = .ok (.getfield 195, 3) := by decide +kernel
theorem dX11_again_15 : decode cX11_again 15 = .ok (.iload_n 1, 1) := by decide +kernel
theorem dX11_again_16 : decode cX11_again 16 = .ok (.iaload, 1) := by decide +kernel
theorem dX11_again_17 : decode cX11_again 17 = .ok (.istore_n 2, 1) := by decide +kernel
theorem dX11_again_18 : decode cX11_again 18 = .ok (.aload_n 0, 1) := by decide +kernel
theorem dX11_again_19 : decode cX11_again 19 = .ok (.iload_n 1, 1) := by decide +kernel
theorem dX11_again_20 : decode cX11_again 20 = .ok (.invokevirtual 412, 3) := by decide +kernel
theorem dX11_again_23 : decode cX11_again 23 = .ok (.iload_n 2, 1) := by decide +kernel
theorem dX11_again_24 : decode cX11_again 24 = .ok (.ireturn, 1) := by decide +kernel
theorem dX11_feed_0 : decode cX11_feed 0 = .ok (.iload_n 3, 1) := by decide +kernel
theorem dX11_feed_1 : decode cX11_feed 1 = .ok (.iconst 1, 1) := by decide +kernel
theorem dX11_feed_2 : decode cX11_feed 2 = .ok (.bipush 8, 2) := by decide +kernel
theorem dX11_feed_4 : decode cX11_feed 4 = .ok (.invokestatic 366, 3) := by decide +kernel
theorem dX11_feed_7 : decode cX11_feed 7 = .ok (.ifCond .ne 6, 3) := by decide +kernel
theorem dX11_feed_10 : decode cX11_feed 10 = .ok (.bipush (-2), 2) := by decide +kernel
theorem dX11_feed_12 : decode cX11_feed 12 = .ok (.ireturn, 1) := by decide +kernel
theorem dX11_feed_13 : decode cX11_feed 13 = .ok (.aload_n 0, 1) := by decide +kernel
theorem dX11_feed_14 : decode cX11_feed 14 = .ok (.getfield 418, 3) := by decide +kernel
theorem dX11_feed_17 : decode cX11_feed 17 = .ok (.iload_n 3, 1) := by decide +kernel
theorem dX11_feed_18 : decode cX11_feed 18 = .ok (.iadd, 1) := by decide +kernel
theorem dX11_feed_19 : decode cX11_feed 19 = .ok (.bipush 64, 2) := by decide +kernel
theorem dX11_feed_21 : decode cX11_feed 21 = .ok (.if_icmp .le 6, 3) := by decide +kernel
theorem dX11_feed_24 : decode cX11_feed 24 = .ok (.bipush (-4), 2) := by decide +kernel
theorem dX11_feed_26 : decode cX11_feed 26 = .ok (.ireturn, 1) := by decide +kernel
theorem dX11_feed_27 : decode cX11_feed 27 = .ok (.iload_n 3, 1) := by decide +kernel
theorem dX11_feed_28 : decode cX11_feed 28 = .ok (.iconst 1, 1) := by decide +kernel
theorem dX11_feed_29 : decode cX11_feed 29 = .ok (.isub, 1) := by decide +kernel
theorem dX11_feed_30 : decode cX11_feed 30 = .ok (.istore 4, 2) := by decide +kernel
theorem dX11_feed_32 : decode cX11_feed 32 = .ok (.iload 4, 2) := by decide +kernel
theorem dX11_feed_34 : decode cX11_feed 34 = .ok (.ifCond .lt 40, 3) := by decide +kernel
theorem dX11_feed_37 : decode cX11_feed 37 = .ok (.aload_n 0, 1) := by decide +kernel
theorem dX11_feed_38 : decode cX11_feed 38 = .ok (.getfield 240, 3) := by decide +kernel
theorem dX11_feed_41 : decode cX11_feed 41 = .ok (.aload_n 0, 1) := by decide +kernel
theorem dX11_feed_42 : decode cX11_feed 42 = .ok (.getfield 418, 3) := by decide +kernel
theorem dX11_feed_45 : decode cX11_feed 45 = .ok (.lload_n 1, 1) := by decide +kernel
theorem dX11_feed_46 : decode cX11_feed 46 = .ok (.bipush 8, 2) := by decide +kernel
theorem dX11_feed_48 : decode cX11_feed 48 = .ok (.iload 4, 2) := by decide +kernel
theorem dX11_feed_50 : decode cX11_feed 50 = .ok (.imul, 1) := by decide +kernel
theorem dX11_feed_51 : decode cX11_feed 51 = .ok (.lshr, 1) := by decide +kernel
theorem dX11_feed_52 : decode cX11_feed 52 = .ok (.l2i, 1) := by decide +kernel
theorem dX11_feed_53 : decode cX11_feed 53 = .ok (.sipush 255, 3) := by decide +kernel
theorem dX11_feed_56 : decode cX11_feed 56 = .ok (.iand, 1) := by decide +kernel
theorem dX11_feed_57 : decode cX11_feed 57 = .ok (.iastore, 1) := by decide +kernel
theorem dX11_feed_58 : decode cX11_feed 58 = .ok (.aload_n 0, 1) := by decide +kernel
theorem dX11_feed_59 : decode cX11_feed 59 = .ok (.dup, 1) := by decide +kernel
theorem dX11_feed_60 : decode cX11_feed 60 = .ok (.getfield 418, 3) := by decide +kernel
theorem dX11_feed_63 : decode cX11_feed 63 = .ok (.iconst 1, 1) := by decide +kernel
theorem dX11_feed_64 : decode cX11_feed 64 = .ok (.iadd, 1) := by decide +kernel
theorem dX11_feed_65 : decode cX11_feed 65 = .ok (.putfield 418, 3) := by decide +kernel
theorem dX11_feed_68 : decode cX11_feed 68 = .ok (.iinc 4 (-1), 3) := by decide +kernel
theorem dX11_feed_71 : decode cX11_feed 71 = .ok (.goto (-39), 3) := by decide +kernel
theorem dX11_feed_74 : decode cX11_feed 74 = .ok (.aload_n 0, 1) := by decide +kernel
theorem dX11_feed_75 : decode cX11_feed 75 = .ok (.getfield 418, 3) := by decide +kernel
theorem dX11_feed_78 : decode cX11_feed 78 = .ok (.ireturn, 1) := by decide +kernel
theorem dX11_shares_0 : decode cX11_shares 0 = .ok (.aload_n 0, 1) := by decide +kernel
theorem dX11_shares_1 : decode cX11_shares 1 = .ok (.getfield 180, 3) := by decide +kernel
theorem dX11_shares_4 : decode cX11_shares 4 = .ok (.iload_n 1, 1) := by decide +kernel
theorem dX11_shares_5 : decode cX11_shares 5 = .ok (.iaload, 1) := by decide +kernel
theorem dX11_shares_6 : decode cX11_shares 6 = .ok (.ifCond .ne 7, 3) := by decide +kernel
theorem dX11_shares_9 : decode cX11_shares 9 = .ok (.iconst 1, 1) := by decide +kernel
theorem dX11_shares_10 : decode cX11_shares 10 = .ok (.goto 4, 3) := by decide +kernel
theorem dX11_shares_13 : decode cX11_shares 13 = .ok (.iconst 0, 1) := by decide +kernel
theorem dX11_shares_14 : decode cX11_shares 14 = .ok (.istore_n 3, 1) := by decide +kernel
theorem dX11_shares_15 : decode cX11_shares 15 = .ok (.iload_n 2, 1) := by decide +kernel
theorem dX11_shares_16 : decode cX11_shares 16 = .ok (.iconst 2, 1) := by decide +kernel
theorem dX11_shares_17 : decode cX11_shares 17 = .ok (.if_icmp .eq 20, 3) := by decide +kernel
theorem dX11_shares_20 : decode cX11_shares 20 = .ok (.iload_n 3, 1) := by decide +kernel
theorem dX11_shares_21 : decode cX11_shares 21 = .ok (.ifCond .eq 11, 3) := by decide +kernel
theorem dX11_shares_24 : decode cX11_shares 24 = .ok (.iload_n 2, 1) := by decide +kernel
theorem dX11_shares_25 : decode cX11_shares 25 = .ok (.iconst 3, 1) := by decide +kernel
theorem dX11_shares_26 : decode cX11_shares 26 = .ok (.if_icmp .ne 15, 3) := by decide +kernel
theorem dX11_shares_29 : decode cX11_shares 29 = .ok (.goto 8, 3) := by decide +kernel
theorem dX11_shares_32 : decode cX11_shares 32 = .ok (.iload_n 2, 1) := by decide +kernel
theorem dX11_shares_33 : decode cX11_shares 33 = .ok (.iconst 4, 1) := by decide +kernel
theorem dX11_shares_34 : decode cX11_shares 34 = .ok (.if_icmp .ne 7, 3) := by decide +kernel
theorem dX11_shares_37 : decode cX11_shares 37 = .ok (.iconst 1, 1) := by decide +kernel
theorem dX11_shares_38 : decode cX11_shares 38 = .ok (.goto 4, 3) := by decide +kernel
theorem dX11_shares_41 : decode cX11_shares 41 = .ok (.iconst 0, 1) := by decide +kernel
theorem dX11_shares_42 : decode cX11_shares 42 = .ok (.istore 4, 2) := by decide +kernel
theorem dX11_shares_44 : decode cX11_shares 44 = .ok (.iload_n 2, 1) := by decide +kernel
theorem dX11_shares_45 : decode cX11_shares 45 = .ok (.iconst 2, 1) := by decide +kernel
theorem dX11_shares_46 : decode cX11_shares 46 = .ok (.if_icmp .eq 20, 3) := by decide +kernel
theorem dX11_shares_49 : decode cX11_shares 49 = .ok (.iload_n 3, 1) := by decide +kernel
theorem dX11_shares_50 : decode cX11_shares 50 = .ok (.ifCond .eq 11, 3) := by decide +kernel
theorem dX11_shares_53 : decode cX11_shares 53 = .ok (.iload_n 2, 1) := by decide +kernel
theorem dX11_shares_54 : decode cX11_shares 54 = .ok (.iconst 4, 1) := by decide +kernel
theorem dX11_shares_55 : decode cX11_shares 55 = .ok (.if_icmp .ne 15, 3) := by decide +kernel
theorem dX11_shares_58 : decode cX11_shares 58 = .ok (.goto 8, 3) := by decide +kernel
theorem dX11_shares_61 : decode cX11_shares 61 = .ok (.iload_n 2, 1) := by decide +kernel
theorem dX11_shares_62 : decode cX11_shares 62 = .ok (.iconst 3, 1) := by decide +kernel
theorem dX11_shares_63 : decode cX11_shares 63 = .ok (.if_icmp .ne 7, 3) := by decide +kernel
theorem dX11_shares_66 : decode cX11_shares 66 = .ok (.iconst 1, 1) := by decide +kernel
theorem dX11_shares_67 : decode cX11_shares 67 = .ok (.goto 4, 3) := by decide +kernel
theorem dX11_shares_70 : decode cX11_shares 70 = .ok (.iconst 0, 1) := by decide +kernel
theorem dX11_shares_71 : decode cX11_shares 71 = .ok (.istore 5, 2) := by decide +kernel
theorem dX11_shares_73 : decode cX11_shares 73 = .ok (.iload 4, 2) := by decide +kernel
theorem dX11_shares_75 : decode cX11_shares 75 = .ok (.ifCond .eq 10, 3) := by decide +kernel
theorem dX11_shares_78 : decode cX11_shares 78 = .ok (.aload_n 0, 1) := by decide +kernel
theorem dX11_shares_79 : decode cX11_shares 79 = .ok (.getfield 231, 3) := by decide +kernel
theorem dX11_shares_82 : decode cX11_shares 82 = .ok (.goto 7, 3) := by decide +kernel
theorem dX11_shares_85 : decode cX11_shares 85 = .ok (.aload_n 0, 1) := by decide +kernel
theorem dX11_shares_86 : decode cX11_shares 86 = .ok (.getfield 228, 3) := by decide +kernel
theorem dX11_shares_89 : decode cX11_shares 89 = .ok (.astore 6, 2) := by decide +kernel
theorem dX11_shares_91 : decode cX11_shares 91 = .ok (.iload 5, 2) := by decide +kernel
theorem dX11_shares_93 : decode cX11_shares 93 = .ok (.ifCond .eq 10, 3) := by decide +kernel
theorem dX11_shares_96 : decode cX11_shares 96 = .ok (.aload_n 0, 1) := by decide +kernel
theorem dX11_shares_97 : decode cX11_shares 97 = .ok (.getfield 237, 3) := by decide +kernel
theorem dX11_shares_100 : decode cX11_shares 100 = .ok (.goto 7, 3) := by decide +kernel
theorem dX11_shares_103 : decode cX11_shares 103 = .ok (.aload_n 0, 1) := by decide +kernel
theorem dX11_shares_104 : decode cX11_shares 104 = .ok (.getfield 234, 3) := by decide +kernel
theorem dX11_shares_107 : decode cX11_shares 107 = .ok (.astore 7, 2) := by decide +kernel
theorem dX11_shares_109 : decode cX11_shares 109 = .ok (.aload_n 0, 1) := by decide +kernel
theorem dX11_shares_110 : decode cX11_shares 110 = .ok (.aload 6, 2) := by decide +kernel
theorem dX11_shares_112 : decode cX11_shares 112 = .ok (.bipush 32, 2) := by decide +kernel
theorem dX11_shares_114 : decode cX11_shares 114 = .ok (.iload_n 1, 1) := by decide +kernel
theorem dX11_shares_115 : decode cX11_shares 115 = .ok (.imul, 1) := by decide +kernel
theorem dX11_shares_116 : decode cX11_shares 116 = .ok (.aload 7, 2) := by decide +kernel
theorem dX11_shares_118 : decode cX11_shares 118 = .ok (.bipush 32, 2) := by decide +kernel
theorem dX11_shares_120 : decode cX11_shares 120 = .ok (.iload_n 1, 1) := by decide +kernel
theorem dX11_shares_121 : decode cX11_shares 121 = .ok (.imul, 1) := by decide +kernel
theorem dX11_shares_122 : decode cX11_shares 122 = .ok (.aload_n 0, 1) := by decide +kernel
theorem dX11_shares_123 : decode cX11_shares 123 = .ok (.getfield 252, 3) := by decide +kernel
theorem dX11_shares_126 : decode cX11_shares 126 = .ok (.iconst 0, 1) := by decide +kernel
theorem dX11_shares_127 : decode cX11_shares 127 = .ok (.invokevirtual 335, 3) := by decide +kernel
theorem dX11_shares_130 : decode cX11_shares 130 = .ok (.return_, 1) := by decide +kernel
theorem dX11_seal_0 : decode cX11_seal 0 = .ok (.iload 4, 2) := by decide +kernel
theorem dX11_seal_2 : decode cX11_seal 2 = .ok (.istore 5, 2) := by decide +kernel
theorem dX11_seal_4 : decode cX11_seal 4 = .ok (.aload_n 0, 1) := by decide +kernel
theorem dX11_seal_5 : decode cX11_seal 5 = .ok (.getfield 201, 3) := by decide +kernel
theorem dX11_seal_8 : decode cX11_seal 8 = .ok (.iload_n 1, 1) := by decide +kernel
theorem dX11_seal_9 : decode cX11_seal 9 = .ok (.baload, 1) := by decide +kernel
theorem dX11_seal_10 : decode cX11_seal 10 = .ok (.ifCond .eq 85, 3) := by decide +kernel
theorem dX11_seal_13 : decode cX11_seal 13 = .ok (.aload_n 0, 1) := by decide +kernel
theorem dX11_seal_14 : decode cX11_seal 14 = .ok (.aload_n 0, 1) := by decide +kernel
theorem dX11_seal_15 : decode cX11_seal 15 = .ok (.getfield 222, 3) := by decide +kernel
theorem dX11_seal_18 : decode cX11_seal 18 = .ok (.bipush 32, 2) := by decide +kernel
theorem dX11_seal_20 : decode cX11_seal 20 = .ok (.iload_n 1, 1) := by decide +kernel
theorem dX11_seal_21 : decode cX11_seal 21 = .ok (.imul, 1) := by decide +kernel
theorem dX11_seal_22 : decode cX11_seal 22 = .ok (.aload_n 0, 1) := by decide +kernel
theorem dX11_seal_23 : decode cX11_seal 23 = .ok (.getfield 204, 3) := by decide +kernel
theorem dX11_seal_26 : decode cX11_seal 26 = .ok (.iload_n 1, 1) := by decide +kernel
theorem dX11_seal_27 : decode cX11_seal 27 = .ok (.iaload, 1) := by decide +kernel
theorem dX11_seal_28 : decode cX11_seal 28 = .ok (.aload_n 2, 1) := by decide +kernel
theorem dX11_seal_29 : decode cX11_seal 29 = .ok (.iload_n 3, 1) := by decide +kernel
theorem dX11_seal_30 : decode cX11_seal 30 = .ok (.iload 4, 2) := by decide +kernel
theorem dX11_seal_32 : decode cX11_seal 32 = .ok (.invokevirtual 421, 3) := by decide +kernel
theorem dX11_seal_35 : decode cX11_seal 35 = .ok (.aload_n 0, 1) := by decide +kernel
theorem dX11_seal_36 : decode cX11_seal 36 = .ok (.aload_n 0, 1) := by decide +kernel
theorem dX11_seal_37 : decode cX11_seal 37 = .ok (.getfield 222, 3) := by decide +kernel
theorem dX11_seal_40 : decode cX11_seal 40 = .ok (.bipush 32, 2) := by decide +kernel
theorem dX11_seal_42 : decode cX11_seal 42 = .ok (.iload_n 1, 1) := by decide +kernel
theorem dX11_seal_43 : decode cX11_seal 43 = .ok (.imul, 1) := by decide +kernel
theorem dX11_seal_44 : decode cX11_seal 44 = .ok (.aload_n 0, 1) := by decide +kernel
theorem dX11_seal_45 : decode cX11_seal 45 = .ok (.getfield 204, 3) := by decide +kernel
theorem dX11_seal_48 : decode cX11_seal 48 = .ok (.iload_n 1, 1) := by decide +kernel
theorem dX11_seal_49 : decode cX11_seal 49 = .ok (.iaload, 1) := by decide +kernel
theorem dX11_seal_50 : decode cX11_seal 50 = .ok (.aload_n 0, 1) := by decide +kernel
theorem dX11_seal_51 : decode cX11_seal 51 = .ok (.getfield 219, 3) := by decide +kernel
theorem dX11_seal_54 : decode cX11_seal 54 = .ok (.bipush 32, 2) := by decide +kernel
theorem dX11_seal_56 : decode cX11_seal 56 = .ok (.iload_n 1, 1) := by decide +kernel
theorem dX11_seal_57 : decode cX11_seal 57 = .ok (.imul, 1) := by decide +kernel
theorem dX11_seal_58 : decode cX11_seal 58 = .ok (.bipush 32, 2) := by decide +kernel
theorem dX11_seal_60 : decode cX11_seal 60 = .ok (.aload_n 2, 1) := by decide +kernel
theorem dX11_seal_61 : decode cX11_seal 61 = .ok (.iload_n 3, 1) := by decide +kernel
theorem dX11_seal_62 : decode cX11_seal 62 = .ok (.iload 4, 2) := by decide +kernel
theorem dX11_seal_64 : decode cX11_seal 64 = .ok (.invokevirtual 425, 3) := by decide +kernel
theorem dX11_seal_67 : decode cX11_seal 67 = .ok (.aload_n 0, 1) := by decide +kernel
theorem dX11_seal_68 : decode cX11_seal 68 = .ok (.getfield 149, 3) := by decide +kernel
theorem dX11_seal_71 : decode cX11_seal 71 = .ok (.iconst 0, 1) := by decide +kernel
theorem dX11_seal_72 : decode cX11_seal 72 = .ok (.aload_n 2, 1) := by decide +kernel
theorem dX11_seal_73 : decode cX11_seal 73 = .ok (.iload_n 3, 1) := by decide +kernel
theorem dX11_seal_74 : decode cX11_seal 74 = .ok (.iload 4, 2) := by decide +kernel
theorem dX11_seal_76 : decode cX11_seal 76 = .ok (.iadd, 1) := by decide +kernel
theorem dX11_seal_77 : decode cX11_seal 77 = .ok (.bipush 16, 2) := by decide +kernel
theorem dX11_seal_79 : decode cX11_seal 79 = .ok (.invokestatic 270, 3) := by decide +kernel
theorem dX11_seal_82 : decode cX11_seal 82 = .ok (.aload_n 0, 1) := by decide +kernel
theorem dX11_seal_83 : decode cX11_seal 83 = .ok (.getfield 204, 3) := by decide +kernel
theorem dX11_seal_86 : decode cX11_seal 86 = .ok (.iload_n 1, 1) := by decide +kernel
theorem dX11_seal_87 : decode cX11_seal 87 = .ok (.dup2, 1) := by decide +kernel
theorem dX11_seal_88 : decode cX11_seal 88 = .ok (.iaload, 1) := by decide +kernel
theorem dX11_seal_89 : decode cX11_seal 89 = .ok (.iconst 1, 1) := by decide +kernel
theorem dX11_seal_90 : decode cX11_seal 90 = .ok (.iadd, 1) := by decide +kernel
theorem dX11_seal_91 : decode cX11_seal 91 = .ok (.iastore, 1) := by decide +kernel
theorem dX11_seal_92 : decode cX11_seal 92 = .ok (.iinc 5 16, 3) := by decide +kernel
theorem dX11_seal_95 : decode cX11_seal 95 = .ok (.aload_n 0, 1) := by decide +kernel
theorem dX11_seal_96 : decode cX11_seal 96 = .ok (.iload_n 1, 1) := by decide +kernel
theorem dX11_seal_97 : decode cX11_seal 97 = .ok (.aload_n 2, 1) := by decide +kernel
theorem dX11_seal_98 : decode cX11_seal 98 = .ok (.iload_n 3, 1) := by decide +kernel
theorem dX11_seal_99 : decode cX11_seal 99 = .ok (.iload 5, 2) := by decide +kernel
theorem dX11_seal_101 : decode cX11_seal 101 = .ok (.invokevirtual 404, 3) := by decide +kernel
theorem dX11_seal_104 : decode cX11_seal 104 = .ok (.iload 5, 2) := by decide +kernel
theorem dX11_seal_106 : decode cX11_seal 106 = .ok (.ireturn, 1) := by decide +kernel
theorem dX11_isRight_0 : decode cX11_isRight 0 = .ok (.iconst 1, 1) := by decide +kernel
theorem dX11_isRight_1 : decode cX11_isRight 1 = .ok (.istore_n 3, 1) := by decide +kernel
theorem dX11_isRight_2 : decode cX11_isRight 2 = .ok (.iconst 0, 1) := by decide +kernel
theorem dX11_isRight_3 : decode cX11_isRight 3 = .ok (.istore 4, 2) := by decide +kernel
theorem dX11_isRight_5 : decode cX11_isRight 5 = .ok (.iload 4, 2) := by decide +kernel
theorem dX11_isRight_7 : decode cX11_isRight 7 = .ok (.bipush 16, 2) := by decide +kernel
theorem dX11_isRight_9 : decode cX11_isRight 9 = .ok (.if_icmp .ge 35, 3) := by decide +kernel
theorem dX11_isRight_12 : decode cX11_isRight 12 = .ok (.iload_n 3, 1) := by decide +kernel
theorem dX11_isRight_13 : decode cX11_isRight 13 = .ok (.ifCond .eq 23, 3) := by decide +kernel
theorem dX11_isRight_16 : decode cX11_isRight 16 = .ok (.aload_n 1, 1) := by decide +kernel
theorem dX11_isRight_17 : decode cX11_isRight 17 = .ok (.iload_n 2, 1) := by decide +kernel
theorem dX11_isRight_18 : decode cX11_isRight 18 = .ok (.iload 4, 2) := by decide +kernel
theorem dX11_isRight_20 : decode cX11_isRight 20 = .ok (.iadd, 1) := by decide +kernel
theorem dX11_isRight_21 : decode cX11_isRight 21 = .ok (.iaload, 1) := by decide +kernel
theorem dX11_isRight_22 : decode cX11_isRight 22 = .ok (.aload_n 0, 1) := by decide +kernel
theorem dX11_isRight_23 : decode cX11_isRight 23 = .ok (.getfield 149, 3) := by decide +kernel
theorem dX11_isRight_26 : decode cX11_isRight 26 = .ok (.iload 4, 2) := by decide +kernel
theorem dX11_isRight_28 : decode cX11_isRight 28 = .ok (.iaload, 1) := by decide +kernel
theorem dX11_isRight_29 : decode cX11_isRight 29 = .ok (.if_icmp .ne 7, 3) := by decide +kernel
theorem dX11_isRight_32 : decode cX11_isRight 32 = .ok (.iconst 1, 1) := by decide +kernel
theorem dX11_isRight_33 : decode cX11_isRight 33 = .ok (.goto 4, 3) := by decide +kernel
theorem dX11_isRight_36 : decode cX11_isRight 36 = .ok (.iconst 0, 1) := by decide +kernel
theorem dX11_isRight_37 : decode cX11_isRight 37 = .ok (.istore_n 3, 1) := by decide +kernel
theorem dX11_isRight_38 : decode cX11_isRight 38 = .ok (.iinc 4 1, 3) := by decide +kernel
theorem dX11_isRight_41 : decode cX11_isRight 41 = .ok (.goto (-36), 3) := by decide +kernel
theorem dX11_isRight_44 : decode cX11_isRight 44 = .ok (.iload_n 3, 1) := by decide +kernel
theorem dX11_isRight_45 : decode cX11_isRight 45 = .ok (.ireturn, 1) := by decide +kernel
theorem dX11_open_0 : decode cX11_open 0 = .ok (.aload_n 0, 1) := by decide +kernel
theorem dX11_open_1 : decode cX11_open 1 = .ok (.getfield 201, 3) := by decide +kernel
theorem dX11_open_4 : decode cX11_open 4 = .ok (.iload_n 1, 1) := by decide +kernel
theorem dX11_open_5 : decode cX11_open 5 = .ok (.baload, 1) := by decide +kernel
theorem dX11_open_6 : decode cX11_open 6 = .ok (.ifCond .eq 11, 3) := by decide +kernel
theorem dX11_open_9 : decode cX11_open 9 = .ok (.iload 4, 2) := by decide +kernel
theorem dX11_open_11 : decode cX11_open 11 = .ok (.bipush 16, 2) := by decide +kernel
theorem dX11_open_13 : decode cX11_open 13 = .ok (.isub, 1) := by decide +kernel
theorem dX11_open_14 : decode cX11_open 14 = .ok (.goto 5, 3) := by decide +kernel
theorem dX11_open_17 : decode cX11_open 17 = .ok (.iload 4, 2) := by decide +kernel
theorem dX11_open_19 : decode cX11_open 19 = .ok (.istore 6, 2) := by decide +kernel
theorem dX11_open_21 : decode cX11_open 21 = .ok (.aload_n 0, 1) := by decide +kernel
theorem dX11_open_22 : decode cX11_open 22 = .ok (.getfield 201, 3) := by decide +kernel
theorem dX11_open_25 : decode cX11_open 25 = .ok (.iload_n 1, 1) := by decide +kernel
theorem dX11_open_26 : decode cX11_open 26 = .ok (.baload, 1) := by decide +kernel
theorem dX11_open_27 : decode cX11_open 27 = .ok (.ifCond .eq 50, 3) := by decide +kernel
theorem dX11_open_30 : decode cX11_open 30 = .ok (.aload_n 0, 1) := by decide +kernel
theorem dX11_open_31 : decode cX11_open 31 = .ok (.aload_n 0, 1) := by decide +kernel
theorem dX11_open_32 : decode cX11_open 32 = .ok (.getfield 222, 3) := by decide +kernel
theorem dX11_open_35 : decode cX11_open 35 = .ok (.bipush 32, 2) := by decide +kernel
theorem dX11_open_37 : decode cX11_open 37 = .ok (.iload_n 1, 1) := by decide +kernel
theorem dX11_open_38 : decode cX11_open 38 = .ok (.imul, 1) := by decide +kernel
theorem dX11_open_39 : decode cX11_open 39 = .ok (.aload_n 0, 1) := by decide +kernel
theorem dX11_open_40 : decode cX11_open 40 = .ok (.getfield 204, 3) := by decide +kernel
theorem dX11_open_43 : decode cX11_open 43 = .ok (.iload_n 1, 1) := by decide +kernel
theorem dX11_open_44 : decode cX11_open 44 = .ok (.iaload, 1) := by decide +kernel
theorem dX11_open_45 : decode cX11_open 45 = .ok (.aload_n 0, 1) := by decide +kernel
theorem dX11_open_46 : decode cX11_open 46 = .ok (.getfield 219, 3) := by decide +kernel
theorem dX11_open_49 : decode cX11_open 49 = .ok (.bipush 32, 2) := by decide +kernel
theorem dX11_open_51 : decode cX11_open 51 = .ok (.iload_n 1, 1) := by decide +kernel
theorem dX11_open_52 : decode cX11_open 52 = .ok (.imul, 1) := by decide +kernel
theorem dX11_open_53 : decode cX11_open 53 = .ok (.bipush 32, 2) := by decide +kernel
theorem dX11_open_55 : decode cX11_open 55 = .ok (.aload_n 2, 1) := by decide +kernel
theorem dX11_open_56 : decode cX11_open 56 = .ok (.iload_n 3, 1) := by decide +kernel
theorem dX11_open_57 : decode cX11_open 57 = .ok (.iload 6, 2) := by decide +kernel
theorem dX11_open_59 : decode cX11_open 59 = .ok (.invokevirtual 425, 3) := by decide +kernel
theorem dX11_open_62 : decode cX11_open 62 = .ok (.aload_n 0, 1) := by decide +kernel
theorem dX11_open_63 : decode cX11_open 63 = .ok (.aload_n 2, 1) := by decide +kernel
theorem dX11_open_64 : decode cX11_open 64 = .ok (.iload_n 3, 1) := by decide +kernel
theorem dX11_open_65 : decode cX11_open 65 = .ok (.iload 6, 2) := by decide +kernel
theorem dX11_open_67 : decode cX11_open 67 = .ok (.iadd, 1) := by decide +kernel
theorem dX11_open_68 : decode cX11_open 68 = .ok (.invokevirtual 429, 3) := by decide +kernel
theorem dX11_open_71 : decode cX11_open 71 = .ok (.ifCond .ne 6, 3) := by decide +kernel
theorem dX11_open_74 : decode cX11_open 74 = .ok (.bipush (-6), 2) := by decide +kernel
theorem dX11_open_76 : decode cX11_open 76 = .ok (.ireturn, 1) := by decide +kernel
theorem dX11_open_77 : decode cX11_open 77 = .ok (.aload_n 2, 1) := by decide +kernel
theorem dX11_open_78 : decode cX11_open 78 = .ok (.iload_n 3, 1) := by decide +kernel
theorem dX11_open_79 : decode cX11_open 79 = .ok (.aload 5, 2) := by decide +kernel
theorem dX11_open_81 : decode cX11_open 81 = .ok (.iconst 0, 1) := by decide +kernel
theorem dX11_open_82 : decode cX11_open 82 = .ok (.iload 6, 2) := by decide +kernel
theorem dX11_open_84 : decode cX11_open 84 = .ok (.invokestatic 270, 3) := by decide +kernel
theorem dX11_open_87 : decode cX11_open 87 = .ok (.aload_n 0, 1) := by decide +kernel
theorem dX11_open_88 : decode cX11_open 88 = .ok (.getfield 201, 3) := by decide +kernel
theorem dX11_open_91 : decode cX11_open 91 = .ok (.iload_n 1, 1) := by decide +kernel
theorem dX11_open_92 : decode cX11_open 92 = .ok (.baload, 1) := by decide +kernel
theorem dX11_open_93 : decode cX11_open 93 = .ok (.ifCond .eq 36, 3) := by decide +kernel
theorem dX11_open_96 : decode cX11_open 96 = .ok (.aload_n 0, 1) := by decide +kernel
theorem dX11_open_97 : decode cX11_open 97 = .ok (.aload_n 0, 1) := by decide +kernel
theorem dX11_open_98 : decode cX11_open 98 = .ok (.getfield 222, 3) := by decide +kernel
theorem dX11_open_101 : decode cX11_open 101 = .ok (.bipush 32, 2) := by decide +kernel
theorem dX11_open_103 : decode cX11_open 103 = .ok (.iload_n 1, 1) := by decide +kernel
theorem dX11_open_104 : decode cX11_open 104 = .ok (.imul, 1) := by decide +kernel
theorem dX11_open_105 : decode cX11_open 105 = .ok (.aload_n 0, 1) := by decide +kernel
theorem dX11_open_106 : decode cX11_open 106 = .ok (.getfield 204, 3) := by decide +kernel
theorem dX11_open_109 : decode cX11_open 109 = .ok (.iload_n 1, 1) := by decide +kernel
theorem dX11_open_110 : decode cX11_open 110 = .ok (.iaload, 1) := by decide +kernel
theorem dX11_open_111 : decode cX11_open 111 = .ok (.aload 5, 2) := by decide +kernel
theorem dX11_open_113 : decode cX11_open 113 = .ok (.iconst 0, 1) := by decide +kernel
theorem dX11_open_114 : decode cX11_open 114 = .ok (.iload 6, 2) := by decide +kernel
theorem dX11_open_116 : decode cX11_open 116 = .ok (.invokevirtual 421, 3) := by decide +kernel
theorem dX11_open_119 : decode cX11_open 119 = .ok (.aload_n 0, 1) := by decide +kernel
theorem dX11_open_120 : decode cX11_open 120 = .ok (.getfield 204, 3) := by decide +kernel
theorem dX11_open_123 : decode cX11_open 123 = .ok (.iload_n 1, 1) := by decide +kernel
theorem dX11_open_124 : decode cX11_open 124 = .ok (.dup2, 1) := by decide +kernel
theorem dX11_open_125 : decode cX11_open 125 = .ok (.iaload, 1) := by decide +kernel
theorem dX11_open_126 : decode cX11_open 126 = .ok (.iconst 1, 1) := by decide +kernel
theorem dX11_open_127 : decode cX11_open 127 = .ok (.iadd, 1) := by decide +kernel
theorem dX11_open_128 : decode cX11_open 128 = .ok (.iastore, 1) := by decide +kernel
theorem dX11_open_129 : decode cX11_open 129 = .ok (.aload_n 0, 1) := by decide +kernel
theorem dX11_open_130 : decode cX11_open 130 = .ok (.iload_n 1, 1) := by decide +kernel
theorem dX11_open_131 : decode cX11_open 131 = .ok (.aload_n 2, 1) := by decide +kernel
theorem dX11_open_132 : decode cX11_open 132 = .ok (.iload_n 3, 1) := by decide +kernel
theorem dX11_open_133 : decode cX11_open 133 = .ok (.iload 4, 2) := by decide +kernel
theorem dX11_open_135 : decode cX11_open 135 = .ok (.invokevirtual 404, 3) := by decide +kernel
theorem dX11_open_138 : decode cX11_open 138 = .ok (.iload 6, 2) := by decide +kernel
theorem dX11_open_140 : decode cX11_open 140 = .ok (.ireturn, 1) := by decide +kernel
theorem dX11_ends_0 : decode cX11_ends 0 = .ok (.aload_n 0, 1) := by decide +kernel
theorem dX11_ends_1 : decode cX11_ends 1 = .ok (.getfield 195, 3) := by decide +kernel
theorem dX11_ends_4 : decode cX11_ends 4 = .ok (.iload_n 1, 1) := by decide +kernel
theorem dX11_ends_5 : decode cX11_ends 5 = .ok (.dup2, 1) := by decide +kernel
theorem dX11_ends_6 : decode cX11_ends 6 = .ok (.iaload, 1) := by decide +kernel
theorem dX11_ends_7 : decode cX11_ends 7 = .ok (.iconst 1, 1) := by decide +kernel
theorem dX11_ends_8 : decode cX11_ends 8 = .ok (.iadd, 1) := by decide +kernel
theorem dX11_ends_9 : decode cX11_ends 9 = .ok (.iastore, 1) := by decide +kernel
theorem dX11_ends_10 : decode cX11_ends 10 = .ok (.aload_n 0, 1) := by decide +kernel
theorem dX11_ends_11 : decode cX11_ends 11 = .ok (.getfield 195, 3) := by decide +kernel
theorem dX11_ends_14 : decode cX11_ends 14 = .ok (.iload_n 1, 1) := by decide +kernel
theorem dX11_ends_15 : decode cX11_ends 15 = .ok (.iaload, 1) := by decide +kernel
theorem dX11_ends_16 : decode cX11_ends 16 = .ok (.aload_n 0, 1) := by decide +kernel
theorem dX11_ends_17 : decode cX11_ends 17 = .ok (.getfield 156, 3) := by decide +kernel
theorem dX11_ends_20 : decode cX11_ends 20 = .ok (.aload_n 0, 1) := by decide +kernel
theorem dX11_ends_21 : decode cX11_ends 21 = .ok (.getfield 177, 3) := by decide +kernel
theorem dX11_ends_24 : decode cX11_ends 24 = .ok (.iload_n 1, 1) := by decide +kernel
theorem dX11_ends_25 : decode cX11_ends 25 = .ok (.iaload, 1) := by decide +kernel
theorem dX11_ends_26 : decode cX11_ends 26 = .ok (.iaload, 1) := by decide +kernel
theorem dX11_ends_27 : decode cX11_ends 27 = .ok (.if_icmp .ne 121, 3) := by decide +kernel
theorem dX11_ends_30 : decode cX11_ends 30 = .ok (.aload_n 0, 1) := by decide +kernel
theorem dX11_ends_31 : decode cX11_ends 31 = .ok (.getfield 198, 3) := by decide +kernel
theorem dX11_ends_34 : decode cX11_ends 34 = .ok (.iload_n 1, 1) := by decide +kernel
theorem dX11_ends_35 : decode cX11_ends 35 = .ok (.iconst 1, 1) := by decide +kernel
theorem dX11_ends_36 : decode cX11_ends 36 = .ok (.bastore, 1) := by decide +kernel
theorem dX11_ends_37 : decode cX11_ends 37 = .ok (.aload_n 0, 1) := by decide +kernel
theorem dX11_ends_38 : decode cX11_ends 38 = .ok (.aload_n 0, 1) := by decide +kernel
theorem dX11_ends_39 : decode cX11_ends 39 = .ok (.getfield 216, 3) := by decide +kernel
theorem dX11_ends_42 : decode cX11_ends 42 = .ok (.bipush 32, 2) := by decide +kernel
theorem dX11_ends_44 : decode cX11_ends 44 = .ok (.iload_n 1, 1) := by decide +kernel
theorem dX11_ends_45 : decode cX11_ends 45 = .ok (.imul, 1) := by decide +kernel
theorem dX11_ends_46 : decode cX11_ends 46 = .ok (.aload_n 0, 1) := by decide +kernel
theorem dX11_ends_47 : decode cX11_ends 47 = .ok (.getfield 252, 3) := by decide +kernel
theorem dX11_ends_50 : decode cX11_ends 50 = .ok (.iconst 0, 1) := by decide +kernel
theorem dX11_ends_51 : decode cX11_ends 51 = .ok (.invokevirtual 390, 3) := by decide +kernel
theorem dX11_ends_54 : decode cX11_ends 54 = .ok (.aload_n 0, 1) := by decide +kernel
theorem dX11_ends_55 : decode cX11_ends 55 = .ok (.getfield 180, 3) := by decide +kernel
theorem dX11_ends_58 : decode cX11_ends 58 = .ok (.iload_n 1, 1) := by decide +kernel
theorem dX11_ends_59 : decode cX11_ends 59 = .ok (.iaload, 1) := by decide +kernel
theorem dX11_ends_60 : decode cX11_ends 60 = .ok (.ifCond .ne 7, 3) := by decide +kernel
theorem dX11_ends_63 : decode cX11_ends 63 = .ok (.iconst 1, 1) := by decide +kernel
theorem dX11_ends_64 : decode cX11_ends 64 = .ok (.goto 4, 3) := by decide +kernel
theorem dX11_ends_67 : decode cX11_ends 67 = .ok (.iconst 0, 1) := by decide +kernel
theorem dX11_ends_68 : decode cX11_ends 68 = .ok (.istore_n 2, 1) := by decide +kernel
theorem dX11_ends_69 : decode cX11_ends 69 = .ok (.iload_n 2, 1) := by decide +kernel
theorem dX11_ends_70 : decode cX11_ends 70 = .ok (.ifCond .eq 10, 3) := by decide +kernel
theorem dX11_ends_73 : decode cX11_ends 73 = .ok (.aload_n 0, 1) := by decide +kernel
theorem dX11_ends_74 : decode cX11_ends 74 = .ok (.getfield 103, 3) := by decide +kernel
theorem dX11_ends_77 : decode cX11_ends 77 = .ok (.goto 7, 3) := by decide +kernel
theorem dX11_ends_80 : decode cX11_ends 80 = .ok (.aload_n 0, 1) := by decide +kernel
theorem dX11_ends_81 : decode cX11_ends 81 = .ok (.getfield 106, 3) := by decide +kernel
theorem dX11_ends_84 : decode cX11_ends 84 = .ok (.iconst 0, 1) := by decide +kernel
theorem dX11_ends_85 : decode cX11_ends 85 = .ok (.aload_n 0, 1) := by decide +kernel
theorem dX11_ends_86 : decode cX11_ends 86 = .ok (.getfield 222, 3) := by decide +kernel
theorem dX11_ends_89 : decode cX11_ends 89 = .ok (.bipush 32, 2) := by decide +kernel
theorem dX11_ends_91 : decode cX11_ends 91 = .ok (.iload_n 1, 1) := by decide +kernel
theorem dX11_ends_92 : decode cX11_ends 92 = .ok (.imul, 1) := by decide +kernel
theorem dX11_ends_93 : decode cX11_ends 93 = .ok (.bipush 32, 2) := by decide +kernel
theorem dX11_ends_95 : decode cX11_ends 95 = .ok (.invokestatic 270, 3) := by decide +kernel
theorem dX11_ends_98 : decode cX11_ends 98 = .ok (.iload_n 2, 1) := by decide +kernel
theorem dX11_ends_99 : decode cX11_ends 99 = .ok (.ifCond .eq 10, 3) := by decide +kernel
theorem dX11_ends_102 : decode cX11_ends 102 = .ok (.aload_n 0, 1) := by decide +kernel
theorem dX11_ends_103 : decode cX11_ends 103 = .ok (.getfield 106, 3) := by decide +kernel
theorem dX11_ends_106 : decode cX11_ends 106 = .ok (.goto 7, 3) := by decide +kernel
theorem dX11_ends_109 : decode cX11_ends 109 = .ok (.aload_n 0, 1) := by decide +kernel
theorem dX11_ends_110 : decode cX11_ends 110 = .ok (.getfield 103, 3) := by decide +kernel
theorem dX11_ends_113 : decode cX11_ends 113 = .ok (.iconst 0, 1) := by decide +kernel
theorem dX11_ends_114 : decode cX11_ends 114 = .ok (.aload_n 0, 1) := by decide +kernel
theorem dX11_ends_115 : decode cX11_ends 115 = .ok (.getfield 225, 3) := by decide +kernel
theorem dX11_ends_118 : decode cX11_ends 118 = .ok (.bipush 32, 2) := by decide +kernel
theorem dX11_ends_120 : decode cX11_ends 120 = .ok (.iload_n 1, 1) := by decide +kernel
theorem dX11_ends_121 : decode cX11_ends 121 = .ok (.imul, 1) := by decide +kernel
theorem dX11_ends_122 : decode cX11_ends 122 = .ok (.bipush 32, 2) := by decide +kernel
theorem dX11_ends_124 : decode cX11_ends 124 = .ok (.invokestatic 270, 3) := by decide +kernel
theorem dX11_ends_127 : decode cX11_ends 127 = .ok (.aload_n 0, 1) := by decide +kernel
theorem dX11_ends_128 : decode cX11_ends 128 = .ok (.getfield 201, 3) := by decide +kernel
theorem dX11_ends_131 : decode cX11_ends 131 = .ok (.iload_n 1, 1) := by decide +kernel
theorem dX11_ends_132 : decode cX11_ends 132 = .ok (.iconst 1, 1) := by decide +kernel
theorem dX11_ends_133 : decode cX11_ends 133 = .ok (.bastore, 1) := by decide +kernel
theorem dX11_ends_134 : decode cX11_ends 134 = .ok (.aload_n 0, 1) := by decide +kernel
theorem dX11_ends_135 : decode cX11_ends 135 = .ok (.getfield 204, 3) := by decide +kernel
theorem dX11_ends_138 : decode cX11_ends 138 = .ok (.iload_n 1, 1) := by decide +kernel
theorem dX11_ends_139 : decode cX11_ends 139 = .ok (.iconst 0, 1) := by decide +kernel
theorem dX11_ends_140 : decode cX11_ends 140 = .ok (.iastore, 1) := by decide +kernel
theorem dX11_ends_141 : decode cX11_ends 141 = .ok (.aload_n 0, 1) := by decide +kernel
theorem dX11_ends_142 : decode cX11_ends 142 = .ok (.getfield 207, 3) := by decide +kernel
theorem dX11_ends_145 : decode cX11_ends 145 = .ok (.iload_n 1, 1) := by decide +kernel
theorem dX11_ends_146 : decode cX11_ends 146 = .ok (.iconst 0, 1) := by decide +kernel
theorem dX11_ends_147 : decode cX11_ends 147 = .ok (.iastore, 1) := by decide +kernel
theorem dX11_ends_148 : decode cX11_ends 148 = .ok (.return_, 1) := by decide +kernel
theorem dX11_writesToken_0 : decode cX11_writesToken 0 = .ok (.iload_n 2, 1) := by decide +kernel
theorem dX11_writesToken_1 : decode cX11_writesToken 1 = .ok (.ifCond .ne 73, 3) := by decide +kernel
theorem dX11_writesToken_4 : decode cX11_writesToken 4 = .ok (.aload_n 0, 1) := by decide +kernel
theorem dX11_writesToken_5 : decode cX11_writesToken 5 = .ok (.aload_n 0, 1) := by decide +kernel
theorem dX11_writesToken_6 : decode cX11_writesToken 6 = .ok (.getfield 189, 3) := by decide +kernel
theorem dX11_writesToken_9 : decode cX11_writesToken 9 = .ok (.iload_n 1, 1) := by decide +kernel
theorem dX11_writesToken_10 : decode cX11_writesToken 10 = .ok (.iaload, 1) := by decide +kernel
theorem dX11_writesToken_11 : decode cX11_writesToken 11 = .ok (.aload_n 0, 1) := by decide +kernel
theorem dX11_writesToken_12 : decode cX11_writesToken 12 = .ok (.getfield 192, 3) := by decide +kernel
theorem dX11_writesToken_15 : decode cX11_writesToken 15 = .ok (.iload_n 1, 1) := by decide +kernel
theorem dX11_writesToken_16 : decode cX11_writesToken 16 = .ok (.iaload, 1) := by decide +kernel
theorem dX11_writesToken_17 : decode cX11_writesToken 17 = .ok (.iconst 1, 1) := by decide +kernel
theorem dX11_writesToken_18 : decode cX11_writesToken 18 = .ok (.iadd, 1) := by decide +kernel
theorem dX11_writesToken_19 : decode cX11_writesToken 19 = .ok (.aload_n 0, 1) := by decide +kernel
theorem dX11_writesToken_20 : decode cX11_writesToken 20 = .ok (.getfield 231, 3) := by decide +kernel
theorem dX11_writesToken_23 : decode cX11_writesToken 23 = .ok (.bipush 32, 2) := by decide +kernel
theorem dX11_writesToken_25 : decode cX11_writesToken 25 = .ok (.iload_n 1, 1) := by decide +kernel
theorem dX11_writesToken_26 : decode cX11_writesToken 26 = .ok (.imul, 1) := by decide +kernel
theorem dX11_writesToken_27 : decode cX11_writesToken 27 = .ok (.invokevirtual 394, 3) := by decide +kernel
theorem dX11_writesToken_30 : decode cX11_writesToken 30 = .ok (.aload_n 0, 1) := by decide +kernel
theorem dX11_writesToken_31 : decode cX11_writesToken 31 = .ok (.getfield 192, 3) := by decide +kernel
theorem dX11_writesToken_34 : decode cX11_writesToken 34 = .ok (.iload_n 1, 1) := by decide +kernel
theorem dX11_writesToken_35 : decode cX11_writesToken 35 = .ok (.dup2, 1) := by decide +kernel
theorem dX11_writesToken_36 : decode cX11_writesToken 36 = .ok (.iaload, 1) := by decide +kernel
theorem dX11_writesToken_37 : decode cX11_writesToken 37 = .ok (.iconst 1, 1) := by decide +kernel
theorem dX11_writesToken_38 : decode cX11_writesToken 38 = .ok (.iadd, 1) := by decide +kernel
theorem dX11_writesToken_39 : decode cX11_writesToken 39 = .ok (.iastore, 1) := by decide +kernel
theorem dX11_writesToken_40 : decode cX11_writesToken 40 = .ok (.aload_n 0, 1) := by decide +kernel
theorem dX11_writesToken_41 : decode cX11_writesToken 41 = .ok (.aload_n 0, 1) := by decide +kernel
theorem dX11_writesToken_42 : decode cX11_writesToken 42 = .ok (.getfield 231, 3) := by decide +kernel
theorem dX11_writesToken_45 : decode cX11_writesToken 45 = .ok (.bipush 32, 2) := by decide +kernel
theorem dX11_writesToken_47 : decode cX11_writesToken 47 = .ok (.iload_n 1, 1) := by decide +kernel
theorem dX11_writesToken_48 : decode cX11_writesToken 48 = .ok (.imul, 1) := by decide +kernel
theorem dX11_writesToken_49 : decode cX11_writesToken 49 = .ok (.aload_n 0, 1) := by decide +kernel
theorem dX11_writesToken_50 : decode cX11_writesToken 50 = .ok (.getfield 243, 3) := by decide +kernel
theorem dX11_writesToken_53 : decode cX11_writesToken 53 = .ok (.iload_n 3, 1) := by decide +kernel
theorem dX11_writesToken_54 : decode cX11_writesToken 54 = .ok (.invokevirtual 398, 3) := by decide +kernel
theorem dX11_writesToken_57 : decode cX11_writesToken 57 = .ok (.aload_n 0, 1) := by decide +kernel
theorem dX11_writesToken_58 : decode cX11_writesToken 58 = .ok (.iload_n 1, 1) := by decide +kernel
theorem dX11_writesToken_59 : decode cX11_writesToken 59 = .ok (.aload_n 0, 1) := by decide +kernel
theorem dX11_writesToken_60 : decode cX11_writesToken 60 = .ok (.getfield 243, 3) := by decide +kernel
theorem dX11_writesToken_63 : decode cX11_writesToken 63 = .ok (.iload_n 3, 1) := by decide +kernel
theorem dX11_writesToken_64 : decode cX11_writesToken 64 = .ok (.bipush 32, 2) := by decide +kernel
theorem dX11_writesToken_66 : decode cX11_writesToken 66 = .ok (.invokevirtual 404, 3) := by decide +kernel
theorem dX11_writesToken_69 : decode cX11_writesToken 69 = .ok (.iload_n 3, 1) := by decide +kernel
theorem dX11_writesToken_70 : decode cX11_writesToken 70 = .ok (.bipush 32, 2) := by decide +kernel
theorem dX11_writesToken_72 : decode cX11_writesToken 72 = .ok (.iadd, 1) := by decide +kernel
theorem dX11_writesToken_73 : decode cX11_writesToken 73 = .ok (.ireturn, 1) := by decide +kernel
theorem dX11_writesToken_74 : decode cX11_writesToken 74 = .ok (.iload_n 2, 1) := by decide +kernel
theorem dX11_writesToken_75 : decode cX11_writesToken 75 = .ok (.iconst 1, 1) := by decide +kernel
theorem dX11_writesToken_76 : decode cX11_writesToken 76 = .ok (.if_icmp .ne 35, 3) := by decide +kernel
theorem dX11_writesToken_79 : decode cX11_writesToken 79 = .ok (.aload_n 0, 1) := by decide +kernel
theorem dX11_writesToken_80 : decode cX11_writesToken 80 = .ok (.aload_n 0, 1) := by decide +kernel
theorem dX11_writesToken_81 : decode cX11_writesToken 81 = .ok (.getfield 228, 3) := by decide +kernel
theorem dX11_writesToken_84 : decode cX11_writesToken 84 = .ok (.bipush 32, 2) := by decide +kernel
theorem dX11_writesToken_86 : decode cX11_writesToken 86 = .ok (.iload_n 1, 1) := by decide +kernel
theorem dX11_writesToken_87 : decode cX11_writesToken 87 = .ok (.imul, 1) := by decide +kernel
theorem dX11_writesToken_88 : decode cX11_writesToken 88 = .ok (.aload_n 0, 1) := by decide +kernel
theorem dX11_writesToken_89 : decode cX11_writesToken 89 = .ok (.getfield 243, 3) := by decide +kernel
theorem dX11_writesToken_92 : decode cX11_writesToken 92 = .ok (.iload_n 3, 1) := by decide +kernel
theorem dX11_writesToken_93 : decode cX11_writesToken 93 = .ok (.invokevirtual 398, 3) := by decide +kernel
theorem dX11_writesToken_96 : decode cX11_writesToken 96 = .ok (.iload_n 3, 1) := by decide +kernel
theorem dX11_writesToken_97 : decode cX11_writesToken 97 = .ok (.aload_n 0, 1) := by decide +kernel
theorem dX11_writesToken_98 : decode cX11_writesToken 98 = .ok (.iload_n 1, 1) := by decide +kernel
theorem dX11_writesToken_99 : decode cX11_writesToken 99 = .ok (.aload_n 0, 1) := by decide +kernel
theorem dX11_writesToken_100 : decode cX11_writesToken 100 = .ok (.getfield 243, 3) := by decide +kernel
theorem dX11_writesToken_103 : decode cX11_writesToken 103 = .ok (.iload_n 3, 1) := by decide +kernel
theorem dX11_writesToken_104 : decode cX11_writesToken 104 = .ok (.bipush 32, 2) := by decide +kernel
theorem dX11_writesToken_106 : decode cX11_writesToken 106 = .ok (.invokevirtual 433, 3) := by decide +kernel
theorem dX11_writesToken_109 : decode cX11_writesToken 109 = .ok (.iadd, 1) := by decide +kernel
theorem dX11_writesToken_110 : decode cX11_writesToken 110 = .ok (.ireturn, 1) := by decide +kernel
theorem dX11_writesToken_111 : decode cX11_writesToken 111 = .ok (.aload_n 0, 1) := by decide +kernel
theorem dX11_writesToken_112 : decode cX11_writesToken 112 = .ok (.iload_n 1, 1) := by decide +kernel
theorem dX11_writesToken_113 : decode cX11_writesToken 113 = .ok (.iload_n 2, 1) := by decide +kernel
theorem dX11_writesToken_114 : decode cX11_writesToken 114 = .ok (.invokevirtual 437, 3) := by decide +kernel
theorem dX11_writesToken_117 : decode cX11_writesToken 117 = .ok (.aload_n 0, 1) := by decide +kernel
theorem dX11_writesToken_118 : decode cX11_writesToken 118 = .ok (.iload_n 1, 1) := by decide +kernel
theorem dX11_writesToken_119 : decode cX11_writesToken 119 = .ok (.invokevirtual 440, 3) := by decide +kernel
theorem dX11_writesToken_122 : decode cX11_writesToken 122 = .ok (.iload_n 3, 1) := by decide +kernel
theorem dX11_writesToken_123 : decode cX11_writesToken 123 = .ok (.ireturn, 1) := by decide +kernel
theorem dX11_write_0 : decode cX11_write 0 = .ok (.aload_n 0, 1) := by decide +kernel
theorem dX11_write_1 : decode cX11_write 1 = .ok (.iload_n 1, 1) := by decide +kernel
theorem dX11_write_2 : decode cX11_write 2 = .ok (.invokevirtual 415, 3) := by decide +kernel
theorem dX11_write_5 : decode cX11_write 5 = .ok (.ifCond .ne 6, 3) := by decide +kernel
theorem dX11_write_8 : decode cX11_write 8 = .ok (.bipush (-2), 2) := by decide +kernel
theorem dX11_write_10 : decode cX11_write 10 = .ok (.ireturn, 1) := by decide +kernel
theorem dX11_write_11 : decode cX11_write 11 = .ok (.aload_n 0, 1) := by decide +kernel
theorem dX11_write_12 : decode cX11_write 12 = .ok (.getfield 198, 3) := by decide +kernel
theorem dX11_write_15 : decode cX11_write 15 = .ok (.iload_n 1, 1) := by decide +kernel
theorem dX11_write_16 : decode cX11_write 16 = .ok (.baload, 1) := by decide +kernel
theorem dX11_write_17 : decode cX11_write 17 = .ok (.ifCond .ne 23, 3) := by decide +kernel
theorem dX11_write_20 : decode cX11_write 20 = .ok (.aload_n 0, 1) := by decide +kernel
theorem dX11_write_21 : decode cX11_write 21 = .ok (.getfield 195, 3) := by decide +kernel
theorem dX11_write_24 : decode cX11_write 24 = .ok (.iload_n 1, 1) := by decide +kernel
theorem dX11_write_25 : decode cX11_write 25 = .ok (.iaload, 1) := by decide +kernel
theorem dX11_write_26 : decode cX11_write 26 = .ok (.iconst 2, 1) := by decide +kernel
theorem dX11_write_27 : decode cX11_write 27 = .ok (.irem, 1) := by decide +kernel
theorem dX11_write_28 : decode cX11_write 28 = .ok (.aload_n 0, 1) := by decide +kernel
theorem dX11_write_29 : decode cX11_write 29 = .ok (.getfield 180, 3) := by decide +kernel
theorem dX11_write_32 : decode cX11_write 32 = .ok (.iload_n 1, 1) := by decide +kernel
theorem dX11_write_33 : decode cX11_write 33 = .ok (.iaload, 1) := by decide +kernel
theorem dX11_write_34 : decode cX11_write 34 = .ok (.if_icmp .eq 6, 3) := by decide +kernel
theorem dX11_write_37 : decode cX11_write 37 = .ok (.bipush (-3), 2) := by decide +kernel
theorem dX11_write_39 : decode cX11_write 39 = .ok (.ireturn, 1) := by decide +kernel
theorem dX11_write_40 : decode cX11_write 40 = .ok (.iconst 0, 1) := by decide +kernel
theorem dX11_write_41 : decode cX11_write 41 = .ok (.istore_n 2, 1) := by decide +kernel
theorem dX11_write_42 : decode cX11_write 42 = .ok (.aload_n 0, 1) := by decide +kernel
theorem dX11_write_43 : decode cX11_write 43 = .ok (.getfield 198, 3) := by decide +kernel
theorem dX11_write_46 : decode cX11_write 46 = .ok (.iload_n 1, 1) := by decide +kernel
theorem dX11_write_47 : decode cX11_write 47 = .ok (.baload, 1) := by decide +kernel
theorem dX11_write_48 : decode cX11_write 48 = .ok (.ifCond .eq 119, 3) := by decide +kernel
theorem dX11_write_51 : decode cX11_write 51 = .ok (.aload_n 0, 1) := by decide +kernel
theorem dX11_write_52 : decode cX11_write 52 = .ok (.getfield 240, 3) := by decide +kernel
theorem dX11_write_55 : decode cX11_write 55 = .ok (.iconst 0, 1) := by decide +kernel
theorem dX11_write_56 : decode cX11_write 56 = .ok (.aload_n 0, 1) := by decide +kernel
theorem dX11_write_57 : decode cX11_write 57 = .ok (.getfield 243, 3) := by decide +kernel
theorem dX11_write_60 : decode cX11_write 60 = .ok (.iconst 0, 1) := by decide +kernel
theorem dX11_write_61 : decode cX11_write 61 = .ok (.aload_n 0, 1) := by decide +kernel
theorem dX11_write_62 : decode cX11_write 62 = .ok (.getfield 418, 3) := by decide +kernel
theorem dX11_write_65 : decode cX11_write 65 = .ok (.invokestatic 270, 3) := by decide +kernel
theorem dX11_write_68 : decode cX11_write 68 = .ok (.aload_n 0, 1) := by decide +kernel

theorem dX9_take_130 : decode cX9_take 130 = .ok (.getfield 185, 3) := by decide +kernel
theorem dX9_take_133 : decode cX9_take 133 = .ok (.aload_n 0, 1) := by decide +kernel
theorem dX9_take_134 : decode cX9_take 134 = .ok (.getfield 42, 3) := by decide +kernel
theorem dX9_take_137 : decode cX9_take 137 = .ok (.getfield 126, 3) := by decide +kernel
theorem dX9_take_140 : decode cX9_take 140 = .ok (.invokestatic 122, 3) := by decide +kernel
theorem dX9_take_143 : decode cX9_take 143 = .ok (.aload_n 0, 1) := by decide +kernel
theorem dX9_take_144 : decode cX9_take 144 = .ok (.getfield 42, 3) := by decide +kernel
theorem dX9_take_147 : decode cX9_take 147 = .ok (.iconst 1, 1) := by decide +kernel
theorem dX9_take_148 : decode cX9_take 148 = .ok (.putfield 129, 3) := by decide +kernel
theorem dX9_take_151 : decode cX9_take 151 = .ok (.iload 8, 2) := by decide +kernel
theorem dX9_take_153 : decode cX9_take 153 = .ok (.istore 4, 2) := by decide +kernel
theorem dX9_take_155 : decode cX9_take 155 = .ok (.goto 14, 3) := by decide +kernel
theorem dX9_take_158 : decode cX9_take 158 = .ok (.aload_n 0, 1) := by decide +kernel
theorem dX9_take_159 : decode cX9_take 159 = .ok (.aload_n 1, 1) := by decide +kernel
theorem dX9_take_160 : decode cX9_take 160 = .ok (.aload_n 0, 1) := by decide +kernel
theorem dX9_take_161 : decode cX9_take 161 = .ok (.getfield 42, 3) := by decide +kernel
theorem dX9_take_164 : decode cX9_take 164 = .ok (.iload 7, 2) := by decide +kernel
theorem dX9_take_166 : decode cX9_take 166 = .ok (.invokevirtual 181, 3) := by decide +kernel
theorem dX9_take_169 : decode cX9_take 169 = .ok (.iinc 6 1, 3) := by decide +kernel
theorem dX9_take_172 : decode cX9_take 172 = .ok (.goto (-139), 3) := by decide +kernel
theorem dX9_take_175 : decode cX9_take 175 = .ok (.aload_n 0, 1) := by decide +kernel
theorem dX9_take_176 : decode cX9_take 176 = .ok (.aload_n 0, 1) := by decide +kernel
theorem dX9_take_177 : decode cX9_take 177 = .ok (.getfield 42, 3) := by decide +kernel
theorem dX9_take_180 : decode cX9_take 180 = .ok (.aload_n 2, 1) := by decide +kernel
theorem dX9_take_181 : decode cX9_take 181 = .ok (.iload 4, 2) := by decide +kernel
theorem dX9_take_183 : decode cX9_take 183 = .ok (.aload_n 2, 1) := by decide +kernel
theorem dX9_take_184 : decode cX9_take 184 = .ok (.getfield 162, 3) := by decide +kernel
theorem dX9_take_187 : decode cX9_take 187 = .ok (.aload_n 3, 1) := by decide +kernel
theorem dX9_take_188 : decode cX9_take 188 = .ok (.invokevirtual 200, 3) := by decide +kernel
theorem dX9_take_191 : decode cX9_take 191 = .ok (.ifCond .ne 5, 3) := by decide +kernel
theorem dX9_take_194 : decode cX9_take 194 = .ok (.iconst 0, 1) := by decide +kernel
theorem dX9_take_195 : decode cX9_take 195 = .ok (.ireturn, 1) := by decide +kernel
theorem dX9_take_196 : decode cX9_take 196 = .ok (.aload_n 0, 1) := by decide +kernel
theorem dX9_take_197 : decode cX9_take 197 = .ok (.aload_n 1, 1) := by decide +kernel
theorem dX9_take_198 : decode cX9_take 198 = .ok (.aload_n 0, 1) := by decide +kernel
theorem dX9_take_199 : decode cX9_take 199 = .ok (.getfield 42, 3) := by decide +kernel
theorem dX9_take_202 : decode cX9_take 202 = .ok (.invokevirtual 188, 3) := by decide +kernel
theorem dX9_take_205 : decode cX9_take 205 = .ok (.aload_n 1, 1) := by decide +kernel
theorem dX9_take_206 : decode cX9_take 206 = .ok (.getfield 101, 3) := by decide +kernel
theorem dX9_take_209 : decode cX9_take 209 = .ok (.aload_n 0, 1) := by decide +kernel
theorem dX9_take_210 : decode cX9_take 210 = .ok (.getfield 42, 3) := by decide +kernel
theorem dX9_take_213 : decode cX9_take 213 = .ok (.invokevirtual 192, 3) := by decide +kernel
theorem dX9_take_216 : decode cX9_take 216 = .ok (.iconst 1, 1) := by decide +kernel
theorem dX9_take_217 : decode cX9_take 217 = .ok (.ireturn, 1) := by decide +kernel
theorem dX9_sendDone_0 : decode cX9_sendDone 0 = .ok (.aload_n 3, 1) := by decide +kernel
theorem dX9_sendDone_1 : decode cX9_sendDone 1 = .ok (.iconst 0, 1) := by decide +kernel
theorem dX9_sendDone_2 : decode cX9_sendDone 2 = .ok (.putfield 162, 3) := by decide +kernel
theorem dX9_sendDone_5 : decode cX9_sendDone 5 = .ok (.aload_n 3, 1) := by decide +kernel
theorem dX9_sendDone_6 : decode cX9_sendDone 6 = .ok (.aload_n 2, 1) := by decide +kernel
theorem dX9_sendDone_7 : decode cX9_sendDone 7 = .ok (.getfield 185, 3) := by decide +kernel
theorem dX9_sendDone_10 : decode cX9_sendDone 10 = .ok (.iconst 0, 1) := by decide +kernel
theorem dX9_sendDone_11 : decode cX9_sendDone 11 = .ok (.aload_n 2, 1) := by decide +kernel
theorem dX9_sendDone_12 : decode cX9_sendDone 12 = .ok (.getfield 162, 3) := by decide +kernel
theorem dX9_sendDone_15 : decode cX9_sendDone 15 = .ok (.invokevirtual 204, 3) := by decide +kernel
theorem dX9_sendDone_18 : decode cX9_sendDone 18 = .ok (.aload_n 0, 1) := by decide +kernel
theorem dX9_sendDone_19 : decode cX9_sendDone 19 = .ok (.getfield 35, 3) := by decide +kernel
theorem dX9_sendDone_22 : decode cX9_sendDone 22 = .ok (.aload_n 1, 1) := by decide +kernel
theorem dX9_sendDone_23 : decode cX9_sendDone 23 = .ok (.getfield 208, 3) := by decide +kernel
theorem dX9_sendDone_26 : decode cX9_sendDone 26 = .ok (.aload_n 1, 1) := by decide +kernel
theorem dX9_sendDone_27 : decode cX9_sendDone 27 = .ok (.getfield 138, 3) := by decide +kernel
theorem dX9_sendDone_30 : decode cX9_sendDone 30 = .ok (.getstatic 211, 3) := by decide +kernel
theorem dX9_sendDone_33 : decode cX9_sendDone 33 = .ok (.aload_n 3, 1) := by decide +kernel
theorem dX9_sendDone_34 : decode cX9_sendDone 34 = .ok (.iconst 0, 1) := by decide +kernel
theorem dX9_sendDone_35 : decode cX9_sendDone 35 = .ok (.invokevirtual 214, 3) := by decide +kernel
theorem dX9_sendDone_38 : decode cX9_sendDone 38 = .ok (.aload_n 1, 1) := by decide +kernel
theorem dX9_sendDone_39 : decode cX9_sendDone 39 = .ok (.dup, 1) := by decide +kernel
theorem dX9_sendDone_40 : decode cX9_sendDone 40 = .ok (.getfield 138, 3) := by decide +kernel
theorem dX9_sendDone_43 : decode cX9_sendDone 43 = .ok (.iconst 1, 1) := by decide +kernel
theorem dX9_sendDone_44 : decode cX9_sendDone 44 = .ok (.iadd, 1) := by decide +kernel
theorem dX9_sendDone_45 : decode cX9_sendDone 45 = .ok (.putfield 138, 3) := by decide +kernel
theorem dX9_sendDone_48 : decode cX9_sendDone 48 = .ok (.return_, 1) := by decide +kernel
theorem dX9_takeDone_0 : decode cX9_takeDone 0 = .ok (.aload_n 2, 1) := by decide +kernel
theorem dX9_takeDone_1 : decode cX9_takeDone 1 = .ok (.getfield 162, 3) := by decide +kernel
theorem dX9_takeDone_4 : decode cX9_takeDone 4 = .ok (.bipush 16, 2) := by decide +kernel
theorem dX9_takeDone_6 : decode cX9_takeDone 6 = .ok (.isub, 1) := by decide +kernel
theorem dX9_takeDone_7 : decode cX9_takeDone 7 = .ok (.istore 4, 2) := by decide +kernel
theorem dX9_takeDone_9 : decode cX9_takeDone 9 = .ok (.aload_n 0, 1) := by decide +kernel
theorem dX9_takeDone_10 : decode cX9_takeDone 10 = .ok (.getfield 35, 3) := by decide +kernel
theorem dX9_takeDone_13 : decode cX9_takeDone 13 = .ok (.aload_n 1, 1) := by decide +kernel
theorem dX9_takeDone_14 : decode cX9_takeDone 14 = .ok (.getfield 217, 3) := by decide +kernel
theorem dX9_takeDone_17 : decode cX9_takeDone 17 = .ok (.aload_n 1, 1) := by decide +kernel
theorem dX9_takeDone_18 : decode cX9_takeDone 18 = .ok (.getfield 220, 3) := by decide +kernel
theorem dX9_takeDone_21 : decode cX9_takeDone 21 = .ok (.getstatic 211, 3) := by decide +kernel
theorem dX9_takeDone_24 : decode cX9_takeDone 24 = .ok (.aload_n 2, 1) := by decide +kernel
theorem dX9_takeDone_25 : decode cX9_takeDone 25 = .ok (.iconst 0, 1) := by decide +kernel
theorem dX9_takeDone_26 : decode cX9_takeDone 26 = .ok (.iload 4, 2) := by decide +kernel
theorem dX9_takeDone_28 : decode cX9_takeDone 28 = .ok (.aload_n 3, 1) := by decide +kernel
theorem dX9_takeDone_29 : decode cX9_takeDone 29 = .ok (.invokevirtual 223, 3) := by decide +kernel
theorem dX9_takeDone_32 : decode cX9_takeDone 32 = .ok (.ifCond .ne 5, 3) := by decide +kernel
theorem dX9_takeDone_35 : decode cX9_takeDone 35 = .ok (.iconst 0, 1) := by decide +kernel
theorem dX9_takeDone_36 : decode cX9_takeDone 36 = .ok (.ireturn, 1) := by decide +kernel
theorem dX9_takeDone_37 : decode cX9_takeDone 37 = .ok (.aload_n 1, 1) := by decide +kernel
theorem dX9_takeDone_38 : decode cX9_takeDone 38 = .ok (.dup, 1) := by decide +kernel
theorem dX9_takeDone_39 : decode cX9_takeDone 39 = .ok (.getfield 220, 3) := by decide +kernel
theorem dX9_takeDone_42 : decode cX9_takeDone 42 = .ok (.iconst 1, 1) := by decide +kernel
theorem dX9_takeDone_43 : decode cX9_takeDone 43 = .ok (.iadd, 1) := by decide +kernel
theorem dX9_takeDone_44 : decode cX9_takeDone 44 = .ok (.putfield 220, 3) := by decide +kernel
theorem dX9_takeDone_47 : decode cX9_takeDone 47 = .ok (.iconst 1, 1) := by decide +kernel
theorem dX9_takeDone_48 : decode cX9_takeDone 48 = .ok (.ireturn, 1) := by decide +kernel
theorem dX9_sendE_0 : decode cX9_sendE 0 = .ok (.aload_n 1, 1) := by decide +kernel
theorem dX9_sendE_1 : decode cX9_sendE 1 = .ok (.getfield 101, 3) := by decide +kernel
theorem dX9_sendE_4 : decode cX9_sendE 4 = .ok (.astore_n 3, 1) := by decide +kernel
theorem dX9_sendE_5 : decode cX9_sendE 5 = .ok (.aload_n 3, 1) := by decide +kernel
theorem dX9_sendE_6 : decode cX9_sendE 6 = .ok (.dup, 1) := by decide +kernel
theorem dX9_sendE_7 : decode cX9_sendE 7 = .ok (.getfield 226, 3) := by decide +kernel
theorem dX9_sendE_10 : decode cX9_sendE 10 = .ok (.iconst 1, 1) := by decide +kernel
theorem dX9_sendE_11 : decode cX9_sendE 11 = .ok (.iadd, 1) := by decide +kernel
theorem dX9_sendE_12 : decode cX9_sendE 12 = .ok (.putfield 226, 3) := by decide +kernel
theorem dX9_sendE_15 : decode cX9_sendE 15 = .ok (.aload_n 0, 1) := by decide +kernel
theorem dX9_sendE_16 : decode cX9_sendE 16 = .ok (.aload_n 1, 1) := by decide +kernel
theorem dX9_sendE_17 : decode cX9_sendE 17 = .ok (.getfield 229, 3) := by decide +kernel
theorem dX9_sendE_20 : decode cX9_sendE 20 = .ok (.aload_n 3, 1) := by decide +kernel
theorem dX9_sendE_21 : decode cX9_sendE 21 = .ok (.getfield 226, 3) := by decide +kernel
theorem dX9_sendE_24 : decode cX9_sendE 24 = .ok (.aload_n 3, 1) := by decide +kernel
theorem dX9_sendE_25 : decode cX9_sendE 25 = .ok (.getfield 232, 3) := by decide +kernel
theorem dX9_sendE_28 : decode cX9_sendE 28 = .ok (.invokevirtual 72, 3) := by decide +kernel
theorem dX9_sendE_31 : decode cX9_sendE 31 = .ok (.aload_n 0, 1) := by decide +kernel
theorem dX9_sendE_32 : decode cX9_sendE 32 = .ok (.getfield 28, 3) := by decide +kernel
theorem dX9_sendE_35 : decode cX9_sendE 35 = .ok (.aload_n 3, 1) := by decide +kernel
theorem dX9_sendE_36 : decode cX9_sendE 36 = .ok (.getfield 232, 3) := by decide +kernel
theorem dX9_sendE_39 : decode cX9_sendE 39 = .ok (.getstatic 76, 3) := by decide +kernel
theorem dX9_sendE_42 : decode cX9_sendE 42 = .ok (.aload_n 0, 1) := by decide +kernel
theorem dX9_sendE_43 : decode cX9_sendE 43 = .ok (.getfield 50, 3) := by decide +kernel
theorem dX9_sendE_46 : decode cX9_sendE 46 = .ok (.invokevirtual 79, 3) := by decide +kernel
theorem dX9_sendE_49 : decode cX9_sendE 49 = .ok (.aload_n 0, 1) := by decide +kernel
theorem dX9_sendE_50 : decode cX9_sendE 50 = .ok (.aload_n 3, 1) := by decide +kernel
theorem dX9_sendE_51 : decode cX9_sendE 51 = .ok (.aload_n 0, 1) := by decide +kernel
theorem dX9_sendE_52 : decode cX9_sendE 52 = .ok (.getfield 50, 3) := by decide +kernel
theorem dX9_sendE_55 : decode cX9_sendE 55 = .ok (.iconst 0, 1) := by decide +kernel
theorem dX9_sendE_56 : decode cX9_sendE 56 = .ok (.bipush 32, 2) := by decide +kernel
theorem dX9_sendE_58 : decode cX9_sendE 58 = .ok (.invokevirtual 158, 3) := by decide +kernel
theorem dX9_sendE_61 : decode cX9_sendE 61 = .ok (.aload_n 2, 1) := by decide +kernel
theorem dX9_sendE_62 : decode cX9_sendE 62 = .ok (.aload_n 0, 1) := by decide +kernel
theorem dX9_sendE_63 : decode cX9_sendE 63 = .ok (.getfield 50, 3) := by decide +kernel
theorem dX9_sendE_66 : decode cX9_sendE 66 = .ok (.iconst 0, 1) := by decide +kernel
theorem dX9_sendE_67 : decode cX9_sendE 67 = .ok (.bipush 32, 2) := by decide +kernel
theorem dX9_sendE_69 : decode cX9_sendE 69 = .ok (.invokevirtual 204, 3) := by decide +kernel
theorem dX9_sendE_72 : decode cX9_sendE 72 = .ok (.return_, 1) := by decide +kernel
theorem dX9_takeE_0 : decode cX9_takeE 0 = .ok (.aload_n 1, 1) := by decide +kernel
theorem dX9_takeE_1 : decode cX9_takeE 1 = .ok (.getfield 185, 3) := by decide +kernel
theorem dX9_takeE_4 : decode cX9_takeE 4 = .ok (.iload_n 2, 1) := by decide +kernel
theorem dX9_takeE_5 : decode cX9_takeE 5 = .ok (.aload_n 0, 1) := by decide +kernel
theorem dX9_takeE_6 : decode cX9_takeE 6 = .ok (.getfield 42, 3) := by decide +kernel
theorem dX9_takeE_9 : decode cX9_takeE 9 = .ok (.getfield 235, 3) := by decide +kernel
theorem dX9_takeE_12 : decode cX9_takeE 12 = .ok (.iconst 0, 1) := by decide +kernel
theorem dX9_takeE_13 : decode cX9_takeE 13 = .ok (.bipush 32, 2) := by decide +kernel
theorem dX9_takeE_15 : decode cX9_takeE 15 = .ok (.invokestatic 238, 3) := by decide +kernel
theorem dX9_takeE_18 : decode cX9_takeE 18 = .ok (.aload_n 0, 1) := by decide +kernel
theorem dX9_takeE_19 : decode cX9_takeE 19 = .ok (.getfield 42, 3) := by decide +kernel
theorem dX9_takeE_22 : decode cX9_takeE 22 = .ok (.iconst 1, 1) := by decide +kernel
theorem dX9_takeE_23 : decode cX9_takeE 23 = .ok (.putfield 132, 3) := by decide +kernel
theorem dX9_takeE_26 : decode cX9_takeE 26 = .ok (.aload_n 0, 1) := by decide +kernel
theorem dX9_takeE_27 : decode cX9_takeE 27 = .ok (.aload_n 0, 1) := by decide +kernel
theorem dX9_takeE_28 : decode cX9_takeE 28 = .ok (.getfield 42, 3) := by decide +kernel
theorem dX9_takeE_31 : decode cX9_takeE 31 = .ok (.aload_n 0, 1) := by decide +kernel
theorem dX9_takeE_32 : decode cX9_takeE 32 = .ok (.getfield 42, 3) := by decide +kernel
theorem dX9_takeE_35 : decode cX9_takeE 35 = .ok (.getfield 235, 3) := by decide +kernel
theorem dX9_takeE_38 : decode cX9_takeE 38 = .ok (.iconst 0, 1) := by decide +kernel
theorem dX9_takeE_39 : decode cX9_takeE 39 = .ok (.bipush 32, 2) := by decide +kernel
theorem dX9_takeE_41 : decode cX9_takeE 41 = .ok (.invokevirtual 158, 3) := by decide +kernel
theorem dX9_takeE_44 : decode cX9_takeE 44 = .ok (.return_, 1) := by decide +kernel
theorem dX9_mixHash_0 : decode cX9_mixHash 0 = .ok (.aload_n 0, 1) := by decide +kernel
theorem dX9_mixHash_1 : decode cX9_mixHash 1 = .ok (.getfield 12, 3) := by decide +kernel
theorem dX9_mixHash_4 : decode cX9_mixHash 4 = .ok (.invokevirtual 62, 3) := by decide +kernel
theorem dX9_mixHash_7 : decode cX9_mixHash 7 = .ok (.aload_n 0, 1) := by decide +kernel
theorem dX9_mixHash_8 : decode cX9_mixHash 8 = .ok (.getfield 12, 3) := by decide +kernel
theorem dX9_mixHash_11 : decode cX9_mixHash 11 = .ok (.aload_n 1, 1) := by decide +kernel
theorem dX9_mixHash_12 : decode cX9_mixHash 12 = .ok (.getfield 104, 3) := by decide +kernel
theorem dX9_mixHash_15 : decode cX9_mixHash 15 = .ok (.iconst 0, 1) := by decide +kernel
theorem dX9_mixHash_16 : decode cX9_mixHash 16 = .ok (.bipush 32, 2) := by decide +kernel
theorem dX9_mixHash_18 : decode cX9_mixHash 18 = .ok (.invokevirtual 244, 3) := by decide +kernel
theorem dX9_mixHash_21 : decode cX9_mixHash 21 = .ok (.aload_n 0, 1) := by decide +kernel
theorem dX9_mixHash_22 : decode cX9_mixHash 22 = .ok (.getfield 12, 3) := by decide +kernel
theorem dX9_mixHash_25 : decode cX9_mixHash 25 = .ok (.aload_n 2, 1) := by decide +kernel
theorem dX9_mixHash_26 : decode cX9_mixHash 26 = .ok (.iload_n 3, 1) := by decide +kernel
theorem dX9_mixHash_27 : decode cX9_mixHash 27 = .ok (.iload 4, 2) := by decide +kernel
theorem dX9_mixHash_29 : decode cX9_mixHash 29 = .ok (.invokevirtual 244, 3) := by decide +kernel
theorem dX9_mixHash_32 : decode cX9_mixHash 32 = .ok (.aload_n 0, 1) := by decide +kernel
theorem dX9_mixHash_33 : decode cX9_mixHash 33 = .ok (.getfield 12, 3) := by decide +kernel
theorem dX9_mixHash_36 : decode cX9_mixHash 36 = .ok (.aload_n 1, 1) := by decide +kernel
theorem dX9_mixHash_37 : decode cX9_mixHash 37 = .ok (.getfield 104, 3) := by decide +kernel
theorem dX9_mixHash_40 : decode cX9_mixHash 40 = .ok (.invokevirtual 68, 3) := by decide +kernel
theorem dX9_mixHash_43 : decode cX9_mixHash 43 = .ok (.return_, 1) := by decide +kernel
theorem dX9_mixDh_0 : decode cX9_mixDh 0 = .ok (.iload_n 3, 1) := by decide +kernel
theorem dX9_mixDh_1 : decode cX9_mixDh 1 = .ok (.iconst 2, 1) := by decide +kernel
theorem dX9_mixDh_2 : decode cX9_mixDh 2 = .ok (.if_icmp .eq 8, 3) := by decide +kernel
theorem dX9_mixDh_5 : decode cX9_mixDh 5 = .ok (.iload_n 3, 1) := by decide +kernel
theorem dX9_mixDh_6 : decode cX9_mixDh 6 = .ok (.iconst 3, 1) := by decide +kernel
theorem dX9_mixDh_7 : decode cX9_mixDh 7 = .ok (.if_icmp .ne 7, 3) := by decide +kernel
theorem dX9_mixDh_10 : decode cX9_mixDh 10 = .ok (.iconst 1, 1) := by decide +kernel
theorem dX9_mixDh_11 : decode cX9_mixDh 11 = .ok (.goto 4, 3) := by decide +kernel
theorem dX9_mixDh_14 : decode cX9_mixDh 14 = .ok (.iconst 0, 1) := by decide +kernel
theorem dX9_mixDh_15 : decode cX9_mixDh 15 = .ok (.istore 4, 2) := by decide +kernel
theorem dX9_mixDh_17 : decode cX9_mixDh 17 = .ok (.iload_n 3, 1) := by decide +kernel
theorem dX9_mixDh_18 : decode cX9_mixDh 18 = .ok (.iconst 2, 1) := by decide +kernel
theorem dX9_mixDh_19 : decode cX9_mixDh 19 = .ok (.if_icmp .eq 8, 3) := by decide +kernel
theorem dX9_mixDh_22 : decode cX9_mixDh 22 = .ok (.iload_n 3, 1) := by decide +kernel
theorem dX9_mixDh_23 : decode cX9_mixDh 23 = .ok (.iconst 4, 1) := by decide +kernel
theorem dX9_mixDh_24 : decode cX9_mixDh 24 = .ok (.if_icmp .ne 7, 3) := by decide +kernel
theorem dX9_mixDh_27 : decode cX9_mixDh 27 = .ok (.iconst 1, 1) := by decide +kernel
theorem dX9_mixDh_28 : decode cX9_mixDh 28 = .ok (.goto 4, 3) := by decide +kernel
theorem dX9_mixDh_31 : decode cX9_mixDh 31 = .ok (.iconst 0, 1) := by decide +kernel
theorem dX9_mixDh_32 : decode cX9_mixDh 32 = .ok (.istore 5, 2) := by decide +kernel
theorem dX9_mixDh_34 : decode cX9_mixDh 34 = .ok (.aload_n 1, 1) := by decide +kernel
theorem dX9_mixDh_35 : decode cX9_mixDh 35 = .ok (.getfield 155, 3) := by decide +kernel
theorem dX9_mixDh_38 : decode cX9_mixDh 38 = .ok (.ifCond .ne 8, 3) := by decide +kernel
theorem dX9_mixDh_41 : decode cX9_mixDh 41 = .ok (.iload 4, 2) := by decide +kernel
theorem dX9_mixDh_43 : decode cX9_mixDh 43 = .ok (.goto 5, 3) := by decide +kernel
theorem dX9_mixDh_46 : decode cX9_mixDh 46 = .ok (.iload 5, 2) := by decide +kernel
theorem dX9_mixDh_48 : decode cX9_mixDh 48 = .ok (.istore 6, 2) := by decide +kernel
theorem dX9_mixDh_50 : decode cX9_mixDh 50 = .ok (.aload_n 1, 1) := by decide +kernel
theorem dX9_mixDh_51 : decode cX9_mixDh 51 = .ok (.getfield 155, 3) := by decide +kernel
theorem dX9_mixDh_54 : decode cX9_mixDh 54 = .ok (.ifCond .ne 8, 3) := by decide +kernel
theorem dX9_mixDh_57 : decode cX9_mixDh 57 = .ok (.iload 5, 2) := by decide +kernel
theorem dX9_mixDh_59 : decode cX9_mixDh 59 = .ok (.goto 5, 3) := by decide +kernel
theorem dX9_mixDh_62 : decode cX9_mixDh 62 = .ok (.iload 4, 2) := by decide +kernel
theorem dX9_mixDh_64 : decode cX9_mixDh 64 = .ok (.istore 7, 2) := by decide +kernel
theorem dX9_mixDh_66 : decode cX9_mixDh 66 = .ok (.iload 6, 2) := by decide +kernel
theorem dX9_mixDh_68 : decode cX9_mixDh 68 = .ok (.ifCond .eq 10, 3) := by decide +kernel
theorem dX9_mixDh_71 : decode cX9_mixDh 71 = .ok (.aload_n 2, 1) := by decide +kernel
theorem dX9_mixDh_72 : decode cX9_mixDh 72 = .ok (.getfield 232, 3) := by decide +kernel
theorem dX9_mixDh_75 : decode cX9_mixDh 75 = .ok (.goto 7, 3) := by decide +kernel
theorem dX9_mixDh_78 : decode cX9_mixDh 78 = .ok (.aload_n 1, 1) := by decide +kernel
theorem dX9_mixDh_79 : decode cX9_mixDh 79 = .ok (.getfield 83, 3) := by decide +kernel
theorem dX9_mixDh_82 : decode cX9_mixDh 82 = .ok (.astore 8, 2) := by decide +kernel
theorem dX9_mixDh_84 : decode cX9_mixDh 84 = .ok (.iload 7, 2) := by decide +kernel
theorem dX9_mixDh_86 : decode cX9_mixDh 86 = .ok (.ifCond .eq 10, 3) := by decide +kernel
theorem dX9_mixDh_89 : decode cX9_mixDh 89 = .ok (.aload_n 2, 1) := by decide +kernel
theorem dX9_mixDh_90 : decode cX9_mixDh 90 = .ok (.getfield 235, 3) := by decide +kernel
theorem dX9_mixDh_93 : decode cX9_mixDh 93 = .ok (.goto 7, 3) := by decide +kernel
theorem dX9_mixDh_96 : decode cX9_mixDh 96 = .ok (.aload_n 2, 1) := by decide +kernel
theorem dX9_mixDh_97 : decode cX9_mixDh 97 = .ok (.getfield 126, 3) := by decide +kernel
theorem dX9_mixDh_100 : decode cX9_mixDh 100 = .ok (.astore 9, 2) := by decide +kernel
theorem dX9_mixDh_102 : decode cX9_mixDh 102 = .ok (.aload_n 0, 1) := by decide +kernel
theorem dX9_mixDh_103 : decode cX9_mixDh 103 = .ok (.getfield 28, 3) := by decide +kernel
theorem dX9_mixDh_106 : decode cX9_mixDh 106 = .ok (.aload 8, 2) := by decide +kernel
theorem dX9_mixDh_108 : decode cX9_mixDh 108 = .ok (.aload 9, 2) := by decide +kernel
theorem dX9_mixDh_110 : decode cX9_mixDh 110 = .ok (.aload_n 0, 1) := by decide +kernel
theorem dX9_mixDh_111 : decode cX9_mixDh 111 = .ok (.getfield 50, 3) := by decide +kernel
theorem dX9_mixDh_114 : decode cX9_mixDh 114 = .ok (.invokevirtual 79, 3) := by decide +kernel
theorem dX9_mixDh_117 : decode cX9_mixDh 117 = .ok (.aload_n 0, 1) := by decide +kernel
theorem dX9_mixDh_118 : decode cX9_mixDh 118 = .ok (.getfield 21, 3) := by decide +kernel
theorem dX9_mixDh_121 : decode cX9_mixDh 121 = .ok (.aload_n 2, 1) := by decide +kernel
theorem dX9_mixDh_122 : decode cX9_mixDh 122 = .ok (.getfield 119, 3) := by decide +kernel
theorem dX9_mixDh_125 : decode cX9_mixDh 125 = .ok (.aload_n 0, 1) := by decide +kernel
theorem dX9_mixDh_126 : decode cX9_mixDh 126 = .ok (.getfield 50, 3) := by decide +kernel
theorem dX9_mixDh_129 : decode cX9_mixDh 129 = .ok (.bipush 32, 2) := by decide +kernel
theorem dX9_mixDh_131 : decode cX9_mixDh 131 = .ok (.aload_n 2, 1) := by decide +kernel
theorem dX9_mixDh_132 : decode cX9_mixDh 132 = .ok (.getfield 119, 3) := by decide +kernel
theorem dX9_mixDh_135 : decode cX9_mixDh 135 = .ok (.aload_n 2, 1) := by decide +kernel
theorem dX9_mixDh_136 : decode cX9_mixDh 136 = .ok (.getfield 208, 3) := by decide +kernel
theorem dX9_mixDh_139 : decode cX9_mixDh 139 = .ok (.invokevirtual 247, 3) := by decide +kernel
theorem dX9_mixDh_142 : decode cX9_mixDh 142 = .ok (.aload_n 2, 1) := by decide +kernel
theorem dX9_mixDh_143 : decode cX9_mixDh 143 = .ok (.iconst 1, 1) := by decide +kernel
theorem dX9_mixDh_144 : decode cX9_mixDh 144 = .ok (.putfield 135, 3) := by decide +kernel
theorem dX9_mixDh_147 : decode cX9_mixDh 147 = .ok (.aload_n 2, 1) := by decide +kernel
theorem dX9_mixDh_148 : decode cX9_mixDh 148 = .ok (.iconst 0, 1) := by decide +kernel
theorem dX9_mixDh_149 : decode cX9_mixDh 149 = .ok (.putfield 138, 3) := by decide +kernel
theorem dX9_mixDh_152 : decode cX9_mixDh 152 = .ok (.return_, 1) := by decide +kernel
theorem dX9_seal_0 : decode cX9_seal 0 = .ok (.aload 4, 2) := by decide +kernel
theorem dX9_seal_2 : decode cX9_seal 2 = .ok (.getfield 162, 3) := by decide +kernel
theorem dX9_seal_5 : decode cX9_seal 5 = .ok (.istore 5, 2) := by decide +kernel
theorem dX9_seal_7 : decode cX9_seal 7 = .ok (.aload 4, 2) := by decide +kernel
theorem dX9_seal_9 : decode cX9_seal 9 = .ok (.aload_n 2, 1) := by decide +kernel
theorem dX9_seal_10 : decode cX9_seal 10 = .ok (.iconst 0, 1) := by decide +kernel
theorem dX9_seal_11 : decode cX9_seal 11 = .ok (.iload_n 3, 1) := by decide +kernel
theorem dX9_seal_12 : decode cX9_seal 12 = .ok (.invokevirtual 204, 3) := by decide +kernel
theorem dX9_seal_15 : decode cX9_seal 15 = .ok (.aload_n 1, 1) := by decide +kernel
theorem dX9_seal_16 : decode cX9_seal 16 = .ok (.getfield 135, 3) := by decide +kernel
theorem dX9_seal_19 : decode cX9_seal 19 = .ok (.ifCond .eq 36, 3) := by decide +kernel
theorem dX9_seal_22 : decode cX9_seal 22 = .ok (.aload_n 0, 1) := by decide +kernel
theorem dX9_seal_23 : decode cX9_seal 23 = .ok (.getfield 35, 3) := by decide +kernel
theorem dX9_seal_26 : decode cX9_seal 26 = .ok (.aload_n 1, 1) := by decide +kernel
theorem dX9_seal_27 : decode cX9_seal 27 = .ok (.getfield 208, 3) := by decide +kernel
theorem dX9_seal_30 : decode cX9_seal 30 = .ok (.aload_n 1, 1) := by decide +kernel
theorem dX9_seal_31 : decode cX9_seal 31 = .ok (.getfield 138, 3) := by decide +kernel
theorem dX9_seal_34 : decode cX9_seal 34 = .ok (.aload_n 1, 1) := by decide +kernel
theorem dX9_seal_35 : decode cX9_seal 35 = .ok (.getfield 104, 3) := by decide +kernel
theorem dX9_seal_38 : decode cX9_seal 38 = .ok (.aload 4, 2) := by decide +kernel
theorem dX9_seal_40 : decode cX9_seal 40 = .ok (.iload 5, 2) := by decide +kernel
theorem dX9_seal_42 : decode cX9_seal 42 = .ok (.invokevirtual 214, 3) := by decide +kernel
theorem dX9_seal_45 : decode cX9_seal 45 = .ok (.aload_n 1, 1) := by decide +kernel
theorem dX9_seal_46 : decode cX9_seal 46 = .ok (.dup, 1) := by decide +kernel
theorem dX9_seal_47 : decode cX9_seal 47 = .ok (.getfield 138, 3) := by decide +kernel
theorem dX9_seal_50 : decode cX9_seal 50 = .ok (.iconst 1, 1) := by decide +kernel
theorem dX9_seal_51 : decode cX9_seal 51 = .ok (.iadd, 1) := by decide +kernel
theorem dX9_seal_52 : decode cX9_seal 52 = .ok (.putfield 138, 3) := by decide +kernel
theorem dX9_seal_55 : decode cX9_seal 55 = .ok (.aload_n 0, 1) := by decide +kernel
theorem dX9_seal_56 : decode cX9_seal 56 = .ok (.aload_n 1, 1) := by decide +kernel
theorem dX9_seal_57 : decode cX9_seal 57 = .ok (.aload 4, 2) := by decide +kernel
theorem dX9_seal_59 : decode cX9_seal 59 = .ok (.getfield 185, 3) := by decide +kernel
theorem dX9_seal_62 : decode cX9_seal 62 = .ok (.iload 5, 2) := by decide +kernel
theorem dX9_seal_64 : decode cX9_seal 64 = .ok (.aload 4, 2) := by decide +kernel
theorem dX9_seal_66 : decode cX9_seal 66 = .ok (.getfield 162, 3) := by decide +kernel
theorem dX9_seal_69 : decode cX9_seal 69 = .ok (.invokevirtual 158, 3) := by decide +kernel
theorem dX9_seal_72 : decode cX9_seal 72 = .ok (.return_, 1) := by decide +kernel
theorem dX9_open_0 : decode cX9_open 0 = .ok (.aload_n 1, 1) := by decide +kernel
theorem dX9_open_1 : decode cX9_open 1 = .ok (.getfield 135, 3) := by decide +kernel
theorem dX9_open_4 : decode cX9_open 4 = .ok (.ifCond .ne 24, 3) := by decide +kernel
theorem dX9_open_7 : decode cX9_open 7 = .ok (.aload 5, 2) := by decide +kernel
theorem dX9_open_9 : decode cX9_open 9 = .ok (.iconst 0, 1) := by decide +kernel
theorem dX9_open_10 : decode cX9_open 10 = .ok (.putfield 162, 3) := by decide +kernel
theorem dX9_open_13 : decode cX9_open 13 = .ok (.aload 5, 2) := by decide +kernel
theorem dX9_open_15 : decode cX9_open 15 = .ok (.aload_n 2, 1) := by decide +kernel
theorem dX9_open_16 : decode cX9_open 16 = .ok (.getfield 185, 3) := by decide +kernel
theorem dX9_open_19 : decode cX9_open 19 = .ok (.iload_n 3, 1) := by decide +kernel
theorem dX9_open_20 : decode cX9_open 20 = .ok (.iload 4, 2) := by decide +kernel
theorem dX9_open_22 : decode cX9_open 22 = .ok (.invokevirtual 204, 3) := by decide +kernel
theorem dX9_open_25 : decode cX9_open 25 = .ok (.goto 49, 3) := by decide +kernel
theorem dX9_open_28 : decode cX9_open 28 = .ok (.aload_n 0, 1) := by decide +kernel
theorem dX9_open_29 : decode cX9_open 29 = .ok (.getfield 35, 3) := by decide +kernel
theorem dX9_open_32 : decode cX9_open 32 = .ok (.aload_n 1, 1) := by decide +kernel
theorem dX9_open_33 : decode cX9_open 33 = .ok (.getfield 208, 3) := by decide +kernel
theorem dX9_open_36 : decode cX9_open 36 = .ok (.aload_n 1, 1) := by decide +kernel
theorem dX9_open_37 : decode cX9_open 37 = .ok (.getfield 138, 3) := by decide +kernel
theorem dX9_open_40 : decode cX9_open 40 = .ok (.aload_n 1, 1) := by decide +kernel
theorem dX9_open_41 : decode cX9_open 41 = .ok (.getfield 104, 3) := by decide +kernel
theorem dX9_open_44 : decode cX9_open 44 = .ok (.aload_n 2, 1) := by decide +kernel
theorem dX9_open_45 : decode cX9_open 45 = .ok (.iload_n 3, 1) := by decide +kernel
theorem dX9_open_46 : decode cX9_open 46 = .ok (.iload 4, 2) := by decide +kernel
theorem dX9_open_48 : decode cX9_open 48 = .ok (.bipush 16, 2) := by decide +kernel
theorem dX9_open_50 : decode cX9_open 50 = .ok (.isub, 1) := by decide +kernel
theorem dX9_open_51 : decode cX9_open 51 = .ok (.aload 5, 2) := by decide +kernel
theorem dX9_open_53 : decode cX9_open 53 = .ok (.invokevirtual 223, 3) := by decide +kernel
theorem dX9_open_56 : decode cX9_open 56 = .ok (.ifCond .eq 16, 3) := by decide +kernel
theorem dX9_open_59 : decode cX9_open 59 = .ok (.aload_n 1, 1) := by decide +kernel
theorem dX9_open_60 : decode cX9_open 60 = .ok (.dup, 1) := by decide +kernel
theorem dX9_open_61 : decode cX9_open 61 = .ok (.getfield 138, 3) := by decide +kernel
theorem dX9_open_64 : decode cX9_open 64 = .ok (.iconst 1, 1) := by decide +kernel
theorem dX9_open_65 : decode cX9_open 65 = .ok (.iadd, 1) := by decide +kernel
theorem dX9_open_66 : decode cX9_open 66 = .ok (.putfield 138, 3) := by decide +kernel
theorem dX9_open_69 : decode cX9_open 69 = .ok (.goto 5, 3) := by decide +kernel
theorem dX9_open_72 : decode cX9_open 72 = .ok (.iconst 0, 1) := by decide +kernel
theorem dX9_open_73 : decode cX9_open 73 = .ok (.ireturn, 1) := by decide +kernel
theorem dX9_open_74 : decode cX9_open 74 = .ok (.aload_n 0, 1) := by decide +kernel
theorem dX9_open_75 : decode cX9_open 75 = .ok (.aload_n 1, 1) := by decide +kernel
theorem dX9_open_76 : decode cX9_open 76 = .ok (.aload_n 2, 1) := by decide +kernel
theorem dX9_open_77 : decode cX9_open 77 = .ok (.getfield 185, 3) := by decide +kernel
theorem dX9_open_80 : decode cX9_open 80 = .ok (.iload_n 3, 1) := by decide +kernel
theorem dX9_open_81 : decode cX9_open 81 = .ok (.iload 4, 2) := by decide +kernel
theorem dX9_open_83 : decode cX9_open 83 = .ok (.invokevirtual 158, 3) := by decide +kernel
theorem dX9_open_86 : decode cX9_open 86 = .ok (.iconst 1, 1) := by decide +kernel
theorem dX9_open_87 : decode cX9_open 87 = .ok (.ireturn, 1) := by decide +kernel
theorem dX9_endMessage_0 : decode cX9_endMessage 0 = .ok (.aload_n 2, 1) := by decide +kernel
theorem dX9_endMessage_1 : decode cX9_endMessage 1 = .ok (.dup, 1) := by decide +kernel
theorem dX9_endMessage_2 : decode cX9_endMessage 2 = .ok (.getfield 142, 3) := by decide +kernel
theorem dX9_endMessage_5 : decode cX9_endMessage 5 = .ok (.iconst 1, 1) := by decide +kernel
theorem dX9_endMessage_6 : decode cX9_endMessage 6 = .ok (.iadd, 1) := by decide +kernel
theorem dX9_endMessage_7 : decode cX9_endMessage 7 = .ok (.putfield 142, 3) := by decide +kernel
theorem dX9_endMessage_10 : decode cX9_endMessage 10 = .ok (.aload_n 2, 1) := by decide +kernel
theorem dX9_endMessage_11 : decode cX9_endMessage 11 = .ok (.getfield 142, 3) := by decide +kernel
theorem dX9_endMessage_14 : decode cX9_endMessage 14 = .ok (.aload_n 1, 1) := by decide +kernel
theorem dX9_endMessage_15 : decode cX9_endMessage 15 = .ok (.getfield 145, 3) := by decide +kernel
theorem dX9_endMessage_18 : decode cX9_endMessage 18 = .ok (.getfield 251, 3) := by decide +kernel
theorem dX9_endMessage_21 : decode cX9_endMessage 21 = .ok (.if_icmp .ge 4, 3) := by decide +kernel
theorem dX9_endMessage_24 : decode cX9_endMessage 24 = .ok (.return_, 1) := by decide +kernel
theorem dX9_endMessage_25 : decode cX9_endMessage 25 = .ok (.aload_n 1, 1) := by decide +kernel
theorem dX9_endMessage_26 : decode cX9_endMessage 26 = .ok (.getfield 155, 3) := by decide +kernel
theorem dX9_endMessage_29 : decode cX9_endMessage 29 = .ok (.ifCond .ne 10, 3) := by decide +kernel
theorem dX9_endMessage_32 : decode cX9_endMessage 32 = .ok (.aload_n 2, 1) := by decide +kernel
theorem dX9_endMessage_33 : decode cX9_endMessage 33 = .ok (.getfield 208, 3) := by decide +kernel
theorem dX9_endMessage_36 : decode cX9_endMessage 36 = .ok (.goto 7, 3) := by decide +kernel
theorem dX9_endMessage_39 : decode cX9_endMessage 39 = .ok (.aload_n 2, 1) := by decide +kernel
theorem dX9_endMessage_40 : decode cX9_endMessage 40 = .ok (.getfield 217, 3) := by decide +kernel
theorem dX9_endMessage_43 : decode cX9_endMessage 43 = .ok (.astore_n 3, 1) := by decide +kernel
theorem dX9_endMessage_44 : decode cX9_endMessage 44 = .ok (.aload_n 1, 1) := by decide +kernel
theorem dX9_endMessage_45 : decode cX9_endMessage 45 = .ok (.getfield 155, 3) := by decide +kernel
theorem dX9_endMessage_48 : decode cX9_endMessage 48 = .ok (.ifCond .ne 10, 3) := by decide +kernel
theorem dX9_endMessage_51 : decode cX9_endMessage 51 = .ok (.aload_n 2, 1) := by decide +kernel
theorem dX9_endMessage_52 : decode cX9_endMessage 52 = .ok (.getfield 217, 3) := by decide +kernel
theorem dX9_endMessage_55 : decode cX9_endMessage 55 = .ok (.goto 7, 3) := by decide +kernel
theorem dX9_endMessage_58 : decode cX9_endMessage 58 = .ok (.aload_n 2, 1) := by decide +kernel
theorem dX9_endMessage_59 : decode cX9_endMessage 59 = .ok (.getfield 208, 3) := by decide +kernel
theorem dX9_endMessage_62 : decode cX9_endMessage 62 = .ok (.astore 4, 2) := by decide +kernel
theorem dX9_endMessage_64 : decode cX9_endMessage 64 = .ok (.aload_n 0, 1) := by decide +kernel
theorem dX9_endMessage_65 : decode cX9_endMessage 65 = .ok (.getfield 21, 3) := by decide +kernel
theorem dX9_endMessage_68 : decode cX9_endMessage 68 = .ok (.aload_n 2, 1) := by decide +kernel
theorem dX9_endMessage_69 : decode cX9_endMessage 69 = .ok (.getfield 119, 3) := by decide +kernel
theorem dX9_endMessage_72 : decode cX9_endMessage 72 = .ok (.getstatic 211, 3) := by decide +kernel
theorem dX9_endMessage_75 : decode cX9_endMessage 75 = .ok (.iconst 0, 1) := by decide +kernel
theorem dX9_endMessage_76 : decode cX9_endMessage 76 = .ok (.aload_n 3, 1) := by decide +kernel
theorem dX9_endMessage_77 : decode cX9_endMessage 77 = .ok (.aload 4, 2) := by decide +kernel
theorem dX9_endMessage_79 : decode cX9_endMessage 79 = .ok (.invokevirtual 247, 3) := by decide +kernel
theorem dX9_endMessage_82 : decode cX9_endMessage 82 = .ok (.aload_n 2, 1) := by decide +kernel
theorem dX9_endMessage_83 : decode cX9_endMessage 83 = .ok (.iconst 1, 1) := by decide +kernel
theorem dX9_endMessage_84 : decode cX9_endMessage 84 = .ok (.putfield 135, 3) := by decide +kernel
theorem dX9_endMessage_87 : decode cX9_endMessage 87 = .ok (.aload_n 2, 1) := by decide +kernel
theorem dX9_endMessage_88 : decode cX9_endMessage 88 = .ok (.iconst 0, 1) := by decide +kernel
theorem dX9_endMessage_89 : decode cX9_endMessage 89 = .ok (.putfield 138, 3) := by decide +kernel
theorem dX9_endMessage_92 : decode cX9_endMessage 92 = .ok (.aload_n 2, 1) := by decide +kernel
theorem dX9_endMessage_93 : decode cX9_endMessage 93 = .ok (.iconst 0, 1) := by decide +kernel
theorem dX9_endMessage_94 : decode cX9_endMessage 94 = .ok (.putfield 220, 3) := by decide +kernel
theorem dX9_endMessage_97 : decode cX9_endMessage 97 = .ok (.return_, 1) := by decide +kernel
theorem dX10_init_0 : decode cX10_init 0 = .ok (.aload_n 0, 1) := by decide +kernel
theorem dX10_init_1 : decode cX10_init 1 = .ok (.invokespecial 3, 3) := by decide +kernel
theorem dX10_init_4 : decode cX10_init 4 = .ok (.aload_n 0, 1) := by decide +kernel
theorem dX10_init_5 : decode cX10_init 5 = .ok (.bipush 8, 2) := by decide +kernel
theorem dX10_init_7 : decode cX10_init 7 = .ok (.anewarray 9, 3) := by decide +kernel
theorem dX10_init_10 : decode cX10_init 10 = .ok (.putfield 11, 3) := by decide +kernel
theorem dX10_init_13 : decode cX10_init 13 = .ok (.aload_n 0, 1) := by decide +kernel
theorem dX10_init_14 : decode cX10_init 14 = .ok (.iconst 4, 1) := by decide +kernel
theorem dX10_init_15 : decode cX10_init 15 = .ok (.anewarray 15, 3) := by decide +kernel
theorem dX10_init_18 : decode cX10_init 18 = .ok (.putfield 17, 3) := by decide +kernel
theorem dX10_init_21 : decode cX10_init 21 = .ok (.aload_n 0, 1) := by decide +kernel
theorem dX10_init_22 : decode cX10_init 22 = .ok (.new 21, 3) := by decide +kernel
theorem dX10_init_25 : decode cX10_init 25 = .ok (.dup, 1) := by decide +kernel
theorem dX10_init_26 : decode cX10_init 26 = .ok (.bipush 64, 2) := by decide +kernel
theorem dX10_init_28 : decode cX10_init 28 = .ok (.invokespecial 23, 3) := by decide +kernel
theorem dX10_init_31 : decode cX10_init 31 = .ok (.putfield 26, 3) := by decide +kernel
theorem dX10_init_34 : decode cX10_init 34 = .ok (.aload_n 0, 1) := by decide +kernel
theorem dX10_init_35 : decode cX10_init 35 = .ok (.new 21, 3) := by decide +kernel
theorem dX10_init_38 : decode cX10_init 38 = .ok (.dup, 1) := by decide +kernel
theorem dX10_init_39 : decode cX10_init 39 = .ok (.sipush 160, 3) := by decide +kernel
theorem dX10_init_42 : decode cX10_init 42 = .ok (.invokespecial 23, 3) := by decide +kernel
theorem dX10_init_45 : decode cX10_init 45 = .ok (.putfield 30, 3) := by decide +kernel
theorem dX10_init_48 : decode cX10_init 48 = .ok (.aload_n 0, 1) := by decide +kernel
theorem dX10_init_49 : decode cX10_init 49 = .ok (.new 21, 3) := by decide +kernel
theorem dX10_init_52 : decode cX10_init 52 = .ok (.dup, 1) := by decide +kernel
theorem dX10_init_53 : decode cX10_init 53 = .ok (.sipush 160, 3) := by decide +kernel
theorem dX10_init_56 : decode cX10_init 56 = .ok (.invokespecial 23, 3) := by decide +kernel
theorem dX10_init_59 : decode cX10_init 59 = .ok (.putfield 33, 3) := by decide +kernel
theorem dX10_init_62 : decode cX10_init 62 = .ok (.aload_n 0, 1) := by decide +kernel
theorem dX10_init_63 : decode cX10_init 63 = .ok (.new 36, 3) := by decide +kernel
theorem dX10_init_66 : decode cX10_init 66 = .ok (.dup, 1) := by decide +kernel
theorem dX10_init_67 : decode cX10_init 67 = .ok (.invokespecial 38, 3) := by decide +kernel
theorem dX10_init_70 : decode cX10_init 70 = .ok (.putfield 39, 3) := by decide +kernel
theorem dX10_init_73 : decode cX10_init 73 = .ok (.aload_n 0, 1) := by decide +kernel
theorem dX10_init_74 : decode cX10_init 74 = .ok (.bipush 32, 2) := by decide +kernel
theorem dX10_init_76 : decode cX10_init 76 = .ok (.newarray .int, 2) := by decide +kernel
theorem dX10_init_78 : decode cX10_init 78 = .ok (.putfield 43, 3) := by decide +kernel
theorem dX10_init_81 : decode cX10_init 81 = .ok (.aload_n 0, 1) := by decide +kernel
theorem dX10_init_82 : decode cX10_init 82 = .ok (.iconst 0, 1) := by decide +kernel
theorem dX10_init_83 : decode cX10_init 83 = .ok (.putfield 47, 3) := by decide +kernel
theorem dX10_init_86 : decode cX10_init 86 = .ok (.aload_n 0, 1) := by decide +kernel
theorem dX10_init_87 : decode cX10_init 87 = .ok (.iconst 0, 1) := by decide +kernel
theorem dX10_init_88 : decode cX10_init 88 = .ok (.putfield 51, 3) := by decide +kernel
theorem dX10_init_91 : decode cX10_init 91 = .ok (.return_, 1) := by decide +kernel
theorem dX10_pattern_0 : decode cX10_pattern 0 = .ok (.aload_n 0, 1) := by decide +kernel
theorem dX10_pattern_1 : decode cX10_pattern 1 = .ok (.getfield 47, 3) := by decide +kernel
theorem dX10_pattern_4 : decode cX10_pattern 4 = .ok (.bipush 8, 2) := by decide +kernel
theorem dX10_pattern_6 : decode cX10_pattern 6 = .ok (.if_icmp .lt 6, 3) := by decide +kernel
theorem dX10_pattern_9 : decode cX10_pattern 9 = .ok (.bipush (-4), 2) := by decide +kernel
theorem dX10_pattern_11 : decode cX10_pattern 11 = .ok (.ireturn, 1) := by decide +kernel
theorem dX10_pattern_12 : decode cX10_pattern 12 = .ok (.aload_n 0, 1) := by decide +kernel
theorem dX10_pattern_13 : decode cX10_pattern 13 = .ok (.getfield 11, 3) := by decide +kernel
theorem dX10_pattern_16 : decode cX10_pattern 16 = .ok (.aload_n 0, 1) := by decide +kernel
theorem dX10_pattern_17 : decode cX10_pattern 17 = .ok (.getfield 47, 3) := by decide +kernel
theorem dX10_pattern_20 : decode cX10_pattern 20 = .ok (.new 9, 3) := by decide +kernel
theorem dX10_pattern_23 : decode cX10_pattern 23 = .ok (.dup, 1) := by decide +kernel
theorem dX10_pattern_24 : decode cX10_pattern 24 = .ok (.iload_n 1, 1) := by decide +kernel
theorem dX10_pattern_25 : decode cX10_pattern 25 = .ok (.iload_n 2, 1) := by decide +kernel
theorem dX10_pattern_26 : decode cX10_pattern 26 = .ok (.invokespecial 54, 3) := by decide +kernel
theorem dX10_pattern_29 : decode cX10_pattern 29 = .ok (.aastore, 1) := by decide +kernel
theorem dX10_pattern_30 : decode cX10_pattern 30 = .ok (.aload_n 0, 1) := by decide +kernel
theorem dX10_pattern_31 : decode cX10_pattern 31 = .ok (.dup, 1) := by decide +kernel
theorem dX10_pattern_32 : decode cX10_pattern 32 = .ok (.getfield 47, 3) := by decide +kernel
theorem dX10_pattern_35 : decode cX10_pattern 35 = .ok (.iconst 1, 1) := by decide +kernel
theorem dX10_pattern_36 : decode cX10_pattern 36 = .ok (.iadd, 1) := by decide +kernel
theorem dX10_pattern_37 : decode cX10_pattern 37 = .ok (.putfield 47, 3) := by decide +kernel
theorem dX10_pattern_40 : decode cX10_pattern 40 = .ok (.aload_n 0, 1) := by decide +kernel
theorem dX10_pattern_41 : decode cX10_pattern 41 = .ok (.getfield 47, 3) := by decide +kernel
theorem dX10_pattern_44 : decode cX10_pattern 44 = .ok (.iconst 1, 1) := by decide +kernel
theorem dX10_pattern_45 : decode cX10_pattern 45 = .ok (.isub, 1) := by decide +kernel
theorem dX10_pattern_46 : decode cX10_pattern 46 = .ok (.ireturn, 1) := by decide +kernel
theorem dX10_message_0 : decode cX10_message 0 = .ok (.aload_n 0, 1) := by decide +kernel
theorem dX10_message_1 : decode cX10_message 1 = .ok (.iload_n 1, 1) := by decide +kernel
theorem dX10_message_2 : decode cX10_message 2 = .ok (.invokevirtual 57, 3) := by decide +kernel
theorem dX10_message_5 : decode cX10_message 5 = .ok (.astore_n 2, 1) := by decide +kernel
theorem dX10_message_6 : decode cX10_message 6 = .ok (.aload_n 2, 1) := by decide +kernel
theorem dX10_message_7 : decode cX10_message 7 = .ok (.ifnonnull 6, 3) := by decide +kernel
theorem dX10_message_10 : decode cX10_message 10 = .ok (.bipush (-2), 2) := by decide +kernel
theorem dX10_message_12 : decode cX10_message 12 = .ok (.ireturn, 1) := by decide +kernel
theorem dX10_message_13 : decode cX10_message 13 = .ok (.aload_n 2, 1) := by decide +kernel
theorem dX10_message_14 : decode cX10_message 14 = .ok (.getfield 61, 3) := by decide +kernel
theorem dX10_message_17 : decode cX10_message 17 = .ok (.ifCond .eq 8, 3) := by decide +kernel
theorem dX10_message_20 : decode cX10_message 20 = .ok (.bipush (-3), 2) := by decide +kernel
theorem dX10_message_22 : decode cX10_message 22 = .ok (.goto 7, 3) := by decide +kernel
theorem dX10_message_25 : decode cX10_message 25 = .ok (.aload_n 2, 1) := by decide +kernel
theorem dX10_message_26 : decode cX10_message 26 = .ok (.invokevirtual 65, 3) := by decide +kernel
theorem dX10_message_29 : decode cX10_message 29 = .ok (.ireturn, 1) := by decide +kernel
theorem dX10_token_0 : decode cX10_token 0 = .ok (.aload_n 0, 1) := by decide +kernel
theorem dX10_token_1 : decode cX10_token 1 = .ok (.iload_n 1, 1) := by decide +kernel
theorem dX10_token_2 : decode cX10_token 2 = .ok (.invokevirtual 57, 3) := by decide +kernel
theorem dX10_token_5 : decode cX10_token 5 = .ok (.astore_n 3, 1) := by decide +kernel
theorem dX10_token_6 : decode cX10_token 6 = .ok (.aload_n 3, 1) := by decide +kernel
theorem dX10_token_7 : decode cX10_token 7 = .ok (.ifnull 12, 3) := by decide +kernel
theorem dX10_token_10 : decode cX10_token 10 = .ok (.iload_n 2, 1) := by decide +kernel
theorem dX10_token_11 : decode cX10_token 11 = .ok (.ifCond .lt 8, 3) := by decide +kernel
theorem dX10_token_14 : decode cX10_token 14 = .ok (.iload_n 2, 1) := by decide +kernel
theorem dX10_token_15 : decode cX10_token 15 = .ok (.iconst 5, 1) := by decide +kernel
theorem dX10_token_16 : decode cX10_token 16 = .ok (.if_icmp .le 6, 3) := by decide +kernel
theorem dX10_token_19 : decode cX10_token 19 = .ok (.bipush (-2), 2) := by decide +kernel
theorem dX10_token_21 : decode cX10_token 21 = .ok (.ireturn, 1) := by decide +kernel
theorem dX10_token_22 : decode cX10_token 22 = .ok (.aload_n 3, 1) := by decide +kernel
theorem dX10_token_23 : decode cX10_token 23 = .ok (.getfield 61, 3) := by decide +kernel
theorem dX10_token_26 : decode cX10_token 26 = .ok (.ifCond .eq 8, 3) := by decide +kernel
theorem dX10_token_29 : decode cX10_token 29 = .ok (.bipush (-3), 2) := by decide +kernel
theorem dX10_token_31 : decode cX10_token 31 = .ok (.goto 8, 3) := by decide +kernel
theorem dX10_token_34 : decode cX10_token 34 = .ok (.aload_n 3, 1) := by decide +kernel
theorem dX10_token_35 : decode cX10_token 35 = .ok (.iload_n 2, 1) := by decide +kernel
theorem dX10_token_36 : decode cX10_token 36 = .ok (.invokevirtual 69, 3) := by decide +kernel
theorem dX10_token_39 : decode cX10_token 39 = .ok (.ireturn, 1) := by decide +kernel
theorem dX10_fault_0 : decode cX10_fault 0 = .ok (.aload_n 0, 1) := by decide +kernel
theorem dX10_fault_1 : decode cX10_fault 1 = .ok (.iload_n 1, 1) := by decide +kernel
theorem dX10_fault_2 : decode cX10_fault 2 = .ok (.invokevirtual 57, 3) := by decide +kernel
theorem dX10_fault_5 : decode cX10_fault 5 = .ok (.astore_n 2, 1) := by decide +kernel
theorem dX10_fault_6 : decode cX10_fault 6 = .ok (.aload_n 2, 1) := by decide +kernel
theorem dX10_fault_7 : decode cX10_fault 7 = .ok (.ifnonnull 8, 3) := by decide +kernel
theorem dX10_fault_10 : decode cX10_fault 10 = .ok (.bipush (-2), 2) := by decide +kernel
theorem dX10_fault_12 : decode cX10_fault 12 = .ok (.goto 7, 3) := by decide +kernel
theorem dX10_fault_15 : decode cX10_fault 15 = .ok (.aload_n 2, 1) := by decide +kernel
theorem dX10_fault_16 : decode cX10_fault 16 = .ok (.invokevirtual 73, 3) := by decide +kernel
theorem dX10_fault_19 : decode cX10_fault 19 = .ok (.ireturn, 1) := by decide +kernel
theorem dX10_told_0 : decode cX10_told 0 = .ok (.aload_n 0, 1) := by decide +kernel
theorem dX10_told_1 : decode cX10_told 1 = .ok (.iload_n 1, 1) := by decide +kernel
theorem dX10_told_2 : decode cX10_told 2 = .ok (.invokevirtual 57, 3) := by decide +kernel
theorem dX10_told_5 : decode cX10_told 5 = .ok (.astore_n 3, 1) := by decide +kernel
theorem dX10_told_6 : decode cX10_told 6 = .ok (.aload_n 3, 1) := by decide +kernel
theorem dX10_told_7 : decode cX10_told 7 = .ok (.ifnull 13, 3) := by decide +kernel
theorem dX10_told_10 : decode cX10_told 10 = .ok (.iload_n 2, 1) := by decide +kernel
theorem dX10_told_11 : decode cX10_told 11 = .ok (.ifCond .lt 9, 3) := by decide +kernel
theorem dX10_told_14 : decode cX10_told 14 = .ok (.iload_n 2, 1) := by decide +kernel
theorem dX10_told_15 : decode cX10_told 15 = .ok (.bipush 38, 2) := by decide +kernel
theorem dX10_told_17 : decode cX10_told 17 = .ok (.if_icmp .le 6, 3) := by decide +kernel
theorem dX10_told_20 : decode cX10_told 20 = .ok (.bipush (-2), 2) := by decide +kernel
theorem dX10_told_22 : decode cX10_told 22 = .ok (.ireturn, 1) := by decide +kernel
theorem dX10_told_23 : decode cX10_told 23 = .ok (.aload_n 3, 1) := by decide +kernel
theorem dX10_told_24 : decode cX10_told 24 = .ok (.iload_n 2, 1) := by decide +kernel
theorem dX10_told_25 : decode cX10_told 25 = .ok (.invokevirtual 76, 3) := by decide +kernel
theorem dX10_told_28 : decode cX10_told 28 = .ok (.ireturn, 1) := by decide +kernel
theorem dX10_side_0 : decode cX10_side 0 = .ok (.aload_n 0, 1) := by decide +kernel
theorem dX10_side_1 : decode cX10_side 1 = .ok (.iload_n 1, 1) := by decide +kernel
theorem dX10_side_2 : decode cX10_side 2 = .ok (.invokevirtual 57, 3) := by decide +kernel
theorem dX10_side_5 : decode cX10_side 5 = .ok (.astore 6, 2) := by decide +kernel
theorem dX10_side_7 : decode cX10_side 7 = .ok (.aload 6, 2) := by decide +kernel
theorem dX10_side_9 : decode cX10_side 9 = .ok (.ifnull 23, 3) := by decide +kernel
theorem dX10_side_12 : decode cX10_side 12 = .ok (.iload_n 2, 1) := by decide +kernel
theorem dX10_side_13 : decode cX10_side 13 = .ok (.ifCond .lt 19, 3) := by decide +kernel
theorem dX10_side_16 : decode cX10_side 16 = .ok (.iload_n 2, 1) := by decide +kernel
theorem dX10_side_17 : decode cX10_side 17 = .ok (.iconst 1, 1) := by decide +kernel
theorem dX10_side_18 : decode cX10_side 18 = .ok (.if_icmp .gt 14, 3) := by decide +kernel
theorem dX10_side_21 : decode cX10_side 21 = .ok (.iload_n 3, 1) := by decide +kernel
theorem dX10_side_22 : decode cX10_side 22 = .ok (.iconst (-1), 1) := by decide +kernel
theorem dX10_side_23 : decode cX10_side 23 = .ok (.if_icmp .lt 9, 3) := by decide +kernel
theorem dX10_side_26 : decode cX10_side 26 = .ok (.iload 4, 2) := by decide +kernel
theorem dX10_side_28 : decode cX10_side 28 = .ok (.iconst (-1), 1) := by decide +kernel
theorem dX10_side_29 : decode cX10_side 29 = .ok (.if_icmp .ge 6, 3) := by decide +kernel
theorem dX10_side_32 : decode cX10_side 32 = .ok (.bipush (-2), 2) := by decide +kernel
theorem dX10_side_34 : decode cX10_side 34 = .ok (.ireturn, 1) := by decide +kernel
theorem dX10_side_35 : decode cX10_side 35 = .ok (.aload 6, 2) := by decide +kernel
theorem dX10_side_37 : decode cX10_side 37 = .ok (.invokevirtual 73, 3) := by decide +kernel
theorem dX10_side_40 : decode cX10_side 40 = .ok (.ifCond .eq 6, 3) := by decide +kernel
theorem dX10_side_43 : decode cX10_side 43 = .ok (.bipush (-3), 2) := by decide +kernel
theorem dX10_side_45 : decode cX10_side 45 = .ok (.ireturn, 1) := by decide +kernel
theorem dX10_side_46 : decode cX10_side 46 = .ok (.iload_n 3, 1) := by decide +kernel
theorem dX10_side_47 : decode cX10_side 47 = .ok (.iconst (-1), 1) := by decide +kernel
theorem dX10_side_48 : decode cX10_side 48 = .ok (.if_icmp .ne 24, 3) := by decide +kernel
theorem dX10_side_51 : decode cX10_side 51 = .ok (.aload 6, 2) := by decide +kernel
theorem dX10_side_53 : decode cX10_side 53 = .ok (.iload_n 2, 1) := by decide +kernel
theorem dX10_side_54 : decode cX10_side 54 = .ok (.invokevirtual 79, 3) := by decide +kernel
theorem dX10_side_57 : decode cX10_side 57 = .ok (.ifCond .ne 12, 3) := by decide +kernel
theorem dX10_side_60 : decode cX10_side 60 = .ok (.aload 6, 2) := by decide +kernel
theorem dX10_side_62 : decode cX10_side 62 = .ok (.iload_n 2, 1) := by decide +kernel
theorem dX10_side_63 : decode cX10_side 63 = .ok (.invokevirtual 83, 3) := by decide +kernel
theorem dX10_side_66 : decode cX10_side 66 = .ok (.ifCond .eq 6, 3) := by decide +kernel
theorem dX10_side_69 : decode cX10_side 69 = .ok (.bipush (-3), 2) := by decide +kernel
theorem dX10_side_71 : decode cX10_side 71 = .ok (.ireturn, 1) := by decide +kernel
theorem dX10_side_72 : decode cX10_side 72 = .ok (.iload 4, 2) := by decide +kernel
theorem dX10_side_74 : decode cX10_side 74 = .ok (.iconst (-1), 1) := by decide +kernel
theorem dX10_side_75 : decode cX10_side 75 = .ok (.if_icmp .ne 17, 3) := by decide +kernel
theorem dX10_side_78 : decode cX10_side 78 = .ok (.aload 6, 2) := by decide +kernel
theorem dX10_side_80 : decode cX10_side 80 = .ok (.iconst 1, 1) := by decide +kernel
theorem dX10_side_81 : decode cX10_side 81 = .ok (.iload_n 2, 1) := by decide +kernel
theorem dX10_side_82 : decode cX10_side 82 = .ok (.isub, 1) := by decide +kernel
theorem dX10_side_83 : decode cX10_side 83 = .ok (.invokevirtual 79, 3) := by decide +kernel
theorem dX10_side_86 : decode cX10_side 86 = .ok (.ifCond .eq 6, 3) := by decide +kernel
theorem dX10_side_89 : decode cX10_side 89 = .ok (.bipush (-3), 2) := by decide +kernel
theorem dX10_side_91 : decode cX10_side 91 = .ok (.ireturn, 1) := by decide +kernel
theorem dX10_side_92 : decode cX10_side 92 = .ok (.aload_n 0, 1) := by decide +kernel
theorem dX10_side_93 : decode cX10_side 93 = .ok (.getfield 51, 3) := by decide +kernel
theorem dX10_side_96 : decode cX10_side 96 = .ok (.iconst 4, 1) := by decide +kernel
theorem dX10_side_97 : decode cX10_side 97 = .ok (.if_icmp .lt 6, 3) := by decide +kernel
theorem dX10_side_100 : decode cX10_side 100 = .ok (.bipush (-4), 2) := by decide +kernel
theorem dX10_side_102 : decode cX10_side 102 = .ok (.ireturn, 1) := by decide +kernel
theorem dX10_side_103 : decode cX10_side 103 = .ok (.new 15, 3) := by decide +kernel
theorem dX10_side_106 : decode cX10_side 106 = .ok (.dup, 1) := by decide +kernel
theorem dX10_side_107 : decode cX10_side 107 = .ok (.aload 6, 2) := by decide +kernel
theorem dX10_side_109 : decode cX10_side 109 = .ok (.iload_n 1, 1) := by decide +kernel
theorem dX10_side_110 : decode cX10_side 110 = .ok (.iload_n 2, 1) := by decide +kernel
theorem dX10_side_111 : decode cX10_side 111 = .ok (.iload 5, 2) := by decide +kernel
theorem dX10_side_113 : decode cX10_side 113 = .ok (.invokespecial 86, 3) := by decide +kernel
theorem dX10_side_116 : decode cX10_side 116 = .ok (.astore 7, 2) := by decide +kernel
theorem dX10_side_118 : decode cX10_side 118 = .ok (.aload_n 0, 1) := by decide +kernel
theorem dX10_side_119 : decode cX10_side 119 = .ok (.getfield 39, 3) := by decide +kernel
theorem dX10_side_122 : decode cX10_side 122 = .ok (.aload 7, 2) := by decide +kernel
theorem dX10_side_124 : decode cX10_side 124 = .ok (.iload_n 3, 1) := by decide +kernel
theorem dX10_side_125 : decode cX10_side 125 = .ok (.iload 4, 2) := by decide +kernel
theorem dX10_side_127 : decode cX10_side 127 = .ok (.invokevirtual 89, 3) := by decide +kernel
theorem dX10_side_130 : decode cX10_side 130 = .ok (.aload_n 0, 1) := by decide +kernel
theorem dX10_side_131 : decode cX10_side 131 = .ok (.getfield 39, 3) := by decide +kernel
theorem dX10_side_134 : decode cX10_side 134 = .ok (.aload 7, 2) := by decide +kernel
theorem dX10_side_136 : decode cX10_side 136 = .ok (.invokevirtual 93, 3) := by decide +kernel
theorem dX10_side_139 : decode cX10_side 139 = .ok (.aload 6, 2) := by decide +kernel
theorem dX10_side_141 : decode cX10_side 141 = .ok (.iconst 1, 1) := by decide +kernel
theorem dX10_side_142 : decode cX10_side 142 = .ok (.putfield 61, 3) := by decide +kernel
theorem dX10_side_145 : decode cX10_side 145 = .ok (.aload_n 0, 1) := by decide +kernel
theorem dX10_side_146 : decode cX10_side 146 = .ok (.getfield 17, 3) := by decide +kernel
theorem dX10_side_149 : decode cX10_side 149 = .ok (.aload_n 0, 1) := by decide +kernel
theorem dX10_side_150 : decode cX10_side 150 = .ok (.getfield 51, 3) := by decide +kernel
theorem dX10_side_153 : decode cX10_side 153 = .ok (.aload 7, 2) := by decide +kernel
theorem dX10_side_155 : decode cX10_side 155 = .ok (.aastore, 1) := by decide +kernel
theorem dX10_side_156 : decode cX10_side 156 = .ok (.aload_n 0, 1) := by decide +kernel
theorem dX10_side_157 : decode cX10_side 157 = .ok (.dup, 1) := by decide +kernel
theorem dX10_side_158 : decode cX10_side 158 = .ok (.getfield 51, 3) := by decide +kernel
theorem dX10_side_161 : decode cX10_side 161 = .ok (.iconst 1, 1) := by decide +kernel
theorem dX10_side_162 : decode cX10_side 162 = .ok (.iadd, 1) := by decide +kernel
theorem dX10_side_163 : decode cX10_side 163 = .ok (.putfield 51, 3) := by decide +kernel
theorem dX10_side_166 : decode cX10_side 166 = .ok (.aload_n 0, 1) := by decide +kernel
theorem dX10_side_167 : decode cX10_side 167 = .ok (.getfield 51, 3) := by decide +kernel
theorem dX10_side_170 : decode cX10_side 170 = .ok (.iconst 1, 1) := by decide +kernel
theorem dX10_side_171 : decode cX10_side 171 = .ok (.isub, 1) := by decide +kernel
theorem dX10_side_172 : decode cX10_side 172 = .ok (.ireturn, 1) := by decide +kernel
theorem dX10_again_0 : decode cX10_again 0 = .ok (.aload_n 0, 1) := by decide +kernel
theorem dX10_again_1 : decode cX10_again 1 = .ok (.iload_n 1, 1) := by decide +kernel
theorem dX10_again_2 : decode cX10_again 2 = .ok (.invokevirtual 97, 3) := by decide +kernel
theorem dX10_again_5 : decode cX10_again 5 = .ok (.astore_n 2, 1) := by decide +kernel
theorem dX10_again_6 : decode cX10_again 6 = .ok (.aload_n 2, 1) := by decide +kernel
theorem dX10_again_7 : decode cX10_again 7 = .ok (.ifnonnull 6, 3) := by decide +kernel
theorem dX10_again_10 : decode cX10_again 10 = .ok (.bipush (-2), 2) := by decide +kernel
theorem dX10_again_12 : decode cX10_again 12 = .ok (.ireturn, 1) := by decide +kernel
theorem dX10_again_13 : decode cX10_again 13 = .ok (.aload_n 2, 1) := by decide +kernel
theorem dX10_again_14 : decode cX10_again 14 = .ok (.getfield 101, 3) := by decide +kernel
theorem dX10_again_17 : decode cX10_again 17 = .ok (.getfield 105, 3) := by decide +kernel
theorem dX10_again_20 : decode cX10_again 20 = .ok (.istore_n 3, 1) := by decide +kernel
theorem dX10_again_21 : decode cX10_again 21 = .ok (.aload_n 0, 1) := by decide +kernel
theorem dX10_again_22 : decode cX10_again 22 = .ok (.getfield 39, 3) := by decide +kernel
theorem dX10_again_25 : decode cX10_again 25 = .ok (.aload_n 2, 1) := by decide +kernel
theorem dX10_again_26 : decode cX10_again 26 = .ok (.invokevirtual 93, 3) := by decide +kernel
theorem dX10_again_29 : decode cX10_again 29 = .ok (.iload_n 3, 1) := by decide +kernel
theorem dX10_again_30 : decode cX10_again 30 = .ok (.ireturn, 1) := by decide +kernel
theorem dX10_feed_0 : decode cX10_feed 0 = .ok (.iload_n 3, 1) := by decide +kernel
theorem dX10_feed_1 : decode cX10_feed 1 = .ok (.iconst 1, 1) := by decide +kernel
theorem dX10_feed_2 : decode cX10_feed 2 = .ok (.if_icmp .lt 9, 3) := by decide +kernel
theorem dX10_feed_5 : decode cX10_feed 5 = .ok (.iload_n 3, 1) := by decide +kernel
theorem dX10_feed_6 : decode cX10_feed 6 = .ok (.bipush 8, 2) := by decide +kernel
theorem dX10_feed_8 : decode cX10_feed 8 = .ok (.if_icmp .le 6, 3) := by decide +kernel
theorem dX10_feed_11 : decode cX10_feed 11 = .ok (.bipush (-2), 2) := by decide +kernel
theorem dX10_feed_13 : decode cX10_feed 13 = .ok (.ireturn, 1) := by decide +kernel
theorem dX10_feed_14 : decode cX10_feed 14 = .ok (.aload_n 0, 1) := by decide +kernel
theorem dX10_feed_15 : decode cX10_feed 15 = .ok (.getfield 26, 3) := by decide +kernel
theorem dX10_feed_18 : decode cX10_feed 18 = .ok (.getfield 110, 3) := by decide +kernel
theorem dX10_feed_21 : decode cX10_feed 21 = .ok (.iload_n 3, 1) := by decide +kernel
theorem dX10_feed_22 : decode cX10_feed 22 = .ok (.iadd, 1) := by decide +kernel
theorem dX10_feed_23 : decode cX10_feed 23 = .ok (.bipush 64, 2) := by decide +kernel
theorem dX10_feed_25 : decode cX10_feed 25 = .ok (.if_icmp .le 6, 3) := by decide +kernel
theorem dX10_feed_28 : decode cX10_feed 28 = .ok (.bipush (-4), 2) := by decide +kernel
theorem dX10_feed_30 : decode cX10_feed 30 = .ok (.ireturn, 1) := by decide +kernel
theorem dX10_feed_31 : decode cX10_feed 31 = .ok (.iload_n 3, 1) := by decide +kernel
theorem dX10_feed_32 : decode cX10_feed 32 = .ok (.iconst 1, 1) := by decide +kernel
theorem dX10_feed_33 : decode cX10_feed 33 = .ok (.isub, 1) := by decide +kernel
theorem dX10_feed_34 : decode cX10_feed 34 = .ok (.istore 4, 2) := by decide +kernel
theorem dX10_feed_36 : decode cX10_feed 36 = .ok (.iload 4, 2) := by decide +kernel
theorem dX10_feed_38 : decode cX10_feed 38 = .ok (.ifCond .lt 28, 3) := by decide +kernel
theorem dX10_feed_41 : decode cX10_feed 41 = .ok (.aload_n 0, 1) := by decide +kernel
theorem dX10_feed_42 : decode cX10_feed 42 = .ok (.getfield 26, 3) := by decide +kernel
theorem dX10_feed_45 : decode cX10_feed 45 = .ok (.lload_n 1, 1) := by decide +kernel
theorem dX10_feed_46 : decode cX10_feed 46 = .ok (.bipush 8, 2) := by decide +kernel
theorem dX10_feed_48 : decode cX10_feed 48 = .ok (.iload 4, 2) := by decide +kernel
theorem dX10_feed_50 : decode cX10_feed 50 = .ok (.imul, 1) := by decide +kernel
theorem dX10_feed_51 : decode cX10_feed 51 = .ok (.lushr, 1) := by decide +kernel
theorem dX10_feed_52 : decode cX10_feed 52 = .ok (.l2i, 1) := by decide +kernel
theorem dX10_feed_53 : decode cX10_feed 53 = .ok (.sipush 255, 3) := by decide +kernel
theorem dX10_feed_56 : decode cX10_feed 56 = .ok (.iand, 1) := by decide +kernel
theorem dX10_feed_57 : decode cX10_feed 57 = .ok (.invokevirtual 113, 3) := by decide +kernel
theorem dX10_feed_60 : decode cX10_feed 60 = .ok (.iinc 4 (-1), 3) := by decide +kernel
theorem dX10_feed_63 : decode cX10_feed 63 = .ok (.goto (-27), 3) := by decide +kernel
theorem dX10_feed_66 : decode cX10_feed 66 = .ok (.aload_n 0, 1) := by decide +kernel
theorem dX10_feed_67 : decode cX10_feed 67 = .ok (.getfield 26, 3) := by decide +kernel
theorem dX10_feed_70 : decode cX10_feed 70 = .ok (.getfield 110, 3) := by decide +kernel
theorem dX10_feed_73 : decode cX10_feed 73 = .ok (.ireturn, 1) := by decide +kernel
theorem dX10_write_0 : decode cX10_write 0 = .ok (.aload_n 0, 1) := by decide +kernel
theorem dX10_write_1 : decode cX10_write 1 = .ok (.iload_n 1, 1) := by decide +kernel
theorem dX10_write_2 : decode cX10_write 2 = .ok (.invokevirtual 97, 3) := by decide +kernel
theorem dX10_write_5 : decode cX10_write 5 = .ok (.astore_n 2, 1) := by decide +kernel
theorem dX10_write_6 : decode cX10_write 6 = .ok (.aload_n 2, 1) := by decide +kernel
theorem dX10_write_7 : decode cX10_write 7 = .ok (.ifnonnull 6, 3) := by decide +kernel
theorem dX10_write_10 : decode cX10_write 10 = .ok (.bipush (-2), 2) := by decide +kernel
theorem dX10_write_12 : decode cX10_write 12 = .ok (.ireturn, 1) := by decide +kernel
theorem dX10_write_13 : decode cX10_write 13 = .ok (.aload_n 2, 1) := by decide +kernel
theorem dX10_write_14 : decode cX10_write 14 = .ok (.invokevirtual 116, 3) := by decide +kernel
theorem dX10_write_17 : decode cX10_write 17 = .ok (.ifCond .eq 25, 3) := by decide +kernel
theorem dX10_write_20 : decode cX10_write 20 = .ok (.aload_n 0, 1) := by decide +kernel
theorem dX10_write_21 : decode cX10_write 21 = .ok (.getfield 39, 3) := by decide +kernel
theorem dX10_write_24 : decode cX10_write 24 = .ok (.aload_n 2, 1) := by decide +kernel
theorem dX10_write_25 : decode cX10_write 25 = .ok (.getfield 101, 3) := by decide +kernel
theorem dX10_write_28 : decode cX10_write 28 = .ok (.aload_n 0, 1) := by decide +kernel
theorem dX10_write_29 : decode cX10_write 29 = .ok (.getfield 26, 3) := by decide +kernel
theorem dX10_write_32 : decode cX10_write 32 = .ok (.aload_n 0, 1) := by decide +kernel
theorem dX10_write_33 : decode cX10_write 33 = .ok (.getfield 30, 3) := by decide +kernel
theorem dX10_write_36 : decode cX10_write 36 = .ok (.invokevirtual 120, 3) := by decide +kernel
theorem dX10_write_39 : decode cX10_write 39 = .ok (.goto 32, 3) := by decide +kernel
theorem dX10_write_42 : decode cX10_write 42 = .ok (.aload_n 2, 1) := by decide +kernel
theorem dX10_write_43 : decode cX10_write 43 = .ok (.invokevirtual 124, 3) := by decide +kernel
theorem dX10_write_46 : decode cX10_write 46 = .ok (.ifCond .eq 22, 3) := by decide +kernel
theorem dX10_write_49 : decode cX10_write 49 = .ok (.aload_n 0, 1) := by decide +kernel
theorem dX10_write_50 : decode cX10_write 50 = .ok (.getfield 39, 3) := by decide +kernel
theorem dX10_write_53 : decode cX10_write 53 = .ok (.aload_n 2, 1) := by decide +kernel
theorem dX10_write_54 : decode cX10_write 54 = .ok (.aload_n 0, 1) := by decide +kernel
theorem dX10_write_55 : decode cX10_write 55 = .ok (.getfield 26, 3) := by decide +kernel
theorem dX10_write_58 : decode cX10_write 58 = .ok (.aload_n 0, 1) := by decide +kernel
theorem dX10_write_59 : decode cX10_write 59 = .ok (.getfield 30, 3) := by decide +kernel
theorem dX10_write_62 : decode cX10_write 62 = .ok (.invokevirtual 127, 3) := by decide +kernel
theorem dX10_write_65 : decode cX10_write 65 = .ok (.goto 6, 3) := by decide +kernel
theorem dX10_write_68 : decode cX10_write 68 = .ok (.bipush (-3), 2) := by decide +kernel
theorem dX10_write_70 : decode cX10_write 70 = .ok (.ireturn, 1) := by decide +kernel
theorem dX10_write_71 : decode cX10_write 71 = .ok (.aload_n 0, 1) := by decide +kernel
theorem dX10_write_72 : decode cX10_write 72 = .ok (.getfield 26, 3) := by decide +kernel
theorem dX10_write_75 : decode cX10_write 75 = .ok (.iconst 0, 1) := by decide +kernel
theorem dX10_write_76 : decode cX10_write 76 = .ok (.putfield 110, 3) := by decide +kernel
theorem dX10_write_79 : decode cX10_write 79 = .ok (.aload_n 0, 1) := by decide +kernel
theorem dX10_write_80 : decode cX10_write 80 = .ok (.getfield 30, 3) := by decide +kernel
theorem dX10_write_83 : decode cX10_write 83 = .ok (.getfield 110, 3) := by decide +kernel
theorem dX10_write_86 : decode cX10_write 86 = .ok (.ireturn, 1) := by decide +kernel
theorem dX10_read_0 : decode cX10_read 0 = .ok (.aload_n 0, 1) := by decide +kernel
theorem dX10_read_1 : decode cX10_read 1 = .ok (.iload_n 1, 1) := by decide +kernel
theorem dX10_read_2 : decode cX10_read 2 = .ok (.invokevirtual 97, 3) := by decide +kernel
theorem dX10_read_5 : decode cX10_read 5 = .ok (.astore_n 2, 1) := by decide +kernel
theorem dX10_read_6 : decode cX10_read 6 = .ok (.aload_n 2, 1) := by decide +kernel
theorem dX10_read_7 : decode cX10_read 7 = .ok (.ifnonnull 6, 3) := by decide +kernel
theorem dX10_read_10 : decode cX10_read 10 = .ok (.bipush (-2), 2) := by decide +kernel
theorem dX10_read_12 : decode cX10_read 12 = .ok (.ireturn, 1) := by decide +kernel
theorem dX10_read_13 : decode cX10_read 13 = .ok (.aload_n 2, 1) := by decide +kernel
theorem dX10_read_14 : decode cX10_read 14 = .ok (.invokevirtual 116, 3) := by decide +kernel
theorem dX10_read_17 : decode cX10_read 17 = .ok (.ifCond .ne 13, 3) := by decide +kernel
theorem dX10_read_20 : decode cX10_read 20 = .ok (.aload_n 2, 1) := by decide +kernel
theorem dX10_read_21 : decode cX10_read 21 = .ok (.invokevirtual 124, 3) := by decide +kernel
theorem dX10_read_24 : decode cX10_read 24 = .ok (.ifCond .eq 6, 3) := by decide +kernel
theorem dX10_read_27 : decode cX10_read 27 = .ok (.bipush (-3), 2) := by decide +kernel
theorem dX10_read_29 : decode cX10_read 29 = .ok (.ireturn, 1) := by decide +kernel
theorem dX10_read_30 : decode cX10_read 30 = .ok (.aload_n 0, 1) := by decide +kernel
theorem dX10_read_31 : decode cX10_read 31 = .ok (.getfield 30, 3) := by decide +kernel
theorem dX10_read_34 : decode cX10_read 34 = .ok (.getfield 110, 3) := by decide +kernel
theorem dX10_read_37 : decode cX10_read 37 = .ok (.aload_n 2, 1) := by decide +kernel
theorem dX10_read_38 : decode cX10_read 38 = .ok (.invokevirtual 131, 3) := by decide +kernel
theorem dX10_read_41 : decode cX10_read 41 = .ok (.if_icmp .ge 6, 3) := by decide +kernel
theorem dX10_read_44 : decode cX10_read 44 = .ok (.bipush (-5), 2) := by decide +kernel
theorem dX10_read_46 : decode cX10_read 46 = .ok (.ireturn, 1) := by decide +kernel
theorem dX10_read_47 : decode cX10_read 47 = .ok (.aload_n 2, 1) := by decide +kernel
theorem dX10_read_48 : decode cX10_read 48 = .ok (.invokevirtual 116, 3) := by decide +kernel
theorem dX10_read_51 : decode cX10_read 51 = .ok (.ifCond .eq 25, 3) := by decide +kernel
theorem dX10_read_54 : decode cX10_read 54 = .ok (.aload_n 0, 1) := by decide +kernel
theorem dX10_read_55 : decode cX10_read 55 = .ok (.getfield 39, 3) := by decide +kernel
theorem dX10_read_58 : decode cX10_read 58 = .ok (.aload_n 2, 1) := by decide +kernel
theorem dX10_read_59 : decode cX10_read 59 = .ok (.getfield 101, 3) := by decide +kernel
theorem dX10_read_62 : decode cX10_read 62 = .ok (.aload_n 0, 1) := by decide +kernel
theorem dX10_read_63 : decode cX10_read 63 = .ok (.getfield 30, 3) := by decide +kernel
theorem dX10_read_66 : decode cX10_read 66 = .ok (.aload_n 0, 1) := by decide +kernel
theorem dX10_read_67 : decode cX10_read 67 = .ok (.getfield 33, 3) := by decide +kernel
theorem dX10_read_70 : decode cX10_read 70 = .ok (.invokevirtual 134, 3) := by decide +kernel
theorem dX10_read_73 : decode cX10_read 73 = .ok (.goto 19, 3) := by decide +kernel
theorem dX10_read_76 : decode cX10_read 76 = .ok (.aload_n 0, 1) := by decide +kernel
theorem dX10_read_77 : decode cX10_read 77 = .ok (.getfield 39, 3) := by decide +kernel
theorem dX10_read_80 : decode cX10_read 80 = .ok (.aload_n 2, 1) := by decide +kernel
theorem dX10_read_81 : decode cX10_read 81 = .ok (.aload_n 0, 1) := by decide +kernel
theorem dX10_read_82 : decode cX10_read 82 = .ok (.getfield 30, 3) := by decide +kernel
theorem dX10_read_85 : decode cX10_read 85 = .ok (.aload_n 0, 1) := by decide +kernel
theorem dX10_read_86 : decode cX10_read 86 = .ok (.getfield 33, 3) := by decide +kernel
theorem dX10_read_89 : decode cX10_read 89 = .ok (.invokevirtual 138, 3) := by decide +kernel
theorem dX10_read_92 : decode cX10_read 92 = .ok (.istore_n 3, 1) := by decide +kernel
theorem dX10_read_93 : decode cX10_read 93 = .ok (.iload_n 3, 1) := by decide +kernel
theorem dX10_read_94 : decode cX10_read 94 = .ok (.ifCond .eq 13, 3) := by decide +kernel
theorem dX10_read_97 : decode cX10_read 97 = .ok (.aload_n 0, 1) := by decide +kernel
theorem dX10_read_98 : decode cX10_read 98 = .ok (.getfield 33, 3) := by decide +kernel
theorem dX10_read_101 : decode cX10_read 101 = .ok (.getfield 110, 3) := by decide +kernel
theorem dX10_read_104 : decode cX10_read 104 = .ok (.goto 5, 3) := by decide +kernel
theorem dX10_read_107 : decode cX10_read 107 = .ok (.bipush (-6), 2) := by decide +kernel
theorem dX10_read_109 : decode cX10_read 109 = .ok (.ireturn, 1) := by decide +kernel
theorem dX10_alter_0 : decode cX10_alter 0 = .ok (.iload_n 1, 1) := by decide +kernel
theorem dX10_alter_1 : decode cX10_alter 1 = .ok (.ifCond .lt 25, 3) := by decide +kernel
theorem dX10_alter_4 : decode cX10_alter 4 = .ok (.iload_n 1, 1) := by decide +kernel
theorem dX10_alter_5 : decode cX10_alter 5 = .ok (.aload_n 0, 1) := by decide +kernel
theorem dX10_alter_6 : decode cX10_alter 6 = .ok (.getfield 30, 3) := by decide +kernel
theorem dX10_alter_9 : decode cX10_alter 9 = .ok (.getfield 110, 3) := by decide +kernel
theorem dX10_alter_12 : decode cX10_alter 12 = .ok (.if_icmp .ge 14, 3) := by decide +kernel
theorem dX10_alter_15 : decode cX10_alter 15 = .ok (.iload_n 2, 1) := by decide +kernel
theorem dX10_alter_16 : decode cX10_alter 16 = .ok (.ifCond .lt 10, 3) := by decide +kernel
theorem dX10_alter_19 : decode cX10_alter 19 = .ok (.iload_n 2, 1) := by decide +kernel
theorem dX10_alter_20 : decode cX10_alter 20 = .ok (.sipush 255, 3) := by decide +kernel
theorem dX10_alter_23 : decode cX10_alter 23 = .ok (.if_icmp .le 6, 3) := by decide +kernel
theorem dX10_alter_26 : decode cX10_alter 26 = .ok (.bipush (-2), 2) := by decide +kernel
theorem dX10_alter_28 : decode cX10_alter 28 = .ok (.ireturn, 1) := by decide +kernel
theorem dX10_alter_29 : decode cX10_alter 29 = .ok (.aload_n 0, 1) := by decide +kernel
theorem dX10_alter_30 : decode cX10_alter 30 = .ok (.getfield 30, 3) := by decide +kernel
theorem dX10_alter_33 : decode cX10_alter 33 = .ok (.getfield 142, 3) := by decide +kernel
theorem dX10_alter_36 : decode cX10_alter 36 = .ok (.iload_n 1, 1) := by decide +kernel
theorem dX10_alter_37 : decode cX10_alter 37 = .ok (.iaload, 1) := by decide +kernel
theorem dX10_alter_38 : decode cX10_alter 38 = .ok (.istore_n 3, 1) := by decide +kernel
theorem dX10_alter_39 : decode cX10_alter 39 = .ok (.aload_n 0, 1) := by decide +kernel
theorem dX10_alter_40 : decode cX10_alter 40 = .ok (.getfield 30, 3) := by decide +kernel
theorem dX10_alter_43 : decode cX10_alter 43 = .ok (.getfield 142, 3) := by decide +kernel
theorem dX10_alter_46 : decode cX10_alter 46 = .ok (.iload_n 1, 1) := by decide +kernel
theorem dX10_alter_47 : decode cX10_alter 47 = .ok (.iload_n 3, 1) := by decide +kernel
theorem dX10_alter_48 : decode cX10_alter 48 = .ok (.iload_n 2, 1) := by decide +kernel
theorem dX10_alter_49 : decode cX10_alter 49 = .ok (.ixor, 1) := by decide +kernel
theorem dX10_alter_50 : decode cX10_alter 50 = .ok (.iastore, 1) := by decide +kernel
theorem dX10_alter_51 : decode cX10_alter 51 = .ok (.iload_n 3, 1) := by decide +kernel
theorem dX10_alter_52 : decode cX10_alter 52 = .ok (.ireturn, 1) := by decide +kernel
theorem dX10_cut_0 : decode cX10_cut 0 = .ok (.iload_n 1, 1) := by decide +kernel
theorem dX10_cut_1 : decode cX10_cut 1 = .ok (.ifCond .lt 14, 3) := by decide +kernel
theorem dX10_cut_4 : decode cX10_cut 4 = .ok (.iload_n 1, 1) := by decide +kernel
theorem dX10_cut_5 : decode cX10_cut 5 = .ok (.aload_n 0, 1) := by decide +kernel
theorem dX10_cut_6 : decode cX10_cut 6 = .ok (.getfield 30, 3) := by decide +kernel
theorem dX10_cut_9 : decode cX10_cut 9 = .ok (.getfield 110, 3) := by decide +kernel
theorem dX10_cut_12 : decode cX10_cut 12 = .ok (.if_icmp .le 6, 3) := by decide +kernel
theorem dX10_cut_15 : decode cX10_cut 15 = .ok (.bipush (-2), 2) := by decide +kernel
theorem dX10_cut_17 : decode cX10_cut 17 = .ok (.ireturn, 1) := by decide +kernel
theorem dX10_cut_18 : decode cX10_cut 18 = .ok (.aload_n 0, 1) := by decide +kernel
theorem dX10_cut_19 : decode cX10_cut 19 = .ok (.getfield 30, 3) := by decide +kernel
theorem dX10_cut_22 : decode cX10_cut 22 = .ok (.getfield 110, 3) := by decide +kernel
theorem dX10_cut_25 : decode cX10_cut 25 = .ok (.iload_n 1, 1) := by decide +kernel
theorem dX10_cut_26 : decode cX10_cut 26 = .ok (.isub, 1) := by decide +kernel
theorem dX10_cut_27 : decode cX10_cut 27 = .ok (.istore_n 2, 1) := by decide +kernel
theorem dX10_cut_28 : decode cX10_cut 28 = .ok (.aload_n 0, 1) := by decide +kernel
theorem dX10_cut_29 : decode cX10_cut 29 = .ok (.getfield 30, 3) := by decide +kernel
theorem dX10_cut_32 : decode cX10_cut 32 = .ok (.iload_n 1, 1) := by decide +kernel
theorem dX10_cut_33 : decode cX10_cut 33 = .ok (.putfield 110, 3) := by decide +kernel
theorem dX10_cut_36 : decode cX10_cut 36 = .ok (.iload_n 2, 1) := by decide +kernel
theorem dX10_cut_37 : decode cX10_cut 37 = .ok (.ireturn, 1) := by decide +kernel
theorem dX10_byteOf_0 : decode cX10_byteOf 0 = .ok (.iload_n 1, 1) := by decide +kernel
theorem dX10_byteOf_1 : decode cX10_byteOf 1 = .ok (.tableswitch 54 0 2 #[27, 36, 45], 27) := by decide +kernel
theorem dX10_byteOf_28 : decode cX10_byteOf 28 = .ok (.aload_n 0, 1) := by decide +kernel
theorem dX10_byteOf_29 : decode cX10_byteOf 29 = .ok (.getfield 30, 3) := by decide +kernel
theorem dX10_byteOf_32 : decode cX10_byteOf 32 = .ok (.iload_n 2, 1) := by decide +kernel
theorem dX10_byteOf_33 : decode cX10_byteOf 33 = .ok (.invokevirtual 145, 3) := by decide +kernel
theorem dX10_byteOf_36 : decode cX10_byteOf 36 = .ok (.ireturn, 1) := by decide +kernel
theorem dX10_byteOf_37 : decode cX10_byteOf 37 = .ok (.aload_n 0, 1) := by decide +kernel
theorem dX10_byteOf_38 : decode cX10_byteOf 38 = .ok (.getfield 33, 3) := by decide +kernel
theorem dX10_byteOf_41 : decode cX10_byteOf 41 = .ok (.iload_n 2, 1) := by decide +kernel
theorem dX10_byteOf_42 : decode cX10_byteOf 42 = .ok (.invokevirtual 145, 3) := by decide +kernel
theorem dX10_byteOf_45 : decode cX10_byteOf 45 = .ok (.ireturn, 1) := by decide +kernel
theorem dX10_byteOf_46 : decode cX10_byteOf 46 = .ok (.aload_n 0, 1) := by decide +kernel
theorem dX10_byteOf_47 : decode cX10_byteOf 47 = .ok (.getfield 26, 3) := by decide +kernel
theorem dX10_byteOf_50 : decode cX10_byteOf 50 = .ok (.iload_n 2, 1) := by decide +kernel
theorem dX10_byteOf_51 : decode cX10_byteOf 51 = .ok (.invokevirtual 145, 3) := by decide +kernel
theorem dX10_byteOf_54 : decode cX10_byteOf 54 = .ok (.ireturn, 1) := by decide +kernel
theorem dX10_byteOf_55 : decode cX10_byteOf 55 = .ok (.bipush (-2), 2) := by decide +kernel
theorem dX10_byteOf_57 : decode cX10_byteOf 57 = .ok (.ireturn, 1) := by decide +kernel
theorem dX10_hash_0 : decode cX10_hash 0 = .ok (.aload_n 0, 1) := by decide +kernel
theorem dX10_hash_1 : decode cX10_hash 1 = .ok (.iload_n 1, 1) := by decide +kernel
theorem dX10_hash_2 : decode cX10_hash 2 = .ok (.invokevirtual 97, 3) := by decide +kernel
theorem dX10_hash_5 : decode cX10_hash 5 = .ok (.astore_n 3, 1) := by decide +kernel
theorem dX10_hash_6 : decode cX10_hash 6 = .ok (.aload_n 3, 1) := by decide +kernel
theorem dX10_hash_7 : decode cX10_hash 7 = .ok (.ifnull 13, 3) := by decide +kernel
theorem dX10_hash_10 : decode cX10_hash 10 = .ok (.iload_n 2, 1) := by decide +kernel
theorem dX10_hash_11 : decode cX10_hash 11 = .ok (.ifCond .lt 9, 3) := by decide +kernel
theorem dX10_hash_14 : decode cX10_hash 14 = .ok (.iload_n 2, 1) := by decide +kernel
theorem dX10_hash_15 : decode cX10_hash 15 = .ok (.bipush 32, 2) := by decide +kernel
theorem dX10_hash_17 : decode cX10_hash 17 = .ok (.if_icmp .lt 6, 3) := by decide +kernel
theorem dX10_hash_20 : decode cX10_hash 20 = .ok (.bipush (-2), 2) := by decide +kernel
theorem dX10_hash_22 : decode cX10_hash 22 = .ok (.ireturn, 1) := by decide +kernel
theorem dX10_hash_23 : decode cX10_hash 23 = .ok (.aload_n 3, 1) := by decide +kernel
theorem dX10_hash_24 : decode cX10_hash 24 = .ok (.getfield 101, 3) := by decide +kernel
theorem dX10_hash_27 : decode cX10_hash 27 = .ok (.getfield 148, 3) := by decide +kernel
theorem dX10_hash_30 : decode cX10_hash 30 = .ok (.iload_n 2, 1) := by decide +kernel
theorem dX10_hash_31 : decode cX10_hash 31 = .ok (.iaload, 1) := by decide +kernel
theorem dX10_hash_32 : decode cX10_hash 32 = .ok (.ireturn, 1) := by decide +kernel
theorem dX10_about_0 : decode cX10_about 0 = .ok (.aload_n 0, 1) := by decide +kernel
theorem dX10_about_1 : decode cX10_about 1 = .ok (.iload_n 1, 1) := by decide +kernel
theorem dX10_about_2 : decode cX10_about 2 = .ok (.invokevirtual 97, 3) := by decide +kernel
theorem dX10_about_5 : decode cX10_about 5 = .ok (.astore_n 3, 1) := by decide +kernel
theorem dX10_about_6 : decode cX10_about 6 = .ok (.aload_n 3, 1) := by decide +kernel
theorem dX10_about_7 : decode cX10_about 7 = .ok (.ifnonnull 8, 3) := by decide +kernel
theorem dX10_about_10 : decode cX10_about 10 = .ok (.bipush (-2), 2) := by decide +kernel
theorem dX10_about_12 : decode cX10_about 12 = .ok (.goto 8, 3) := by decide +kernel
theorem dX10_about_15 : decode cX10_about 15 = .ok (.aload_n 3, 1) := by decide +kernel
theorem dX10_about_16 : decode cX10_about 16 = .ok (.iload_n 2, 1) := by decide +kernel
theorem dX10_about_17 : decode cX10_about 17 = .ok (.invokevirtual 151, 3) := by decide +kernel
theorem dX10_about_20 : decode cX10_about 20 = .ok (.ireturn, 1) := by decide +kernel
theorem dX10_same_0 : decode cX10_same 0 = .ok (.aload_n 0, 1) := by decide +kernel
theorem dX10_same_1 : decode cX10_same 1 = .ok (.iload_n 1, 1) := by decide +kernel
theorem dX10_same_2 : decode cX10_same 2 = .ok (.invokevirtual 97, 3) := by decide +kernel
theorem dX10_same_5 : decode cX10_same 5 = .ok (.astore_n 3, 1) := by decide +kernel
theorem dX10_same_6 : decode cX10_same 6 = .ok (.aload_n 0, 1) := by decide +kernel
theorem dX10_same_7 : decode cX10_same 7 = .ok (.iload_n 2, 1) := by decide +kernel
theorem dX10_same_8 : decode cX10_same 8 = .ok (.invokevirtual 97, 3) := by decide +kernel
theorem dX10_same_11 : decode cX10_same 11 = .ok (.astore 4, 2) := by decide +kernel
theorem dX10_same_13 : decode cX10_same 13 = .ok (.aload_n 3, 1) := by decide +kernel
theorem dX10_same_14 : decode cX10_same 14 = .ok (.ifnull 8, 3) := by decide +kernel
theorem dX10_same_17 : decode cX10_same 17 = .ok (.aload 4, 2) := by decide +kernel
theorem dX10_same_19 : decode cX10_same 19 = .ok (.ifnonnull 6, 3) := by decide +kernel
theorem dX10_same_22 : decode cX10_same 22 = .ok (.bipush (-2), 2) := by decide +kernel
theorem dX10_same_24 : decode cX10_same 24 = .ok (.ireturn, 1) := by decide +kernel
theorem dX10_same_25 : decode cX10_same 25 = .ok (.aload_n 3, 1) := by decide +kernel
theorem dX10_same_26 : decode cX10_same 26 = .ok (.invokevirtual 116, 3) := by decide +kernel
theorem dX10_same_29 : decode cX10_same 29 = .ok (.ifCond .eq 11, 3) := by decide +kernel
theorem dX10_same_32 : decode cX10_same 32 = .ok (.aload 4, 2) := by decide +kernel
theorem dX10_same_34 : decode cX10_same 34 = .ok (.invokevirtual 116, 3) := by decide +kernel
theorem dX10_same_37 : decode cX10_same 37 = .ok (.ifCond .ne 6, 3) := by decide +kernel
theorem dX10_same_40 : decode cX10_same 40 = .ok (.bipush (-3), 2) := by decide +kernel
theorem dX10_same_42 : decode cX10_same 42 = .ok (.ireturn, 1) := by decide +kernel

theorem dX11_tellsLong_30 : decode cX11_tellsLong 30 = .ok (.goto 4, 3) := by decide +kernel
theorem dX11_tellsLong_33 : decode cX11_tellsLong 33 = .ok (.iconst 0, 1) := by decide +kernel
theorem dX11_tellsLong_34 : decode cX11_tellsLong 34 = .ok (.iastore, 1) := by decide +kernel
theorem dX11_tellsLong_35 : decode cX11_tellsLong 35 = .ok (.iinc 3 1, 3) := by decide +kernel
theorem dX11_tellsLong_38 : decode cX11_tellsLong 38 = .ok (.goto (-36), 3) := by decide +kernel
theorem dX11_tellsLong_41 : decode cX11_tellsLong 41 = .ok (.return_, 1) := by decide +kernel
theorem dX11_tagOf_0 : decode cX11_tagOf 0 = .ok (.aload_n 0, 1) := by decide +kernel
theorem dX11_tagOf_1 : decode cX11_tagOf 1 = .ok (.aload_n 1, 1) := by decide +kernel
theorem dX11_tagOf_2 : decode cX11_tagOf 2 = .ok (.iload_n 2, 1) := by decide +kernel
theorem dX11_tagOf_3 : decode cX11_tagOf 3 = .ok (.iconst 0, 1) := by decide +kernel
theorem dX11_tagOf_4 : decode cX11_tagOf 4 = .ok (.iload_n 3, 1) := by decide +kernel
theorem dX11_tagOf_5 : decode cX11_tagOf 5 = .ok (.invokevirtual 353, 3) := by decide +kernel
theorem dX11_tagOf_8 : decode cX11_tagOf 8 = .ok (.aload_n 0, 1) := by decide +kernel
theorem dX11_tagOf_9 : decode cX11_tagOf 9 = .ok (.getfield 128, 3) := by decide +kernel
theorem dX11_tagOf_12 : decode cX11_tagOf 12 = .ok (.iconst 0, 1) := by decide +kernel
theorem dX11_tagOf_13 : decode cX11_tagOf 13 = .ok (.aload_n 0, 1) := by decide +kernel
theorem dX11_tagOf_14 : decode cX11_tagOf 14 = .ok (.getfield 143, 3) := by decide +kernel
theorem dX11_tagOf_17 : decode cX11_tagOf 17 = .ok (.iconst 0, 1) := by decide +kernel
theorem dX11_tagOf_18 : decode cX11_tagOf 18 = .ok (.bipush 32, 2) := by decide +kernel
theorem dX11_tagOf_20 : decode cX11_tagOf 20 = .ok (.invokestatic 270, 3) := by decide +kernel
theorem dX11_tagOf_23 : decode cX11_tagOf 23 = .ok (.iload 9, 2) := by decide +kernel
theorem dX11_tagOf_25 : decode cX11_tagOf 25 = .ok (.bipush 15, 2) := by decide +kernel
theorem dX11_tagOf_27 : decode cX11_tagOf 27 = .ok (.iadd, 1) := by decide +kernel
theorem dX11_tagOf_28 : decode cX11_tagOf 28 = .ok (.bipush 16, 2) := by decide +kernel
theorem dX11_tagOf_30 : decode cX11_tagOf 30 = .ok (.idiv, 1) := by decide +kernel
theorem dX11_tagOf_31 : decode cX11_tagOf 31 = .ok (.bipush 16, 2) := by decide +kernel
theorem dX11_tagOf_33 : decode cX11_tagOf 33 = .ok (.imul, 1) := by decide +kernel
theorem dX11_tagOf_34 : decode cX11_tagOf 34 = .ok (.istore 10, 2) := by decide +kernel
theorem dX11_tagOf_36 : decode cX11_tagOf 36 = .ok (.iconst 0, 1) := by decide +kernel
theorem dX11_tagOf_37 : decode cX11_tagOf 37 = .ok (.istore 11, 2) := by decide +kernel
theorem dX11_tagOf_39 : decode cX11_tagOf 39 = .ok (.iload 11, 2) := by decide +kernel
theorem dX11_tagOf_41 : decode cX11_tagOf 41 = .ok (.iload 6, 2) := by decide +kernel
theorem dX11_tagOf_43 : decode cX11_tagOf 43 = .ok (.iload 10, 2) := by decide +kernel
theorem dX11_tagOf_45 : decode cX11_tagOf 45 = .ok (.iadd, 1) := by decide +kernel
theorem dX11_tagOf_46 : decode cX11_tagOf 46 = .ok (.if_icmp .ge 59, 3) := by decide +kernel
theorem dX11_tagOf_49 : decode cX11_tagOf 49 = .ok (.aload_n 0, 1) := by decide +kernel
theorem dX11_tagOf_50 : decode cX11_tagOf 50 = .ok (.getfield 146, 3) := by decide +kernel
theorem dX11_tagOf_53 : decode cX11_tagOf 53 = .ok (.iload 11, 2) := by decide +kernel
theorem dX11_tagOf_55 : decode cX11_tagOf 55 = .ok (.iload 11, 2) := by decide +kernel
theorem dX11_tagOf_57 : decode cX11_tagOf 57 = .ok (.iload 6, 2) := by decide +kernel
theorem dX11_tagOf_59 : decode cX11_tagOf 59 = .ok (.if_icmp .ge 14, 3) := by decide +kernel
theorem dX11_tagOf_62 : decode cX11_tagOf 62 = .ok (.aload 4, 2) := by decide +kernel
theorem dX11_tagOf_64 : decode cX11_tagOf 64 = .ok (.iload 5, 2) := by decide +kernel
theorem dX11_tagOf_66 : decode cX11_tagOf 66 = .ok (.iload 11, 2) := by decide +kernel
theorem dX11_tagOf_68 : decode cX11_tagOf 68 = .ok (.iadd, 1) := by decide +kernel
theorem dX11_tagOf_69 : decode cX11_tagOf 69 = .ok (.iaload, 1) := by decide +kernel
theorem dX11_tagOf_70 : decode cX11_tagOf 70 = .ok (.goto 28, 3) := by decide +kernel
theorem dX11_tagOf_73 : decode cX11_tagOf 73 = .ok (.iload 11, 2) := by decide +kernel
theorem dX11_tagOf_75 : decode cX11_tagOf 75 = .ok (.iload 6, 2) := by decide +kernel
theorem dX11_tagOf_77 : decode cX11_tagOf 77 = .ok (.isub, 1) := by decide +kernel
theorem dX11_tagOf_78 : decode cX11_tagOf 78 = .ok (.iload 9, 2) := by decide +kernel
theorem dX11_tagOf_80 : decode cX11_tagOf 80 = .ok (.if_icmp .ge 17, 3) := by decide +kernel
theorem dX11_tagOf_83 : decode cX11_tagOf 83 = .ok (.aload 7, 2) := by decide +kernel
theorem dX11_tagOf_85 : decode cX11_tagOf 85 = .ok (.iload 8, 2) := by decide +kernel
theorem dX11_tagOf_87 : decode cX11_tagOf 87 = .ok (.iload 11, 2) := by decide +kernel
theorem dX11_tagOf_89 : decode cX11_tagOf 89 = .ok (.iadd, 1) := by decide +kernel
theorem dX11_tagOf_90 : decode cX11_tagOf 90 = .ok (.iload 6, 2) := by decide +kernel
theorem dX11_tagOf_92 : decode cX11_tagOf 92 = .ok (.isub, 1) := by decide +kernel
theorem dX11_tagOf_93 : decode cX11_tagOf 93 = .ok (.iaload, 1) := by decide +kernel
theorem dX11_tagOf_94 : decode cX11_tagOf 94 = .ok (.goto 4, 3) := by decide +kernel
theorem dX11_tagOf_97 : decode cX11_tagOf 97 = .ok (.iconst 0, 1) := by decide +kernel
theorem dX11_tagOf_98 : decode cX11_tagOf 98 = .ok (.iastore, 1) := by decide +kernel
theorem dX11_tagOf_99 : decode cX11_tagOf 99 = .ok (.iinc 11 1, 3) := by decide +kernel
theorem dX11_tagOf_102 : decode cX11_tagOf 102 = .ok (.goto (-63), 3) := by decide +kernel
theorem dX11_tagOf_105 : decode cX11_tagOf 105 = .ok (.aload_n 0, 1) := by decide +kernel
theorem dX11_tagOf_106 : decode cX11_tagOf 106 = .ok (.iload 6, 2) := by decide +kernel
theorem dX11_tagOf_108 : decode cX11_tagOf 108 = .ok (.iload 10, 2) := by decide +kernel
theorem dX11_tagOf_110 : decode cX11_tagOf 110 = .ok (.iadd, 1) := by decide +kernel
theorem dX11_tagOf_111 : decode cX11_tagOf 111 = .ok (.iload 6, 2) := by decide +kernel
theorem dX11_tagOf_113 : decode cX11_tagOf 113 = .ok (.invokevirtual 357, 3) := by decide +kernel
theorem dX11_tagOf_116 : decode cX11_tagOf 116 = .ok (.aload_n 0, 1) := by decide +kernel
theorem dX11_tagOf_117 : decode cX11_tagOf 117 = .ok (.iload 6, 2) := by decide +kernel
theorem dX11_tagOf_119 : decode cX11_tagOf 119 = .ok (.iload 10, 2) := by decide +kernel
theorem dX11_tagOf_121 : decode cX11_tagOf 121 = .ok (.iadd, 1) := by decide +kernel
theorem dX11_tagOf_122 : decode cX11_tagOf 122 = .ok (.bipush 8, 2) := by decide +kernel
theorem dX11_tagOf_124 : decode cX11_tagOf 124 = .ok (.iadd, 1) := by decide +kernel
theorem dX11_tagOf_125 : decode cX11_tagOf 125 = .ok (.iload 9, 2) := by decide +kernel
theorem dX11_tagOf_127 : decode cX11_tagOf 127 = .ok (.invokevirtual 357, 3) := by decide +kernel
theorem dX11_tagOf_130 : decode cX11_tagOf 130 = .ok (.aload_n 0, 1) := by decide +kernel
theorem dX11_tagOf_131 : decode cX11_tagOf 131 = .ok (.iload 6, 2) := by decide +kernel
theorem dX11_tagOf_133 : decode cX11_tagOf 133 = .ok (.iload 10, 2) := by decide +kernel
theorem dX11_tagOf_135 : decode cX11_tagOf 135 = .ok (.iadd, 1) := by decide +kernel
theorem dX11_tagOf_136 : decode cX11_tagOf 136 = .ok (.bipush 16, 2) := by decide +kernel
theorem dX11_tagOf_138 : decode cX11_tagOf 138 = .ok (.iadd, 1) := by decide +kernel
theorem dX11_tagOf_139 : decode cX11_tagOf 139 = .ok (.invokevirtual 360, 3) := by decide +kernel
theorem dX11_tagOf_142 : decode cX11_tagOf 142 = .ok (.return_, 1) := by decide +kernel
theorem dX11_ciphers_0 : decode cX11_ciphers 0 = .ok (.iconst 0, 1) := by decide +kernel
theorem dX11_ciphers_1 : decode cX11_ciphers 1 = .ok (.istore 7, 2) := by decide +kernel
theorem dX11_ciphers_3 : decode cX11_ciphers 3 = .ok (.iload 7, 2) := by decide +kernel
theorem dX11_ciphers_5 : decode cX11_ciphers 5 = .ok (.iload 6, 2) := by decide +kernel
theorem dX11_ciphers_7 : decode cX11_ciphers 7 = .ok (.if_icmp .ge 52, 3) := by decide +kernel
theorem dX11_ciphers_10 : decode cX11_ciphers 10 = .ok (.iload 7, 2) := by decide +kernel
theorem dX11_ciphers_12 : decode cX11_ciphers 12 = .ok (.bipush 64, 2) := by decide +kernel
theorem dX11_ciphers_14 : decode cX11_ciphers 14 = .ok (.irem, 1) := by decide +kernel
theorem dX11_ciphers_15 : decode cX11_ciphers 15 = .ok (.ifCond .ne 17, 3) := by decide +kernel
theorem dX11_ciphers_18 : decode cX11_ciphers 18 = .ok (.aload_n 0, 1) := by decide +kernel
theorem dX11_ciphers_19 : decode cX11_ciphers 19 = .ok (.aload_n 1, 1) := by decide +kernel
theorem dX11_ciphers_20 : decode cX11_ciphers 20 = .ok (.iload_n 2, 1) := by decide +kernel
theorem dX11_ciphers_21 : decode cX11_ciphers 21 = .ok (.iconst 1, 1) := by decide +kernel
theorem dX11_ciphers_22 : decode cX11_ciphers 22 = .ok (.iload 7, 2) := by decide +kernel
theorem dX11_ciphers_24 : decode cX11_ciphers 24 = .ok (.bipush 64, 2) := by decide +kernel
theorem dX11_ciphers_26 : decode cX11_ciphers 26 = .ok (.idiv, 1) := by decide +kernel
theorem dX11_ciphers_27 : decode cX11_ciphers 27 = .ok (.iadd, 1) := by decide +kernel
theorem dX11_ciphers_28 : decode cX11_ciphers 28 = .ok (.iload_n 3, 1) := by decide +kernel
theorem dX11_ciphers_29 : decode cX11_ciphers 29 = .ok (.invokevirtual 353, 3) := by decide +kernel
theorem dX11_ciphers_32 : decode cX11_ciphers 32 = .ok (.aload 4, 2) := by decide +kernel
theorem dX11_ciphers_34 : decode cX11_ciphers 34 = .ok (.iload 5, 2) := by decide +kernel
theorem dX11_ciphers_36 : decode cX11_ciphers 36 = .ok (.iload 7, 2) := by decide +kernel
theorem dX11_ciphers_38 : decode cX11_ciphers 38 = .ok (.iadd, 1) := by decide +kernel
theorem dX11_ciphers_39 : decode cX11_ciphers 39 = .ok (.dup2, 1) := by decide +kernel
theorem dX11_ciphers_40 : decode cX11_ciphers 40 = .ok (.iaload, 1) := by decide +kernel
theorem dX11_ciphers_41 : decode cX11_ciphers 41 = .ok (.aload_n 0, 1) := by decide +kernel
theorem dX11_ciphers_42 : decode cX11_ciphers 42 = .ok (.getfield 128, 3) := by decide +kernel
theorem dX11_ciphers_45 : decode cX11_ciphers 45 = .ok (.iload 7, 2) := by decide +kernel
theorem dX11_ciphers_47 : decode cX11_ciphers 47 = .ok (.bipush 64, 2) := by decide +kernel
theorem dX11_ciphers_49 : decode cX11_ciphers 49 = .ok (.irem, 1) := by decide +kernel
theorem dX11_ciphers_50 : decode cX11_ciphers 50 = .ok (.iaload, 1) := by decide +kernel
theorem dX11_ciphers_51 : decode cX11_ciphers 51 = .ok (.ixor, 1) := by decide +kernel
theorem dX11_ciphers_52 : decode cX11_ciphers 52 = .ok (.iastore, 1) := by decide +kernel
theorem dX11_ciphers_53 : decode cX11_ciphers 53 = .ok (.iinc 7 1, 3) := by decide +kernel
theorem dX11_ciphers_56 : decode cX11_ciphers 56 = .ok (.goto (-53), 3) := by decide +kernel
theorem dX11_ciphers_59 : decode cX11_ciphers 59 = .ok (.return_, 1) := by decide +kernel
theorem dX11_pattern_0 : decode cX11_pattern 0 = .ok (.aload_n 0, 1) := by decide +kernel
theorem dX11_pattern_1 : decode cX11_pattern 1 = .ok (.getfield 363, 3) := by decide +kernel
theorem dX11_pattern_4 : decode cX11_pattern 4 = .ok (.bipush 8, 2) := by decide +kernel
theorem dX11_pattern_6 : decode cX11_pattern 6 = .ok (.if_icmp .ne 6, 3) := by decide +kernel
theorem dX11_pattern_9 : decode cX11_pattern 9 = .ok (.bipush (-4), 2) := by decide +kernel
theorem dX11_pattern_11 : decode cX11_pattern 11 = .ok (.ireturn, 1) := by decide +kernel
theorem dX11_pattern_12 : decode cX11_pattern 12 = .ok (.aload_n 0, 1) := by decide +kernel
theorem dX11_pattern_13 : decode cX11_pattern 13 = .ok (.getfield 152, 3) := by decide +kernel
theorem dX11_pattern_16 : decode cX11_pattern 16 = .ok (.iconst 2, 1) := by decide +kernel
theorem dX11_pattern_17 : decode cX11_pattern 17 = .ok (.aload_n 0, 1) := by decide +kernel
theorem dX11_pattern_18 : decode cX11_pattern 18 = .ok (.getfield 363, 3) := by decide +kernel
theorem dX11_pattern_21 : decode cX11_pattern 21 = .ok (.imul, 1) := by decide +kernel
theorem dX11_pattern_22 : decode cX11_pattern 22 = .ok (.iload_n 1, 1) := by decide +kernel
theorem dX11_pattern_23 : decode cX11_pattern 23 = .ok (.bastore, 1) := by decide +kernel
theorem dX11_pattern_24 : decode cX11_pattern 24 = .ok (.aload_n 0, 1) := by decide +kernel
theorem dX11_pattern_25 : decode cX11_pattern 25 = .ok (.getfield 152, 3) := by decide +kernel
theorem dX11_pattern_28 : decode cX11_pattern 28 = .ok (.iconst 2, 1) := by decide +kernel
theorem dX11_pattern_29 : decode cX11_pattern 29 = .ok (.aload_n 0, 1) := by decide +kernel
theorem dX11_pattern_30 : decode cX11_pattern 30 = .ok (.getfield 363, 3) := by decide +kernel
theorem dX11_pattern_33 : decode cX11_pattern 33 = .ok (.imul, 1) := by decide +kernel
theorem dX11_pattern_34 : decode cX11_pattern 34 = .ok (.iconst 1, 1) := by decide +kernel
theorem dX11_pattern_35 : decode cX11_pattern 35 = .ok (.iadd, 1) := by decide +kernel
theorem dX11_pattern_36 : decode cX11_pattern 36 = .ok (.iload_n 2, 1) := by decide +kernel
theorem dX11_pattern_37 : decode cX11_pattern 37 = .ok (.bastore, 1) := by decide +kernel
theorem dX11_pattern_38 : decode cX11_pattern 38 = .ok (.aload_n 0, 1) := by decide +kernel
theorem dX11_pattern_39 : decode cX11_pattern 39 = .ok (.getfield 156, 3) := by decide +kernel
theorem dX11_pattern_42 : decode cX11_pattern 42 = .ok (.aload_n 0, 1) := by decide +kernel
theorem dX11_pattern_43 : decode cX11_pattern 43 = .ok (.getfield 363, 3) := by decide +kernel
theorem dX11_pattern_46 : decode cX11_pattern 46 = .ok (.iconst 0, 1) := by decide +kernel
theorem dX11_pattern_47 : decode cX11_pattern 47 = .ok (.iastore, 1) := by decide +kernel
theorem dX11_pattern_48 : decode cX11_pattern 48 = .ok (.aload_n 0, 1) := by decide +kernel
theorem dX11_pattern_49 : decode cX11_pattern 49 = .ok (.dup, 1) := by decide +kernel
theorem dX11_pattern_50 : decode cX11_pattern 50 = .ok (.getfield 363, 3) := by decide +kernel
theorem dX11_pattern_53 : decode cX11_pattern 53 = .ok (.iconst 1, 1) := by decide +kernel
theorem dX11_pattern_54 : decode cX11_pattern 54 = .ok (.iadd, 1) := by decide +kernel
theorem dX11_pattern_55 : decode cX11_pattern 55 = .ok (.putfield 363, 3) := by decide +kernel
theorem dX11_pattern_58 : decode cX11_pattern 58 = .ok (.aload_n 0, 1) := by decide +kernel
theorem dX11_pattern_59 : decode cX11_pattern 59 = .ok (.getfield 363, 3) := by decide +kernel
theorem dX11_pattern_62 : decode cX11_pattern 62 = .ok (.iconst 1, 1) := by decide +kernel
theorem dX11_pattern_63 : decode cX11_pattern 63 = .ok (.isub, 1) := by decide +kernel
theorem dX11_pattern_64 : decode cX11_pattern 64 = .ok (.ireturn, 1) := by decide +kernel
theorem dX11_isPattern_0 : decode cX11_isPattern 0 = .ok (.iload_n 1, 1) := by decide +kernel
theorem dX11_isPattern_1 : decode cX11_isPattern 1 = .ok (.iconst 0, 1) := by decide +kernel
theorem dX11_isPattern_2 : decode cX11_isPattern 2 = .ok (.aload_n 0, 1) := by decide +kernel
theorem dX11_isPattern_3 : decode cX11_isPattern 3 = .ok (.getfield 363, 3) := by decide +kernel
theorem dX11_isPattern_6 : decode cX11_isPattern 6 = .ok (.iconst 1, 1) := by decide +kernel
theorem dX11_isPattern_7 : decode cX11_isPattern 7 = .ok (.isub, 1) := by decide +kernel
theorem dX11_isPattern_8 : decode cX11_isPattern 8 = .ok (.invokestatic 366, 3) := by decide +kernel
theorem dX11_isPattern_11 : decode cX11_isPattern 11 = .ok (.ireturn, 1) := by decide +kernel
theorem dX11_isUsed_0 : decode cX11_isUsed 0 = .ok (.iconst 0, 1) := by decide +kernel
theorem dX11_isUsed_1 : decode cX11_isUsed 1 = .ok (.istore_n 2, 1) := by decide +kernel
theorem dX11_isUsed_2 : decode cX11_isUsed 2 = .ok (.iload_n 2, 1) := by decide +kernel
theorem dX11_isUsed_3 : decode cX11_isUsed 3 = .ok (.aload_n 0, 1) := by decide +kernel
theorem dX11_isUsed_4 : decode cX11_isUsed 4 = .ok (.getfield 370, 3) := by decide +kernel
theorem dX11_isUsed_7 : decode cX11_isUsed 7 = .ok (.if_icmp .ge 21, 3) := by decide +kernel
theorem dX11_isUsed_10 : decode cX11_isUsed 10 = .ok (.aload_n 0, 1) := by decide +kernel
theorem dX11_isUsed_11 : decode cX11_isUsed 11 = .ok (.getfield 177, 3) := by decide +kernel
theorem dX11_isUsed_14 : decode cX11_isUsed 14 = .ok (.iload_n 2, 1) := by decide +kernel
theorem dX11_isUsed_15 : decode cX11_isUsed 15 = .ok (.iaload, 1) := by decide +kernel
theorem dX11_isUsed_16 : decode cX11_isUsed 16 = .ok (.iload_n 1, 1) := by decide +kernel
theorem dX11_isUsed_17 : decode cX11_isUsed 17 = .ok (.if_icmp .ne 5, 3) := by decide +kernel
theorem dX11_isUsed_20 : decode cX11_isUsed 20 = .ok (.iconst 1, 1) := by decide +kernel
theorem dX11_isUsed_21 : decode cX11_isUsed 21 = .ok (.ireturn, 1) := by decide +kernel
theorem dX11_isUsed_22 : decode cX11_isUsed 22 = .ok (.iinc 2 1, 3) := by decide +kernel
theorem dX11_isUsed_25 : decode cX11_isUsed 25 = .ok (.goto (-23), 3) := by decide +kernel
theorem dX11_isUsed_28 : decode cX11_isUsed 28 = .ok (.iconst 0, 1) := by decide +kernel
theorem dX11_isUsed_29 : decode cX11_isUsed 29 = .ok (.ireturn, 1) := by decide +kernel
theorem dX11_message_0 : decode cX11_message 0 = .ok (.aload_n 0, 1) := by decide +kernel
theorem dX11_message_1 : decode cX11_message 1 = .ok (.iload_n 1, 1) := by decide +kernel
theorem dX11_message_2 : decode cX11_message 2 = .ok (.invokevirtual 373, 3) := by decide +kernel
theorem dX11_message_5 : decode cX11_message 5 = .ok (.ifCond .ne 6, 3) := by decide +kernel
theorem dX11_message_8 : decode cX11_message 8 = .ok (.bipush (-2), 2) := by decide +kernel
theorem dX11_message_10 : decode cX11_message 10 = .ok (.ireturn, 1) := by decide +kernel
theorem dX11_message_11 : decode cX11_message 11 = .ok (.aload_n 0, 1) := by decide +kernel
theorem dX11_message_12 : decode cX11_message 12 = .ok (.iload_n 1, 1) := by decide +kernel
theorem dX11_message_13 : decode cX11_message 13 = .ok (.invokevirtual 377, 3) := by decide +kernel
theorem dX11_message_16 : decode cX11_message 16 = .ok (.ifCond .eq 6, 3) := by decide +kernel
theorem dX11_message_19 : decode cX11_message 19 = .ok (.bipush (-3), 2) := by decide +kernel
theorem dX11_message_21 : decode cX11_message 21 = .ok (.ireturn, 1) := by decide +kernel
theorem dX11_message_22 : decode cX11_message 22 = .ok (.aload_n 0, 1) := by decide +kernel
theorem dX11_message_23 : decode cX11_message 23 = .ok (.getfield 156, 3) := by decide +kernel
theorem dX11_message_26 : decode cX11_message 26 = .ok (.iload_n 1, 1) := by decide +kernel
theorem dX11_message_27 : decode cX11_message 27 = .ok (.iaload, 1) := by decide +kernel
theorem dX11_message_28 : decode cX11_message 28 = .ok (.bipush 6, 2) := by decide +kernel
theorem dX11_message_30 : decode cX11_message 30 = .ok (.if_icmp .ne 6, 3) := by decide +kernel
theorem dX11_message_33 : decode cX11_message 33 = .ok (.bipush (-4), 2) := by decide +kernel
theorem dX11_message_35 : decode cX11_message 35 = .ok (.ireturn, 1) := by decide +kernel
theorem dX11_message_36 : decode cX11_message 36 = .ok (.aload_n 0, 1) := by decide +kernel
theorem dX11_message_37 : decode cX11_message 37 = .ok (.getfield 159, 3) := by decide +kernel
theorem dX11_message_40 : decode cX11_message 40 = .ok (.bipush 6, 2) := by decide +kernel
theorem dX11_message_42 : decode cX11_message 42 = .ok (.iload_n 1, 1) := by decide +kernel
theorem dX11_message_43 : decode cX11_message 43 = .ok (.imul, 1) := by decide +kernel
theorem dX11_message_44 : decode cX11_message 44 = .ok (.aload_n 0, 1) := by decide +kernel
theorem dX11_message_45 : decode cX11_message 45 = .ok (.getfield 156, 3) := by decide +kernel
theorem dX11_message_48 : decode cX11_message 48 = .ok (.iload_n 1, 1) := by decide +kernel
theorem dX11_message_49 : decode cX11_message 49 = .ok (.iaload, 1) := by decide +kernel
theorem dX11_message_50 : decode cX11_message 50 = .ok (.iadd, 1) := by decide +kernel
theorem dX11_message_51 : decode cX11_message 51 = .ok (.iconst 0, 1) := by decide +kernel
theorem dX11_message_52 : decode cX11_message 52 = .ok (.iastore, 1) := by decide +kernel
theorem dX11_message_53 : decode cX11_message 53 = .ok (.aload_n 0, 1) := by decide +kernel
theorem dX11_message_54 : decode cX11_message 54 = .ok (.getfield 156, 3) := by decide +kernel
theorem dX11_message_57 : decode cX11_message 57 = .ok (.iload_n 1, 1) := by decide +kernel
theorem dX11_message_58 : decode cX11_message 58 = .ok (.dup2, 1) := by decide +kernel
theorem dX11_message_59 : decode cX11_message 59 = .ok (.iaload, 1) := by decide +kernel
theorem dX11_message_60 : decode cX11_message 60 = .ok (.iconst 1, 1) := by decide +kernel
theorem dX11_message_61 : decode cX11_message 61 = .ok (.iadd, 1) := by decide +kernel
theorem dX11_message_62 : decode cX11_message 62 = .ok (.iastore, 1) := by decide +kernel
theorem dX11_message_63 : decode cX11_message 63 = .ok (.aload_n 0, 1) := by decide +kernel
theorem dX11_message_64 : decode cX11_message 64 = .ok (.getfield 156, 3) := by decide +kernel
theorem dX11_message_67 : decode cX11_message 67 = .ok (.iload_n 1, 1) := by decide +kernel
theorem dX11_message_68 : decode cX11_message 68 = .ok (.iaload, 1) := by decide +kernel
theorem dX11_message_69 : decode cX11_message 69 = .ok (.ireturn, 1) := by decide +kernel
theorem dX11_token_0 : decode cX11_token 0 = .ok (.aload_n 0, 1) := by decide +kernel
theorem dX11_token_1 : decode cX11_token 1 = .ok (.iload_n 1, 1) := by decide +kernel
theorem dX11_token_2 : decode cX11_token 2 = .ok (.invokevirtual 373, 3) := by decide +kernel
theorem dX11_token_5 : decode cX11_token 5 = .ok (.ifCond .eq 12, 3) := by decide +kernel
theorem dX11_token_8 : decode cX11_token 8 = .ok (.iload_n 2, 1) := by decide +kernel
theorem dX11_token_9 : decode cX11_token 9 = .ok (.iconst 0, 1) := by decide +kernel
theorem dX11_token_10 : decode cX11_token 10 = .ok (.iconst 5, 1) := by decide +kernel
theorem dX11_token_11 : decode cX11_token 11 = .ok (.invokestatic 366, 3) := by decide +kernel
theorem dX11_token_14 : decode cX11_token 14 = .ok (.ifCond .ne 6, 3) := by decide +kernel
theorem dX11_token_17 : decode cX11_token 17 = .ok (.bipush (-2), 2) := by decide +kernel
theorem dX11_token_19 : decode cX11_token 19 = .ok (.ireturn, 1) := by decide +kernel
theorem dX11_token_20 : decode cX11_token 20 = .ok (.aload_n 0, 1) := by decide +kernel
theorem dX11_token_21 : decode cX11_token 21 = .ok (.getfield 156, 3) := by decide +kernel
theorem dX11_token_24 : decode cX11_token 24 = .ok (.iload_n 1, 1) := by decide +kernel
theorem dX11_token_25 : decode cX11_token 25 = .ok (.iaload, 1) := by decide +kernel
theorem dX11_token_26 : decode cX11_token 26 = .ok (.ifCond .eq 11, 3) := by decide +kernel
theorem dX11_token_29 : decode cX11_token 29 = .ok (.aload_n 0, 1) := by decide +kernel
theorem dX11_token_30 : decode cX11_token 30 = .ok (.iload_n 1, 1) := by decide +kernel
theorem dX11_token_31 : decode cX11_token 31 = .ok (.invokevirtual 377, 3) := by decide +kernel
theorem dX11_token_34 : decode cX11_token 34 = .ok (.ifCond .eq 6, 3) := by decide +kernel
theorem dX11_token_37 : decode cX11_token 37 = .ok (.bipush (-3), 2) := by decide +kernel
theorem dX11_token_39 : decode cX11_token 39 = .ok (.ireturn, 1) := by decide +kernel
theorem dX11_token_40 : decode cX11_token 40 = .ok (.bipush 6, 2) := by decide +kernel
theorem dX11_token_42 : decode cX11_token 42 = .ok (.iload_n 1, 1) := by decide +kernel
theorem dX11_token_43 : decode cX11_token 43 = .ok (.imul, 1) := by decide +kernel
theorem dX11_token_44 : decode cX11_token 44 = .ok (.aload_n 0, 1) := by decide +kernel
theorem dX11_token_45 : decode cX11_token 45 = .ok (.getfield 156, 3) := by decide +kernel
theorem dX11_token_48 : decode cX11_token 48 = .ok (.iload_n 1, 1) := by decide +kernel
theorem dX11_token_49 : decode cX11_token 49 = .ok (.iaload, 1) := by decide +kernel
theorem dX11_token_50 : decode cX11_token 50 = .ok (.iadd, 1) := by decide +kernel
theorem dX11_token_51 : decode cX11_token 51 = .ok (.iconst 1, 1) := by decide +kernel
theorem dX11_token_52 : decode cX11_token 52 = .ok (.isub, 1) := by decide +kernel
theorem dX11_token_53 : decode cX11_token 53 = .ok (.istore_n 3, 1) := by decide +kernel
theorem dX11_token_54 : decode cX11_token 54 = .ok (.aload_n 0, 1) := by decide +kernel
theorem dX11_token_55 : decode cX11_token 55 = .ok (.getfield 159, 3) := by decide +kernel
theorem dX11_token_58 : decode cX11_token 58 = .ok (.iload_n 3, 1) := by decide +kernel
theorem dX11_token_59 : decode cX11_token 59 = .ok (.iaload, 1) := by decide +kernel
theorem dX11_token_60 : decode cX11_token 60 = .ok (.iconst 5, 1) := by decide +kernel
theorem dX11_token_61 : decode cX11_token 61 = .ok (.if_icmp .ne 6, 3) := by decide +kernel
theorem dX11_token_64 : decode cX11_token 64 = .ok (.bipush (-4), 2) := by decide +kernel
theorem dX11_token_66 : decode cX11_token 66 = .ok (.ireturn, 1) := by decide +kernel
theorem dX11_token_67 : decode cX11_token 67 = .ok (.aload_n 0, 1) := by decide +kernel
theorem dX11_token_68 : decode cX11_token 68 = .ok (.getfield 162, 3) := by decide +kernel
theorem dX11_token_71 : decode cX11_token 71 = .ok (.iconst 5, 1) := by decide +kernel
theorem dX11_token_72 : decode cX11_token 72 = .ok (.iload_n 3, 1) := by decide +kernel
theorem dX11_token_73 : decode cX11_token 73 = .ok (.imul, 1) := by decide +kernel
theorem dX11_token_74 : decode cX11_token 74 = .ok (.aload_n 0, 1) := by decide +kernel
theorem dX11_token_75 : decode cX11_token 75 = .ok (.getfield 159, 3) := by decide +kernel
theorem dX11_token_78 : decode cX11_token 78 = .ok (.iload_n 3, 1) := by decide +kernel
theorem dX11_token_79 : decode cX11_token 79 = .ok (.iaload, 1) := by decide +kernel
theorem dX11_token_80 : decode cX11_token 80 = .ok (.iadd, 1) := by decide +kernel
theorem dX11_token_81 : decode cX11_token 81 = .ok (.iload_n 2, 1) := by decide +kernel
theorem dX11_token_82 : decode cX11_token 82 = .ok (.iastore, 1) := by decide +kernel
theorem dX11_token_83 : decode cX11_token 83 = .ok (.aload_n 0, 1) := by decide +kernel
theorem dX11_token_84 : decode cX11_token 84 = .ok (.getfield 159, 3) := by decide +kernel
theorem dX11_token_87 : decode cX11_token 87 = .ok (.iload_n 3, 1) := by decide +kernel
theorem dX11_token_88 : decode cX11_token 88 = .ok (.dup2, 1) := by decide +kernel
theorem dX11_token_89 : decode cX11_token 89 = .ok (.iaload, 1) := by decide +kernel
theorem dX11_token_90 : decode cX11_token 90 = .ok (.iconst 1, 1) := by decide +kernel
theorem dX11_token_91 : decode cX11_token 91 = .ok (.iadd, 1) := by decide +kernel
theorem dX11_token_92 : decode cX11_token 92 = .ok (.iastore, 1) := by decide +kernel
theorem dX11_token_93 : decode cX11_token 93 = .ok (.aload_n 0, 1) := by decide +kernel
theorem dX11_token_94 : decode cX11_token 94 = .ok (.getfield 159, 3) := by decide +kernel
theorem dX11_token_97 : decode cX11_token 97 = .ok (.iload_n 3, 1) := by decide +kernel
theorem dX11_token_98 : decode cX11_token 98 = .ok (.iaload, 1) := by decide +kernel
theorem dX11_token_99 : decode cX11_token 99 = .ok (.ireturn, 1) := by decide +kernel
theorem dX11_seals_0 : decode cX11_seals 0 = .ok (.iload_n 1, 1) := by decide +kernel
theorem dX11_seals_1 : decode cX11_seals 1 = .ok (.ifCond .ne 47, 3) := by decide +kernel
theorem dX11_seals_4 : decode cX11_seals 4 = .ok (.aload_n 0, 1) := by decide +kernel
theorem dX11_seals_5 : decode cX11_seals 5 = .ok (.getfield 171, 3) := by decide +kernel
theorem dX11_seals_8 : decode cX11_seals 8 = .ok (.iconst 4, 1) := by decide +kernel
theorem dX11_seals_9 : decode cX11_seals 9 = .ok (.baload, 1) := by decide +kernel
theorem dX11_seals_10 : decode cX11_seals 10 = .ok (.ifCond .eq 12, 3) := by decide +kernel
theorem dX11_seals_13 : decode cX11_seals 13 = .ok (.aload_n 0, 1) := by decide +kernel
theorem dX11_seals_14 : decode cX11_seals 14 = .ok (.getfield 171, 3) := by decide +kernel
theorem dX11_seals_17 : decode cX11_seals 17 = .ok (.iconst 2, 1) := by decide +kernel
theorem dX11_seals_18 : decode cX11_seals 18 = .ok (.baload, 1) := by decide +kernel
theorem dX11_seals_19 : decode cX11_seals 19 = .ok (.ifCond .eq 21, 3) := by decide +kernel
theorem dX11_seals_22 : decode cX11_seals 22 = .ok (.aload_n 0, 1) := by decide +kernel
theorem dX11_seals_23 : decode cX11_seals 23 = .ok (.getfield 171, 3) := by decide +kernel
theorem dX11_seals_26 : decode cX11_seals 26 = .ok (.iconst 5, 1) := by decide +kernel
theorem dX11_seals_27 : decode cX11_seals 27 = .ok (.baload, 1) := by decide +kernel
theorem dX11_seals_28 : decode cX11_seals 28 = .ok (.ifCond .eq 16, 3) := by decide +kernel
theorem dX11_seals_31 : decode cX11_seals 31 = .ok (.aload_n 0, 1) := by decide +kernel
theorem dX11_seals_32 : decode cX11_seals 32 = .ok (.getfield 171, 3) := by decide +kernel
theorem dX11_seals_35 : decode cX11_seals 35 = .ok (.iconst 3, 1) := by decide +kernel
theorem dX11_seals_36 : decode cX11_seals 36 = .ok (.baload, 1) := by decide +kernel
theorem dX11_seals_37 : decode cX11_seals 37 = .ok (.ifCond .ne 7, 3) := by decide +kernel
theorem dX11_seals_40 : decode cX11_seals 40 = .ok (.iconst 1, 1) := by decide +kernel
theorem dX11_seals_41 : decode cX11_seals 41 = .ok (.goto 48, 3) := by decide +kernel
theorem dX11_seals_44 : decode cX11_seals 44 = .ok (.iconst 0, 1) := by decide +kernel
theorem dX11_seals_45 : decode cX11_seals 45 = .ok (.goto 44, 3) := by decide +kernel
theorem dX11_seals_48 : decode cX11_seals 48 = .ok (.aload_n 0, 1) := by decide +kernel
theorem dX11_seals_49 : decode cX11_seals 49 = .ok (.getfield 171, 3) := by decide +kernel
theorem dX11_seals_52 : decode cX11_seals 52 = .ok (.iconst 3, 1) := by decide +kernel
theorem dX11_seals_53 : decode cX11_seals 53 = .ok (.baload, 1) := by decide +kernel
theorem dX11_seals_54 : decode cX11_seals 54 = .ok (.ifCond .eq 12, 3) := by decide +kernel
theorem dX11_seals_57 : decode cX11_seals 57 = .ok (.aload_n 0, 1) := by decide +kernel
theorem dX11_seals_58 : decode cX11_seals 58 = .ok (.getfield 171, 3) := by decide +kernel
theorem dX11_seals_61 : decode cX11_seals 61 = .ok (.iconst 2, 1) := by decide +kernel
theorem dX11_seals_62 : decode cX11_seals 62 = .ok (.baload, 1) := by decide +kernel
theorem dX11_seals_63 : decode cX11_seals 63 = .ok (.ifCond .eq 21, 3) := by decide +kernel
theorem dX11_seals_66 : decode cX11_seals 66 = .ok (.aload_n 0, 1) := by decide +kernel
theorem dX11_seals_67 : decode cX11_seals 67 = .ok (.getfield 171, 3) := by decide +kernel
theorem dX11_seals_70 : decode cX11_seals 70 = .ok (.iconst 5, 1) := by decide +kernel
theorem dX11_seals_71 : decode cX11_seals 71 = .ok (.baload, 1) := by decide +kernel
theorem dX11_seals_72 : decode cX11_seals 72 = .ok (.ifCond .eq 16, 3) := by decide +kernel
theorem dX11_seals_75 : decode cX11_seals 75 = .ok (.aload_n 0, 1) := by decide +kernel
theorem dX11_seals_76 : decode cX11_seals 76 = .ok (.getfield 171, 3) := by decide +kernel
theorem dX11_seals_79 : decode cX11_seals 79 = .ok (.iconst 4, 1) := by decide +kernel
theorem dX11_seals_80 : decode cX11_seals 80 = .ok (.baload, 1) := by decide +kernel
theorem dX11_seals_81 : decode cX11_seals 81 = .ok (.ifCond .ne 7, 3) := by decide +kernel
theorem dX11_seals_84 : decode cX11_seals 84 = .ok (.iconst 1, 1) := by decide +kernel
theorem dX11_seals_85 : decode cX11_seals 85 = .ok (.goto 4, 3) := by decide +kernel
theorem dX11_seals_88 : decode cX11_seals 88 = .ok (.iconst 0, 1) := by decide +kernel
theorem dX11_seals_89 : decode cX11_seals 89 = .ok (.istore_n 2, 1) := by decide +kernel
theorem dX11_seals_90 : decode cX11_seals 90 = .ok (.aload_n 0, 1) := by decide +kernel
theorem dX11_seals_91 : decode cX11_seals 91 = .ok (.getfield 174, 3) := by decide +kernel
theorem dX11_seals_94 : decode cX11_seals 94 = .ok (.iconst 5, 1) := by decide +kernel
theorem dX11_seals_95 : decode cX11_seals 95 = .ok (.aload_n 0, 1) := by decide +kernel
theorem dX11_seals_96 : decode cX11_seals 96 = .ok (.getfield 174, 3) := by decide +kernel
theorem dX11_seals_99 : decode cX11_seals 99 = .ok (.iconst 5, 1) := by decide +kernel
theorem dX11_seals_100 : decode cX11_seals 100 = .ok (.baload, 1) := by decide +kernel
theorem dX11_seals_101 : decode cX11_seals 101 = .ok (.ifCond .ne 7, 3) := by decide +kernel
theorem dX11_seals_104 : decode cX11_seals 104 = .ok (.iload_n 2, 1) := by decide +kernel
theorem dX11_seals_105 : decode cX11_seals 105 = .ok (.ifCond .eq 7, 3) := by decide +kernel
theorem dX11_seals_108 : decode cX11_seals 108 = .ok (.iconst 1, 1) := by decide +kernel
theorem dX11_seals_109 : decode cX11_seals 109 = .ok (.goto 4, 3) := by decide +kernel
theorem dX11_seals_112 : decode cX11_seals 112 = .ok (.iconst 0, 1) := by decide +kernel
theorem dX11_seals_113 : decode cX11_seals 113 = .ok (.bastore, 1) := by decide +kernel
theorem dX11_seals_114 : decode cX11_seals 114 = .ok (.return_, 1) := by decide +kernel
theorem dX11_judges_0 : decode cX11_judges 0 = .ok (.iload_n 2, 1) := by decide +kernel
theorem dX11_judges_1 : decode cX11_judges 1 = .ok (.ifCond .ne 42, 3) := by decide +kernel
theorem dX11_judges_4 : decode cX11_judges 4 = .ok (.aload_n 0, 1) := by decide +kernel
theorem dX11_judges_5 : decode cX11_judges 5 = .ok (.getfield 174, 3) := by decide +kernel
theorem dX11_judges_8 : decode cX11_judges 8 = .ok (.iconst 2, 1) := by decide +kernel
theorem dX11_judges_9 : decode cX11_judges 9 = .ok (.aload_n 0, 1) := by decide +kernel
theorem dX11_judges_10 : decode cX11_judges 10 = .ok (.getfield 174, 3) := by decide +kernel
theorem dX11_judges_13 : decode cX11_judges 13 = .ok (.iconst 2, 1) := by decide +kernel
theorem dX11_judges_14 : decode cX11_judges 14 = .ok (.baload, 1) := by decide +kernel
theorem dX11_judges_15 : decode cX11_judges 15 = .ok (.ifCond .ne 12, 3) := by decide +kernel
theorem dX11_judges_18 : decode cX11_judges 18 = .ok (.aload_n 0, 1) := by decide +kernel
theorem dX11_judges_19 : decode cX11_judges 19 = .ok (.getfield 165, 3) := by decide +kernel
theorem dX11_judges_22 : decode cX11_judges 22 = .ok (.iload_n 1, 1) := by decide +kernel
theorem dX11_judges_23 : decode cX11_judges 23 = .ok (.baload, 1) := by decide +kernel
theorem dX11_judges_24 : decode cX11_judges 24 = .ok (.ifCond .eq 7, 3) := by decide +kernel
theorem dX11_judges_27 : decode cX11_judges 27 = .ok (.iconst 1, 1) := by decide +kernel
theorem dX11_judges_28 : decode cX11_judges 28 = .ok (.goto 4, 3) := by decide +kernel
theorem dX11_judges_31 : decode cX11_judges 31 = .ok (.iconst 0, 1) := by decide +kernel
theorem dX11_judges_32 : decode cX11_judges 32 = .ok (.bastore, 1) := by decide +kernel
theorem dX11_judges_33 : decode cX11_judges 33 = .ok (.aload_n 0, 1) := by decide +kernel
theorem dX11_judges_34 : decode cX11_judges 34 = .ok (.getfield 165, 3) := by decide +kernel
theorem dX11_judges_37 : decode cX11_judges 37 = .ok (.iload_n 1, 1) := by decide +kernel
theorem dX11_judges_38 : decode cX11_judges 38 = .ok (.iconst 1, 1) := by decide +kernel
theorem dX11_judges_39 : decode cX11_judges 39 = .ok (.bastore, 1) := by decide +kernel
theorem dX11_judges_40 : decode cX11_judges 40 = .ok (.goto 170, 3) := by decide +kernel
theorem dX11_judges_43 : decode cX11_judges 43 = .ok (.iload_n 2, 1) := by decide +kernel
theorem dX11_judges_44 : decode cX11_judges 44 = .ok (.iconst 1, 1) := by decide +kernel
theorem dX11_judges_45 : decode cX11_judges 45 = .ok (.if_icmp .ne 47, 3) := by decide +kernel
theorem dX11_judges_48 : decode cX11_judges 48 = .ok (.aload_n 0, 1) := by decide +kernel
theorem dX11_judges_49 : decode cX11_judges 49 = .ok (.getfield 174, 3) := by decide +kernel
theorem dX11_judges_52 : decode cX11_judges 52 = .ok (.iconst 2, 1) := by decide +kernel
theorem dX11_judges_53 : decode cX11_judges 53 = .ok (.aload_n 0, 1) := by decide +kernel
theorem dX11_judges_54 : decode cX11_judges 54 = .ok (.getfield 174, 3) := by decide +kernel
theorem dX11_judges_57 : decode cX11_judges 57 = .ok (.iconst 2, 1) := by decide +kernel
theorem dX11_judges_58 : decode cX11_judges 58 = .ok (.baload, 1) := by decide +kernel
theorem dX11_judges_59 : decode cX11_judges 59 = .ok (.ifCond .ne 12, 3) := by decide +kernel
theorem dX11_judges_62 : decode cX11_judges 62 = .ok (.aload_n 0, 1) := by decide +kernel
theorem dX11_judges_63 : decode cX11_judges 63 = .ok (.getfield 168, 3) := by decide +kernel
theorem dX11_judges_66 : decode cX11_judges 66 = .ok (.iload_n 1, 1) := by decide +kernel
theorem dX11_judges_67 : decode cX11_judges 67 = .ok (.baload, 1) := by decide +kernel
theorem dX11_judges_68 : decode cX11_judges 68 = .ok (.ifCond .eq 7, 3) := by decide +kernel
theorem dX11_judges_71 : decode cX11_judges 71 = .ok (.iconst 1, 1) := by decide +kernel
theorem dX11_judges_72 : decode cX11_judges 72 = .ok (.goto 4, 3) := by decide +kernel
theorem dX11_judges_75 : decode cX11_judges 75 = .ok (.iconst 0, 1) := by decide +kernel
theorem dX11_judges_76 : decode cX11_judges 76 = .ok (.bastore, 1) := by decide +kernel
theorem dX11_judges_77 : decode cX11_judges 77 = .ok (.aload_n 0, 1) := by decide +kernel
theorem dX11_judges_78 : decode cX11_judges 78 = .ok (.getfield 168, 3) := by decide +kernel
theorem dX11_judges_81 : decode cX11_judges 81 = .ok (.iload_n 1, 1) := by decide +kernel
theorem dX11_judges_82 : decode cX11_judges 82 = .ok (.iconst 1, 1) := by decide +kernel
theorem dX11_judges_83 : decode cX11_judges 83 = .ok (.bastore, 1) := by decide +kernel
theorem dX11_judges_84 : decode cX11_judges 84 = .ok (.aload_n 0, 1) := by decide +kernel
theorem dX11_judges_85 : decode cX11_judges 85 = .ok (.iload_n 1, 1) := by decide +kernel
theorem dX11_judges_86 : decode cX11_judges 86 = .ok (.invokevirtual 380, 3) := by decide +kernel
theorem dX11_judges_89 : decode cX11_judges 89 = .ok (.goto 121, 3) := by decide +kernel
theorem dX11_judges_92 : decode cX11_judges 92 = .ok (.iload_n 2, 1) := by decide +kernel
theorem dX11_judges_93 : decode cX11_judges 93 = .ok (.iconst 2, 1) := by decide +kernel
theorem dX11_judges_94 : decode cX11_judges 94 = .ok (.if_icmp .eq 8, 3) := by decide +kernel
theorem dX11_judges_97 : decode cX11_judges 97 = .ok (.iload_n 2, 1) := by decide +kernel
theorem dX11_judges_98 : decode cX11_judges 98 = .ok (.iconst 3, 1) := by decide +kernel
theorem dX11_judges_99 : decode cX11_judges 99 = .ok (.if_icmp .ne 12, 3) := by decide +kernel
theorem dX11_judges_102 : decode cX11_judges 102 = .ok (.aload_n 0, 1) := by decide +kernel
theorem dX11_judges_103 : decode cX11_judges 103 = .ok (.getfield 165, 3) := by decide +kernel
theorem dX11_judges_106 : decode cX11_judges 106 = .ok (.iconst 0, 1) := by decide +kernel
theorem dX11_judges_107 : decode cX11_judges 107 = .ok (.baload, 1) := by decide +kernel
theorem dX11_judges_108 : decode cX11_judges 108 = .ok (.goto 9, 3) := by decide +kernel
theorem dX11_judges_111 : decode cX11_judges 111 = .ok (.aload_n 0, 1) := by decide +kernel
theorem dX11_judges_112 : decode cX11_judges 112 = .ok (.getfield 168, 3) := by decide +kernel
theorem dX11_judges_115 : decode cX11_judges 115 = .ok (.iconst 0, 1) := by decide +kernel
theorem dX11_judges_116 : decode cX11_judges 116 = .ok (.baload, 1) := by decide +kernel
theorem dX11_judges_117 : decode cX11_judges 117 = .ok (.istore_n 3, 1) := by decide +kernel
theorem dX11_judges_118 : decode cX11_judges 118 = .ok (.iload_n 2, 1) := by decide +kernel
theorem dX11_judges_119 : decode cX11_judges 119 = .ok (.iconst 2, 1) := by decide +kernel
theorem dX11_judges_120 : decode cX11_judges 120 = .ok (.if_icmp .eq 8, 3) := by decide +kernel
theorem dX11_judges_123 : decode cX11_judges 123 = .ok (.iload_n 2, 1) := by decide +kernel
theorem dX11_judges_124 : decode cX11_judges 124 = .ok (.iconst 4, 1) := by decide +kernel
theorem dX11_judges_125 : decode cX11_judges 125 = .ok (.if_icmp .ne 12, 3) := by decide +kernel
theorem dX11_judges_128 : decode cX11_judges 128 = .ok (.aload_n 0, 1) := by decide +kernel
theorem dX11_judges_129 : decode cX11_judges 129 = .ok (.getfield 165, 3) := by decide +kernel
theorem dX11_judges_132 : decode cX11_judges 132 = .ok (.iconst 1, 1) := by decide +kernel
theorem dX11_judges_133 : decode cX11_judges 133 = .ok (.baload, 1) := by decide +kernel
theorem dX11_judges_134 : decode cX11_judges 134 = .ok (.goto 9, 3) := by decide +kernel
theorem dX11_judges_137 : decode cX11_judges 137 = .ok (.aload_n 0, 1) := by decide +kernel
theorem dX11_judges_138 : decode cX11_judges 138 = .ok (.getfield 168, 3) := by decide +kernel
theorem dX11_judges_141 : decode cX11_judges 141 = .ok (.iconst 1, 1) := by decide +kernel
theorem dX11_judges_142 : decode cX11_judges 142 = .ok (.baload, 1) := by decide +kernel
theorem dX11_judges_143 : decode cX11_judges 143 = .ok (.istore 4, 2) := by decide +kernel
theorem dX11_judges_145 : decode cX11_judges 145 = .ok (.aload_n 0, 1) := by decide +kernel
theorem dX11_judges_146 : decode cX11_judges 146 = .ok (.getfield 174, 3) := by decide +kernel
theorem dX11_judges_149 : decode cX11_judges 149 = .ok (.iconst 3, 1) := by decide +kernel
theorem dX11_judges_150 : decode cX11_judges 150 = .ok (.aload_n 0, 1) := by decide +kernel
theorem dX11_judges_151 : decode cX11_judges 151 = .ok (.getfield 174, 3) := by decide +kernel
theorem dX11_judges_154 : decode cX11_judges 154 = .ok (.iconst 3, 1) := by decide +kernel
theorem dX11_judges_155 : decode cX11_judges 155 = .ok (.baload, 1) := by decide +kernel
theorem dX11_judges_156 : decode cX11_judges 156 = .ok (.ifCond .ne 12, 3) := by decide +kernel
theorem dX11_judges_159 : decode cX11_judges 159 = .ok (.iload_n 3, 1) := by decide +kernel
theorem dX11_judges_160 : decode cX11_judges 160 = .ok (.ifCond .eq 8, 3) := by decide +kernel
theorem dX11_judges_163 : decode cX11_judges 163 = .ok (.iload 4, 2) := by decide +kernel
theorem dX11_judges_165 : decode cX11_judges 165 = .ok (.ifCond .ne 7, 3) := by decide +kernel
theorem dX11_judges_168 : decode cX11_judges 168 = .ok (.iconst 1, 1) := by decide +kernel
theorem dX11_judges_169 : decode cX11_judges 169 = .ok (.goto 4, 3) := by decide +kernel
theorem dX11_judges_172 : decode cX11_judges 172 = .ok (.iconst 0, 1) := by decide +kernel
theorem dX11_judges_173 : decode cX11_judges 173 = .ok (.bastore, 1) := by decide +kernel
theorem dX11_judges_174 : decode cX11_judges 174 = .ok (.aload_n 0, 1) := by decide +kernel
theorem dX11_judges_175 : decode cX11_judges 175 = .ok (.getfield 174, 3) := by decide +kernel
theorem dX11_judges_178 : decode cX11_judges 178 = .ok (.iconst 4, 1) := by decide +kernel
theorem dX11_judges_179 : decode cX11_judges 179 = .ok (.aload_n 0, 1) := by decide +kernel
theorem dX11_judges_180 : decode cX11_judges 180 = .ok (.getfield 174, 3) := by decide +kernel
theorem dX11_judges_183 : decode cX11_judges 183 = .ok (.iconst 4, 1) := by decide +kernel
theorem dX11_judges_184 : decode cX11_judges 184 = .ok (.baload, 1) := by decide +kernel
theorem dX11_judges_185 : decode cX11_judges 185 = .ok (.ifCond .ne 12, 3) := by decide +kernel
theorem dX11_judges_188 : decode cX11_judges 188 = .ok (.aload_n 0, 1) := by decide +kernel
theorem dX11_judges_189 : decode cX11_judges 189 = .ok (.getfield 171, 3) := by decide +kernel
theorem dX11_judges_192 : decode cX11_judges 192 = .ok (.iload_n 2, 1) := by decide +kernel
theorem dX11_judges_193 : decode cX11_judges 193 = .ok (.baload, 1) := by decide +kernel
theorem dX11_judges_194 : decode cX11_judges 194 = .ok (.ifCond .eq 7, 3) := by decide +kernel
theorem dX11_judges_197 : decode cX11_judges 197 = .ok (.iconst 1, 1) := by decide +kernel
theorem dX11_judges_198 : decode cX11_judges 198 = .ok (.goto 4, 3) := by decide +kernel
theorem dX11_judges_201 : decode cX11_judges 201 = .ok (.iconst 0, 1) := by decide +kernel
theorem dX11_judges_202 : decode cX11_judges 202 = .ok (.bastore, 1) := by decide +kernel
theorem dX11_judges_203 : decode cX11_judges 203 = .ok (.aload_n 0, 1) := by decide +kernel
theorem dX11_judges_204 : decode cX11_judges 204 = .ok (.getfield 171, 3) := by decide +kernel
theorem dX11_judges_207 : decode cX11_judges 207 = .ok (.iload_n 2, 1) := by decide +kernel
theorem dX11_judges_208 : decode cX11_judges 208 = .ok (.iconst 1, 1) := by decide +kernel
theorem dX11_judges_209 : decode cX11_judges 209 = .ok (.bastore, 1) := by decide +kernel
theorem dX11_judges_210 : decode cX11_judges 210 = .ok (.return_, 1) := by decide +kernel
theorem dX11_faultOf_0 : decode cX11_faultOf 0 = .ok (.iconst 0, 1) := by decide +kernel
theorem dX11_faultOf_1 : decode cX11_faultOf 1 = .ok (.istore_n 2, 1) := by decide +kernel
theorem dX11_faultOf_2 : decode cX11_faultOf 2 = .ok (.iload_n 2, 1) := by decide +kernel
theorem dX11_faultOf_3 : decode cX11_faultOf 3 = .ok (.bipush 6, 2) := by decide +kernel
theorem dX11_faultOf_5 : decode cX11_faultOf 5 = .ok (.if_icmp .ge 23, 3) := by decide +kernel
theorem dX11_faultOf_8 : decode cX11_faultOf 8 = .ok (.aload_n 0, 1) := by decide +kernel
theorem dX11_faultOf_9 : decode cX11_faultOf 9 = .ok (.getfield 171, 3) := by decide +kernel
theorem dX11_faultOf_12 : decode cX11_faultOf 12 = .ok (.iload_n 2, 1) := by decide +kernel
theorem dX11_faultOf_13 : decode cX11_faultOf 13 = .ok (.iconst 0, 1) := by decide +kernel
theorem dX11_faultOf_14 : decode cX11_faultOf 14 = .ok (.bastore, 1) := by decide +kernel
theorem dX11_faultOf_15 : decode cX11_faultOf 15 = .ok (.aload_n 0, 1) := by decide +kernel
theorem dX11_faultOf_16 : decode cX11_faultOf 16 = .ok (.getfield 174, 3) := by decide +kernel
theorem dX11_faultOf_19 : decode cX11_faultOf 19 = .ok (.iload_n 2, 1) := by decide +kernel
theorem dX11_faultOf_20 : decode cX11_faultOf 20 = .ok (.iconst 0, 1) := by decide +kernel
theorem dX11_faultOf_21 : decode cX11_faultOf 21 = .ok (.bastore, 1) := by decide +kernel
theorem dX11_faultOf_22 : decode cX11_faultOf 22 = .ok (.iinc 2 1, 3) := by decide +kernel
theorem dX11_faultOf_25 : decode cX11_faultOf 25 = .ok (.goto (-23), 3) := by decide +kernel
theorem dX11_faultOf_28 : decode cX11_faultOf 28 = .ok (.iconst 0, 1) := by decide +kernel
theorem dX11_faultOf_29 : decode cX11_faultOf 29 = .ok (.istore_n 2, 1) := by decide +kernel
theorem dX11_faultOf_30 : decode cX11_faultOf 30 = .ok (.iload_n 2, 1) := by decide +kernel
theorem dX11_faultOf_31 : decode cX11_faultOf 31 = .ok (.iconst 2, 1) := by decide +kernel
theorem dX11_faultOf_32 : decode cX11_faultOf 32 = .ok (.if_icmp .ge 32, 3) := by decide +kernel
theorem dX11_faultOf_35 : decode cX11_faultOf 35 = .ok (.aload_n 0, 1) := by decide +kernel
theorem dX11_faultOf_36 : decode cX11_faultOf 36 = .ok (.getfield 165, 3) := by decide +kernel
theorem dX11_faultOf_39 : decode cX11_faultOf 39 = .ok (.iload_n 2, 1) := by decide +kernel
theorem dX11_faultOf_40 : decode cX11_faultOf 40 = .ok (.iconst 0, 1) := by decide +kernel
theorem dX11_faultOf_41 : decode cX11_faultOf 41 = .ok (.bastore, 1) := by decide +kernel
theorem dX11_faultOf_42 : decode cX11_faultOf 42 = .ok (.aload_n 0, 1) := by decide +kernel
theorem dX11_faultOf_43 : decode cX11_faultOf 43 = .ok (.getfield 168, 3) := by decide +kernel
theorem dX11_faultOf_46 : decode cX11_faultOf 46 = .ok (.iload_n 2, 1) := by decide +kernel
theorem dX11_faultOf_47 : decode cX11_faultOf 47 = .ok (.aload_n 0, 1) := by decide +kernel
theorem dX11_faultOf_48 : decode cX11_faultOf 48 = .ok (.getfield 152, 3) := by decide +kernel
theorem dX11_faultOf_51 : decode cX11_faultOf 51 = .ok (.iconst 2, 1) := by decide +kernel
theorem dX11_faultOf_52 : decode cX11_faultOf 52 = .ok (.iload_n 1, 1) := by decide +kernel
theorem dX11_faultOf_53 : decode cX11_faultOf 53 = .ok (.imul, 1) := by decide +kernel
theorem dX11_faultOf_54 : decode cX11_faultOf 54 = .ok (.iload_n 2, 1) := by decide +kernel
theorem dX11_faultOf_55 : decode cX11_faultOf 55 = .ok (.iadd, 1) := by decide +kernel
theorem dX11_faultOf_56 : decode cX11_faultOf 56 = .ok (.baload, 1) := by decide +kernel
theorem dX11_faultOf_57 : decode cX11_faultOf 57 = .ok (.bastore, 1) := by decide +kernel
theorem dX11_faultOf_58 : decode cX11_faultOf 58 = .ok (.iinc 2 1, 3) := by decide +kernel
theorem dX11_faultOf_61 : decode cX11_faultOf 61 = .ok (.goto (-31), 3) := by decide +kernel
theorem dX11_faultOf_64 : decode cX11_faultOf 64 = .ok (.aload_n 0, 1) := by decide +kernel
theorem dX11_faultOf_65 : decode cX11_faultOf 65 = .ok (.getfield 174, 3) := by decide +kernel
theorem dX11_faultOf_68 : decode cX11_faultOf 68 = .ok (.iconst 1, 1) := by decide +kernel
theorem dX11_faultOf_69 : decode cX11_faultOf 69 = .ok (.aload_n 0, 1) := by decide +kernel
theorem dX11_faultOf_70 : decode cX11_faultOf 70 = .ok (.getfield 156, 3) := by decide +kernel
theorem dX11_faultOf_73 : decode cX11_faultOf 73 = .ok (.iload_n 1, 1) := by decide +kernel
theorem dX11_faultOf_74 : decode cX11_faultOf 74 = .ok (.iaload, 1) := by decide +kernel
theorem dX11_faultOf_75 : decode cX11_faultOf 75 = .ok (.ifCond .ne 7, 3) := by decide +kernel
theorem dX11_faultOf_78 : decode cX11_faultOf 78 = .ok (.iconst 1, 1) := by decide +kernel
theorem dX11_faultOf_79 : decode cX11_faultOf 79 = .ok (.goto 4, 3) := by decide +kernel
theorem dX11_faultOf_82 : decode cX11_faultOf 82 = .ok (.iconst 0, 1) := by decide +kernel
theorem dX11_faultOf_83 : decode cX11_faultOf 83 = .ok (.bastore, 1) := by decide +kernel
theorem dX11_faultOf_84 : decode cX11_faultOf 84 = .ok (.iconst 0, 1) := by decide +kernel
theorem dX11_faultOf_85 : decode cX11_faultOf 85 = .ok (.istore_n 2, 1) := by decide +kernel
theorem dX11_faultOf_86 : decode cX11_faultOf 86 = .ok (.iload_n 2, 1) := by decide +kernel
theorem dX11_faultOf_87 : decode cX11_faultOf 87 = .ok (.aload_n 0, 1) := by decide +kernel
theorem dX11_faultOf_88 : decode cX11_faultOf 88 = .ok (.getfield 156, 3) := by decide +kernel
theorem dX11_faultOf_91 : decode cX11_faultOf 91 = .ok (.iload_n 1, 1) := by decide +kernel
theorem dX11_faultOf_92 : decode cX11_faultOf 92 = .ok (.iaload, 1) := by decide +kernel
theorem dX11_faultOf_93 : decode cX11_faultOf 93 = .ok (.if_icmp .ge 90, 3) := by decide +kernel
theorem dX11_faultOf_96 : decode cX11_faultOf 96 = .ok (.bipush 6, 2) := by decide +kernel
theorem dX11_faultOf_98 : decode cX11_faultOf 98 = .ok (.iload_n 1, 1) := by decide +kernel
theorem dX11_faultOf_99 : decode cX11_faultOf 99 = .ok (.imul, 1) := by decide +kernel
theorem dX11_faultOf_100 : decode cX11_faultOf 100 = .ok (.iload_n 2, 1) := by decide +kernel
theorem dX11_faultOf_101 : decode cX11_faultOf 101 = .ok (.iadd, 1) := by decide +kernel
theorem dX11_faultOf_102 : decode cX11_faultOf 102 = .ok (.istore_n 3, 1) := by decide +kernel
theorem dX11_faultOf_103 : decode cX11_faultOf 103 = .ok (.aload_n 0, 1) := by decide +kernel
theorem dX11_faultOf_104 : decode cX11_faultOf 104 = .ok (.getfield 174, 3) := by decide +kernel
theorem dX11_faultOf_107 : decode cX11_faultOf 107 = .ok (.iconst 1, 1) := by decide +kernel
theorem dX11_faultOf_108 : decode cX11_faultOf 108 = .ok (.aload_n 0, 1) := by decide +kernel
theorem dX11_faultOf_109 : decode cX11_faultOf 109 = .ok (.getfield 174, 3) := by decide +kernel
theorem dX11_faultOf_112 : decode cX11_faultOf 112 = .ok (.iconst 1, 1) := by decide +kernel
theorem dX11_faultOf_113 : decode cX11_faultOf 113 = .ok (.baload, 1) := by decide +kernel
theorem dX11_faultOf_114 : decode cX11_faultOf 114 = .ok (.ifCond .ne 12, 3) := by decide +kernel
theorem dX11_faultOf_117 : decode cX11_faultOf 117 = .ok (.aload_n 0, 1) := by decide +kernel
theorem dX11_faultOf_118 : decode cX11_faultOf 118 = .ok (.getfield 159, 3) := by decide +kernel
theorem dX11_faultOf_121 : decode cX11_faultOf 121 = .ok (.iload_n 3, 1) := by decide +kernel
theorem dX11_faultOf_122 : decode cX11_faultOf 122 = .ok (.iaload, 1) := by decide +kernel
theorem dX11_faultOf_123 : decode cX11_faultOf 123 = .ok (.ifCond .ne 7, 3) := by decide +kernel
theorem dX11_faultOf_126 : decode cX11_faultOf 126 = .ok (.iconst 1, 1) := by decide +kernel
theorem dX11_faultOf_127 : decode cX11_faultOf 127 = .ok (.goto 4, 3) := by decide +kernel
theorem dX11_faultOf_130 : decode cX11_faultOf 130 = .ok (.iconst 0, 1) := by decide +kernel
theorem dX11_faultOf_131 : decode cX11_faultOf 131 = .ok (.bastore, 1) := by decide +kernel
theorem dX11_faultOf_132 : decode cX11_faultOf 132 = .ok (.iconst 0, 1) := by decide +kernel
theorem dX11_faultOf_133 : decode cX11_faultOf 133 = .ok (.istore 4, 2) := by decide +kernel
theorem dX11_faultOf_135 : decode cX11_faultOf 135 = .ok (.iload 4, 2) := by decide +kernel
theorem dX11_faultOf_137 : decode cX11_faultOf 137 = .ok (.aload_n 0, 1) := by decide +kernel
theorem dX11_faultOf_138 : decode cX11_faultOf 138 = .ok (.getfield 159, 3) := by decide +kernel
theorem dX11_faultOf_141 : decode cX11_faultOf 141 = .ok (.iload_n 3, 1) := by decide +kernel
theorem dX11_faultOf_142 : decode cX11_faultOf 142 = .ok (.iaload, 1) := by decide +kernel
theorem dX11_faultOf_143 : decode cX11_faultOf 143 = .ok (.if_icmp .ge 27, 3) := by decide +kernel
theorem dX11_faultOf_146 : decode cX11_faultOf 146 = .ok (.aload_n 0, 1) := by decide +kernel
theorem dX11_faultOf_147 : decode cX11_faultOf 147 = .ok (.iload_n 2, 1) := by decide +kernel
theorem dX11_faultOf_148 : decode cX11_faultOf 148 = .ok (.iconst 2, 1) := by decide +kernel
theorem dX11_faultOf_149 : decode cX11_faultOf 149 = .ok (.irem, 1) := by decide +kernel
theorem dX11_faultOf_150 : decode cX11_faultOf 150 = .ok (.aload_n 0, 1) := by decide +kernel
theorem dX11_faultOf_151 : decode cX11_faultOf 151 = .ok (.getfield 162, 3) := by decide +kernel
theorem dX11_faultOf_154 : decode cX11_faultOf 154 = .ok (.iconst 5, 1) := by decide +kernel
theorem dX11_faultOf_155 : decode cX11_faultOf 155 = .ok (.iload_n 3, 1) := by decide +kernel
theorem dX11_faultOf_156 : decode cX11_faultOf 156 = .ok (.imul, 1) := by decide +kernel
theorem dX11_faultOf_157 : decode cX11_faultOf 157 = .ok (.iload 4, 2) := by decide +kernel
theorem dX11_faultOf_159 : decode cX11_faultOf 159 = .ok (.iadd, 1) := by decide +kernel
theorem dX11_faultOf_160 : decode cX11_faultOf 160 = .ok (.iaload, 1) := by decide +kernel
theorem dX11_faultOf_161 : decode cX11_faultOf 161 = .ok (.invokevirtual 383, 3) := by decide +kernel
theorem dX11_faultOf_164 : decode cX11_faultOf 164 = .ok (.iinc 4 1, 3) := by decide +kernel
theorem dX11_faultOf_167 : decode cX11_faultOf 167 = .ok (.goto (-32), 3) := by decide +kernel
theorem dX11_faultOf_170 : decode cX11_faultOf 170 = .ok (.aload_n 0, 1) := by decide +kernel
theorem dX11_faultOf_171 : decode cX11_faultOf 171 = .ok (.iload_n 2, 1) := by decide +kernel
theorem dX11_faultOf_172 : decode cX11_faultOf 172 = .ok (.iconst 2, 1) := by decide +kernel
theorem dX11_faultOf_173 : decode cX11_faultOf 173 = .ok (.irem, 1) := by decide +kernel
theorem dX11_faultOf_174 : decode cX11_faultOf 174 = .ok (.invokevirtual 380, 3) := by decide +kernel
theorem dX11_faultOf_177 : decode cX11_faultOf 177 = .ok (.iinc 2 1, 3) := by decide +kernel
theorem dX11_faultOf_180 : decode cX11_faultOf 180 = .ok (.goto (-94), 3) := by decide +kernel
theorem dX11_faultOf_183 : decode cX11_faultOf 183 = .ok (.iconst 1, 1) := by decide +kernel
theorem dX11_faultOf_184 : decode cX11_faultOf 184 = .ok (.istore_n 2, 1) := by decide +kernel
theorem dX11_faultOf_185 : decode cX11_faultOf 185 = .ok (.iload_n 2, 1) := by decide +kernel
theorem dX11_faultOf_186 : decode cX11_faultOf 186 = .ok (.bipush 6, 2) := by decide +kernel
theorem dX11_faultOf_188 : decode cX11_faultOf 188 = .ok (.if_icmp .ge 20, 3) := by decide +kernel
theorem dX11_faultOf_191 : decode cX11_faultOf 191 = .ok (.aload_n 0, 1) := by decide +kernel
theorem dX11_faultOf_192 : decode cX11_faultOf 192 = .ok (.getfield 174, 3) := by decide +kernel
theorem dX11_faultOf_195 : decode cX11_faultOf 195 = .ok (.iload_n 2, 1) := by decide +kernel
theorem dX11_faultOf_196 : decode cX11_faultOf 196 = .ok (.baload, 1) := by decide +kernel
theorem dX11_faultOf_197 : decode cX11_faultOf 197 = .ok (.ifCond .eq 5, 3) := by decide +kernel
theorem dX11_faultOf_200 : decode cX11_faultOf 200 = .ok (.iload_n 2, 1) := by decide +kernel
theorem dX11_faultOf_201 : decode cX11_faultOf 201 = .ok (.ireturn, 1) := by decide +kernel
theorem dX11_faultOf_202 : decode cX11_faultOf 202 = .ok (.iinc 2 1, 3) := by decide +kernel
theorem dX11_faultOf_205 : decode cX11_faultOf 205 = .ok (.goto (-20), 3) := by decide +kernel
theorem dX11_faultOf_208 : decode cX11_faultOf 208 = .ok (.iconst 0, 1) := by decide +kernel
theorem dX11_faultOf_209 : decode cX11_faultOf 209 = .ok (.ireturn, 1) := by decide +kernel
theorem dX11_fault_0 : decode cX11_fault 0 = .ok (.aload_n 0, 1) := by decide +kernel
theorem dX11_fault_1 : decode cX11_fault 1 = .ok (.iload_n 1, 1) := by decide +kernel
theorem dX11_fault_2 : decode cX11_fault 2 = .ok (.invokevirtual 373, 3) := by decide +kernel
theorem dX11_fault_5 : decode cX11_fault 5 = .ok (.ifCond .eq 11, 3) := by decide +kernel
theorem dX11_fault_8 : decode cX11_fault 8 = .ok (.aload_n 0, 1) := by decide +kernel
theorem dX11_fault_9 : decode cX11_fault 9 = .ok (.iload_n 1, 1) := by decide +kernel
theorem dX11_fault_10 : decode cX11_fault 10 = .ok (.invokevirtual 386, 3) := by decide +kernel
theorem dX11_fault_13 : decode cX11_fault 13 = .ok (.goto 5, 3) := by decide +kernel
theorem dX11_fault_16 : decode cX11_fault 16 = .ok (.bipush (-2), 2) := by decide +kernel
theorem dX11_fault_18 : decode cX11_fault 18 = .ok (.ireturn, 1) := by decide +kernel
theorem dX11_told_0 : decode cX11_told 0 = .ok (.aload_n 0, 1) := by decide +kernel
theorem dX11_told_1 : decode cX11_told 1 = .ok (.iload_n 1, 1) := by decide +kernel
theorem dX11_told_2 : decode cX11_told 2 = .ok (.invokevirtual 373, 3) := by decide +kernel
theorem dX11_told_5 : decode cX11_told 5 = .ok (.ifCond .eq 13, 3) := by decide +kernel
theorem dX11_told_8 : decode cX11_told 8 = .ok (.iload_n 2, 1) := by decide +kernel
theorem dX11_told_9 : decode cX11_told 9 = .ok (.iconst 0, 1) := by decide +kernel
theorem dX11_told_10 : decode cX11_told 10 = .ok (.bipush 38, 2) := by decide +kernel
theorem dX11_told_12 : decode cX11_told 12 = .ok (.invokestatic 366, 3) := by decide +kernel
theorem dX11_told_15 : decode cX11_told 15 = .ok (.ifCond .ne 6, 3) := by decide +kernel
theorem dX11_told_18 : decode cX11_told 18 = .ok (.bipush (-2), 2) := by decide +kernel
theorem dX11_told_20 : decode cX11_told 20 = .ok (.ireturn, 1) := by decide +kernel
theorem dX11_told_21 : decode cX11_told 21 = .ok (.iload_n 2, 1) := by decide +kernel
theorem dX11_told_22 : decode cX11_told 22 = .ok (.iconst 3, 1) := by decide +kernel
theorem dX11_told_23 : decode cX11_told 23 = .ok (.if_icmp .ge 37, 3) := by decide +kernel
theorem dX11_told_26 : decode cX11_told 26 = .ok (.iload_n 2, 1) := by decide +kernel
theorem dX11_told_27 : decode cX11_told 27 = .ok (.ifCond .ne 12, 3) := by decide +kernel
theorem dX11_told_30 : decode cX11_told 30 = .ok (.aload_n 0, 1) := by decide +kernel
theorem dX11_told_31 : decode cX11_told 31 = .ok (.getfield 156, 3) := by decide +kernel
theorem dX11_told_34 : decode cX11_told 34 = .ok (.iload_n 1, 1) := by decide +kernel
theorem dX11_told_35 : decode cX11_told 35 = .ok (.iaload, 1) := by decide +kernel
theorem dX11_told_36 : decode cX11_told 36 = .ok (.goto 23, 3) := by decide +kernel
theorem dX11_told_39 : decode cX11_told 39 = .ok (.aload_n 0, 1) := by decide +kernel
theorem dX11_told_40 : decode cX11_told 40 = .ok (.getfield 152, 3) := by decide +kernel
theorem dX11_told_43 : decode cX11_told 43 = .ok (.iconst 2, 1) := by decide +kernel
theorem dX11_told_44 : decode cX11_told 44 = .ok (.iload_n 1, 1) := by decide +kernel
theorem dX11_told_45 : decode cX11_told 45 = .ok (.imul, 1) := by decide +kernel
theorem dX11_told_46 : decode cX11_told 46 = .ok (.iload_n 2, 1) := by decide +kernel
theorem dX11_told_47 : decode cX11_told 47 = .ok (.iadd, 1) := by decide +kernel
theorem dX11_told_48 : decode cX11_told 48 = .ok (.iconst 1, 1) := by decide +kernel
theorem dX11_told_49 : decode cX11_told 49 = .ok (.isub, 1) := by decide +kernel
theorem dX11_told_50 : decode cX11_told 50 = .ok (.baload, 1) := by decide +kernel
theorem dX11_told_51 : decode cX11_told 51 = .ok (.ifCond .eq 7, 3) := by decide +kernel
theorem dX11_told_54 : decode cX11_told 54 = .ok (.iconst 1, 1) := by decide +kernel
theorem dX11_told_55 : decode cX11_told 55 = .ok (.goto 4, 3) := by decide +kernel
theorem dX11_told_58 : decode cX11_told 58 = .ok (.iconst 0, 1) := by decide +kernel
theorem dX11_told_59 : decode cX11_told 59 = .ok (.ireturn, 1) := by decide +kernel
theorem dX11_told_60 : decode cX11_told 60 = .ok (.iload_n 2, 1) := by decide +kernel
theorem dX11_told_61 : decode cX11_told 61 = .ok (.iconst 3, 1) := by decide +kernel
theorem dX11_told_62 : decode cX11_told 62 = .ok (.isub, 1) := by decide +kernel
theorem dX11_told_63 : decode cX11_told 63 = .ok (.bipush 6, 2) := by decide +kernel
theorem dX11_told_65 : decode cX11_told 65 = .ok (.idiv, 1) := by decide +kernel
theorem dX11_told_66 : decode cX11_told 66 = .ok (.istore_n 3, 1) := by decide +kernel
theorem dX11_told_67 : decode cX11_told 67 = .ok (.iload_n 2, 1) := by decide +kernel
theorem dX11_told_68 : decode cX11_told 68 = .ok (.iconst 3, 1) := by decide +kernel
theorem dX11_told_69 : decode cX11_told 69 = .ok (.isub, 1) := by decide +kernel
theorem dX11_told_70 : decode cX11_told 70 = .ok (.bipush 6, 2) := by decide +kernel
theorem dX11_told_72 : decode cX11_told 72 = .ok (.irem, 1) := by decide +kernel
theorem dX11_told_73 : decode cX11_told 73 = .ok (.istore 4, 2) := by decide +kernel
theorem dX11_told_75 : decode cX11_told 75 = .ok (.iload_n 3, 1) := by decide +kernel
theorem dX11_told_76 : decode cX11_told 76 = .ok (.aload_n 0, 1) := by decide +kernel
theorem dX11_told_77 : decode cX11_told 77 = .ok (.getfield 156, 3) := by decide +kernel
theorem dX11_told_80 : decode cX11_told 80 = .ok (.iload_n 1, 1) := by decide +kernel
theorem dX11_told_81 : decode cX11_told 81 = .ok (.iaload, 1) := by decide +kernel
theorem dX11_told_82 : decode cX11_told 82 = .ok (.if_icmp .lt 5, 3) := by decide +kernel
theorem dX11_told_85 : decode cX11_told 85 = .ok (.iconst (-1), 1) := by decide +kernel
theorem dX11_told_86 : decode cX11_told 86 = .ok (.ireturn, 1) := by decide +kernel
theorem dX11_told_87 : decode cX11_told 87 = .ok (.bipush 6, 2) := by decide +kernel
theorem dX11_told_89 : decode cX11_told 89 = .ok (.iload_n 1, 1) := by decide +kernel
theorem dX11_told_90 : decode cX11_told 90 = .ok (.imul, 1) := by decide +kernel
theorem dX11_told_91 : decode cX11_told 91 = .ok (.iload_n 3, 1) := by decide +kernel
theorem dX11_told_92 : decode cX11_told 92 = .ok (.iadd, 1) := by decide +kernel
theorem dX11_told_93 : decode cX11_told 93 = .ok (.istore 5, 2) := by decide +kernel
theorem dX11_told_95 : decode cX11_told 95 = .ok (.iload 4, 2) := by decide +kernel
theorem dX11_told_97 : decode cX11_told 97 = .ok (.iconst 5, 1) := by decide +kernel
theorem dX11_told_98 : decode cX11_told 98 = .ok (.if_icmp .ne 13, 3) := by decide +kernel
theorem dX11_told_101 : decode cX11_told 101 = .ok (.aload_n 0, 1) := by decide +kernel
theorem dX11_told_102 : decode cX11_told 102 = .ok (.getfield 159, 3) := by decide +kernel
theorem dX11_told_105 : decode cX11_told 105 = .ok (.iload 5, 2) := by decide +kernel
theorem dX11_told_107 : decode cX11_told 107 = .ok (.iaload, 1) := by decide +kernel
theorem dX11_told_108 : decode cX11_told 108 = .ok (.goto 31, 3) := by decide +kernel
theorem dX11_told_111 : decode cX11_told 111 = .ok (.iload 4, 2) := by decide +kernel
theorem dX11_told_113 : decode cX11_told 113 = .ok (.aload_n 0, 1) := by decide +kernel
theorem dX11_told_114 : decode cX11_told 114 = .ok (.getfield 159, 3) := by decide +kernel
theorem dX11_told_117 : decode cX11_told 117 = .ok (.iload 5, 2) := by decide +kernel
theorem dX11_told_119 : decode cX11_told 119 = .ok (.iaload, 1) := by decide +kernel
theorem dX11_told_120 : decode cX11_told 120 = .ok (.if_icmp .ge 18, 3) := by decide +kernel
theorem dX11_told_123 : decode cX11_told 123 = .ok (.aload_n 0, 1) := by decide +kernel
theorem dX11_told_124 : decode cX11_told 124 = .ok (.getfield 162, 3) := by decide +kernel
theorem dX11_told_127 : decode cX11_told 127 = .ok (.iconst 5, 1) := by decide +kernel
theorem dX11_told_128 : decode cX11_told 128 = .ok (.iload 5, 2) := by decide +kernel
theorem dX11_told_130 : decode cX11_told 130 = .ok (.imul, 1) := by decide +kernel
theorem dX11_told_131 : decode cX11_told 131 = .ok (.iload 4, 2) := by decide +kernel
theorem dX11_told_133 : decode cX11_told 133 = .ok (.iadd, 1) := by decide +kernel
theorem dX11_told_134 : decode cX11_told 134 = .ok (.iaload, 1) := by decide +kernel
theorem dX11_told_135 : decode cX11_told 135 = .ok (.goto 4, 3) := by decide +kernel
theorem dX11_told_138 : decode cX11_told 138 = .ok (.iconst (-1), 1) := by decide +kernel
theorem dX11_told_139 : decode cX11_told 139 = .ok (.ireturn, 1) := by decide +kernel
theorem dX11_isSide_0 : decode cX11_isSide 0 = .ok (.iload_n 1, 1) := by decide +kernel
theorem dX11_isSide_1 : decode cX11_isSide 1 = .ok (.iconst 0, 1) := by decide +kernel
theorem dX11_isSide_2 : decode cX11_isSide 2 = .ok (.aload_n 0, 1) := by decide +kernel
theorem dX11_isSide_3 : decode cX11_isSide 3 = .ok (.getfield 370, 3) := by decide +kernel
theorem dX11_isSide_6 : decode cX11_isSide 6 = .ok (.iconst 1, 1) := by decide +kernel
theorem dX11_isSide_7 : decode cX11_isSide 7 = .ok (.isub, 1) := by decide +kernel
theorem dX11_isSide_8 : decode cX11_isSide 8 = .ok (.invokestatic 366, 3) := by decide +kernel
theorem dX11_isSide_11 : decode cX11_isSide 11 = .ok (.ireturn, 1) := by decide +kernel
theorem dX11_copySide_0 : decode cX11_copySide 0 = .ok (.aload_n 0, 1) := by decide +kernel
theorem dX11_copySide_1 : decode cX11_copySide 1 = .ok (.getfield 192, 3) := by decide +kernel
theorem dX11_copySide_4 : decode cX11_copySide 4 = .ok (.iload_n 1, 1) := by decide +kernel
theorem dX11_copySide_5 : decode cX11_copySide 5 = .ok (.aload_n 0, 1) := by decide +kernel
theorem dX11_copySide_6 : decode cX11_copySide 6 = .ok (.getfield 192, 3) := by decide +kernel
theorem dX11_copySide_9 : decode cX11_copySide 9 = .ok (.iload_n 2, 1) := by decide +kernel
theorem dX11_copySide_10 : decode cX11_copySide 10 = .ok (.iaload, 1) := by decide +kernel
theorem dX11_copySide_11 : decode cX11_copySide 11 = .ok (.iastore, 1) := by decide +kernel
theorem dX11_copySide_12 : decode cX11_copySide 12 = .ok (.aload_n 0, 1) := by decide +kernel
theorem dX11_copySide_13 : decode cX11_copySide 13 = .ok (.getfield 195, 3) := by decide +kernel
theorem dX11_copySide_16 : decode cX11_copySide 16 = .ok (.iload_n 1, 1) := by decide +kernel
theorem dX11_copySide_17 : decode cX11_copySide 17 = .ok (.aload_n 0, 1) := by decide +kernel
theorem dX11_copySide_18 : decode cX11_copySide 18 = .ok (.getfield 195, 3) := by decide +kernel
theorem dX11_copySide_21 : decode cX11_copySide 21 = .ok (.iload_n 2, 1) := by decide +kernel
theorem dX11_copySide_22 : decode cX11_copySide 22 = .ok (.iaload, 1) := by decide +kernel
theorem dX11_copySide_23 : decode cX11_copySide 23 = .ok (.iastore, 1) := by decide +kernel
theorem dX11_copySide_24 : decode cX11_copySide 24 = .ok (.aload_n 0, 1) := by decide +kernel
theorem dX11_copySide_25 : decode cX11_copySide 25 = .ok (.getfield 198, 3) := by decide +kernel
theorem dX11_copySide_28 : decode cX11_copySide 28 = .ok (.iload_n 1, 1) := by decide +kernel
theorem dX11_copySide_29 : decode cX11_copySide 29 = .ok (.aload_n 0, 1) := by decide +kernel
theorem dX11_copySide_30 : decode cX11_copySide 30 = .ok (.getfield 198, 3) := by decide +kernel
theorem dX11_copySide_33 : decode cX11_copySide 33 = .ok (.iload_n 2, 1) := by decide +kernel
theorem dX11_copySide_34 : decode cX11_copySide 34 = .ok (.baload, 1) := by decide +kernel
theorem dX11_copySide_35 : decode cX11_copySide 35 = .ok (.bastore, 1) := by decide +kernel
theorem dX11_copySide_36 : decode cX11_copySide 36 = .ok (.aload_n 0, 1) := by decide +kernel
theorem dX11_copySide_37 : decode cX11_copySide 37 = .ok (.getfield 201, 3) := by decide +kernel
theorem dX11_copySide_40 : decode cX11_copySide 40 = .ok (.iload_n 1, 1) := by decide +kernel
theorem dX11_copySide_41 : decode cX11_copySide 41 = .ok (.aload_n 0, 1) := by decide +kernel
theorem dX11_copySide_42 : decode cX11_copySide 42 = .ok (.getfield 201, 3) := by decide +kernel
theorem dX11_copySide_45 : decode cX11_copySide 45 = .ok (.iload_n 2, 1) := by decide +kernel
theorem dX11_copySide_46 : decode cX11_copySide 46 = .ok (.baload, 1) := by decide +kernel
theorem dX11_copySide_47 : decode cX11_copySide 47 = .ok (.bastore, 1) := by decide +kernel
theorem dX11_copySide_48 : decode cX11_copySide 48 = .ok (.aload_n 0, 1) := by decide +kernel
theorem dX11_copySide_49 : decode cX11_copySide 49 = .ok (.getfield 204, 3) := by decide +kernel
theorem dX11_copySide_52 : decode cX11_copySide 52 = .ok (.iload_n 1, 1) := by decide +kernel
theorem dX11_copySide_53 : decode cX11_copySide 53 = .ok (.aload_n 0, 1) := by decide +kernel
theorem dX11_copySide_54 : decode cX11_copySide 54 = .ok (.getfield 204, 3) := by decide +kernel
theorem dX11_copySide_57 : decode cX11_copySide 57 = .ok (.iload_n 2, 1) := by decide +kernel
theorem dX11_copySide_58 : decode cX11_copySide 58 = .ok (.iaload, 1) := by decide +kernel
theorem dX11_copySide_59 : decode cX11_copySide 59 = .ok (.iastore, 1) := by decide +kernel
theorem dX11_copySide_60 : decode cX11_copySide 60 = .ok (.aload_n 0, 1) := by decide +kernel
theorem dX11_copySide_61 : decode cX11_copySide 61 = .ok (.getfield 207, 3) := by decide +kernel
theorem dX11_copySide_64 : decode cX11_copySide 64 = .ok (.iload_n 1, 1) := by decide +kernel
theorem dX11_copySide_65 : decode cX11_copySide 65 = .ok (.aload_n 0, 1) := by decide +kernel
theorem dX11_copySide_66 : decode cX11_copySide 66 = .ok (.getfield 207, 3) := by decide +kernel
theorem dX11_copySide_69 : decode cX11_copySide 69 = .ok (.iload_n 2, 1) := by decide +kernel
theorem dX11_copySide_70 : decode cX11_copySide 70 = .ok (.iaload, 1) := by decide +kernel
theorem dX11_copySide_71 : decode cX11_copySide 71 = .ok (.iastore, 1) := by decide +kernel
theorem dX11_copySide_72 : decode cX11_copySide 72 = .ok (.aload_n 0, 1) := by decide +kernel
theorem dX11_copySide_73 : decode cX11_copySide 73 = .ok (.getfield 210, 3) := by decide +kernel
theorem dX11_copySide_76 : decode cX11_copySide 76 = .ok (.iload_n 1, 1) := by decide +kernel
theorem dX11_copySide_77 : decode cX11_copySide 77 = .ok (.aload_n 0, 1) := by decide +kernel
theorem dX11_copySide_78 : decode cX11_copySide 78 = .ok (.getfield 210, 3) := by decide +kernel
theorem dX11_copySide_81 : decode cX11_copySide 81 = .ok (.iload_n 2, 1) := by decide +kernel
theorem dX11_copySide_82 : decode cX11_copySide 82 = .ok (.baload, 1) := by decide +kernel
theorem dX11_copySide_83 : decode cX11_copySide 83 = .ok (.bastore, 1) := by decide +kernel
theorem dX11_copySide_84 : decode cX11_copySide 84 = .ok (.aload_n 0, 1) := by decide +kernel
theorem dX11_copySide_85 : decode cX11_copySide 85 = .ok (.getfield 213, 3) := by decide +kernel
theorem dX11_copySide_88 : decode cX11_copySide 88 = .ok (.iload_n 1, 1) := by decide +kernel
theorem dX11_copySide_89 : decode cX11_copySide 89 = .ok (.aload_n 0, 1) := by decide +kernel
theorem dX11_copySide_90 : decode cX11_copySide 90 = .ok (.getfield 213, 3) := by decide +kernel
theorem dX11_copySide_93 : decode cX11_copySide 93 = .ok (.iload_n 2, 1) := by decide +kernel
theorem dX11_copySide_94 : decode cX11_copySide 94 = .ok (.baload, 1) := by decide +kernel
theorem dX11_copySide_95 : decode cX11_copySide 95 = .ok (.bastore, 1) := by decide +kernel
theorem dX11_copySide_96 : decode cX11_copySide 96 = .ok (.bipush 32, 2) := by decide +kernel
theorem dX11_copySide_98 : decode cX11_copySide 98 = .ok (.iload_n 2, 1) := by decide +kernel
theorem dX11_copySide_99 : decode cX11_copySide 99 = .ok (.imul, 1) := by decide +kernel
theorem dX11_copySide_100 : decode cX11_copySide 100 = .ok (.istore_n 3, 1) := by decide +kernel
theorem dX11_copySide_101 : decode cX11_copySide 101 = .ok (.bipush 32, 2) := by decide +kernel
theorem dX11_copySide_103 : decode cX11_copySide 103 = .ok (.iload_n 1, 1) := by decide +kernel
theorem dX11_copySide_104 : decode cX11_copySide 104 = .ok (.imul, 1) := by decide +kernel
theorem dX11_copySide_105 : decode cX11_copySide 105 = .ok (.istore 4, 2) := by decide +kernel
theorem dX11_copySide_107 : decode cX11_copySide 107 = .ok (.aload_n 0, 1) := by decide +kernel
theorem dX11_copySide_108 : decode cX11_copySide 108 = .ok (.getfield 216, 3) := by decide +kernel
theorem dX11_copySide_111 : decode cX11_copySide 111 = .ok (.iload_n 3, 1) := by decide +kernel
theorem dX11_copySide_112 : decode cX11_copySide 112 = .ok (.aload_n 0, 1) := by decide +kernel
theorem dX11_copySide_113 : decode cX11_copySide 113 = .ok (.getfield 216, 3) := by decide +kernel
theorem dX11_copySide_116 : decode cX11_copySide 116 = .ok (.iload 4, 2) := by decide +kernel
theorem dX11_copySide_118 : decode cX11_copySide 118 = .ok (.bipush 32, 2) := by decide +kernel
theorem dX11_copySide_120 : decode cX11_copySide 120 = .ok (.invokestatic 270, 3) := by decide +kernel
theorem dX11_copySide_123 : decode cX11_copySide 123 = .ok (.aload_n 0, 1) := by decide +kernel
theorem dX11_copySide_124 : decode cX11_copySide 124 = .ok (.getfield 219, 3) := by decide +kernel
theorem dX11_copySide_127 : decode cX11_copySide 127 = .ok (.iload_n 3, 1) := by decide +kernel
theorem dX11_copySide_128 : decode cX11_copySide 128 = .ok (.aload_n 0, 1) := by decide +kernel
theorem dX11_copySide_129 : decode cX11_copySide 129 = .ok (.getfield 219, 3) := by decide +kernel
theorem dX11_copySide_132 : decode cX11_copySide 132 = .ok (.iload 4, 2) := by decide +kernel
theorem dX11_copySide_134 : decode cX11_copySide 134 = .ok (.bipush 32, 2) := by decide +kernel
theorem dX11_copySide_136 : decode cX11_copySide 136 = .ok (.invokestatic 270, 3) := by decide +kernel
theorem dX11_copySide_139 : decode cX11_copySide 139 = .ok (.aload_n 0, 1) := by decide +kernel
theorem dX11_copySide_140 : decode cX11_copySide 140 = .ok (.getfield 222, 3) := by decide +kernel
theorem dX11_copySide_143 : decode cX11_copySide 143 = .ok (.iload_n 3, 1) := by decide +kernel
theorem dX11_copySide_144 : decode cX11_copySide 144 = .ok (.aload_n 0, 1) := by decide +kernel
theorem dX11_copySide_145 : decode cX11_copySide 145 = .ok (.getfield 222, 3) := by decide +kernel
theorem dX11_copySide_148 : decode cX11_copySide 148 = .ok (.iload 4, 2) := by decide +kernel
theorem dX11_copySide_150 : decode cX11_copySide 150 = .ok (.bipush 32, 2) := by decide +kernel
theorem dX11_copySide_152 : decode cX11_copySide 152 = .ok (.invokestatic 270, 3) := by decide +kernel
theorem dX11_copySide_155 : decode cX11_copySide 155 = .ok (.aload_n 0, 1) := by decide +kernel
theorem dX11_copySide_156 : decode cX11_copySide 156 = .ok (.getfield 225, 3) := by decide +kernel
theorem dX11_copySide_159 : decode cX11_copySide 159 = .ok (.iload_n 3, 1) := by decide +kernel
theorem dX11_copySide_160 : decode cX11_copySide 160 = .ok (.aload_n 0, 1) := by decide +kernel
theorem dX11_copySide_161 : decode cX11_copySide 161 = .ok (.getfield 225, 3) := by decide +kernel
theorem dX11_copySide_164 : decode cX11_copySide 164 = .ok (.iload 4, 2) := by decide +kernel
theorem dX11_copySide_166 : decode cX11_copySide 166 = .ok (.bipush 32, 2) := by decide +kernel
theorem dX11_copySide_168 : decode cX11_copySide 168 = .ok (.invokestatic 270, 3) := by decide +kernel
theorem dX11_copySide_171 : decode cX11_copySide 171 = .ok (.aload_n 0, 1) := by decide +kernel
theorem dX11_copySide_172 : decode cX11_copySide 172 = .ok (.getfield 231, 3) := by decide +kernel
theorem dX11_copySide_175 : decode cX11_copySide 175 = .ok (.iload_n 3, 1) := by decide +kernel
theorem dX11_copySide_176 : decode cX11_copySide 176 = .ok (.aload_n 0, 1) := by decide +kernel
theorem dX11_copySide_177 : decode cX11_copySide 177 = .ok (.getfield 231, 3) := by decide +kernel
theorem dX11_copySide_180 : decode cX11_copySide 180 = .ok (.iload 4, 2) := by decide +kernel
theorem dX11_copySide_182 : decode cX11_copySide 182 = .ok (.bipush 32, 2) := by decide +kernel
theorem dX11_copySide_184 : decode cX11_copySide 184 = .ok (.invokestatic 270, 3) := by decide +kernel
theorem dX11_copySide_187 : decode cX11_copySide 187 = .ok (.aload_n 0, 1) := by decide +kernel
theorem dX11_copySide_188 : decode cX11_copySide 188 = .ok (.getfield 234, 3) := by decide +kernel
theorem dX11_copySide_191 : decode cX11_copySide 191 = .ok (.iload_n 3, 1) := by decide +kernel
theorem dX11_copySide_192 : decode cX11_copySide 192 = .ok (.aload_n 0, 1) := by decide +kernel
theorem dX11_copySide_193 : decode cX11_copySide 193 = .ok (.getfield 234, 3) := by decide +kernel
theorem dX11_copySide_196 : decode cX11_copySide 196 = .ok (.iload 4, 2) := by decide +kernel
theorem dX11_copySide_198 : decode cX11_copySide 198 = .ok (.bipush 32, 2) := by decide +kernel
theorem dX11_copySide_200 : decode cX11_copySide 200 = .ok (.invokestatic 270, 3) := by decide +kernel
theorem dX11_copySide_203 : decode cX11_copySide 203 = .ok (.aload_n 0, 1) := by decide +kernel
theorem dX11_copySide_204 : decode cX11_copySide 204 = .ok (.getfield 237, 3) := by decide +kernel
theorem dX11_copySide_207 : decode cX11_copySide 207 = .ok (.iload_n 3, 1) := by decide +kernel
theorem dX11_copySide_208 : decode cX11_copySide 208 = .ok (.aload_n 0, 1) := by decide +kernel
theorem dX11_copySide_209 : decode cX11_copySide 209 = .ok (.getfield 237, 3) := by decide +kernel
theorem dX11_copySide_212 : decode cX11_copySide 212 = .ok (.iload 4, 2) := by decide +kernel
theorem dX11_copySide_214 : decode cX11_copySide 214 = .ok (.bipush 32, 2) := by decide +kernel
theorem dX11_copySide_216 : decode cX11_copySide 216 = .ok (.invokestatic 270, 3) := by decide +kernel
theorem dX11_copySide_219 : decode cX11_copySide 219 = .ok (.return_, 1) := by decide +kernel
theorem dX11_mixHash_0 : decode cX11_mixHash 0 = .ok (.aload_n 0, 1) := by decide +kernel
theorem dX11_mixHash_1 : decode cX11_mixHash 1 = .ok (.iconst 0, 1) := by decide +kernel
theorem dX11_mixHash_2 : decode cX11_mixHash 2 = .ok (.putfield 255, 3) := by decide +kernel
theorem dX11_mixHash_5 : decode cX11_mixHash 5 = .ok (.aload_n 0, 1) := by decide +kernel
theorem dX11_mixHash_6 : decode cX11_mixHash 6 = .ok (.aload_n 0, 1) := by decide +kernel
theorem dX11_mixHash_7 : decode cX11_mixHash 7 = .ok (.getfield 219, 3) := by decide +kernel
theorem dX11_mixHash_10 : decode cX11_mixHash 10 = .ok (.bipush 32, 2) := by decide +kernel
theorem dX11_mixHash_12 : decode cX11_mixHash 12 = .ok (.iload_n 1, 1) := by decide +kernel
theorem dX11_mixHash_13 : decode cX11_mixHash 13 = .ok (.imul, 1) := by decide +kernel
theorem dX11_mixHash_14 : decode cX11_mixHash 14 = .ok (.bipush 32, 2) := by decide +kernel
theorem dX11_mixHash_16 : decode cX11_mixHash 16 = .ok (.invokevirtual 274, 3) := by decide +kernel
theorem dX11_mixHash_19 : decode cX11_mixHash 19 = .ok (.aload_n 0, 1) := by decide +kernel
theorem dX11_mixHash_20 : decode cX11_mixHash 20 = .ok (.aload_n 2, 1) := by decide +kernel
theorem dX11_mixHash_21 : decode cX11_mixHash 21 = .ok (.iload_n 3, 1) := by decide +kernel
theorem dX11_mixHash_22 : decode cX11_mixHash 22 = .ok (.iload 4, 2) := by decide +kernel
theorem dX11_mixHash_24 : decode cX11_mixHash 24 = .ok (.invokevirtual 274, 3) := by decide +kernel
theorem dX11_mixHash_27 : decode cX11_mixHash 27 = .ok (.aload_n 0, 1) := by decide +kernel
theorem dX11_mixHash_28 : decode cX11_mixHash 28 = .ok (.aload_n 0, 1) := by decide +kernel
theorem dX11_mixHash_29 : decode cX11_mixHash 29 = .ok (.getfield 219, 3) := by decide +kernel
theorem dX11_mixHash_32 : decode cX11_mixHash 32 = .ok (.bipush 32, 2) := by decide +kernel
theorem dX11_mixHash_34 : decode cX11_mixHash 34 = .ok (.iload_n 1, 1) := by decide +kernel
theorem dX11_mixHash_35 : decode cX11_mixHash 35 = .ok (.imul, 1) := by decide +kernel
theorem dX11_mixHash_36 : decode cX11_mixHash 36 = .ok (.invokevirtual 278, 3) := by decide +kernel
theorem dX11_mixHash_39 : decode cX11_mixHash 39 = .ok (.return_, 1) := by decide +kernel
theorem dX11_mixKey_0 : decode cX11_mixKey 0 = .ok (.aload_n 0, 1) := by decide +kernel
theorem dX11_mixKey_1 : decode cX11_mixKey 1 = .ok (.aload_n 0, 1) := by decide +kernel
theorem dX11_mixKey_2 : decode cX11_mixKey 2 = .ok (.getfield 216, 3) := by decide +kernel
theorem dX11_mixKey_5 : decode cX11_mixKey 5 = .ok (.bipush 32, 2) := by decide +kernel
theorem dX11_mixKey_7 : decode cX11_mixKey 7 = .ok (.iload_n 1, 1) := by decide +kernel
theorem dX11_mixKey_8 : decode cX11_mixKey 8 = .ok (.imul, 1) := by decide +kernel
theorem dX11_mixKey_9 : decode cX11_mixKey 9 = .ok (.aload_n 0, 1) := by decide +kernel
theorem dX11_mixKey_10 : decode cX11_mixKey 10 = .ok (.getfield 252, 3) := by decide +kernel
theorem dX11_mixKey_13 : decode cX11_mixKey 13 = .ok (.bipush 32, 2) := by decide +kernel
theorem dX11_mixKey_15 : decode cX11_mixKey 15 = .ok (.invokevirtual 390, 3) := by decide +kernel
theorem dX11_mixKey_18 : decode cX11_mixKey 18 = .ok (.aload_n 0, 1) := by decide +kernel
theorem dX11_mixKey_19 : decode cX11_mixKey 19 = .ok (.getfield 103, 3) := by decide +kernel
theorem dX11_mixKey_22 : decode cX11_mixKey 22 = .ok (.iconst 0, 1) := by decide +kernel
theorem dX11_mixKey_23 : decode cX11_mixKey 23 = .ok (.aload_n 0, 1) := by decide +kernel
theorem dX11_mixKey_24 : decode cX11_mixKey 24 = .ok (.getfield 216, 3) := by decide +kernel
theorem dX11_mixKey_27 : decode cX11_mixKey 27 = .ok (.bipush 32, 2) := by decide +kernel
theorem dX11_mixKey_29 : decode cX11_mixKey 29 = .ok (.iload_n 1, 1) := by decide +kernel
theorem dX11_mixKey_30 : decode cX11_mixKey 30 = .ok (.imul, 1) := by decide +kernel
theorem dX11_mixKey_31 : decode cX11_mixKey 31 = .ok (.bipush 32, 2) := by decide +kernel
theorem dX11_mixKey_33 : decode cX11_mixKey 33 = .ok (.invokestatic 270, 3) := by decide +kernel
theorem dX11_mixKey_36 : decode cX11_mixKey 36 = .ok (.aload_n 0, 1) := by decide +kernel
theorem dX11_mixKey_37 : decode cX11_mixKey 37 = .ok (.getfield 106, 3) := by decide +kernel

theorem dX3_tell_32 : decode cX3_tell 32 = .ok (.ireturn, 1) := by decide +kernel
theorem dX3_tell_33 : decode cX3_tell 33 = .ok (.aload_n 0, 1) := by decide +kernel
theorem dX3_tell_34 : decode cX3_tell 34 = .ok (.getfield 28, 3) := by decide +kernel
theorem dX3_tell_37 : decode cX3_tell 37 = .ok (.ifCond .eq 7, 3) := by decide +kernel
theorem dX3_tell_40 : decode cX3_tell 40 = .ok (.iconst 1, 1) := by decide +kernel
theorem dX3_tell_41 : decode cX3_tell 41 = .ok (.goto 4, 3) := by decide +kernel
theorem dX3_tell_44 : decode cX3_tell 44 = .ok (.iconst 0, 1) := by decide +kernel
theorem dX3_tell_45 : decode cX3_tell 45 = .ok (.ireturn, 1) := by decide +kernel
theorem dX3_tell_46 : decode cX3_tell 46 = .ok (.aload_n 0, 1) := by decide +kernel
theorem dX3_tell_47 : decode cX3_tell 47 = .ok (.getfield 31, 3) := by decide +kernel
theorem dX3_tell_50 : decode cX3_tell 50 = .ok (.ifCond .eq 7, 3) := by decide +kernel
theorem dX3_tell_53 : decode cX3_tell 53 = .ok (.iconst 1, 1) := by decide +kernel
theorem dX3_tell_54 : decode cX3_tell 54 = .ok (.goto 4, 3) := by decide +kernel
theorem dX3_tell_57 : decode cX3_tell 57 = .ok (.iconst 0, 1) := by decide +kernel
theorem dX3_tell_58 : decode cX3_tell 58 = .ok (.ireturn, 1) := by decide +kernel
theorem dX3_tell_59 : decode cX3_tell 59 = .ok (.iload_n 1, 1) := by decide +kernel
theorem dX3_tell_60 : decode cX3_tell 60 = .ok (.iconst 3, 1) := by decide +kernel
theorem dX3_tell_61 : decode cX3_tell 61 = .ok (.isub, 1) := by decide +kernel
theorem dX3_tell_62 : decode cX3_tell 62 = .ok (.bipush 6, 2) := by decide +kernel
theorem dX3_tell_64 : decode cX3_tell 64 = .ok (.idiv, 1) := by decide +kernel
theorem dX3_tell_65 : decode cX3_tell 65 = .ok (.istore_n 2, 1) := by decide +kernel
theorem dX3_tell_66 : decode cX3_tell 66 = .ok (.iload_n 1, 1) := by decide +kernel
theorem dX3_tell_67 : decode cX3_tell 67 = .ok (.iconst 3, 1) := by decide +kernel
theorem dX3_tell_68 : decode cX3_tell 68 = .ok (.isub, 1) := by decide +kernel
theorem dX3_tell_69 : decode cX3_tell 69 = .ok (.bipush 6, 2) := by decide +kernel
theorem dX3_tell_71 : decode cX3_tell 71 = .ok (.irem, 1) := by decide +kernel
theorem dX3_tell_72 : decode cX3_tell 72 = .ok (.istore_n 3, 1) := by decide +kernel
theorem dX3_tell_73 : decode cX3_tell 73 = .ok (.iload_n 3, 1) := by decide +kernel
theorem dX3_tell_74 : decode cX3_tell 74 = .ok (.iconst 5, 1) := by decide +kernel
theorem dX3_tell_75 : decode cX3_tell 75 = .ok (.if_icmp .ne 11, 3) := by decide +kernel
theorem dX3_tell_78 : decode cX3_tell 78 = .ok (.aload_n 0, 1) := by decide +kernel
theorem dX3_tell_79 : decode cX3_tell 79 = .ok (.iload_n 2, 1) := by decide +kernel
theorem dX3_tell_80 : decode cX3_tell 80 = .ok (.invokevirtual 34, 3) := by decide +kernel
theorem dX3_tell_83 : decode cX3_tell 83 = .ok (.goto 9, 3) := by decide +kernel
theorem dX3_tell_86 : decode cX3_tell 86 = .ok (.aload_n 0, 1) := by decide +kernel
theorem dX3_tell_87 : decode cX3_tell 87 = .ok (.iload_n 2, 1) := by decide +kernel
theorem dX3_tell_88 : decode cX3_tell 88 = .ok (.iload_n 3, 1) := by decide +kernel
theorem dX3_tell_89 : decode cX3_tell 89 = .ok (.invokevirtual 38, 3) := by decide +kernel
theorem dX3_tell_92 : decode cX3_tell 92 = .ok (.ireturn, 1) := by decide +kernel
theorem dX3_findFault_0 : decode cX3_findFault 0 = .ok (.aload_n 0, 1) := by decide +kernel
theorem dX3_findFault_1 : decode cX3_findFault 1 = .ok (.invokevirtual 42, 3) := by decide +kernel
theorem dX3_findFault_4 : decode cX3_findFault 4 = .ok (.ifCond .eq 5, 3) := by decide +kernel
theorem dX3_findFault_7 : decode cX3_findFault 7 = .ok (.iconst 1, 1) := by decide +kernel
theorem dX3_findFault_8 : decode cX3_findFault 8 = .ok (.ireturn, 1) := by decide +kernel
theorem dX3_findFault_9 : decode cX3_findFault 9 = .ok (.bipush 6, 2) := by decide +kernel
theorem dX3_findFault_11 : decode cX3_findFault 11 = .ok (.istore_n 1, 1) := by decide +kernel
theorem dX3_findFault_12 : decode cX3_findFault 12 = .ok (.aload_n 0, 1) := by decide +kernel
theorem dX3_findFault_13 : decode cX3_findFault 13 = .ok (.getfield 28, 3) := by decide +kernel
theorem dX3_findFault_16 : decode cX3_findFault 16 = .ok (.ifCond .eq 7, 3) := by decide +kernel
theorem dX3_findFault_19 : decode cX3_findFault 19 = .ok (.iconst 4, 1) := by decide +kernel
theorem dX3_findFault_20 : decode cX3_findFault 20 = .ok (.goto 4, 3) := by decide +kernel
theorem dX3_findFault_23 : decode cX3_findFault 23 = .ok (.iconst 0, 1) := by decide +kernel
theorem dX3_findFault_24 : decode cX3_findFault 24 = .ok (.aload_n 0, 1) := by decide +kernel
theorem dX3_findFault_25 : decode cX3_findFault 25 = .ok (.getfield 31, 3) := by decide +kernel
theorem dX3_findFault_28 : decode cX3_findFault 28 = .ok (.ifCond .eq 8, 3) := by decide +kernel
theorem dX3_findFault_31 : decode cX3_findFault 31 = .ok (.bipush 8, 2) := by decide +kernel
theorem dX3_findFault_33 : decode cX3_findFault 33 = .ok (.goto 4, 3) := by decide +kernel
theorem dX3_findFault_36 : decode cX3_findFault 36 = .ok (.iconst 0, 1) := by decide +kernel
theorem dX3_findFault_37 : decode cX3_findFault 37 = .ok (.ior, 1) := by decide +kernel
theorem dX3_findFault_38 : decode cX3_findFault 38 = .ok (.istore_n 2, 1) := by decide +kernel
theorem dX3_findFault_39 : decode cX3_findFault 39 = .ok (.iconst 0, 1) := by decide +kernel
theorem dX3_findFault_40 : decode cX3_findFault 40 = .ok (.istore_n 3, 1) := by decide +kernel
theorem dX3_findFault_41 : decode cX3_findFault 41 = .ok (.iconst 0, 1) := by decide +kernel
theorem dX3_findFault_42 : decode cX3_findFault 42 = .ok (.istore 4, 2) := by decide +kernel
theorem dX3_findFault_44 : decode cX3_findFault 44 = .ok (.iload 4, 2) := by decide +kernel
theorem dX3_findFault_46 : decode cX3_findFault 46 = .ok (.aload_n 0, 1) := by decide +kernel
theorem dX3_findFault_47 : decode cX3_findFault 47 = .ok (.getfield 20, 3) := by decide +kernel
theorem dX3_findFault_50 : decode cX3_findFault 50 = .ok (.if_icmp .ge 108, 3) := by decide +kernel
theorem dX3_findFault_53 : decode cX3_findFault 53 = .ok (.iload 4, 2) := by decide +kernel
theorem dX3_findFault_55 : decode cX3_findFault 55 = .ok (.iconst 1, 1) := by decide +kernel
theorem dX3_findFault_56 : decode cX3_findFault 56 = .ok (.iand, 1) := by decide +kernel
theorem dX3_findFault_57 : decode cX3_findFault 57 = .ok (.istore 5, 2) := by decide +kernel
theorem dX3_findFault_59 : decode cX3_findFault 59 = .ok (.iconst 0, 1) := by decide +kernel
theorem dX3_findFault_60 : decode cX3_findFault 60 = .ok (.istore 6, 2) := by decide +kernel
theorem dX3_findFault_62 : decode cX3_findFault 62 = .ok (.iload 6, 2) := by decide +kernel
theorem dX3_findFault_64 : decode cX3_findFault 64 = .ok (.aload_n 0, 1) := by decide +kernel
theorem dX3_findFault_65 : decode cX3_findFault 65 = .ok (.getfield 16, 3) := by decide +kernel
theorem dX3_findFault_68 : decode cX3_findFault 68 = .ok (.iload 4, 2) := by decide +kernel
theorem dX3_findFault_70 : decode cX3_findFault 70 = .ok (.iaload, 1) := by decide +kernel
theorem dX3_findFault_71 : decode cX3_findFault 71 = .ok (.if_icmp .ge 66, 3) := by decide +kernel
theorem dX3_findFault_74 : decode cX3_findFault 74 = .ok (.aload_n 0, 1) := by decide +kernel
theorem dX3_findFault_75 : decode cX3_findFault 75 = .ok (.getfield 13, 3) := by decide +kernel
theorem dX3_findFault_78 : decode cX3_findFault 78 = .ok (.iload 4, 2) := by decide +kernel
theorem dX3_findFault_80 : decode cX3_findFault 80 = .ok (.aaload, 1) := by decide +kernel
theorem dX3_findFault_81 : decode cX3_findFault 81 = .ok (.iload 6, 2) := by decide +kernel
theorem dX3_findFault_83 : decode cX3_findFault 83 = .ok (.iaload, 1) := by decide +kernel
theorem dX3_findFault_84 : decode cX3_findFault 84 = .ok (.istore 7, 2) := by decide +kernel
theorem dX3_findFault_86 : decode cX3_findFault 86 = .ok (.iload_n 1, 1) := by decide +kernel
theorem dX3_findFault_87 : decode cX3_findFault 87 = .ok (.iload 7, 2) := by decide +kernel
theorem dX3_findFault_89 : decode cX3_findFault 89 = .ok (.iload 5, 2) := by decide +kernel
theorem dX3_findFault_91 : decode cX3_findFault 91 = .ok (.iload_n 2, 1) := by decide +kernel
theorem dX3_findFault_92 : decode cX3_findFault 92 = .ok (.iload_n 3, 1) := by decide +kernel
theorem dX3_findFault_93 : decode cX3_findFault 93 = .ok (.invokestatic 46, 3) := by decide +kernel
theorem dX3_findFault_96 : decode cX3_findFault 96 = .ok (.invokestatic 50, 3) := by decide +kernel
theorem dX3_findFault_99 : decode cX3_findFault 99 = .ok (.istore_n 1, 1) := by decide +kernel
theorem dX3_findFault_100 : decode cX3_findFault 100 = .ok (.iload 7, 2) := by decide +kernel
theorem dX3_findFault_102 : decode cX3_findFault 102 = .ok (.ifCond .eq 9, 3) := by decide +kernel
theorem dX3_findFault_105 : decode cX3_findFault 105 = .ok (.iload 7, 2) := by decide +kernel
theorem dX3_findFault_107 : decode cX3_findFault 107 = .ok (.iconst 1, 1) := by decide +kernel
theorem dX3_findFault_108 : decode cX3_findFault 108 = .ok (.if_icmp .ne 16, 3) := by decide +kernel
theorem dX3_findFault_111 : decode cX3_findFault 111 = .ok (.iload_n 2, 1) := by decide +kernel
theorem dX3_findFault_112 : decode cX3_findFault 112 = .ok (.iload 7, 2) := by decide +kernel
theorem dX3_findFault_114 : decode cX3_findFault 114 = .ok (.iload 5, 2) := by decide +kernel
theorem dX3_findFault_116 : decode cX3_findFault 116 = .ok (.invokestatic 55, 3) := by decide +kernel
theorem dX3_findFault_119 : decode cX3_findFault 119 = .ok (.ior, 1) := by decide +kernel
theorem dX3_findFault_120 : decode cX3_findFault 120 = .ok (.istore_n 2, 1) := by decide +kernel
theorem dX3_findFault_121 : decode cX3_findFault 121 = .ok (.goto 10, 3) := by decide +kernel
theorem dX3_findFault_124 : decode cX3_findFault 124 = .ok (.iload_n 3, 1) := by decide +kernel
theorem dX3_findFault_125 : decode cX3_findFault 125 = .ok (.iconst 1, 1) := by decide +kernel
theorem dX3_findFault_126 : decode cX3_findFault 126 = .ok (.iload 7, 2) := by decide +kernel
theorem dX3_findFault_128 : decode cX3_findFault 128 = .ok (.ishl, 1) := by decide +kernel
theorem dX3_findFault_129 : decode cX3_findFault 129 = .ok (.ior, 1) := by decide +kernel
theorem dX3_findFault_130 : decode cX3_findFault 130 = .ok (.istore_n 3, 1) := by decide +kernel
theorem dX3_findFault_131 : decode cX3_findFault 131 = .ok (.iinc 6 1, 3) := by decide +kernel
theorem dX3_findFault_134 : decode cX3_findFault 134 = .ok (.goto (-72), 3) := by decide +kernel
theorem dX3_findFault_137 : decode cX3_findFault 137 = .ok (.iload 5, 2) := by decide +kernel
theorem dX3_findFault_139 : decode cX3_findFault 139 = .ok (.iload_n 3, 1) := by decide +kernel
theorem dX3_findFault_140 : decode cX3_findFault 140 = .ok (.invokestatic 58, 3) := by decide +kernel
theorem dX3_findFault_143 : decode cX3_findFault 143 = .ok (.ifCond .eq 9, 3) := by decide +kernel
theorem dX3_findFault_146 : decode cX3_findFault 146 = .ok (.iload_n 1, 1) := by decide +kernel
theorem dX3_findFault_147 : decode cX3_findFault 147 = .ok (.iconst 5, 1) := by decide +kernel
theorem dX3_findFault_148 : decode cX3_findFault 148 = .ok (.invokestatic 50, 3) := by decide +kernel
theorem dX3_findFault_151 : decode cX3_findFault 151 = .ok (.istore_n 1, 1) := by decide +kernel
theorem dX3_findFault_152 : decode cX3_findFault 152 = .ok (.iinc 4 1, 3) := by decide +kernel
theorem dX3_findFault_155 : decode cX3_findFault 155 = .ok (.goto (-111), 3) := by decide +kernel
theorem dX3_findFault_158 : decode cX3_findFault 158 = .ok (.iload_n 1, 1) := by decide +kernel
theorem dX3_findFault_159 : decode cX3_findFault 159 = .ok (.bipush 6, 2) := by decide +kernel
theorem dX3_findFault_161 : decode cX3_findFault 161 = .ok (.if_icmp .ne 7, 3) := by decide +kernel
theorem dX3_findFault_164 : decode cX3_findFault 164 = .ok (.iconst 0, 1) := by decide +kernel
theorem dX3_findFault_165 : decode cX3_findFault 165 = .ok (.goto 4, 3) := by decide +kernel
theorem dX3_findFault_168 : decode cX3_findFault 168 = .ok (.iload_n 1, 1) := by decide +kernel
theorem dX3_findFault_169 : decode cX3_findFault 169 = .ok (.ireturn, 1) := by decide +kernel
theorem dX3_hasEmptyMessage_0 : decode cX3_hasEmptyMessage 0 = .ok (.iconst 0, 1) := by decide +kernel
theorem dX3_hasEmptyMessage_1 : decode cX3_hasEmptyMessage 1 = .ok (.istore_n 1, 1) := by decide +kernel
theorem dX3_hasEmptyMessage_2 : decode cX3_hasEmptyMessage 2 = .ok (.iload_n 1, 1) := by decide +kernel
theorem dX3_hasEmptyMessage_3 : decode cX3_hasEmptyMessage 3 = .ok (.aload_n 0, 1) := by decide +kernel
theorem dX3_hasEmptyMessage_4 : decode cX3_hasEmptyMessage 4 = .ok (.getfield 20, 3) := by decide +kernel
theorem dX3_hasEmptyMessage_7 : decode cX3_hasEmptyMessage 7 = .ok (.if_icmp .ge 20, 3) := by decide +kernel
theorem dX3_hasEmptyMessage_10 : decode cX3_hasEmptyMessage 10 = .ok (.aload_n 0, 1) := by decide +kernel
theorem dX3_hasEmptyMessage_11 : decode cX3_hasEmptyMessage 11 = .ok (.getfield 16, 3) := by decide +kernel
theorem dX3_hasEmptyMessage_14 : decode cX3_hasEmptyMessage 14 = .ok (.iload_n 1, 1) := by decide +kernel
theorem dX3_hasEmptyMessage_15 : decode cX3_hasEmptyMessage 15 = .ok (.iaload, 1) := by decide +kernel
theorem dX3_hasEmptyMessage_16 : decode cX3_hasEmptyMessage 16 = .ok (.ifCond .ne 5, 3) := by decide +kernel
theorem dX3_hasEmptyMessage_19 : decode cX3_hasEmptyMessage 19 = .ok (.iconst 1, 1) := by decide +kernel
theorem dX3_hasEmptyMessage_20 : decode cX3_hasEmptyMessage 20 = .ok (.ireturn, 1) := by decide +kernel
theorem dX3_hasEmptyMessage_21 : decode cX3_hasEmptyMessage 21 = .ok (.iinc 1 1, 3) := by decide +kernel
theorem dX3_hasEmptyMessage_24 : decode cX3_hasEmptyMessage 24 = .ok (.goto (-22), 3) := by decide +kernel
theorem dX3_hasEmptyMessage_27 : decode cX3_hasEmptyMessage 27 = .ok (.aload_n 0, 1) := by decide +kernel
theorem dX3_hasEmptyMessage_28 : decode cX3_hasEmptyMessage 28 = .ok (.getfield 20, 3) := by decide +kernel
theorem dX3_hasEmptyMessage_31 : decode cX3_hasEmptyMessage 31 = .ok (.ifCond .ne 7, 3) := by decide +kernel
theorem dX3_hasEmptyMessage_34 : decode cX3_hasEmptyMessage 34 = .ok (.iconst 1, 1) := by decide +kernel
theorem dX3_hasEmptyMessage_35 : decode cX3_hasEmptyMessage 35 = .ok (.goto 4, 3) := by decide +kernel
theorem dX3_hasEmptyMessage_38 : decode cX3_hasEmptyMessage 38 = .ok (.iconst 0, 1) := by decide +kernel
theorem dX3_hasEmptyMessage_39 : decode cX3_hasEmptyMessage 39 = .ok (.ireturn, 1) := by decide +kernel
theorem dX3_faultAt_0 : decode cX3_faultAt 0 = .ok (.iload_n 0, 1) := by decide +kernel
theorem dX3_faultAt_1 : decode cX3_faultAt 1 = .ok (.ifCond .eq 8, 3) := by decide +kernel
theorem dX3_faultAt_4 : decode cX3_faultAt 4 = .ok (.iload_n 0, 1) := by decide +kernel
theorem dX3_faultAt_5 : decode cX3_faultAt 5 = .ok (.iconst 1, 1) := by decide +kernel
theorem dX3_faultAt_6 : decode cX3_faultAt 6 = .ok (.if_icmp .ne 20, 3) := by decide +kernel
theorem dX3_faultAt_9 : decode cX3_faultAt 9 = .ok (.iload_n 2, 1) := by decide +kernel
theorem dX3_faultAt_10 : decode cX3_faultAt 10 = .ok (.iload_n 0, 1) := by decide +kernel
theorem dX3_faultAt_11 : decode cX3_faultAt 11 = .ok (.iload_n 1, 1) := by decide +kernel
theorem dX3_faultAt_12 : decode cX3_faultAt 12 = .ok (.invokestatic 55, 3) := by decide +kernel
theorem dX3_faultAt_15 : decode cX3_faultAt 15 = .ok (.iand, 1) := by decide +kernel
theorem dX3_faultAt_16 : decode cX3_faultAt 16 = .ok (.ifCond .eq 7, 3) := by decide +kernel
theorem dX3_faultAt_19 : decode cX3_faultAt 19 = .ok (.iconst 2, 1) := by decide +kernel
theorem dX3_faultAt_20 : decode cX3_faultAt 20 = .ok (.goto 5, 3) := by decide +kernel
theorem dX3_faultAt_23 : decode cX3_faultAt 23 = .ok (.bipush 6, 2) := by decide +kernel
theorem dX3_faultAt_25 : decode cX3_faultAt 25 = .ok (.ireturn, 1) := by decide +kernel
theorem dX3_faultAt_26 : decode cX3_faultAt 26 = .ok (.iload_n 2, 1) := by decide +kernel
theorem dX3_faultAt_27 : decode cX3_faultAt 27 = .ok (.getstatic 62, 3) := by decide +kernel
theorem dX3_faultAt_30 : decode cX3_faultAt 30 = .ok (.iload_n 0, 1) := by decide +kernel
theorem dX3_faultAt_31 : decode cX3_faultAt 31 = .ok (.iaload, 1) := by decide +kernel
theorem dX3_faultAt_32 : decode cX3_faultAt 32 = .ok (.iand, 1) := by decide +kernel
theorem dX3_faultAt_33 : decode cX3_faultAt 33 = .ok (.getstatic 62, 3) := by decide +kernel
theorem dX3_faultAt_36 : decode cX3_faultAt 36 = .ok (.iload_n 0, 1) := by decide +kernel
theorem dX3_faultAt_37 : decode cX3_faultAt 37 = .ok (.iaload, 1) := by decide +kernel
theorem dX3_faultAt_38 : decode cX3_faultAt 38 = .ok (.if_icmp .eq 5, 3) := by decide +kernel
theorem dX3_faultAt_41 : decode cX3_faultAt 41 = .ok (.iconst 3, 1) := by decide +kernel
theorem dX3_faultAt_42 : decode cX3_faultAt 42 = .ok (.ireturn, 1) := by decide +kernel
theorem dX3_faultAt_43 : decode cX3_faultAt 43 = .ok (.iload_n 3, 1) := by decide +kernel
theorem dX3_faultAt_44 : decode cX3_faultAt 44 = .ok (.iload_n 0, 1) := by decide +kernel
theorem dX3_faultAt_45 : decode cX3_faultAt 45 = .ok (.invokestatic 65, 3) := by decide +kernel
theorem dX3_faultAt_48 : decode cX3_faultAt 48 = .ok (.ifCond .eq 7, 3) := by decide +kernel
theorem dX3_faultAt_51 : decode cX3_faultAt 51 = .ok (.iconst 4, 1) := by decide +kernel
theorem dX3_faultAt_52 : decode cX3_faultAt 52 = .ok (.goto 5, 3) := by decide +kernel
theorem dX3_faultAt_55 : decode cX3_faultAt 55 = .ok (.bipush 6, 2) := by decide +kernel
theorem dX3_faultAt_57 : decode cX3_faultAt 57 = .ok (.ireturn, 1) := by decide +kernel
theorem dX3_keyBit_0 : decode cX3_keyBit 0 = .ok (.iconst 1, 1) := by decide +kernel
theorem dX3_keyBit_1 : decode cX3_keyBit 1 = .ok (.iconst 2, 1) := by decide +kernel
theorem dX3_keyBit_2 : decode cX3_keyBit 2 = .ok (.iload_n 0, 1) := by decide +kernel
theorem dX3_keyBit_3 : decode cX3_keyBit 3 = .ok (.imul, 1) := by decide +kernel
theorem dX3_keyBit_4 : decode cX3_keyBit 4 = .ok (.iload_n 1, 1) := by decide +kernel
theorem dX3_keyBit_5 : decode cX3_keyBit 5 = .ok (.iadd, 1) := by decide +kernel
theorem dX3_keyBit_6 : decode cX3_keyBit 6 = .ok (.ishl, 1) := by decide +kernel
theorem dX3_keyBit_7 : decode cX3_keyBit 7 = .ok (.ireturn, 1) := by decide +kernel
theorem dX3_did_0 : decode cX3_did 0 = .ok (.iload_n 0, 1) := by decide +kernel
theorem dX3_did_1 : decode cX3_did 1 = .ok (.iload_n 1, 1) := by decide +kernel
theorem dX3_did_2 : decode cX3_did 2 = .ok (.ishr, 1) := by decide +kernel
theorem dX3_did_3 : decode cX3_did 3 = .ok (.iconst 1, 1) := by decide +kernel
theorem dX3_did_4 : decode cX3_did 4 = .ok (.iand, 1) := by decide +kernel
theorem dX3_did_5 : decode cX3_did 5 = .ok (.iconst 1, 1) := by decide +kernel
theorem dX3_did_6 : decode cX3_did 6 = .ok (.if_icmp .ne 7, 3) := by decide +kernel
theorem dX3_did_9 : decode cX3_did 9 = .ok (.iconst 1, 1) := by decide +kernel
theorem dX3_did_10 : decode cX3_did 10 = .ok (.goto 4, 3) := by decide +kernel
theorem dX3_did_13 : decode cX3_did 13 = .ok (.iconst 0, 1) := by decide +kernel
theorem dX3_did_14 : decode cX3_did 14 = .ok (.ireturn, 1) := by decide +kernel
theorem dX3_sealsTooSoon_0 : decode cX3_sealsTooSoon 0 = .ok (.iload_n 0, 1) := by decide +kernel
theorem dX3_sealsTooSoon_1 : decode cX3_sealsTooSoon 1 = .ok (.ifCond .ne 7, 3) := by decide +kernel
theorem dX3_sealsTooSoon_4 : decode cX3_sealsTooSoon 4 = .ok (.iconst 4, 1) := by decide +kernel
theorem dX3_sealsTooSoon_5 : decode cX3_sealsTooSoon 5 = .ok (.goto 4, 3) := by decide +kernel
theorem dX3_sealsTooSoon_8 : decode cX3_sealsTooSoon 8 = .ok (.iconst 3, 1) := by decide +kernel
theorem dX3_sealsTooSoon_9 : decode cX3_sealsTooSoon 9 = .ok (.istore_n 2, 1) := by decide +kernel
theorem dX3_sealsTooSoon_10 : decode cX3_sealsTooSoon 10 = .ok (.iload_n 0, 1) := by decide +kernel
theorem dX3_sealsTooSoon_11 : decode cX3_sealsTooSoon 11 = .ok (.ifCond .ne 7, 3) := by decide +kernel
theorem dX3_sealsTooSoon_14 : decode cX3_sealsTooSoon 14 = .ok (.iconst 3, 1) := by decide +kernel
theorem dX3_sealsTooSoon_15 : decode cX3_sealsTooSoon 15 = .ok (.goto 4, 3) := by decide +kernel
theorem dX3_sealsTooSoon_18 : decode cX3_sealsTooSoon 18 = .ok (.iconst 4, 1) := by decide +kernel
theorem dX3_sealsTooSoon_19 : decode cX3_sealsTooSoon 19 = .ok (.istore_n 3, 1) := by decide +kernel
theorem dX3_sealsTooSoon_20 : decode cX3_sealsTooSoon 20 = .ok (.iload_n 1, 1) := by decide +kernel
theorem dX3_sealsTooSoon_21 : decode cX3_sealsTooSoon 21 = .ok (.iload_n 2, 1) := by decide +kernel
theorem dX3_sealsTooSoon_22 : decode cX3_sealsTooSoon 22 = .ok (.invokestatic 65, 3) := by decide +kernel
theorem dX3_sealsTooSoon_25 : decode cX3_sealsTooSoon 25 = .ok (.ifCond .eq 11, 3) := by decide +kernel
theorem dX3_sealsTooSoon_28 : decode cX3_sealsTooSoon 28 = .ok (.iload_n 1, 1) := by decide +kernel
theorem dX3_sealsTooSoon_29 : decode cX3_sealsTooSoon 29 = .ok (.iconst 2, 1) := by decide +kernel
theorem dX3_sealsTooSoon_30 : decode cX3_sealsTooSoon 30 = .ok (.invokestatic 65, 3) := by decide +kernel
theorem dX3_sealsTooSoon_33 : decode cX3_sealsTooSoon 33 = .ok (.ifCond .eq 19, 3) := by decide +kernel
theorem dX3_sealsTooSoon_36 : decode cX3_sealsTooSoon 36 = .ok (.iload_n 1, 1) := by decide +kernel
theorem dX3_sealsTooSoon_37 : decode cX3_sealsTooSoon 37 = .ok (.iconst 5, 1) := by decide +kernel
theorem dX3_sealsTooSoon_38 : decode cX3_sealsTooSoon 38 = .ok (.invokestatic 65, 3) := by decide +kernel
theorem dX3_sealsTooSoon_41 : decode cX3_sealsTooSoon 41 = .ok (.ifCond .eq 15, 3) := by decide +kernel
theorem dX3_sealsTooSoon_44 : decode cX3_sealsTooSoon 44 = .ok (.iload_n 1, 1) := by decide +kernel
theorem dX3_sealsTooSoon_45 : decode cX3_sealsTooSoon 45 = .ok (.iload_n 3, 1) := by decide +kernel
theorem dX3_sealsTooSoon_46 : decode cX3_sealsTooSoon 46 = .ok (.invokestatic 65, 3) := by decide +kernel
theorem dX3_sealsTooSoon_49 : decode cX3_sealsTooSoon 49 = .ok (.ifCond .ne 7, 3) := by decide +kernel
theorem dX3_sealsTooSoon_52 : decode cX3_sealsTooSoon 52 = .ok (.iconst 1, 1) := by decide +kernel
theorem dX3_sealsTooSoon_53 : decode cX3_sealsTooSoon 53 = .ok (.goto 4, 3) := by decide +kernel
theorem dX3_sealsTooSoon_56 : decode cX3_sealsTooSoon 56 = .ok (.iconst 0, 1) := by decide +kernel
theorem dX3_sealsTooSoon_57 : decode cX3_sealsTooSoon 57 = .ok (.ireturn, 1) := by decide +kernel
theorem dX4_init_0 : decode cX4_init 0 = .ok (.aload_n 0, 1) := by decide +kernel
theorem dX4_init_1 : decode cX4_init 1 = .ok (.invokespecial 3, 3) := by decide +kernel
theorem dX4_init_4 : decode cX4_init 4 = .ok (.aload_n 0, 1) := by decide +kernel
theorem dX4_init_5 : decode cX4_init 5 = .ok (.iconst 0, 1) := by decide +kernel
theorem dX4_init_6 : decode cX4_init 6 = .ok (.putfield 9, 3) := by decide +kernel
theorem dX4_init_9 : decode cX4_init 9 = .ok (.aload_n 0, 1) := by decide +kernel
theorem dX4_init_10 : decode cX4_init 10 = .ok (.iload_n 1, 1) := by decide +kernel
theorem dX4_init_11 : decode cX4_init 11 = .ok (.newarray .int, 2) := by decide +kernel
theorem dX4_init_13 : decode cX4_init 13 = .ok (.putfield 15, 3) := by decide +kernel
theorem dX4_init_16 : decode cX4_init 16 = .ok (.return_, 1) := by decide +kernel
theorem dX4_put_0 : decode cX4_put 0 = .ok (.aload_n 0, 1) := by decide +kernel
theorem dX4_put_1 : decode cX4_put 1 = .ok (.getfield 9, 3) := by decide +kernel
theorem dX4_put_4 : decode cX4_put 4 = .ok (.aload_n 0, 1) := by decide +kernel
theorem dX4_put_5 : decode cX4_put 5 = .ok (.getfield 15, 3) := by decide +kernel
theorem dX4_put_8 : decode cX4_put 8 = .ok (.arraylength, 1) := by decide +kernel
theorem dX4_put_9 : decode cX4_put 9 = .ok (.if_icmp .ge 23, 3) := by decide +kernel
theorem dX4_put_12 : decode cX4_put 12 = .ok (.aload_n 0, 1) := by decide +kernel
theorem dX4_put_13 : decode cX4_put 13 = .ok (.getfield 15, 3) := by decide +kernel
theorem dX4_put_16 : decode cX4_put 16 = .ok (.aload_n 0, 1) := by decide +kernel
theorem dX4_put_17 : decode cX4_put 17 = .ok (.getfield 9, 3) := by decide +kernel
theorem dX4_put_20 : decode cX4_put 20 = .ok (.iload_n 1, 1) := by decide +kernel
theorem dX4_put_21 : decode cX4_put 21 = .ok (.iastore, 1) := by decide +kernel
theorem dX4_put_22 : decode cX4_put 22 = .ok (.aload_n 0, 1) := by decide +kernel
theorem dX4_put_23 : decode cX4_put 23 = .ok (.dup, 1) := by decide +kernel
theorem dX4_put_24 : decode cX4_put 24 = .ok (.getfield 9, 3) := by decide +kernel
theorem dX4_put_27 : decode cX4_put 27 = .ok (.iconst 1, 1) := by decide +kernel
theorem dX4_put_28 : decode cX4_put 28 = .ok (.iadd, 1) := by decide +kernel
theorem dX4_put_29 : decode cX4_put 29 = .ok (.putfield 9, 3) := by decide +kernel
theorem dX4_put_32 : decode cX4_put 32 = .ok (.return_, 1) := by decide +kernel
theorem dX4_putAll_0 : decode cX4_putAll 0 = .ok (.iload_n 2, 1) := by decide +kernel
theorem dX4_putAll_1 : decode cX4_putAll 1 = .ok (.istore 4, 2) := by decide +kernel
theorem dX4_putAll_3 : decode cX4_putAll 3 = .ok (.iload 4, 2) := by decide +kernel
theorem dX4_putAll_5 : decode cX4_putAll 5 = .ok (.iload_n 3, 1) := by decide +kernel
theorem dX4_putAll_6 : decode cX4_putAll 6 = .ok (.if_icmp .ge 17, 3) := by decide +kernel
theorem dX4_putAll_9 : decode cX4_putAll 9 = .ok (.aload_n 0, 1) := by decide +kernel
theorem dX4_putAll_10 : decode cX4_putAll 10 = .ok (.aload_n 1, 1) := by decide +kernel
theorem dX4_putAll_11 : decode cX4_putAll 11 = .ok (.iload 4, 2) := by decide +kernel
theorem dX4_putAll_13 : decode cX4_putAll 13 = .ok (.iaload, 1) := by decide +kernel
theorem dX4_putAll_14 : decode cX4_putAll 14 = .ok (.invokevirtual 19, 3) := by decide +kernel
theorem dX4_putAll_17 : decode cX4_putAll 17 = .ok (.iinc 4 1, 3) := by decide +kernel
theorem dX4_putAll_20 : decode cX4_putAll 20 = .ok (.goto (-17), 3) := by decide +kernel
theorem dX4_putAll_23 : decode cX4_putAll 23 = .ok (.return_, 1) := by decide +kernel
theorem dX4_at_0 : decode cX4_at 0 = .ok (.iload_n 1, 1) := by decide +kernel
theorem dX4_at_1 : decode cX4_at 1 = .ok (.ifCond .lt 20, 3) := by decide +kernel
theorem dX4_at_4 : decode cX4_at 4 = .ok (.iload_n 1, 1) := by decide +kernel
theorem dX4_at_5 : decode cX4_at 5 = .ok (.aload_n 0, 1) := by decide +kernel
theorem dX4_at_6 : decode cX4_at 6 = .ok (.getfield 9, 3) := by decide +kernel
theorem dX4_at_9 : decode cX4_at 9 = .ok (.if_icmp .ge 12, 3) := by decide +kernel
theorem dX4_at_12 : decode cX4_at 12 = .ok (.aload_n 0, 1) := by decide +kernel
theorem dX4_at_13 : decode cX4_at 13 = .ok (.getfield 15, 3) := by decide +kernel
theorem dX4_at_16 : decode cX4_at 16 = .ok (.iload_n 1, 1) := by decide +kernel
theorem dX4_at_17 : decode cX4_at 17 = .ok (.iaload, 1) := by decide +kernel
theorem dX4_at_18 : decode cX4_at 18 = .ok (.goto 4, 3) := by decide +kernel
theorem dX4_at_21 : decode cX4_at 21 = .ok (.iconst (-1), 1) := by decide +kernel
theorem dX4_at_22 : decode cX4_at 22 = .ok (.ireturn, 1) := by decide +kernel
theorem dX4_addTo_0 : decode cX4_addTo 0 = .ok (.iconst 0, 1) := by decide +kernel
theorem dX4_addTo_1 : decode cX4_addTo 1 = .ok (.istore_n 3, 1) := by decide +kernel
theorem dX4_addTo_2 : decode cX4_addTo 2 = .ok (.iload_n 3, 1) := by decide +kernel
theorem dX4_addTo_3 : decode cX4_addTo 3 = .ok (.aload_n 0, 1) := by decide +kernel
theorem dX4_addTo_4 : decode cX4_addTo 4 = .ok (.getfield 9, 3) := by decide +kernel
theorem dX4_addTo_7 : decode cX4_addTo 7 = .ok (.if_icmp .ge 23, 3) := by decide +kernel
theorem dX4_addTo_10 : decode cX4_addTo 10 = .ok (.ldc2_w 23, 3) := by decide +kernel
theorem dX4_addTo_13 : decode cX4_addTo 13 = .ok (.lload_n 1, 1) := by decide +kernel
theorem dX4_addTo_14 : decode cX4_addTo 14 = .ok (.lmul, 1) := by decide +kernel
theorem dX4_addTo_15 : decode cX4_addTo 15 = .ok (.aload_n 0, 1) := by decide +kernel
theorem dX4_addTo_16 : decode cX4_addTo 16 = .ok (.getfield 15, 3) := by decide +kernel
theorem dX4_addTo_19 : decode cX4_addTo 19 = .ok (.iload_n 3, 1) := by decide +kernel
theorem dX4_addTo_20 : decode cX4_addTo 20 = .ok (.iaload, 1) := by decide +kernel
theorem dX4_addTo_21 : decode cX4_addTo 21 = .ok (.i2l, 1) := by decide +kernel
theorem dX4_addTo_22 : decode cX4_addTo 22 = .ok (.ladd, 1) := by decide +kernel
theorem dX4_addTo_23 : decode cX4_addTo 23 = .ok (.lstore_n 1, 1) := by decide +kernel
theorem dX4_addTo_24 : decode cX4_addTo 24 = .ok (.iinc 3 1, 3) := by decide +kernel
theorem dX4_addTo_27 : decode cX4_addTo 27 = .ok (.goto (-25), 3) := by decide +kernel
theorem dX4_addTo_30 : decode cX4_addTo 30 = .ok (.lload_n 1, 1) := by decide +kernel
theorem dX4_addTo_31 : decode cX4_addTo 31 = .ok (.lreturn, 1) := by decide +kernel
theorem dX5_init_0 : decode cX5_init 0 = .ok (.aload_n 0, 1) := by decide +kernel
theorem dX5_init_1 : decode cX5_init 1 = .ok (.invokespecial 3, 3) := by decide +kernel
theorem dX5_init_4 : decode cX5_init 4 = .ok (.aload_n 0, 1) := by decide +kernel
theorem dX5_init_5 : decode cX5_init 5 = .ok (.bipush 8, 2) := by decide +kernel
theorem dX5_init_7 : decode cX5_init 7 = .ok (.newarray .int, 2) := by decide +kernel
theorem dX5_init_9 : decode cX5_init 9 = .ok (.putfield 9, 3) := by decide +kernel
theorem dX5_init_12 : decode cX5_init 12 = .ok (.aload_n 0, 1) := by decide +kernel
theorem dX5_init_13 : decode cX5_init 13 = .ok (.bipush 64, 2) := by decide +kernel
theorem dX5_init_15 : decode cX5_init 15 = .ok (.newarray .int, 2) := by decide +kernel
theorem dX5_init_17 : decode cX5_init 17 = .ok (.putfield 15, 3) := by decide +kernel
theorem dX5_init_20 : decode cX5_init 20 = .ok (.aload_n 0, 1) := by decide +kernel
theorem dX5_init_21 : decode cX5_init 21 = .ok (.iconst 0, 1) := by decide +kernel
theorem dX5_init_22 : decode cX5_init 22 = .ok (.putfield 18, 3) := by decide +kernel
theorem dX5_init_25 : decode cX5_init 25 = .ok (.aload_n 0, 1) := by decide +kernel
theorem dX5_init_26 : decode cX5_init 26 = .ok (.iconst 0, 1) := by decide +kernel
theorem dX5_init_27 : decode cX5_init 27 = .ok (.putfield 22, 3) := by decide +kernel
theorem dX5_init_30 : decode cX5_init 30 = .ok (.return_, 1) := by decide +kernel
theorem dX5_begin_0 : decode cX5_begin 0 = .ok (.getstatic 25, 3) := by decide +kernel
theorem dX5_begin_3 : decode cX5_begin 3 = .ok (.iconst 0, 1) := by decide +kernel
theorem dX5_begin_4 : decode cX5_begin 4 = .ok (.aload_n 0, 1) := by decide +kernel
theorem dX5_begin_5 : decode cX5_begin 5 = .ok (.getfield 9, 3) := by decide +kernel
theorem dX5_begin_8 : decode cX5_begin 8 = .ok (.iconst 0, 1) := by decide +kernel
theorem dX5_begin_9 : decode cX5_begin 9 = .ok (.bipush 8, 2) := by decide +kernel
theorem dX5_begin_11 : decode cX5_begin 11 = .ok (.invokestatic 28, 3) := by decide +kernel
theorem dX5_begin_14 : decode cX5_begin 14 = .ok (.aload_n 0, 1) := by decide +kernel
theorem dX5_begin_15 : decode cX5_begin 15 = .ok (.iconst 0, 1) := by decide +kernel
theorem dX5_begin_16 : decode cX5_begin 16 = .ok (.putfield 18, 3) := by decide +kernel
theorem dX5_begin_19 : decode cX5_begin 19 = .ok (.aload_n 0, 1) := by decide +kernel
theorem dX5_begin_20 : decode cX5_begin 20 = .ok (.iconst 0, 1) := by decide +kernel
theorem dX5_begin_21 : decode cX5_begin 21 = .ok (.putfield 22, 3) := by decide +kernel
theorem dX5_begin_24 : decode cX5_begin 24 = .ok (.return_, 1) := by decide +kernel
theorem dX5_add_0 : decode cX5_add 0 = .ok (.iload_n 2, 1) := by decide +kernel
theorem dX5_add_1 : decode cX5_add 1 = .ok (.istore 4, 2) := by decide +kernel
theorem dX5_add_3 : decode cX5_add 3 = .ok (.iload 4, 2) := by decide +kernel
theorem dX5_add_5 : decode cX5_add 5 = .ok (.iload_n 3, 1) := by decide +kernel
theorem dX5_add_6 : decode cX5_add 6 = .ok (.if_icmp .ge 17, 3) := by decide +kernel
theorem dX5_add_9 : decode cX5_add 9 = .ok (.aload_n 0, 1) := by decide +kernel
theorem dX5_add_10 : decode cX5_add 10 = .ok (.aload_n 1, 1) := by decide +kernel
theorem dX5_add_11 : decode cX5_add 11 = .ok (.iload 4, 2) := by decide +kernel
theorem dX5_add_13 : decode cX5_add 13 = .ok (.iaload, 1) := by decide +kernel
theorem dX5_add_14 : decode cX5_add 14 = .ok (.invokevirtual 34, 3) := by decide +kernel
theorem dX5_add_17 : decode cX5_add 17 = .ok (.iinc 4 1, 3) := by decide +kernel
theorem dX5_add_20 : decode cX5_add 20 = .ok (.goto (-17), 3) := by decide +kernel
theorem dX5_add_23 : decode cX5_add 23 = .ok (.return_, 1) := by decide +kernel
theorem dX5_addNumber_0 : decode cX5_addNumber 0 = .ok (.bipush 24, 2) := by decide +kernel
theorem dX5_addNumber_2 : decode cX5_addNumber 2 = .ok (.istore_n 2, 1) := by decide +kernel
theorem dX5_addNumber_3 : decode cX5_addNumber 3 = .ok (.iload_n 2, 1) := by decide +kernel
theorem dX5_addNumber_4 : decode cX5_addNumber 4 = .ok (.ifCond .lt 20, 3) := by decide +kernel
theorem dX5_addNumber_7 : decode cX5_addNumber 7 = .ok (.aload_n 0, 1) := by decide +kernel
theorem dX5_addNumber_8 : decode cX5_addNumber 8 = .ok (.iload_n 1, 1) := by decide +kernel
theorem dX5_addNumber_9 : decode cX5_addNumber 9 = .ok (.iload_n 2, 1) := by decide +kernel
theorem dX5_addNumber_10 : decode cX5_addNumber 10 = .ok (.iushr, 1) := by decide +kernel
theorem dX5_addNumber_11 : decode cX5_addNumber 11 = .ok (.sipush 255, 3) := by decide +kernel
theorem dX5_addNumber_14 : decode cX5_addNumber 14 = .ok (.iand, 1) := by decide +kernel
theorem dX5_addNumber_15 : decode cX5_addNumber 15 = .ok (.invokevirtual 34, 3) := by decide +kernel
theorem dX5_addNumber_18 : decode cX5_addNumber 18 = .ok (.iinc 2 (-8), 3) := by decide +kernel
theorem dX5_addNumber_21 : decode cX5_addNumber 21 = .ok (.goto (-18), 3) := by decide +kernel
theorem dX5_addNumber_24 : decode cX5_addNumber 24 = .ok (.return_, 1) := by decide +kernel
theorem dX5_addByte_0 : decode cX5_addByte 0 = .ok (.aload_n 0, 1) := by decide +kernel
theorem dX5_addByte_1 : decode cX5_addByte 1 = .ok (.getfield 15, 3) := by decide +kernel
theorem dX5_addByte_4 : decode cX5_addByte 4 = .ok (.aload_n 0, 1) := by decide +kernel
theorem dX5_addByte_5 : decode cX5_addByte 5 = .ok (.getfield 18, 3) := by decide +kernel
theorem dX5_addByte_8 : decode cX5_addByte 8 = .ok (.iconst 2, 1) := by decide +kernel
theorem dX5_addByte_9 : decode cX5_addByte 9 = .ok (.ishr, 1) := by decide +kernel
theorem dX5_addByte_10 : decode cX5_addByte 10 = .ok (.aload_n 0, 1) := by decide +kernel
theorem dX5_addByte_11 : decode cX5_addByte 11 = .ok (.getfield 15, 3) := by decide +kernel
theorem dX5_addByte_14 : decode cX5_addByte 14 = .ok (.aload_n 0, 1) := by decide +kernel
theorem dX5_addByte_15 : decode cX5_addByte 15 = .ok (.getfield 18, 3) := by decide +kernel
theorem dX5_addByte_18 : decode cX5_addByte 18 = .ok (.iconst 2, 1) := by decide +kernel
theorem dX5_addByte_19 : decode cX5_addByte 19 = .ok (.ishr, 1) := by decide +kernel
theorem dX5_addByte_20 : decode cX5_addByte 20 = .ok (.iaload, 1) := by decide +kernel
theorem dX5_addByte_21 : decode cX5_addByte 21 = .ok (.bipush 8, 2) := by decide +kernel
theorem dX5_addByte_23 : decode cX5_addByte 23 = .ok (.ishl, 1) := by decide +kernel
theorem dX5_addByte_24 : decode cX5_addByte 24 = .ok (.iload_n 1, 1) := by decide +kernel
theorem dX5_addByte_25 : decode cX5_addByte 25 = .ok (.ior, 1) := by decide +kernel
theorem dX5_addByte_26 : decode cX5_addByte 26 = .ok (.iastore, 1) := by decide +kernel
theorem dX5_addByte_27 : decode cX5_addByte 27 = .ok (.aload_n 0, 1) := by decide +kernel
theorem dX5_addByte_28 : decode cX5_addByte 28 = .ok (.dup, 1) := by decide +kernel
theorem dX5_addByte_29 : decode cX5_addByte 29 = .ok (.getfield 22, 3) := by decide +kernel
theorem dX5_addByte_32 : decode cX5_addByte 32 = .ok (.iconst 1, 1) := by decide +kernel
theorem dX5_addByte_33 : decode cX5_addByte 33 = .ok (.iadd, 1) := by decide +kernel
theorem dX5_addByte_34 : decode cX5_addByte 34 = .ok (.putfield 22, 3) := by decide +kernel
theorem dX5_addByte_37 : decode cX5_addByte 37 = .ok (.aload_n 0, 1) := by decide +kernel
theorem dX5_addByte_38 : decode cX5_addByte 38 = .ok (.aload_n 0, 1) := by decide +kernel
theorem dX5_addByte_39 : decode cX5_addByte 39 = .ok (.getfield 18, 3) := by decide +kernel
theorem dX5_addByte_42 : decode cX5_addByte 42 = .ok (.iconst 1, 1) := by decide +kernel
theorem dX5_addByte_43 : decode cX5_addByte 43 = .ok (.iadd, 1) := by decide +kernel
theorem dX5_addByte_44 : decode cX5_addByte 44 = .ok (.bipush 63, 2) := by decide +kernel
theorem dX5_addByte_46 : decode cX5_addByte 46 = .ok (.iand, 1) := by decide +kernel
theorem dX5_addByte_47 : decode cX5_addByte 47 = .ok (.putfield 18, 3) := by decide +kernel
theorem dX5_addByte_50 : decode cX5_addByte 50 = .ok (.aload_n 0, 1) := by decide +kernel
theorem dX5_addByte_51 : decode cX5_addByte 51 = .ok (.getfield 18, 3) := by decide +kernel
theorem dX5_addByte_54 : decode cX5_addByte 54 = .ok (.ifCond .ne 7, 3) := by decide +kernel
theorem dX5_addByte_57 : decode cX5_addByte 57 = .ok (.aload_n 0, 1) := by decide +kernel
theorem dX5_addByte_58 : decode cX5_addByte 58 = .ok (.invokevirtual 38, 3) := by decide +kernel
theorem dX5_addByte_61 : decode cX5_addByte 61 = .ok (.return_, 1) := by decide +kernel
theorem dX5_finish_0 : decode cX5_finish 0 = .ok (.bipush 8, 2) := by decide +kernel
theorem dX5_finish_2 : decode cX5_finish 2 = .ok (.aload_n 0, 1) := by decide +kernel
theorem dX5_finish_3 : decode cX5_finish 3 = .ok (.getfield 22, 3) := by decide +kernel
theorem dX5_finish_6 : decode cX5_finish 6 = .ok (.imul, 1) := by decide +kernel
theorem dX5_finish_7 : decode cX5_finish 7 = .ok (.istore_n 2, 1) := by decide +kernel
theorem dX5_finish_8 : decode cX5_finish 8 = .ok (.aload_n 0, 1) := by decide +kernel
theorem dX5_finish_9 : decode cX5_finish 9 = .ok (.sipush 128, 3) := by decide +kernel
theorem dX5_finish_12 : decode cX5_finish 12 = .ok (.invokevirtual 34, 3) := by decide +kernel
theorem dX5_finish_15 : decode cX5_finish 15 = .ok (.bipush 56, 2) := by decide +kernel
theorem dX5_finish_17 : decode cX5_finish 17 = .ok (.aload_n 0, 1) := by decide +kernel
theorem dX5_finish_18 : decode cX5_finish 18 = .ok (.getfield 18, 3) := by decide +kernel
theorem dX5_finish_21 : decode cX5_finish 21 = .ok (.isub, 1) := by decide +kernel
theorem dX5_finish_22 : decode cX5_finish 22 = .ok (.bipush 63, 2) := by decide +kernel
theorem dX5_finish_24 : decode cX5_finish 24 = .ok (.iand, 1) := by decide +kernel
theorem dX5_finish_25 : decode cX5_finish 25 = .ok (.iconst 4, 1) := by decide +kernel
theorem dX5_finish_26 : decode cX5_finish 26 = .ok (.iadd, 1) := by decide +kernel
theorem dX5_finish_27 : decode cX5_finish 27 = .ok (.istore_n 3, 1) := by decide +kernel
theorem dX5_finish_28 : decode cX5_finish 28 = .ok (.iconst 0, 1) := by decide +kernel
theorem dX5_finish_29 : decode cX5_finish 29 = .ok (.istore 4, 2) := by decide +kernel
theorem dX5_finish_31 : decode cX5_finish 31 = .ok (.iload 4, 2) := by decide +kernel
theorem dX5_finish_33 : decode cX5_finish 33 = .ok (.iload_n 3, 1) := by decide +kernel
theorem dX5_finish_34 : decode cX5_finish 34 = .ok (.if_icmp .ge 14, 3) := by decide +kernel
theorem dX5_finish_37 : decode cX5_finish 37 = .ok (.aload_n 0, 1) := by decide +kernel
theorem dX5_finish_38 : decode cX5_finish 38 = .ok (.iconst 0, 1) := by decide +kernel
theorem dX5_finish_39 : decode cX5_finish 39 = .ok (.invokevirtual 34, 3) := by decide +kernel
theorem dX5_finish_42 : decode cX5_finish 42 = .ok (.iinc 4 1, 3) := by decide +kernel
theorem dX5_finish_45 : decode cX5_finish 45 = .ok (.goto (-14), 3) := by decide +kernel
theorem dX5_finish_48 : decode cX5_finish 48 = .ok (.bipush 24, 2) := by decide +kernel
theorem dX5_finish_50 : decode cX5_finish 50 = .ok (.istore 4, 2) := by decide +kernel
theorem dX5_finish_52 : decode cX5_finish 52 = .ok (.iload 4, 2) := by decide +kernel
theorem dX5_finish_54 : decode cX5_finish 54 = .ok (.ifCond .lt 21, 3) := by decide +kernel
theorem dX5_finish_57 : decode cX5_finish 57 = .ok (.aload_n 0, 1) := by decide +kernel
theorem dX5_finish_58 : decode cX5_finish 58 = .ok (.iload_n 2, 1) := by decide +kernel
theorem dX5_finish_59 : decode cX5_finish 59 = .ok (.iload 4, 2) := by decide +kernel
theorem dX5_finish_61 : decode cX5_finish 61 = .ok (.iushr, 1) := by decide +kernel
theorem dX5_finish_62 : decode cX5_finish 62 = .ok (.sipush 255, 3) := by decide +kernel
theorem dX5_finish_65 : decode cX5_finish 65 = .ok (.iand, 1) := by decide +kernel
theorem dX5_finish_66 : decode cX5_finish 66 = .ok (.invokevirtual 34, 3) := by decide +kernel
theorem dX5_finish_69 : decode cX5_finish 69 = .ok (.iinc 4 (-8), 3) := by decide +kernel
theorem dX5_finish_72 : decode cX5_finish 72 = .ok (.goto (-20), 3) := by decide +kernel
theorem dX5_finish_75 : decode cX5_finish 75 = .ok (.iconst 0, 1) := by decide +kernel
theorem dX5_finish_76 : decode cX5_finish 76 = .ok (.istore 4, 2) := by decide +kernel
theorem dX5_finish_78 : decode cX5_finish 78 = .ok (.iload 4, 2) := by decide +kernel
theorem dX5_finish_80 : decode cX5_finish 80 = .ok (.bipush 32, 2) := by decide +kernel
theorem dX5_finish_82 : decode cX5_finish 82 = .ok (.if_icmp .ge 37, 3) := by decide +kernel
theorem dX5_finish_85 : decode cX5_finish 85 = .ok (.aload_n 1, 1) := by decide +kernel
theorem dX5_finish_86 : decode cX5_finish 86 = .ok (.iload 4, 2) := by decide +kernel
theorem dX5_finish_88 : decode cX5_finish 88 = .ok (.aload_n 0, 1) := by decide +kernel
theorem dX5_finish_89 : decode cX5_finish 89 = .ok (.getfield 9, 3) := by decide +kernel
theorem dX5_finish_92 : decode cX5_finish 92 = .ok (.iload 4, 2) := by decide +kernel
theorem dX5_finish_94 : decode cX5_finish 94 = .ok (.iconst 2, 1) := by decide +kernel
theorem dX5_finish_95 : decode cX5_finish 95 = .ok (.ishr, 1) := by decide +kernel
theorem dX5_finish_96 : decode cX5_finish 96 = .ok (.iaload, 1) := by decide +kernel
theorem dX5_finish_97 : decode cX5_finish 97 = .ok (.bipush 24, 2) := by decide +kernel
theorem dX5_finish_99 : decode cX5_finish 99 = .ok (.bipush 8, 2) := by decide +kernel
theorem dX5_finish_101 : decode cX5_finish 101 = .ok (.iload 4, 2) := by decide +kernel
theorem dX5_finish_103 : decode cX5_finish 103 = .ok (.iconst 3, 1) := by decide +kernel
theorem dX5_finish_104 : decode cX5_finish 104 = .ok (.iand, 1) := by decide +kernel
theorem dX5_finish_105 : decode cX5_finish 105 = .ok (.imul, 1) := by decide +kernel
theorem dX5_finish_106 : decode cX5_finish 106 = .ok (.isub, 1) := by decide +kernel
theorem dX5_finish_107 : decode cX5_finish 107 = .ok (.iushr, 1) := by decide +kernel
theorem dX5_finish_108 : decode cX5_finish 108 = .ok (.sipush 255, 3) := by decide +kernel
theorem dX5_finish_111 : decode cX5_finish 111 = .ok (.iand, 1) := by decide +kernel
theorem dX5_finish_112 : decode cX5_finish 112 = .ok (.iastore, 1) := by decide +kernel
theorem dX5_finish_113 : decode cX5_finish 113 = .ok (.iinc 4 1, 3) := by decide +kernel
theorem dX5_finish_116 : decode cX5_finish 116 = .ok (.goto (-38), 3) := by decide +kernel
theorem dX5_finish_119 : decode cX5_finish 119 = .ok (.return_, 1) := by decide +kernel
theorem dX5_addBlock_0 : decode cX5_addBlock 0 = .ok (.bipush 16, 2) := by decide +kernel
theorem dX5_addBlock_2 : decode cX5_addBlock 2 = .ok (.istore_n 1, 1) := by decide +kernel
theorem dX5_addBlock_3 : decode cX5_addBlock 3 = .ok (.iload_n 1, 1) := by decide +kernel
theorem dX5_addBlock_4 : decode cX5_addBlock 4 = .ok (.bipush 64, 2) := by decide +kernel
theorem dX5_addBlock_6 : decode cX5_addBlock 6 = .ok (.if_icmp .ge 110, 3) := by decide +kernel
theorem dX5_addBlock_9 : decode cX5_addBlock 9 = .ok (.aload_n 0, 1) := by decide +kernel
theorem dX5_addBlock_10 : decode cX5_addBlock 10 = .ok (.getfield 15, 3) := by decide +kernel
theorem dX5_addBlock_13 : decode cX5_addBlock 13 = .ok (.iload_n 1, 1) := by decide +kernel
theorem dX5_addBlock_14 : decode cX5_addBlock 14 = .ok (.bipush 15, 2) := by decide +kernel
theorem dX5_addBlock_16 : decode cX5_addBlock 16 = .ok (.isub, 1) := by decide +kernel
theorem dX5_addBlock_17 : decode cX5_addBlock 17 = .ok (.iaload, 1) := by decide +kernel
theorem dX5_addBlock_18 : decode cX5_addBlock 18 = .ok (.istore_n 2, 1) := by decide +kernel
theorem dX5_addBlock_19 : decode cX5_addBlock 19 = .ok (.aload_n 0, 1) := by decide +kernel
theorem dX5_addBlock_20 : decode cX5_addBlock 20 = .ok (.getfield 15, 3) := by decide +kernel
theorem dX5_addBlock_23 : decode cX5_addBlock 23 = .ok (.iload_n 1, 1) := by decide +kernel
theorem dX5_addBlock_24 : decode cX5_addBlock 24 = .ok (.iconst 2, 1) := by decide +kernel
theorem dX5_addBlock_25 : decode cX5_addBlock 25 = .ok (.isub, 1) := by decide +kernel
theorem dX5_addBlock_26 : decode cX5_addBlock 26 = .ok (.iaload, 1) := by decide +kernel
theorem dX5_addBlock_27 : decode cX5_addBlock 27 = .ok (.istore_n 3, 1) := by decide +kernel
theorem dX5_addBlock_28 : decode cX5_addBlock 28 = .ok (.iload_n 2, 1) := by decide +kernel
theorem dX5_addBlock_29 : decode cX5_addBlock 29 = .ok (.bipush 7, 2) := by decide +kernel
theorem dX5_addBlock_31 : decode cX5_addBlock 31 = .ok (.iushr, 1) := by decide +kernel
theorem dX5_addBlock_32 : decode cX5_addBlock 32 = .ok (.iload_n 2, 1) := by decide +kernel
theorem dX5_addBlock_33 : decode cX5_addBlock 33 = .ok (.bipush 25, 2) := by decide +kernel
theorem dX5_addBlock_35 : decode cX5_addBlock 35 = .ok (.ishl, 1) := by decide +kernel
theorem dX5_addBlock_36 : decode cX5_addBlock 36 = .ok (.ior, 1) := by decide +kernel
theorem dX5_addBlock_37 : decode cX5_addBlock 37 = .ok (.iload_n 2, 1) := by decide +kernel
theorem dX5_addBlock_38 : decode cX5_addBlock 38 = .ok (.bipush 18, 2) := by decide +kernel
theorem dX5_addBlock_40 : decode cX5_addBlock 40 = .ok (.iushr, 1) := by decide +kernel
theorem dX5_addBlock_41 : decode cX5_addBlock 41 = .ok (.iload_n 2, 1) := by decide +kernel
theorem dX5_addBlock_42 : decode cX5_addBlock 42 = .ok (.bipush 14, 2) := by decide +kernel
theorem dX5_addBlock_44 : decode cX5_addBlock 44 = .ok (.ishl, 1) := by decide +kernel
theorem dX5_addBlock_45 : decode cX5_addBlock 45 = .ok (.ior, 1) := by decide +kernel
theorem dX5_addBlock_46 : decode cX5_addBlock 46 = .ok (.ixor, 1) := by decide +kernel
theorem dX5_addBlock_47 : decode cX5_addBlock 47 = .ok (.iload_n 2, 1) := by decide +kernel
theorem dX5_addBlock_48 : decode cX5_addBlock 48 = .ok (.iconst 3, 1) := by decide +kernel
theorem dX5_addBlock_49 : decode cX5_addBlock 49 = .ok (.iushr, 1) := by decide +kernel
theorem dX5_addBlock_50 : decode cX5_addBlock 50 = .ok (.ixor, 1) := by decide +kernel
theorem dX5_addBlock_51 : decode cX5_addBlock 51 = .ok (.istore 4, 2) := by decide +kernel
theorem dX5_addBlock_53 : decode cX5_addBlock 53 = .ok (.iload_n 3, 1) := by decide +kernel
theorem dX5_addBlock_54 : decode cX5_addBlock 54 = .ok (.bipush 17, 2) := by decide +kernel
theorem dX5_addBlock_56 : decode cX5_addBlock 56 = .ok (.iushr, 1) := by decide +kernel
theorem dX5_addBlock_57 : decode cX5_addBlock 57 = .ok (.iload_n 3, 1) := by decide +kernel
theorem dX5_addBlock_58 : decode cX5_addBlock 58 = .ok (.bipush 15, 2) := by decide +kernel
theorem dX5_addBlock_60 : decode cX5_addBlock 60 = .ok (.ishl, 1) := by decide +kernel
theorem dX5_addBlock_61 : decode cX5_addBlock 61 = .ok (.ior, 1) := by decide +kernel
theorem dX5_addBlock_62 : decode cX5_addBlock 62 = .ok (.iload_n 3, 1) := by decide +kernel
theorem dX5_addBlock_63 : decode cX5_addBlock 63 = .ok (.bipush 19, 2) := by decide +kernel
theorem dX5_addBlock_65 : decode cX5_addBlock 65 = .ok (.iushr, 1) := by decide +kernel
theorem dX5_addBlock_66 : decode cX5_addBlock 66 = .ok (.iload_n 3, 1) := by decide +kernel
theorem dX5_addBlock_67 : decode cX5_addBlock 67 = .ok (.bipush 13, 2) := by decide +kernel
theorem dX5_addBlock_69 : decode cX5_addBlock 69 = .ok (.ishl, 1) := by decide +kernel
theorem dX5_addBlock_70 : decode cX5_addBlock 70 = .ok (.ior, 1) := by decide +kernel
theorem dX5_addBlock_71 : decode cX5_addBlock 71 = .ok (.ixor, 1) := by decide +kernel
theorem dX5_addBlock_72 : decode cX5_addBlock 72 = .ok (.iload_n 3, 1) := by decide +kernel
theorem dX5_addBlock_73 : decode cX5_addBlock 73 = .ok (.bipush 10, 2) := by decide +kernel
theorem dX5_addBlock_75 : decode cX5_addBlock 75 = .ok (.iushr, 1) := by decide +kernel
theorem dX5_addBlock_76 : decode cX5_addBlock 76 = .ok (.ixor, 1) := by decide +kernel
theorem dX5_addBlock_77 : decode cX5_addBlock 77 = .ok (.istore 5, 2) := by decide +kernel
theorem dX5_addBlock_79 : decode cX5_addBlock 79 = .ok (.aload_n 0, 1) := by decide +kernel
theorem dX5_addBlock_80 : decode cX5_addBlock 80 = .ok (.getfield 15, 3) := by decide +kernel
theorem dX5_addBlock_83 : decode cX5_addBlock 83 = .ok (.iload_n 1, 1) := by decide +kernel
theorem dX5_addBlock_84 : decode cX5_addBlock 84 = .ok (.aload_n 0, 1) := by decide +kernel
theorem dX5_addBlock_85 : decode cX5_addBlock 85 = .ok (.getfield 15, 3) := by decide +kernel
theorem dX5_addBlock_88 : decode cX5_addBlock 88 = .ok (.iload_n 1, 1) := by decide +kernel
theorem dX5_addBlock_89 : decode cX5_addBlock 89 = .ok (.bipush 16, 2) := by decide +kernel
theorem dX5_addBlock_91 : decode cX5_addBlock 91 = .ok (.isub, 1) := by decide +kernel
theorem dX5_addBlock_92 : decode cX5_addBlock 92 = .ok (.iaload, 1) := by decide +kernel
theorem dX5_addBlock_93 : decode cX5_addBlock 93 = .ok (.iload 4, 2) := by decide +kernel
theorem dX5_addBlock_95 : decode cX5_addBlock 95 = .ok (.iadd, 1) := by decide +kernel
theorem dX5_addBlock_96 : decode cX5_addBlock 96 = .ok (.aload_n 0, 1) := by decide +kernel
theorem dX5_addBlock_97 : decode cX5_addBlock 97 = .ok (.getfield 15, 3) := by decide +kernel
theorem dX5_addBlock_100 : decode cX5_addBlock 100 = .ok (.iload_n 1, 1) := by decide +kernel
theorem dX5_addBlock_101 : decode cX5_addBlock 101 = .ok (.bipush 7, 2) := by decide +kernel
theorem dX5_addBlock_103 : decode cX5_addBlock 103 = .ok (.isub, 1) := by decide +kernel
theorem dX5_addBlock_104 : decode cX5_addBlock 104 = .ok (.iaload, 1) := by decide +kernel
theorem dX5_addBlock_105 : decode cX5_addBlock 105 = .ok (.iadd, 1) := by decide +kernel
theorem dX5_addBlock_106 : decode cX5_addBlock 106 = .ok (.iload 5, 2) := by decide +kernel
theorem dX5_addBlock_108 : decode cX5_addBlock 108 = .ok (.iadd, 1) := by decide +kernel
theorem dX5_addBlock_109 : decode cX5_addBlock 109 = .ok (.iastore, 1) := by decide +kernel
theorem dX5_addBlock_110 : decode cX5_addBlock 110 = .ok (.iinc 1 1, 3) := by decide +kernel
theorem dX5_addBlock_113 : decode cX5_addBlock 113 = .ok (.goto (-110), 3) := by decide +kernel
theorem dX5_addBlock_116 : decode cX5_addBlock 116 = .ok (.aload_n 0, 1) := by decide +kernel
theorem dX5_addBlock_117 : decode cX5_addBlock 117 = .ok (.getfield 9, 3) := by decide +kernel
theorem dX5_addBlock_120 : decode cX5_addBlock 120 = .ok (.iconst 0, 1) := by decide +kernel
theorem dX5_addBlock_121 : decode cX5_addBlock 121 = .ok (.iaload, 1) := by decide +kernel
theorem dX5_addBlock_122 : decode cX5_addBlock 122 = .ok (.istore_n 1, 1) := by decide +kernel
theorem dX5_addBlock_123 : decode cX5_addBlock 123 = .ok (.aload_n 0, 1) := by decide +kernel
theorem dX5_addBlock_124 : decode cX5_addBlock 124 = .ok (.getfield 9, 3) := by decide +kernel
theorem dX5_addBlock_127 : decode cX5_addBlock 127 = .ok (.iconst 1, 1) := by decide +kernel
theorem dX5_addBlock_128 : decode cX5_addBlock 128 = .ok (.iaload, 1) := by decide +kernel
theorem dX5_addBlock_129 : decode cX5_addBlock 129 = .ok (.istore_n 2, 1) := by decide +kernel
theorem dX5_addBlock_130 : decode cX5_addBlock 130 = .ok (.aload_n 0, 1) := by decide +kernel
theorem dX5_addBlock_131 : decode cX5_addBlock 131 = .ok (.getfield 9, 3) := by decide +kernel
theorem dX5_addBlock_134 : decode cX5_addBlock 134 = .ok (.iconst 2, 1) := by decide +kernel
theorem dX5_addBlock_135 : decode cX5_addBlock 135 = .ok (.iaload, 1) := by decide +kernel
theorem dX5_addBlock_136 : decode cX5_addBlock 136 = .ok (.istore_n 3, 1) := by decide +kernel
theorem dX5_addBlock_137 : decode cX5_addBlock 137 = .ok (.aload_n 0, 1) := by decide +kernel
theorem dX5_addBlock_138 : decode cX5_addBlock 138 = .ok (.getfield 9, 3) := by decide +kernel
theorem dX5_addBlock_141 : decode cX5_addBlock 141 = .ok (.iconst 3, 1) := by decide +kernel
theorem dX5_addBlock_142 : decode cX5_addBlock 142 = .ok (.iaload, 1) := by decide +kernel
theorem dX5_addBlock_143 : decode cX5_addBlock 143 = .ok (.istore 4, 2) := by decide +kernel
theorem dX5_addBlock_145 : decode cX5_addBlock 145 = .ok (.aload_n 0, 1) := by decide +kernel
theorem dX5_addBlock_146 : decode cX5_addBlock 146 = .ok (.getfield 9, 3) := by decide +kernel
theorem dX5_addBlock_149 : decode cX5_addBlock 149 = .ok (.iconst 4, 1) := by decide +kernel
theorem dX5_addBlock_150 : decode cX5_addBlock 150 = .ok (.iaload, 1) := by decide +kernel
theorem dX5_addBlock_151 : decode cX5_addBlock 151 = .ok (.istore 5, 2) := by decide +kernel
theorem dX5_addBlock_153 : decode cX5_addBlock 153 = .ok (.aload_n 0, 1) := by decide +kernel
theorem dX5_addBlock_154 : decode cX5_addBlock 154 = .ok (.getfield 9, 3) := by decide +kernel
theorem dX5_addBlock_157 : decode cX5_addBlock 157 = .ok (.iconst 5, 1) := by decide +kernel
theorem dX5_addBlock_158 : decode cX5_addBlock 158 = .ok (.iaload, 1) := by decide +kernel
theorem dX5_addBlock_159 : decode cX5_addBlock 159 = .ok (.istore 6, 2) := by decide +kernel
theorem dX5_addBlock_161 : decode cX5_addBlock 161 = .ok (.aload_n 0, 1) := by decide +kernel
theorem dX5_addBlock_162 : decode cX5_addBlock 162 = .ok (.getfield 9, 3) := by decide +kernel
theorem dX5_addBlock_165 : decode cX5_addBlock 165 = .ok (.bipush 6, 2) := by decide +kernel
theorem dX5_addBlock_167 : decode cX5_addBlock 167 = .ok (.iaload, 1) := by decide +kernel
theorem dX5_addBlock_168 : decode cX5_addBlock 168 = .ok (.istore 7, 2) := by decide +kernel
theorem dX5_addBlock_170 : decode cX5_addBlock 170 = .ok (.aload_n 0, 1) := by decide +kernel
theorem dX5_addBlock_171 : decode cX5_addBlock 171 = .ok (.getfield 9, 3) := by decide +kernel
theorem dX5_addBlock_174 : decode cX5_addBlock 174 = .ok (.bipush 7, 2) := by decide +kernel
theorem dX5_addBlock_176 : decode cX5_addBlock 176 = .ok (.iaload, 1) := by decide +kernel
theorem dX5_addBlock_177 : decode cX5_addBlock 177 = .ok (.istore 8, 2) := by decide +kernel
theorem dX5_addBlock_179 : decode cX5_addBlock 179 = .ok (.iconst 0, 1) := by decide +kernel
theorem dX5_addBlock_180 : decode cX5_addBlock 180 = .ok (.istore 9, 2) := by decide +kernel
theorem dX5_addBlock_182 : decode cX5_addBlock 182 = .ok (.iload 9, 2) := by decide +kernel
theorem dX5_addBlock_184 : decode cX5_addBlock 184 = .ok (.bipush 64, 2) := by decide +kernel
theorem dX5_addBlock_186 : decode cX5_addBlock 186 = .ok (.if_icmp .ge 160, 3) := by decide +kernel
theorem dX5_addBlock_189 : decode cX5_addBlock 189 = .ok (.iload 5, 2) := by decide +kernel
theorem dX5_addBlock_191 : decode cX5_addBlock 191 = .ok (.bipush 6, 2) := by decide +kernel
theorem dX5_addBlock_193 : decode cX5_addBlock 193 = .ok (.iushr, 1) := by decide +kernel
theorem dX5_addBlock_194 : decode cX5_addBlock 194 = .ok (.iload 5, 2) := by decide +kernel
theorem dX5_addBlock_196 : decode cX5_addBlock 196 = .ok (.bipush 26, 2) := by decide +kernel
theorem dX5_addBlock_198 : decode cX5_addBlock 198 = .ok (.ishl, 1) := by decide +kernel
theorem dX5_addBlock_199 : decode cX5_addBlock 199 = .ok (.ior, 1) := by decide +kernel
theorem dX5_addBlock_200 : decode cX5_addBlock 200 = .ok (.iload 5, 2) := by decide +kernel
theorem dX5_addBlock_202 : decode cX5_addBlock 202 = .ok (.bipush 11, 2) := by decide +kernel
theorem dX5_addBlock_204 : decode cX5_addBlock 204 = .ok (.iushr, 1) := by decide +kernel
theorem dX5_addBlock_205 : decode cX5_addBlock 205 = .ok (.iload 5, 2) := by decide +kernel
theorem dX5_addBlock_207 : decode cX5_addBlock 207 = .ok (.bipush 21, 2) := by decide +kernel
theorem dX5_addBlock_209 : decode cX5_addBlock 209 = .ok (.ishl, 1) := by decide +kernel
theorem dX5_addBlock_210 : decode cX5_addBlock 210 = .ok (.ior, 1) := by decide +kernel
theorem dX5_addBlock_211 : decode cX5_addBlock 211 = .ok (.ixor, 1) := by decide +kernel
theorem dX5_addBlock_212 : decode cX5_addBlock 212 = .ok (.iload 5, 2) := by decide +kernel
theorem dX5_addBlock_214 : decode cX5_addBlock 214 = .ok (.bipush 25, 2) := by decide +kernel
theorem dX5_addBlock_216 : decode cX5_addBlock 216 = .ok (.iushr, 1) := by decide +kernel
theorem dX5_addBlock_217 : decode cX5_addBlock 217 = .ok (.iload 5, 2) := by decide +kernel
theorem dX5_addBlock_219 : decode cX5_addBlock 219 = .ok (.bipush 7, 2) := by decide +kernel
theorem dX5_addBlock_221 : decode cX5_addBlock 221 = .ok (.ishl, 1) := by decide +kernel
theorem dX5_addBlock_222 : decode cX5_addBlock 222 = .ok (.ior, 1) := by decide +kernel
theorem dX5_addBlock_223 : decode cX5_addBlock 223 = .ok (.ixor, 1) := by decide +kernel
theorem dX5_addBlock_224 : decode cX5_addBlock 224 = .ok (.istore 10, 2) := by decide +kernel
theorem dX5_addBlock_226 : decode cX5_addBlock 226 = .ok (.iload_n 1, 1) := by decide +kernel
theorem dX5_addBlock_227 : decode cX5_addBlock 227 = .ok (.iconst 2, 1) := by decide +kernel
theorem dX5_addBlock_228 : decode cX5_addBlock 228 = .ok (.iushr, 1) := by decide +kernel
theorem dX5_addBlock_229 : decode cX5_addBlock 229 = .ok (.iload_n 1, 1) := by decide +kernel
theorem dX5_addBlock_230 : decode cX5_addBlock 230 = .ok (.bipush 30, 2) := by decide +kernel
theorem dX5_addBlock_232 : decode cX5_addBlock 232 = .ok (.ishl, 1) := by decide +kernel
theorem dX5_addBlock_233 : decode cX5_addBlock 233 = .ok (.ior, 1) := by decide +kernel
theorem dX5_addBlock_234 : decode cX5_addBlock 234 = .ok (.iload_n 1, 1) := by decide +kernel
theorem dX5_addBlock_235 : decode cX5_addBlock 235 = .ok (.bipush 13, 2) := by decide +kernel
theorem dX5_addBlock_237 : decode cX5_addBlock 237 = .ok (.iushr, 1) := by decide +kernel
theorem dX5_addBlock_238 : decode cX5_addBlock 238 = .ok (.iload_n 1, 1) := by decide +kernel
theorem dX5_addBlock_239 : decode cX5_addBlock 239 = .ok (.bipush 19, 2) := by decide +kernel
theorem dX5_addBlock_241 : decode cX5_addBlock 241 = .ok (.ishl, 1) := by decide +kernel
theorem dX5_addBlock_242 : decode cX5_addBlock 242 = .ok (.ior, 1) := by decide +kernel
theorem dX5_addBlock_243 : decode cX5_addBlock 243 = .ok (.ixor, 1) := by decide +kernel
theorem dX5_addBlock_244 : decode cX5_addBlock 244 = .ok (.iload_n 1, 1) := by decide +kernel
theorem dX5_addBlock_245 : decode cX5_addBlock 245 = .ok (.bipush 22, 2) := by decide +kernel
theorem dX5_addBlock_247 : decode cX5_addBlock 247 = .ok (.iushr, 1) := by decide +kernel
theorem dX5_addBlock_248 : decode cX5_addBlock 248 = .ok (.iload_n 1, 1) := by decide +kernel
theorem dX5_addBlock_249 : decode cX5_addBlock 249 = .ok (.bipush 10, 2) := by decide +kernel
theorem dX5_addBlock_251 : decode cX5_addBlock 251 = .ok (.ishl, 1) := by decide +kernel
theorem dX5_addBlock_252 : decode cX5_addBlock 252 = .ok (.ior, 1) := by decide +kernel
theorem dX5_addBlock_253 : decode cX5_addBlock 253 = .ok (.ixor, 1) := by decide +kernel
theorem dX5_addBlock_254 : decode cX5_addBlock 254 = .ok (.istore 11, 2) := by decide +kernel
theorem dX5_addBlock_256 : decode cX5_addBlock 256 = .ok (.iload 8, 2) := by decide +kernel
theorem dX5_addBlock_258 : decode cX5_addBlock 258 = .ok (.iload 10, 2) := by decide +kernel
theorem dX5_addBlock_260 : decode cX5_addBlock 260 = .ok (.iadd, 1) := by decide +kernel
theorem dX5_addBlock_261 : decode cX5_addBlock 261 = .ok (.iload 5, 2) := by decide +kernel
theorem dX5_addBlock_263 : decode cX5_addBlock 263 = .ok (.iload 6, 2) := by decide +kernel
theorem dX5_addBlock_265 : decode cX5_addBlock 265 = .ok (.iand, 1) := by decide +kernel
theorem dX5_addBlock_266 : decode cX5_addBlock 266 = .ok (.iload 5, 2) := by decide +kernel
theorem dX5_addBlock_268 : decode cX5_addBlock 268 = .ok (.iconst (-1), 1) := by decide +kernel
theorem dX5_addBlock_269 : decode cX5_addBlock 269 = .ok (.ixor, 1) := by decide +kernel
theorem dX5_addBlock_270 : decode cX5_addBlock 270 = .ok (.iload 7, 2) := by decide +kernel
theorem dX5_addBlock_272 : decode cX5_addBlock 272 = .ok (.iand, 1) := by decide +kernel
theorem dX5_addBlock_273 : decode cX5_addBlock 273 = .ok (.ixor, 1) := by decide +kernel
theorem dX5_addBlock_274 : decode cX5_addBlock 274 = .ok (.iadd, 1) := by decide +kernel
theorem dX5_addBlock_275 : decode cX5_addBlock 275 = .ok (.getstatic 41, 3) := by decide +kernel
theorem dX5_addBlock_278 : decode cX5_addBlock 278 = .ok (.iload 9, 2) := by decide +kernel
theorem dX5_addBlock_280 : decode cX5_addBlock 280 = .ok (.iaload, 1) := by decide +kernel
theorem dX5_addBlock_281 : decode cX5_addBlock 281 = .ok (.iadd, 1) := by decide +kernel
theorem dX5_addBlock_282 : decode cX5_addBlock 282 = .ok (.aload_n 0, 1) := by decide +kernel
theorem dX5_addBlock_283 : decode cX5_addBlock 283 = .ok (.getfield 15, 3) := by decide +kernel
theorem dX5_addBlock_286 : decode cX5_addBlock 286 = .ok (.iload 9, 2) := by decide +kernel
theorem dX5_addBlock_288 : decode cX5_addBlock 288 = .ok (.iaload, 1) := by decide +kernel
theorem dX5_addBlock_289 : decode cX5_addBlock 289 = .ok (.iadd, 1) := by decide +kernel
theorem dX5_addBlock_290 : decode cX5_addBlock 290 = .ok (.istore 12, 2) := by decide +kernel
theorem dX5_addBlock_292 : decode cX5_addBlock 292 = .ok (.iload 11, 2) := by decide +kernel
theorem dX5_addBlock_294 : decode cX5_addBlock 294 = .ok (.iload_n 1, 1) := by decide +kernel
theorem dX5_addBlock_295 : decode cX5_addBlock 295 = .ok (.iload_n 2, 1) := by decide +kernel
theorem dX5_addBlock_296 : decode cX5_addBlock 296 = .ok (.iand, 1) := by decide +kernel
theorem dX5_addBlock_297 : decode cX5_addBlock 297 = .ok (.iload_n 1, 1) := by decide +kernel
theorem dX5_addBlock_298 : decode cX5_addBlock 298 = .ok (.iload_n 3, 1) := by decide +kernel
theorem dX5_addBlock_299 : decode cX5_addBlock 299 = .ok (.iand, 1) := by decide +kernel
theorem dX5_addBlock_300 : decode cX5_addBlock 300 = .ok (.ixor, 1) := by decide +kernel
theorem dX5_addBlock_301 : decode cX5_addBlock 301 = .ok (.iload_n 2, 1) := by decide +kernel
theorem dX5_addBlock_302 : decode cX5_addBlock 302 = .ok (.iload_n 3, 1) := by decide +kernel
theorem dX5_addBlock_303 : decode cX5_addBlock 303 = .ok (.iand, 1) := by decide +kernel
theorem dX5_addBlock_304 : decode cX5_addBlock 304 = .ok (.ixor, 1) := by decide +kernel
theorem dX5_addBlock_305 : decode cX5_addBlock 305 = .ok (.iadd, 1) := by decide +kernel
theorem dX5_addBlock_306 : decode cX5_addBlock 306 = .ok (.istore 13, 2) := by decide +kernel
theorem dX5_addBlock_308 : decode cX5_addBlock 308 = .ok (.iload 7, 2) := by decide +kernel
theorem dX5_addBlock_310 : decode cX5_addBlock 310 = .ok (.istore 8, 2) := by decide +kernel
theorem dX5_addBlock_312 : decode cX5_addBlock 312 = .ok (.iload 6, 2) := by decide +kernel
theorem dX5_addBlock_314 : decode cX5_addBlock 314 = .ok (.istore 7, 2) := by decide +kernel
theorem dX5_addBlock_316 : decode cX5_addBlock 316 = .ok (.iload 5, 2) := by decide +kernel
theorem dX5_addBlock_318 : decode cX5_addBlock 318 = .ok (.istore 6, 2) := by decide +kernel
theorem dX5_addBlock_320 : decode cX5_addBlock 320 = .ok (.iload 4, 2) := by decide +kernel
theorem dX5_addBlock_322 : decode cX5_addBlock 322 = .ok (.iload 12, 2) := by decide +kernel
theorem dX5_addBlock_324 : decode cX5_addBlock 324 = .ok (.iadd, 1) := by decide +kernel
theorem dX5_addBlock_325 : decode cX5_addBlock 325 = .ok (.istore 5, 2) := by decide +kernel
theorem dX5_addBlock_327 : decode cX5_addBlock 327 = .ok (.iload_n 3, 1) := by decide +kernel
theorem dX5_addBlock_328 : decode cX5_addBlock 328 = .ok (.istore 4, 2) := by decide +kernel
theorem dX5_addBlock_330 : decode cX5_addBlock 330 = .ok (.iload_n 2, 1) := by decide +kernel
theorem dX5_addBlock_331 : decode cX5_addBlock 331 = .ok (.istore_n 3, 1) := by decide +kernel
theorem dX5_addBlock_332 : decode cX5_addBlock 332 = .ok (.iload_n 1, 1) := by decide +kernel
theorem dX5_addBlock_333 : decode cX5_addBlock 333 = .ok (.istore_n 2, 1) := by decide +kernel
theorem dX5_addBlock_334 : decode cX5_addBlock 334 = .ok (.iload 12, 2) := by decide +kernel
theorem dX5_addBlock_336 : decode cX5_addBlock 336 = .ok (.iload 13, 2) := by decide +kernel
theorem dX5_addBlock_338 : decode cX5_addBlock 338 = .ok (.iadd, 1) := by decide +kernel
theorem dX5_addBlock_339 : decode cX5_addBlock 339 = .ok (.istore_n 1, 1) := by decide +kernel
theorem dX5_addBlock_340 : decode cX5_addBlock 340 = .ok (.iinc 9 1, 3) := by decide +kernel
theorem dX5_addBlock_343 : decode cX5_addBlock 343 = .ok (.goto (-161), 3) := by decide +kernel
theorem dX5_addBlock_346 : decode cX5_addBlock 346 = .ok (.aload_n 0, 1) := by decide +kernel
theorem dX5_addBlock_347 : decode cX5_addBlock 347 = .ok (.getfield 9, 3) := by decide +kernel
theorem dX5_addBlock_350 : decode cX5_addBlock 350 = .ok (.iconst 0, 1) := by decide +kernel
theorem dX5_addBlock_351 : decode cX5_addBlock 351 = .ok (.dup2, 1) := by decide +kernel
theorem dX5_addBlock_352 : decode cX5_addBlock 352 = .ok (.iaload, 1) := by decide +kernel
theorem dX5_addBlock_353 : decode cX5_addBlock 353 = .ok (.iload_n 1, 1) := by decide +kernel
theorem dX5_addBlock_354 : decode cX5_addBlock 354 = .ok (.iadd, 1) := by decide +kernel
theorem dX5_addBlock_355 : decode cX5_addBlock 355 = .ok (.iastore, 1) := by decide +kernel
theorem dX5_addBlock_356 : decode cX5_addBlock 356 = .ok (.aload_n 0, 1) := by decide +kernel
theorem dX5_addBlock_357 : decode cX5_addBlock 357 = .ok (.getfield 9, 3) := by decide +kernel
theorem dX5_addBlock_360 : decode cX5_addBlock 360 = .ok (.iconst 1, 1) := by decide +kernel
theorem dX5_addBlock_361 : decode cX5_addBlock 361 = .ok (.dup2, 1) := by decide +kernel
theorem dX5_addBlock_362 : decode cX5_addBlock 362 = .ok (.iaload, 1) := by decide +kernel
theorem dX5_addBlock_363 : decode cX5_addBlock 363 = .ok (.iload_n 2, 1) := by decide +kernel
theorem dX5_addBlock_364 : decode cX5_addBlock 364 = .ok (.iadd, 1) := by decide +kernel
theorem dX5_addBlock_365 : decode cX5_addBlock 365 = .ok (.iastore, 1) := by decide +kernel
theorem dX5_addBlock_366 : decode cX5_addBlock 366 = .ok (.aload_n 0, 1) := by decide +kernel
theorem dX5_addBlock_367 : decode cX5_addBlock 367 = .ok (.getfield 9, 3) := by decide +kernel
theorem dX5_addBlock_370 : decode cX5_addBlock 370 = .ok (.iconst 2, 1) := by decide +kernel
theorem dX5_addBlock_371 : decode cX5_addBlock 371 = .ok (.dup2, 1) := by decide +kernel
theorem dX5_addBlock_372 : decode cX5_addBlock 372 = .ok (.iaload, 1) := by decide +kernel
theorem dX5_addBlock_373 : decode cX5_addBlock 373 = .ok (.iload_n 3, 1) := by decide +kernel
theorem dX5_addBlock_374 : decode cX5_addBlock 374 = .ok (.iadd, 1) := by decide +kernel
theorem dX5_addBlock_375 : decode cX5_addBlock 375 = .ok (.iastore, 1) := by decide +kernel
theorem dX5_addBlock_376 : decode cX5_addBlock 376 = .ok (.aload_n 0, 1) := by decide +kernel
theorem dX5_addBlock_377 : decode cX5_addBlock 377 = .ok (.getfield 9, 3) := by decide +kernel
theorem dX5_addBlock_380 : decode cX5_addBlock 380 = .ok (.iconst 3, 1) := by decide +kernel
theorem dX5_addBlock_381 : decode cX5_addBlock 381 = .ok (.dup2, 1) := by decide +kernel
theorem dX5_addBlock_382 : decode cX5_addBlock 382 = .ok (.iaload, 1) := by decide +kernel
theorem dX5_addBlock_383 : decode cX5_addBlock 383 = .ok (.iload 4, 2) := by decide +kernel
theorem dX5_addBlock_385 : decode cX5_addBlock 385 = .ok (.iadd, 1) := by decide +kernel
theorem dX5_addBlock_386 : decode cX5_addBlock 386 = .ok (.iastore, 1) := by decide +kernel
theorem dX5_addBlock_387 : decode cX5_addBlock 387 = .ok (.aload_n 0, 1) := by decide +kernel
theorem dX5_addBlock_388 : decode cX5_addBlock 388 = .ok (.getfield 9, 3) := by decide +kernel
theorem dX5_addBlock_391 : decode cX5_addBlock 391 = .ok (.iconst 4, 1) := by decide +kernel
theorem dX5_addBlock_392 : decode cX5_addBlock 392 = .ok (.dup2, 1) := by decide +kernel
theorem dX5_addBlock_393 : decode cX5_addBlock 393 = .ok (.iaload, 1) := by decide +kernel
theorem dX5_addBlock_394 : decode cX5_addBlock 394 = .ok (.iload 5, 2) := by decide +kernel
theorem dX5_addBlock_396 : decode cX5_addBlock 396 = .ok (.iadd, 1) := by decide +kernel
theorem dX5_addBlock_397 : decode cX5_addBlock 397 = .ok (.iastore, 1) := by decide +kernel
theorem dX5_addBlock_398 : decode cX5_addBlock 398 = .ok (.aload_n 0, 1) := by decide +kernel
theorem dX5_addBlock_399 : decode cX5_addBlock 399 = .ok (.getfield 9, 3) := by decide +kernel
theorem dX5_addBlock_402 : decode cX5_addBlock 402 = .ok (.iconst 5, 1) := by decide +kernel
theorem dX5_addBlock_403 : decode cX5_addBlock 403 = .ok (.dup2, 1) := by decide +kernel
theorem dX5_addBlock_404 : decode cX5_addBlock 404 = .ok (.iaload, 1) := by decide +kernel
theorem dX5_addBlock_405 : decode cX5_addBlock 405 = .ok (.iload 6, 2) := by decide +kernel
theorem dX5_addBlock_407 : decode cX5_addBlock 407 = .ok (.iadd, 1) := by decide +kernel
theorem dX5_addBlock_408 : decode cX5_addBlock 408 = .ok (.iastore, 1) := by decide +kernel
theorem dX5_addBlock_409 : decode cX5_addBlock 409 = .ok (.aload_n 0, 1) := by decide +kernel
theorem dX5_addBlock_410 : decode cX5_addBlock 410 = .ok (.getfield 9, 3) := by decide +kernel
theorem dX5_addBlock_413 : decode cX5_addBlock 413 = .ok (.bipush 6, 2) := by decide +kernel
theorem dX5_addBlock_415 : decode cX5_addBlock 415 = .ok (.dup2, 1) := by decide +kernel
theorem dX5_addBlock_416 : decode cX5_addBlock 416 = .ok (.iaload, 1) := by decide +kernel
theorem dX5_addBlock_417 : decode cX5_addBlock 417 = .ok (.iload 7, 2) := by decide +kernel
theorem dX5_addBlock_419 : decode cX5_addBlock 419 = .ok (.iadd, 1) := by decide +kernel
theorem dX5_addBlock_420 : decode cX5_addBlock 420 = .ok (.iastore, 1) := by decide +kernel
theorem dX5_addBlock_421 : decode cX5_addBlock 421 = .ok (.aload_n 0, 1) := by decide +kernel
theorem dX5_addBlock_422 : decode cX5_addBlock 422 = .ok (.getfield 9, 3) := by decide +kernel
theorem dX5_addBlock_425 : decode cX5_addBlock 425 = .ok (.bipush 7, 2) := by decide +kernel
theorem dX5_addBlock_427 : decode cX5_addBlock 427 = .ok (.dup2, 1) := by decide +kernel
theorem dX5_addBlock_428 : decode cX5_addBlock 428 = .ok (.iaload, 1) := by decide +kernel
theorem dX5_addBlock_429 : decode cX5_addBlock 429 = .ok (.iload 8, 2) := by decide +kernel
theorem dX5_addBlock_431 : decode cX5_addBlock 431 = .ok (.iadd, 1) := by decide +kernel
theorem dX5_addBlock_432 : decode cX5_addBlock 432 = .ok (.iastore, 1) := by decide +kernel
theorem dX5_addBlock_433 : decode cX5_addBlock 433 = .ok (.return_, 1) := by decide +kernel
theorem dX6_init_0 : decode cX6_init 0 = .ok (.aload_n 0, 1) := by decide +kernel
theorem dX6_init_1 : decode cX6_init 1 = .ok (.invokespecial 3, 3) := by decide +kernel
theorem dX6_init_4 : decode cX6_init 4 = .ok (.aload_n 0, 1) := by decide +kernel
theorem dX6_init_5 : decode cX6_init 5 = .ok (.bipush 32, 2) := by decide +kernel
theorem dX6_init_7 : decode cX6_init 7 = .ok (.newarray .int, 2) := by decide +kernel
theorem dX6_init_9 : decode cX6_init 9 = .ok (.putfield 9, 3) := by decide +kernel
theorem dX6_init_12 : decode cX6_init 12 = .ok (.aload_n 0, 1) := by decide +kernel
theorem dX6_init_13 : decode cX6_init 13 = .ok (.bipush 32, 2) := by decide +kernel
theorem dX6_init_15 : decode cX6_init 15 = .ok (.newarray .int, 2) := by decide +kernel
theorem dX6_init_17 : decode cX6_init 17 = .ok (.putfield 15, 3) := by decide +kernel
theorem dX6_init_20 : decode cX6_init 20 = .ok (.aload_n 0, 1) := by decide +kernel
theorem dX6_init_21 : decode cX6_init 21 = .ok (.bipush 32, 2) := by decide +kernel
theorem dX6_init_23 : decode cX6_init 23 = .ok (.newarray .int, 2) := by decide +kernel
theorem dX6_init_25 : decode cX6_init 25 = .ok (.putfield 18, 3) := by decide +kernel
theorem dX6_init_28 : decode cX6_init 28 = .ok (.aload_n 0, 1) := by decide +kernel
theorem dX6_init_29 : decode cX6_init 29 = .ok (.iconst 0, 1) := by decide +kernel
theorem dX6_init_30 : decode cX6_init 30 = .ok (.putfield 21, 3) := by decide +kernel
theorem dX6_init_33 : decode cX6_init 33 = .ok (.aload_n 0, 1) := by decide +kernel
theorem dX6_init_34 : decode cX6_init 34 = .ok (.new 25, 3) := by decide +kernel
theorem dX6_init_37 : decode cX6_init 37 = .ok (.dup, 1) := by decide +kernel
theorem dX6_init_38 : decode cX6_init 38 = .ok (.invokespecial 27, 3) := by decide +kernel
theorem dX6_init_41 : decode cX6_init 41 = .ok (.putfield 28, 3) := by decide +kernel
theorem dX6_init_44 : decode cX6_init 44 = .ok (.aload_n 0, 1) := by decide +kernel
theorem dX6_init_45 : decode cX6_init 45 = .ok (.aload_n 1, 1) := by decide +kernel
theorem dX6_init_46 : decode cX6_init 46 = .ok (.putfield 32, 3) := by decide +kernel
theorem dX6_init_49 : decode cX6_init 49 = .ok (.aload_n 0, 1) := by decide +kernel
theorem dX6_init_50 : decode cX6_init 50 = .ok (.iload_n 2, 1) := by decide +kernel
theorem dX6_init_51 : decode cX6_init 51 = .ok (.putfield 36, 3) := by decide +kernel
theorem dX6_init_54 : decode cX6_init 54 = .ok (.aload_n 0, 1) := by decide +kernel
theorem dX6_init_55 : decode cX6_init 55 = .ok (.iload_n 3, 1) := by decide +kernel
theorem dX6_init_56 : decode cX6_init 56 = .ok (.putfield 40, 3) := by decide +kernel
theorem dX6_init_59 : decode cX6_init 59 = .ok (.aload_n 0, 1) := by decide +kernel
theorem dX6_init_60 : decode cX6_init 60 = .ok (.iload 4, 2) := by decide +kernel
theorem dX6_init_62 : decode cX6_init 62 = .ok (.putfield 43, 3) := by decide +kernel
theorem dX6_init_65 : decode cX6_init 65 = .ok (.return_, 1) := by decide +kernel
theorem dX6_isDone_0 : decode cX6_isDone 0 = .ok (.aload_n 0, 1) := by decide +kernel
theorem dX6_isDone_1 : decode cX6_isDone 1 = .ok (.getfield 28, 3) := by decide +kernel
theorem dX6_isDone_4 : decode cX6_isDone 4 = .ok (.getfield 46, 3) := by decide +kernel
theorem dX6_isDone_7 : decode cX6_isDone 7 = .ok (.aload_n 0, 1) := by decide +kernel
theorem dX6_isDone_8 : decode cX6_isDone 8 = .ok (.getfield 32, 3) := by decide +kernel
theorem dX6_isDone_11 : decode cX6_isDone 11 = .ok (.getfield 49, 3) := by decide +kernel
theorem dX6_isDone_14 : decode cX6_isDone 14 = .ok (.if_icmp .lt 7, 3) := by decide +kernel
theorem dX6_isDone_17 : decode cX6_isDone 17 = .ok (.iconst 1, 1) := by decide +kernel
theorem dX6_isDone_18 : decode cX6_isDone 18 = .ok (.goto 4, 3) := by decide +kernel
theorem dX6_isDone_21 : decode cX6_isDone 21 = .ok (.iconst 0, 1) := by decide +kernel
theorem dX6_isDone_22 : decode cX6_isDone 22 = .ok (.ireturn, 1) := by decide +kernel
theorem dX6_isNext_0 : decode cX6_isNext 0 = .ok (.aload_n 0, 1) := by decide +kernel
theorem dX6_isNext_1 : decode cX6_isNext 1 = .ok (.getfield 28, 3) := by decide +kernel
theorem dX6_isNext_4 : decode cX6_isNext 4 = .ok (.getfield 46, 3) := by decide +kernel
theorem dX6_isNext_7 : decode cX6_isNext 7 = .ok (.iconst 1, 1) := by decide +kernel
theorem dX6_isNext_8 : decode cX6_isNext 8 = .ok (.iand, 1) := by decide +kernel
theorem dX6_isNext_9 : decode cX6_isNext 9 = .ok (.aload_n 0, 1) := by decide +kernel
theorem dX6_isNext_10 : decode cX6_isNext 10 = .ok (.getfield 40, 3) := by decide +kernel
theorem dX6_isNext_13 : decode cX6_isNext 13 = .ok (.if_icmp .ne 7, 3) := by decide +kernel
theorem dX6_isNext_16 : decode cX6_isNext 16 = .ok (.iconst 1, 1) := by decide +kernel
theorem dX6_isNext_17 : decode cX6_isNext 17 = .ok (.goto 4, 3) := by decide +kernel
theorem dX6_isNext_20 : decode cX6_isNext 20 = .ok (.iconst 0, 1) := by decide +kernel
theorem dX6_isNext_21 : decode cX6_isNext 21 = .ok (.ireturn, 1) := by decide +kernel
theorem dX6_leastLetter_0 : decode cX6_leastLetter 0 = .ok (.aload_n 0, 1) := by decide +kernel
theorem dX6_leastLetter_1 : decode cX6_leastLetter 1 = .ok (.getfield 28, 3) := by decide +kernel
theorem dX6_leastLetter_4 : decode cX6_leastLetter 4 = .ok (.getfield 52, 3) := by decide +kernel
theorem dX6_leastLetter_7 : decode cX6_leastLetter 7 = .ok (.istore_n 1, 1) := by decide +kernel
theorem dX6_leastLetter_8 : decode cX6_leastLetter 8 = .ok (.iconst 0, 1) := by decide +kernel
theorem dX6_leastLetter_9 : decode cX6_leastLetter 9 = .ok (.istore_n 2, 1) := by decide +kernel
theorem dX6_leastLetter_10 : decode cX6_leastLetter 10 = .ok (.aload_n 0, 1) := by decide +kernel
theorem dX6_leastLetter_11 : decode cX6_leastLetter 11 = .ok (.getfield 32, 3) := by decide +kernel
theorem dX6_leastLetter_14 : decode cX6_leastLetter 14 = .ok (.aload_n 0, 1) := by decide +kernel
theorem dX6_leastLetter_15 : decode cX6_leastLetter 15 = .ok (.getfield 28, 3) := by decide +kernel
theorem dX6_leastLetter_18 : decode cX6_leastLetter 18 = .ok (.getfield 46, 3) := by decide +kernel
theorem dX6_leastLetter_21 : decode cX6_leastLetter 21 = .ok (.invokevirtual 55, 3) := by decide +kernel
theorem dX6_leastLetter_24 : decode cX6_leastLetter 24 = .ok (.istore_n 3, 1) := by decide +kernel
theorem dX6_leastLetter_25 : decode cX6_leastLetter 25 = .ok (.iconst 0, 1) := by decide +kernel
theorem dX6_leastLetter_26 : decode cX6_leastLetter 26 = .ok (.istore 4, 2) := by decide +kernel
theorem dX6_leastLetter_28 : decode cX6_leastLetter 28 = .ok (.iload 4, 2) := by decide +kernel
theorem dX6_leastLetter_30 : decode cX6_leastLetter 30 = .ok (.iload_n 3, 1) := by decide +kernel
theorem dX6_leastLetter_31 : decode cX6_leastLetter 31 = .ok (.if_icmp .ge 63, 3) := by decide +kernel
theorem dX6_leastLetter_34 : decode cX6_leastLetter 34 = .ok (.aload_n 0, 1) := by decide +kernel
theorem dX6_leastLetter_35 : decode cX6_leastLetter 35 = .ok (.getfield 32, 3) := by decide +kernel
theorem dX6_leastLetter_38 : decode cX6_leastLetter 38 = .ok (.aload_n 0, 1) := by decide +kernel
theorem dX6_leastLetter_39 : decode cX6_leastLetter 39 = .ok (.getfield 28, 3) := by decide +kernel
theorem dX6_leastLetter_42 : decode cX6_leastLetter 42 = .ok (.getfield 46, 3) := by decide +kernel
theorem dX6_leastLetter_45 : decode cX6_leastLetter 45 = .ok (.iload 4, 2) := by decide +kernel
theorem dX6_leastLetter_47 : decode cX6_leastLetter 47 = .ok (.invokevirtual 59, 3) := by decide +kernel
theorem dX6_leastLetter_50 : decode cX6_leastLetter 50 = .ok (.istore 5, 2) := by decide +kernel
theorem dX6_leastLetter_52 : decode cX6_leastLetter 52 = .ok (.iload 5, 2) := by decide +kernel
theorem dX6_leastLetter_54 : decode cX6_leastLetter 54 = .ok (.ifCond .ne 9, 3) := by decide +kernel
theorem dX6_leastLetter_57 : decode cX6_leastLetter 57 = .ok (.iinc 2 32, 3) := by decide +kernel
theorem dX6_leastLetter_60 : decode cX6_leastLetter 60 = .ok (.goto 28, 3) := by decide +kernel
theorem dX6_leastLetter_63 : decode cX6_leastLetter 63 = .ok (.iload 5, 2) := by decide +kernel
theorem dX6_leastLetter_65 : decode cX6_leastLetter 65 = .ok (.iconst 1, 1) := by decide +kernel
theorem dX6_leastLetter_66 : decode cX6_leastLetter 66 = .ok (.if_icmp .ne 20, 3) := by decide +kernel
theorem dX6_leastLetter_69 : decode cX6_leastLetter 69 = .ok (.iload_n 2, 1) := by decide +kernel
theorem dX6_leastLetter_70 : decode cX6_leastLetter 70 = .ok (.iload_n 1, 1) := by decide +kernel
theorem dX6_leastLetter_71 : decode cX6_leastLetter 71 = .ok (.ifCond .eq 8, 3) := by decide +kernel
theorem dX6_leastLetter_74 : decode cX6_leastLetter 74 = .ok (.bipush 48, 2) := by decide +kernel
theorem dX6_leastLetter_76 : decode cX6_leastLetter 76 = .ok (.goto 5, 3) := by decide +kernel
theorem dX6_leastLetter_79 : decode cX6_leastLetter 79 = .ok (.bipush 32, 2) := by decide +kernel
theorem dX6_leastLetter_81 : decode cX6_leastLetter 81 = .ok (.iadd, 1) := by decide +kernel
theorem dX6_leastLetter_82 : decode cX6_leastLetter 82 = .ok (.istore_n 2, 1) := by decide +kernel
theorem dX6_leastLetter_83 : decode cX6_leastLetter 83 = .ok (.goto 5, 3) := by decide +kernel
theorem dX6_leastLetter_86 : decode cX6_leastLetter 86 = .ok (.iconst 1, 1) := by decide +kernel
theorem dX6_leastLetter_87 : decode cX6_leastLetter 87 = .ok (.istore_n 1, 1) := by decide +kernel
theorem dX6_leastLetter_88 : decode cX6_leastLetter 88 = .ok (.iinc 4 1, 3) := by decide +kernel
theorem dX6_leastLetter_91 : decode cX6_leastLetter 91 = .ok (.goto (-63), 3) := by decide +kernel
theorem dX6_leastLetter_94 : decode cX6_leastLetter 94 = .ok (.iload_n 1, 1) := by decide +kernel
theorem dX6_leastLetter_95 : decode cX6_leastLetter 95 = .ok (.ifCond .eq 10, 3) := by decide +kernel
theorem dX6_leastLetter_98 : decode cX6_leastLetter 98 = .ok (.iload_n 2, 1) := by decide +kernel
theorem dX6_leastLetter_99 : decode cX6_leastLetter 99 = .ok (.bipush 16, 2) := by decide +kernel
theorem dX6_leastLetter_101 : decode cX6_leastLetter 101 = .ok (.iadd, 1) := by decide +kernel
theorem dX6_leastLetter_102 : decode cX6_leastLetter 102 = .ok (.goto 4, 3) := by decide +kernel
theorem dX6_leastLetter_105 : decode cX6_leastLetter 105 = .ok (.iload_n 2, 1) := by decide +kernel
theorem dX6_leastLetter_106 : decode cX6_leastLetter 106 = .ok (.ireturn, 1) := by decide +kernel
theorem dX6_tell_0 : decode cX6_tell 0 = .ok (.iload_n 1, 1) := by decide +kernel
theorem dX6_tell_1 : decode cX6_tell 1 = .ok (.tableswitch 146 0 8 #[51, 56, 61, 69, 82, 98, 106, 122, 138], 51) := by decide +kernel
theorem dX6_tell_52 : decode cX6_tell 52 = .ok (.aload_n 0, 1) := by decide +kernel
theorem dX6_tell_53 : decode cX6_tell 53 = .ok (.getfield 36, 3) := by decide +kernel
theorem dX6_tell_56 : decode cX6_tell 56 = .ok (.ireturn, 1) := by decide +kernel
theorem dX6_tell_57 : decode cX6_tell 57 = .ok (.aload_n 0, 1) := by decide +kernel
theorem dX6_tell_58 : decode cX6_tell 58 = .ok (.getfield 40, 3) := by decide +kernel
theorem dX6_tell_61 : decode cX6_tell 61 = .ok (.ireturn, 1) := by decide +kernel
theorem dX6_tell_62 : decode cX6_tell 62 = .ok (.aload_n 0, 1) := by decide +kernel
theorem dX6_tell_63 : decode cX6_tell 63 = .ok (.getfield 28, 3) := by decide +kernel
theorem dX6_tell_66 : decode cX6_tell 66 = .ok (.getfield 46, 3) := by decide +kernel
theorem dX6_tell_69 : decode cX6_tell 69 = .ok (.ireturn, 1) := by decide +kernel

theorem dX10_same_43 : decode cX10_same 43 = .ok (.aload_n 3, 1) := by decide +kernel
theorem dX10_same_44 : decode cX10_same 44 = .ok (.getfield 152, 3) := by decide +kernel
theorem dX10_same_47 : decode cX10_same 47 = .ok (.aload 4, 2) := by decide +kernel
theorem dX10_same_49 : decode cX10_same 49 = .ok (.getfield 152, 3) := by decide +kernel
theorem dX10_same_52 : decode cX10_same 52 = .ok (.if_icmp .eq 22, 3) := by decide +kernel
theorem dX10_same_55 : decode cX10_same 55 = .ok (.aload_n 3, 1) := by decide +kernel
theorem dX10_same_56 : decode cX10_same 56 = .ok (.getfield 101, 3) := by decide +kernel
theorem dX10_same_59 : decode cX10_same 59 = .ok (.aload 4, 2) := by decide +kernel
theorem dX10_same_61 : decode cX10_same 61 = .ok (.getfield 101, 3) := by decide +kernel
theorem dX10_same_64 : decode cX10_same 64 = .ok (.invokevirtual 155, 3) := by decide +kernel
theorem dX10_same_67 : decode cX10_same 67 = .ok (.ifCond .eq 7, 3) := by decide +kernel
theorem dX10_same_70 : decode cX10_same 70 = .ok (.iconst 1, 1) := by decide +kernel
theorem dX10_same_71 : decode cX10_same 71 = .ok (.goto 4, 3) := by decide +kernel
theorem dX10_same_74 : decode cX10_same 74 = .ok (.iconst 0, 1) := by decide +kernel
theorem dX10_same_75 : decode cX10_same 75 = .ok (.ireturn, 1) := by decide +kernel
theorem dX10_key_0 : decode cX10_key 0 = .ok (.iload_n 3, 1) := by decide +kernel
theorem dX10_key_1 : decode cX10_key 1 = .ok (.ifCond .lt 9, 3) := by decide +kernel
theorem dX10_key_4 : decode cX10_key 4 = .ok (.iload_n 3, 1) := by decide +kernel
theorem dX10_key_5 : decode cX10_key 5 = .ok (.bipush 32, 2) := by decide +kernel
theorem dX10_key_7 : decode cX10_key 7 = .ok (.if_icmp .lt 6, 3) := by decide +kernel
theorem dX10_key_10 : decode cX10_key 10 = .ok (.bipush (-2), 2) := by decide +kernel
theorem dX10_key_12 : decode cX10_key 12 = .ok (.ireturn, 1) := by decide +kernel
theorem dX10_key_13 : decode cX10_key 13 = .ok (.aload_n 0, 1) := by decide +kernel
theorem dX10_key_14 : decode cX10_key 14 = .ok (.getfield 39, 3) := by decide +kernel
theorem dX10_key_17 : decode cX10_key 17 = .ok (.iload_n 1, 1) := by decide +kernel
theorem dX10_key_18 : decode cX10_key 18 = .ok (.iload_n 2, 1) := by decide +kernel
theorem dX10_key_19 : decode cX10_key 19 = .ok (.aload_n 0, 1) := by decide +kernel
theorem dX10_key_20 : decode cX10_key 20 = .ok (.getfield 43, 3) := by decide +kernel
theorem dX10_key_23 : decode cX10_key 23 = .ok (.invokevirtual 159, 3) := by decide +kernel
theorem dX10_key_26 : decode cX10_key 26 = .ok (.aload_n 0, 1) := by decide +kernel
theorem dX10_key_27 : decode cX10_key 27 = .ok (.getfield 43, 3) := by decide +kernel
theorem dX10_key_30 : decode cX10_key 30 = .ok (.iload_n 3, 1) := by decide +kernel
theorem dX10_key_31 : decode cX10_key 31 = .ok (.iaload, 1) := by decide +kernel
theorem dX10_key_32 : decode cX10_key 32 = .ok (.ireturn, 1) := by decide +kernel
theorem dX10_count_0 : decode cX10_count 0 = .ok (.iload_n 1, 1) := by decide +kernel
theorem dX10_count_1 : decode cX10_count 1 = .ok (.tableswitch 69 0 4 #[35, 40, 45, 53, 61], 35) := by decide +kernel
theorem dX10_count_36 : decode cX10_count 36 = .ok (.aload_n 0, 1) := by decide +kernel
theorem dX10_count_37 : decode cX10_count 37 = .ok (.getfield 47, 3) := by decide +kernel
theorem dX10_count_40 : decode cX10_count 40 = .ok (.ireturn, 1) := by decide +kernel
theorem dX10_count_41 : decode cX10_count 41 = .ok (.aload_n 0, 1) := by decide +kernel
theorem dX10_count_42 : decode cX10_count 42 = .ok (.getfield 51, 3) := by decide +kernel
theorem dX10_count_45 : decode cX10_count 45 = .ok (.ireturn, 1) := by decide +kernel
theorem dX10_count_46 : decode cX10_count 46 = .ok (.aload_n 0, 1) := by decide +kernel
theorem dX10_count_47 : decode cX10_count 47 = .ok (.getfield 26, 3) := by decide +kernel
theorem dX10_count_50 : decode cX10_count 50 = .ok (.getfield 110, 3) := by decide +kernel
theorem dX10_count_53 : decode cX10_count 53 = .ok (.ireturn, 1) := by decide +kernel
theorem dX10_count_54 : decode cX10_count 54 = .ok (.aload_n 0, 1) := by decide +kernel
theorem dX10_count_55 : decode cX10_count 55 = .ok (.getfield 30, 3) := by decide +kernel
theorem dX10_count_58 : decode cX10_count 58 = .ok (.getfield 110, 3) := by decide +kernel
theorem dX10_count_61 : decode cX10_count 61 = .ok (.ireturn, 1) := by decide +kernel
theorem dX10_count_62 : decode cX10_count 62 = .ok (.aload_n 0, 1) := by decide +kernel
theorem dX10_count_63 : decode cX10_count 63 = .ok (.getfield 33, 3) := by decide +kernel
theorem dX10_count_66 : decode cX10_count 66 = .ok (.getfield 110, 3) := by decide +kernel
theorem dX10_count_69 : decode cX10_count 69 = .ok (.ireturn, 1) := by decide +kernel
theorem dX10_count_70 : decode cX10_count 70 = .ok (.bipush (-2), 2) := by decide +kernel
theorem dX10_count_72 : decode cX10_count 72 = .ok (.ireturn, 1) := by decide +kernel
theorem dX10_digest_0 : decode cX10_digest 0 = .ok (.ldc2_w 163, 3) := by decide +kernel
theorem dX10_digest_3 : decode cX10_digest 3 = .ok (.lstore_n 1, 1) := by decide +kernel
theorem dX10_digest_4 : decode cX10_digest 4 = .ok (.iconst 0, 1) := by decide +kernel
theorem dX10_digest_5 : decode cX10_digest 5 = .ok (.istore_n 3, 1) := by decide +kernel
theorem dX10_digest_6 : decode cX10_digest 6 = .ok (.iload_n 3, 1) := by decide +kernel
theorem dX10_digest_7 : decode cX10_digest 7 = .ok (.aload_n 0, 1) := by decide +kernel
theorem dX10_digest_8 : decode cX10_digest 8 = .ok (.getfield 51, 3) := by decide +kernel
theorem dX10_digest_11 : decode cX10_digest 11 = .ok (.if_icmp .ge 71, 3) := by decide +kernel
theorem dX10_digest_14 : decode cX10_digest 14 = .ok (.iconst 2, 1) := by decide +kernel
theorem dX10_digest_15 : decode cX10_digest 15 = .ok (.istore 4, 2) := by decide +kernel
theorem dX10_digest_17 : decode cX10_digest 17 = .ok (.iload 4, 2) := by decide +kernel
theorem dX10_digest_19 : decode cX10_digest 19 = .ok (.bipush 8, 2) := by decide +kernel
theorem dX10_digest_21 : decode cX10_digest 21 = .ok (.if_icmp .gt 24, 3) := by decide +kernel
theorem dX10_digest_24 : decode cX10_digest 24 = .ok (.ldc2_w 165, 3) := by decide +kernel
theorem dX10_digest_27 : decode cX10_digest 27 = .ok (.lload_n 1, 1) := by decide +kernel
theorem dX10_digest_28 : decode cX10_digest 28 = .ok (.lmul, 1) := by decide +kernel
theorem dX10_digest_29 : decode cX10_digest 29 = .ok (.aload_n 0, 1) := by decide +kernel
theorem dX10_digest_30 : decode cX10_digest 30 = .ok (.iload_n 3, 1) := by decide +kernel
theorem dX10_digest_31 : decode cX10_digest 31 = .ok (.iload 4, 2) := by decide +kernel
theorem dX10_digest_33 : decode cX10_digest 33 = .ok (.invokevirtual 167, 3) := by decide +kernel
theorem dX10_digest_36 : decode cX10_digest 36 = .ok (.i2l, 1) := by decide +kernel
theorem dX10_digest_37 : decode cX10_digest 37 = .ok (.ladd, 1) := by decide +kernel
theorem dX10_digest_38 : decode cX10_digest 38 = .ok (.lstore_n 1, 1) := by decide +kernel
theorem dX10_digest_39 : decode cX10_digest 39 = .ok (.iinc 4 1, 3) := by decide +kernel
theorem dX10_digest_42 : decode cX10_digest 42 = .ok (.goto (-25), 3) := by decide +kernel
theorem dX10_digest_45 : decode cX10_digest 45 = .ok (.iconst 0, 1) := by decide +kernel
theorem dX10_digest_46 : decode cX10_digest 46 = .ok (.istore 4, 2) := by decide +kernel
theorem dX10_digest_48 : decode cX10_digest 48 = .ok (.iload 4, 2) := by decide +kernel
theorem dX10_digest_50 : decode cX10_digest 50 = .ok (.bipush 32, 2) := by decide +kernel
theorem dX10_digest_52 : decode cX10_digest 52 = .ok (.if_icmp .ge 24, 3) := by decide +kernel
theorem dX10_digest_55 : decode cX10_digest 55 = .ok (.ldc2_w 165, 3) := by decide +kernel
theorem dX10_digest_58 : decode cX10_digest 58 = .ok (.lload_n 1, 1) := by decide +kernel
theorem dX10_digest_59 : decode cX10_digest 59 = .ok (.lmul, 1) := by decide +kernel
theorem dX10_digest_60 : decode cX10_digest 60 = .ok (.aload_n 0, 1) := by decide +kernel
theorem dX10_digest_61 : decode cX10_digest 61 = .ok (.iload_n 3, 1) := by decide +kernel
theorem dX10_digest_62 : decode cX10_digest 62 = .ok (.iload 4, 2) := by decide +kernel
theorem dX10_digest_64 : decode cX10_digest 64 = .ok (.invokevirtual 171, 3) := by decide +kernel
theorem dX10_digest_67 : decode cX10_digest 67 = .ok (.i2l, 1) := by decide +kernel
theorem dX10_digest_68 : decode cX10_digest 68 = .ok (.ladd, 1) := by decide +kernel
theorem dX10_digest_69 : decode cX10_digest 69 = .ok (.lstore_n 1, 1) := by decide +kernel
theorem dX10_digest_70 : decode cX10_digest 70 = .ok (.iinc 4 1, 3) := by decide +kernel
theorem dX10_digest_73 : decode cX10_digest 73 = .ok (.goto (-25), 3) := by decide +kernel
theorem dX10_digest_76 : decode cX10_digest 76 = .ok (.iinc 3 1, 3) := by decide +kernel
theorem dX10_digest_79 : decode cX10_digest 79 = .ok (.goto (-73), 3) := by decide +kernel
theorem dX10_digest_82 : decode cX10_digest 82 = .ok (.aload_n 0, 1) := by decide +kernel
theorem dX10_digest_83 : decode cX10_digest 83 = .ok (.getfield 33, 3) := by decide +kernel
theorem dX10_digest_86 : decode cX10_digest 86 = .ok (.aload_n 0, 1) := by decide +kernel
theorem dX10_digest_87 : decode cX10_digest 87 = .ok (.getfield 30, 3) := by decide +kernel
theorem dX10_digest_90 : decode cX10_digest 90 = .ok (.lload_n 1, 1) := by decide +kernel
theorem dX10_digest_91 : decode cX10_digest 91 = .ok (.invokevirtual 174, 3) := by decide +kernel
theorem dX10_digest_94 : decode cX10_digest 94 = .ok (.invokevirtual 174, 3) := by decide +kernel
theorem dX10_digest_97 : decode cX10_digest 97 = .ok (.lreturn, 1) := by decide +kernel
theorem dX10_patternAt_0 : decode cX10_patternAt 0 = .ok (.iload_n 1, 1) := by decide +kernel
theorem dX10_patternAt_1 : decode cX10_patternAt 1 = .ok (.ifCond .lt 20, 3) := by decide +kernel
theorem dX10_patternAt_4 : decode cX10_patternAt 4 = .ok (.iload_n 1, 1) := by decide +kernel
theorem dX10_patternAt_5 : decode cX10_patternAt 5 = .ok (.aload_n 0, 1) := by decide +kernel
theorem dX10_patternAt_6 : decode cX10_patternAt 6 = .ok (.getfield 47, 3) := by decide +kernel
theorem dX10_patternAt_9 : decode cX10_patternAt 9 = .ok (.if_icmp .ge 12, 3) := by decide +kernel
theorem dX10_patternAt_12 : decode cX10_patternAt 12 = .ok (.aload_n 0, 1) := by decide +kernel
theorem dX10_patternAt_13 : decode cX10_patternAt 13 = .ok (.getfield 11, 3) := by decide +kernel
theorem dX10_patternAt_16 : decode cX10_patternAt 16 = .ok (.iload_n 1, 1) := by decide +kernel
theorem dX10_patternAt_17 : decode cX10_patternAt 17 = .ok (.aaload, 1) := by decide +kernel
theorem dX10_patternAt_18 : decode cX10_patternAt 18 = .ok (.goto 4, 3) := by decide +kernel
theorem dX10_patternAt_21 : decode cX10_patternAt 21 = .ok (.aconst_null, 1) := by decide +kernel
theorem dX10_patternAt_22 : decode cX10_patternAt 22 = .ok (.areturn, 1) := by decide +kernel
theorem dX10_sideAt_0 : decode cX10_sideAt 0 = .ok (.iload_n 1, 1) := by decide +kernel
theorem dX10_sideAt_1 : decode cX10_sideAt 1 = .ok (.ifCond .lt 20, 3) := by decide +kernel
theorem dX10_sideAt_4 : decode cX10_sideAt 4 = .ok (.iload_n 1, 1) := by decide +kernel
theorem dX10_sideAt_5 : decode cX10_sideAt 5 = .ok (.aload_n 0, 1) := by decide +kernel
theorem dX10_sideAt_6 : decode cX10_sideAt 6 = .ok (.getfield 51, 3) := by decide +kernel
theorem dX10_sideAt_9 : decode cX10_sideAt 9 = .ok (.if_icmp .ge 12, 3) := by decide +kernel
theorem dX10_sideAt_12 : decode cX10_sideAt 12 = .ok (.aload_n 0, 1) := by decide +kernel
theorem dX10_sideAt_13 : decode cX10_sideAt 13 = .ok (.getfield 17, 3) := by decide +kernel
theorem dX10_sideAt_16 : decode cX10_sideAt 16 = .ok (.iload_n 1, 1) := by decide +kernel
theorem dX10_sideAt_17 : decode cX10_sideAt 17 = .ok (.aaload, 1) := by decide +kernel
theorem dX10_sideAt_18 : decode cX10_sideAt 18 = .ok (.goto 4, 3) := by decide +kernel
theorem dX10_sideAt_21 : decode cX10_sideAt 21 = .ok (.aconst_null, 1) := by decide +kernel
theorem dX10_sideAt_22 : decode cX10_sideAt 22 = .ok (.areturn, 1) := by decide +kernel
theorem dX10_bitsOf_0 : decode cX10_bitsOf 0 = .ok (.iload_n 1, 1) := by decide +kernel
theorem dX10_bitsOf_1 : decode cX10_bitsOf 1 = .ok (.iconst 3, 1) := by decide +kernel
theorem dX10_bitsOf_2 : decode cX10_bitsOf 2 = .ok (.ishr, 1) := by decide +kernel
theorem dX10_bitsOf_3 : decode cX10_bitsOf 3 = .ok (.istore_n 3, 1) := by decide +kernel
theorem dX10_bitsOf_4 : decode cX10_bitsOf 4 = .ok (.aload_n 0, 1) := by decide +kernel
theorem dX10_bitsOf_5 : decode cX10_bitsOf 5 = .ok (.iload_n 3, 1) := by decide +kernel
theorem dX10_bitsOf_6 : decode cX10_bitsOf 6 = .ok (.iaload, 1) := by decide +kernel
theorem dX10_bitsOf_7 : decode cX10_bitsOf 7 = .ok (.aload_n 0, 1) := by decide +kernel
theorem dX10_bitsOf_8 : decode cX10_bitsOf 8 = .ok (.iload_n 3, 1) := by decide +kernel
theorem dX10_bitsOf_9 : decode cX10_bitsOf 9 = .ok (.iconst 1, 1) := by decide +kernel
theorem dX10_bitsOf_10 : decode cX10_bitsOf 10 = .ok (.iadd, 1) := by decide +kernel
theorem dX10_bitsOf_11 : decode cX10_bitsOf 11 = .ok (.iaload, 1) := by decide +kernel
theorem dX10_bitsOf_12 : decode cX10_bitsOf 12 = .ok (.bipush 8, 2) := by decide +kernel
theorem dX10_bitsOf_14 : decode cX10_bitsOf 14 = .ok (.ishl, 1) := by decide +kernel
theorem dX10_bitsOf_15 : decode cX10_bitsOf 15 = .ok (.ior, 1) := by decide +kernel
theorem dX10_bitsOf_16 : decode cX10_bitsOf 16 = .ok (.aload_n 0, 1) := by decide +kernel
theorem dX10_bitsOf_17 : decode cX10_bitsOf 17 = .ok (.iload_n 3, 1) := by decide +kernel
theorem dX10_bitsOf_18 : decode cX10_bitsOf 18 = .ok (.iconst 2, 1) := by decide +kernel
theorem dX10_bitsOf_19 : decode cX10_bitsOf 19 = .ok (.iadd, 1) := by decide +kernel
theorem dX10_bitsOf_20 : decode cX10_bitsOf 20 = .ok (.iaload, 1) := by decide +kernel
theorem dX10_bitsOf_21 : decode cX10_bitsOf 21 = .ok (.bipush 16, 2) := by decide +kernel
theorem dX10_bitsOf_23 : decode cX10_bitsOf 23 = .ok (.ishl, 1) := by decide +kernel
theorem dX10_bitsOf_24 : decode cX10_bitsOf 24 = .ok (.ior, 1) := by decide +kernel
theorem dX10_bitsOf_25 : decode cX10_bitsOf 25 = .ok (.i2l, 1) := by decide +kernel
theorem dX10_bitsOf_26 : decode cX10_bitsOf 26 = .ok (.aload_n 0, 1) := by decide +kernel
theorem dX10_bitsOf_27 : decode cX10_bitsOf 27 = .ok (.iload_n 3, 1) := by decide +kernel
theorem dX10_bitsOf_28 : decode cX10_bitsOf 28 = .ok (.iconst 3, 1) := by decide +kernel
theorem dX10_bitsOf_29 : decode cX10_bitsOf 29 = .ok (.iadd, 1) := by decide +kernel
theorem dX10_bitsOf_30 : decode cX10_bitsOf 30 = .ok (.iaload, 1) := by decide +kernel
theorem dX10_bitsOf_31 : decode cX10_bitsOf 31 = .ok (.i2l, 1) := by decide +kernel
theorem dX10_bitsOf_32 : decode cX10_bitsOf 32 = .ok (.bipush 24, 2) := by decide +kernel
theorem dX10_bitsOf_34 : decode cX10_bitsOf 34 = .ok (.lshl, 1) := by decide +kernel
theorem dX10_bitsOf_35 : decode cX10_bitsOf 35 = .ok (.lor, 1) := by decide +kernel
theorem dX10_bitsOf_36 : decode cX10_bitsOf 36 = .ok (.lstore 4, 2) := by decide +kernel
theorem dX10_bitsOf_38 : decode cX10_bitsOf 38 = .ok (.lload 4, 2) := by decide +kernel
theorem dX10_bitsOf_40 : decode cX10_bitsOf 40 = .ok (.iload_n 1, 1) := by decide +kernel
theorem dX10_bitsOf_41 : decode cX10_bitsOf 41 = .ok (.bipush 7, 2) := by decide +kernel
theorem dX10_bitsOf_43 : decode cX10_bitsOf 43 = .ok (.iand, 1) := by decide +kernel
theorem dX10_bitsOf_44 : decode cX10_bitsOf 44 = .ok (.lshr, 1) := by decide +kernel
theorem dX10_bitsOf_45 : decode cX10_bitsOf 45 = .ok (.lconst 1, 1) := by decide +kernel
theorem dX10_bitsOf_46 : decode cX10_bitsOf 46 = .ok (.iload_n 2, 1) := by decide +kernel
theorem dX10_bitsOf_47 : decode cX10_bitsOf 47 = .ok (.lshl, 1) := by decide +kernel
theorem dX10_bitsOf_48 : decode cX10_bitsOf 48 = .ok (.lconst 1, 1) := by decide +kernel
theorem dX10_bitsOf_49 : decode cX10_bitsOf 49 = .ok (.lsub, 1) := by decide +kernel
theorem dX10_bitsOf_50 : decode cX10_bitsOf 50 = .ok (.land, 1) := by decide +kernel
theorem dX10_bitsOf_51 : decode cX10_bitsOf 51 = .ok (.lreturn, 1) := by decide +kernel
theorem dX10_copyKey_0 : decode cX10_copyKey 0 = .ok (.aload_n 0, 1) := by decide +kernel
theorem dX10_copyKey_1 : decode cX10_copyKey 1 = .ok (.iconst 0, 1) := by decide +kernel
theorem dX10_copyKey_2 : decode cX10_copyKey 2 = .ok (.aload_n 1, 1) := by decide +kernel
theorem dX10_copyKey_3 : decode cX10_copyKey 3 = .ok (.iconst 0, 1) := by decide +kernel
theorem dX10_copyKey_4 : decode cX10_copyKey 4 = .ok (.bipush 32, 2) := by decide +kernel
theorem dX10_copyKey_6 : decode cX10_copyKey 6 = .ok (.invokestatic 178, 3) := by decide +kernel
theorem dX10_copyKey_9 : decode cX10_copyKey 9 = .ok (.return_, 1) := by decide +kernel
theorem dX11_init_0 : decode cX11_init 0 = .ok (.aload_n 0, 1) := by decide +kernel
theorem dX11_init_1 : decode cX11_init 1 = .ok (.invokespecial 1, 3) := by decide +kernel
theorem dX11_init_4 : decode cX11_init 4 = .ok (.aload_n 0, 1) := by decide +kernel
theorem dX11_init_5 : decode cX11_init 5 = .ok (.sipush 400, 3) := by decide +kernel
theorem dX11_init_8 : decode cX11_init 8 = .ok (.newarray .int, 2) := by decide +kernel
theorem dX11_init_10 : decode cX11_init 10 = .ok (.putfield 7, 3) := by decide +kernel
theorem dX11_init_13 : decode cX11_init 13 = .ok (.aload_n 0, 1) := by decide +kernel
theorem dX11_init_14 : decode cX11_init 14 = .ok (.bipush 8, 2) := by decide +kernel
theorem dX11_init_16 : decode cX11_init 16 = .ok (.newarray .int, 2) := by decide +kernel
theorem dX11_init_18 : decode cX11_init 18 = .ok (.putfield 13, 3) := by decide +kernel
theorem dX11_init_21 : decode cX11_init 21 = .ok (.aload_n 0, 1) := by decide +kernel
theorem dX11_init_22 : decode cX11_init 22 = .ok (.bipush 64, 2) := by decide +kernel
theorem dX11_init_24 : decode cX11_init 24 = .ok (.newarray .int, 2) := by decide +kernel
theorem dX11_init_26 : decode cX11_init 26 = .ok (.putfield 16, 3) := by decide +kernel
theorem dX11_init_29 : decode cX11_init 29 = .ok (.aload_n 0, 1) := by decide +kernel
theorem dX11_init_30 : decode cX11_init 30 = .ok (.bipush 8, 2) := by decide +kernel
theorem dX11_init_32 : decode cX11_init 32 = .ok (.newarray .int, 2) := by decide +kernel
theorem dX11_init_34 : decode cX11_init 34 = .ok (.dup, 1) := by decide +kernel
theorem dX11_init_35 : decode cX11_init 35 = .ok (.iconst 0, 1) := by decide +kernel
theorem dX11_init_36 : decode cX11_init 36 = .ok (.ldc 19, 2) := by decide +kernel
theorem dX11_init_38 : decode cX11_init 38 = .ok (.iastore, 1) := by decide +kernel
theorem dX11_init_39 : decode cX11_init 39 = .ok (.dup, 1) := by decide +kernel
theorem dX11_init_40 : decode cX11_init 40 = .ok (.iconst 1, 1) := by decide +kernel
theorem dX11_init_41 : decode cX11_init 41 = .ok (.ldc 20, 2) := by decide +kernel
theorem dX11_init_43 : decode cX11_init 43 = .ok (.iastore, 1) := by decide +kernel
theorem dX11_init_44 : decode cX11_init 44 = .ok (.dup, 1) := by decide +kernel
theorem dX11_init_45 : decode cX11_init 45 = .ok (.iconst 2, 1) := by decide +kernel
theorem dX11_init_46 : decode cX11_init 46 = .ok (.ldc 21, 2) := by decide +kernel
theorem dX11_init_48 : decode cX11_init 48 = .ok (.iastore, 1) := by decide +kernel
theorem dX11_init_49 : decode cX11_init 49 = .ok (.dup, 1) := by decide +kernel
theorem dX11_init_50 : decode cX11_init 50 = .ok (.iconst 3, 1) := by decide +kernel
theorem dX11_init_51 : decode cX11_init 51 = .ok (.ldc 22, 2) := by decide +kernel
theorem dX11_init_53 : decode cX11_init 53 = .ok (.iastore, 1) := by decide +kernel
theorem dX11_init_54 : decode cX11_init 54 = .ok (.dup, 1) := by decide +kernel
theorem dX11_init_55 : decode cX11_init 55 = .ok (.iconst 4, 1) := by decide +kernel
theorem dX11_init_56 : decode cX11_init 56 = .ok (.ldc 23, 2) := by decide +kernel
theorem dX11_init_58 : decode cX11_init 58 = .ok (.iastore, 1) := by decide +kernel
theorem dX11_init_59 : decode cX11_init 59 = .ok (.dup, 1) := by decide +kernel
theorem dX11_init_60 : decode cX11_init 60 = .ok (.iconst 5, 1) := by decide +kernel
theorem dX11_init_61 : decode cX11_init 61 = .ok (.ldc 24, 2) := by decide +kernel
theorem dX11_init_63 : decode cX11_init 63 = .ok (.iastore, 1) := by decide +kernel
theorem dX11_init_64 : decode cX11_init 64 = .ok (.dup, 1) := by decide +kernel
theorem dX11_init_65 : decode cX11_init 65 = .ok (.bipush 6, 2) := by decide +kernel
theorem dX11_init_67 : decode cX11_init 67 = .ok (.ldc 25, 2) := by decide +kernel
theorem dX11_init_69 : decode cX11_init 69 = .ok (.iastore, 1) := by decide +kernel
theorem dX11_init_70 : decode cX11_init 70 = .ok (.dup, 1) := by decide +kernel
theorem dX11_init_71 : decode cX11_init 71 = .ok (.bipush 7, 2) := by decide +kernel
theorem dX11_init_73 : decode cX11_init 73 = .ok (.ldc 26, 2) := by decide +kernel
theorem dX11_init_75 : decode cX11_init 75 = .ok (.iastore, 1) := by decide +kernel
theorem dX11_init_76 : decode cX11_init 76 = .ok (.putfield 27, 3) := by decide +kernel
theorem dX11_init_79 : decode cX11_init 79 = .ok (.aload_n 0, 1) := by decide +kernel
theorem dX11_init_80 : decode cX11_init 80 = .ok (.bipush 64, 2) := by decide +kernel
theorem dX11_init_82 : decode cX11_init 82 = .ok (.newarray .int, 2) := by decide +kernel
theorem dX11_init_84 : decode cX11_init 84 = .ok (.dup, 1) := by decide +kernel
theorem dX11_init_85 : decode cX11_init 85 = .ok (.iconst 0, 1) := by decide +kernel
theorem dX11_init_86 : decode cX11_init 86 = .ok (.ldc 30, 2) := by decide +kernel
theorem dX11_init_88 : decode cX11_init 88 = .ok (.iastore, 1) := by decide +kernel
theorem dX11_init_89 : decode cX11_init 89 = .ok (.dup, 1) := by decide +kernel
theorem dX11_init_90 : decode cX11_init 90 = .ok (.iconst 1, 1) := by decide +kernel
theorem dX11_init_91 : decode cX11_init 91 = .ok (.ldc 31, 2) := by decide +kernel
theorem dX11_init_93 : decode cX11_init 93 = .ok (.iastore, 1) := by decide +kernel
theorem dX11_init_94 : decode cX11_init 94 = .ok (.dup, 1) := by decide +kernel
theorem dX11_init_95 : decode cX11_init 95 = .ok (.iconst 2, 1) := by decide +kernel
theorem dX11_init_96 : decode cX11_init 96 = .ok (.ldc 32, 2) := by decide +kernel
theorem dX11_init_98 : decode cX11_init 98 = .ok (.iastore, 1) := by decide +kernel
theorem dX11_init_99 : decode cX11_init 99 = .ok (.dup, 1) := by decide +kernel
theorem dX11_init_100 : decode cX11_init 100 = .ok (.iconst 3, 1) := by decide +kernel
theorem dX11_init_101 : decode cX11_init 101 = .ok (.ldc 33, 2) := by decide +kernel
theorem dX11_init_103 : decode cX11_init 103 = .ok (.iastore, 1) := by decide +kernel
theorem dX11_init_104 : decode cX11_init 104 = .ok (.dup, 1) := by decide +kernel
theorem dX11_init_105 : decode cX11_init 105 = .ok (.iconst 4, 1) := by decide +kernel
theorem dX11_init_106 : decode cX11_init 106 = .ok (.ldc 34, 2) := by decide +kernel
theorem dX11_init_108 : decode cX11_init 108 = .ok (.iastore, 1) := by decide +kernel
theorem dX11_init_109 : decode cX11_init 109 = .ok (.dup, 1) := by decide +kernel
theorem dX11_init_110 : decode cX11_init 110 = .ok (.iconst 5, 1) := by decide +kernel
theorem dX11_init_111 : decode cX11_init 111 = .ok (.ldc 35, 2) := by decide +kernel
theorem dX11_init_113 : decode cX11_init 113 = .ok (.iastore, 1) := by decide +kernel
theorem dX11_init_114 : decode cX11_init 114 = .ok (.dup, 1) := by decide +kernel
theorem dX11_init_115 : decode cX11_init 115 = .ok (.bipush 6, 2) := by decide +kernel
theorem dX11_init_117 : decode cX11_init 117 = .ok (.ldc 36, 2) := by decide +kernel
theorem dX11_init_119 : decode cX11_init 119 = .ok (.iastore, 1) := by decide +kernel
theorem dX11_init_120 : decode cX11_init 120 = .ok (.dup, 1) := by decide +kernel
theorem dX11_init_121 : decode cX11_init 121 = .ok (.bipush 7, 2) := by decide +kernel
theorem dX11_init_123 : decode cX11_init 123 = .ok (.ldc 37, 2) := by decide +kernel
theorem dX11_init_125 : decode cX11_init 125 = .ok (.iastore, 1) := by decide +kernel
theorem dX11_init_126 : decode cX11_init 126 = .ok (.dup, 1) := by decide +kernel
theorem dX11_init_127 : decode cX11_init 127 = .ok (.bipush 8, 2) := by decide +kernel
theorem dX11_init_129 : decode cX11_init 129 = .ok (.ldc 38, 2) := by decide +kernel
theorem dX11_init_131 : decode cX11_init 131 = .ok (.iastore, 1) := by decide +kernel
theorem dX11_init_132 : decode cX11_init 132 = .ok (.dup, 1) := by decide +kernel
theorem dX11_init_133 : decode cX11_init 133 = .ok (.bipush 9, 2) := by decide +kernel
theorem dX11_init_135 : decode cX11_init 135 = .ok (.ldc 39, 2) := by decide +kernel
theorem dX11_init_137 : decode cX11_init 137 = .ok (.iastore, 1) := by decide +kernel
theorem dX11_init_138 : decode cX11_init 138 = .ok (.dup, 1) := by decide +kernel
theorem dX11_init_139 : decode cX11_init 139 = .ok (.bipush 10, 2) := by decide +kernel
theorem dX11_init_141 : decode cX11_init 141 = .ok (.ldc 40, 2) := by decide +kernel
theorem dX11_init_143 : decode cX11_init 143 = .ok (.iastore, 1) := by decide +kernel
theorem dX11_init_144 : decode cX11_init 144 = .ok (.dup, 1) := by decide +kernel
theorem dX11_init_145 : decode cX11_init 145 = .ok (.bipush 11, 2) := by decide +kernel
theorem dX11_init_147 : decode cX11_init 147 = .ok (.ldc 41, 2) := by decide +kernel
theorem dX11_init_149 : decode cX11_init 149 = .ok (.iastore, 1) := by decide +kernel
theorem dX11_init_150 : decode cX11_init 150 = .ok (.dup, 1) := by decide +kernel
theorem dX11_init_151 : decode cX11_init 151 = .ok (.bipush 12, 2) := by decide +kernel
theorem dX11_init_153 : decode cX11_init 153 = .ok (.ldc 42, 2) := by decide +kernel
theorem dX11_init_155 : decode cX11_init 155 = .ok (.iastore, 1) := by decide +kernel
theorem dX11_init_156 : decode cX11_init 156 = .ok (.dup, 1) := by decide +kernel
theorem dX11_init_157 : decode cX11_init 157 = .ok (.bipush 13, 2) := by decide +kernel
theorem dX11_init_159 : decode cX11_init 159 = .ok (.ldc 43, 2) := by decide +kernel
theorem dX11_init_161 : decode cX11_init 161 = .ok (.iastore, 1) := by decide +kernel
theorem dX11_init_162 : decode cX11_init 162 = .ok (.dup, 1) := by decide +kernel
theorem dX11_init_163 : decode cX11_init 163 = .ok (.bipush 14, 2) := by decide +kernel
theorem dX11_init_165 : decode cX11_init 165 = .ok (.ldc 44, 2) := by decide +kernel
theorem dX11_init_167 : decode cX11_init 167 = .ok (.iastore, 1) := by decide +kernel
theorem dX11_init_168 : decode cX11_init 168 = .ok (.dup, 1) := by decide +kernel
theorem dX11_init_169 : decode cX11_init 169 = .ok (.bipush 15, 2) := by decide +kernel
theorem dX11_init_171 : decode cX11_init 171 = .ok (.ldc 45, 2) := by decide +kernel
theorem dX11_init_173 : decode cX11_init 173 = .ok (.iastore, 1) := by decide +kernel
theorem dX11_init_174 : decode cX11_init 174 = .ok (.dup, 1) := by decide +kernel
theorem dX11_init_175 : decode cX11_init 175 = .ok (.bipush 16, 2) := by decide +kernel
theorem dX11_init_177 : decode cX11_init 177 = .ok (.ldc 46, 2) := by decide +kernel
theorem dX11_init_179 : decode cX11_init 179 = .ok (.iastore, 1) := by decide +kernel
theorem dX11_init_180 : decode cX11_init 180 = .ok (.dup, 1) := by decide +kernel
theorem dX11_init_181 : decode cX11_init 181 = .ok (.bipush 17, 2) := by decide +kernel
theorem dX11_init_183 : decode cX11_init 183 = .ok (.ldc 47, 2) := by decide +kernel
theorem dX11_init_185 : decode cX11_init 185 = .ok (.iastore, 1) := by decide +kernel
theorem dX11_init_186 : decode cX11_init 186 = .ok (.dup, 1) := by decide +kernel
theorem dX11_init_187 : decode cX11_init 187 = .ok (.bipush 18, 2) := by decide +kernel
theorem dX11_init_189 : decode cX11_init 189 = .ok (.ldc 48, 2) := by decide +kernel
theorem dX11_init_191 : decode cX11_init 191 = .ok (.iastore, 1) := by decide +kernel
theorem dX11_init_192 : decode cX11_init 192 = .ok (.dup, 1) := by decide +kernel
theorem dX11_init_193 : decode cX11_init 193 = .ok (.bipush 19, 2) := by decide +kernel
theorem dX11_init_195 : decode cX11_init 195 = .ok (.ldc 49, 2) := by decide +kernel
theorem dX11_init_197 : decode cX11_init 197 = .ok (.iastore, 1) := by decide +kernel
theorem dX11_init_198 : decode cX11_init 198 = .ok (.dup, 1) := by decide +kernel
theorem dX11_init_199 : decode cX11_init 199 = .ok (.bipush 20, 2) := by decide +kernel
theorem dX11_init_201 : decode cX11_init 201 = .ok (.ldc 50, 2) := by decide +kernel
theorem dX11_init_203 : decode cX11_init 203 = .ok (.iastore, 1) := by decide +kernel
theorem dX11_init_204 : decode cX11_init 204 = .ok (.dup, 1) := by decide +kernel
theorem dX11_init_205 : decode cX11_init 205 = .ok (.bipush 21, 2) := by decide +kernel
theorem dX11_init_207 : decode cX11_init 207 = .ok (.ldc 51, 2) := by decide +kernel
theorem dX11_init_209 : decode cX11_init 209 = .ok (.iastore, 1) := by decide +kernel
theorem dX11_init_210 : decode cX11_init 210 = .ok (.dup, 1) := by decide +kernel
theorem dX11_init_211 : decode cX11_init 211 = .ok (.bipush 22, 2) := by decide +kernel
theorem dX11_init_213 : decode cX11_init 213 = .ok (.ldc 52, 2) := by decide +kernel
theorem dX11_init_215 : decode cX11_init 215 = .ok (.iastore, 1) := by decide +kernel
theorem dX11_init_216 : decode cX11_init 216 = .ok (.dup, 1) := by decide +kernel
theorem dX11_init_217 : decode cX11_init 217 = .ok (.bipush 23, 2) := by decide +kernel
theorem dX11_init_219 : decode cX11_init 219 = .ok (.ldc 53, 2) := by decide +kernel
theorem dX11_init_221 : decode cX11_init 221 = .ok (.iastore, 1) := by decide +kernel
theorem dX11_init_222 : decode cX11_init 222 = .ok (.dup, 1) := by decide +kernel
theorem dX11_init_223 : decode cX11_init 223 = .ok (.bipush 24, 2) := by decide +kernel
theorem dX11_init_225 : decode cX11_init 225 = .ok (.ldc 54, 2) := by decide +kernel
theorem dX11_init_227 : decode cX11_init 227 = .ok (.iastore, 1) := by decide +kernel
theorem dX11_init_228 : decode cX11_init 228 = .ok (.dup, 1) := by decide +kernel
theorem dX11_init_229 : decode cX11_init 229 = .ok (.bipush 25, 2) := by decide +kernel
theorem dX11_init_231 : decode cX11_init 231 = .ok (.ldc 55, 2) := by decide +kernel
theorem dX11_init_233 : decode cX11_init 233 = .ok (.iastore, 1) := by decide +kernel
theorem dX11_init_234 : decode cX11_init 234 = .ok (.dup, 1) := by decide +kernel
theorem dX11_init_235 : decode cX11_init 235 = .ok (.bipush 26, 2) := by decide +kernel
theorem dX11_init_237 : decode cX11_init 237 = .ok (.ldc 56, 2) := by decide +kernel
theorem dX11_init_239 : decode cX11_init 239 = .ok (.iastore, 1) := by decide +kernel
theorem dX11_init_240 : decode cX11_init 240 = .ok (.dup, 1) := by decide +kernel
theorem dX11_init_241 : decode cX11_init 241 = .ok (.bipush 27, 2) := by decide +kernel
theorem dX11_init_243 : decode cX11_init 243 = .ok (.ldc 57, 2) := by decide +kernel
theorem dX11_init_245 : decode cX11_init 245 = .ok (.iastore, 1) := by decide +kernel
theorem dX11_init_246 : decode cX11_init 246 = .ok (.dup, 1) := by decide +kernel
theorem dX11_init_247 : decode cX11_init 247 = .ok (.bipush 28, 2) := by decide +kernel
theorem dX11_init_249 : decode cX11_init 249 = .ok (.ldc 58, 2) := by decide +kernel
theorem dX11_init_251 : decode cX11_init 251 = .ok (.iastore, 1) := by decide +kernel
theorem dX11_init_252 : decode cX11_init 252 = .ok (.dup, 1) := by decide +kernel
theorem dX11_init_253 : decode cX11_init 253 = .ok (.bipush 29, 2) := by decide +kernel
theorem dX11_init_255 : decode cX11_init 255 = .ok (.ldc 59, 2) := by decide +kernel
theorem dX11_init_257 : decode cX11_init 257 = .ok (.iastore, 1) := by decide +kernel
theorem dX11_init_258 : decode cX11_init 258 = .ok (.dup, 1) := by decide +kernel
theorem dX11_init_259 : decode cX11_init 259 = .ok (.bipush 30, 2) := by decide +kernel
theorem dX11_init_261 : decode cX11_init 261 = .ok (.ldc 60, 2) := by decide +kernel
theorem dX11_init_263 : decode cX11_init 263 = .ok (.iastore, 1) := by decide +kernel
theorem dX11_init_264 : decode cX11_init 264 = .ok (.dup, 1) := by decide +kernel
theorem dX11_init_265 : decode cX11_init 265 = .ok (.bipush 31, 2) := by decide +kernel
theorem dX11_init_267 : decode cX11_init 267 = .ok (.ldc 61, 2) := by decide +kernel
theorem dX11_init_269 : decode cX11_init 269 = .ok (.iastore, 1) := by decide +kernel
theorem dX11_init_270 : decode cX11_init 270 = .ok (.dup, 1) := by decide +kernel
theorem dX11_init_271 : decode cX11_init 271 = .ok (.bipush 32, 2) := by decide +kernel
theorem dX11_init_273 : decode cX11_init 273 = .ok (.ldc 62, 2) := by decide +kernel
theorem dX11_init_275 : decode cX11_init 275 = .ok (.iastore, 1) := by decide +kernel
theorem dX11_init_276 : decode cX11_init 276 = .ok (.dup, 1) := by decide +kernel
theorem dX11_init_277 : decode cX11_init 277 = .ok (.bipush 33, 2) := by decide +kernel
theorem dX11_init_279 : decode cX11_init 279 = .ok (.ldc 63, 2) := by decide +kernel
theorem dX11_init_281 : decode cX11_init 281 = .ok (.iastore, 1) := by decide +kernel
theorem dX11_init_282 : decode cX11_init 282 = .ok (.dup, 1) := by decide +kernel
theorem dX11_init_283 : decode cX11_init 283 = .ok (.bipush 34, 2) := by decide +kernel
theorem dX11_init_285 : decode cX11_init 285 = .ok (.ldc 64, 2) := by decide +kernel
theorem dX11_init_287 : decode cX11_init 287 = .ok (.iastore, 1) := by decide +kernel
theorem dX11_init_288 : decode cX11_init 288 = .ok (.dup, 1) := by decide +kernel
theorem dX11_init_289 : decode cX11_init 289 = .ok (.bipush 35, 2) := by decide +kernel
theorem dX11_init_291 : decode cX11_init 291 = .ok (.ldc 65, 2) := by decide +kernel
theorem dX11_init_293 : decode cX11_init 293 = .ok (.iastore, 1) := by decide +kernel
theorem dX11_init_294 : decode cX11_init 294 = .ok (.dup, 1) := by decide +kernel
theorem dX11_init_295 : decode cX11_init 295 = .ok (.bipush 36, 2) := by decide +kernel
theorem dX11_init_297 : decode cX11_init 297 = .ok (.ldc 66, 2) := by decide +kernel
theorem dX11_init_299 : decode cX11_init 299 = .ok (.iastore, 1) := by decide +kernel
theorem dX11_init_300 : decode cX11_init 300 = .ok (.dup, 1) := by decide +kernel
theorem dX11_init_301 : decode cX11_init 301 = .ok (.bipush 37, 2) := by decide +kernel
theorem dX11_init_303 : decode cX11_init 303 = .ok (.ldc 67, 2) := by decide +kernel
theorem dX11_init_305 : decode cX11_init 305 = .ok (.iastore, 1) := by decide +kernel
theorem dX11_init_306 : decode cX11_init 306 = .ok (.dup, 1) := by decide +kernel
theorem dX11_init_307 : decode cX11_init 307 = .ok (.bipush 38, 2) := by decide +kernel
theorem dX11_init_309 : decode cX11_init 309 = .ok (.ldc 68, 2) := by decide +kernel
theorem dX11_init_311 : decode cX11_init 311 = .ok (.iastore, 1) := by decide +kernel
theorem dX11_init_312 : decode cX11_init 312 = .ok (.dup, 1) := by decide +kernel
theorem dX11_init_313 : decode cX11_init 313 = .ok (.bipush 39, 2) := by decide +kernel
theorem dX11_init_315 : decode cX11_init 315 = .ok (.ldc 69, 2) := by decide +kernel
theorem dX11_init_317 : decode cX11_init 317 = .ok (.iastore, 1) := by decide +kernel
theorem dX11_init_318 : decode cX11_init 318 = .ok (.dup, 1) := by decide +kernel
theorem dX11_init_319 : decode cX11_init 319 = .ok (.bipush 40, 2) := by decide +kernel
theorem dX11_init_321 : decode cX11_init 321 = .ok (.ldc 70, 2) := by decide +kernel
theorem dX11_init_323 : decode cX11_init 323 = .ok (.iastore, 1) := by decide +kernel
theorem dX11_init_324 : decode cX11_init 324 = .ok (.dup, 1) := by decide +kernel
theorem dX11_init_325 : decode cX11_init 325 = .ok (.bipush 41, 2) := by decide +kernel
theorem dX11_init_327 : decode cX11_init 327 = .ok (.ldc 71, 2) := by decide +kernel
theorem dX11_init_329 : decode cX11_init 329 = .ok (.iastore, 1) := by decide +kernel
theorem dX11_init_330 : decode cX11_init 330 = .ok (.dup, 1) := by decide +kernel
theorem dX11_init_331 : decode cX11_init 331 = .ok (.bipush 42, 2) := by decide +kernel
theorem dX11_init_333 : decode cX11_init 333 = .ok (.ldc 72, 2) := by decide +kernel
theorem dX11_init_335 : decode cX11_init 335 = .ok (.iastore, 1) := by decide +kernel
theorem dX11_init_336 : decode cX11_init 336 = .ok (.dup, 1) := by decide +kernel
theorem dX11_init_337 : decode cX11_init 337 = .ok (.bipush 43, 2) := by decide +kernel
theorem dX11_init_339 : decode cX11_init 339 = .ok (.ldc 73, 2) := by decide +kernel
theorem dX11_init_341 : decode cX11_init 341 = .ok (.iastore, 1) := by decide +kernel
theorem dX11_init_342 : decode cX11_init 342 = .ok (.dup, 1) := by decide +kernel
theorem dX11_init_343 : decode cX11_init 343 = .ok (.bipush 44, 2) := by decide +kernel
theorem dX11_init_345 : decode cX11_init 345 = .ok (.ldc 74, 2) := by decide +kernel
theorem dX11_init_347 : decode cX11_init 347 = .ok (.iastore, 1) := by decide +kernel
theorem dX11_init_348 : decode cX11_init 348 = .ok (.dup, 1) := by decide +kernel
theorem dX11_init_349 : decode cX11_init 349 = .ok (.bipush 45, 2) := by decide +kernel
theorem dX11_init_351 : decode cX11_init 351 = .ok (.ldc 75, 2) := by decide +kernel
theorem dX11_init_353 : decode cX11_init 353 = .ok (.iastore, 1) := by decide +kernel
theorem dX11_init_354 : decode cX11_init 354 = .ok (.dup, 1) := by decide +kernel
theorem dX11_init_355 : decode cX11_init 355 = .ok (.bipush 46, 2) := by decide +kernel
theorem dX11_init_357 : decode cX11_init 357 = .ok (.ldc 76, 2) := by decide +kernel
theorem dX11_init_359 : decode cX11_init 359 = .ok (.iastore, 1) := by decide +kernel
theorem dX11_init_360 : decode cX11_init 360 = .ok (.dup, 1) := by decide +kernel
theorem dX11_init_361 : decode cX11_init 361 = .ok (.bipush 47, 2) := by decide +kernel
theorem dX11_init_363 : decode cX11_init 363 = .ok (.ldc 77, 2) := by decide +kernel
theorem dX11_init_365 : decode cX11_init 365 = .ok (.iastore, 1) := by decide +kernel
theorem dX11_init_366 : decode cX11_init 366 = .ok (.dup, 1) := by decide +kernel
theorem dX11_init_367 : decode cX11_init 367 = .ok (.bipush 48, 2) := by decide +kernel
theorem dX11_init_369 : decode cX11_init 369 = .ok (.ldc 78, 2) := by decide +kernel
theorem dX11_init_371 : decode cX11_init 371 = .ok (.iastore, 1) := by decide +kernel
theorem dX11_init_372 : decode cX11_init 372 = .ok (.dup, 1) := by decide +kernel
theorem dX11_init_373 : decode cX11_init 373 = .ok (.bipush 49, 2) := by decide +kernel
theorem dX11_init_375 : decode cX11_init 375 = .ok (.ldc 79, 2) := by decide +kernel
theorem dX11_init_377 : decode cX11_init 377 = .ok (.iastore, 1) := by decide +kernel
theorem dX11_init_378 : decode cX11_init 378 = .ok (.dup, 1) := by decide +kernel
theorem dX11_init_379 : decode cX11_init 379 = .ok (.bipush 50, 2) := by decide +kernel
theorem dX11_init_381 : decode cX11_init 381 = .ok (.ldc 80, 2) := by decide +kernel
theorem dX11_init_383 : decode cX11_init 383 = .ok (.iastore, 1) := by decide +kernel
theorem dX11_init_384 : decode cX11_init 384 = .ok (.dup, 1) := by decide +kernel
theorem dX11_init_385 : decode cX11_init 385 = .ok (.bipush 51, 2) := by decide +kernel
theorem dX11_init_387 : decode cX11_init 387 = .ok (.ldc 81, 2) := by decide +kernel
theorem dX11_init_389 : decode cX11_init 389 = .ok (.iastore, 1) := by decide +kernel
theorem dX11_init_390 : decode cX11_init 390 = .ok (.dup, 1) := by decide +kernel
theorem dX11_init_391 : decode cX11_init 391 = .ok (.bipush 52, 2) := by decide +kernel
theorem dX11_init_393 : decode cX11_init 393 = .ok (.ldc 82, 2) := by decide +kernel
theorem dX11_init_395 : decode cX11_init 395 = .ok (.iastore, 1) := by decide +kernel
theorem dX11_init_396 : decode cX11_init 396 = .ok (.dup, 1) := by decide +kernel
theorem dX11_init_397 : decode cX11_init 397 = .ok (.bipush 53, 2) := by decide +kernel
theorem dX11_init_399 : decode cX11_init 399 = .ok (.ldc 83, 2) := by decide +kernel
theorem dX11_init_401 : decode cX11_init 401 = .ok (.iastore, 1) := by decide +kernel
theorem dX11_init_402 : decode cX11_init 402 = .ok (.dup, 1) := by decide +kernel
theorem dX11_init_403 : decode cX11_init 403 = .ok (.bipush 54, 2) := by decide +kernel
theorem dX11_init_405 : decode cX11_init 405 = .ok (.ldc 84, 2) := by decide +kernel
theorem dX11_init_407 : decode cX11_init 407 = .ok (.iastore, 1) := by decide +kernel
theorem dX11_init_408 : decode cX11_init 408 = .ok (.dup, 1) := by decide +kernel
theorem dX11_init_409 : decode cX11_init 409 = .ok (.bipush 55, 2) := by decide +kernel
theorem dX11_init_411 : decode cX11_init 411 = .ok (.ldc 85, 2) := by decide +kernel
theorem dX11_init_413 : decode cX11_init 413 = .ok (.iastore, 1) := by decide +kernel
theorem dX11_init_414 : decode cX11_init 414 = .ok (.dup, 1) := by decide +kernel
theorem dX11_init_415 : decode cX11_init 415 = .ok (.bipush 56, 2) := by decide +kernel
theorem dX11_init_417 : decode cX11_init 417 = .ok (.ldc 86, 2) := by decide +kernel
theorem dX11_init_419 : decode cX11_init 419 = .ok (.iastore, 1) := by decide +kernel
theorem dX11_init_420 : decode cX11_init 420 = .ok (.dup, 1) := by decide +kernel
theorem dX11_init_421 : decode cX11_init 421 = .ok (.bipush 57, 2) := by decide +kernel
theorem dX11_init_423 : decode cX11_init 423 = .ok (.ldc 87, 2) := by decide +kernel
theorem dX11_init_425 : decode cX11_init 425 = .ok (.iastore, 1) := by decide +kernel
theorem dX11_init_426 : decode cX11_init 426 = .ok (.dup, 1) := by decide +kernel
theorem dX11_init_427 : decode cX11_init 427 = .ok (.bipush 58, 2) := by decide +kernel
theorem dX11_init_429 : decode cX11_init 429 = .ok (.ldc 88, 2) := by decide +kernel
theorem dX11_init_431 : decode cX11_init 431 = .ok (.iastore, 1) := by decide +kernel
theorem dX11_init_432 : decode cX11_init 432 = .ok (.dup, 1) := by decide +kernel
theorem dX11_init_433 : decode cX11_init 433 = .ok (.bipush 59, 2) := by decide +kernel
theorem dX11_init_435 : decode cX11_init 435 = .ok (.ldc 89, 2) := by decide +kernel
theorem dX11_init_437 : decode cX11_init 437 = .ok (.iastore, 1) := by decide +kernel
theorem dX11_init_438 : decode cX11_init 438 = .ok (.dup, 1) := by decide +kernel
theorem dX11_init_439 : decode cX11_init 439 = .ok (.bipush 60, 2) := by decide +kernel
theorem dX11_init_441 : decode cX11_init 441 = .ok (.ldc 90, 2) := by decide +kernel
theorem dX11_init_443 : decode cX11_init 443 = .ok (.iastore, 1) := by decide +kernel
theorem dX11_init_444 : decode cX11_init 444 = .ok (.dup, 1) := by decide +kernel
theorem dX11_init_445 : decode cX11_init 445 = .ok (.bipush 61, 2) := by decide +kernel
theorem dX11_init_447 : decode cX11_init 447 = .ok (.ldc 91, 2) := by decide +kernel
theorem dX11_init_449 : decode cX11_init 449 = .ok (.iastore, 1) := by decide +kernel
theorem dX11_init_450 : decode cX11_init 450 = .ok (.dup, 1) := by decide +kernel
theorem dX11_init_451 : decode cX11_init 451 = .ok (.bipush 62, 2) := by decide +kernel
theorem dX11_init_453 : decode cX11_init 453 = .ok (.ldc 92, 2) := by decide +kernel
theorem dX11_init_455 : decode cX11_init 455 = .ok (.iastore, 1) := by decide +kernel
theorem dX11_init_456 : decode cX11_init 456 = .ok (.dup, 1) := by decide +kernel
theorem dX11_init_457 : decode cX11_init 457 = .ok (.bipush 63, 2) := by decide +kernel
theorem dX11_init_459 : decode cX11_init 459 = .ok (.ldc 93, 2) := by decide +kernel
theorem dX11_init_461 : decode cX11_init 461 = .ok (.iastore, 1) := by decide +kernel
theorem dX11_init_462 : decode cX11_init 462 = .ok (.putfield 94, 3) := by decide +kernel
theorem dX11_init_465 : decode cX11_init 465 = .ok (.aload_n 0, 1) := by decide +kernel
theorem dX11_init_466 : decode cX11_init 466 = .ok (.bipush 32, 2) := by decide +kernel
theorem dX11_init_468 : decode cX11_init 468 = .ok (.newarray .int, 2) := by decide +kernel
theorem dX11_init_470 : decode cX11_init 470 = .ok (.putfield 97, 3) := by decide +kernel
theorem dX11_init_473 : decode cX11_init 473 = .ok (.aload_n 0, 1) := by decide +kernel
theorem dX11_init_474 : decode cX11_init 474 = .ok (.bipush 32, 2) := by decide +kernel
theorem dX11_init_476 : decode cX11_init 476 = .ok (.newarray .int, 2) := by decide +kernel
theorem dX11_init_478 : decode cX11_init 478 = .ok (.putfield 100, 3) := by decide +kernel
theorem dX11_init_481 : decode cX11_init 481 = .ok (.aload_n 0, 1) := by decide +kernel
theorem dX11_init_482 : decode cX11_init 482 = .ok (.bipush 33, 2) := by decide +kernel
theorem dX11_init_484 : decode cX11_init 484 = .ok (.newarray .int, 2) := by decide +kernel
theorem dX11_init_486 : decode cX11_init 486 = .ok (.putfield 103, 3) := by decide +kernel
theorem dX11_init_489 : decode cX11_init 489 = .ok (.aload_n 0, 1) := by decide +kernel
theorem dX11_init_490 : decode cX11_init 490 = .ok (.bipush 32, 2) := by decide +kernel
theorem dX11_init_492 : decode cX11_init 492 = .ok (.newarray .int, 2) := by decide +kernel
theorem dX11_init_494 : decode cX11_init 494 = .ok (.putfield 106, 3) := by decide +kernel
theorem dX11_init_497 : decode cX11_init 497 = .ok (.aload_n 0, 1) := by decide +kernel
theorem dX11_init_498 : decode cX11_init 498 = .ok (.sipush 160, 3) := by decide +kernel
theorem dX11_init_501 : decode cX11_init 501 = .ok (.newarray .long, 2) := by decide +kernel
theorem dX11_init_503 : decode cX11_init 503 = .ok (.putfield 109, 3) := by decide +kernel
theorem dX11_init_506 : decode cX11_init 506 = .ok (.aload_n 0, 1) := by decide +kernel
theorem dX11_init_507 : decode cX11_init 507 = .ok (.bipush 32, 2) := by decide +kernel
theorem dX11_init_509 : decode cX11_init 509 = .ok (.newarray .long, 2) := by decide +kernel
theorem dX11_init_511 : decode cX11_init 511 = .ok (.putfield 113, 3) := by decide +kernel
theorem dX11_init_514 : decode cX11_init 514 = .ok (.aload_n 0, 1) := by decide +kernel
theorem dX11_init_515 : decode cX11_init 515 = .ok (.bipush 32, 2) := by decide +kernel
theorem dX11_init_517 : decode cX11_init 517 = .ok (.newarray .int, 2) := by decide +kernel
theorem dX11_init_519 : decode cX11_init 519 = .ok (.putfield 116, 3) := by decide +kernel
theorem dX11_init_522 : decode cX11_init 522 = .ok (.aload_n 0, 1) := by decide +kernel
theorem dX11_init_523 : decode cX11_init 523 = .ok (.bipush 32, 2) := by decide +kernel
theorem dX11_init_525 : decode cX11_init 525 = .ok (.newarray .int, 2) := by decide +kernel
theorem dX11_init_527 : decode cX11_init 527 = .ok (.putfield 119, 3) := by decide +kernel
theorem dX11_init_530 : decode cX11_init 530 = .ok (.aload_n 0, 1) := by decide +kernel
theorem dX11_init_531 : decode cX11_init 531 = .ok (.bipush 16, 2) := by decide +kernel
theorem dX11_init_533 : decode cX11_init 533 = .ok (.newarray .int, 2) := by decide +kernel
theorem dX11_init_535 : decode cX11_init 535 = .ok (.putfield 122, 3) := by decide +kernel
theorem dX11_init_538 : decode cX11_init 538 = .ok (.aload_n 0, 1) := by decide +kernel
theorem dX11_init_539 : decode cX11_init 539 = .ok (.bipush 16, 2) := by decide +kernel
theorem dX11_init_541 : decode cX11_init 541 = .ok (.newarray .int, 2) := by decide +kernel
theorem dX11_init_543 : decode cX11_init 543 = .ok (.putfield 125, 3) := by decide +kernel
theorem dX11_init_546 : decode cX11_init 546 = .ok (.aload_n 0, 1) := by decide +kernel
theorem dX11_init_547 : decode cX11_init 547 = .ok (.bipush 64, 2) := by decide +kernel
theorem dX11_init_549 : decode cX11_init 549 = .ok (.newarray .int, 2) := by decide +kernel
theorem dX11_init_551 : decode cX11_init 551 = .ok (.putfield 128, 3) := by decide +kernel
theorem dX11_init_554 : decode cX11_init 554 = .ok (.aload_n 0, 1) := by decide +kernel
theorem dX11_init_555 : decode cX11_init 555 = .ok (.bipush 17, 2) := by decide +kernel
theorem dX11_init_557 : decode cX11_init 557 = .ok (.newarray .int, 2) := by decide +kernel
theorem dX11_init_559 : decode cX11_init 559 = .ok (.putfield 131, 3) := by decide +kernel
theorem dX11_init_562 : decode cX11_init 562 = .ok (.aload_n 0, 1) := by decide +kernel
theorem dX11_init_563 : decode cX11_init 563 = .ok (.bipush 17, 2) := by decide +kernel
theorem dX11_init_565 : decode cX11_init 565 = .ok (.newarray .int, 2) := by decide +kernel
theorem dX11_init_567 : decode cX11_init 567 = .ok (.putfield 134, 3) := by decide +kernel
theorem dX11_init_570 : decode cX11_init 570 = .ok (.aload_n 0, 1) := by decide +kernel
theorem dX11_init_571 : decode cX11_init 571 = .ok (.bipush 17, 2) := by decide +kernel
theorem dX11_init_573 : decode cX11_init 573 = .ok (.newarray .int, 2) := by decide +kernel
theorem dX11_init_575 : decode cX11_init 575 = .ok (.putfield 137, 3) := by decide +kernel
theorem dX11_init_578 : decode cX11_init 578 = .ok (.aload_n 0, 1) := by decide +kernel
theorem dX11_init_579 : decode cX11_init 579 = .ok (.bipush 17, 2) := by decide +kernel
theorem dX11_init_581 : decode cX11_init 581 = .ok (.newarray .int, 2) := by decide +kernel
theorem dX11_init_583 : decode cX11_init 583 = .ok (.putfield 140, 3) := by decide +kernel
theorem dX11_init_586 : decode cX11_init 586 = .ok (.aload_n 0, 1) := by decide +kernel
theorem dX11_init_587 : decode cX11_init 587 = .ok (.bipush 32, 2) := by decide +kernel
theorem dX11_init_589 : decode cX11_init 589 = .ok (.newarray .int, 2) := by decide +kernel
theorem dX11_init_591 : decode cX11_init 591 = .ok (.putfield 143, 3) := by decide +kernel
theorem dX11_init_594 : decode cX11_init 594 = .ok (.aload_n 0, 1) := by decide +kernel
theorem dX11_init_595 : decode cX11_init 595 = .ok (.sipush 200, 3) := by decide +kernel
theorem dX11_init_598 : decode cX11_init 598 = .ok (.newarray .int, 2) := by decide +kernel
theorem dX11_init_600 : decode cX11_init 600 = .ok (.putfield 146, 3) := by decide +kernel
theorem dX11_init_603 : decode cX11_init 603 = .ok (.aload_n 0, 1) := by decide +kernel
theorem dX11_init_604 : decode cX11_init 604 = .ok (.bipush 16, 2) := by decide +kernel
theorem dX11_init_606 : decode cX11_init 606 = .ok (.newarray .int, 2) := by decide +kernel
theorem dX11_init_608 : decode cX11_init 608 = .ok (.putfield 149, 3) := by decide +kernel
theorem dX11_init_611 : decode cX11_init 611 = .ok (.aload_n 0, 1) := by decide +kernel
theorem dX11_init_612 : decode cX11_init 612 = .ok (.bipush 16, 2) := by decide +kernel
theorem dX11_init_614 : decode cX11_init 614 = .ok (.newarray .boolean, 2) := by decide +kernel
theorem dX11_init_616 : decode cX11_init 616 = .ok (.putfield 152, 3) := by decide +kernel
theorem dX11_init_619 : decode cX11_init 619 = .ok (.aload_n 0, 1) := by decide +kernel
theorem dX11_init_620 : decode cX11_init 620 = .ok (.bipush 8, 2) := by decide +kernel
theorem dX11_init_622 : decode cX11_init 622 = .ok (.newarray .int, 2) := by decide +kernel
theorem dX11_init_624 : decode cX11_init 624 = .ok (.putfield 156, 3) := by decide +kernel
theorem dX11_init_627 : decode cX11_init 627 = .ok (.aload_n 0, 1) := by decide +kernel
theorem dX11_init_628 : decode cX11_init 628 = .ok (.bipush 48, 2) := by decide +kernel
theorem dX11_init_630 : decode cX11_init 630 = .ok (.newarray .int, 2) := by decide +kernel
theorem dX11_init_632 : decode cX11_init 632 = .ok (.putfield 159, 3) := by decide +kernel
theorem dX11_init_635 : decode cX11_init 635 = .ok (.aload_n 0, 1) := by decide +kernel
theorem dX11_init_636 : decode cX11_init 636 = .ok (.sipush 240, 3) := by decide +kernel
theorem dX11_init_639 : decode cX11_init 639 = .ok (.newarray .int, 2) := by decide +kernel
theorem dX11_init_641 : decode cX11_init 641 = .ok (.putfield 162, 3) := by decide +kernel
theorem dX11_init_644 : decode cX11_init 644 = .ok (.aload_n 0, 1) := by decide +kernel
theorem dX11_init_645 : decode cX11_init 645 = .ok (.iconst 2, 1) := by decide +kernel
theorem dX11_init_646 : decode cX11_init 646 = .ok (.newarray .boolean, 2) := by decide +kernel
theorem dX11_init_648 : decode cX11_init 648 = .ok (.putfield 165, 3) := by decide +kernel
theorem dX11_init_651 : decode cX11_init 651 = .ok (.aload_n 0, 1) := by decide +kernel
theorem dX11_init_652 : decode cX11_init 652 = .ok (.iconst 2, 1) := by decide +kernel
theorem dX11_init_653 : decode cX11_init 653 = .ok (.newarray .boolean, 2) := by decide +kernel
theorem dX11_init_655 : decode cX11_init 655 = .ok (.putfield 168, 3) := by decide +kernel
theorem dX11_init_658 : decode cX11_init 658 = .ok (.aload_n 0, 1) := by decide +kernel
theorem dX11_init_659 : decode cX11_init 659 = .ok (.bipush 6, 2) := by decide +kernel
theorem dX11_init_661 : decode cX11_init 661 = .ok (.newarray .boolean, 2) := by decide +kernel
theorem dX11_init_663 : decode cX11_init 663 = .ok (.putfield 171, 3) := by decide +kernel
theorem dX11_init_666 : decode cX11_init 666 = .ok (.aload_n 0, 1) := by decide +kernel
theorem dX11_init_667 : decode cX11_init 667 = .ok (.bipush 6, 2) := by decide +kernel
theorem dX11_init_669 : decode cX11_init 669 = .ok (.newarray .boolean, 2) := by decide +kernel
theorem dX11_init_671 : decode cX11_init 671 = .ok (.putfield 174, 3) := by decide +kernel
theorem dX11_init_674 : decode cX11_init 674 = .ok (.aload_n 0, 1) := by decide +kernel
theorem dX11_init_675 : decode cX11_init 675 = .ok (.iconst 5, 1) := by decide +kernel
theorem dX11_init_676 : decode cX11_init 676 = .ok (.newarray .int, 2) := by decide +kernel
theorem dX11_init_678 : decode cX11_init 678 = .ok (.putfield 177, 3) := by decide +kernel
theorem dX11_init_681 : decode cX11_init 681 = .ok (.aload_n 0, 1) := by decide +kernel
theorem dX11_init_682 : decode cX11_init 682 = .ok (.iconst 5, 1) := by decide +kernel
theorem dX11_init_683 : decode cX11_init 683 = .ok (.newarray .int, 2) := by decide +kernel
theorem dX11_init_685 : decode cX11_init 685 = .ok (.putfield 180, 3) := by decide +kernel
theorem dX11_init_688 : decode cX11_init 688 = .ok (.aload_n 0, 1) := by decide +kernel
theorem dX11_init_689 : decode cX11_init 689 = .ok (.iconst 5, 1) := by decide +kernel
theorem dX11_init_690 : decode cX11_init 690 = .ok (.newarray .boolean, 2) := by decide +kernel
theorem dX11_init_692 : decode cX11_init 692 = .ok (.putfield 183, 3) := by decide +kernel
theorem dX11_init_695 : decode cX11_init 695 = .ok (.aload_n 0, 1) := by decide +kernel
theorem dX11_init_696 : decode cX11_init 696 = .ok (.iconst 5, 1) := by decide +kernel
theorem dX11_init_697 : decode cX11_init 697 = .ok (.newarray .int, 2) := by decide +kernel
theorem dX11_init_699 : decode cX11_init 699 = .ok (.putfield 186, 3) := by decide +kernel
theorem dX11_init_702 : decode cX11_init 702 = .ok (.aload_n 0, 1) := by decide +kernel
theorem dX11_init_703 : decode cX11_init 703 = .ok (.iconst 5, 1) := by decide +kernel
theorem dX11_init_704 : decode cX11_init 704 = .ok (.newarray .int, 2) := by decide +kernel
theorem dX11_init_706 : decode cX11_init 706 = .ok (.putfield 189, 3) := by decide +kernel
theorem dX11_init_709 : decode cX11_init 709 = .ok (.aload_n 0, 1) := by decide +kernel
theorem dX11_init_710 : decode cX11_init 710 = .ok (.iconst 5, 1) := by decide +kernel
theorem dX11_init_711 : decode cX11_init 711 = .ok (.newarray .int, 2) := by decide +kernel
theorem dX11_init_713 : decode cX11_init 713 = .ok (.putfield 192, 3) := by decide +kernel
theorem dX11_init_716 : decode cX11_init 716 = .ok (.aload_n 0, 1) := by decide +kernel
theorem dX11_init_717 : decode cX11_init 717 = .ok (.iconst 5, 1) := by decide +kernel
theorem dX11_init_718 : decode cX11_init 718 = .ok (.newarray .int, 2) := by decide +kernel
theorem dX11_init_720 : decode cX11_init 720 = .ok (.putfield 195, 3) := by decide +kernel
theorem dX11_init_723 : decode cX11_init 723 = .ok (.aload_n 0, 1) := by decide +kernel
theorem dX11_init_724 : decode cX11_init 724 = .ok (.iconst 5, 1) := by decide +kernel
theorem dX11_init_725 : decode cX11_init 725 = .ok (.newarray .boolean, 2) := by decide +kernel
theorem dX11_init_727 : decode cX11_init 727 = .ok (.putfield 198, 3) := by decide +kernel
theorem dX11_init_730 : decode cX11_init 730 = .ok (.aload_n 0, 1) := by decide +kernel
theorem dX11_init_731 : decode cX11_init 731 = .ok (.iconst 5, 1) := by decide +kernel
theorem dX11_init_732 : decode cX11_init 732 = .ok (.newarray .boolean, 2) := by decide +kernel
theorem dX11_init_734 : decode cX11_init 734 = .ok (.putfield 201, 3) := by decide +kernel
theorem dX11_init_737 : decode cX11_init 737 = .ok (.aload_n 0, 1) := by decide +kernel
theorem dX11_init_738 : decode cX11_init 738 = .ok (.iconst 5, 1) := by decide +kernel
theorem dX11_init_739 : decode cX11_init 739 = .ok (.newarray .int, 2) := by decide +kernel
theorem dX11_init_741 : decode cX11_init 741 = .ok (.putfield 204, 3) := by decide +kernel
theorem dX11_init_744 : decode cX11_init 744 = .ok (.aload_n 0, 1) := by decide +kernel
theorem dX11_init_745 : decode cX11_init 745 = .ok (.iconst 5, 1) := by decide +kernel
theorem dX11_init_746 : decode cX11_init 746 = .ok (.newarray .int, 2) := by decide +kernel
theorem dX11_init_748 : decode cX11_init 748 = .ok (.putfield 207, 3) := by decide +kernel
theorem dX11_init_751 : decode cX11_init 751 = .ok (.aload_n 0, 1) := by decide +kernel
theorem dX11_init_752 : decode cX11_init 752 = .ok (.iconst 5, 1) := by decide +kernel
theorem dX11_init_753 : decode cX11_init 753 = .ok (.newarray .boolean, 2) := by decide +kernel
theorem dX11_init_755 : decode cX11_init 755 = .ok (.putfield 210, 3) := by decide +kernel
theorem dX11_init_758 : decode cX11_init 758 = .ok (.aload_n 0, 1) := by decide +kernel
theorem dX11_init_759 : decode cX11_init 759 = .ok (.iconst 5, 1) := by decide +kernel
theorem dX11_init_760 : decode cX11_init 760 = .ok (.newarray .boolean, 2) := by decide +kernel
theorem dX11_init_762 : decode cX11_init 762 = .ok (.putfield 213, 3) := by decide +kernel
theorem dX11_init_765 : decode cX11_init 765 = .ok (.aload_n 0, 1) := by decide +kernel
theorem dX11_init_766 : decode cX11_init 766 = .ok (.sipush 160, 3) := by decide +kernel
theorem dX11_init_769 : decode cX11_init 769 = .ok (.newarray .int, 2) := by decide +kernel
theorem dX11_init_771 : decode cX11_init 771 = .ok (.putfield 216, 3) := by decide +kernel
theorem dX11_init_774 : decode cX11_init 774 = .ok (.aload_n 0, 1) := by decide +kernel
theorem dX11_init_775 : decode cX11_init 775 = .ok (.sipush 160, 3) := by decide +kernel
theorem dX11_init_778 : decode cX11_init 778 = .ok (.newarray .int, 2) := by decide +kernel
theorem dX11_init_780 : decode cX11_init 780 = .ok (.putfield 219, 3) := by decide +kernel
theorem dX11_init_783 : decode cX11_init 783 = .ok (.aload_n 0, 1) := by decide +kernel
theorem dX11_init_784 : decode cX11_init 784 = .ok (.sipush 160, 3) := by decide +kernel
theorem dX11_init_787 : decode cX11_init 787 = .ok (.newarray .int, 2) := by decide +kernel
theorem dX11_init_789 : decode cX11_init 789 = .ok (.putfield 222, 3) := by decide +kernel
theorem dX11_init_792 : decode cX11_init 792 = .ok (.aload_n 0, 1) := by decide +kernel
theorem dX11_init_793 : decode cX11_init 793 = .ok (.sipush 160, 3) := by decide +kernel
theorem dX11_init_796 : decode cX11_init 796 = .ok (.newarray .int, 2) := by decide +kernel
theorem dX11_init_798 : decode cX11_init 798 = .ok (.putfield 225, 3) := by decide +kernel
theorem dX11_init_801 : decode cX11_init 801 = .ok (.aload_n 0, 1) := by decide +kernel
theorem dX11_init_802 : decode cX11_init 802 = .ok (.sipush 160, 3) := by decide +kernel
theorem dX11_init_805 : decode cX11_init 805 = .ok (.newarray .int, 2) := by decide +kernel
theorem dX11_init_807 : decode cX11_init 807 = .ok (.putfield 228, 3) := by decide +kernel
theorem dX11_init_810 : decode cX11_init 810 = .ok (.aload_n 0, 1) := by decide +kernel
theorem dX11_init_811 : decode cX11_init 811 = .ok (.sipush 160, 3) := by decide +kernel
theorem dX11_init_814 : decode cX11_init 814 = .ok (.newarray .int, 2) := by decide +kernel
theorem dX11_init_816 : decode cX11_init 816 = .ok (.putfield 231, 3) := by decide +kernel
theorem dX11_init_819 : decode cX11_init 819 = .ok (.aload_n 0, 1) := by decide +kernel
theorem dX11_init_820 : decode cX11_init 820 = .ok (.sipush 160, 3) := by decide +kernel
theorem dX11_init_823 : decode cX11_init 823 = .ok (.newarray .int, 2) := by decide +kernel
theorem dX11_init_825 : decode cX11_init 825 = .ok (.putfield 234, 3) := by decide +kernel
theorem dX11_init_828 : decode cX11_init 828 = .ok (.aload_n 0, 1) := by decide +kernel
theorem dX11_init_829 : decode cX11_init 829 = .ok (.sipush 160, 3) := by decide +kernel
theorem dX11_init_832 : decode cX11_init 832 = .ok (.newarray .int, 2) := by decide +kernel
theorem dX11_init_834 : decode cX11_init 834 = .ok (.putfield 237, 3) := by decide +kernel
theorem dX11_init_837 : decode cX11_init 837 = .ok (.aload_n 0, 1) := by decide +kernel
theorem dX11_init_838 : decode cX11_init 838 = .ok (.bipush 64, 2) := by decide +kernel
theorem dX11_init_840 : decode cX11_init 840 = .ok (.newarray .int, 2) := by decide +kernel
theorem dX11_init_842 : decode cX11_init 842 = .ok (.putfield 240, 3) := by decide +kernel
theorem dX11_init_845 : decode cX11_init 845 = .ok (.aload_n 0, 1) := by decide +kernel
theorem dX11_init_846 : decode cX11_init 846 = .ok (.sipush 400, 3) := by decide +kernel
theorem dX11_init_849 : decode cX11_init 849 = .ok (.newarray .int, 2) := by decide +kernel
theorem dX11_init_851 : decode cX11_init 851 = .ok (.putfield 243, 3) := by decide +kernel
theorem dX11_init_854 : decode cX11_init 854 = .ok (.aload_n 0, 1) := by decide +kernel
theorem dX11_init_855 : decode cX11_init 855 = .ok (.sipush 400, 3) := by decide +kernel
theorem dX11_init_858 : decode cX11_init 858 = .ok (.newarray .int, 2) := by decide +kernel
theorem dX11_init_860 : decode cX11_init 860 = .ok (.putfield 246, 3) := by decide +kernel
theorem dX11_init_863 : decode cX11_init 863 = .ok (.aload_n 0, 1) := by decide +kernel
theorem dX11_init_864 : decode cX11_init 864 = .ok (.sipush 400, 3) := by decide +kernel
theorem dX11_init_867 : decode cX11_init 867 = .ok (.newarray .int, 2) := by decide +kernel
theorem dX11_init_869 : decode cX11_init 869 = .ok (.putfield 249, 3) := by decide +kernel
theorem dX11_init_872 : decode cX11_init 872 = .ok (.aload_n 0, 1) := by decide +kernel
theorem dX11_init_873 : decode cX11_init 873 = .ok (.bipush 32, 2) := by decide +kernel
theorem dX11_init_875 : decode cX11_init 875 = .ok (.newarray .int, 2) := by decide +kernel
theorem dX11_init_877 : decode cX11_init 877 = .ok (.putfield 252, 3) := by decide +kernel
theorem dX11_init_880 : decode cX11_init 880 = .ok (.return_, 1) := by decide +kernel
theorem dX11_in_0 : decode cX11_in 0 = .ok (.iload_n 0, 1) := by decide +kernel
theorem dX11_in_1 : decode cX11_in 1 = .ok (.iload_n 1, 1) := by decide +kernel
theorem dX11_in_2 : decode cX11_in 2 = .ok (.if_icmp .lt 12, 3) := by decide +kernel
theorem dX11_in_5 : decode cX11_in 5 = .ok (.iload_n 0, 1) := by decide +kernel
theorem dX11_in_6 : decode cX11_in 6 = .ok (.iload_n 2, 1) := by decide +kernel
theorem dX11_in_7 : decode cX11_in 7 = .ok (.if_icmp .gt 7, 3) := by decide +kernel
theorem dX11_in_10 : decode cX11_in 10 = .ok (.iconst 1, 1) := by decide +kernel
theorem dX11_in_11 : decode cX11_in 11 = .ok (.goto 4, 3) := by decide +kernel
theorem dX11_in_14 : decode cX11_in 14 = .ok (.iconst 0, 1) := by decide +kernel
theorem dX11_in_15 : decode cX11_in 15 = .ok (.ireturn, 1) := by decide +kernel
theorem dX11_copy_0 : decode cX11_copy 0 = .ok (.iconst 0, 1) := by decide +kernel
theorem dX11_copy_1 : decode cX11_copy 1 = .ok (.istore 5, 2) := by decide +kernel
theorem dX11_copy_3 : decode cX11_copy 3 = .ok (.iload 5, 2) := by decide +kernel
theorem dX11_copy_5 : decode cX11_copy 5 = .ok (.iload 4, 2) := by decide +kernel
theorem dX11_copy_7 : decode cX11_copy 7 = .ok (.if_icmp .ge 21, 3) := by decide +kernel
theorem dX11_copy_10 : decode cX11_copy 10 = .ok (.aload_n 2, 1) := by decide +kernel
theorem dX11_copy_11 : decode cX11_copy 11 = .ok (.iload_n 3, 1) := by decide +kernel
theorem dX11_copy_12 : decode cX11_copy 12 = .ok (.iload 5, 2) := by decide +kernel
theorem dX11_copy_14 : decode cX11_copy 14 = .ok (.iadd, 1) := by decide +kernel
theorem dX11_copy_15 : decode cX11_copy 15 = .ok (.aload_n 0, 1) := by decide +kernel
theorem dX11_copy_16 : decode cX11_copy 16 = .ok (.iload_n 1, 1) := by decide +kernel
theorem dX11_copy_17 : decode cX11_copy 17 = .ok (.iload 5, 2) := by decide +kernel
theorem dX11_copy_19 : decode cX11_copy 19 = .ok (.iadd, 1) := by decide +kernel
theorem dX11_copy_20 : decode cX11_copy 20 = .ok (.iaload, 1) := by decide +kernel
theorem dX11_copy_21 : decode cX11_copy 21 = .ok (.iastore, 1) := by decide +kernel
theorem dX11_copy_22 : decode cX11_copy 22 = .ok (.iinc 5 1, 3) := by decide +kernel
theorem dX11_copy_25 : decode cX11_copy 25 = .ok (.goto (-22), 3) := by decide +kernel
theorem dX11_copy_28 : decode cX11_copy 28 = .ok (.return_, 1) := by decide +kernel
theorem dX11_padded_0 : decode cX11_padded 0 = .ok (.iload_n 1, 1) := by decide +kernel
theorem dX11_padded_1 : decode cX11_padded 1 = .ok (.aload_n 0, 1) := by decide +kernel
theorem dX11_padded_2 : decode cX11_padded 2 = .ok (.getfield 255, 3) := by decide +kernel
theorem dX11_padded_5 : decode cX11_padded 5 = .ok (.if_icmp .ge 10, 3) := by decide +kernel
theorem dX11_padded_8 : decode cX11_padded 8 = .ok (.aload_n 0, 1) := by decide +kernel
theorem dX11_padded_9 : decode cX11_padded 9 = .ok (.getfield 7, 3) := by decide +kernel
theorem dX11_padded_12 : decode cX11_padded 12 = .ok (.iload_n 1, 1) := by decide +kernel
theorem dX11_padded_13 : decode cX11_padded 13 = .ok (.iaload, 1) := by decide +kernel
theorem dX11_padded_14 : decode cX11_padded 14 = .ok (.ireturn, 1) := by decide +kernel
theorem dX11_padded_15 : decode cX11_padded 15 = .ok (.iload_n 1, 1) := by decide +kernel
theorem dX11_padded_16 : decode cX11_padded 16 = .ok (.aload_n 0, 1) := by decide +kernel
theorem dX11_padded_17 : decode cX11_padded 17 = .ok (.getfield 255, 3) := by decide +kernel
theorem dX11_padded_20 : decode cX11_padded 20 = .ok (.if_icmp .ne 7, 3) := by decide +kernel
theorem dX11_padded_23 : decode cX11_padded 23 = .ok (.sipush 128, 3) := by decide +kernel
theorem dX11_padded_26 : decode cX11_padded 26 = .ok (.ireturn, 1) := by decide +kernel
theorem dX11_padded_27 : decode cX11_padded 27 = .ok (.iload_n 1, 1) := by decide +kernel
theorem dX11_padded_28 : decode cX11_padded 28 = .ok (.iload_n 2, 1) := by decide +kernel
theorem dX11_padded_29 : decode cX11_padded 29 = .ok (.iconst 4, 1) := by decide +kernel
theorem dX11_padded_30 : decode cX11_padded 30 = .ok (.isub, 1) := by decide +kernel
theorem dX11_padded_31 : decode cX11_padded 31 = .ok (.if_icmp .ge 7, 3) := by decide +kernel
theorem dX11_padded_34 : decode cX11_padded 34 = .ok (.iconst 0, 1) := by decide +kernel
theorem dX11_padded_35 : decode cX11_padded 35 = .ok (.goto 23, 3) := by decide +kernel
theorem dX11_padded_38 : decode cX11_padded 38 = .ok (.bipush 8, 2) := by decide +kernel
theorem dX11_padded_40 : decode cX11_padded 40 = .ok (.aload_n 0, 1) := by decide +kernel
theorem dX11_padded_41 : decode cX11_padded 41 = .ok (.getfield 255, 3) := by decide +kernel
theorem dX11_padded_44 : decode cX11_padded 44 = .ok (.imul, 1) := by decide +kernel
theorem dX11_padded_45 : decode cX11_padded 45 = .ok (.bipush 8, 2) := by decide +kernel
theorem dX11_padded_47 : decode cX11_padded 47 = .ok (.iload_n 2, 1) := by decide +kernel
theorem dX11_padded_48 : decode cX11_padded 48 = .ok (.iconst 1, 1) := by decide +kernel
theorem dX11_padded_49 : decode cX11_padded 49 = .ok (.isub, 1) := by decide +kernel
theorem dX11_padded_50 : decode cX11_padded 50 = .ok (.iload_n 1, 1) := by decide +kernel
theorem dX11_padded_51 : decode cX11_padded 51 = .ok (.isub, 1) := by decide +kernel
theorem dX11_padded_52 : decode cX11_padded 52 = .ok (.imul, 1) := by decide +kernel
theorem dX11_padded_53 : decode cX11_padded 53 = .ok (.iushr, 1) := by decide +kernel
theorem dX11_padded_54 : decode cX11_padded 54 = .ok (.sipush 255, 3) := by decide +kernel
theorem dX11_padded_57 : decode cX11_padded 57 = .ok (.iand, 1) := by decide +kernel
theorem dX11_padded_58 : decode cX11_padded 58 = .ok (.ireturn, 1) := by decide +kernel
theorem dX11_turned_0 : decode cX11_turned 0 = .ok (.iload_n 0, 1) := by decide +kernel
theorem dX11_turned_1 : decode cX11_turned 1 = .ok (.iload_n 1, 1) := by decide +kernel
theorem dX11_turned_2 : decode cX11_turned 2 = .ok (.iushr, 1) := by decide +kernel
theorem dX11_turned_3 : decode cX11_turned 3 = .ok (.iload_n 0, 1) := by decide +kernel
theorem dX11_turned_4 : decode cX11_turned 4 = .ok (.bipush 32, 2) := by decide +kernel
theorem dX11_turned_6 : decode cX11_turned 6 = .ok (.iload_n 1, 1) := by decide +kernel
theorem dX11_turned_7 : decode cX11_turned 7 = .ok (.isub, 1) := by decide +kernel
theorem dX11_turned_8 : decode cX11_turned 8 = .ok (.ishl, 1) := by decide +kernel
theorem dX11_turned_9 : decode cX11_turned 9 = .ok (.ior, 1) := by decide +kernel
theorem dX11_turned_10 : decode cX11_turned 10 = .ok (.ireturn, 1) := by decide +kernel
theorem dX11_block_0 : decode cX11_block 0 = .ok (.iconst 0, 1) := by decide +kernel
theorem dX11_block_1 : decode cX11_block 1 = .ok (.istore_n 3, 1) := by decide +kernel
theorem dX11_block_2 : decode cX11_block 2 = .ok (.iload_n 3, 1) := by decide +kernel
theorem dX11_block_3 : decode cX11_block 3 = .ok (.bipush 16, 2) := by decide +kernel
theorem dX11_block_5 : decode cX11_block 5 = .ok (.if_icmp .ge 68, 3) := by decide +kernel
theorem dX11_block_8 : decode cX11_block 8 = .ok (.iload_n 1, 1) := by decide +kernel
theorem dX11_block_9 : decode cX11_block 9 = .ok (.iconst 4, 1) := by decide +kernel
theorem dX11_block_10 : decode cX11_block 10 = .ok (.iload_n 3, 1) := by decide +kernel
theorem dX11_block_11 : decode cX11_block 11 = .ok (.imul, 1) := by decide +kernel
theorem dX11_block_12 : decode cX11_block 12 = .ok (.iadd, 1) := by decide +kernel
theorem dX11_block_13 : decode cX11_block 13 = .ok (.istore 4, 2) := by decide +kernel
theorem dX11_block_15 : decode cX11_block 15 = .ok (.aload_n 0, 1) := by decide +kernel
theorem dX11_block_16 : decode cX11_block 16 = .ok (.getfield 16, 3) := by decide +kernel
theorem dX11_block_19 : decode cX11_block 19 = .ok (.iload_n 3, 1) := by decide +kernel
theorem dX11_block_20 : decode cX11_block 20 = .ok (.aload_n 0, 1) := by decide +kernel
theorem dX11_block_21 : decode cX11_block 21 = .ok (.iload 4, 2) := by decide +kernel
theorem dX11_block_23 : decode cX11_block 23 = .ok (.iload_n 2, 1) := by decide +kernel
theorem dX11_block_24 : decode cX11_block 24 = .ok (.invokevirtual 259, 3) := by decide +kernel
theorem dX11_block_27 : decode cX11_block 27 = .ok (.bipush 24, 2) := by decide +kernel
theorem dX11_block_29 : decode cX11_block 29 = .ok (.ishl, 1) := by decide +kernel
theorem dX11_block_30 : decode cX11_block 30 = .ok (.aload_n 0, 1) := by decide +kernel
theorem dX11_block_31 : decode cX11_block 31 = .ok (.iload 4, 2) := by decide +kernel
theorem dX11_block_33 : decode cX11_block 33 = .ok (.iconst 1, 1) := by decide +kernel
theorem dX11_block_34 : decode cX11_block 34 = .ok (.iadd, 1) := by decide +kernel
theorem dX11_block_35 : decode cX11_block 35 = .ok (.iload_n 2, 1) := by decide +kernel
theorem dX11_block_36 : decode cX11_block 36 = .ok (.invokevirtual 259, 3) := by decide +kernel
theorem dX11_block_39 : decode cX11_block 39 = .ok (.bipush 16, 2) := by decide +kernel
theorem dX11_block_41 : decode cX11_block 41 = .ok (.ishl, 1) := by decide +kernel
theorem dX11_block_42 : decode cX11_block 42 = .ok (.ior, 1) := by decide +kernel
theorem dX11_block_43 : decode cX11_block 43 = .ok (.aload_n 0, 1) := by decide +kernel
theorem dX11_block_44 : decode cX11_block 44 = .ok (.iload 4, 2) := by decide +kernel
theorem dX11_block_46 : decode cX11_block 46 = .ok (.iconst 2, 1) := by decide +kernel
theorem dX11_block_47 : decode cX11_block 47 = .ok (.iadd, 1) := by decide +kernel
theorem dX11_block_48 : decode cX11_block 48 = .ok (.iload_n 2, 1) := by decide +kernel
theorem dX11_block_49 : decode cX11_block 49 = .ok (.invokevirtual 259, 3) := by decide +kernel
theorem dX11_block_52 : decode cX11_block 52 = .ok (.bipush 8, 2) := by decide +kernel
theorem dX11_block_54 : decode cX11_block 54 = .ok (.ishl, 1) := by decide +kernel
theorem dX11_block_55 : decode cX11_block 55 = .ok (.ior, 1) := by decide +kernel
theorem dX11_block_56 : decode cX11_block 56 = .ok (.aload_n 0, 1) := by decide +kernel
theorem dX11_block_57 : decode cX11_block 57 = .ok (.iload 4, 2) := by decide +kernel
theorem dX11_block_59 : decode cX11_block 59 = .ok (.iconst 3, 1) := by decide +kernel
theorem dX11_block_60 : decode cX11_block 60 = .ok (.iadd, 1) := by decide +kernel
theorem dX11_block_61 : decode cX11_block 61 = .ok (.iload_n 2, 1) := by decide +kernel
theorem dX11_block_62 : decode cX11_block 62 = .ok (.invokevirtual 259, 3) := by decide +kernel
theorem dX11_block_65 : decode cX11_block 65 = .ok (.ior, 1) := by decide +kernel
theorem dX11_block_66 : decode cX11_block 66 = .ok (.iastore, 1) := by decide +kernel
theorem dX11_block_67 : decode cX11_block 67 = .ok (.iinc 3 1, 3) := by decide +kernel
theorem dX11_block_70 : decode cX11_block 70 = .ok (.goto (-68), 3) := by decide +kernel
theorem dX11_block_73 : decode cX11_block 73 = .ok (.bipush 16, 2) := by decide +kernel
theorem dX11_block_75 : decode cX11_block 75 = .ok (.istore_n 3, 1) := by decide +kernel
theorem dX11_block_76 : decode cX11_block 76 = .ok (.iload_n 3, 1) := by decide +kernel
theorem dX11_block_77 : decode cX11_block 77 = .ok (.bipush 64, 2) := by decide +kernel
theorem dX11_block_79 : decode cX11_block 79 = .ok (.if_icmp .ge 98, 3) := by decide +kernel
theorem dX11_block_82 : decode cX11_block 82 = .ok (.aload_n 0, 1) := by decide +kernel
theorem dX11_block_83 : decode cX11_block 83 = .ok (.getfield 16, 3) := by decide +kernel
theorem dX11_block_86 : decode cX11_block 86 = .ok (.iload_n 3, 1) := by decide +kernel
theorem dX11_block_87 : decode cX11_block 87 = .ok (.bipush 15, 2) := by decide +kernel
theorem dX11_block_89 : decode cX11_block 89 = .ok (.isub, 1) := by decide +kernel
theorem dX11_block_90 : decode cX11_block 90 = .ok (.iaload, 1) := by decide +kernel
theorem dX11_block_91 : decode cX11_block 91 = .ok (.istore 4, 2) := by decide +kernel
theorem dX11_block_93 : decode cX11_block 93 = .ok (.aload_n 0, 1) := by decide +kernel
theorem dX11_block_94 : decode cX11_block 94 = .ok (.getfield 16, 3) := by decide +kernel
theorem dX11_block_97 : decode cX11_block 97 = .ok (.iload_n 3, 1) := by decide +kernel
theorem dX11_block_98 : decode cX11_block 98 = .ok (.iconst 2, 1) := by decide +kernel
theorem dX11_block_99 : decode cX11_block 99 = .ok (.isub, 1) := by decide +kernel
theorem dX11_block_100 : decode cX11_block 100 = .ok (.iaload, 1) := by decide +kernel
theorem dX11_block_101 : decode cX11_block 101 = .ok (.istore 5, 2) := by decide +kernel
theorem dX11_block_103 : decode cX11_block 103 = .ok (.aload_n 0, 1) := by decide +kernel
theorem dX11_block_104 : decode cX11_block 104 = .ok (.getfield 16, 3) := by decide +kernel
theorem dX11_block_107 : decode cX11_block 107 = .ok (.iload_n 3, 1) := by decide +kernel
theorem dX11_block_108 : decode cX11_block 108 = .ok (.aload_n 0, 1) := by decide +kernel
theorem dX11_block_109 : decode cX11_block 109 = .ok (.getfield 16, 3) := by decide +kernel
theorem dX11_block_112 : decode cX11_block 112 = .ok (.iload_n 3, 1) := by decide +kernel
theorem dX11_block_113 : decode cX11_block 113 = .ok (.bipush 16, 2) := by decide +kernel
theorem dX11_block_115 : decode cX11_block 115 = .ok (.isub, 1) := by decide +kernel
theorem dX11_block_116 : decode cX11_block 116 = .ok (.iaload, 1) := by decide +kernel
theorem dX11_block_117 : decode cX11_block 117 = .ok (.iload 4, 2) := by decide +kernel
theorem dX11_block_119 : decode cX11_block 119 = .ok (.bipush 7, 2) := by decide +kernel
theorem dX11_block_121 : decode cX11_block 121 = .ok (.invokestatic 263, 3) := by decide +kernel
theorem dX11_block_124 : decode cX11_block 124 = .ok (.iload 4, 2) := by decide +kernel
theorem dX11_block_126 : decode cX11_block 126 = .ok (.bipush 18, 2) := by decide +kernel
theorem dX11_block_128 : decode cX11_block 128 = .ok (.invokestatic 263, 3) := by decide +kernel
theorem dX11_block_131 : decode cX11_block 131 = .ok (.ixor, 1) := by decide +kernel
theorem dX11_block_132 : decode cX11_block 132 = .ok (.iload 4, 2) := by decide +kernel
theorem dX11_block_134 : decode cX11_block 134 = .ok (.iconst 3, 1) := by decide +kernel
theorem dX11_block_135 : decode cX11_block 135 = .ok (.iushr, 1) := by decide +kernel
theorem dX11_block_136 : decode cX11_block 136 = .ok (.ixor, 1) := by decide +kernel
theorem dX11_block_137 : decode cX11_block 137 = .ok (.iadd, 1) := by decide +kernel
theorem dX11_block_138 : decode cX11_block 138 = .ok (.aload_n 0, 1) := by decide +kernel
theorem dX11_block_139 : decode cX11_block 139 = .ok (.getfield 16, 3) := by decide +kernel
theorem dX11_block_142 : decode cX11_block 142 = .ok (.iload_n 3, 1) := by decide +kernel
theorem dX11_block_143 : decode cX11_block 143 = .ok (.bipush 7, 2) := by decide +kernel
theorem dX11_block_145 : decode cX11_block 145 = .ok (.isub, 1) := by decide +kernel
theorem dX11_block_146 : decode cX11_block 146 = .ok (.iaload, 1) := by decide +kernel
theorem dX11_block_147 : decode cX11_block 147 = .ok (.iadd, 1) := by decide +kernel
theorem dX11_block_148 : decode cX11_block 148 = .ok (.iload 5, 2) := by decide +kernel
theorem dX11_block_150 : decode cX11_block 150 = .ok (.bipush 17, 2) := by decide +kernel
theorem dX11_block_152 : decode cX11_block 152 = .ok (.invokestatic 263, 3) := by decide +kernel
theorem dX11_block_155 : decode cX11_block 155 = .ok (.iload 5, 2) := by decide +kernel
theorem dX11_block_157 : decode cX11_block 157 = .ok (.bipush 19, 2) := by decide +kernel
theorem dX11_block_159 : decode cX11_block 159 = .ok (.invokestatic 263, 3) := by decide +kernel
theorem dX11_block_162 : decode cX11_block 162 = .ok (.ixor, 1) := by decide +kernel
theorem dX11_block_163 : decode cX11_block 163 = .ok (.iload 5, 2) := by decide +kernel
theorem dX11_block_165 : decode cX11_block 165 = .ok (.bipush 10, 2) := by decide +kernel
theorem dX11_block_167 : decode cX11_block 167 = .ok (.iushr, 1) := by decide +kernel
theorem dX11_block_168 : decode cX11_block 168 = .ok (.ixor, 1) := by decide +kernel
theorem dX11_block_169 : decode cX11_block 169 = .ok (.iadd, 1) := by decide +kernel
theorem dX11_block_170 : decode cX11_block 170 = .ok (.iastore, 1) := by decide +kernel
theorem dX11_block_171 : decode cX11_block 171 = .ok (.iinc 3 1, 3) := by decide +kernel
theorem dX11_block_174 : decode cX11_block 174 = .ok (.goto (-98), 3) := by decide +kernel
theorem dX11_block_177 : decode cX11_block 177 = .ok (.aload_n 0, 1) := by decide +kernel
theorem dX11_block_178 : decode cX11_block 178 = .ok (.getfield 13, 3) := by decide +kernel
theorem dX11_block_181 : decode cX11_block 181 = .ok (.iconst 0, 1) := by decide +kernel
theorem dX11_block_182 : decode cX11_block 182 = .ok (.iaload, 1) := by decide +kernel
theorem dX11_block_183 : decode cX11_block 183 = .ok (.istore_n 3, 1) := by decide +kernel
theorem dX11_block_184 : decode cX11_block 184 = .ok (.aload_n 0, 1) := by decide +kernel
theorem dX11_block_185 : decode cX11_block 185 = .ok (.getfield 13, 3) := by decide +kernel
theorem dX11_block_188 : decode cX11_block 188 = .ok (.iconst 1, 1) := by decide +kernel
theorem dX11_block_189 : decode cX11_block 189 = .ok (.iaload, 1) := by decide +kernel

theorem dX0_init_0 : decode cX0_init 0 = .ok (.aload_n 0, 1) := by decide +kernel
theorem dX0_init_1 : decode cX0_init 1 = .ok (.invokespecial 3, 3) := by decide +kernel
theorem dX0_init_4 : decode cX0_init 4 = .ok (.aload_n 0, 1) := by decide +kernel
theorem dX0_init_5 : decode cX0_init 5 = .ok (.bipush 16, 2) := by decide +kernel
theorem dX0_init_7 : decode cX0_init 7 = .ok (.newarray .int, 2) := by decide +kernel
theorem dX0_init_9 : decode cX0_init 9 = .ok (.putfield 9, 3) := by decide +kernel
theorem dX0_init_12 : decode cX0_init 12 = .ok (.aload_n 0, 1) := by decide +kernel
theorem dX0_init_13 : decode cX0_init 13 = .ok (.bipush 16, 2) := by decide +kernel
theorem dX0_init_15 : decode cX0_init 15 = .ok (.newarray .int, 2) := by decide +kernel
theorem dX0_init_17 : decode cX0_init 17 = .ok (.putfield 15, 3) := by decide +kernel
theorem dX0_init_20 : decode cX0_init 20 = .ok (.aload_n 0, 1) := by decide +kernel
theorem dX0_init_21 : decode cX0_init 21 = .ok (.bipush 16, 2) := by decide +kernel
theorem dX0_init_23 : decode cX0_init 23 = .ok (.newarray .int, 2) := by decide +kernel
theorem dX0_init_25 : decode cX0_init 25 = .ok (.putfield 18, 3) := by decide +kernel
theorem dX0_init_28 : decode cX0_init 28 = .ok (.aload_n 0, 1) := by decide +kernel
theorem dX0_init_29 : decode cX0_init 29 = .ok (.bipush 32, 2) := by decide +kernel
theorem dX0_init_31 : decode cX0_init 31 = .ok (.newarray .int, 2) := by decide +kernel
theorem dX0_init_33 : decode cX0_init 33 = .ok (.putfield 21, 3) := by decide +kernel
theorem dX0_init_36 : decode cX0_init 36 = .ok (.aload_n 0, 1) := by decide +kernel
theorem dX0_init_37 : decode cX0_init 37 = .ok (.new 24, 3) := by decide +kernel
theorem dX0_init_40 : decode cX0_init 40 = .ok (.dup, 1) := by decide +kernel
theorem dX0_init_41 : decode cX0_init 41 = .ok (.invokespecial 26, 3) := by decide +kernel
theorem dX0_init_44 : decode cX0_init 44 = .ok (.putfield 27, 3) := by decide +kernel
theorem dX0_init_47 : decode cX0_init 47 = .ok (.return_, 1) := by decide +kernel
theorem dX0_seal_0 : decode cX0_seal 0 = .ok (.aload_n 0, 1) := by decide +kernel
theorem dX0_seal_1 : decode cX0_seal 1 = .ok (.aload_n 1, 1) := by decide +kernel
theorem dX0_seal_2 : decode cX0_seal 2 = .ok (.iload_n 2, 1) := by decide +kernel
theorem dX0_seal_3 : decode cX0_seal 3 = .ok (.invokevirtual 31, 3) := by decide +kernel
theorem dX0_seal_6 : decode cX0_seal 6 = .ok (.aload_n 0, 1) := by decide +kernel
theorem dX0_seal_7 : decode cX0_seal 7 = .ok (.aload 4, 2) := by decide +kernel
theorem dX0_seal_9 : decode cX0_seal 9 = .ok (.getfield 35, 3) := by decide +kernel
theorem dX0_seal_12 : decode cX0_seal 12 = .ok (.iload 5, 2) := by decide +kernel
theorem dX0_seal_14 : decode cX0_seal 14 = .ok (.aload 4, 2) := by decide +kernel
theorem dX0_seal_16 : decode cX0_seal 16 = .ok (.getfield 40, 3) := by decide +kernel
theorem dX0_seal_19 : decode cX0_seal 19 = .ok (.invokevirtual 44, 3) := by decide +kernel
theorem dX0_seal_22 : decode cX0_seal 22 = .ok (.aload_n 0, 1) := by decide +kernel
theorem dX0_seal_23 : decode cX0_seal 23 = .ok (.aload_n 3, 1) := by decide +kernel
theorem dX0_seal_24 : decode cX0_seal 24 = .ok (.aload 4, 2) := by decide +kernel
theorem dX0_seal_26 : decode cX0_seal 26 = .ok (.getfield 35, 3) := by decide +kernel
theorem dX0_seal_29 : decode cX0_seal 29 = .ok (.iload 5, 2) := by decide +kernel
theorem dX0_seal_31 : decode cX0_seal 31 = .ok (.aload 4, 2) := by decide +kernel
theorem dX0_seal_33 : decode cX0_seal 33 = .ok (.getfield 40, 3) := by decide +kernel
theorem dX0_seal_36 : decode cX0_seal 36 = .ok (.invokevirtual 48, 3) := by decide +kernel
theorem dX0_seal_39 : decode cX0_seal 39 = .ok (.aload 4, 2) := by decide +kernel
theorem dX0_seal_41 : decode cX0_seal 41 = .ok (.aload_n 0, 1) := by decide +kernel
theorem dX0_seal_42 : decode cX0_seal 42 = .ok (.getfield 18, 3) := by decide +kernel
theorem dX0_seal_45 : decode cX0_seal 45 = .ok (.iconst 0, 1) := by decide +kernel
theorem dX0_seal_46 : decode cX0_seal 46 = .ok (.bipush 16, 2) := by decide +kernel
theorem dX0_seal_48 : decode cX0_seal 48 = .ok (.invokevirtual 52, 3) := by decide +kernel
theorem dX0_seal_51 : decode cX0_seal 51 = .ok (.return_, 1) := by decide +kernel
theorem dX0_open_0 : decode cX0_open 0 = .ok (.aload_n 0, 1) := by decide +kernel
theorem dX0_open_1 : decode cX0_open 1 = .ok (.aload_n 1, 1) := by decide +kernel
theorem dX0_open_2 : decode cX0_open 2 = .ok (.iload_n 2, 1) := by decide +kernel
theorem dX0_open_3 : decode cX0_open 3 = .ok (.invokevirtual 31, 3) := by decide +kernel
theorem dX0_open_6 : decode cX0_open 6 = .ok (.aload_n 0, 1) := by decide +kernel
theorem dX0_open_7 : decode cX0_open 7 = .ok (.aload_n 3, 1) := by decide +kernel
theorem dX0_open_8 : decode cX0_open 8 = .ok (.aload 4, 2) := by decide +kernel
theorem dX0_open_10 : decode cX0_open 10 = .ok (.getfield 35, 3) := by decide +kernel
theorem dX0_open_13 : decode cX0_open 13 = .ok (.iload 5, 2) := by decide +kernel
theorem dX0_open_15 : decode cX0_open 15 = .ok (.iload 6, 2) := by decide +kernel
theorem dX0_open_17 : decode cX0_open 17 = .ok (.invokevirtual 48, 3) := by decide +kernel
theorem dX0_open_20 : decode cX0_open 20 = .ok (.iconst 0, 1) := by decide +kernel
theorem dX0_open_21 : decode cX0_open 21 = .ok (.istore 8, 2) := by decide +kernel
theorem dX0_open_23 : decode cX0_open 23 = .ok (.iconst 0, 1) := by decide +kernel
theorem dX0_open_24 : decode cX0_open 24 = .ok (.istore 9, 2) := by decide +kernel
theorem dX0_open_26 : decode cX0_open 26 = .ok (.iload 9, 2) := by decide +kernel
theorem dX0_open_28 : decode cX0_open 28 = .ok (.bipush 16, 2) := by decide +kernel
theorem dX0_open_30 : decode cX0_open 30 = .ok (.if_icmp .ge 32, 3) := by decide +kernel
theorem dX0_open_33 : decode cX0_open 33 = .ok (.iload 8, 2) := by decide +kernel
theorem dX0_open_35 : decode cX0_open 35 = .ok (.aload_n 0, 1) := by decide +kernel
theorem dX0_open_36 : decode cX0_open 36 = .ok (.getfield 18, 3) := by decide +kernel
theorem dX0_open_39 : decode cX0_open 39 = .ok (.iload 9, 2) := by decide +kernel
theorem dX0_open_41 : decode cX0_open 41 = .ok (.iaload, 1) := by decide +kernel
theorem dX0_open_42 : decode cX0_open 42 = .ok (.aload 4, 2) := by decide +kernel
theorem dX0_open_44 : decode cX0_open 44 = .ok (.iload 6, 2) := by decide +kernel
theorem dX0_open_46 : decode cX0_open 46 = .ok (.iload 9, 2) := by decide +kernel
theorem dX0_open_48 : decode cX0_open 48 = .ok (.iadd, 1) := by decide +kernel
theorem dX0_open_49 : decode cX0_open 49 = .ok (.invokevirtual 55, 3) := by decide +kernel
theorem dX0_open_52 : decode cX0_open 52 = .ok (.ixor, 1) := by decide +kernel
theorem dX0_open_53 : decode cX0_open 53 = .ok (.ior, 1) := by decide +kernel
theorem dX0_open_54 : decode cX0_open 54 = .ok (.istore 8, 2) := by decide +kernel
theorem dX0_open_56 : decode cX0_open 56 = .ok (.iinc 9 1, 3) := by decide +kernel
theorem dX0_open_59 : decode cX0_open 59 = .ok (.goto (-33), 3) := by decide +kernel
theorem dX0_open_62 : decode cX0_open 62 = .ok (.iload 8, 2) := by decide +kernel
theorem dX0_open_64 : decode cX0_open 64 = .ok (.ifCond .eq 5, 3) := by decide +kernel
theorem dX0_open_67 : decode cX0_open 67 = .ok (.iconst 0, 1) := by decide +kernel
theorem dX0_open_68 : decode cX0_open 68 = .ok (.ireturn, 1) := by decide +kernel
theorem dX0_open_69 : decode cX0_open 69 = .ok (.aload 7, 2) := by decide +kernel
theorem dX0_open_71 : decode cX0_open 71 = .ok (.iconst 0, 1) := by decide +kernel
theorem dX0_open_72 : decode cX0_open 72 = .ok (.putfield 40, 3) := by decide +kernel
theorem dX0_open_75 : decode cX0_open 75 = .ok (.aload 7, 2) := by decide +kernel
theorem dX0_open_77 : decode cX0_open 77 = .ok (.aload 4, 2) := by decide +kernel
theorem dX0_open_79 : decode cX0_open 79 = .ok (.getfield 35, 3) := by decide +kernel
theorem dX0_open_82 : decode cX0_open 82 = .ok (.iload 5, 2) := by decide +kernel
theorem dX0_open_84 : decode cX0_open 84 = .ok (.iload 6, 2) := by decide +kernel
theorem dX0_open_86 : decode cX0_open 86 = .ok (.invokevirtual 52, 3) := by decide +kernel
theorem dX0_open_89 : decode cX0_open 89 = .ok (.aload_n 0, 1) := by decide +kernel
theorem dX0_open_90 : decode cX0_open 90 = .ok (.aload 7, 2) := by decide +kernel
theorem dX0_open_92 : decode cX0_open 92 = .ok (.getfield 35, 3) := by decide +kernel
theorem dX0_open_95 : decode cX0_open 95 = .ok (.iconst 0, 1) := by decide +kernel
theorem dX0_open_96 : decode cX0_open 96 = .ok (.aload 7, 2) := by decide +kernel
theorem dX0_open_98 : decode cX0_open 98 = .ok (.getfield 40, 3) := by decide +kernel
theorem dX0_open_101 : decode cX0_open 101 = .ok (.invokevirtual 44, 3) := by decide +kernel
theorem dX0_open_104 : decode cX0_open 104 = .ok (.iconst 1, 1) := by decide +kernel
theorem dX0_open_105 : decode cX0_open 105 = .ok (.ireturn, 1) := by decide +kernel
theorem dX0_prepare_0 : decode cX0_prepare 0 = .ok (.aload_n 0, 1) := by decide +kernel
theorem dX0_prepare_1 : decode cX0_prepare 1 = .ok (.getfield 9, 3) := by decide +kernel
theorem dX0_prepare_4 : decode cX0_prepare 4 = .ok (.iconst 0, 1) := by decide +kernel
theorem dX0_prepare_5 : decode cX0_prepare 5 = .ok (.ldc 59, 2) := by decide +kernel
theorem dX0_prepare_7 : decode cX0_prepare 7 = .ok (.iastore, 1) := by decide +kernel
theorem dX0_prepare_8 : decode cX0_prepare 8 = .ok (.aload_n 0, 1) := by decide +kernel
theorem dX0_prepare_9 : decode cX0_prepare 9 = .ok (.getfield 9, 3) := by decide +kernel
theorem dX0_prepare_12 : decode cX0_prepare 12 = .ok (.iconst 1, 1) := by decide +kernel
theorem dX0_prepare_13 : decode cX0_prepare 13 = .ok (.ldc 60, 2) := by decide +kernel
theorem dX0_prepare_15 : decode cX0_prepare 15 = .ok (.iastore, 1) := by decide +kernel
theorem dX0_prepare_16 : decode cX0_prepare 16 = .ok (.aload_n 0, 1) := by decide +kernel
theorem dX0_prepare_17 : decode cX0_prepare 17 = .ok (.getfield 9, 3) := by decide +kernel
theorem dX0_prepare_20 : decode cX0_prepare 20 = .ok (.iconst 2, 1) := by decide +kernel
theorem dX0_prepare_21 : decode cX0_prepare 21 = .ok (.ldc 61, 2) := by decide +kernel
theorem dX0_prepare_23 : decode cX0_prepare 23 = .ok (.iastore, 1) := by decide +kernel
theorem dX0_prepare_24 : decode cX0_prepare 24 = .ok (.aload_n 0, 1) := by decide +kernel
theorem dX0_prepare_25 : decode cX0_prepare 25 = .ok (.getfield 9, 3) := by decide +kernel
theorem dX0_prepare_28 : decode cX0_prepare 28 = .ok (.iconst 3, 1) := by decide +kernel
theorem dX0_prepare_29 : decode cX0_prepare 29 = .ok (.ldc 62, 2) := by decide +kernel
theorem dX0_prepare_31 : decode cX0_prepare 31 = .ok (.iastore, 1) := by decide +kernel
theorem dX0_prepare_32 : decode cX0_prepare 32 = .ok (.iconst 0, 1) := by decide +kernel
theorem dX0_prepare_33 : decode cX0_prepare 33 = .ok (.istore_n 3, 1) := by decide +kernel
theorem dX0_prepare_34 : decode cX0_prepare 34 = .ok (.iload_n 3, 1) := by decide +kernel
theorem dX0_prepare_35 : decode cX0_prepare 35 = .ok (.bipush 8, 2) := by decide +kernel
theorem dX0_prepare_37 : decode cX0_prepare 37 = .ok (.if_icmp .ge 28, 3) := by decide +kernel
theorem dX0_prepare_40 : decode cX0_prepare 40 = .ok (.aload_n 0, 1) := by decide +kernel
theorem dX0_prepare_41 : decode cX0_prepare 41 = .ok (.getfield 9, 3) := by decide +kernel
theorem dX0_prepare_44 : decode cX0_prepare 44 = .ok (.iconst 4, 1) := by decide +kernel
theorem dX0_prepare_45 : decode cX0_prepare 45 = .ok (.iload_n 3, 1) := by decide +kernel
theorem dX0_prepare_46 : decode cX0_prepare 46 = .ok (.iadd, 1) := by decide +kernel
theorem dX0_prepare_47 : decode cX0_prepare 47 = .ok (.aload_n 1, 1) := by decide +kernel
theorem dX0_prepare_48 : decode cX0_prepare 48 = .ok (.bipush 32, 2) := by decide +kernel
theorem dX0_prepare_50 : decode cX0_prepare 50 = .ok (.iload_n 3, 1) := by decide +kernel
theorem dX0_prepare_51 : decode cX0_prepare 51 = .ok (.imul, 1) := by decide +kernel
theorem dX0_prepare_52 : decode cX0_prepare 52 = .ok (.bipush 32, 2) := by decide +kernel
theorem dX0_prepare_54 : decode cX0_prepare 54 = .ok (.invokestatic 63, 3) := by decide +kernel
theorem dX0_prepare_57 : decode cX0_prepare 57 = .ok (.l2i, 1) := by decide +kernel
theorem dX0_prepare_58 : decode cX0_prepare 58 = .ok (.iastore, 1) := by decide +kernel
theorem dX0_prepare_59 : decode cX0_prepare 59 = .ok (.iinc 3 1, 3) := by decide +kernel
theorem dX0_prepare_62 : decode cX0_prepare 62 = .ok (.goto (-28), 3) := by decide +kernel
theorem dX0_prepare_65 : decode cX0_prepare 65 = .ok (.aload_n 0, 1) := by decide +kernel
theorem dX0_prepare_66 : decode cX0_prepare 66 = .ok (.getfield 9, 3) := by decide +kernel
theorem dX0_prepare_69 : decode cX0_prepare 69 = .ok (.bipush 13, 2) := by decide +kernel
theorem dX0_prepare_71 : decode cX0_prepare 71 = .ok (.iconst 0, 1) := by decide +kernel
theorem dX0_prepare_72 : decode cX0_prepare 72 = .ok (.iastore, 1) := by decide +kernel
theorem dX0_prepare_73 : decode cX0_prepare 73 = .ok (.aload_n 0, 1) := by decide +kernel
theorem dX0_prepare_74 : decode cX0_prepare 74 = .ok (.getfield 9, 3) := by decide +kernel
theorem dX0_prepare_77 : decode cX0_prepare 77 = .ok (.bipush 14, 2) := by decide +kernel
theorem dX0_prepare_79 : decode cX0_prepare 79 = .ok (.iload_n 2, 1) := by decide +kernel
theorem dX0_prepare_80 : decode cX0_prepare 80 = .ok (.iastore, 1) := by decide +kernel
theorem dX0_prepare_81 : decode cX0_prepare 81 = .ok (.aload_n 0, 1) := by decide +kernel
theorem dX0_prepare_82 : decode cX0_prepare 82 = .ok (.getfield 9, 3) := by decide +kernel
theorem dX0_prepare_85 : decode cX0_prepare 85 = .ok (.bipush 15, 2) := by decide +kernel
theorem dX0_prepare_87 : decode cX0_prepare 87 = .ok (.iconst 0, 1) := by decide +kernel
theorem dX0_prepare_88 : decode cX0_prepare 88 = .ok (.iastore, 1) := by decide +kernel
theorem dX0_prepare_89 : decode cX0_prepare 89 = .ok (.return_, 1) := by decide +kernel
theorem dX0_turn_0 : decode cX0_turn 0 = .ok (.iconst 0, 1) := by decide +kernel
theorem dX0_turn_1 : decode cX0_turn 1 = .ok (.istore 4, 2) := by decide +kernel
theorem dX0_turn_3 : decode cX0_turn 3 = .ok (.iload_n 2, 1) := by decide +kernel
theorem dX0_turn_4 : decode cX0_turn 4 = .ok (.iload 4, 2) := by decide +kernel
theorem dX0_turn_6 : decode cX0_turn 6 = .ok (.iadd, 1) := by decide +kernel
theorem dX0_turn_7 : decode cX0_turn 7 = .ok (.iload_n 3, 1) := by decide +kernel
theorem dX0_turn_8 : decode cX0_turn 8 = .ok (.if_icmp .ge 46, 3) := by decide +kernel
theorem dX0_turn_11 : decode cX0_turn 11 = .ok (.iload 4, 2) := by decide +kernel
theorem dX0_turn_13 : decode cX0_turn 13 = .ok (.bipush 64, 2) := by decide +kernel
theorem dX0_turn_15 : decode cX0_turn 15 = .ok (.irem, 1) := by decide +kernel
theorem dX0_turn_16 : decode cX0_turn 16 = .ok (.ifCond .ne 14, 3) := by decide +kernel
theorem dX0_turn_19 : decode cX0_turn 19 = .ok (.aload_n 0, 1) := by decide +kernel
theorem dX0_turn_20 : decode cX0_turn 20 = .ok (.iconst 1, 1) := by decide +kernel
theorem dX0_turn_21 : decode cX0_turn 21 = .ok (.iload 4, 2) := by decide +kernel
theorem dX0_turn_23 : decode cX0_turn 23 = .ok (.bipush 64, 2) := by decide +kernel
theorem dX0_turn_25 : decode cX0_turn 25 = .ok (.idiv, 1) := by decide +kernel
theorem dX0_turn_26 : decode cX0_turn 26 = .ok (.iadd, 1) := by decide +kernel
theorem dX0_turn_27 : decode cX0_turn 27 = .ok (.invokevirtual 67, 3) := by decide +kernel
theorem dX0_turn_30 : decode cX0_turn 30 = .ok (.aload_n 1, 1) := by decide +kernel
theorem dX0_turn_31 : decode cX0_turn 31 = .ok (.iload_n 2, 1) := by decide +kernel
theorem dX0_turn_32 : decode cX0_turn 32 = .ok (.iload 4, 2) := by decide +kernel
theorem dX0_turn_34 : decode cX0_turn 34 = .ok (.iadd, 1) := by decide +kernel
theorem dX0_turn_35 : decode cX0_turn 35 = .ok (.dup2, 1) := by decide +kernel
theorem dX0_turn_36 : decode cX0_turn 36 = .ok (.iaload, 1) := by decide +kernel
theorem dX0_turn_37 : decode cX0_turn 37 = .ok (.aload_n 0, 1) := by decide +kernel
theorem dX0_turn_38 : decode cX0_turn 38 = .ok (.iload 4, 2) := by decide +kernel
theorem dX0_turn_40 : decode cX0_turn 40 = .ok (.bipush 64, 2) := by decide +kernel
theorem dX0_turn_42 : decode cX0_turn 42 = .ok (.irem, 1) := by decide +kernel
theorem dX0_turn_43 : decode cX0_turn 43 = .ok (.invokevirtual 71, 3) := by decide +kernel
theorem dX0_turn_46 : decode cX0_turn 46 = .ok (.ixor, 1) := by decide +kernel
theorem dX0_turn_47 : decode cX0_turn 47 = .ok (.iastore, 1) := by decide +kernel
theorem dX0_turn_48 : decode cX0_turn 48 = .ok (.iinc 4 1, 3) := by decide +kernel
theorem dX0_turn_51 : decode cX0_turn 51 = .ok (.goto (-48), 3) := by decide +kernel
theorem dX0_turn_54 : decode cX0_turn 54 = .ok (.return_, 1) := by decide +kernel
theorem dX0_makeTag_0 : decode cX0_makeTag 0 = .ok (.aload_n 0, 1) := by decide +kernel
theorem dX0_makeTag_1 : decode cX0_makeTag 1 = .ok (.iconst 0, 1) := by decide +kernel
theorem dX0_makeTag_2 : decode cX0_makeTag 2 = .ok (.invokevirtual 67, 3) := by decide +kernel
theorem dX0_makeTag_5 : decode cX0_makeTag 5 = .ok (.iconst 0, 1) := by decide +kernel
theorem dX0_makeTag_6 : decode cX0_makeTag 6 = .ok (.istore 5, 2) := by decide +kernel
theorem dX0_makeTag_8 : decode cX0_makeTag 8 = .ok (.iload 5, 2) := by decide +kernel
theorem dX0_makeTag_10 : decode cX0_makeTag 10 = .ok (.bipush 32, 2) := by decide +kernel
theorem dX0_makeTag_12 : decode cX0_makeTag 12 = .ok (.if_icmp .ge 22, 3) := by decide +kernel
theorem dX0_makeTag_15 : decode cX0_makeTag 15 = .ok (.aload_n 0, 1) := by decide +kernel
theorem dX0_makeTag_16 : decode cX0_makeTag 16 = .ok (.getfield 21, 3) := by decide +kernel
theorem dX0_makeTag_19 : decode cX0_makeTag 19 = .ok (.iload 5, 2) := by decide +kernel
theorem dX0_makeTag_21 : decode cX0_makeTag 21 = .ok (.aload_n 0, 1) := by decide +kernel
theorem dX0_makeTag_22 : decode cX0_makeTag 22 = .ok (.iload 5, 2) := by decide +kernel
theorem dX0_makeTag_24 : decode cX0_makeTag 24 = .ok (.invokevirtual 71, 3) := by decide +kernel
theorem dX0_makeTag_27 : decode cX0_makeTag 27 = .ok (.iastore, 1) := by decide +kernel
theorem dX0_makeTag_28 : decode cX0_makeTag 28 = .ok (.iinc 5 1, 3) := by decide +kernel
theorem dX0_makeTag_31 : decode cX0_makeTag 31 = .ok (.goto (-23), 3) := by decide +kernel
theorem dX0_makeTag_34 : decode cX0_makeTag 34 = .ok (.aload_n 0, 1) := by decide +kernel
theorem dX0_makeTag_35 : decode cX0_makeTag 35 = .ok (.getfield 27, 3) := by decide +kernel
theorem dX0_makeTag_38 : decode cX0_makeTag 38 = .ok (.aload_n 0, 1) := by decide +kernel
theorem dX0_makeTag_39 : decode cX0_makeTag 39 = .ok (.getfield 21, 3) := by decide +kernel
theorem dX0_makeTag_42 : decode cX0_makeTag 42 = .ok (.invokevirtual 74, 3) := by decide +kernel
theorem dX0_makeTag_45 : decode cX0_makeTag 45 = .ok (.aload_n 0, 1) := by decide +kernel
theorem dX0_makeTag_46 : decode cX0_makeTag 46 = .ok (.getfield 27, 3) := by decide +kernel
theorem dX0_makeTag_49 : decode cX0_makeTag 49 = .ok (.aload_n 1, 1) := by decide +kernel
theorem dX0_makeTag_50 : decode cX0_makeTag 50 = .ok (.iconst 0, 1) := by decide +kernel
theorem dX0_makeTag_51 : decode cX0_makeTag 51 = .ok (.aload_n 1, 1) := by decide +kernel
theorem dX0_makeTag_52 : decode cX0_makeTag 52 = .ok (.arraylength, 1) := by decide +kernel
theorem dX0_makeTag_53 : decode cX0_makeTag 53 = .ok (.invokevirtual 78, 3) := by decide +kernel
theorem dX0_makeTag_56 : decode cX0_makeTag 56 = .ok (.aload_n 0, 1) := by decide +kernel
theorem dX0_makeTag_57 : decode cX0_makeTag 57 = .ok (.getfield 27, 3) := by decide +kernel
theorem dX0_makeTag_60 : decode cX0_makeTag 60 = .ok (.aload_n 2, 1) := by decide +kernel
theorem dX0_makeTag_61 : decode cX0_makeTag 61 = .ok (.iload_n 3, 1) := by decide +kernel
theorem dX0_makeTag_62 : decode cX0_makeTag 62 = .ok (.iload 4, 2) := by decide +kernel
theorem dX0_makeTag_64 : decode cX0_makeTag 64 = .ok (.invokevirtual 78, 3) := by decide +kernel
theorem dX0_makeTag_67 : decode cX0_makeTag 67 = .ok (.aload_n 0, 1) := by decide +kernel
theorem dX0_makeTag_68 : decode cX0_makeTag 68 = .ok (.getfield 27, 3) := by decide +kernel
theorem dX0_makeTag_71 : decode cX0_makeTag 71 = .ok (.aload_n 1, 1) := by decide +kernel
theorem dX0_makeTag_72 : decode cX0_makeTag 72 = .ok (.arraylength, 1) := by decide +kernel
theorem dX0_makeTag_73 : decode cX0_makeTag 73 = .ok (.iload 4, 2) := by decide +kernel
theorem dX0_makeTag_75 : decode cX0_makeTag 75 = .ok (.iload_n 3, 1) := by decide +kernel
theorem dX0_makeTag_76 : decode cX0_makeTag 76 = .ok (.isub, 1) := by decide +kernel
theorem dX0_makeTag_77 : decode cX0_makeTag 77 = .ok (.invokevirtual 81, 3) := by decide +kernel
theorem dX0_makeTag_80 : decode cX0_makeTag 80 = .ok (.aload_n 0, 1) := by decide +kernel
theorem dX0_makeTag_81 : decode cX0_makeTag 81 = .ok (.getfield 27, 3) := by decide +kernel
theorem dX0_makeTag_84 : decode cX0_makeTag 84 = .ok (.aload_n 0, 1) := by decide +kernel
theorem dX0_makeTag_85 : decode cX0_makeTag 85 = .ok (.getfield 18, 3) := by decide +kernel
theorem dX0_makeTag_88 : decode cX0_makeTag 88 = .ok (.invokevirtual 85, 3) := by decide +kernel
theorem dX0_makeTag_91 : decode cX0_makeTag 91 = .ok (.return_, 1) := by decide +kernel
theorem dX0_blockByte_0 : decode cX0_blockByte 0 = .ok (.aload_n 0, 1) := by decide +kernel
theorem dX0_blockByte_1 : decode cX0_blockByte 1 = .ok (.getfield 15, 3) := by decide +kernel
theorem dX0_blockByte_4 : decode cX0_blockByte 4 = .ok (.iload_n 1, 1) := by decide +kernel
theorem dX0_blockByte_5 : decode cX0_blockByte 5 = .ok (.iconst 2, 1) := by decide +kernel
theorem dX0_blockByte_6 : decode cX0_blockByte 6 = .ok (.ishr, 1) := by decide +kernel
theorem dX0_blockByte_7 : decode cX0_blockByte 7 = .ok (.iaload, 1) := by decide +kernel
theorem dX0_blockByte_8 : decode cX0_blockByte 8 = .ok (.bipush 8, 2) := by decide +kernel
theorem dX0_blockByte_10 : decode cX0_blockByte 10 = .ok (.iload_n 1, 1) := by decide +kernel
theorem dX0_blockByte_11 : decode cX0_blockByte 11 = .ok (.iconst 3, 1) := by decide +kernel
theorem dX0_blockByte_12 : decode cX0_blockByte 12 = .ok (.iand, 1) := by decide +kernel
theorem dX0_blockByte_13 : decode cX0_blockByte 13 = .ok (.imul, 1) := by decide +kernel
theorem dX0_blockByte_14 : decode cX0_blockByte 14 = .ok (.iushr, 1) := by decide +kernel
theorem dX0_blockByte_15 : decode cX0_blockByte 15 = .ok (.sipush 255, 3) := by decide +kernel
theorem dX0_blockByte_18 : decode cX0_blockByte 18 = .ok (.iand, 1) := by decide +kernel
theorem dX0_blockByte_19 : decode cX0_blockByte 19 = .ok (.ireturn, 1) := by decide +kernel
theorem dX0_makeBlock_0 : decode cX0_makeBlock 0 = .ok (.aload_n 0, 1) := by decide +kernel
theorem dX0_makeBlock_1 : decode cX0_makeBlock 1 = .ok (.getfield 9, 3) := by decide +kernel
theorem dX0_makeBlock_4 : decode cX0_makeBlock 4 = .ok (.bipush 12, 2) := by decide +kernel
theorem dX0_makeBlock_6 : decode cX0_makeBlock 6 = .ok (.iload_n 1, 1) := by decide +kernel
theorem dX0_makeBlock_7 : decode cX0_makeBlock 7 = .ok (.iastore, 1) := by decide +kernel
theorem dX0_makeBlock_8 : decode cX0_makeBlock 8 = .ok (.aload_n 0, 1) := by decide +kernel
theorem dX0_makeBlock_9 : decode cX0_makeBlock 9 = .ok (.getfield 9, 3) := by decide +kernel
theorem dX0_makeBlock_12 : decode cX0_makeBlock 12 = .ok (.iconst 0, 1) := by decide +kernel
theorem dX0_makeBlock_13 : decode cX0_makeBlock 13 = .ok (.aload_n 0, 1) := by decide +kernel
theorem dX0_makeBlock_14 : decode cX0_makeBlock 14 = .ok (.getfield 15, 3) := by decide +kernel
theorem dX0_makeBlock_17 : decode cX0_makeBlock 17 = .ok (.iconst 0, 1) := by decide +kernel
theorem dX0_makeBlock_18 : decode cX0_makeBlock 18 = .ok (.bipush 16, 2) := by decide +kernel
theorem dX0_makeBlock_20 : decode cX0_makeBlock 20 = .ok (.invokestatic 88, 3) := by decide +kernel
theorem dX0_makeBlock_23 : decode cX0_makeBlock 23 = .ok (.iconst 0, 1) := by decide +kernel
theorem dX0_makeBlock_24 : decode cX0_makeBlock 24 = .ok (.istore_n 2, 1) := by decide +kernel
theorem dX0_makeBlock_25 : decode cX0_makeBlock 25 = .ok (.iload_n 2, 1) := by decide +kernel
theorem dX0_makeBlock_26 : decode cX0_makeBlock 26 = .ok (.bipush 10, 2) := by decide +kernel
theorem dX0_makeBlock_28 : decode cX0_makeBlock 28 = .ok (.if_icmp .ge 93, 3) := by decide +kernel
theorem dX0_makeBlock_31 : decode cX0_makeBlock 31 = .ok (.aload_n 0, 1) := by decide +kernel
theorem dX0_makeBlock_32 : decode cX0_makeBlock 32 = .ok (.iconst 0, 1) := by decide +kernel
theorem dX0_makeBlock_33 : decode cX0_makeBlock 33 = .ok (.iconst 4, 1) := by decide +kernel
theorem dX0_makeBlock_34 : decode cX0_makeBlock 34 = .ok (.bipush 8, 2) := by decide +kernel
theorem dX0_makeBlock_36 : decode cX0_makeBlock 36 = .ok (.bipush 12, 2) := by decide +kernel
theorem dX0_makeBlock_38 : decode cX0_makeBlock 38 = .ok (.invokevirtual 94, 3) := by decide +kernel
theorem dX0_makeBlock_41 : decode cX0_makeBlock 41 = .ok (.aload_n 0, 1) := by decide +kernel
theorem dX0_makeBlock_42 : decode cX0_makeBlock 42 = .ok (.iconst 1, 1) := by decide +kernel
theorem dX0_makeBlock_43 : decode cX0_makeBlock 43 = .ok (.iconst 5, 1) := by decide +kernel
theorem dX0_makeBlock_44 : decode cX0_makeBlock 44 = .ok (.bipush 9, 2) := by decide +kernel
theorem dX0_makeBlock_46 : decode cX0_makeBlock 46 = .ok (.bipush 13, 2) := by decide +kernel
theorem dX0_makeBlock_48 : decode cX0_makeBlock 48 = .ok (.invokevirtual 94, 3) := by decide +kernel
theorem dX0_makeBlock_51 : decode cX0_makeBlock 51 = .ok (.aload_n 0, 1) := by decide +kernel
theorem dX0_makeBlock_52 : decode cX0_makeBlock 52 = .ok (.iconst 2, 1) := by decide +kernel
theorem dX0_makeBlock_53 : decode cX0_makeBlock 53 = .ok (.bipush 6, 2) := by decide +kernel
theorem dX0_makeBlock_55 : decode cX0_makeBlock 55 = .ok (.bipush 10, 2) := by decide +kernel
theorem dX0_makeBlock_57 : decode cX0_makeBlock 57 = .ok (.bipush 14, 2) := by decide +kernel
theorem dX0_makeBlock_59 : decode cX0_makeBlock 59 = .ok (.invokevirtual 94, 3) := by decide +kernel
theorem dX0_makeBlock_62 : decode cX0_makeBlock 62 = .ok (.aload_n 0, 1) := by decide +kernel
theorem dX0_makeBlock_63 : decode cX0_makeBlock 63 = .ok (.iconst 3, 1) := by decide +kernel
theorem dX0_makeBlock_64 : decode cX0_makeBlock 64 = .ok (.bipush 7, 2) := by decide +kernel
theorem dX0_makeBlock_66 : decode cX0_makeBlock 66 = .ok (.bipush 11, 2) := by decide +kernel
theorem dX0_makeBlock_68 : decode cX0_makeBlock 68 = .ok (.bipush 15, 2) := by decide +kernel
theorem dX0_makeBlock_70 : decode cX0_makeBlock 70 = .ok (.invokevirtual 94, 3) := by decide +kernel
theorem dX0_makeBlock_73 : decode cX0_makeBlock 73 = .ok (.aload_n 0, 1) := by decide +kernel
theorem dX0_makeBlock_74 : decode cX0_makeBlock 74 = .ok (.iconst 0, 1) := by decide +kernel
theorem dX0_makeBlock_75 : decode cX0_makeBlock 75 = .ok (.iconst 5, 1) := by decide +kernel
theorem dX0_makeBlock_76 : decode cX0_makeBlock 76 = .ok (.bipush 10, 2) := by decide +kernel
theorem dX0_makeBlock_78 : decode cX0_makeBlock 78 = .ok (.bipush 15, 2) := by decide +kernel
theorem dX0_makeBlock_80 : decode cX0_makeBlock 80 = .ok (.invokevirtual 94, 3) := by decide +kernel
theorem dX0_makeBlock_83 : decode cX0_makeBlock 83 = .ok (.aload_n 0, 1) := by decide +kernel
theorem dX0_makeBlock_84 : decode cX0_makeBlock 84 = .ok (.iconst 1, 1) := by decide +kernel
theorem dX0_makeBlock_85 : decode cX0_makeBlock 85 = .ok (.bipush 6, 2) := by decide +kernel
theorem dX0_makeBlock_87 : decode cX0_makeBlock 87 = .ok (.bipush 11, 2) := by decide +kernel
theorem dX0_makeBlock_89 : decode cX0_makeBlock 89 = .ok (.bipush 12, 2) := by decide +kernel
theorem dX0_makeBlock_91 : decode cX0_makeBlock 91 = .ok (.invokevirtual 94, 3) := by decide +kernel
theorem dX0_makeBlock_94 : decode cX0_makeBlock 94 = .ok (.aload_n 0, 1) := by decide +kernel
theorem dX0_makeBlock_95 : decode cX0_makeBlock 95 = .ok (.iconst 2, 1) := by decide +kernel
theorem dX0_makeBlock_96 : decode cX0_makeBlock 96 = .ok (.bipush 7, 2) := by decide +kernel
theorem dX0_makeBlock_98 : decode cX0_makeBlock 98 = .ok (.bipush 8, 2) := by decide +kernel
theorem dX0_makeBlock_100 : decode cX0_makeBlock 100 = .ok (.bipush 13, 2) := by decide +kernel
theorem dX0_makeBlock_102 : decode cX0_makeBlock 102 = .ok (.invokevirtual 94, 3) := by decide +kernel
theorem dX0_makeBlock_105 : decode cX0_makeBlock 105 = .ok (.aload_n 0, 1) := by decide +kernel
theorem dX0_makeBlock_106 : decode cX0_makeBlock 106 = .ok (.iconst 3, 1) := by decide +kernel
theorem dX0_makeBlock_107 : decode cX0_makeBlock 107 = .ok (.iconst 4, 1) := by decide +kernel
theorem dX0_makeBlock_108 : decode cX0_makeBlock 108 = .ok (.bipush 9, 2) := by decide +kernel
theorem dX0_makeBlock_110 : decode cX0_makeBlock 110 = .ok (.bipush 14, 2) := by decide +kernel
theorem dX0_makeBlock_112 : decode cX0_makeBlock 112 = .ok (.invokevirtual 94, 3) := by decide +kernel
theorem dX0_makeBlock_115 : decode cX0_makeBlock 115 = .ok (.iinc 2 1, 3) := by decide +kernel
theorem dX0_makeBlock_118 : decode cX0_makeBlock 118 = .ok (.goto (-93), 3) := by decide +kernel
theorem dX0_makeBlock_121 : decode cX0_makeBlock 121 = .ok (.iconst 0, 1) := by decide +kernel
theorem dX0_makeBlock_122 : decode cX0_makeBlock 122 = .ok (.istore_n 2, 1) := by decide +kernel
theorem dX0_makeBlock_123 : decode cX0_makeBlock 123 = .ok (.iload_n 2, 1) := by decide +kernel
theorem dX0_makeBlock_124 : decode cX0_makeBlock 124 = .ok (.bipush 16, 2) := by decide +kernel
theorem dX0_makeBlock_126 : decode cX0_makeBlock 126 = .ok (.if_icmp .ge 24, 3) := by decide +kernel
theorem dX0_makeBlock_129 : decode cX0_makeBlock 129 = .ok (.aload_n 0, 1) := by decide +kernel
theorem dX0_makeBlock_130 : decode cX0_makeBlock 130 = .ok (.getfield 15, 3) := by decide +kernel
theorem dX0_makeBlock_133 : decode cX0_makeBlock 133 = .ok (.iload_n 2, 1) := by decide +kernel
theorem dX0_makeBlock_134 : decode cX0_makeBlock 134 = .ok (.dup2, 1) := by decide +kernel
theorem dX0_makeBlock_135 : decode cX0_makeBlock 135 = .ok (.iaload, 1) := by decide +kernel
theorem dX0_makeBlock_136 : decode cX0_makeBlock 136 = .ok (.aload_n 0, 1) := by decide +kernel
theorem dX0_makeBlock_137 : decode cX0_makeBlock 137 = .ok (.getfield 9, 3) := by decide +kernel
theorem dX0_makeBlock_140 : decode cX0_makeBlock 140 = .ok (.iload_n 2, 1) := by decide +kernel
theorem dX0_makeBlock_141 : decode cX0_makeBlock 141 = .ok (.iaload, 1) := by decide +kernel
theorem dX0_makeBlock_142 : decode cX0_makeBlock 142 = .ok (.iadd, 1) := by decide +kernel
theorem dX0_makeBlock_143 : decode cX0_makeBlock 143 = .ok (.iastore, 1) := by decide +kernel
theorem dX0_makeBlock_144 : decode cX0_makeBlock 144 = .ok (.iinc 2 1, 3) := by decide +kernel
theorem dX0_makeBlock_147 : decode cX0_makeBlock 147 = .ok (.goto (-24), 3) := by decide +kernel
theorem dX0_makeBlock_150 : decode cX0_makeBlock 150 = .ok (.return_, 1) := by decide +kernel
theorem dX0_quarter_0 : decode cX0_quarter 0 = .ok (.aload_n 0, 1) := by decide +kernel
theorem dX0_quarter_1 : decode cX0_quarter 1 = .ok (.iload_n 1, 1) := by decide +kernel
theorem dX0_quarter_2 : decode cX0_quarter 2 = .ok (.iload_n 2, 1) := by decide +kernel
theorem dX0_quarter_3 : decode cX0_quarter 3 = .ok (.iload 4, 2) := by decide +kernel
theorem dX0_quarter_5 : decode cX0_quarter 5 = .ok (.bipush 16, 2) := by decide +kernel
theorem dX0_quarter_7 : decode cX0_quarter 7 = .ok (.invokevirtual 98, 3) := by decide +kernel
theorem dX0_quarter_10 : decode cX0_quarter 10 = .ok (.aload_n 0, 1) := by decide +kernel
theorem dX0_quarter_11 : decode cX0_quarter 11 = .ok (.iload_n 3, 1) := by decide +kernel
theorem dX0_quarter_12 : decode cX0_quarter 12 = .ok (.iload 4, 2) := by decide +kernel
theorem dX0_quarter_14 : decode cX0_quarter 14 = .ok (.iload_n 2, 1) := by decide +kernel
theorem dX0_quarter_15 : decode cX0_quarter 15 = .ok (.bipush 12, 2) := by decide +kernel
theorem dX0_quarter_17 : decode cX0_quarter 17 = .ok (.invokevirtual 98, 3) := by decide +kernel
theorem dX0_quarter_20 : decode cX0_quarter 20 = .ok (.aload_n 0, 1) := by decide +kernel
theorem dX0_quarter_21 : decode cX0_quarter 21 = .ok (.iload_n 1, 1) := by decide +kernel
theorem dX0_quarter_22 : decode cX0_quarter 22 = .ok (.iload_n 2, 1) := by decide +kernel
theorem dX0_quarter_23 : decode cX0_quarter 23 = .ok (.iload 4, 2) := by decide +kernel
theorem dX0_quarter_25 : decode cX0_quarter 25 = .ok (.bipush 8, 2) := by decide +kernel
theorem dX0_quarter_27 : decode cX0_quarter 27 = .ok (.invokevirtual 98, 3) := by decide +kernel
theorem dX0_quarter_30 : decode cX0_quarter 30 = .ok (.aload_n 0, 1) := by decide +kernel
theorem dX0_quarter_31 : decode cX0_quarter 31 = .ok (.iload_n 3, 1) := by decide +kernel
theorem dX0_quarter_32 : decode cX0_quarter 32 = .ok (.iload 4, 2) := by decide +kernel
theorem dX0_quarter_34 : decode cX0_quarter 34 = .ok (.iload_n 2, 1) := by decide +kernel
theorem dX0_quarter_35 : decode cX0_quarter 35 = .ok (.bipush 7, 2) := by decide +kernel
theorem dX0_quarter_37 : decode cX0_quarter 37 = .ok (.invokevirtual 98, 3) := by decide +kernel
theorem dX0_quarter_40 : decode cX0_quarter 40 = .ok (.return_, 1) := by decide +kernel
theorem dX0_mix_0 : decode cX0_mix 0 = .ok (.aload_n 0, 1) := by decide +kernel
theorem dX0_mix_1 : decode cX0_mix 1 = .ok (.getfield 15, 3) := by decide +kernel
theorem dX0_mix_4 : decode cX0_mix 4 = .ok (.iload_n 1, 1) := by decide +kernel
theorem dX0_mix_5 : decode cX0_mix 5 = .ok (.dup2, 1) := by decide +kernel
theorem dX0_mix_6 : decode cX0_mix 6 = .ok (.iaload, 1) := by decide +kernel
theorem dX0_mix_7 : decode cX0_mix 7 = .ok (.aload_n 0, 1) := by decide +kernel
theorem dX0_mix_8 : decode cX0_mix 8 = .ok (.getfield 15, 3) := by decide +kernel
theorem dX0_mix_11 : decode cX0_mix 11 = .ok (.iload_n 2, 1) := by decide +kernel
theorem dX0_mix_12 : decode cX0_mix 12 = .ok (.iaload, 1) := by decide +kernel
theorem dX0_mix_13 : decode cX0_mix 13 = .ok (.iadd, 1) := by decide +kernel
theorem dX0_mix_14 : decode cX0_mix 14 = .ok (.iastore, 1) := by decide +kernel
theorem dX0_mix_15 : decode cX0_mix 15 = .ok (.aload_n 0, 1) := by decide +kernel
theorem dX0_mix_16 : decode cX0_mix 16 = .ok (.getfield 15, 3) := by decide +kernel
theorem dX0_mix_19 : decode cX0_mix 19 = .ok (.iload_n 3, 1) := by decide +kernel
theorem dX0_mix_20 : decode cX0_mix 20 = .ok (.iaload, 1) := by decide +kernel
theorem dX0_mix_21 : decode cX0_mix 21 = .ok (.aload_n 0, 1) := by decide +kernel
theorem dX0_mix_22 : decode cX0_mix 22 = .ok (.getfield 15, 3) := by decide +kernel
theorem dX0_mix_25 : decode cX0_mix 25 = .ok (.iload_n 1, 1) := by decide +kernel
theorem dX0_mix_26 : decode cX0_mix 26 = .ok (.iaload, 1) := by decide +kernel
theorem dX0_mix_27 : decode cX0_mix 27 = .ok (.ixor, 1) := by decide +kernel
theorem dX0_mix_28 : decode cX0_mix 28 = .ok (.istore 5, 2) := by decide +kernel
theorem dX0_mix_30 : decode cX0_mix 30 = .ok (.aload_n 0, 1) := by decide +kernel
theorem dX0_mix_31 : decode cX0_mix 31 = .ok (.getfield 15, 3) := by decide +kernel
theorem dX0_mix_34 : decode cX0_mix 34 = .ok (.iload_n 3, 1) := by decide +kernel
theorem dX0_mix_35 : decode cX0_mix 35 = .ok (.iload 5, 2) := by decide +kernel
theorem dX0_mix_37 : decode cX0_mix 37 = .ok (.iload 4, 2) := by decide +kernel
theorem dX0_mix_39 : decode cX0_mix 39 = .ok (.ishl, 1) := by decide +kernel
theorem dX0_mix_40 : decode cX0_mix 40 = .ok (.iload 5, 2) := by decide +kernel
theorem dX0_mix_42 : decode cX0_mix 42 = .ok (.bipush 32, 2) := by decide +kernel
theorem dX0_mix_44 : decode cX0_mix 44 = .ok (.iload 4, 2) := by decide +kernel
theorem dX0_mix_46 : decode cX0_mix 46 = .ok (.isub, 1) := by decide +kernel
theorem dX0_mix_47 : decode cX0_mix 47 = .ok (.iushr, 1) := by decide +kernel
theorem dX0_mix_48 : decode cX0_mix 48 = .ok (.ior, 1) := by decide +kernel
theorem dX0_mix_49 : decode cX0_mix 49 = .ok (.iastore, 1) := by decide +kernel
theorem dX0_mix_50 : decode cX0_mix 50 = .ok (.return_, 1) := by decide +kernel
theorem dX1_init_0 : decode cX1_init 0 = .ok (.aload_n 0, 1) := by decide +kernel
theorem dX1_init_1 : decode cX1_init 1 = .ok (.invokespecial 3, 3) := by decide +kernel
theorem dX1_init_4 : decode cX1_init 4 = .ok (.aload_n 0, 1) := by decide +kernel
theorem dX1_init_5 : decode cX1_init 5 = .ok (.bipush 32, 2) := by decide +kernel
theorem dX1_init_7 : decode cX1_init 7 = .ok (.newarray .int, 2) := by decide +kernel
theorem dX1_init_9 : decode cX1_init 9 = .ok (.putfield 9, 3) := by decide +kernel
theorem dX1_init_12 : decode cX1_init 12 = .ok (.aload_n 0, 1) := by decide +kernel
theorem dX1_init_13 : decode cX1_init 13 = .ok (.bipush 10, 2) := by decide +kernel
theorem dX1_init_15 : decode cX1_init 15 = .ok (.newarray .long, 2) := by decide +kernel
theorem dX1_init_17 : decode cX1_init 17 = .ok (.putfield 15, 3) := by decide +kernel
theorem dX1_init_20 : decode cX1_init 20 = .ok (.aload_n 0, 1) := by decide +kernel
theorem dX1_init_21 : decode cX1_init 21 = .ok (.bipush 10, 2) := by decide +kernel
theorem dX1_init_23 : decode cX1_init 23 = .ok (.newarray .long, 2) := by decide +kernel
theorem dX1_init_25 : decode cX1_init 25 = .ok (.putfield 19, 3) := by decide +kernel
theorem dX1_init_28 : decode cX1_init 28 = .ok (.aload_n 0, 1) := by decide +kernel
theorem dX1_init_29 : decode cX1_init 29 = .ok (.bipush 10, 2) := by decide +kernel
theorem dX1_init_31 : decode cX1_init 31 = .ok (.newarray .long, 2) := by decide +kernel
theorem dX1_init_33 : decode cX1_init 33 = .ok (.putfield 22, 3) := by decide +kernel
theorem dX1_init_36 : decode cX1_init 36 = .ok (.aload_n 0, 1) := by decide +kernel
theorem dX1_init_37 : decode cX1_init 37 = .ok (.bipush 10, 2) := by decide +kernel
theorem dX1_init_39 : decode cX1_init 39 = .ok (.newarray .long, 2) := by decide +kernel
theorem dX1_init_41 : decode cX1_init 41 = .ok (.putfield 25, 3) := by decide +kernel
theorem dX1_init_44 : decode cX1_init 44 = .ok (.aload_n 0, 1) := by decide +kernel
theorem dX1_init_45 : decode cX1_init 45 = .ok (.bipush 10, 2) := by decide +kernel
theorem dX1_init_47 : decode cX1_init 47 = .ok (.newarray .long, 2) := by decide +kernel
theorem dX1_init_49 : decode cX1_init 49 = .ok (.putfield 28, 3) := by decide +kernel
theorem dX1_init_52 : decode cX1_init 52 = .ok (.aload_n 0, 1) := by decide +kernel
theorem dX1_init_53 : decode cX1_init 53 = .ok (.bipush 10, 2) := by decide +kernel
theorem dX1_init_55 : decode cX1_init 55 = .ok (.newarray .long, 2) := by decide +kernel
theorem dX1_init_57 : decode cX1_init 57 = .ok (.putfield 31, 3) := by decide +kernel
theorem dX1_init_60 : decode cX1_init 60 = .ok (.aload_n 0, 1) := by decide +kernel
theorem dX1_init_61 : decode cX1_init 61 = .ok (.bipush 10, 2) := by decide +kernel
theorem dX1_init_63 : decode cX1_init 63 = .ok (.newarray .long, 2) := by decide +kernel
theorem dX1_init_65 : decode cX1_init 65 = .ok (.putfield 34, 3) := by decide +kernel
theorem dX1_init_68 : decode cX1_init 68 = .ok (.aload_n 0, 1) := by decide +kernel
theorem dX1_init_69 : decode cX1_init 69 = .ok (.bipush 10, 2) := by decide +kernel
theorem dX1_init_71 : decode cX1_init 71 = .ok (.newarray .long, 2) := by decide +kernel
theorem dX1_init_73 : decode cX1_init 73 = .ok (.putfield 37, 3) := by decide +kernel
theorem dX1_init_76 : decode cX1_init 76 = .ok (.aload_n 0, 1) := by decide +kernel
theorem dX1_init_77 : decode cX1_init 77 = .ok (.bipush 10, 2) := by decide +kernel
theorem dX1_init_79 : decode cX1_init 79 = .ok (.newarray .long, 2) := by decide +kernel
theorem dX1_init_81 : decode cX1_init 81 = .ok (.putfield 40, 3) := by decide +kernel
theorem dX1_init_84 : decode cX1_init 84 = .ok (.return_, 1) := by decide +kernel
theorem dX1_multiplyPoint_0 : decode cX1_multiplyPoint 0 = .ok (.aload_n 1, 1) := by decide +kernel
theorem dX1_multiplyPoint_1 : decode cX1_multiplyPoint 1 = .ok (.aload_n 0, 1) := by decide +kernel
theorem dX1_multiplyPoint_2 : decode cX1_multiplyPoint 2 = .ok (.getfield 9, 3) := by decide +kernel
theorem dX1_multiplyPoint_5 : decode cX1_multiplyPoint 5 = .ok (.invokestatic 43, 3) := by decide +kernel
theorem dX1_multiplyPoint_8 : decode cX1_multiplyPoint 8 = .ok (.aload_n 0, 1) := by decide +kernel
theorem dX1_multiplyPoint_9 : decode cX1_multiplyPoint 9 = .ok (.getfield 9, 3) := by decide +kernel
theorem dX1_multiplyPoint_12 : decode cX1_multiplyPoint 12 = .ok (.iconst 0, 1) := by decide +kernel
theorem dX1_multiplyPoint_13 : decode cX1_multiplyPoint 13 = .ok (.dup2, 1) := by decide +kernel
theorem dX1_multiplyPoint_14 : decode cX1_multiplyPoint 14 = .ok (.iaload, 1) := by decide +kernel
theorem dX1_multiplyPoint_15 : decode cX1_multiplyPoint 15 = .ok (.sipush 248, 3) := by decide +kernel
theorem dX1_multiplyPoint_18 : decode cX1_multiplyPoint 18 = .ok (.iand, 1) := by decide +kernel
theorem dX1_multiplyPoint_19 : decode cX1_multiplyPoint 19 = .ok (.iastore, 1) := by decide +kernel
theorem dX1_multiplyPoint_20 : decode cX1_multiplyPoint 20 = .ok (.aload_n 0, 1) := by decide +kernel
theorem dX1_multiplyPoint_21 : decode cX1_multiplyPoint 21 = .ok (.getfield 9, 3) := by decide +kernel
theorem dX1_multiplyPoint_24 : decode cX1_multiplyPoint 24 = .ok (.bipush 31, 2) := by decide +kernel
theorem dX1_multiplyPoint_26 : decode cX1_multiplyPoint 26 = .ok (.aload_n 0, 1) := by decide +kernel
theorem dX1_multiplyPoint_27 : decode cX1_multiplyPoint 27 = .ok (.getfield 9, 3) := by decide +kernel
theorem dX1_multiplyPoint_30 : decode cX1_multiplyPoint 30 = .ok (.bipush 31, 2) := by decide +kernel
theorem dX1_multiplyPoint_32 : decode cX1_multiplyPoint 32 = .ok (.iaload, 1) := by decide +kernel
theorem dX1_multiplyPoint_33 : decode cX1_multiplyPoint 33 = .ok (.bipush 127, 2) := by decide +kernel
theorem dX1_multiplyPoint_35 : decode cX1_multiplyPoint 35 = .ok (.iand, 1) := by decide +kernel
theorem dX1_multiplyPoint_36 : decode cX1_multiplyPoint 36 = .ok (.bipush 64, 2) := by decide +kernel
theorem dX1_multiplyPoint_38 : decode cX1_multiplyPoint 38 = .ok (.ior, 1) := by decide +kernel
theorem dX1_multiplyPoint_39 : decode cX1_multiplyPoint 39 = .ok (.iastore, 1) := by decide +kernel
theorem dX1_multiplyPoint_40 : decode cX1_multiplyPoint 40 = .ok (.aload_n 2, 1) := by decide +kernel
theorem dX1_multiplyPoint_41 : decode cX1_multiplyPoint 41 = .ok (.aload_n 0, 1) := by decide +kernel
theorem dX1_multiplyPoint_42 : decode cX1_multiplyPoint 42 = .ok (.getfield 15, 3) := by decide +kernel
theorem dX1_multiplyPoint_45 : decode cX1_multiplyPoint 45 = .ok (.invokestatic 47, 3) := by decide +kernel
theorem dX1_multiplyPoint_48 : decode cX1_multiplyPoint 48 = .ok (.aload_n 0, 1) := by decide +kernel
theorem dX1_multiplyPoint_49 : decode cX1_multiplyPoint 49 = .ok (.getfield 19, 3) := by decide +kernel
theorem dX1_multiplyPoint_52 : decode cX1_multiplyPoint 52 = .ok (.iconst 1, 1) := by decide +kernel
theorem dX1_multiplyPoint_53 : decode cX1_multiplyPoint 53 = .ok (.invokestatic 51, 3) := by decide +kernel
theorem dX1_multiplyPoint_56 : decode cX1_multiplyPoint 56 = .ok (.aload_n 0, 1) := by decide +kernel
theorem dX1_multiplyPoint_57 : decode cX1_multiplyPoint 57 = .ok (.getfield 22, 3) := by decide +kernel
theorem dX1_multiplyPoint_60 : decode cX1_multiplyPoint 60 = .ok (.iconst 0, 1) := by decide +kernel
theorem dX1_multiplyPoint_61 : decode cX1_multiplyPoint 61 = .ok (.invokestatic 51, 3) := by decide +kernel
theorem dX1_multiplyPoint_64 : decode cX1_multiplyPoint 64 = .ok (.aload_n 0, 1) := by decide +kernel
theorem dX1_multiplyPoint_65 : decode cX1_multiplyPoint 65 = .ok (.getfield 15, 3) := by decide +kernel
theorem dX1_multiplyPoint_68 : decode cX1_multiplyPoint 68 = .ok (.iconst 0, 1) := by decide +kernel
theorem dX1_multiplyPoint_69 : decode cX1_multiplyPoint 69 = .ok (.aload_n 0, 1) := by decide +kernel
theorem dX1_multiplyPoint_70 : decode cX1_multiplyPoint 70 = .ok (.getfield 25, 3) := by decide +kernel
theorem dX1_multiplyPoint_73 : decode cX1_multiplyPoint 73 = .ok (.iconst 0, 1) := by decide +kernel
theorem dX1_multiplyPoint_74 : decode cX1_multiplyPoint 74 = .ok (.bipush 10, 2) := by decide +kernel
theorem dX1_multiplyPoint_76 : decode cX1_multiplyPoint 76 = .ok (.invokestatic 55, 3) := by decide +kernel
theorem dX1_multiplyPoint_79 : decode cX1_multiplyPoint 79 = .ok (.aload_n 0, 1) := by decide +kernel
theorem dX1_multiplyPoint_80 : decode cX1_multiplyPoint 80 = .ok (.getfield 28, 3) := by decide +kernel
theorem dX1_multiplyPoint_83 : decode cX1_multiplyPoint 83 = .ok (.iconst 1, 1) := by decide +kernel
theorem dX1_multiplyPoint_84 : decode cX1_multiplyPoint 84 = .ok (.invokestatic 51, 3) := by decide +kernel
theorem dX1_multiplyPoint_87 : decode cX1_multiplyPoint 87 = .ok (.iconst 0, 1) := by decide +kernel
theorem dX1_multiplyPoint_88 : decode cX1_multiplyPoint 88 = .ok (.istore 4, 2) := by decide +kernel
theorem dX1_multiplyPoint_90 : decode cX1_multiplyPoint 90 = .ok (.sipush 254, 3) := by decide +kernel
theorem dX1_multiplyPoint_93 : decode cX1_multiplyPoint 93 = .ok (.istore 5, 2) := by decide +kernel
theorem dX1_multiplyPoint_95 : decode cX1_multiplyPoint 95 = .ok (.iload 5, 2) := by decide +kernel
theorem dX1_multiplyPoint_97 : decode cX1_multiplyPoint 97 = .ok (.ifCond .lt 56, 3) := by decide +kernel
theorem dX1_multiplyPoint_100 : decode cX1_multiplyPoint 100 = .ok (.aload_n 0, 1) := by decide +kernel
theorem dX1_multiplyPoint_101 : decode cX1_multiplyPoint 101 = .ok (.getfield 9, 3) := by decide +kernel
theorem dX1_multiplyPoint_104 : decode cX1_multiplyPoint 104 = .ok (.iload 5, 2) := by decide +kernel
theorem dX1_multiplyPoint_106 : decode cX1_multiplyPoint 106 = .ok (.iconst 3, 1) := by decide +kernel
theorem dX1_multiplyPoint_107 : decode cX1_multiplyPoint 107 = .ok (.ishr, 1) := by decide +kernel
theorem dX1_multiplyPoint_108 : decode cX1_multiplyPoint 108 = .ok (.iaload, 1) := by decide +kernel
theorem dX1_multiplyPoint_109 : decode cX1_multiplyPoint 109 = .ok (.iload 5, 2) := by decide +kernel
theorem dX1_multiplyPoint_111 : decode cX1_multiplyPoint 111 = .ok (.bipush 7, 2) := by decide +kernel
theorem dX1_multiplyPoint_113 : decode cX1_multiplyPoint 113 = .ok (.iand, 1) := by decide +kernel
theorem dX1_multiplyPoint_114 : decode cX1_multiplyPoint 114 = .ok (.ishr, 1) := by decide +kernel
theorem dX1_multiplyPoint_115 : decode cX1_multiplyPoint 115 = .ok (.iconst 1, 1) := by decide +kernel
theorem dX1_multiplyPoint_116 : decode cX1_multiplyPoint 116 = .ok (.iand, 1) := by decide +kernel
theorem dX1_multiplyPoint_117 : decode cX1_multiplyPoint 117 = .ok (.iconst 1, 1) := by decide +kernel
theorem dX1_multiplyPoint_118 : decode cX1_multiplyPoint 118 = .ok (.if_icmp .ne 7, 3) := by decide +kernel
theorem dX1_multiplyPoint_121 : decode cX1_multiplyPoint 121 = .ok (.iconst 1, 1) := by decide +kernel
theorem dX1_multiplyPoint_122 : decode cX1_multiplyPoint 122 = .ok (.goto 4, 3) := by decide +kernel
theorem dX1_multiplyPoint_125 : decode cX1_multiplyPoint 125 = .ok (.iconst 0, 1) := by decide +kernel
theorem dX1_multiplyPoint_126 : decode cX1_multiplyPoint 126 = .ok (.istore 6, 2) := by decide +kernel
theorem dX1_multiplyPoint_128 : decode cX1_multiplyPoint 128 = .ok (.iload 6, 2) := by decide +kernel
theorem dX1_multiplyPoint_130 : decode cX1_multiplyPoint 130 = .ok (.iload 4, 2) := by decide +kernel
theorem dX1_multiplyPoint_132 : decode cX1_multiplyPoint 132 = .ok (.if_icmp .eq 7, 3) := by decide +kernel
theorem dX1_multiplyPoint_135 : decode cX1_multiplyPoint 135 = .ok (.aload_n 0, 1) := by decide +kernel
theorem dX1_multiplyPoint_136 : decode cX1_multiplyPoint 136 = .ok (.invokevirtual 61, 3) := by decide +kernel
theorem dX1_multiplyPoint_139 : decode cX1_multiplyPoint 139 = .ok (.iload 6, 2) := by decide +kernel
theorem dX1_multiplyPoint_141 : decode cX1_multiplyPoint 141 = .ok (.istore 4, 2) := by decide +kernel
theorem dX1_multiplyPoint_143 : decode cX1_multiplyPoint 143 = .ok (.aload_n 0, 1) := by decide +kernel
theorem dX1_multiplyPoint_144 : decode cX1_multiplyPoint 144 = .ok (.invokevirtual 64, 3) := by decide +kernel
theorem dX1_multiplyPoint_147 : decode cX1_multiplyPoint 147 = .ok (.iinc 5 (-1), 3) := by decide +kernel
theorem dX1_multiplyPoint_150 : decode cX1_multiplyPoint 150 = .ok (.goto (-55), 3) := by decide +kernel
theorem dX1_multiplyPoint_153 : decode cX1_multiplyPoint 153 = .ok (.aload_n 0, 1) := by decide +kernel
theorem dX1_multiplyPoint_154 : decode cX1_multiplyPoint 154 = .ok (.getfield 22, 3) := by decide +kernel
theorem dX1_multiplyPoint_157 : decode cX1_multiplyPoint 157 = .ok (.aload_n 0, 1) := by decide +kernel
theorem dX1_multiplyPoint_158 : decode cX1_multiplyPoint 158 = .ok (.getfield 31, 3) := by decide +kernel
theorem dX1_multiplyPoint_161 : decode cX1_multiplyPoint 161 = .ok (.invokestatic 67, 3) := by decide +kernel
theorem dX1_multiplyPoint_164 : decode cX1_multiplyPoint 164 = .ok (.aload_n 0, 1) := by decide +kernel
theorem dX1_multiplyPoint_165 : decode cX1_multiplyPoint 165 = .ok (.getfield 19, 3) := by decide +kernel
theorem dX1_multiplyPoint_168 : decode cX1_multiplyPoint 168 = .ok (.aload_n 0, 1) := by decide +kernel
theorem dX1_multiplyPoint_169 : decode cX1_multiplyPoint 169 = .ok (.getfield 31, 3) := by decide +kernel
theorem dX1_multiplyPoint_172 : decode cX1_multiplyPoint 172 = .ok (.aload_n 0, 1) := by decide +kernel
theorem dX1_multiplyPoint_173 : decode cX1_multiplyPoint 173 = .ok (.getfield 19, 3) := by decide +kernel
theorem dX1_multiplyPoint_176 : decode cX1_multiplyPoint 176 = .ok (.invokestatic 71, 3) := by decide +kernel
theorem dX1_multiplyPoint_179 : decode cX1_multiplyPoint 179 = .ok (.aload_n 0, 1) := by decide +kernel
theorem dX1_multiplyPoint_180 : decode cX1_multiplyPoint 180 = .ok (.getfield 19, 3) := by decide +kernel
theorem dX1_multiplyPoint_183 : decode cX1_multiplyPoint 183 = .ok (.aload_n 3, 1) := by decide +kernel
theorem dX1_multiplyPoint_184 : decode cX1_multiplyPoint 184 = .ok (.invokestatic 75, 3) := by decide +kernel
theorem dX1_multiplyPoint_187 : decode cX1_multiplyPoint 187 = .ok (.return_, 1) := by decide +kernel
theorem dX1_swap_0 : decode cX1_swap 0 = .ok (.aload_n 0, 1) := by decide +kernel
theorem dX1_swap_1 : decode cX1_swap 1 = .ok (.getfield 19, 3) := by decide +kernel
theorem dX1_swap_4 : decode cX1_swap 4 = .ok (.astore_n 1, 1) := by decide +kernel
theorem dX1_swap_5 : decode cX1_swap 5 = .ok (.aload_n 0, 1) := by decide +kernel
theorem dX1_swap_6 : decode cX1_swap 6 = .ok (.getfield 22, 3) := by decide +kernel
theorem dX1_swap_9 : decode cX1_swap 9 = .ok (.astore_n 2, 1) := by decide +kernel
theorem dX1_swap_10 : decode cX1_swap 10 = .ok (.aload_n 0, 1) := by decide +kernel
theorem dX1_swap_11 : decode cX1_swap 11 = .ok (.aload_n 0, 1) := by decide +kernel
theorem dX1_swap_12 : decode cX1_swap 12 = .ok (.getfield 25, 3) := by decide +kernel
theorem dX1_swap_15 : decode cX1_swap 15 = .ok (.putfield 19, 3) := by decide +kernel
theorem dX1_swap_18 : decode cX1_swap 18 = .ok (.aload_n 0, 1) := by decide +kernel
theorem dX1_swap_19 : decode cX1_swap 19 = .ok (.aload_n 0, 1) := by decide +kernel
theorem dX1_swap_20 : decode cX1_swap 20 = .ok (.getfield 28, 3) := by decide +kernel
theorem dX1_swap_23 : decode cX1_swap 23 = .ok (.putfield 22, 3) := by decide +kernel
theorem dX1_swap_26 : decode cX1_swap 26 = .ok (.aload_n 0, 1) := by decide +kernel
theorem dX1_swap_27 : decode cX1_swap 27 = .ok (.aload_n 1, 1) := by decide +kernel
theorem dX1_swap_28 : decode cX1_swap 28 = .ok (.putfield 25, 3) := by decide +kernel
theorem dX1_swap_31 : decode cX1_swap 31 = .ok (.aload_n 0, 1) := by decide +kernel
theorem dX1_swap_32 : decode cX1_swap 32 = .ok (.aload_n 2, 1) := by decide +kernel
theorem dX1_swap_33 : decode cX1_swap 33 = .ok (.putfield 28, 3) := by decide +kernel
theorem dX1_swap_36 : decode cX1_swap 36 = .ok (.return_, 1) := by decide +kernel
theorem dX1_step_0 : decode cX1_step 0 = .ok (.aload_n 0, 1) := by decide +kernel
theorem dX1_step_1 : decode cX1_step 1 = .ok (.getfield 19, 3) := by decide +kernel
theorem dX1_step_4 : decode cX1_step 4 = .ok (.aload_n 0, 1) := by decide +kernel
theorem dX1_step_5 : decode cX1_step 5 = .ok (.getfield 22, 3) := by decide +kernel
theorem dX1_step_8 : decode cX1_step 8 = .ok (.aload_n 0, 1) := by decide +kernel
theorem dX1_step_9 : decode cX1_step 9 = .ok (.getfield 31, 3) := by decide +kernel
theorem dX1_step_12 : decode cX1_step 12 = .ok (.invokestatic 79, 3) := by decide +kernel
theorem dX1_step_15 : decode cX1_step 15 = .ok (.aload_n 0, 1) := by decide +kernel
theorem dX1_step_16 : decode cX1_step 16 = .ok (.getfield 19, 3) := by decide +kernel
theorem dX1_step_19 : decode cX1_step 19 = .ok (.aload_n 0, 1) := by decide +kernel
theorem dX1_step_20 : decode cX1_step 20 = .ok (.getfield 22, 3) := by decide +kernel
theorem dX1_step_23 : decode cX1_step 23 = .ok (.aload_n 0, 1) := by decide +kernel
theorem dX1_step_24 : decode cX1_step 24 = .ok (.getfield 34, 3) := by decide +kernel
theorem dX1_step_27 : decode cX1_step 27 = .ok (.invokestatic 82, 3) := by decide +kernel
theorem dX1_step_30 : decode cX1_step 30 = .ok (.aload_n 0, 1) := by decide +kernel
theorem dX1_step_31 : decode cX1_step 31 = .ok (.getfield 25, 3) := by decide +kernel
theorem dX1_step_34 : decode cX1_step 34 = .ok (.aload_n 0, 1) := by decide +kernel
theorem dX1_step_35 : decode cX1_step 35 = .ok (.getfield 28, 3) := by decide +kernel
theorem dX1_step_38 : decode cX1_step 38 = .ok (.aload_n 0, 1) := by decide +kernel
theorem dX1_step_39 : decode cX1_step 39 = .ok (.getfield 37, 3) := by decide +kernel
theorem dX1_step_42 : decode cX1_step 42 = .ok (.invokestatic 79, 3) := by decide +kernel
theorem dX1_step_45 : decode cX1_step 45 = .ok (.aload_n 0, 1) := by decide +kernel
theorem dX1_step_46 : decode cX1_step 46 = .ok (.getfield 25, 3) := by decide +kernel
theorem dX1_step_49 : decode cX1_step 49 = .ok (.aload_n 0, 1) := by decide +kernel
theorem dX1_step_50 : decode cX1_step 50 = .ok (.getfield 28, 3) := by decide +kernel
theorem dX1_step_53 : decode cX1_step 53 = .ok (.aload_n 0, 1) := by decide +kernel
theorem dX1_step_54 : decode cX1_step 54 = .ok (.getfield 40, 3) := by decide +kernel
theorem dX1_step_57 : decode cX1_step 57 = .ok (.invokestatic 82, 3) := by decide +kernel
theorem dX1_step_60 : decode cX1_step 60 = .ok (.aload_n 0, 1) := by decide +kernel
theorem dX1_step_61 : decode cX1_step 61 = .ok (.getfield 40, 3) := by decide +kernel
theorem dX1_step_64 : decode cX1_step 64 = .ok (.aload_n 0, 1) := by decide +kernel
theorem dX1_step_65 : decode cX1_step 65 = .ok (.getfield 31, 3) := by decide +kernel
theorem dX1_step_68 : decode cX1_step 68 = .ok (.aload_n 0, 1) := by decide +kernel
theorem dX1_step_69 : decode cX1_step 69 = .ok (.getfield 40, 3) := by decide +kernel
theorem dX1_step_72 : decode cX1_step 72 = .ok (.invokestatic 71, 3) := by decide +kernel
theorem dX1_step_75 : decode cX1_step 75 = .ok (.aload_n 0, 1) := by decide +kernel
theorem dX1_step_76 : decode cX1_step 76 = .ok (.getfield 37, 3) := by decide +kernel
theorem dX1_step_79 : decode cX1_step 79 = .ok (.aload_n 0, 1) := by decide +kernel
theorem dX1_step_80 : decode cX1_step 80 = .ok (.getfield 34, 3) := by decide +kernel
theorem dX1_step_83 : decode cX1_step 83 = .ok (.aload_n 0, 1) := by decide +kernel
theorem dX1_step_84 : decode cX1_step 84 = .ok (.getfield 37, 3) := by decide +kernel
theorem dX1_step_87 : decode cX1_step 87 = .ok (.invokestatic 71, 3) := by decide +kernel
theorem dX1_step_90 : decode cX1_step 90 = .ok (.aload_n 0, 1) := by decide +kernel
theorem dX1_step_91 : decode cX1_step 91 = .ok (.getfield 31, 3) := by decide +kernel
theorem dX1_step_94 : decode cX1_step 94 = .ok (.aload_n 0, 1) := by decide +kernel
theorem dX1_step_95 : decode cX1_step 95 = .ok (.getfield 31, 3) := by decide +kernel
theorem dX1_step_98 : decode cX1_step 98 = .ok (.aload_n 0, 1) := by decide +kernel
theorem dX1_step_99 : decode cX1_step 99 = .ok (.getfield 31, 3) := by decide +kernel
theorem dX1_step_102 : decode cX1_step 102 = .ok (.invokestatic 71, 3) := by decide +kernel
theorem dX1_step_105 : decode cX1_step 105 = .ok (.aload_n 0, 1) := by decide +kernel
theorem dX1_step_106 : decode cX1_step 106 = .ok (.getfield 34, 3) := by decide +kernel
theorem dX1_step_109 : decode cX1_step 109 = .ok (.aload_n 0, 1) := by decide +kernel
theorem dX1_step_110 : decode cX1_step 110 = .ok (.getfield 34, 3) := by decide +kernel
theorem dX1_step_113 : decode cX1_step 113 = .ok (.aload_n 0, 1) := by decide +kernel
theorem dX1_step_114 : decode cX1_step 114 = .ok (.getfield 34, 3) := by decide +kernel
theorem dX1_step_117 : decode cX1_step 117 = .ok (.invokestatic 71, 3) := by decide +kernel
theorem dX1_step_120 : decode cX1_step 120 = .ok (.aload_n 0, 1) := by decide +kernel
theorem dX1_step_121 : decode cX1_step 121 = .ok (.getfield 40, 3) := by decide +kernel
theorem dX1_step_124 : decode cX1_step 124 = .ok (.aload_n 0, 1) := by decide +kernel
theorem dX1_step_125 : decode cX1_step 125 = .ok (.getfield 37, 3) := by decide +kernel
theorem dX1_step_128 : decode cX1_step 128 = .ok (.aload_n 0, 1) := by decide +kernel
theorem dX1_step_129 : decode cX1_step 129 = .ok (.getfield 25, 3) := by decide +kernel
theorem dX1_step_132 : decode cX1_step 132 = .ok (.invokestatic 79, 3) := by decide +kernel
theorem dX1_step_135 : decode cX1_step 135 = .ok (.aload_n 0, 1) := by decide +kernel
theorem dX1_step_136 : decode cX1_step 136 = .ok (.getfield 25, 3) := by decide +kernel
theorem dX1_step_139 : decode cX1_step 139 = .ok (.aload_n 0, 1) := by decide +kernel
theorem dX1_step_140 : decode cX1_step 140 = .ok (.getfield 25, 3) := by decide +kernel
theorem dX1_step_143 : decode cX1_step 143 = .ok (.aload_n 0, 1) := by decide +kernel
theorem dX1_step_144 : decode cX1_step 144 = .ok (.getfield 25, 3) := by decide +kernel
theorem dX1_step_147 : decode cX1_step 147 = .ok (.invokestatic 71, 3) := by decide +kernel
theorem dX1_step_150 : decode cX1_step 150 = .ok (.aload_n 0, 1) := by decide +kernel
theorem dX1_step_151 : decode cX1_step 151 = .ok (.getfield 40, 3) := by decide +kernel
theorem dX1_step_154 : decode cX1_step 154 = .ok (.aload_n 0, 1) := by decide +kernel
theorem dX1_step_155 : decode cX1_step 155 = .ok (.getfield 37, 3) := by decide +kernel
theorem dX1_step_158 : decode cX1_step 158 = .ok (.aload_n 0, 1) := by decide +kernel
theorem dX1_step_159 : decode cX1_step 159 = .ok (.getfield 28, 3) := by decide +kernel
theorem dX1_step_162 : decode cX1_step 162 = .ok (.invokestatic 82, 3) := by decide +kernel
theorem dX1_step_165 : decode cX1_step 165 = .ok (.aload_n 0, 1) := by decide +kernel
theorem dX1_step_166 : decode cX1_step 166 = .ok (.getfield 28, 3) := by decide +kernel
theorem dX1_step_169 : decode cX1_step 169 = .ok (.aload_n 0, 1) := by decide +kernel
theorem dX1_step_170 : decode cX1_step 170 = .ok (.getfield 28, 3) := by decide +kernel
theorem dX1_step_173 : decode cX1_step 173 = .ok (.aload_n 0, 1) := by decide +kernel
theorem dX1_step_174 : decode cX1_step 174 = .ok (.getfield 28, 3) := by decide +kernel
theorem dX1_step_177 : decode cX1_step 177 = .ok (.invokestatic 71, 3) := by decide +kernel
theorem dX1_step_180 : decode cX1_step 180 = .ok (.aload_n 0, 1) := by decide +kernel
theorem dX1_step_181 : decode cX1_step 181 = .ok (.getfield 15, 3) := by decide +kernel
theorem dX1_step_184 : decode cX1_step 184 = .ok (.aload_n 0, 1) := by decide +kernel
theorem dX1_step_185 : decode cX1_step 185 = .ok (.getfield 28, 3) := by decide +kernel
theorem dX1_step_188 : decode cX1_step 188 = .ok (.aload_n 0, 1) := by decide +kernel
theorem dX1_step_189 : decode cX1_step 189 = .ok (.getfield 28, 3) := by decide +kernel
theorem dX1_step_192 : decode cX1_step 192 = .ok (.invokestatic 71, 3) := by decide +kernel
theorem dX1_step_195 : decode cX1_step 195 = .ok (.aload_n 0, 1) := by decide +kernel
theorem dX1_step_196 : decode cX1_step 196 = .ok (.getfield 31, 3) := by decide +kernel
theorem dX1_step_199 : decode cX1_step 199 = .ok (.aload_n 0, 1) := by decide +kernel
theorem dX1_step_200 : decode cX1_step 200 = .ok (.getfield 34, 3) := by decide +kernel
theorem dX1_step_203 : decode cX1_step 203 = .ok (.aload_n 0, 1) := by decide +kernel
theorem dX1_step_204 : decode cX1_step 204 = .ok (.getfield 19, 3) := by decide +kernel
theorem dX1_step_207 : decode cX1_step 207 = .ok (.invokestatic 71, 3) := by decide +kernel
theorem dX1_step_210 : decode cX1_step 210 = .ok (.aload_n 0, 1) := by decide +kernel
theorem dX1_step_211 : decode cX1_step 211 = .ok (.getfield 31, 3) := by decide +kernel
theorem dX1_step_214 : decode cX1_step 214 = .ok (.aload_n 0, 1) := by decide +kernel
theorem dX1_step_215 : decode cX1_step 215 = .ok (.getfield 34, 3) := by decide +kernel
theorem dX1_step_218 : decode cX1_step 218 = .ok (.aload_n 0, 1) := by decide +kernel
theorem dX1_step_219 : decode cX1_step 219 = .ok (.getfield 34, 3) := by decide +kernel
theorem dX1_step_222 : decode cX1_step 222 = .ok (.invokestatic 82, 3) := by decide +kernel
theorem dX1_step_225 : decode cX1_step 225 = .ok (.aload_n 0, 1) := by decide +kernel
theorem dX1_step_226 : decode cX1_step 226 = .ok (.getfield 34, 3) := by decide +kernel
theorem dX1_step_229 : decode cX1_step 229 = .ok (.aload_n 0, 1) := by decide +kernel
theorem dX1_step_230 : decode cX1_step 230 = .ok (.getfield 22, 3) := by decide +kernel
theorem dX1_step_233 : decode cX1_step 233 = .ok (.invokestatic 85, 3) := by decide +kernel
theorem dX1_step_236 : decode cX1_step 236 = .ok (.aload_n 0, 1) := by decide +kernel
theorem dX1_step_237 : decode cX1_step 237 = .ok (.getfield 31, 3) := by decide +kernel
theorem dX1_step_240 : decode cX1_step 240 = .ok (.aload_n 0, 1) := by decide +kernel
theorem dX1_step_241 : decode cX1_step 241 = .ok (.getfield 22, 3) := by decide +kernel
theorem dX1_step_244 : decode cX1_step 244 = .ok (.aload_n 0, 1) := by decide +kernel
theorem dX1_step_245 : decode cX1_step 245 = .ok (.getfield 22, 3) := by decide +kernel
theorem dX1_step_248 : decode cX1_step 248 = .ok (.invokestatic 79, 3) := by decide +kernel
theorem dX1_step_251 : decode cX1_step 251 = .ok (.aload_n 0, 1) := by decide +kernel
theorem dX1_step_252 : decode cX1_step 252 = .ok (.getfield 34, 3) := by decide +kernel
theorem dX1_step_255 : decode cX1_step 255 = .ok (.aload_n 0, 1) := by decide +kernel
theorem dX1_step_256 : decode cX1_step 256 = .ok (.getfield 22, 3) := by decide +kernel
theorem dX1_step_259 : decode cX1_step 259 = .ok (.aload_n 0, 1) := by decide +kernel
theorem dX1_step_260 : decode cX1_step 260 = .ok (.getfield 22, 3) := by decide +kernel
theorem dX1_step_263 : decode cX1_step 263 = .ok (.invokestatic 71, 3) := by decide +kernel
theorem dX1_step_266 : decode cX1_step 266 = .ok (.return_, 1) := by decide +kernel
theorem dX1_invert_0 : decode cX1_invert 0 = .ok (.aload_n 0, 1) := by decide +kernel
theorem dX1_invert_1 : decode cX1_invert 1 = .ok (.iconst 0, 1) := by decide +kernel
theorem dX1_invert_2 : decode cX1_invert 2 = .ok (.aload_n 1, 1) := by decide +kernel
theorem dX1_invert_3 : decode cX1_invert 3 = .ok (.iconst 0, 1) := by decide +kernel
theorem dX1_invert_4 : decode cX1_invert 4 = .ok (.bipush 10, 2) := by decide +kernel
theorem dX1_invert_6 : decode cX1_invert 6 = .ok (.invokestatic 55, 3) := by decide +kernel
theorem dX1_invert_9 : decode cX1_invert 9 = .ok (.sipush 253, 3) := by decide +kernel
theorem dX1_invert_12 : decode cX1_invert 12 = .ok (.istore_n 2, 1) := by decide +kernel
theorem dX1_invert_13 : decode cX1_invert 13 = .ok (.iload_n 2, 1) := by decide +kernel
theorem dX1_invert_14 : decode cX1_invert 14 = .ok (.ifCond .lt 31, 3) := by decide +kernel
theorem dX1_invert_17 : decode cX1_invert 17 = .ok (.aload_n 1, 1) := by decide +kernel
theorem dX1_invert_18 : decode cX1_invert 18 = .ok (.aload_n 1, 1) := by decide +kernel
theorem dX1_invert_19 : decode cX1_invert 19 = .ok (.aload_n 1, 1) := by decide +kernel
theorem dX1_invert_20 : decode cX1_invert 20 = .ok (.invokestatic 71, 3) := by decide +kernel
theorem dX1_invert_23 : decode cX1_invert 23 = .ok (.iload_n 2, 1) := by decide +kernel
theorem dX1_invert_24 : decode cX1_invert 24 = .ok (.iconst 2, 1) := by decide +kernel
theorem dX1_invert_25 : decode cX1_invert 25 = .ok (.if_icmp .eq 14, 3) := by decide +kernel
theorem dX1_invert_28 : decode cX1_invert 28 = .ok (.iload_n 2, 1) := by decide +kernel
theorem dX1_invert_29 : decode cX1_invert 29 = .ok (.iconst 4, 1) := by decide +kernel
theorem dX1_invert_30 : decode cX1_invert 30 = .ok (.if_icmp .eq 9, 3) := by decide +kernel
theorem dX1_invert_33 : decode cX1_invert 33 = .ok (.aload_n 1, 1) := by decide +kernel
theorem dX1_invert_34 : decode cX1_invert 34 = .ok (.aload_n 0, 1) := by decide +kernel
theorem dX1_invert_35 : decode cX1_invert 35 = .ok (.aload_n 1, 1) := by decide +kernel
theorem dX1_invert_36 : decode cX1_invert 36 = .ok (.invokestatic 71, 3) := by decide +kernel
theorem dX1_invert_39 : decode cX1_invert 39 = .ok (.iinc 2 (-1), 3) := by decide +kernel
theorem dX1_invert_42 : decode cX1_invert 42 = .ok (.goto (-29), 3) := by decide +kernel
theorem dX1_invert_45 : decode cX1_invert 45 = .ok (.return_, 1) := by decide +kernel
theorem dX1_setSmall_0 : decode cX1_setSmall 0 = .ok (.iconst 0, 1) := by decide +kernel
theorem dX1_setSmall_1 : decode cX1_setSmall 1 = .ok (.istore_n 2, 1) := by decide +kernel
theorem dX1_setSmall_2 : decode cX1_setSmall 2 = .ok (.iload_n 2, 1) := by decide +kernel
theorem dX1_setSmall_3 : decode cX1_setSmall 3 = .ok (.bipush 10, 2) := by decide +kernel
theorem dX1_setSmall_5 : decode cX1_setSmall 5 = .ok (.if_icmp .ge 22, 3) := by decide +kernel
theorem dX1_setSmall_8 : decode cX1_setSmall 8 = .ok (.aload_n 0, 1) := by decide +kernel
theorem dX1_setSmall_9 : decode cX1_setSmall 9 = .ok (.iload_n 2, 1) := by decide +kernel
theorem dX1_setSmall_10 : decode cX1_setSmall 10 = .ok (.iload_n 2, 1) := by decide +kernel
theorem dX1_setSmall_11 : decode cX1_setSmall 11 = .ok (.ifCond .ne 8, 3) := by decide +kernel
theorem dX1_setSmall_14 : decode cX1_setSmall 14 = .ok (.iload_n 1, 1) := by decide +kernel
theorem dX1_setSmall_15 : decode cX1_setSmall 15 = .ok (.i2l, 1) := by decide +kernel
theorem dX1_setSmall_16 : decode cX1_setSmall 16 = .ok (.goto 4, 3) := by decide +kernel
theorem dX1_setSmall_19 : decode cX1_setSmall 19 = .ok (.lconst 0, 1) := by decide +kernel
theorem dX1_setSmall_20 : decode cX1_setSmall 20 = .ok (.lastore, 1) := by decide +kernel
theorem dX1_setSmall_21 : decode cX1_setSmall 21 = .ok (.iinc 2 1, 3) := by decide +kernel
theorem dX1_setSmall_24 : decode cX1_setSmall 24 = .ok (.goto (-22), 3) := by decide +kernel
theorem dX1_setSmall_27 : decode cX1_setSmall 27 = .ok (.return_, 1) := by decide +kernel
theorem dX1_add_0 : decode cX1_add 0 = .ok (.iconst 0, 1) := by decide +kernel
theorem dX1_add_1 : decode cX1_add 1 = .ok (.istore_n 3, 1) := by decide +kernel
theorem dX1_add_2 : decode cX1_add 2 = .ok (.iload_n 3, 1) := by decide +kernel
theorem dX1_add_3 : decode cX1_add 3 = .ok (.bipush 10, 2) := by decide +kernel
theorem dX1_add_5 : decode cX1_add 5 = .ok (.if_icmp .ge 19, 3) := by decide +kernel
theorem dX1_add_8 : decode cX1_add 8 = .ok (.aload_n 2, 1) := by decide +kernel
theorem dX1_add_9 : decode cX1_add 9 = .ok (.iload_n 3, 1) := by decide +kernel
theorem dX1_add_10 : decode cX1_add 10 = .ok (.aload_n 0, 1) := by decide +kernel
theorem dX1_add_11 : decode cX1_add 11 = .ok (.iload_n 3, 1) := by decide +kernel
theorem dX1_add_12 : decode cX1_add 12 = .ok (.laload, 1) := by decide +kernel
theorem dX1_add_13 : decode cX1_add 13 = .ok (.aload_n 1, 1) := by decide +kernel
theorem dX1_add_14 : decode cX1_add 14 = .ok (.iload_n 3, 1) := by decide +kernel
theorem dX1_add_15 : decode cX1_add 15 = .ok (.laload, 1) := by decide +kernel
theorem dX1_add_16 : decode cX1_add 16 = .ok (.ladd, 1) := by decide +kernel
theorem dX1_add_17 : decode cX1_add 17 = .ok (.lastore, 1) := by decide +kernel
theorem dX1_add_18 : decode cX1_add 18 = .ok (.iinc 3 1, 3) := by decide +kernel
theorem dX1_add_21 : decode cX1_add 21 = .ok (.goto (-19), 3) := by decide +kernel
theorem dX1_add_24 : decode cX1_add 24 = .ok (.return_, 1) := by decide +kernel
theorem dX1_subtract_0 : decode cX1_subtract 0 = .ok (.iconst 0, 1) := by decide +kernel
theorem dX1_subtract_1 : decode cX1_subtract 1 = .ok (.istore_n 3, 1) := by decide +kernel
theorem dX1_subtract_2 : decode cX1_subtract 2 = .ok (.iload_n 3, 1) := by decide +kernel
theorem dX1_subtract_3 : decode cX1_subtract 3 = .ok (.bipush 10, 2) := by decide +kernel
theorem dX1_subtract_5 : decode cX1_subtract 5 = .ok (.if_icmp .ge 19, 3) := by decide +kernel
theorem dX1_subtract_8 : decode cX1_subtract 8 = .ok (.aload_n 2, 1) := by decide +kernel
theorem dX1_subtract_9 : decode cX1_subtract 9 = .ok (.iload_n 3, 1) := by decide +kernel
theorem dX1_subtract_10 : decode cX1_subtract 10 = .ok (.aload_n 0, 1) := by decide +kernel
theorem dX1_subtract_11 : decode cX1_subtract 11 = .ok (.iload_n 3, 1) := by decide +kernel
theorem dX1_subtract_12 : decode cX1_subtract 12 = .ok (.laload, 1) := by decide +kernel
theorem dX1_subtract_13 : decode cX1_subtract 13 = .ok (.aload_n 1, 1) := by decide +kernel
theorem dX1_subtract_14 : decode cX1_subtract 14 = .ok (.iload_n 3, 1) := by decide +kernel
theorem dX1_subtract_15 : decode cX1_subtract 15 = .ok (.laload, 1) := by decide +kernel
theorem dX1_subtract_16 : decode cX1_subtract 16 = .ok (.lsub, 1) := by decide +kernel
theorem dX1_subtract_17 : decode cX1_subtract 17 = .ok (.lastore, 1) := by decide +kernel
theorem dX1_subtract_18 : decode cX1_subtract 18 = .ok (.iinc 3 1, 3) := by decide +kernel
theorem dX1_subtract_21 : decode cX1_subtract 21 = .ok (.goto (-19), 3) := by decide +kernel
theorem dX1_subtract_24 : decode cX1_subtract 24 = .ok (.return_, 1) := by decide +kernel
theorem dX1_scale_0 : decode cX1_scale 0 = .ok (.iconst 0, 1) := by decide +kernel
theorem dX1_scale_1 : decode cX1_scale 1 = .ok (.istore_n 2, 1) := by decide +kernel
theorem dX1_scale_2 : decode cX1_scale 2 = .ok (.iload_n 2, 1) := by decide +kernel
theorem dX1_scale_3 : decode cX1_scale 3 = .ok (.bipush 10, 2) := by decide +kernel
theorem dX1_scale_5 : decode cX1_scale 5 = .ok (.if_icmp .ge 19, 3) := by decide +kernel
theorem dX1_scale_8 : decode cX1_scale 8 = .ok (.aload_n 1, 1) := by decide +kernel
theorem dX1_scale_9 : decode cX1_scale 9 = .ok (.iload_n 2, 1) := by decide +kernel
theorem dX1_scale_10 : decode cX1_scale 10 = .ok (.ldc2_w 88, 3) := by decide +kernel
theorem dX1_scale_13 : decode cX1_scale 13 = .ok (.aload_n 0, 1) := by decide +kernel
theorem dX1_scale_14 : decode cX1_scale 14 = .ok (.iload_n 2, 1) := by decide +kernel
theorem dX1_scale_15 : decode cX1_scale 15 = .ok (.laload, 1) := by decide +kernel
theorem dX1_scale_16 : decode cX1_scale 16 = .ok (.lmul, 1) := by decide +kernel
theorem dX1_scale_17 : decode cX1_scale 17 = .ok (.lastore, 1) := by decide +kernel
theorem dX1_scale_18 : decode cX1_scale 18 = .ok (.iinc 2 1, 3) := by decide +kernel
theorem dX1_scale_21 : decode cX1_scale 21 = .ok (.goto (-19), 3) := by decide +kernel
theorem dX1_scale_24 : decode cX1_scale 24 = .ok (.aload_n 1, 1) := by decide +kernel
theorem dX1_scale_25 : decode cX1_scale 25 = .ok (.invokestatic 90, 3) := by decide +kernel
theorem dX1_scale_28 : decode cX1_scale 28 = .ok (.return_, 1) := by decide +kernel
theorem dX1_multiply_0 : decode cX1_multiply 0 = .ok (.aload_n 0, 1) := by decide +kernel
theorem dX1_multiply_1 : decode cX1_multiply 1 = .ok (.iconst 0, 1) := by decide +kernel
theorem dX1_multiply_2 : decode cX1_multiply 2 = .ok (.laload, 1) := by decide +kernel
theorem dX1_multiply_3 : decode cX1_multiply 3 = .ok (.lstore_n 3, 1) := by decide +kernel
theorem dX1_multiply_4 : decode cX1_multiply 4 = .ok (.aload_n 0, 1) := by decide +kernel
theorem dX1_multiply_5 : decode cX1_multiply 5 = .ok (.iconst 1, 1) := by decide +kernel
theorem dX1_multiply_6 : decode cX1_multiply 6 = .ok (.laload, 1) := by decide +kernel
theorem dX1_multiply_7 : decode cX1_multiply 7 = .ok (.lstore 5, 2) := by decide +kernel
theorem dX1_multiply_9 : decode cX1_multiply 9 = .ok (.aload_n 0, 1) := by decide +kernel
theorem dX1_multiply_10 : decode cX1_multiply 10 = .ok (.iconst 2, 1) := by decide +kernel
theorem dX1_multiply_11 : decode cX1_multiply 11 = .ok (.laload, 1) := by decide +kernel
theorem dX1_multiply_12 : decode cX1_multiply 12 = .ok (.lstore 7, 2) := by decide +kernel
theorem dX1_multiply_14 : decode cX1_multiply 14 = .ok (.aload_n 0, 1) := by decide +kernel
theorem dX1_multiply_15 : decode cX1_multiply 15 = .ok (.iconst 3, 1) := by decide +kernel
theorem dX1_multiply_16 : decode cX1_multiply 16 = .ok (.laload, 1) := by decide +kernel
theorem dX1_multiply_17 : decode cX1_multiply 17 = .ok (.lstore 9, 2) := by decide +kernel
theorem dX1_multiply_19 : decode cX1_multiply 19 = .ok (.aload_n 0, 1) := by decide +kernel
theorem dX1_multiply_20 : decode cX1_multiply 20 = .ok (.iconst 4, 1) := by decide +kernel
theorem dX1_multiply_21 : decode cX1_multiply 21 = .ok (.laload, 1) := by decide +kernel
theorem dX1_multiply_22 : decode cX1_multiply 22 = .ok (.lstore 11, 2) := by decide +kernel
theorem dX1_multiply_24 : decode cX1_multiply 24 = .ok (.aload_n 0, 1) := by decide +kernel
theorem dX1_multiply_25 : decode cX1_multiply 25 = .ok (.iconst 5, 1) := by decide +kernel
theorem dX1_multiply_26 : decode cX1_multiply 26 = .ok (.laload, 1) := by decide +kernel
theorem dX1_multiply_27 : decode cX1_multiply 27 = .ok (.lstore 13, 2) := by decide +kernel
theorem dX1_multiply_29 : decode cX1_multiply 29 = .ok (.aload_n 0, 1) := by decide +kernel
theorem dX1_multiply_30 : decode cX1_multiply 30 = .ok (.bipush 6, 2) := by decide +kernel
theorem dX1_multiply_32 : decode cX1_multiply 32 = .ok (.laload, 1) := by decide +kernel
theorem dX1_multiply_33 : decode cX1_multiply 33 = .ok (.lstore 15, 2) := by decide +kernel
theorem dX1_multiply_35 : decode cX1_multiply 35 = .ok (.aload_n 0, 1) := by decide +kernel
theorem dX1_multiply_36 : decode cX1_multiply 36 = .ok (.bipush 7, 2) := by decide +kernel
theorem dX1_multiply_38 : decode cX1_multiply 38 = .ok (.laload, 1) := by decide +kernel
theorem dX1_multiply_39 : decode cX1_multiply 39 = .ok (.lstore 17, 2) := by decide +kernel
theorem dX1_multiply_41 : decode cX1_multiply 41 = .ok (.aload_n 0, 1) := by decide +kernel
theorem dX1_multiply_42 : decode cX1_multiply 42 = .ok (.bipush 8, 2) := by decide +kernel
theorem dX1_multiply_44 : decode cX1_multiply 44 = .ok (.laload, 1) := by decide +kernel
theorem dX1_multiply_45 : decode cX1_multiply 45 = .ok (.lstore 19, 2) := by decide +kernel
theorem dX1_multiply_47 : decode cX1_multiply 47 = .ok (.aload_n 0, 1) := by decide +kernel
theorem dX1_multiply_48 : decode cX1_multiply 48 = .ok (.bipush 9, 2) := by decide +kernel
theorem dX1_multiply_50 : decode cX1_multiply 50 = .ok (.laload, 1) := by decide +kernel
theorem dX1_multiply_51 : decode cX1_multiply 51 = .ok (.lstore 21, 2) := by decide +kernel
theorem dX1_multiply_53 : decode cX1_multiply 53 = .ok (.aload_n 1, 1) := by decide +kernel
theorem dX1_multiply_54 : decode cX1_multiply 54 = .ok (.iconst 0, 1) := by decide +kernel
theorem dX1_multiply_55 : decode cX1_multiply 55 = .ok (.laload, 1) := by decide +kernel
theorem dX1_multiply_56 : decode cX1_multiply 56 = .ok (.lstore 23, 2) := by decide +kernel
theorem dX1_multiply_58 : decode cX1_multiply 58 = .ok (.aload_n 1, 1) := by decide +kernel
theorem dX1_multiply_59 : decode cX1_multiply 59 = .ok (.iconst 1, 1) := by decide +kernel
theorem dX1_multiply_60 : decode cX1_multiply 60 = .ok (.laload, 1) := by decide +kernel
theorem dX1_multiply_61 : decode cX1_multiply 61 = .ok (.lstore 25, 2) := by decide +kernel
theorem dX1_multiply_63 : decode cX1_multiply 63 = .ok (.aload_n 1, 1) := by decide +kernel
theorem dX1_multiply_64 : decode cX1_multiply 64 = .ok (.iconst 2, 1) := by decide +kernel
theorem dX1_multiply_65 : decode cX1_multiply 65 = .ok (.laload, 1) := by decide +kernel
theorem dX1_multiply_66 : decode cX1_multiply 66 = .ok (.lstore 27, 2) := by decide +kernel
theorem dX1_multiply_68 : decode cX1_multiply 68 = .ok (.aload_n 1, 1) := by decide +kernel
theorem dX1_multiply_69 : decode cX1_multiply 69 = .ok (.iconst 3, 1) := by decide +kernel
theorem dX1_multiply_70 : decode cX1_multiply 70 = .ok (.laload, 1) := by decide +kernel
theorem dX1_multiply_71 : decode cX1_multiply 71 = .ok (.lstore 29, 2) := by decide +kernel
theorem dX1_multiply_73 : decode cX1_multiply 73 = .ok (.aload_n 1, 1) := by decide +kernel
theorem dX1_multiply_74 : decode cX1_multiply 74 = .ok (.iconst 4, 1) := by decide +kernel
theorem dX1_multiply_75 : decode cX1_multiply 75 = .ok (.laload, 1) := by decide +kernel
theorem dX1_multiply_76 : decode cX1_multiply 76 = .ok (.lstore 31, 2) := by decide +kernel
theorem dX1_multiply_78 : decode cX1_multiply 78 = .ok (.aload_n 1, 1) := by decide +kernel
theorem dX1_multiply_79 : decode cX1_multiply 79 = .ok (.iconst 5, 1) := by decide +kernel
theorem dX1_multiply_80 : decode cX1_multiply 80 = .ok (.laload, 1) := by decide +kernel
theorem dX1_multiply_81 : decode cX1_multiply 81 = .ok (.lstore 33, 2) := by decide +kernel
theorem dX1_multiply_83 : decode cX1_multiply 83 = .ok (.aload_n 1, 1) := by decide +kernel
theorem dX1_multiply_84 : decode cX1_multiply 84 = .ok (.bipush 6, 2) := by decide +kernel
theorem dX1_multiply_86 : decode cX1_multiply 86 = .ok (.laload, 1) := by decide +kernel
theorem dX1_multiply_87 : decode cX1_multiply 87 = .ok (.lstore 35, 2) := by decide +kernel
theorem dX1_multiply_89 : decode cX1_multiply 89 = .ok (.aload_n 1, 1) := by decide +kernel
theorem dX1_multiply_90 : decode cX1_multiply 90 = .ok (.bipush 7, 2) := by decide +kernel
theorem dX1_multiply_92 : decode cX1_multiply 92 = .ok (.laload, 1) := by decide +kernel
theorem dX1_multiply_93 : decode cX1_multiply 93 = .ok (.lstore 37, 2) := by decide +kernel
theorem dX1_multiply_95 : decode cX1_multiply 95 = .ok (.aload_n 1, 1) := by decide +kernel
theorem dX1_multiply_96 : decode cX1_multiply 96 = .ok (.bipush 8, 2) := by decide +kernel
theorem dX1_multiply_98 : decode cX1_multiply 98 = .ok (.laload, 1) := by decide +kernel
theorem dX1_multiply_99 : decode cX1_multiply 99 = .ok (.lstore 39, 2) := by decide +kernel
theorem dX1_multiply_101 : decode cX1_multiply 101 = .ok (.aload_n 1, 1) := by decide +kernel
theorem dX1_multiply_102 : decode cX1_multiply 102 = .ok (.bipush 9, 2) := by decide +kernel
theorem dX1_multiply_104 : decode cX1_multiply 104 = .ok (.laload, 1) := by decide +kernel
theorem dX1_multiply_105 : decode cX1_multiply 105 = .ok (.lstore 41, 2) := by decide +kernel
theorem dX1_multiply_107 : decode cX1_multiply 107 = .ok (.ldc2_w 94, 3) := by decide +kernel
theorem dX1_multiply_110 : decode cX1_multiply 110 = .ok (.lload 5, 2) := by decide +kernel
theorem dX1_multiply_112 : decode cX1_multiply 112 = .ok (.lmul, 1) := by decide +kernel
theorem dX1_multiply_113 : decode cX1_multiply 113 = .ok (.lstore 43, 2) := by decide +kernel
theorem dX1_multiply_115 : decode cX1_multiply 115 = .ok (.ldc2_w 94, 3) := by decide +kernel
theorem dX1_multiply_118 : decode cX1_multiply 118 = .ok (.lload 9, 2) := by decide +kernel
theorem dX1_multiply_120 : decode cX1_multiply 120 = .ok (.lmul, 1) := by decide +kernel
theorem dX1_multiply_121 : decode cX1_multiply 121 = .ok (.lstore 45, 2) := by decide +kernel
theorem dX1_multiply_123 : decode cX1_multiply 123 = .ok (.ldc2_w 94, 3) := by decide +kernel
theorem dX1_multiply_126 : decode cX1_multiply 126 = .ok (.lload 13, 2) := by decide +kernel
theorem dX1_multiply_128 : decode cX1_multiply 128 = .ok (.lmul, 1) := by decide +kernel
theorem dX1_multiply_129 : decode cX1_multiply 129 = .ok (.lstore 47, 2) := by decide +kernel
theorem dX1_multiply_131 : decode cX1_multiply 131 = .ok (.ldc2_w 94, 3) := by decide +kernel
theorem dX1_multiply_134 : decode cX1_multiply 134 = .ok (.lload 17, 2) := by decide +kernel
theorem dX1_multiply_136 : decode cX1_multiply 136 = .ok (.lmul, 1) := by decide +kernel
theorem dX1_multiply_137 : decode cX1_multiply 137 = .ok (.lstore 49, 2) := by decide +kernel
theorem dX1_multiply_139 : decode cX1_multiply 139 = .ok (.ldc2_w 94, 3) := by decide +kernel
theorem dX1_multiply_142 : decode cX1_multiply 142 = .ok (.lload 21, 2) := by decide +kernel
theorem dX1_multiply_144 : decode cX1_multiply 144 = .ok (.lmul, 1) := by decide +kernel
theorem dX1_multiply_145 : decode cX1_multiply 145 = .ok (.lstore 51, 2) := by decide +kernel
theorem dX1_multiply_147 : decode cX1_multiply 147 = .ok (.ldc2_w 96, 3) := by decide +kernel
theorem dX1_multiply_150 : decode cX1_multiply 150 = .ok (.lload 25, 2) := by decide +kernel
theorem dX1_multiply_152 : decode cX1_multiply 152 = .ok (.lmul, 1) := by decide +kernel
theorem dX1_multiply_153 : decode cX1_multiply 153 = .ok (.lstore 53, 2) := by decide +kernel
theorem dX1_multiply_155 : decode cX1_multiply 155 = .ok (.ldc2_w 96, 3) := by decide +kernel
theorem dX1_multiply_158 : decode cX1_multiply 158 = .ok (.lload 27, 2) := by decide +kernel
theorem dX1_multiply_160 : decode cX1_multiply 160 = .ok (.lmul, 1) := by decide +kernel

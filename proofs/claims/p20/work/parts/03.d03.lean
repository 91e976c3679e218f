theorem dX6_tell_70 : decode cX6_tell 70 = .ok (.aload_n 0, 1) := by decide +kernel
theorem dX6_tell_71 : decode cX6_tell 71 = .ok (.invokevirtual 63, 3) := by decide +kernel
theorem dX6_tell_74 : decode cX6_tell 74 = .ok (.ifCond .eq 7, 3) := by decide +kernel
theorem dX6_tell_77 : decode cX6_tell 77 = .ok (.iconst 1, 1) := by decide +kernel
theorem dX6_tell_78 : decode cX6_tell 78 = .ok (.goto 4, 3) := by decide +kernel
theorem dX6_tell_81 : decode cX6_tell 81 = .ok (.iconst 0, 1) := by decide +kernel
theorem dX6_tell_82 : decode cX6_tell 82 = .ok (.ireturn, 1) := by decide +kernel
theorem dX6_tell_83 : decode cX6_tell 83 = .ok (.aload_n 0, 1) := by decide +kernel
theorem dX6_tell_84 : decode cX6_tell 84 = .ok (.getfield 28, 3) := by decide +kernel
theorem dX6_tell_87 : decode cX6_tell 87 = .ok (.getfield 52, 3) := by decide +kernel
theorem dX6_tell_90 : decode cX6_tell 90 = .ok (.ifCond .eq 7, 3) := by decide +kernel
theorem dX6_tell_93 : decode cX6_tell 93 = .ok (.iconst 1, 1) := by decide +kernel
theorem dX6_tell_94 : decode cX6_tell 94 = .ok (.goto 4, 3) := by decide +kernel
theorem dX6_tell_97 : decode cX6_tell 97 = .ok (.iconst 0, 1) := by decide +kernel
theorem dX6_tell_98 : decode cX6_tell 98 = .ok (.ireturn, 1) := by decide +kernel
theorem dX6_tell_99 : decode cX6_tell 99 = .ok (.aload_n 0, 1) := by decide +kernel
theorem dX6_tell_100 : decode cX6_tell 100 = .ok (.getfield 28, 3) := by decide +kernel
theorem dX6_tell_103 : decode cX6_tell 103 = .ok (.getfield 67, 3) := by decide +kernel
theorem dX6_tell_106 : decode cX6_tell 106 = .ok (.ireturn, 1) := by decide +kernel
theorem dX6_tell_107 : decode cX6_tell 107 = .ok (.aload_n 0, 1) := by decide +kernel
theorem dX6_tell_108 : decode cX6_tell 108 = .ok (.getfield 28, 3) := by decide +kernel
theorem dX6_tell_111 : decode cX6_tell 111 = .ok (.getfield 70, 3) := by decide +kernel
theorem dX6_tell_114 : decode cX6_tell 114 = .ok (.ifCond .eq 7, 3) := by decide +kernel
theorem dX6_tell_117 : decode cX6_tell 117 = .ok (.iconst 1, 1) := by decide +kernel
theorem dX6_tell_118 : decode cX6_tell 118 = .ok (.goto 4, 3) := by decide +kernel
theorem dX6_tell_121 : decode cX6_tell 121 = .ok (.iconst 0, 1) := by decide +kernel
theorem dX6_tell_122 : decode cX6_tell 122 = .ok (.ireturn, 1) := by decide +kernel
theorem dX6_tell_123 : decode cX6_tell 123 = .ok (.aload_n 0, 1) := by decide +kernel
theorem dX6_tell_124 : decode cX6_tell 124 = .ok (.getfield 28, 3) := by decide +kernel
theorem dX6_tell_127 : decode cX6_tell 127 = .ok (.getfield 73, 3) := by decide +kernel
theorem dX6_tell_130 : decode cX6_tell 130 = .ok (.ifCond .eq 7, 3) := by decide +kernel
theorem dX6_tell_133 : decode cX6_tell 133 = .ok (.iconst 1, 1) := by decide +kernel
theorem dX6_tell_134 : decode cX6_tell 134 = .ok (.goto 4, 3) := by decide +kernel
theorem dX6_tell_137 : decode cX6_tell 137 = .ok (.iconst 0, 1) := by decide +kernel
theorem dX6_tell_138 : decode cX6_tell 138 = .ok (.ireturn, 1) := by decide +kernel
theorem dX6_tell_139 : decode cX6_tell 139 = .ok (.aload_n 0, 1) := by decide +kernel
theorem dX6_tell_140 : decode cX6_tell 140 = .ok (.getfield 28, 3) := by decide +kernel
theorem dX6_tell_143 : decode cX6_tell 143 = .ok (.getfield 76, 3) := by decide +kernel
theorem dX6_tell_146 : decode cX6_tell 146 = .ok (.ireturn, 1) := by decide +kernel
theorem dX6_tell_147 : decode cX6_tell 147 = .ok (.bipush (-2), 2) := by decide +kernel
theorem dX6_tell_149 : decode cX6_tell 149 = .ok (.ireturn, 1) := by decide +kernel
theorem dX7_init_0 : decode cX7_init 0 = .ok (.aload_n 0, 1) := by decide +kernel
theorem dX7_init_1 : decode cX7_init 1 = .ok (.invokespecial 3, 3) := by decide +kernel
theorem dX7_init_4 : decode cX7_init 4 = .ok (.aload_n 0, 1) := by decide +kernel
theorem dX7_init_5 : decode cX7_init 5 = .ok (.bipush 32, 2) := by decide +kernel
theorem dX7_init_7 : decode cX7_init 7 = .ok (.newarray .int, 2) := by decide +kernel
theorem dX7_init_9 : decode cX7_init 9 = .ok (.putfield 9, 3) := by decide +kernel
theorem dX7_init_12 : decode cX7_init 12 = .ok (.aload_n 0, 1) := by decide +kernel
theorem dX7_init_13 : decode cX7_init 13 = .ok (.bipush 32, 2) := by decide +kernel
theorem dX7_init_15 : decode cX7_init 15 = .ok (.newarray .int, 2) := by decide +kernel
theorem dX7_init_17 : decode cX7_init 17 = .ok (.putfield 15, 3) := by decide +kernel
theorem dX7_init_20 : decode cX7_init 20 = .ok (.aload_n 0, 1) := by decide +kernel
theorem dX7_init_21 : decode cX7_init 21 = .ok (.bipush 32, 2) := by decide +kernel
theorem dX7_init_23 : decode cX7_init 23 = .ok (.newarray .int, 2) := by decide +kernel
theorem dX7_init_25 : decode cX7_init 25 = .ok (.putfield 18, 3) := by decide +kernel
theorem dX7_init_28 : decode cX7_init 28 = .ok (.aload_n 0, 1) := by decide +kernel
theorem dX7_init_29 : decode cX7_init 29 = .ok (.bipush 32, 2) := by decide +kernel
theorem dX7_init_31 : decode cX7_init 31 = .ok (.newarray .int, 2) := by decide +kernel
theorem dX7_init_33 : decode cX7_init 33 = .ok (.putfield 21, 3) := by decide +kernel
theorem dX7_init_36 : decode cX7_init 36 = .ok (.aload_n 0, 1) := by decide +kernel
theorem dX7_init_37 : decode cX7_init 37 = .ok (.bipush 32, 2) := by decide +kernel
theorem dX7_init_39 : decode cX7_init 39 = .ok (.newarray .int, 2) := by decide +kernel
theorem dX7_init_41 : decode cX7_init 41 = .ok (.putfield 24, 3) := by decide +kernel
theorem dX7_init_44 : decode cX7_init 44 = .ok (.aload_n 0, 1) := by decide +kernel
theorem dX7_init_45 : decode cX7_init 45 = .ok (.bipush 32, 2) := by decide +kernel
theorem dX7_init_47 : decode cX7_init 47 = .ok (.newarray .int, 2) := by decide +kernel
theorem dX7_init_49 : decode cX7_init 49 = .ok (.putfield 27, 3) := by decide +kernel
theorem dX7_init_52 : decode cX7_init 52 = .ok (.aload_n 0, 1) := by decide +kernel
theorem dX7_init_53 : decode cX7_init 53 = .ok (.bipush 32, 2) := by decide +kernel
theorem dX7_init_55 : decode cX7_init 55 = .ok (.newarray .int, 2) := by decide +kernel
theorem dX7_init_57 : decode cX7_init 57 = .ok (.putfield 30, 3) := by decide +kernel
theorem dX7_init_60 : decode cX7_init 60 = .ok (.aload_n 0, 1) := by decide +kernel
theorem dX7_init_61 : decode cX7_init 61 = .ok (.iconst 0, 1) := by decide +kernel
theorem dX7_init_62 : decode cX7_init 62 = .ok (.putfield 33, 3) := by decide +kernel
theorem dX7_init_65 : decode cX7_init 65 = .ok (.aload_n 0, 1) := by decide +kernel
theorem dX7_init_66 : decode cX7_init 66 = .ok (.iconst 0, 1) := by decide +kernel
theorem dX7_init_67 : decode cX7_init 67 = .ok (.putfield 37, 3) := by decide +kernel
theorem dX7_init_70 : decode cX7_init 70 = .ok (.aload_n 0, 1) := by decide +kernel
theorem dX7_init_71 : decode cX7_init 71 = .ok (.iconst 0, 1) := by decide +kernel
theorem dX7_init_72 : decode cX7_init 72 = .ok (.putfield 40, 3) := by decide +kernel
theorem dX7_init_75 : decode cX7_init 75 = .ok (.aload_n 0, 1) := by decide +kernel
theorem dX7_init_76 : decode cX7_init 76 = .ok (.iconst 0, 1) := by decide +kernel
theorem dX7_init_77 : decode cX7_init 77 = .ok (.putfield 43, 3) := by decide +kernel
theorem dX7_init_80 : decode cX7_init 80 = .ok (.aload_n 0, 1) := by decide +kernel
theorem dX7_init_81 : decode cX7_init 81 = .ok (.iconst 0, 1) := by decide +kernel
theorem dX7_init_82 : decode cX7_init 82 = .ok (.putfield 47, 3) := by decide +kernel
theorem dX7_init_85 : decode cX7_init 85 = .ok (.aload_n 0, 1) := by decide +kernel
theorem dX7_init_86 : decode cX7_init 86 = .ok (.iconst 0, 1) := by decide +kernel
theorem dX7_init_87 : decode cX7_init 87 = .ok (.putfield 50, 3) := by decide +kernel
theorem dX7_init_90 : decode cX7_init 90 = .ok (.aload_n 0, 1) := by decide +kernel
theorem dX7_init_91 : decode cX7_init 91 = .ok (.iconst 0, 1) := by decide +kernel
theorem dX7_init_92 : decode cX7_init 92 = .ok (.putfield 53, 3) := by decide +kernel
theorem dX7_init_95 : decode cX7_init 95 = .ok (.return_, 1) := by decide +kernel
theorem dX7_copyFrom_0 : decode cX7_copyFrom 0 = .ok (.aload_n 1, 1) := by decide +kernel
theorem dX7_copyFrom_1 : decode cX7_copyFrom 1 = .ok (.getfield 9, 3) := by decide +kernel
theorem dX7_copyFrom_4 : decode cX7_copyFrom 4 = .ok (.aload_n 0, 1) := by decide +kernel
theorem dX7_copyFrom_5 : decode cX7_copyFrom 5 = .ok (.getfield 9, 3) := by decide +kernel
theorem dX7_copyFrom_8 : decode cX7_copyFrom 8 = .ok (.invokestatic 56, 3) := by decide +kernel
theorem dX7_copyFrom_11 : decode cX7_copyFrom 11 = .ok (.aload_n 1, 1) := by decide +kernel
theorem dX7_copyFrom_12 : decode cX7_copyFrom 12 = .ok (.getfield 15, 3) := by decide +kernel
theorem dX7_copyFrom_15 : decode cX7_copyFrom 15 = .ok (.aload_n 0, 1) := by decide +kernel
theorem dX7_copyFrom_16 : decode cX7_copyFrom 16 = .ok (.getfield 15, 3) := by decide +kernel
theorem dX7_copyFrom_19 : decode cX7_copyFrom 19 = .ok (.invokestatic 56, 3) := by decide +kernel
theorem dX7_copyFrom_22 : decode cX7_copyFrom 22 = .ok (.aload_n 1, 1) := by decide +kernel
theorem dX7_copyFrom_23 : decode cX7_copyFrom 23 = .ok (.getfield 18, 3) := by decide +kernel
theorem dX7_copyFrom_26 : decode cX7_copyFrom 26 = .ok (.aload_n 0, 1) := by decide +kernel
theorem dX7_copyFrom_27 : decode cX7_copyFrom 27 = .ok (.getfield 18, 3) := by decide +kernel
theorem dX7_copyFrom_30 : decode cX7_copyFrom 30 = .ok (.invokestatic 56, 3) := by decide +kernel
theorem dX7_copyFrom_33 : decode cX7_copyFrom 33 = .ok (.aload_n 1, 1) := by decide +kernel
theorem dX7_copyFrom_34 : decode cX7_copyFrom 34 = .ok (.getfield 21, 3) := by decide +kernel
theorem dX7_copyFrom_37 : decode cX7_copyFrom 37 = .ok (.aload_n 0, 1) := by decide +kernel
theorem dX7_copyFrom_38 : decode cX7_copyFrom 38 = .ok (.getfield 21, 3) := by decide +kernel
theorem dX7_copyFrom_41 : decode cX7_copyFrom 41 = .ok (.invokestatic 56, 3) := by decide +kernel
theorem dX7_copyFrom_44 : decode cX7_copyFrom 44 = .ok (.aload_n 1, 1) := by decide +kernel
theorem dX7_copyFrom_45 : decode cX7_copyFrom 45 = .ok (.getfield 24, 3) := by decide +kernel
theorem dX7_copyFrom_48 : decode cX7_copyFrom 48 = .ok (.aload_n 0, 1) := by decide +kernel
theorem dX7_copyFrom_49 : decode cX7_copyFrom 49 = .ok (.getfield 24, 3) := by decide +kernel
theorem dX7_copyFrom_52 : decode cX7_copyFrom 52 = .ok (.invokestatic 56, 3) := by decide +kernel
theorem dX7_copyFrom_55 : decode cX7_copyFrom 55 = .ok (.aload_n 1, 1) := by decide +kernel
theorem dX7_copyFrom_56 : decode cX7_copyFrom 56 = .ok (.getfield 27, 3) := by decide +kernel
theorem dX7_copyFrom_59 : decode cX7_copyFrom 59 = .ok (.aload_n 0, 1) := by decide +kernel
theorem dX7_copyFrom_60 : decode cX7_copyFrom 60 = .ok (.getfield 27, 3) := by decide +kernel
theorem dX7_copyFrom_63 : decode cX7_copyFrom 63 = .ok (.invokestatic 56, 3) := by decide +kernel
theorem dX7_copyFrom_66 : decode cX7_copyFrom 66 = .ok (.aload_n 1, 1) := by decide +kernel
theorem dX7_copyFrom_67 : decode cX7_copyFrom 67 = .ok (.getfield 30, 3) := by decide +kernel
theorem dX7_copyFrom_70 : decode cX7_copyFrom 70 = .ok (.aload_n 0, 1) := by decide +kernel
theorem dX7_copyFrom_71 : decode cX7_copyFrom 71 = .ok (.getfield 30, 3) := by decide +kernel
theorem dX7_copyFrom_74 : decode cX7_copyFrom 74 = .ok (.invokestatic 56, 3) := by decide +kernel
theorem dX7_copyFrom_77 : decode cX7_copyFrom 77 = .ok (.aload_n 0, 1) := by decide +kernel
theorem dX7_copyFrom_78 : decode cX7_copyFrom 78 = .ok (.aload_n 1, 1) := by decide +kernel
theorem dX7_copyFrom_79 : decode cX7_copyFrom 79 = .ok (.getfield 33, 3) := by decide +kernel
theorem dX7_copyFrom_82 : decode cX7_copyFrom 82 = .ok (.putfield 33, 3) := by decide +kernel
theorem dX7_copyFrom_85 : decode cX7_copyFrom 85 = .ok (.aload_n 0, 1) := by decide +kernel
theorem dX7_copyFrom_86 : decode cX7_copyFrom 86 = .ok (.aload_n 1, 1) := by decide +kernel
theorem dX7_copyFrom_87 : decode cX7_copyFrom 87 = .ok (.getfield 37, 3) := by decide +kernel
theorem dX7_copyFrom_90 : decode cX7_copyFrom 90 = .ok (.putfield 37, 3) := by decide +kernel
theorem dX7_copyFrom_93 : decode cX7_copyFrom 93 = .ok (.aload_n 0, 1) := by decide +kernel
theorem dX7_copyFrom_94 : decode cX7_copyFrom 94 = .ok (.aload_n 1, 1) := by decide +kernel
theorem dX7_copyFrom_95 : decode cX7_copyFrom 95 = .ok (.getfield 40, 3) := by decide +kernel
theorem dX7_copyFrom_98 : decode cX7_copyFrom 98 = .ok (.putfield 40, 3) := by decide +kernel
theorem dX7_copyFrom_101 : decode cX7_copyFrom 101 = .ok (.aload_n 0, 1) := by decide +kernel
theorem dX7_copyFrom_102 : decode cX7_copyFrom 102 = .ok (.aload_n 1, 1) := by decide +kernel
theorem dX7_copyFrom_103 : decode cX7_copyFrom 103 = .ok (.getfield 43, 3) := by decide +kernel
theorem dX7_copyFrom_106 : decode cX7_copyFrom 106 = .ok (.putfield 43, 3) := by decide +kernel
theorem dX7_copyFrom_109 : decode cX7_copyFrom 109 = .ok (.aload_n 0, 1) := by decide +kernel
theorem dX7_copyFrom_110 : decode cX7_copyFrom 110 = .ok (.aload_n 1, 1) := by decide +kernel
theorem dX7_copyFrom_111 : decode cX7_copyFrom 111 = .ok (.getfield 47, 3) := by decide +kernel
theorem dX7_copyFrom_114 : decode cX7_copyFrom 114 = .ok (.putfield 47, 3) := by decide +kernel
theorem dX7_copyFrom_117 : decode cX7_copyFrom 117 = .ok (.aload_n 0, 1) := by decide +kernel
theorem dX7_copyFrom_118 : decode cX7_copyFrom 118 = .ok (.aload_n 1, 1) := by decide +kernel
theorem dX7_copyFrom_119 : decode cX7_copyFrom 119 = .ok (.getfield 50, 3) := by decide +kernel
theorem dX7_copyFrom_122 : decode cX7_copyFrom 122 = .ok (.putfield 50, 3) := by decide +kernel
theorem dX7_copyFrom_125 : decode cX7_copyFrom 125 = .ok (.aload_n 0, 1) := by decide +kernel
theorem dX7_copyFrom_126 : decode cX7_copyFrom 126 = .ok (.aload_n 1, 1) := by decide +kernel
theorem dX7_copyFrom_127 : decode cX7_copyFrom 127 = .ok (.getfield 53, 3) := by decide +kernel
theorem dX7_copyFrom_130 : decode cX7_copyFrom 130 = .ok (.putfield 53, 3) := by decide +kernel
theorem dX7_copyFrom_133 : decode cX7_copyFrom 133 = .ok (.return_, 1) := by decide +kernel
theorem dX7_fits_0 : decode cX7_fits 0 = .ok (.aload_n 0, 1) := by decide +kernel
theorem dX7_fits_1 : decode cX7_fits 1 = .ok (.getfield 15, 3) := by decide +kernel
theorem dX7_fits_4 : decode cX7_fits 4 = .ok (.aload_n 1, 1) := by decide +kernel
theorem dX7_fits_5 : decode cX7_fits 5 = .ok (.getfield 15, 3) := by decide +kernel
theorem dX7_fits_8 : decode cX7_fits 8 = .ok (.invokestatic 60, 3) := by decide +kernel
theorem dX7_fits_11 : decode cX7_fits 11 = .ok (.ifCond .eq 35, 3) := by decide +kernel
theorem dX7_fits_14 : decode cX7_fits 14 = .ok (.aload_n 0, 1) := by decide +kernel
theorem dX7_fits_15 : decode cX7_fits 15 = .ok (.getfield 18, 3) := by decide +kernel
theorem dX7_fits_18 : decode cX7_fits 18 = .ok (.aload_n 1, 1) := by decide +kernel
theorem dX7_fits_19 : decode cX7_fits 19 = .ok (.getfield 21, 3) := by decide +kernel
theorem dX7_fits_22 : decode cX7_fits 22 = .ok (.invokestatic 60, 3) := by decide +kernel
theorem dX7_fits_25 : decode cX7_fits 25 = .ok (.ifCond .eq 21, 3) := by decide +kernel
theorem dX7_fits_28 : decode cX7_fits 28 = .ok (.aload_n 0, 1) := by decide +kernel
theorem dX7_fits_29 : decode cX7_fits 29 = .ok (.getfield 21, 3) := by decide +kernel
theorem dX7_fits_32 : decode cX7_fits 32 = .ok (.aload_n 1, 1) := by decide +kernel
theorem dX7_fits_33 : decode cX7_fits 33 = .ok (.getfield 18, 3) := by decide +kernel
theorem dX7_fits_36 : decode cX7_fits 36 = .ok (.invokestatic 60, 3) := by decide +kernel
theorem dX7_fits_39 : decode cX7_fits 39 = .ok (.ifCond .eq 7, 3) := by decide +kernel
theorem dX7_fits_42 : decode cX7_fits 42 = .ok (.iconst 1, 1) := by decide +kernel
theorem dX7_fits_43 : decode cX7_fits 43 = .ok (.goto 4, 3) := by decide +kernel
theorem dX7_fits_46 : decode cX7_fits 46 = .ok (.iconst 0, 1) := by decide +kernel
theorem dX7_fits_47 : decode cX7_fits 47 = .ok (.ireturn, 1) := by decide +kernel
theorem dX7_alike_0 : decode cX7_alike 0 = .ok (.iconst 0, 1) := by decide +kernel
theorem dX7_alike_1 : decode cX7_alike 1 = .ok (.istore_n 2, 1) := by decide +kernel
theorem dX7_alike_2 : decode cX7_alike 2 = .ok (.iload_n 2, 1) := by decide +kernel
theorem dX7_alike_3 : decode cX7_alike 3 = .ok (.bipush 32, 2) := by decide +kernel
theorem dX7_alike_5 : decode cX7_alike 5 = .ok (.if_icmp .ge 20, 3) := by decide +kernel
theorem dX7_alike_8 : decode cX7_alike 8 = .ok (.aload_n 0, 1) := by decide +kernel
theorem dX7_alike_9 : decode cX7_alike 9 = .ok (.iload_n 2, 1) := by decide +kernel
theorem dX7_alike_10 : decode cX7_alike 10 = .ok (.iaload, 1) := by decide +kernel
theorem dX7_alike_11 : decode cX7_alike 11 = .ok (.aload_n 1, 1) := by decide +kernel
theorem dX7_alike_12 : decode cX7_alike 12 = .ok (.iload_n 2, 1) := by decide +kernel
theorem dX7_alike_13 : decode cX7_alike 13 = .ok (.iaload, 1) := by decide +kernel
theorem dX7_alike_14 : decode cX7_alike 14 = .ok (.if_icmp .eq 5, 3) := by decide +kernel
theorem dX7_alike_17 : decode cX7_alike 17 = .ok (.iconst 0, 1) := by decide +kernel
theorem dX7_alike_18 : decode cX7_alike 18 = .ok (.ireturn, 1) := by decide +kernel
theorem dX7_alike_19 : decode cX7_alike 19 = .ok (.iinc 2 1, 3) := by decide +kernel
theorem dX7_alike_22 : decode cX7_alike 22 = .ok (.goto (-20), 3) := by decide +kernel
theorem dX7_alike_25 : decode cX7_alike 25 = .ok (.iconst 1, 1) := by decide +kernel
theorem dX7_alike_26 : decode cX7_alike 26 = .ok (.ireturn, 1) := by decide +kernel
theorem dX8_init_0 : decode cX8_init 0 = .ok (.aload_n 0, 1) := by decide +kernel
theorem dX8_init_1 : decode cX8_init 1 = .ok (.invokespecial 5, 3) := by decide +kernel
theorem dX8_init_4 : decode cX8_init 4 = .ok (.aload_n 0, 1) := by decide +kernel
theorem dX8_init_5 : decode cX8_init 5 = .ok (.iconst 5, 1) := by decide +kernel
theorem dX8_init_6 : decode cX8_init 6 = .ok (.newarray .long, 2) := by decide +kernel
theorem dX8_init_8 : decode cX8_init 8 = .ok (.putfield 11, 3) := by decide +kernel
theorem dX8_init_11 : decode cX8_init 11 = .ok (.aload_n 0, 1) := by decide +kernel
theorem dX8_init_12 : decode cX8_init 12 = .ok (.iconst 5, 1) := by decide +kernel
theorem dX8_init_13 : decode cX8_init 13 = .ok (.newarray .long, 2) := by decide +kernel
theorem dX8_init_15 : decode cX8_init 15 = .ok (.putfield 15, 3) := by decide +kernel
theorem dX8_init_18 : decode cX8_init 18 = .ok (.aload_n 0, 1) := by decide +kernel
theorem dX8_init_19 : decode cX8_init 19 = .ok (.iconst 5, 1) := by decide +kernel
theorem dX8_init_20 : decode cX8_init 20 = .ok (.newarray .long, 2) := by decide +kernel
theorem dX8_init_22 : decode cX8_init 22 = .ok (.putfield 18, 3) := by decide +kernel
theorem dX8_init_25 : decode cX8_init 25 = .ok (.aload_n 0, 1) := by decide +kernel
theorem dX8_init_26 : decode cX8_init 26 = .ok (.bipush 17, 2) := by decide +kernel
theorem dX8_init_28 : decode cX8_init 28 = .ok (.newarray .int, 2) := by decide +kernel
theorem dX8_init_30 : decode cX8_init 30 = .ok (.putfield 21, 3) := by decide +kernel
theorem dX8_init_33 : decode cX8_init 33 = .ok (.aload_n 0, 1) := by decide +kernel
theorem dX8_init_34 : decode cX8_init 34 = .ok (.bipush 16, 2) := by decide +kernel
theorem dX8_init_36 : decode cX8_init 36 = .ok (.newarray .int, 2) := by decide +kernel
theorem dX8_init_38 : decode cX8_init 38 = .ok (.putfield 25, 3) := by decide +kernel
theorem dX8_init_41 : decode cX8_init 41 = .ok (.return_, 1) := by decide +kernel
theorem dX8_begin_0 : decode cX8_begin 0 = .ok (.iconst 0, 1) := by decide +kernel
theorem dX8_begin_1 : decode cX8_begin 1 = .ok (.istore_n 2, 1) := by decide +kernel
theorem dX8_begin_2 : decode cX8_begin 2 = .ok (.iload_n 2, 1) := by decide +kernel
theorem dX8_begin_3 : decode cX8_begin 3 = .ok (.bipush 16, 2) := by decide +kernel
theorem dX8_begin_5 : decode cX8_begin 5 = .ok (.if_icmp .ge 35, 3) := by decide +kernel
theorem dX8_begin_8 : decode cX8_begin 8 = .ok (.aload_n 0, 1) := by decide +kernel
theorem dX8_begin_9 : decode cX8_begin 9 = .ok (.getfield 21, 3) := by decide +kernel
theorem dX8_begin_12 : decode cX8_begin 12 = .ok (.iload_n 2, 1) := by decide +kernel
theorem dX8_begin_13 : decode cX8_begin 13 = .ok (.aload_n 1, 1) := by decide +kernel
theorem dX8_begin_14 : decode cX8_begin 14 = .ok (.iload_n 2, 1) := by decide +kernel
theorem dX8_begin_15 : decode cX8_begin 15 = .ok (.iaload, 1) := by decide +kernel
theorem dX8_begin_16 : decode cX8_begin 16 = .ok (.iload_n 2, 1) := by decide +kernel
theorem dX8_begin_17 : decode cX8_begin 17 = .ok (.invokestatic 28, 3) := by decide +kernel
theorem dX8_begin_20 : decode cX8_begin 20 = .ok (.iand, 1) := by decide +kernel
theorem dX8_begin_21 : decode cX8_begin 21 = .ok (.iastore, 1) := by decide +kernel
theorem dX8_begin_22 : decode cX8_begin 22 = .ok (.aload_n 0, 1) := by decide +kernel
theorem dX8_begin_23 : decode cX8_begin 23 = .ok (.getfield 25, 3) := by decide +kernel
theorem dX8_begin_26 : decode cX8_begin 26 = .ok (.iload_n 2, 1) := by decide +kernel
theorem dX8_begin_27 : decode cX8_begin 27 = .ok (.aload_n 1, 1) := by decide +kernel
theorem dX8_begin_28 : decode cX8_begin 28 = .ok (.bipush 16, 2) := by decide +kernel
theorem dX8_begin_30 : decode cX8_begin 30 = .ok (.iload_n 2, 1) := by decide +kernel
theorem dX8_begin_31 : decode cX8_begin 31 = .ok (.iadd, 1) := by decide +kernel
theorem dX8_begin_32 : decode cX8_begin 32 = .ok (.iaload, 1) := by decide +kernel
theorem dX8_begin_33 : decode cX8_begin 33 = .ok (.iastore, 1) := by decide +kernel
theorem dX8_begin_34 : decode cX8_begin 34 = .ok (.iinc 2 1, 3) := by decide +kernel
theorem dX8_begin_37 : decode cX8_begin 37 = .ok (.goto (-35), 3) := by decide +kernel
theorem dX8_begin_40 : decode cX8_begin 40 = .ok (.aload_n 0, 1) := by decide +kernel
theorem dX8_begin_41 : decode cX8_begin 41 = .ok (.getfield 21, 3) := by decide +kernel
theorem dX8_begin_44 : decode cX8_begin 44 = .ok (.bipush 16, 2) := by decide +kernel
theorem dX8_begin_46 : decode cX8_begin 46 = .ok (.iconst 0, 1) := by decide +kernel
theorem dX8_begin_47 : decode cX8_begin 47 = .ok (.iastore, 1) := by decide +kernel
theorem dX8_begin_48 : decode cX8_begin 48 = .ok (.iconst 0, 1) := by decide +kernel
theorem dX8_begin_49 : decode cX8_begin 49 = .ok (.istore_n 2, 1) := by decide +kernel
theorem dX8_begin_50 : decode cX8_begin 50 = .ok (.iload_n 2, 1) := by decide +kernel
theorem dX8_begin_51 : decode cX8_begin 51 = .ok (.iconst 5, 1) := by decide +kernel
theorem dX8_begin_52 : decode cX8_begin 52 = .ok (.if_icmp .ge 35, 3) := by decide +kernel
theorem dX8_begin_55 : decode cX8_begin 55 = .ok (.aload_n 0, 1) := by decide +kernel
theorem dX8_begin_56 : decode cX8_begin 56 = .ok (.getfield 11, 3) := by decide +kernel
theorem dX8_begin_59 : decode cX8_begin 59 = .ok (.iload_n 2, 1) := by decide +kernel
theorem dX8_begin_60 : decode cX8_begin 60 = .ok (.aload_n 0, 1) := by decide +kernel
theorem dX8_begin_61 : decode cX8_begin 61 = .ok (.getfield 21, 3) := by decide +kernel
theorem dX8_begin_64 : decode cX8_begin 64 = .ok (.bipush 26, 2) := by decide +kernel
theorem dX8_begin_66 : decode cX8_begin 66 = .ok (.iload_n 2, 1) := by decide +kernel
theorem dX8_begin_67 : decode cX8_begin 67 = .ok (.imul, 1) := by decide +kernel
theorem dX8_begin_68 : decode cX8_begin 68 = .ok (.bipush 26, 2) := by decide +kernel
theorem dX8_begin_70 : decode cX8_begin 70 = .ok (.invokestatic 32, 3) := by decide +kernel
theorem dX8_begin_73 : decode cX8_begin 73 = .ok (.lastore, 1) := by decide +kernel
theorem dX8_begin_74 : decode cX8_begin 74 = .ok (.aload_n 0, 1) := by decide +kernel
theorem dX8_begin_75 : decode cX8_begin 75 = .ok (.getfield 15, 3) := by decide +kernel
theorem dX8_begin_78 : decode cX8_begin 78 = .ok (.iload_n 2, 1) := by decide +kernel
theorem dX8_begin_79 : decode cX8_begin 79 = .ok (.lconst 0, 1) := by decide +kernel
theorem dX8_begin_80 : decode cX8_begin 80 = .ok (.lastore, 1) := by decide +kernel
theorem dX8_begin_81 : decode cX8_begin 81 = .ok (.iinc 2 1, 3) := by decide +kernel
theorem dX8_begin_84 : decode cX8_begin 84 = .ok (.goto (-34), 3) := by decide +kernel
theorem dX8_begin_87 : decode cX8_begin 87 = .ok (.return_, 1) := by decide +kernel
theorem dX8_addPadded_0 : decode cX8_addPadded 0 = .ok (.iload_n 2, 1) := by decide +kernel
theorem dX8_addPadded_1 : decode cX8_addPadded 1 = .ok (.istore 4, 2) := by decide +kernel
theorem dX8_addPadded_3 : decode cX8_addPadded 3 = .ok (.iload 4, 2) := by decide +kernel
theorem dX8_addPadded_5 : decode cX8_addPadded 5 = .ok (.iload_n 3, 1) := by decide +kernel
theorem dX8_addPadded_6 : decode cX8_addPadded 6 = .ok (.if_icmp .ge 56, 3) := by decide +kernel
theorem dX8_addPadded_9 : decode cX8_addPadded 9 = .ok (.iconst 0, 1) := by decide +kernel
theorem dX8_addPadded_10 : decode cX8_addPadded 10 = .ok (.istore 5, 2) := by decide +kernel
theorem dX8_addPadded_12 : decode cX8_addPadded 12 = .ok (.iload 5, 2) := by decide +kernel
theorem dX8_addPadded_14 : decode cX8_addPadded 14 = .ok (.bipush 16, 2) := by decide +kernel
theorem dX8_addPadded_16 : decode cX8_addPadded 16 = .ok (.if_icmp .ge 36, 3) := by decide +kernel
theorem dX8_addPadded_19 : decode cX8_addPadded 19 = .ok (.aload_n 0, 1) := by decide +kernel
theorem dX8_addPadded_20 : decode cX8_addPadded 20 = .ok (.getfield 21, 3) := by decide +kernel
theorem dX8_addPadded_23 : decode cX8_addPadded 23 = .ok (.iload 5, 2) := by decide +kernel
theorem dX8_addPadded_25 : decode cX8_addPadded 25 = .ok (.iload 4, 2) := by decide +kernel
theorem dX8_addPadded_27 : decode cX8_addPadded 27 = .ok (.iload 5, 2) := by decide +kernel
theorem dX8_addPadded_29 : decode cX8_addPadded 29 = .ok (.iadd, 1) := by decide +kernel
theorem dX8_addPadded_30 : decode cX8_addPadded 30 = .ok (.iload_n 3, 1) := by decide +kernel
theorem dX8_addPadded_31 : decode cX8_addPadded 31 = .ok (.if_icmp .ge 13, 3) := by decide +kernel
theorem dX8_addPadded_34 : decode cX8_addPadded 34 = .ok (.aload_n 1, 1) := by decide +kernel
theorem dX8_addPadded_35 : decode cX8_addPadded 35 = .ok (.iload 4, 2) := by decide +kernel
theorem dX8_addPadded_37 : decode cX8_addPadded 37 = .ok (.iload 5, 2) := by decide +kernel
theorem dX8_addPadded_39 : decode cX8_addPadded 39 = .ok (.iadd, 1) := by decide +kernel
theorem dX8_addPadded_40 : decode cX8_addPadded 40 = .ok (.iaload, 1) := by decide +kernel
theorem dX8_addPadded_41 : decode cX8_addPadded 41 = .ok (.goto 4, 3) := by decide +kernel
theorem dX8_addPadded_44 : decode cX8_addPadded 44 = .ok (.iconst 0, 1) := by decide +kernel
theorem dX8_addPadded_45 : decode cX8_addPadded 45 = .ok (.iastore, 1) := by decide +kernel
theorem dX8_addPadded_46 : decode cX8_addPadded 46 = .ok (.iinc 5 1, 3) := by decide +kernel
theorem dX8_addPadded_49 : decode cX8_addPadded 49 = .ok (.goto (-37), 3) := by decide +kernel
theorem dX8_addPadded_52 : decode cX8_addPadded 52 = .ok (.aload_n 0, 1) := by decide +kernel
theorem dX8_addPadded_53 : decode cX8_addPadded 53 = .ok (.invokevirtual 36, 3) := by decide +kernel
theorem dX8_addPadded_56 : decode cX8_addPadded 56 = .ok (.iinc 4 16, 3) := by decide +kernel
theorem dX8_addPadded_59 : decode cX8_addPadded 59 = .ok (.goto (-56), 3) := by decide +kernel
theorem dX8_addPadded_62 : decode cX8_addPadded 62 = .ok (.return_, 1) := by decide +kernel
theorem dX8_addSizes_0 : decode cX8_addSizes 0 = .ok (.iconst 0, 1) := by decide +kernel
theorem dX8_addSizes_1 : decode cX8_addSizes 1 = .ok (.istore_n 3, 1) := by decide +kernel
theorem dX8_addSizes_2 : decode cX8_addSizes 2 = .ok (.iload_n 3, 1) := by decide +kernel
theorem dX8_addSizes_3 : decode cX8_addSizes 3 = .ok (.bipush 16, 2) := by decide +kernel
theorem dX8_addSizes_5 : decode cX8_addSizes 5 = .ok (.if_icmp .ge 56, 3) := by decide +kernel
theorem dX8_addSizes_8 : decode cX8_addSizes 8 = .ok (.iload_n 3, 1) := by decide +kernel
theorem dX8_addSizes_9 : decode cX8_addSizes 9 = .ok (.bipush 8, 2) := by decide +kernel
theorem dX8_addSizes_11 : decode cX8_addSizes 11 = .ok (.if_icmp .ge 7, 3) := by decide +kernel
theorem dX8_addSizes_14 : decode cX8_addSizes 14 = .ok (.iload_n 1, 1) := by decide +kernel
theorem dX8_addSizes_15 : decode cX8_addSizes 15 = .ok (.goto 4, 3) := by decide +kernel
theorem dX8_addSizes_18 : decode cX8_addSizes 18 = .ok (.iload_n 2, 1) := by decide +kernel
theorem dX8_addSizes_19 : decode cX8_addSizes 19 = .ok (.istore 4, 2) := by decide +kernel
theorem dX8_addSizes_21 : decode cX8_addSizes 21 = .ok (.iload_n 3, 1) := by decide +kernel
theorem dX8_addSizes_22 : decode cX8_addSizes 22 = .ok (.bipush 7, 2) := by decide +kernel
theorem dX8_addSizes_24 : decode cX8_addSizes 24 = .ok (.iand, 1) := by decide +kernel
theorem dX8_addSizes_25 : decode cX8_addSizes 25 = .ok (.istore 5, 2) := by decide +kernel
theorem dX8_addSizes_27 : decode cX8_addSizes 27 = .ok (.aload_n 0, 1) := by decide +kernel
theorem dX8_addSizes_28 : decode cX8_addSizes 28 = .ok (.getfield 21, 3) := by decide +kernel
theorem dX8_addSizes_31 : decode cX8_addSizes 31 = .ok (.iload_n 3, 1) := by decide +kernel
theorem dX8_addSizes_32 : decode cX8_addSizes 32 = .ok (.iload 5, 2) := by decide +kernel
theorem dX8_addSizes_34 : decode cX8_addSizes 34 = .ok (.iconst 4, 1) := by decide +kernel
theorem dX8_addSizes_35 : decode cX8_addSizes 35 = .ok (.if_icmp .ge 18, 3) := by decide +kernel
theorem dX8_addSizes_38 : decode cX8_addSizes 38 = .ok (.iload 4, 2) := by decide +kernel
theorem dX8_addSizes_40 : decode cX8_addSizes 40 = .ok (.bipush 8, 2) := by decide +kernel
theorem dX8_addSizes_42 : decode cX8_addSizes 42 = .ok (.iload 5, 2) := by decide +kernel
theorem dX8_addSizes_44 : decode cX8_addSizes 44 = .ok (.imul, 1) := by decide +kernel
theorem dX8_addSizes_45 : decode cX8_addSizes 45 = .ok (.iushr, 1) := by decide +kernel
theorem dX8_addSizes_46 : decode cX8_addSizes 46 = .ok (.sipush 255, 3) := by decide +kernel
theorem dX8_addSizes_49 : decode cX8_addSizes 49 = .ok (.iand, 1) := by decide +kernel
theorem dX8_addSizes_50 : decode cX8_addSizes 50 = .ok (.goto 4, 3) := by decide +kernel
theorem dX8_addSizes_53 : decode cX8_addSizes 53 = .ok (.iconst 0, 1) := by decide +kernel
theorem dX8_addSizes_54 : decode cX8_addSizes 54 = .ok (.iastore, 1) := by decide +kernel
theorem dX8_addSizes_55 : decode cX8_addSizes 55 = .ok (.iinc 3 1, 3) := by decide +kernel
theorem dX8_addSizes_58 : decode cX8_addSizes 58 = .ok (.goto (-56), 3) := by decide +kernel
theorem dX8_addSizes_61 : decode cX8_addSizes 61 = .ok (.aload_n 0, 1) := by decide +kernel
theorem dX8_addSizes_62 : decode cX8_addSizes 62 = .ok (.invokevirtual 36, 3) := by decide +kernel
theorem dX8_addSizes_65 : decode cX8_addSizes 65 = .ok (.return_, 1) := by decide +kernel
theorem dX8_finish_0 : decode cX8_finish 0 = .ok (.ldc2_w 39, 3) := by decide +kernel
theorem dX8_finish_3 : decode cX8_finish 3 = .ok (.lstore_n 2, 1) := by decide +kernel
theorem dX8_finish_4 : decode cX8_finish 4 = .ok (.iconst 0, 1) := by decide +kernel
theorem dX8_finish_5 : decode cX8_finish 5 = .ok (.istore 4, 2) := by decide +kernel
theorem dX8_finish_7 : decode cX8_finish 7 = .ok (.iload 4, 2) := by decide +kernel
theorem dX8_finish_9 : decode cX8_finish 9 = .ok (.iconst 5, 1) := by decide +kernel
theorem dX8_finish_10 : decode cX8_finish 10 = .ok (.if_icmp .ge 22, 3) := by decide +kernel
theorem dX8_finish_13 : decode cX8_finish 13 = .ok (.aload_n 0, 1) := by decide +kernel
theorem dX8_finish_14 : decode cX8_finish 14 = .ok (.getfield 15, 3) := by decide +kernel
theorem dX8_finish_17 : decode cX8_finish 17 = .ok (.iload 4, 2) := by decide +kernel
theorem dX8_finish_19 : decode cX8_finish 19 = .ok (.laload, 1) := by decide +kernel
theorem dX8_finish_20 : decode cX8_finish 20 = .ok (.lload_n 2, 1) := by decide +kernel
theorem dX8_finish_21 : decode cX8_finish 21 = .ok (.ladd, 1) := by decide +kernel
theorem dX8_finish_22 : decode cX8_finish 22 = .ok (.bipush 26, 2) := by decide +kernel
theorem dX8_finish_24 : decode cX8_finish 24 = .ok (.lshr, 1) := by decide +kernel
theorem dX8_finish_25 : decode cX8_finish 25 = .ok (.lstore_n 2, 1) := by decide +kernel
theorem dX8_finish_26 : decode cX8_finish 26 = .ok (.iinc 4 1, 3) := by decide +kernel
theorem dX8_finish_29 : decode cX8_finish 29 = .ok (.goto (-22), 3) := by decide +kernel
theorem dX8_finish_32 : decode cX8_finish 32 = .ok (.lload_n 2, 1) := by decide +kernel
theorem dX8_finish_33 : decode cX8_finish 33 = .ok (.ldc2_w 39, 3) := by decide +kernel
theorem dX8_finish_36 : decode cX8_finish 36 = .ok (.lmul, 1) := by decide +kernel
theorem dX8_finish_37 : decode cX8_finish 37 = .ok (.lstore_n 2, 1) := by decide +kernel
theorem dX8_finish_38 : decode cX8_finish 38 = .ok (.lconst 0, 1) := by decide +kernel
theorem dX8_finish_39 : decode cX8_finish 39 = .ok (.lstore 4, 2) := by decide +kernel
theorem dX8_finish_41 : decode cX8_finish 41 = .ok (.iconst 0, 1) := by decide +kernel
theorem dX8_finish_42 : decode cX8_finish 42 = .ok (.istore 6, 2) := by decide +kernel
theorem dX8_finish_44 : decode cX8_finish 44 = .ok (.iconst 0, 1) := by decide +kernel
theorem dX8_finish_45 : decode cX8_finish 45 = .ok (.istore 7, 2) := by decide +kernel
theorem dX8_finish_47 : decode cX8_finish 47 = .ok (.iconst 0, 1) := by decide +kernel
theorem dX8_finish_48 : decode cX8_finish 48 = .ok (.istore 8, 2) := by decide +kernel
theorem dX8_finish_50 : decode cX8_finish 50 = .ok (.iconst 0, 1) := by decide +kernel
theorem dX8_finish_51 : decode cX8_finish 51 = .ok (.istore 9, 2) := by decide +kernel
theorem dX8_finish_53 : decode cX8_finish 53 = .ok (.iload 9, 2) := by decide +kernel
theorem dX8_finish_55 : decode cX8_finish 55 = .ok (.bipush 16, 2) := by decide +kernel
theorem dX8_finish_57 : decode cX8_finish 57 = .ok (.if_icmp .ge 106, 3) := by decide +kernel
theorem dX8_finish_60 : decode cX8_finish 60 = .ok (.iload 6, 2) := by decide +kernel
theorem dX8_finish_62 : decode cX8_finish 62 = .ok (.bipush 8, 2) := by decide +kernel
theorem dX8_finish_64 : decode cX8_finish 64 = .ok (.if_icmp .ge 46, 3) := by decide +kernel
theorem dX8_finish_67 : decode cX8_finish 67 = .ok (.iload 7, 2) := by decide +kernel
theorem dX8_finish_69 : decode cX8_finish 69 = .ok (.iconst 5, 1) := by decide +kernel
theorem dX8_finish_70 : decode cX8_finish 70 = .ok (.if_icmp .ge 40, 3) := by decide +kernel
theorem dX8_finish_73 : decode cX8_finish 73 = .ok (.aload_n 0, 1) := by decide +kernel
theorem dX8_finish_74 : decode cX8_finish 74 = .ok (.getfield 15, 3) := by decide +kernel
theorem dX8_finish_77 : decode cX8_finish 77 = .ok (.iload 7, 2) := by decide +kernel
theorem dX8_finish_79 : decode cX8_finish 79 = .ok (.laload, 1) := by decide +kernel
theorem dX8_finish_80 : decode cX8_finish 80 = .ok (.lload_n 2, 1) := by decide +kernel
theorem dX8_finish_81 : decode cX8_finish 81 = .ok (.ladd, 1) := by decide +kernel
theorem dX8_finish_82 : decode cX8_finish 82 = .ok (.lstore 10, 2) := by decide +kernel
theorem dX8_finish_84 : decode cX8_finish 84 = .ok (.lload 10, 2) := by decide +kernel
theorem dX8_finish_86 : decode cX8_finish 86 = .ok (.bipush 26, 2) := by decide +kernel
theorem dX8_finish_88 : decode cX8_finish 88 = .ok (.lshr, 1) := by decide +kernel
theorem dX8_finish_89 : decode cX8_finish 89 = .ok (.lstore_n 2, 1) := by decide +kernel
theorem dX8_finish_90 : decode cX8_finish 90 = .ok (.lload 4, 2) := by decide +kernel
theorem dX8_finish_92 : decode cX8_finish 92 = .ok (.lload 10, 2) := by decide +kernel
theorem dX8_finish_94 : decode cX8_finish 94 = .ok (.ldc2_w 41, 3) := by decide +kernel
theorem dX8_finish_97 : decode cX8_finish 97 = .ok (.land, 1) := by decide +kernel
theorem dX8_finish_98 : decode cX8_finish 98 = .ok (.iload 6, 2) := by decide +kernel
theorem dX8_finish_100 : decode cX8_finish 100 = .ok (.lshl, 1) := by decide +kernel
theorem dX8_finish_101 : decode cX8_finish 101 = .ok (.lor, 1) := by decide +kernel
theorem dX8_finish_102 : decode cX8_finish 102 = .ok (.lstore 4, 2) := by decide +kernel
theorem dX8_finish_104 : decode cX8_finish 104 = .ok (.iinc 6 26, 3) := by decide +kernel
theorem dX8_finish_107 : decode cX8_finish 107 = .ok (.iinc 7 1, 3) := by decide +kernel
theorem dX8_finish_110 : decode cX8_finish 110 = .ok (.iload 8, 2) := by decide +kernel
theorem dX8_finish_112 : decode cX8_finish 112 = .ok (.lload 4, 2) := by decide +kernel
theorem dX8_finish_114 : decode cX8_finish 114 = .ok (.l2i, 1) := by decide +kernel
theorem dX8_finish_115 : decode cX8_finish 115 = .ok (.sipush 255, 3) := by decide +kernel
theorem dX8_finish_118 : decode cX8_finish 118 = .ok (.iand, 1) := by decide +kernel
theorem dX8_finish_119 : decode cX8_finish 119 = .ok (.aload_n 0, 1) := by decide +kernel
theorem dX8_finish_120 : decode cX8_finish 120 = .ok (.getfield 25, 3) := by decide +kernel
theorem dX8_finish_123 : decode cX8_finish 123 = .ok (.iload 9, 2) := by decide +kernel
theorem dX8_finish_125 : decode cX8_finish 125 = .ok (.iaload, 1) := by decide +kernel
theorem dX8_finish_126 : decode cX8_finish 126 = .ok (.iadd, 1) := by decide +kernel
theorem dX8_finish_127 : decode cX8_finish 127 = .ok (.iadd, 1) := by decide +kernel
theorem dX8_finish_128 : decode cX8_finish 128 = .ok (.istore 8, 2) := by decide +kernel
theorem dX8_finish_130 : decode cX8_finish 130 = .ok (.aload_n 1, 1) := by decide +kernel
theorem dX8_finish_131 : decode cX8_finish 131 = .ok (.iload 9, 2) := by decide +kernel
theorem dX8_finish_133 : decode cX8_finish 133 = .ok (.iload 8, 2) := by decide +kernel
theorem dX8_finish_135 : decode cX8_finish 135 = .ok (.sipush 255, 3) := by decide +kernel
theorem dX8_finish_138 : decode cX8_finish 138 = .ok (.iand, 1) := by decide +kernel
theorem dX8_finish_139 : decode cX8_finish 139 = .ok (.iastore, 1) := by decide +kernel
theorem dX8_finish_140 : decode cX8_finish 140 = .ok (.iload 8, 2) := by decide +kernel
theorem dX8_finish_142 : decode cX8_finish 142 = .ok (.bipush 8, 2) := by decide +kernel
theorem dX8_finish_144 : decode cX8_finish 144 = .ok (.ishr, 1) := by decide +kernel
theorem dX8_finish_145 : decode cX8_finish 145 = .ok (.istore 8, 2) := by decide +kernel
theorem dX8_finish_147 : decode cX8_finish 147 = .ok (.lload 4, 2) := by decide +kernel
theorem dX8_finish_149 : decode cX8_finish 149 = .ok (.bipush 8, 2) := by decide +kernel
theorem dX8_finish_151 : decode cX8_finish 151 = .ok (.lshr, 1) := by decide +kernel
theorem dX8_finish_152 : decode cX8_finish 152 = .ok (.lstore 4, 2) := by decide +kernel
theorem dX8_finish_154 : decode cX8_finish 154 = .ok (.iinc 6 (-8), 3) := by decide +kernel
theorem dX8_finish_157 : decode cX8_finish 157 = .ok (.iinc 9 1, 3) := by decide +kernel
theorem dX8_finish_160 : decode cX8_finish 160 = .ok (.goto (-107), 3) := by decide +kernel
theorem dX8_finish_163 : decode cX8_finish 163 = .ok (.return_, 1) := by decide +kernel
theorem dX8_clampOf_0 : decode cX8_clampOf 0 = .ok (.iload_n 0, 1) := by decide +kernel
theorem dX8_clampOf_1 : decode cX8_clampOf 1 = .ok (.iconst 3, 1) := by decide +kernel
theorem dX8_clampOf_2 : decode cX8_clampOf 2 = .ok (.iand, 1) := by decide +kernel
theorem dX8_clampOf_3 : decode cX8_clampOf 3 = .ok (.iconst 3, 1) := by decide +kernel
theorem dX8_clampOf_4 : decode cX8_clampOf 4 = .ok (.if_icmp .ne 6, 3) := by decide +kernel
theorem dX8_clampOf_7 : decode cX8_clampOf 7 = .ok (.bipush 15, 2) := by decide +kernel
theorem dX8_clampOf_9 : decode cX8_clampOf 9 = .ok (.ireturn, 1) := by decide +kernel
theorem dX8_clampOf_10 : decode cX8_clampOf 10 = .ok (.iload_n 0, 1) := by decide +kernel
theorem dX8_clampOf_11 : decode cX8_clampOf 11 = .ok (.iconst 3, 1) := by decide +kernel
theorem dX8_clampOf_12 : decode cX8_clampOf 12 = .ok (.iand, 1) := by decide +kernel
theorem dX8_clampOf_13 : decode cX8_clampOf 13 = .ok (.ifCond .ne 13, 3) := by decide +kernel
theorem dX8_clampOf_16 : decode cX8_clampOf 16 = .ok (.iload_n 0, 1) := by decide +kernel
theorem dX8_clampOf_17 : decode cX8_clampOf 17 = .ok (.ifCond .le 9, 3) := by decide +kernel
theorem dX8_clampOf_20 : decode cX8_clampOf 20 = .ok (.sipush 252, 3) := by decide +kernel
theorem dX8_clampOf_23 : decode cX8_clampOf 23 = .ok (.goto 6, 3) := by decide +kernel
theorem dX8_clampOf_26 : decode cX8_clampOf 26 = .ok (.sipush 255, 3) := by decide +kernel
theorem dX8_clampOf_29 : decode cX8_clampOf 29 = .ok (.ireturn, 1) := by decide +kernel
theorem dX8_addBlock_0 : decode cX8_addBlock 0 = .ok (.aload_n 0, 1) := by decide +kernel
theorem dX8_addBlock_1 : decode cX8_addBlock 1 = .ok (.getfield 21, 3) := by decide +kernel
theorem dX8_addBlock_4 : decode cX8_addBlock 4 = .ok (.bipush 16, 2) := by decide +kernel
theorem dX8_addBlock_6 : decode cX8_addBlock 6 = .ok (.iconst 1, 1) := by decide +kernel
theorem dX8_addBlock_7 : decode cX8_addBlock 7 = .ok (.iastore, 1) := by decide +kernel
theorem dX8_addBlock_8 : decode cX8_addBlock 8 = .ok (.iconst 0, 1) := by decide +kernel
theorem dX8_addBlock_9 : decode cX8_addBlock 9 = .ok (.istore_n 1, 1) := by decide +kernel
theorem dX8_addBlock_10 : decode cX8_addBlock 10 = .ok (.iload_n 1, 1) := by decide +kernel
theorem dX8_addBlock_11 : decode cX8_addBlock 11 = .ok (.iconst 5, 1) := by decide +kernel
theorem dX8_addBlock_12 : decode cX8_addBlock 12 = .ok (.if_icmp .ge 38, 3) := by decide +kernel
theorem dX8_addBlock_15 : decode cX8_addBlock 15 = .ok (.aload_n 0, 1) := by decide +kernel
theorem dX8_addBlock_16 : decode cX8_addBlock 16 = .ok (.getfield 15, 3) := by decide +kernel
theorem dX8_addBlock_19 : decode cX8_addBlock 19 = .ok (.iload_n 1, 1) := by decide +kernel
theorem dX8_addBlock_20 : decode cX8_addBlock 20 = .ok (.dup2, 1) := by decide +kernel
theorem dX8_addBlock_21 : decode cX8_addBlock 21 = .ok (.laload, 1) := by decide +kernel
theorem dX8_addBlock_22 : decode cX8_addBlock 22 = .ok (.aload_n 0, 1) := by decide +kernel
theorem dX8_addBlock_23 : decode cX8_addBlock 23 = .ok (.getfield 21, 3) := by decide +kernel
theorem dX8_addBlock_26 : decode cX8_addBlock 26 = .ok (.bipush 26, 2) := by decide +kernel
theorem dX8_addBlock_28 : decode cX8_addBlock 28 = .ok (.iload_n 1, 1) := by decide +kernel
theorem dX8_addBlock_29 : decode cX8_addBlock 29 = .ok (.imul, 1) := by decide +kernel
theorem dX8_addBlock_30 : decode cX8_addBlock 30 = .ok (.bipush 26, 2) := by decide +kernel
theorem dX8_addBlock_32 : decode cX8_addBlock 32 = .ok (.invokestatic 32, 3) := by decide +kernel
theorem dX8_addBlock_35 : decode cX8_addBlock 35 = .ok (.ladd, 1) := by decide +kernel
theorem dX8_addBlock_36 : decode cX8_addBlock 36 = .ok (.lastore, 1) := by decide +kernel
theorem dX8_addBlock_37 : decode cX8_addBlock 37 = .ok (.aload_n 0, 1) := by decide +kernel
theorem dX8_addBlock_38 : decode cX8_addBlock 38 = .ok (.getfield 18, 3) := by decide +kernel
theorem dX8_addBlock_41 : decode cX8_addBlock 41 = .ok (.iload_n 1, 1) := by decide +kernel
theorem dX8_addBlock_42 : decode cX8_addBlock 42 = .ok (.lconst 0, 1) := by decide +kernel
theorem dX8_addBlock_43 : decode cX8_addBlock 43 = .ok (.lastore, 1) := by decide +kernel
theorem dX8_addBlock_44 : decode cX8_addBlock 44 = .ok (.iinc 1 1, 3) := by decide +kernel
theorem dX8_addBlock_47 : decode cX8_addBlock 47 = .ok (.goto (-37), 3) := by decide +kernel
theorem dX8_addBlock_50 : decode cX8_addBlock 50 = .ok (.iconst 0, 1) := by decide +kernel
theorem dX8_addBlock_51 : decode cX8_addBlock 51 = .ok (.istore_n 1, 1) := by decide +kernel
theorem dX8_addBlock_52 : decode cX8_addBlock 52 = .ok (.iload_n 1, 1) := by decide +kernel
theorem dX8_addBlock_53 : decode cX8_addBlock 53 = .ok (.iconst 5, 1) := by decide +kernel
theorem dX8_addBlock_54 : decode cX8_addBlock 54 = .ok (.if_icmp .ge 76, 3) := by decide +kernel
theorem dX8_addBlock_57 : decode cX8_addBlock 57 = .ok (.iconst 0, 1) := by decide +kernel
theorem dX8_addBlock_58 : decode cX8_addBlock 58 = .ok (.istore_n 2, 1) := by decide +kernel
theorem dX8_addBlock_59 : decode cX8_addBlock 59 = .ok (.iload_n 2, 1) := by decide +kernel
theorem dX8_addBlock_60 : decode cX8_addBlock 60 = .ok (.iconst 5, 1) := by decide +kernel
theorem dX8_addBlock_61 : decode cX8_addBlock 61 = .ok (.if_icmp .ge 63, 3) := by decide +kernel
theorem dX8_addBlock_64 : decode cX8_addBlock 64 = .ok (.aload_n 0, 1) := by decide +kernel
theorem dX8_addBlock_65 : decode cX8_addBlock 65 = .ok (.getfield 15, 3) := by decide +kernel
theorem dX8_addBlock_68 : decode cX8_addBlock 68 = .ok (.iload_n 1, 1) := by decide +kernel
theorem dX8_addBlock_69 : decode cX8_addBlock 69 = .ok (.laload, 1) := by decide +kernel
theorem dX8_addBlock_70 : decode cX8_addBlock 70 = .ok (.aload_n 0, 1) := by decide +kernel
theorem dX8_addBlock_71 : decode cX8_addBlock 71 = .ok (.getfield 11, 3) := by decide +kernel
theorem dX8_addBlock_74 : decode cX8_addBlock 74 = .ok (.iload_n 2, 1) := by decide +kernel
theorem dX8_addBlock_75 : decode cX8_addBlock 75 = .ok (.laload, 1) := by decide +kernel
theorem dX8_addBlock_76 : decode cX8_addBlock 76 = .ok (.lmul, 1) := by decide +kernel
theorem dX8_addBlock_77 : decode cX8_addBlock 77 = .ok (.lstore_n 3, 1) := by decide +kernel
theorem dX8_addBlock_78 : decode cX8_addBlock 78 = .ok (.iload_n 1, 1) := by decide +kernel
theorem dX8_addBlock_79 : decode cX8_addBlock 79 = .ok (.iload_n 2, 1) := by decide +kernel
theorem dX8_addBlock_80 : decode cX8_addBlock 80 = .ok (.iadd, 1) := by decide +kernel
theorem dX8_addBlock_81 : decode cX8_addBlock 81 = .ok (.iconst 5, 1) := by decide +kernel
theorem dX8_addBlock_82 : decode cX8_addBlock 82 = .ok (.if_icmp .ge 18, 3) := by decide +kernel
theorem dX8_addBlock_85 : decode cX8_addBlock 85 = .ok (.aload_n 0, 1) := by decide +kernel
theorem dX8_addBlock_86 : decode cX8_addBlock 86 = .ok (.getfield 18, 3) := by decide +kernel
theorem dX8_addBlock_89 : decode cX8_addBlock 89 = .ok (.iload_n 1, 1) := by decide +kernel
theorem dX8_addBlock_90 : decode cX8_addBlock 90 = .ok (.iload_n 2, 1) := by decide +kernel
theorem dX8_addBlock_91 : decode cX8_addBlock 91 = .ok (.iadd, 1) := by decide +kernel
theorem dX8_addBlock_92 : decode cX8_addBlock 92 = .ok (.dup2, 1) := by decide +kernel
theorem dX8_addBlock_93 : decode cX8_addBlock 93 = .ok (.laload, 1) := by decide +kernel
theorem dX8_addBlock_94 : decode cX8_addBlock 94 = .ok (.lload_n 3, 1) := by decide +kernel
theorem dX8_addBlock_95 : decode cX8_addBlock 95 = .ok (.ladd, 1) := by decide +kernel
theorem dX8_addBlock_96 : decode cX8_addBlock 96 = .ok (.lastore, 1) := by decide +kernel
theorem dX8_addBlock_97 : decode cX8_addBlock 97 = .ok (.goto 21, 3) := by decide +kernel
theorem dX8_addBlock_100 : decode cX8_addBlock 100 = .ok (.aload_n 0, 1) := by decide +kernel
theorem dX8_addBlock_101 : decode cX8_addBlock 101 = .ok (.getfield 18, 3) := by decide +kernel
theorem dX8_addBlock_104 : decode cX8_addBlock 104 = .ok (.iload_n 1, 1) := by decide +kernel
theorem dX8_addBlock_105 : decode cX8_addBlock 105 = .ok (.iload_n 2, 1) := by decide +kernel
theorem dX8_addBlock_106 : decode cX8_addBlock 106 = .ok (.iadd, 1) := by decide +kernel
theorem dX8_addBlock_107 : decode cX8_addBlock 107 = .ok (.iconst 5, 1) := by decide +kernel
theorem dX8_addBlock_108 : decode cX8_addBlock 108 = .ok (.isub, 1) := by decide +kernel
theorem dX8_addBlock_109 : decode cX8_addBlock 109 = .ok (.dup2, 1) := by decide +kernel
theorem dX8_addBlock_110 : decode cX8_addBlock 110 = .ok (.laload, 1) := by decide +kernel
theorem dX8_addBlock_111 : decode cX8_addBlock 111 = .ok (.ldc2_w 39, 3) := by decide +kernel
theorem dX8_addBlock_114 : decode cX8_addBlock 114 = .ok (.lload_n 3, 1) := by decide +kernel
theorem dX8_addBlock_115 : decode cX8_addBlock 115 = .ok (.lmul, 1) := by decide +kernel
theorem dX8_addBlock_116 : decode cX8_addBlock 116 = .ok (.ladd, 1) := by decide +kernel
theorem dX8_addBlock_117 : decode cX8_addBlock 117 = .ok (.lastore, 1) := by decide +kernel
theorem dX8_addBlock_118 : decode cX8_addBlock 118 = .ok (.iinc 2 1, 3) := by decide +kernel
theorem dX8_addBlock_121 : decode cX8_addBlock 121 = .ok (.goto (-62), 3) := by decide +kernel
theorem dX8_addBlock_124 : decode cX8_addBlock 124 = .ok (.iinc 1 1, 3) := by decide +kernel
theorem dX8_addBlock_127 : decode cX8_addBlock 127 = .ok (.goto (-75), 3) := by decide +kernel
theorem dX8_addBlock_130 : decode cX8_addBlock 130 = .ok (.lconst 0, 1) := by decide +kernel
theorem dX8_addBlock_131 : decode cX8_addBlock 131 = .ok (.lstore_n 1, 1) := by decide +kernel
theorem dX8_addBlock_132 : decode cX8_addBlock 132 = .ok (.iconst 0, 1) := by decide +kernel
theorem dX8_addBlock_133 : decode cX8_addBlock 133 = .ok (.istore_n 3, 1) := by decide +kernel
theorem dX8_addBlock_134 : decode cX8_addBlock 134 = .ok (.iload_n 3, 1) := by decide +kernel
theorem dX8_addBlock_135 : decode cX8_addBlock 135 = .ok (.iconst 5, 1) := by decide +kernel
theorem dX8_addBlock_136 : decode cX8_addBlock 136 = .ok (.if_icmp .ge 37, 3) := by decide +kernel
theorem dX8_addBlock_139 : decode cX8_addBlock 139 = .ok (.aload_n 0, 1) := by decide +kernel
theorem dX8_addBlock_140 : decode cX8_addBlock 140 = .ok (.getfield 18, 3) := by decide +kernel
theorem dX8_addBlock_143 : decode cX8_addBlock 143 = .ok (.iload_n 3, 1) := by decide +kernel
theorem dX8_addBlock_144 : decode cX8_addBlock 144 = .ok (.laload, 1) := by decide +kernel
theorem dX8_addBlock_145 : decode cX8_addBlock 145 = .ok (.lload_n 1, 1) := by decide +kernel
theorem dX8_addBlock_146 : decode cX8_addBlock 146 = .ok (.ladd, 1) := by decide +kernel
theorem dX8_addBlock_147 : decode cX8_addBlock 147 = .ok (.lstore 4, 2) := by decide +kernel
theorem dX8_addBlock_149 : decode cX8_addBlock 149 = .ok (.lload 4, 2) := by decide +kernel
theorem dX8_addBlock_151 : decode cX8_addBlock 151 = .ok (.bipush 26, 2) := by decide +kernel
theorem dX8_addBlock_153 : decode cX8_addBlock 153 = .ok (.lshr, 1) := by decide +kernel
theorem dX8_addBlock_154 : decode cX8_addBlock 154 = .ok (.lstore_n 1, 1) := by decide +kernel
theorem dX8_addBlock_155 : decode cX8_addBlock 155 = .ok (.aload_n 0, 1) := by decide +kernel
theorem dX8_addBlock_156 : decode cX8_addBlock 156 = .ok (.getfield 15, 3) := by decide +kernel
theorem dX8_addBlock_159 : decode cX8_addBlock 159 = .ok (.iload_n 3, 1) := by decide +kernel
theorem dX8_addBlock_160 : decode cX8_addBlock 160 = .ok (.lload 4, 2) := by decide +kernel
theorem dX8_addBlock_162 : decode cX8_addBlock 162 = .ok (.ldc2_w 41, 3) := by decide +kernel
theorem dX8_addBlock_165 : decode cX8_addBlock 165 = .ok (.land, 1) := by decide +kernel
theorem dX8_addBlock_166 : decode cX8_addBlock 166 = .ok (.lastore, 1) := by decide +kernel
theorem dX8_addBlock_167 : decode cX8_addBlock 167 = .ok (.iinc 3 1, 3) := by decide +kernel
theorem dX8_addBlock_170 : decode cX8_addBlock 170 = .ok (.goto (-36), 3) := by decide +kernel
theorem dX8_addBlock_173 : decode cX8_addBlock 173 = .ok (.aload_n 0, 1) := by decide +kernel
theorem dX8_addBlock_174 : decode cX8_addBlock 174 = .ok (.getfield 15, 3) := by decide +kernel
theorem dX8_addBlock_177 : decode cX8_addBlock 177 = .ok (.iconst 0, 1) := by decide +kernel
theorem dX8_addBlock_178 : decode cX8_addBlock 178 = .ok (.dup2, 1) := by decide +kernel
theorem dX8_addBlock_179 : decode cX8_addBlock 179 = .ok (.laload, 1) := by decide +kernel
theorem dX8_addBlock_180 : decode cX8_addBlock 180 = .ok (.ldc2_w 39, 3) := by decide +kernel
theorem dX8_addBlock_183 : decode cX8_addBlock 183 = .ok (.lload_n 1, 1) := by decide +kernel
theorem dX8_addBlock_184 : decode cX8_addBlock 184 = .ok (.lmul, 1) := by decide +kernel
theorem dX8_addBlock_185 : decode cX8_addBlock 185 = .ok (.ladd, 1) := by decide +kernel
theorem dX8_addBlock_186 : decode cX8_addBlock 186 = .ok (.lastore, 1) := by decide +kernel
theorem dX8_addBlock_187 : decode cX8_addBlock 187 = .ok (.aload_n 0, 1) := by decide +kernel
theorem dX8_addBlock_188 : decode cX8_addBlock 188 = .ok (.getfield 15, 3) := by decide +kernel
theorem dX8_addBlock_191 : decode cX8_addBlock 191 = .ok (.iconst 1, 1) := by decide +kernel
theorem dX8_addBlock_192 : decode cX8_addBlock 192 = .ok (.dup2, 1) := by decide +kernel
theorem dX8_addBlock_193 : decode cX8_addBlock 193 = .ok (.laload, 1) := by decide +kernel
theorem dX8_addBlock_194 : decode cX8_addBlock 194 = .ok (.aload_n 0, 1) := by decide +kernel
theorem dX8_addBlock_195 : decode cX8_addBlock 195 = .ok (.getfield 15, 3) := by decide +kernel
theorem dX8_addBlock_198 : decode cX8_addBlock 198 = .ok (.iconst 0, 1) := by decide +kernel
theorem dX8_addBlock_199 : decode cX8_addBlock 199 = .ok (.laload, 1) := by decide +kernel
theorem dX8_addBlock_200 : decode cX8_addBlock 200 = .ok (.bipush 26, 2) := by decide +kernel
theorem dX8_addBlock_202 : decode cX8_addBlock 202 = .ok (.lshr, 1) := by decide +kernel
theorem dX8_addBlock_203 : decode cX8_addBlock 203 = .ok (.ladd, 1) := by decide +kernel
theorem dX8_addBlock_204 : decode cX8_addBlock 204 = .ok (.lastore, 1) := by decide +kernel
theorem dX8_addBlock_205 : decode cX8_addBlock 205 = .ok (.aload_n 0, 1) := by decide +kernel
theorem dX8_addBlock_206 : decode cX8_addBlock 206 = .ok (.getfield 15, 3) := by decide +kernel
theorem dX8_addBlock_209 : decode cX8_addBlock 209 = .ok (.iconst 0, 1) := by decide +kernel
theorem dX8_addBlock_210 : decode cX8_addBlock 210 = .ok (.dup2, 1) := by decide +kernel
theorem dX8_addBlock_211 : decode cX8_addBlock 211 = .ok (.laload, 1) := by decide +kernel
theorem dX8_addBlock_212 : decode cX8_addBlock 212 = .ok (.ldc2_w 41, 3) := by decide +kernel
theorem dX8_addBlock_215 : decode cX8_addBlock 215 = .ok (.land, 1) := by decide +kernel
theorem dX8_addBlock_216 : decode cX8_addBlock 216 = .ok (.lastore, 1) := by decide +kernel
theorem dX8_addBlock_217 : decode cX8_addBlock 217 = .ok (.return_, 1) := by decide +kernel
theorem dX9_init_0 : decode cX9_init 0 = .ok (.aload_n 0, 1) := by decide +kernel
theorem dX9_init_1 : decode cX9_init 1 = .ok (.invokespecial 3, 3) := by decide +kernel
theorem dX9_init_4 : decode cX9_init 4 = .ok (.aload_n 0, 1) := by decide +kernel
theorem dX9_init_5 : decode cX9_init 5 = .ok (.new 9, 3) := by decide +kernel
theorem dX9_init_8 : decode cX9_init 8 = .ok (.dup, 1) := by decide +kernel
theorem dX9_init_9 : decode cX9_init 9 = .ok (.invokespecial 11, 3) := by decide +kernel
theorem dX9_init_12 : decode cX9_init 12 = .ok (.putfield 12, 3) := by decide +kernel
theorem dX9_init_15 : decode cX9_init 15 = .ok (.aload_n 0, 1) := by decide +kernel
theorem dX9_init_16 : decode cX9_init 16 = .ok (.new 18, 3) := by decide +kernel
theorem dX9_init_19 : decode cX9_init 19 = .ok (.dup, 1) := by decide +kernel
theorem dX9_init_20 : decode cX9_init 20 = .ok (.invokespecial 20, 3) := by decide +kernel
theorem dX9_init_23 : decode cX9_init 23 = .ok (.putfield 21, 3) := by decide +kernel
theorem dX9_init_26 : decode cX9_init 26 = .ok (.aload_n 0, 1) := by decide +kernel
theorem dX9_init_27 : decode cX9_init 27 = .ok (.new 25, 3) := by decide +kernel
theorem dX9_init_30 : decode cX9_init 30 = .ok (.dup, 1) := by decide +kernel
theorem dX9_init_31 : decode cX9_init 31 = .ok (.invokespecial 27, 3) := by decide +kernel
theorem dX9_init_34 : decode cX9_init 34 = .ok (.putfield 28, 3) := by decide +kernel
theorem dX9_init_37 : decode cX9_init 37 = .ok (.aload_n 0, 1) := by decide +kernel
theorem dX9_init_38 : decode cX9_init 38 = .ok (.new 32, 3) := by decide +kernel
theorem dX9_init_41 : decode cX9_init 41 = .ok (.dup, 1) := by decide +kernel
theorem dX9_init_42 : decode cX9_init 42 = .ok (.invokespecial 34, 3) := by decide +kernel
theorem dX9_init_45 : decode cX9_init 45 = .ok (.putfield 35, 3) := by decide +kernel
theorem dX9_init_48 : decode cX9_init 48 = .ok (.aload_n 0, 1) := by decide +kernel
theorem dX9_init_49 : decode cX9_init 49 = .ok (.new 39, 3) := by decide +kernel
theorem dX9_init_52 : decode cX9_init 52 = .ok (.dup, 1) := by decide +kernel
theorem dX9_init_53 : decode cX9_init 53 = .ok (.invokespecial 41, 3) := by decide +kernel
theorem dX9_init_56 : decode cX9_init 56 = .ok (.putfield 42, 3) := by decide +kernel
theorem dX9_init_59 : decode cX9_init 59 = .ok (.aload_n 0, 1) := by decide +kernel
theorem dX9_init_60 : decode cX9_init 60 = .ok (.bipush 32, 2) := by decide +kernel
theorem dX9_init_62 : decode cX9_init 62 = .ok (.newarray .int, 2) := by decide +kernel
theorem dX9_init_64 : decode cX9_init 64 = .ok (.putfield 46, 3) := by decide +kernel
theorem dX9_init_67 : decode cX9_init 67 = .ok (.aload_n 0, 1) := by decide +kernel
theorem dX9_init_68 : decode cX9_init 68 = .ok (.bipush 32, 2) := by decide +kernel
theorem dX9_init_70 : decode cX9_init 70 = .ok (.newarray .int, 2) := by decide +kernel
theorem dX9_init_72 : decode cX9_init 72 = .ok (.putfield 50, 3) := by decide +kernel
theorem dX9_init_75 : decode cX9_init 75 = .ok (.aload_n 0, 1) := by decide +kernel
theorem dX9_init_76 : decode cX9_init 76 = .ok (.new 53, 3) := by decide +kernel
theorem dX9_init_79 : decode cX9_init 79 = .ok (.dup, 1) := by decide +kernel
theorem dX9_init_80 : decode cX9_init 80 = .ok (.bipush 32, 2) := by decide +kernel
theorem dX9_init_82 : decode cX9_init 82 = .ok (.invokespecial 55, 3) := by decide +kernel
theorem dX9_init_85 : decode cX9_init 85 = .ok (.putfield 58, 3) := by decide +kernel
theorem dX9_init_88 : decode cX9_init 88 = .ok (.return_, 1) := by decide +kernel
theorem dX9_secretOf_0 : decode cX9_secretOf 0 = .ok (.aload_n 0, 1) := by decide +kernel
theorem dX9_secretOf_1 : decode cX9_secretOf 1 = .ok (.getfield 12, 3) := by decide +kernel
theorem dX9_secretOf_4 : decode cX9_secretOf 4 = .ok (.invokevirtual 62, 3) := by decide +kernel
theorem dX9_secretOf_7 : decode cX9_secretOf 7 = .ok (.aload_n 0, 1) := by decide +kernel
theorem dX9_secretOf_8 : decode cX9_secretOf 8 = .ok (.getfield 12, 3) := by decide +kernel
theorem dX9_secretOf_11 : decode cX9_secretOf 11 = .ok (.iload_n 1, 1) := by decide +kernel
theorem dX9_secretOf_12 : decode cX9_secretOf 12 = .ok (.invokevirtual 65, 3) := by decide +kernel
theorem dX9_secretOf_15 : decode cX9_secretOf 15 = .ok (.aload_n 0, 1) := by decide +kernel
theorem dX9_secretOf_16 : decode cX9_secretOf 16 = .ok (.getfield 12, 3) := by decide +kernel
theorem dX9_secretOf_19 : decode cX9_secretOf 19 = .ok (.iload_n 2, 1) := by decide +kernel
theorem dX9_secretOf_20 : decode cX9_secretOf 20 = .ok (.invokevirtual 65, 3) := by decide +kernel
theorem dX9_secretOf_23 : decode cX9_secretOf 23 = .ok (.aload_n 0, 1) := by decide +kernel
theorem dX9_secretOf_24 : decode cX9_secretOf 24 = .ok (.getfield 12, 3) := by decide +kernel
theorem dX9_secretOf_27 : decode cX9_secretOf 27 = .ok (.aload_n 3, 1) := by decide +kernel
theorem dX9_secretOf_28 : decode cX9_secretOf 28 = .ok (.invokevirtual 68, 3) := by decide +kernel
theorem dX9_secretOf_31 : decode cX9_secretOf 31 = .ok (.return_, 1) := by decide +kernel
theorem dX9_publicOf_0 : decode cX9_publicOf 0 = .ok (.aload_n 0, 1) := by decide +kernel
theorem dX9_publicOf_1 : decode cX9_publicOf 1 = .ok (.iload_n 1, 1) := by decide +kernel
theorem dX9_publicOf_2 : decode cX9_publicOf 2 = .ok (.iload_n 2, 1) := by decide +kernel
theorem dX9_publicOf_3 : decode cX9_publicOf 3 = .ok (.aload_n 0, 1) := by decide +kernel
theorem dX9_publicOf_4 : decode cX9_publicOf 4 = .ok (.getfield 46, 3) := by decide +kernel
theorem dX9_publicOf_7 : decode cX9_publicOf 7 = .ok (.invokevirtual 72, 3) := by decide +kernel
theorem dX9_publicOf_10 : decode cX9_publicOf 10 = .ok (.aload_n 0, 1) := by decide +kernel
theorem dX9_publicOf_11 : decode cX9_publicOf 11 = .ok (.getfield 28, 3) := by decide +kernel
theorem dX9_publicOf_14 : decode cX9_publicOf 14 = .ok (.aload_n 0, 1) := by decide +kernel
theorem dX9_publicOf_15 : decode cX9_publicOf 15 = .ok (.getfield 46, 3) := by decide +kernel
theorem dX9_publicOf_18 : decode cX9_publicOf 18 = .ok (.getstatic 76, 3) := by decide +kernel
theorem dX9_publicOf_21 : decode cX9_publicOf 21 = .ok (.aload_n 3, 1) := by decide +kernel
theorem dX9_publicOf_22 : decode cX9_publicOf 22 = .ok (.invokevirtual 79, 3) := by decide +kernel
theorem dX9_publicOf_25 : decode cX9_publicOf 25 = .ok (.return_, 1) := by decide +kernel
theorem dX9_giveKeys_0 : decode cX9_giveKeys 0 = .ok (.iload_n 2, 1) := by decide +kernel
theorem dX9_giveKeys_1 : decode cX9_giveKeys 1 = .ok (.iconst (-1), 1) := by decide +kernel
theorem dX9_giveKeys_2 : decode cX9_giveKeys 2 = .ok (.if_icmp .eq 31, 3) := by decide +kernel
theorem dX9_giveKeys_5 : decode cX9_giveKeys 5 = .ok (.aload_n 0, 1) := by decide +kernel
theorem dX9_giveKeys_6 : decode cX9_giveKeys 6 = .ok (.iload_n 2, 1) := by decide +kernel
theorem dX9_giveKeys_7 : decode cX9_giveKeys 7 = .ok (.iconst 0, 1) := by decide +kernel
theorem dX9_giveKeys_8 : decode cX9_giveKeys 8 = .ok (.aload_n 1, 1) := by decide +kernel
theorem dX9_giveKeys_9 : decode cX9_giveKeys 9 = .ok (.getfield 83, 3) := by decide +kernel
theorem dX9_giveKeys_12 : decode cX9_giveKeys 12 = .ok (.invokevirtual 72, 3) := by decide +kernel
theorem dX9_giveKeys_15 : decode cX9_giveKeys 15 = .ok (.aload_n 0, 1) := by decide +kernel
theorem dX9_giveKeys_16 : decode cX9_giveKeys 16 = .ok (.getfield 28, 3) := by decide +kernel
theorem dX9_giveKeys_19 : decode cX9_giveKeys 19 = .ok (.aload_n 1, 1) := by decide +kernel
theorem dX9_giveKeys_20 : decode cX9_giveKeys 20 = .ok (.getfield 83, 3) := by decide +kernel
theorem dX9_giveKeys_23 : decode cX9_giveKeys 23 = .ok (.getstatic 76, 3) := by decide +kernel
theorem dX9_giveKeys_26 : decode cX9_giveKeys 26 = .ok (.aload_n 1, 1) := by decide +kernel
theorem dX9_giveKeys_27 : decode cX9_giveKeys 27 = .ok (.getfield 88, 3) := by decide +kernel
theorem dX9_giveKeys_30 : decode cX9_giveKeys 30 = .ok (.invokevirtual 79, 3) := by decide +kernel
theorem dX9_giveKeys_33 : decode cX9_giveKeys 33 = .ok (.iload_n 3, 1) := by decide +kernel
theorem dX9_giveKeys_34 : decode cX9_giveKeys 34 = .ok (.iconst (-1), 1) := by decide +kernel
theorem dX9_giveKeys_35 : decode cX9_giveKeys 35 = .ok (.if_icmp .eq 18, 3) := by decide +kernel
theorem dX9_giveKeys_38 : decode cX9_giveKeys 38 = .ok (.aload_n 0, 1) := by decide +kernel
theorem dX9_giveKeys_39 : decode cX9_giveKeys 39 = .ok (.iload_n 3, 1) := by decide +kernel
theorem dX9_giveKeys_40 : decode cX9_giveKeys 40 = .ok (.iconst 0, 1) := by decide +kernel
theorem dX9_giveKeys_41 : decode cX9_giveKeys 41 = .ok (.aload_n 1, 1) := by decide +kernel
theorem dX9_giveKeys_42 : decode cX9_giveKeys 42 = .ok (.getfield 91, 3) := by decide +kernel
theorem dX9_giveKeys_45 : decode cX9_giveKeys 45 = .ok (.invokevirtual 94, 3) := by decide +kernel
theorem dX9_giveKeys_48 : decode cX9_giveKeys 48 = .ok (.aload_n 1, 1) := by decide +kernel
theorem dX9_giveKeys_49 : decode cX9_giveKeys 49 = .ok (.iconst 1, 1) := by decide +kernel
theorem dX9_giveKeys_50 : decode cX9_giveKeys 50 = .ok (.putfield 97, 3) := by decide +kernel
theorem dX9_giveKeys_53 : decode cX9_giveKeys 53 = .ok (.return_, 1) := by decide +kernel
theorem dX9_begin_0 : decode cX9_begin 0 = .ok (.aload_n 1, 1) := by decide +kernel
theorem dX9_begin_1 : decode cX9_begin 1 = .ok (.getfield 101, 3) := by decide +kernel
theorem dX9_begin_4 : decode cX9_begin 4 = .ok (.astore_n 2, 1) := by decide +kernel
theorem dX9_begin_5 : decode cX9_begin 5 = .ok (.iconst 0, 1) := by decide +kernel
theorem dX9_begin_6 : decode cX9_begin 6 = .ok (.istore_n 3, 1) := by decide +kernel
theorem dX9_begin_7 : decode cX9_begin 7 = .ok (.iload_n 3, 1) := by decide +kernel
theorem dX9_begin_8 : decode cX9_begin 8 = .ok (.bipush 32, 2) := by decide +kernel
theorem dX9_begin_10 : decode cX9_begin 10 = .ok (.if_icmp .ge 34, 3) := by decide +kernel
theorem dX9_begin_13 : decode cX9_begin 13 = .ok (.aload_n 2, 1) := by decide +kernel
theorem dX9_begin_14 : decode cX9_begin 14 = .ok (.getfield 104, 3) := by decide +kernel
theorem dX9_begin_17 : decode cX9_begin 17 = .ok (.iload_n 3, 1) := by decide +kernel
theorem dX9_begin_18 : decode cX9_begin 18 = .ok (.iload_n 3, 1) := by decide +kernel
theorem dX9_begin_19 : decode cX9_begin 19 = .ok (.ldc 107, 2) := by decide +kernel
theorem dX9_begin_21 : decode cX9_begin 21 = .ok (.invokevirtual 109, 3) := by decide +kernel
theorem dX9_begin_24 : decode cX9_begin 24 = .ok (.if_icmp .ge 12, 3) := by decide +kernel
theorem dX9_begin_27 : decode cX9_begin 27 = .ok (.ldc 107, 2) := by decide +kernel
theorem dX9_begin_29 : decode cX9_begin 29 = .ok (.iload_n 3, 1) := by decide +kernel
theorem dX9_begin_30 : decode cX9_begin 30 = .ok (.invokevirtual 115, 3) := by decide +kernel
theorem dX9_begin_33 : decode cX9_begin 33 = .ok (.goto 4, 3) := by decide +kernel
theorem dX9_begin_36 : decode cX9_begin 36 = .ok (.iconst 0, 1) := by decide +kernel
theorem dX9_begin_37 : decode cX9_begin 37 = .ok (.iastore, 1) := by decide +kernel
theorem dX9_begin_38 : decode cX9_begin 38 = .ok (.iinc 3 1, 3) := by decide +kernel
theorem dX9_begin_41 : decode cX9_begin 41 = .ok (.goto (-34), 3) := by decide +kernel
theorem dX9_begin_44 : decode cX9_begin 44 = .ok (.aload_n 2, 1) := by decide +kernel
theorem dX9_begin_45 : decode cX9_begin 45 = .ok (.getfield 104, 3) := by decide +kernel
theorem dX9_begin_48 : decode cX9_begin 48 = .ok (.aload_n 2, 1) := by decide +kernel
theorem dX9_begin_49 : decode cX9_begin 49 = .ok (.getfield 119, 3) := by decide +kernel
theorem dX9_begin_52 : decode cX9_begin 52 = .ok (.invokestatic 122, 3) := by decide +kernel
theorem dX9_begin_55 : decode cX9_begin 55 = .ok (.aload_n 1, 1) := by decide +kernel
theorem dX9_begin_56 : decode cX9_begin 56 = .ok (.getfield 91, 3) := by decide +kernel
theorem dX9_begin_59 : decode cX9_begin 59 = .ok (.aload_n 2, 1) := by decide +kernel
theorem dX9_begin_60 : decode cX9_begin 60 = .ok (.getfield 126, 3) := by decide +kernel
theorem dX9_begin_63 : decode cX9_begin 63 = .ok (.invokestatic 122, 3) := by decide +kernel
theorem dX9_begin_66 : decode cX9_begin 66 = .ok (.aload_n 2, 1) := by decide +kernel
theorem dX9_begin_67 : decode cX9_begin 67 = .ok (.aload_n 1, 1) := by decide +kernel
theorem dX9_begin_68 : decode cX9_begin 68 = .ok (.getfield 97, 3) := by decide +kernel
theorem dX9_begin_71 : decode cX9_begin 71 = .ok (.putfield 129, 3) := by decide +kernel
theorem dX9_begin_74 : decode cX9_begin 74 = .ok (.aload_n 2, 1) := by decide +kernel
theorem dX9_begin_75 : decode cX9_begin 75 = .ok (.iconst 0, 1) := by decide +kernel
theorem dX9_begin_76 : decode cX9_begin 76 = .ok (.putfield 132, 3) := by decide +kernel
theorem dX9_begin_79 : decode cX9_begin 79 = .ok (.aload_n 2, 1) := by decide +kernel
theorem dX9_begin_80 : decode cX9_begin 80 = .ok (.iconst 0, 1) := by decide +kernel
theorem dX9_begin_81 : decode cX9_begin 81 = .ok (.putfield 135, 3) := by decide +kernel
theorem dX9_begin_84 : decode cX9_begin 84 = .ok (.aload_n 2, 1) := by decide +kernel
theorem dX9_begin_85 : decode cX9_begin 85 = .ok (.iconst 0, 1) := by decide +kernel
theorem dX9_begin_86 : decode cX9_begin 86 = .ok (.putfield 138, 3) := by decide +kernel
theorem dX9_begin_89 : decode cX9_begin 89 = .ok (.aload_n 2, 1) := by decide +kernel
theorem dX9_begin_90 : decode cX9_begin 90 = .ok (.iconst 0, 1) := by decide +kernel
theorem dX9_begin_91 : decode cX9_begin 91 = .ok (.putfield 142, 3) := by decide +kernel
theorem dX9_begin_94 : decode cX9_begin 94 = .ok (.iconst 0, 1) := by decide +kernel
theorem dX9_begin_95 : decode cX9_begin 95 = .ok (.istore_n 3, 1) := by decide +kernel
theorem dX9_begin_96 : decode cX9_begin 96 = .ok (.iload_n 3, 1) := by decide +kernel
theorem dX9_begin_97 : decode cX9_begin 97 = .ok (.iconst 2, 1) := by decide +kernel
theorem dX9_begin_98 : decode cX9_begin 98 = .ok (.if_icmp .ge 47, 3) := by decide +kernel
theorem dX9_begin_101 : decode cX9_begin 101 = .ok (.aload_n 1, 1) := by decide +kernel
theorem dX9_begin_102 : decode cX9_begin 102 = .ok (.getfield 145, 3) := by decide +kernel
theorem dX9_begin_105 : decode cX9_begin 105 = .ok (.iload_n 3, 1) := by decide +kernel
theorem dX9_begin_106 : decode cX9_begin 106 = .ok (.invokevirtual 149, 3) := by decide +kernel
theorem dX9_begin_109 : decode cX9_begin 109 = .ok (.ifCond .eq 30, 3) := by decide +kernel
theorem dX9_begin_112 : decode cX9_begin 112 = .ok (.aload_n 0, 1) := by decide +kernel
theorem dX9_begin_113 : decode cX9_begin 113 = .ok (.aload_n 2, 1) := by decide +kernel
theorem dX9_begin_114 : decode cX9_begin 114 = .ok (.iload_n 3, 1) := by decide +kernel
theorem dX9_begin_115 : decode cX9_begin 115 = .ok (.aload_n 1, 1) := by decide +kernel
theorem dX9_begin_116 : decode cX9_begin 116 = .ok (.getfield 155, 3) := by decide +kernel
theorem dX9_begin_119 : decode cX9_begin 119 = .ok (.if_icmp .ne 10, 3) := by decide +kernel
theorem dX9_begin_122 : decode cX9_begin 122 = .ok (.aload_n 1, 1) := by decide +kernel
theorem dX9_begin_123 : decode cX9_begin 123 = .ok (.getfield 88, 3) := by decide +kernel
theorem dX9_begin_126 : decode cX9_begin 126 = .ok (.goto 7, 3) := by decide +kernel
theorem dX9_begin_129 : decode cX9_begin 129 = .ok (.aload_n 1, 1) := by decide +kernel
theorem dX9_begin_130 : decode cX9_begin 130 = .ok (.getfield 91, 3) := by decide +kernel
theorem dX9_begin_133 : decode cX9_begin 133 = .ok (.iconst 0, 1) := by decide +kernel
theorem dX9_begin_134 : decode cX9_begin 134 = .ok (.bipush 32, 2) := by decide +kernel
theorem dX9_begin_136 : decode cX9_begin 136 = .ok (.invokevirtual 158, 3) := by decide +kernel
theorem dX9_begin_139 : decode cX9_begin 139 = .ok (.iinc 3 1, 3) := by decide +kernel
theorem dX9_begin_142 : decode cX9_begin 142 = .ok (.goto (-46), 3) := by decide +kernel
theorem dX9_begin_145 : decode cX9_begin 145 = .ok (.return_, 1) := by decide +kernel
theorem dX9_send_0 : decode cX9_send 0 = .ok (.aload_n 1, 1) := by decide +kernel
theorem dX9_send_1 : decode cX9_send 1 = .ok (.getfield 101, 3) := by decide +kernel
theorem dX9_send_4 : decode cX9_send 4 = .ok (.astore 4, 2) := by decide +kernel
theorem dX9_send_6 : decode cX9_send 6 = .ok (.aload_n 3, 1) := by decide +kernel
theorem dX9_send_7 : decode cX9_send 7 = .ok (.iconst 0, 1) := by decide +kernel
theorem dX9_send_8 : decode cX9_send 8 = .ok (.putfield 162, 3) := by decide +kernel
theorem dX9_send_11 : decode cX9_send 11 = .ok (.aload_n 1, 1) := by decide +kernel
theorem dX9_send_12 : decode cX9_send 12 = .ok (.getfield 145, 3) := by decide +kernel
theorem dX9_send_15 : decode cX9_send 15 = .ok (.aload 4, 2) := by decide +kernel
theorem dX9_send_17 : decode cX9_send 17 = .ok (.getfield 142, 3) := by decide +kernel
theorem dX9_send_20 : decode cX9_send 20 = .ok (.invokevirtual 165, 3) := by decide +kernel
theorem dX9_send_23 : decode cX9_send 23 = .ok (.istore 5, 2) := by decide +kernel
theorem dX9_send_25 : decode cX9_send 25 = .ok (.iconst 0, 1) := by decide +kernel
theorem dX9_send_26 : decode cX9_send 26 = .ok (.istore 6, 2) := by decide +kernel
theorem dX9_send_28 : decode cX9_send 28 = .ok (.iload 6, 2) := by decide +kernel
theorem dX9_send_30 : decode cX9_send 30 = .ok (.iload 5, 2) := by decide +kernel
theorem dX9_send_32 : decode cX9_send 32 = .ok (.if_icmp .ge 70, 3) := by decide +kernel
theorem dX9_send_35 : decode cX9_send 35 = .ok (.aload_n 1, 1) := by decide +kernel
theorem dX9_send_36 : decode cX9_send 36 = .ok (.getfield 145, 3) := by decide +kernel
theorem dX9_send_39 : decode cX9_send 39 = .ok (.aload 4, 2) := by decide +kernel
theorem dX9_send_41 : decode cX9_send 41 = .ok (.getfield 142, 3) := by decide +kernel
theorem dX9_send_44 : decode cX9_send 44 = .ok (.iload 6, 2) := by decide +kernel
theorem dX9_send_46 : decode cX9_send 46 = .ok (.invokevirtual 169, 3) := by decide +kernel
theorem dX9_send_49 : decode cX9_send 49 = .ok (.istore 7, 2) := by decide +kernel
theorem dX9_send_51 : decode cX9_send 51 = .ok (.iload 7, 2) := by decide +kernel
theorem dX9_send_53 : decode cX9_send 53 = .ok (.ifCond .ne 12, 3) := by decide +kernel
theorem dX9_send_56 : decode cX9_send 56 = .ok (.aload_n 0, 1) := by decide +kernel
theorem dX9_send_57 : decode cX9_send 57 = .ok (.aload_n 1, 1) := by decide +kernel
theorem dX9_send_58 : decode cX9_send 58 = .ok (.aload_n 3, 1) := by decide +kernel
theorem dX9_send_59 : decode cX9_send 59 = .ok (.invokevirtual 173, 3) := by decide +kernel
theorem dX9_send_62 : decode cX9_send 62 = .ok (.goto 34, 3) := by decide +kernel
theorem dX9_send_65 : decode cX9_send 65 = .ok (.iload 7, 2) := by decide +kernel
theorem dX9_send_67 : decode cX9_send 67 = .ok (.iconst 1, 1) := by decide +kernel
theorem dX9_send_68 : decode cX9_send 68 = .ok (.if_icmp .ne 19, 3) := by decide +kernel
theorem dX9_send_71 : decode cX9_send 71 = .ok (.aload_n 0, 1) := by decide +kernel
theorem dX9_send_72 : decode cX9_send 72 = .ok (.aload 4, 2) := by decide +kernel
theorem dX9_send_74 : decode cX9_send 74 = .ok (.aload_n 1, 1) := by decide +kernel
theorem dX9_send_75 : decode cX9_send 75 = .ok (.getfield 88, 3) := by decide +kernel
theorem dX9_send_78 : decode cX9_send 78 = .ok (.bipush 32, 2) := by decide +kernel
theorem dX9_send_80 : decode cX9_send 80 = .ok (.aload_n 3, 1) := by decide +kernel
theorem dX9_send_81 : decode cX9_send 81 = .ok (.invokevirtual 177, 3) := by decide +kernel
theorem dX9_send_84 : decode cX9_send 84 = .ok (.goto 12, 3) := by decide +kernel
theorem dX9_send_87 : decode cX9_send 87 = .ok (.aload_n 0, 1) := by decide +kernel
theorem dX9_send_88 : decode cX9_send 88 = .ok (.aload_n 1, 1) := by decide +kernel
theorem dX9_send_89 : decode cX9_send 89 = .ok (.aload 4, 2) := by decide +kernel
theorem dX9_send_91 : decode cX9_send 91 = .ok (.iload 7, 2) := by decide +kernel
theorem dX9_send_93 : decode cX9_send 93 = .ok (.invokevirtual 181, 3) := by decide +kernel
theorem dX9_send_96 : decode cX9_send 96 = .ok (.iinc 6 1, 3) := by decide +kernel
theorem dX9_send_99 : decode cX9_send 99 = .ok (.goto (-71), 3) := by decide +kernel
theorem dX9_send_102 : decode cX9_send 102 = .ok (.aload_n 0, 1) := by decide +kernel
theorem dX9_send_103 : decode cX9_send 103 = .ok (.aload 4, 2) := by decide +kernel
theorem dX9_send_105 : decode cX9_send 105 = .ok (.aload_n 2, 1) := by decide +kernel
theorem dX9_send_106 : decode cX9_send 106 = .ok (.getfield 185, 3) := by decide +kernel
theorem dX9_send_109 : decode cX9_send 109 = .ok (.aload_n 2, 1) := by decide +kernel
theorem dX9_send_110 : decode cX9_send 110 = .ok (.getfield 162, 3) := by decide +kernel
theorem dX9_send_113 : decode cX9_send 113 = .ok (.aload_n 3, 1) := by decide +kernel
theorem dX9_send_114 : decode cX9_send 114 = .ok (.invokevirtual 177, 3) := by decide +kernel
theorem dX9_send_117 : decode cX9_send 117 = .ok (.aload_n 0, 1) := by decide +kernel
theorem dX9_send_118 : decode cX9_send 118 = .ok (.aload_n 1, 1) := by decide +kernel
theorem dX9_send_119 : decode cX9_send 119 = .ok (.aload 4, 2) := by decide +kernel
theorem dX9_send_121 : decode cX9_send 121 = .ok (.invokevirtual 188, 3) := by decide +kernel
theorem dX9_send_124 : decode cX9_send 124 = .ok (.return_, 1) := by decide +kernel
theorem dX9_take_0 : decode cX9_take 0 = .ok (.aload_n 0, 1) := by decide +kernel
theorem dX9_take_1 : decode cX9_take 1 = .ok (.getfield 42, 3) := by decide +kernel
theorem dX9_take_4 : decode cX9_take 4 = .ok (.aload_n 1, 1) := by decide +kernel
theorem dX9_take_5 : decode cX9_take 5 = .ok (.getfield 101, 3) := by decide +kernel
theorem dX9_take_8 : decode cX9_take 8 = .ok (.invokevirtual 192, 3) := by decide +kernel
theorem dX9_take_11 : decode cX9_take 11 = .ok (.iconst 0, 1) := by decide +kernel
theorem dX9_take_12 : decode cX9_take 12 = .ok (.istore 4, 2) := by decide +kernel
theorem dX9_take_14 : decode cX9_take 14 = .ok (.aload_n 1, 1) := by decide +kernel
theorem dX9_take_15 : decode cX9_take 15 = .ok (.getfield 145, 3) := by decide +kernel
theorem dX9_take_18 : decode cX9_take 18 = .ok (.aload_n 0, 1) := by decide +kernel
theorem dX9_take_19 : decode cX9_take 19 = .ok (.getfield 42, 3) := by decide +kernel
theorem dX9_take_22 : decode cX9_take 22 = .ok (.getfield 142, 3) := by decide +kernel
theorem dX9_take_25 : decode cX9_take 25 = .ok (.invokevirtual 165, 3) := by decide +kernel
theorem dX9_take_28 : decode cX9_take 28 = .ok (.istore 5, 2) := by decide +kernel
theorem dX9_take_30 : decode cX9_take 30 = .ok (.iconst 0, 1) := by decide +kernel
theorem dX9_take_31 : decode cX9_take 31 = .ok (.istore 6, 2) := by decide +kernel
theorem dX9_take_33 : decode cX9_take 33 = .ok (.iload 6, 2) := by decide +kernel
theorem dX9_take_35 : decode cX9_take 35 = .ok (.iload 5, 2) := by decide +kernel
theorem dX9_take_37 : decode cX9_take 37 = .ok (.if_icmp .ge 138, 3) := by decide +kernel
theorem dX9_take_40 : decode cX9_take 40 = .ok (.aload_n 1, 1) := by decide +kernel
theorem dX9_take_41 : decode cX9_take 41 = .ok (.getfield 145, 3) := by decide +kernel
theorem dX9_take_44 : decode cX9_take 44 = .ok (.aload_n 0, 1) := by decide +kernel
theorem dX9_take_45 : decode cX9_take 45 = .ok (.getfield 42, 3) := by decide +kernel
theorem dX9_take_48 : decode cX9_take 48 = .ok (.getfield 142, 3) := by decide +kernel
theorem dX9_take_51 : decode cX9_take 51 = .ok (.iload 6, 2) := by decide +kernel
theorem dX9_take_53 : decode cX9_take 53 = .ok (.invokevirtual 169, 3) := by decide +kernel
theorem dX9_take_56 : decode cX9_take 56 = .ok (.istore 7, 2) := by decide +kernel
theorem dX9_take_58 : decode cX9_take 58 = .ok (.iload 7, 2) := by decide +kernel
theorem dX9_take_60 : decode cX9_take 60 = .ok (.ifCond .ne 16, 3) := by decide +kernel
theorem dX9_take_63 : decode cX9_take 63 = .ok (.aload_n 0, 1) := by decide +kernel
theorem dX9_take_64 : decode cX9_take 64 = .ok (.aload_n 2, 1) := by decide +kernel
theorem dX9_take_65 : decode cX9_take 65 = .ok (.iload 4, 2) := by decide +kernel
theorem dX9_take_67 : decode cX9_take 67 = .ok (.invokevirtual 196, 3) := by decide +kernel
theorem dX9_take_70 : decode cX9_take 70 = .ok (.iinc 4 32, 3) := by decide +kernel
theorem dX9_take_73 : decode cX9_take 73 = .ok (.goto 96, 3) := by decide +kernel
theorem dX9_take_76 : decode cX9_take 76 = .ok (.iload 7, 2) := by decide +kernel
theorem dX9_take_78 : decode cX9_take 78 = .ok (.iconst 1, 1) := by decide +kernel
theorem dX9_take_79 : decode cX9_take 79 = .ok (.if_icmp .ne 79, 3) := by decide +kernel
theorem dX9_take_82 : decode cX9_take 82 = .ok (.iload 4, 2) := by decide +kernel
theorem dX9_take_84 : decode cX9_take 84 = .ok (.aload_n 0, 1) := by decide +kernel
theorem dX9_take_85 : decode cX9_take 85 = .ok (.getfield 42, 3) := by decide +kernel
theorem dX9_take_88 : decode cX9_take 88 = .ok (.getfield 135, 3) := by decide +kernel
theorem dX9_take_91 : decode cX9_take 91 = .ok (.ifCond .eq 8, 3) := by decide +kernel
theorem dX9_take_94 : decode cX9_take 94 = .ok (.bipush 48, 2) := by decide +kernel
theorem dX9_take_96 : decode cX9_take 96 = .ok (.goto 5, 3) := by decide +kernel
theorem dX9_take_99 : decode cX9_take 99 = .ok (.bipush 32, 2) := by decide +kernel
theorem dX9_take_101 : decode cX9_take 101 = .ok (.iadd, 1) := by decide +kernel
theorem dX9_take_102 : decode cX9_take 102 = .ok (.istore 8, 2) := by decide +kernel
theorem dX9_take_104 : decode cX9_take 104 = .ok (.aload_n 0, 1) := by decide +kernel
theorem dX9_take_105 : decode cX9_take 105 = .ok (.aload_n 0, 1) := by decide +kernel
theorem dX9_take_106 : decode cX9_take 106 = .ok (.getfield 42, 3) := by decide +kernel
theorem dX9_take_109 : decode cX9_take 109 = .ok (.aload_n 2, 1) := by decide +kernel
theorem dX9_take_110 : decode cX9_take 110 = .ok (.iload 4, 2) := by decide +kernel
theorem dX9_take_112 : decode cX9_take 112 = .ok (.iload 8, 2) := by decide +kernel
theorem dX9_take_114 : decode cX9_take 114 = .ok (.aload_n 0, 1) := by decide +kernel
theorem dX9_take_115 : decode cX9_take 115 = .ok (.getfield 58, 3) := by decide +kernel
theorem dX9_take_118 : decode cX9_take 118 = .ok (.invokevirtual 200, 3) := by decide +kernel
theorem dX9_take_121 : decode cX9_take 121 = .ok (.ifCond .ne 5, 3) := by decide +kernel
theorem dX9_take_124 : decode cX9_take 124 = .ok (.iconst 0, 1) := by decide +kernel
theorem dX9_take_125 : decode cX9_take 125 = .ok (.ireturn, 1) := by decide +kernel
theorem dX9_take_126 : decode cX9_take 126 = .ok (.aload_n 0, 1) := by decide +kernel
theorem dX9_take_127 : decode cX9_take 127 = .ok (.getfield 58, 3) := by decide +kernel

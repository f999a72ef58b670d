theorem dX0_init_0 : decode cX0_init 0 = .ok (.aload_n 0, 1) := by decide +kernel
theorem dX0_init_1 : decode cX0_init 1 = .ok (.invokespecial 3, 3) := by decide +kernel
theorem dX0_init_4 : decode cX0_init 4 = .ok (.aload_n 0, 1) := by decide +kernel
theorem dX0_init_5 : decode cX0_init 5 = .ok (.bipush 6, 2) := by decide +kernel
theorem dX0_init_7 : decode cX0_init 7 = .ok (.newarray .int, 2) := by decide +kernel
theorem dX0_init_9 : decode cX0_init 9 = .ok (.putfield 9, 3) := by decide +kernel
theorem dX0_init_12 : decode cX0_init 12 = .ok (.aload_n 0, 1) := by decide +kernel
theorem dX0_init_13 : decode cX0_init 13 = .ok (.bipush 6, 2) := by decide +kernel
theorem dX0_init_15 : decode cX0_init 15 = .ok (.newarray .int, 2) := by decide +kernel
theorem dX0_init_17 : decode cX0_init 17 = .ok (.putfield 15, 3) := by decide +kernel
theorem dX0_init_20 : decode cX0_init 20 = .ok (.aload_n 0, 1) := by decide +kernel
theorem dX0_init_21 : decode cX0_init 21 = .ok (.bipush 12, 2) := by decide +kernel
theorem dX0_init_23 : decode cX0_init 23 = .ok (.newarray .int, 2) := by decide +kernel
theorem dX0_init_25 : decode cX0_init 25 = .ok (.putfield 18, 3) := by decide +kernel
theorem dX0_init_28 : decode cX0_init 28 = .ok (.aload_n 0, 1) := by decide +kernel
theorem dX0_init_29 : decode cX0_init 29 = .ok (.iconst 2, 1) := by decide +kernel
theorem dX0_init_30 : decode cX0_init 30 = .ok (.sipush 372, 3) := by decide +kernel
theorem dX0_init_33 : decode cX0_init 33 = .ok (.multianewarray 21 2, 4) := by decide +kernel
theorem dX0_init_37 : decode cX0_init 37 = .ok (.putfield 23, 3) := by decide +kernel
theorem dX0_init_40 : decode cX0_init 40 = .ok (.aload_n 0, 1) := by decide +kernel
theorem dX0_init_41 : decode cX0_init 41 = .ok (.iconst 0, 1) := by decide +kernel
theorem dX0_init_42 : decode cX0_init 42 = .ok (.putfield 26, 3) := by decide +kernel
theorem dX0_init_45 : decode cX0_init 45 = .ok (.return_, 1) := by decide +kernel
theorem dX0_take_0 : decode cX0_take 0 = .ok (.iload_n 1, 1) := by decide +kernel
theorem dX0_take_1 : decode cX0_take 1 = .ok (.ifCond .ne 10, 3) := by decide +kernel
theorem dX0_take_4 : decode cX0_take 4 = .ok (.aload_n 0, 1) := by decide +kernel
theorem dX0_take_5 : decode cX0_take 5 = .ok (.getfield 9, 3) := by decide +kernel
theorem dX0_take_8 : decode cX0_take 8 = .ok (.goto 7, 3) := by decide +kernel
theorem dX0_take_11 : decode cX0_take 11 = .ok (.aload_n 0, 1) := by decide +kernel
theorem dX0_take_12 : decode cX0_take 12 = .ok (.getfield 15, 3) := by decide +kernel
theorem dX0_take_15 : decode cX0_take 15 = .ok (.astore 4, 2) := by decide +kernel
theorem dX0_take_17 : decode cX0_take 17 = .ok (.iconst 0, 1) := by decide +kernel
theorem dX0_take_18 : decode cX0_take 18 = .ok (.istore 5, 2) := by decide +kernel
theorem dX0_take_20 : decode cX0_take 20 = .ok (.iload 5, 2) := by decide +kernel
theorem dX0_take_22 : decode cX0_take 22 = .ok (.bipush 6, 2) := by decide +kernel
theorem dX0_take_24 : decode cX0_take 24 = .ok (.if_icmp .ge 36, 3) := by decide +kernel
theorem dX0_take_27 : decode cX0_take 27 = .ok (.iload 5, 2) := by decide +kernel
theorem dX0_take_29 : decode cX0_take 29 = .ok (.iload_n 3, 1) := by decide +kernel
theorem dX0_take_30 : decode cX0_take 30 = .ok (.iadd, 1) := by decide +kernel
theorem dX0_take_31 : decode cX0_take 31 = .ok (.bipush 6, 2) := by decide +kernel
theorem dX0_take_33 : decode cX0_take 33 = .ok (.invokestatic 30, 3) := by decide +kernel
theorem dX0_take_36 : decode cX0_take 36 = .ok (.istore 6, 2) := by decide +kernel
theorem dX0_take_38 : decode cX0_take 38 = .ok (.iload 6, 2) := by decide +kernel
theorem dX0_take_40 : decode cX0_take 40 = .ok (.aload_n 2, 1) := by decide +kernel
theorem dX0_take_41 : decode cX0_take 41 = .ok (.arraylength, 1) := by decide +kernel
theorem dX0_take_42 : decode cX0_take 42 = .ok (.if_icmp .ge 12, 3) := by decide +kernel
theorem dX0_take_45 : decode cX0_take 45 = .ok (.aload 4, 2) := by decide +kernel
theorem dX0_take_47 : decode cX0_take 47 = .ok (.iload 5, 2) := by decide +kernel
theorem dX0_take_49 : decode cX0_take 49 = .ok (.aload_n 2, 1) := by decide +kernel
theorem dX0_take_50 : decode cX0_take 50 = .ok (.iload 6, 2) := by decide +kernel
theorem dX0_take_52 : decode cX0_take 52 = .ok (.iaload, 1) := by decide +kernel
theorem dX0_take_53 : decode cX0_take 53 = .ok (.iastore, 1) := by decide +kernel
theorem dX0_take_54 : decode cX0_take 54 = .ok (.iinc 5 1, 3) := by decide +kernel
theorem dX0_take_57 : decode cX0_take 57 = .ok (.goto (-37), 3) := by decide +kernel
theorem dX0_take_60 : decode cX0_take 60 = .ok (.return_, 1) := by decide +kernel
theorem dX0_replace_0 : decode cX0_replace 0 = .ok (.iload_n 1, 1) := by decide +kernel
theorem dX0_replace_1 : decode cX0_replace 1 = .ok (.ifCond .ne 10, 3) := by decide +kernel
theorem dX0_replace_4 : decode cX0_replace 4 = .ok (.aload_n 0, 1) := by decide +kernel
theorem dX0_replace_5 : decode cX0_replace 5 = .ok (.getfield 9, 3) := by decide +kernel
theorem dX0_replace_8 : decode cX0_replace 8 = .ok (.goto 7, 3) := by decide +kernel
theorem dX0_replace_11 : decode cX0_replace 11 = .ok (.aload_n 0, 1) := by decide +kernel
theorem dX0_replace_12 : decode cX0_replace 12 = .ok (.getfield 15, 3) := by decide +kernel
theorem dX0_replace_15 : decode cX0_replace 15 = .ok (.astore 4, 2) := by decide +kernel
theorem dX0_replace_17 : decode cX0_replace 17 = .ok (.iconst 0, 1) := by decide +kernel
theorem dX0_replace_18 : decode cX0_replace 18 = .ok (.istore 5, 2) := by decide +kernel
theorem dX0_replace_20 : decode cX0_replace 20 = .ok (.iload 5, 2) := by decide +kernel
theorem dX0_replace_22 : decode cX0_replace 22 = .ok (.bipush 6, 2) := by decide +kernel
theorem dX0_replace_24 : decode cX0_replace 24 = .ok (.if_icmp .ge 24, 3) := by decide +kernel
theorem dX0_replace_27 : decode cX0_replace 27 = .ok (.aload 4, 2) := by decide +kernel
theorem dX0_replace_29 : decode cX0_replace 29 = .ok (.iload 5, 2) := by decide +kernel
theorem dX0_replace_31 : decode cX0_replace 31 = .ok (.iaload, 1) := by decide +kernel
theorem dX0_replace_32 : decode cX0_replace 32 = .ok (.iload_n 2, 1) := by decide +kernel
theorem dX0_replace_33 : decode cX0_replace 33 = .ok (.if_icmp .ne 9, 3) := by decide +kernel
theorem dX0_replace_36 : decode cX0_replace 36 = .ok (.aload 4, 2) := by decide +kernel
theorem dX0_replace_38 : decode cX0_replace 38 = .ok (.iload 5, 2) := by decide +kernel
theorem dX0_replace_40 : decode cX0_replace 40 = .ok (.iload_n 3, 1) := by decide +kernel
theorem dX0_replace_41 : decode cX0_replace 41 = .ok (.iastore, 1) := by decide +kernel
theorem dX0_replace_42 : decode cX0_replace 42 = .ok (.iinc 5 1, 3) := by decide +kernel
theorem dX0_replace_45 : decode cX0_replace 45 = .ok (.goto (-25), 3) := by decide +kernel
theorem dX0_replace_48 : decode cX0_replace 48 = .ok (.return_, 1) := by decide +kernel
theorem dX0_rallyChance_0 : decode cX0_rallyChance 0 = .ok (.iload 5, 2) := by decide +kernel
theorem dX0_rallyChance_2 : decode cX0_rallyChance 2 = .ok (.ifCond .ne 7, 3) := by decide +kernel
theorem dX0_rallyChance_5 : decode cX0_rallyChance 5 = .ok (.aload_n 1, 1) := by decide +kernel
theorem dX0_rallyChance_6 : decode cX0_rallyChance 6 = .ok (.goto 4, 3) := by decide +kernel
theorem dX0_rallyChance_9 : decode cX0_rallyChance 9 = .ok (.aload_n 2, 1) := by decide +kernel
theorem dX0_rallyChance_10 : decode cX0_rallyChance 10 = .ok (.astore 6, 2) := by decide +kernel
theorem dX0_rallyChance_12 : decode cX0_rallyChance 12 = .ok (.iload 5, 2) := by decide +kernel
theorem dX0_rallyChance_14 : decode cX0_rallyChance 14 = .ok (.ifCond .ne 7, 3) := by decide +kernel
theorem dX0_rallyChance_17 : decode cX0_rallyChance 17 = .ok (.aload_n 2, 1) := by decide +kernel
theorem dX0_rallyChance_18 : decode cX0_rallyChance 18 = .ok (.goto 4, 3) := by decide +kernel
theorem dX0_rallyChance_21 : decode cX0_rallyChance 21 = .ok (.aload_n 1, 1) := by decide +kernel
theorem dX0_rallyChance_22 : decode cX0_rallyChance 22 = .ok (.astore 7, 2) := by decide +kernel
theorem dX0_rallyChance_24 : decode cX0_rallyChance 24 = .ok (.iload 5, 2) := by decide +kernel
theorem dX0_rallyChance_26 : decode cX0_rallyChance 26 = .ok (.ifCond .ne 10, 3) := by decide +kernel
theorem dX0_rallyChance_29 : decode cX0_rallyChance 29 = .ok (.aload_n 0, 1) := by decide +kernel
theorem dX0_rallyChance_30 : decode cX0_rallyChance 30 = .ok (.getfield 9, 3) := by decide +kernel
theorem dX0_rallyChance_33 : decode cX0_rallyChance 33 = .ok (.goto 7, 3) := by decide +kernel
theorem dX0_rallyChance_36 : decode cX0_rallyChance 36 = .ok (.aload_n 0, 1) := by decide +kernel
theorem dX0_rallyChance_37 : decode cX0_rallyChance 37 = .ok (.getfield 15, 3) := by decide +kernel
theorem dX0_rallyChance_40 : decode cX0_rallyChance 40 = .ok (.astore 8, 2) := by decide +kernel
theorem dX0_rallyChance_42 : decode cX0_rallyChance 42 = .ok (.iload 5, 2) := by decide +kernel
theorem dX0_rallyChance_44 : decode cX0_rallyChance 44 = .ok (.ifCond .ne 10, 3) := by decide +kernel
theorem dX0_rallyChance_47 : decode cX0_rallyChance 47 = .ok (.aload_n 0, 1) := by decide +kernel
theorem dX0_rallyChance_48 : decode cX0_rallyChance 48 = .ok (.getfield 15, 3) := by decide +kernel
theorem dX0_rallyChance_51 : decode cX0_rallyChance 51 = .ok (.goto 7, 3) := by decide +kernel
theorem dX0_rallyChance_54 : decode cX0_rallyChance 54 = .ok (.aload_n 0, 1) := by decide +kernel
theorem dX0_rallyChance_55 : decode cX0_rallyChance 55 = .ok (.getfield 9, 3) := by decide +kernel
theorem dX0_rallyChance_58 : decode cX0_rallyChance 58 = .ok (.astore 9, 2) := by decide +kernel
theorem dX0_rallyChance_60 : decode cX0_rallyChance 60 = .ok (.iload 5, 2) := by decide +kernel
theorem dX0_rallyChance_62 : decode cX0_rallyChance 62 = .ok (.ifCond .ne 7, 3) := by decide +kernel
theorem dX0_rallyChance_65 : decode cX0_rallyChance 65 = .ok (.iload_n 3, 1) := by decide +kernel
theorem dX0_rallyChance_66 : decode cX0_rallyChance 66 = .ok (.goto 5, 3) := by decide +kernel
theorem dX0_rallyChance_69 : decode cX0_rallyChance 69 = .ok (.iload 4, 2) := by decide +kernel
theorem dX0_rallyChance_71 : decode cX0_rallyChance 71 = .ok (.istore 10, 2) := by decide +kernel
theorem dX0_rallyChance_73 : decode cX0_rallyChance 73 = .ok (.iload 5, 2) := by decide +kernel
theorem dX0_rallyChance_75 : decode cX0_rallyChance 75 = .ok (.ifCond .ne 8, 3) := by decide +kernel
theorem dX0_rallyChance_78 : decode cX0_rallyChance 78 = .ok (.iload 4, 2) := by decide +kernel
theorem dX0_rallyChance_80 : decode cX0_rallyChance 80 = .ok (.goto 4, 3) := by decide +kernel
theorem dX0_rallyChance_83 : decode cX0_rallyChance 83 = .ok (.iload_n 3, 1) := by decide +kernel
theorem dX0_rallyChance_84 : decode cX0_rallyChance 84 = .ok (.istore 11, 2) := by decide +kernel
theorem dX0_rallyChance_86 : decode cX0_rallyChance 86 = .ok (.sipush 380, 3) := by decide +kernel
theorem dX0_rallyChance_89 : decode cX0_rallyChance 89 = .ok (.aload 6, 2) := by decide +kernel
theorem dX0_rallyChance_91 : decode cX0_rallyChance 91 = .ok (.aload 8, 2) := by decide +kernel
theorem dX0_rallyChance_93 : decode cX0_rallyChance 93 = .ok (.iload 10, 2) := by decide +kernel
theorem dX0_rallyChance_95 : decode cX0_rallyChance 95 = .ok (.bipush 6, 2) := by decide +kernel
theorem dX0_rallyChance_97 : decode cX0_rallyChance 97 = .ok (.invokestatic 30, 3) := by decide +kernel
theorem dX0_rallyChance_100 : decode cX0_rallyChance 100 = .ok (.iaload, 1) := by decide +kernel
theorem dX0_rallyChance_101 : decode cX0_rallyChance 101 = .ok (.iconst 0, 1) := by decide +kernel
theorem dX0_rallyChance_102 : decode cX0_rallyChance 102 = .ok (.invokevirtual 36, 3) := by decide +kernel
theorem dX0_rallyChance_105 : decode cX0_rallyChance 105 = .ok (.iadd, 1) := by decide +kernel
theorem dX0_rallyChance_106 : decode cX0_rallyChance 106 = .ok (.aload 7, 2) := by decide +kernel
theorem dX0_rallyChance_108 : decode cX0_rallyChance 108 = .ok (.aload 9, 2) := by decide +kernel
theorem dX0_rallyChance_110 : decode cX0_rallyChance 110 = .ok (.iload 11, 2) := by decide +kernel
theorem dX0_rallyChance_112 : decode cX0_rallyChance 112 = .ok (.getstatic 41, 3) := by decide +kernel
theorem dX0_rallyChance_115 : decode cX0_rallyChance 115 = .ok (.iconst 1, 1) := by decide +kernel
theorem dX0_rallyChance_116 : decode cX0_rallyChance 116 = .ok (.invokevirtual 44, 3) := by decide +kernel
theorem dX0_rallyChance_119 : decode cX0_rallyChance 119 = .ok (.isub, 1) := by decide +kernel
theorem dX0_rallyChance_120 : decode cX0_rallyChance 120 = .ok (.aload 6, 2) := by decide +kernel
theorem dX0_rallyChance_122 : decode cX0_rallyChance 122 = .ok (.aload 8, 2) := by decide +kernel
theorem dX0_rallyChance_124 : decode cX0_rallyChance 124 = .ok (.iload 10, 2) := by decide +kernel
theorem dX0_rallyChance_126 : decode cX0_rallyChance 126 = .ok (.getstatic 48, 3) := by decide +kernel
theorem dX0_rallyChance_129 : decode cX0_rallyChance 129 = .ok (.iconst 3, 1) := by decide +kernel
theorem dX0_rallyChance_130 : decode cX0_rallyChance 130 = .ok (.invokevirtual 44, 3) := by decide +kernel
theorem dX0_rallyChance_133 : decode cX0_rallyChance 133 = .ok (.iadd, 1) := by decide +kernel
theorem dX0_rallyChance_134 : decode cX0_rallyChance 134 = .ok (.aload 7, 2) := by decide +kernel
theorem dX0_rallyChance_136 : decode cX0_rallyChance 136 = .ok (.aload 9, 2) := by decide +kernel
theorem dX0_rallyChance_138 : decode cX0_rallyChance 138 = .ok (.iload 11, 2) := by decide +kernel
theorem dX0_rallyChance_140 : decode cX0_rallyChance 140 = .ok (.getstatic 48, 3) := by decide +kernel
theorem dX0_rallyChance_143 : decode cX0_rallyChance 143 = .ok (.iconst 2, 1) := by decide +kernel
theorem dX0_rallyChance_144 : decode cX0_rallyChance 144 = .ok (.invokevirtual 44, 3) := by decide +kernel
theorem dX0_rallyChance_147 : decode cX0_rallyChance 147 = .ok (.isub, 1) := by decide +kernel
theorem dX0_rallyChance_148 : decode cX0_rallyChance 148 = .ok (.istore 12, 2) := by decide +kernel
theorem dX0_rallyChance_150 : decode cX0_rallyChance 150 = .ok (.bipush 50, 2) := by decide +kernel
theorem dX0_rallyChance_152 : decode cX0_rallyChance 152 = .ok (.sipush 950, 3) := by decide +kernel
theorem dX0_rallyChance_155 : decode cX0_rallyChance 155 = .ok (.iload 12, 2) := by decide +kernel
theorem dX0_rallyChance_157 : decode cX0_rallyChance 157 = .ok (.invokestatic 51, 3) := by decide +kernel
theorem dX0_rallyChance_160 : decode cX0_rallyChance 160 = .ok (.invokestatic 54, 3) := by decide +kernel
theorem dX0_rallyChance_163 : decode cX0_rallyChance 163 = .ok (.ireturn, 1) := by decide +kernel
theorem dX0_fillPhases_0 : decode cX0_fillPhases 0 = .ok (.aload_n 0, 1) := by decide +kernel
theorem dX0_fillPhases_1 : decode cX0_fillPhases 1 = .ok (.iload_n 3, 1) := by decide +kernel
theorem dX0_fillPhases_2 : decode cX0_fillPhases 2 = .ok (.putfield 26, 3) := by decide +kernel
theorem dX0_fillPhases_5 : decode cX0_fillPhases 5 = .ok (.iconst 0, 1) := by decide +kernel
theorem dX0_fillPhases_6 : decode cX0_fillPhases 6 = .ok (.istore 4, 2) := by decide +kernel
theorem dX0_fillPhases_8 : decode cX0_fillPhases 8 = .ok (.iload 4, 2) := by decide +kernel
theorem dX0_fillPhases_10 : decode cX0_fillPhases 10 = .ok (.bipush 12, 2) := by decide +kernel
theorem dX0_fillPhases_12 : decode cX0_fillPhases 12 = .ok (.if_icmp .ge 96, 3) := by decide +kernel
theorem dX0_fillPhases_15 : decode cX0_fillPhases 15 = .ok (.iload 4, 2) := by decide +kernel
theorem dX0_fillPhases_17 : decode cX0_fillPhases 17 = .ok (.iconst 2, 1) := by decide +kernel
theorem dX0_fillPhases_18 : decode cX0_fillPhases 18 = .ok (.idiv, 1) := by decide +kernel
theorem dX0_fillPhases_19 : decode cX0_fillPhases 19 = .ok (.istore 5, 2) := by decide +kernel
theorem dX0_fillPhases_21 : decode cX0_fillPhases 21 = .ok (.iload 4, 2) := by decide +kernel
theorem dX0_fillPhases_23 : decode cX0_fillPhases 23 = .ok (.iconst 1, 1) := by decide +kernel
theorem dX0_fillPhases_24 : decode cX0_fillPhases 24 = .ok (.iadd, 1) := by decide +kernel
theorem dX0_fillPhases_25 : decode cX0_fillPhases 25 = .ok (.iconst 2, 1) := by decide +kernel
theorem dX0_fillPhases_26 : decode cX0_fillPhases 26 = .ok (.idiv, 1) := by decide +kernel
theorem dX0_fillPhases_27 : decode cX0_fillPhases 27 = .ok (.istore 6, 2) := by decide +kernel
theorem dX0_fillPhases_29 : decode cX0_fillPhases 29 = .ok (.aload_n 0, 1) := by decide +kernel
theorem dX0_fillPhases_30 : decode cX0_fillPhases 30 = .ok (.getfield 26, 3) := by decide +kernel
theorem dX0_fillPhases_33 : decode cX0_fillPhases 33 = .ok (.ifCond .ne 8, 3) := by decide +kernel
theorem dX0_fillPhases_36 : decode cX0_fillPhases 36 = .ok (.iload 5, 2) := by decide +kernel
theorem dX0_fillPhases_38 : decode cX0_fillPhases 38 = .ok (.goto 5, 3) := by decide +kernel
theorem dX0_fillPhases_41 : decode cX0_fillPhases 41 = .ok (.iload 6, 2) := by decide +kernel
theorem dX0_fillPhases_43 : decode cX0_fillPhases 43 = .ok (.istore 7, 2) := by decide +kernel
theorem dX0_fillPhases_45 : decode cX0_fillPhases 45 = .ok (.aload_n 0, 1) := by decide +kernel
theorem dX0_fillPhases_46 : decode cX0_fillPhases 46 = .ok (.getfield 26, 3) := by decide +kernel
theorem dX0_fillPhases_49 : decode cX0_fillPhases 49 = .ok (.ifCond .ne 8, 3) := by decide +kernel
theorem dX0_fillPhases_52 : decode cX0_fillPhases 52 = .ok (.iload 6, 2) := by decide +kernel
theorem dX0_fillPhases_54 : decode cX0_fillPhases 54 = .ok (.goto 5, 3) := by decide +kernel
theorem dX0_fillPhases_57 : decode cX0_fillPhases 57 = .ok (.iload 5, 2) := by decide +kernel
theorem dX0_fillPhases_59 : decode cX0_fillPhases 59 = .ok (.istore 8, 2) := by decide +kernel
theorem dX0_fillPhases_61 : decode cX0_fillPhases 61 = .ok (.iload 4, 2) := by decide +kernel
theorem dX0_fillPhases_63 : decode cX0_fillPhases 63 = .ok (.iconst 2, 1) := by decide +kernel
theorem dX0_fillPhases_64 : decode cX0_fillPhases 64 = .ok (.irem, 1) := by decide +kernel
theorem dX0_fillPhases_65 : decode cX0_fillPhases 65 = .ok (.ifCond .ne 10, 3) := by decide +kernel
theorem dX0_fillPhases_68 : decode cX0_fillPhases 68 = .ok (.aload_n 0, 1) := by decide +kernel
theorem dX0_fillPhases_69 : decode cX0_fillPhases 69 = .ok (.getfield 26, 3) := by decide +kernel
theorem dX0_fillPhases_72 : decode cX0_fillPhases 72 = .ok (.goto 9, 3) := by decide +kernel
theorem dX0_fillPhases_75 : decode cX0_fillPhases 75 = .ok (.iconst 1, 1) := by decide +kernel
theorem dX0_fillPhases_76 : decode cX0_fillPhases 76 = .ok (.aload_n 0, 1) := by decide +kernel
theorem dX0_fillPhases_77 : decode cX0_fillPhases 77 = .ok (.getfield 26, 3) := by decide +kernel
theorem dX0_fillPhases_80 : decode cX0_fillPhases 80 = .ok (.isub, 1) := by decide +kernel
theorem dX0_fillPhases_81 : decode cX0_fillPhases 81 = .ok (.istore 9, 2) := by decide +kernel
theorem dX0_fillPhases_83 : decode cX0_fillPhases 83 = .ok (.aload_n 0, 1) := by decide +kernel
theorem dX0_fillPhases_84 : decode cX0_fillPhases 84 = .ok (.getfield 18, 3) := by decide +kernel
theorem dX0_fillPhases_87 : decode cX0_fillPhases 87 = .ok (.iload 4, 2) := by decide +kernel
theorem dX0_fillPhases_89 : decode cX0_fillPhases 89 = .ok (.aload_n 0, 1) := by decide +kernel
theorem dX0_fillPhases_90 : decode cX0_fillPhases 90 = .ok (.aload_n 1, 1) := by decide +kernel
theorem dX0_fillPhases_91 : decode cX0_fillPhases 91 = .ok (.aload_n 2, 1) := by decide +kernel
theorem dX0_fillPhases_92 : decode cX0_fillPhases 92 = .ok (.iload 7, 2) := by decide +kernel
theorem dX0_fillPhases_94 : decode cX0_fillPhases 94 = .ok (.iload 8, 2) := by decide +kernel
theorem dX0_fillPhases_96 : decode cX0_fillPhases 96 = .ok (.iload 9, 2) := by decide +kernel
theorem dX0_fillPhases_98 : decode cX0_fillPhases 98 = .ok (.invokevirtual 57, 3) := by decide +kernel
theorem dX0_fillPhases_101 : decode cX0_fillPhases 101 = .ok (.iastore, 1) := by decide +kernel
theorem dX0_fillPhases_102 : decode cX0_fillPhases 102 = .ok (.iinc 4 1, 3) := by decide +kernel
theorem dX0_fillPhases_105 : decode cX0_fillPhases 105 = .ok (.goto (-97), 3) := by decide +kernel
theorem dX0_fillPhases_108 : decode cX0_fillPhases 108 = .ok (.return_, 1) := by decide +kernel
theorem dX0_setChance_0 : decode cX0_setChance 0 = .ok (.iload 4, 2) := by decide +kernel
theorem dX0_setChance_2 : decode cX0_setChance 2 = .ok (.bipush 30, 2) := by decide +kernel
theorem dX0_setChance_4 : decode cX0_setChance 4 = .ok (.invokestatic 51, 3) := by decide +kernel
theorem dX0_setChance_7 : decode cX0_setChance 7 = .ok (.istore 5, 2) := by decide +kernel
theorem dX0_setChance_9 : decode cX0_setChance 9 = .ok (.iload 5, 2) := by decide +kernel
theorem dX0_setChance_11 : decode cX0_setChance 11 = .ok (.istore 6, 2) := by decide +kernel
theorem dX0_setChance_13 : decode cX0_setChance 13 = .ok (.iload 6, 2) := by decide +kernel
theorem dX0_setChance_15 : decode cX0_setChance 15 = .ok (.iload_n 1, 1) := by decide +kernel
theorem dX0_setChance_16 : decode cX0_setChance 16 = .ok (.if_icmp .lt 94, 3) := by decide +kernel
theorem dX0_setChance_19 : decode cX0_setChance 19 = .ok (.iload 6, 2) := by decide +kernel
theorem dX0_setChance_21 : decode cX0_setChance 21 = .ok (.ifCond .lt 89, 3) := by decide +kernel
theorem dX0_setChance_24 : decode cX0_setChance 24 = .ok (.iload 5, 2) := by decide +kernel
theorem dX0_setChance_26 : decode cX0_setChance 26 = .ok (.istore 7, 2) := by decide +kernel
theorem dX0_setChance_28 : decode cX0_setChance 28 = .ok (.iload 7, 2) := by decide +kernel
theorem dX0_setChance_30 : decode cX0_setChance 30 = .ok (.iload_n 2, 1) := by decide +kernel
theorem dX0_setChance_31 : decode cX0_setChance 31 = .ok (.if_icmp .lt 73, 3) := by decide +kernel
theorem dX0_setChance_34 : decode cX0_setChance 34 = .ok (.iload 7, 2) := by decide +kernel
theorem dX0_setChance_36 : decode cX0_setChance 36 = .ok (.ifCond .lt 68, 3) := by decide +kernel
theorem dX0_setChance_39 : decode cX0_setChance 39 = .ok (.iload 6, 2) := by decide +kernel
theorem dX0_setChance_41 : decode cX0_setChance 41 = .ok (.iload 7, 2) := by decide +kernel
theorem dX0_setChance_43 : decode cX0_setChance 43 = .ok (.iload_n 3, 1) := by decide +kernel
theorem dX0_setChance_44 : decode cX0_setChance 44 = .ok (.iload 5, 2) := by decide +kernel
theorem dX0_setChance_46 : decode cX0_setChance 46 = .ok (.invokestatic 61, 3) := by decide +kernel
theorem dX0_setChance_49 : decode cX0_setChance 49 = .ok (.ifCond .eq 16, 3) := by decide +kernel
theorem dX0_setChance_52 : decode cX0_setChance 52 = .ok (.aload_n 0, 1) := by decide +kernel
theorem dX0_setChance_53 : decode cX0_setChance 53 = .ok (.iload 6, 2) := by decide +kernel
theorem dX0_setChance_55 : decode cX0_setChance 55 = .ok (.iload 7, 2) := by decide +kernel
theorem dX0_setChance_57 : decode cX0_setChance 57 = .ok (.ldc 67, 2) := by decide +kernel
theorem dX0_setChance_59 : decode cX0_setChance 59 = .ok (.invokevirtual 68, 3) := by decide +kernel
theorem dX0_setChance_62 : decode cX0_setChance 62 = .ok (.goto 36, 3) := by decide +kernel
theorem dX0_setChance_65 : decode cX0_setChance 65 = .ok (.iload 7, 2) := by decide +kernel
theorem dX0_setChance_67 : decode cX0_setChance 67 = .ok (.iload 6, 2) := by decide +kernel
theorem dX0_setChance_69 : decode cX0_setChance 69 = .ok (.iload_n 3, 1) := by decide +kernel
theorem dX0_setChance_70 : decode cX0_setChance 70 = .ok (.iload 5, 2) := by decide +kernel
theorem dX0_setChance_72 : decode cX0_setChance 72 = .ok (.invokestatic 61, 3) := by decide +kernel
theorem dX0_setChance_75 : decode cX0_setChance 75 = .ok (.ifCond .eq 15, 3) := by decide +kernel
theorem dX0_setChance_78 : decode cX0_setChance 78 = .ok (.aload_n 0, 1) := by decide +kernel
theorem dX0_setChance_79 : decode cX0_setChance 79 = .ok (.iload 6, 2) := by decide +kernel
theorem dX0_setChance_81 : decode cX0_setChance 81 = .ok (.iload 7, 2) := by decide +kernel
theorem dX0_setChance_83 : decode cX0_setChance 83 = .ok (.iconst 0, 1) := by decide +kernel
theorem dX0_setChance_84 : decode cX0_setChance 84 = .ok (.invokevirtual 68, 3) := by decide +kernel
theorem dX0_setChance_87 : decode cX0_setChance 87 = .ok (.goto 11, 3) := by decide +kernel
theorem dX0_setChance_90 : decode cX0_setChance 90 = .ok (.aload_n 0, 1) := by decide +kernel
theorem dX0_setChance_91 : decode cX0_setChance 91 = .ok (.iload 6, 2) := by decide +kernel
theorem dX0_setChance_93 : decode cX0_setChance 93 = .ok (.iload 7, 2) := by decide +kernel
theorem dX0_setChance_95 : decode cX0_setChance 95 = .ok (.invokevirtual 72, 3) := by decide +kernel
theorem dX0_setChance_98 : decode cX0_setChance 98 = .ok (.iinc 7 (-1), 3) := by decide +kernel
theorem dX0_setChance_101 : decode cX0_setChance 101 = .ok (.goto (-73), 3) := by decide +kernel
theorem dX0_setChance_104 : decode cX0_setChance 104 = .ok (.iinc 6 (-1), 3) := by decide +kernel
theorem dX0_setChance_107 : decode cX0_setChance 107 = .ok (.goto (-94), 3) := by decide +kernel
theorem dX0_setChance_110 : decode cX0_setChance 110 = .ok (.aload_n 0, 1) := by decide +kernel
theorem dX0_setChance_111 : decode cX0_setChance 111 = .ok (.iload_n 1, 1) := by decide +kernel
theorem dX0_setChance_112 : decode cX0_setChance 112 = .ok (.iload_n 2, 1) := by decide +kernel
theorem dX0_setChance_113 : decode cX0_setChance 113 = .ok (.iconst 0, 1) := by decide +kernel
theorem dX0_setChance_114 : decode cX0_setChance 114 = .ok (.invokevirtual 76, 3) := by decide +kernel
theorem dX0_setChance_117 : decode cX0_setChance 117 = .ok (.ireturn, 1) := by decide +kernel
theorem dX0_weightOfRally_0 : decode cX0_weightOfRally 0 = .ok (.aload_n 0, 1) := by decide +kernel
theorem dX0_weightOfRally_1 : decode cX0_weightOfRally 1 = .ok (.getfield 26, 3) := by decide +kernel
theorem dX0_weightOfRally_4 : decode cX0_weightOfRally 4 = .ok (.ifCond .ne 7, 3) := by decide +kernel
theorem dX0_weightOfRally_7 : decode cX0_weightOfRally 7 = .ok (.iconst 0, 1) := by decide +kernel
theorem dX0_weightOfRally_8 : decode cX0_weightOfRally 8 = .ok (.goto 4, 3) := by decide +kernel
theorem dX0_weightOfRally_11 : decode cX0_weightOfRally 11 = .ok (.iconst 1, 1) := by decide +kernel
theorem dX0_weightOfRally_12 : decode cX0_weightOfRally 12 = .ok (.istore_n 3, 1) := by decide +kernel
theorem dX0_weightOfRally_13 : decode cX0_weightOfRally 13 = .ok (.aload_n 0, 1) := by decide +kernel
theorem dX0_weightOfRally_14 : decode cX0_weightOfRally 14 = .ok (.iload_n 1, 1) := by decide +kernel
theorem dX0_weightOfRally_15 : decode cX0_weightOfRally 15 = .ok (.iconst 1, 1) := by decide +kernel
theorem dX0_weightOfRally_16 : decode cX0_weightOfRally 16 = .ok (.iadd, 1) := by decide +kernel
theorem dX0_weightOfRally_17 : decode cX0_weightOfRally 17 = .ok (.iload_n 2, 1) := by decide +kernel
theorem dX0_weightOfRally_18 : decode cX0_weightOfRally 18 = .ok (.iload_n 3, 1) := by decide +kernel
theorem dX0_weightOfRally_19 : decode cX0_weightOfRally 19 = .ok (.invokevirtual 76, 3) := by decide +kernel
theorem dX0_weightOfRally_22 : decode cX0_weightOfRally 22 = .ok (.aload_n 0, 1) := by decide +kernel
theorem dX0_weightOfRally_23 : decode cX0_weightOfRally 23 = .ok (.iload_n 1, 1) := by decide +kernel
theorem dX0_weightOfRally_24 : decode cX0_weightOfRally 24 = .ok (.iload_n 2, 1) := by decide +kernel
theorem dX0_weightOfRally_25 : decode cX0_weightOfRally 25 = .ok (.iconst 1, 1) := by decide +kernel
theorem dX0_weightOfRally_26 : decode cX0_weightOfRally 26 = .ok (.iadd, 1) := by decide +kernel
theorem dX0_weightOfRally_27 : decode cX0_weightOfRally 27 = .ok (.iconst 1, 1) := by decide +kernel
theorem dX0_weightOfRally_28 : decode cX0_weightOfRally 28 = .ok (.iload_n 3, 1) := by decide +kernel
theorem dX0_weightOfRally_29 : decode cX0_weightOfRally 29 = .ok (.isub, 1) := by decide +kernel
theorem dX0_weightOfRally_30 : decode cX0_weightOfRally 30 = .ok (.invokevirtual 76, 3) := by decide +kernel
theorem dX0_weightOfRally_33 : decode cX0_weightOfRally 33 = .ok (.isub, 1) := by decide +kernel
theorem dX0_weightOfRally_34 : decode cX0_weightOfRally 34 = .ok (.ireturn, 1) := by decide +kernel
theorem dX0_valueAt_0 : decode cX0_valueAt 0 = .ok (.iload_n 1, 1) := by decide +kernel
theorem dX0_valueAt_1 : decode cX0_valueAt 1 = .ok (.ifCond .lt 23, 3) := by decide +kernel
theorem dX0_valueAt_4 : decode cX0_valueAt 4 = .ok (.iload_n 2, 1) := by decide +kernel
theorem dX0_valueAt_5 : decode cX0_valueAt 5 = .ok (.ifCond .lt 19, 3) := by decide +kernel
theorem dX0_valueAt_8 : decode cX0_valueAt 8 = .ok (.iload_n 2, 1) := by decide +kernel
theorem dX0_valueAt_9 : decode cX0_valueAt 9 = .ok (.bipush 30, 2) := by decide +kernel
theorem dX0_valueAt_11 : decode cX0_valueAt 11 = .ok (.if_icmp .gt 13, 3) := by decide +kernel
theorem dX0_valueAt_14 : decode cX0_valueAt 14 = .ok (.iload_n 3, 1) := by decide +kernel
theorem dX0_valueAt_15 : decode cX0_valueAt 15 = .ok (.ifCond .lt 9, 3) := by decide +kernel
theorem dX0_valueAt_18 : decode cX0_valueAt 18 = .ok (.iload_n 3, 1) := by decide +kernel
theorem dX0_valueAt_19 : decode cX0_valueAt 19 = .ok (.bipush 12, 2) := by decide +kernel
theorem dX0_valueAt_21 : decode cX0_valueAt 21 = .ok (.if_icmp .lt 5, 3) := by decide +kernel
theorem dX0_valueAt_24 : decode cX0_valueAt 24 = .ok (.iconst 0, 1) := by decide +kernel
theorem dX0_valueAt_25 : decode cX0_valueAt 25 = .ok (.ireturn, 1) := by decide +kernel
theorem dX0_valueAt_26 : decode cX0_valueAt 26 = .ok (.aload_n 0, 1) := by decide +kernel
theorem dX0_valueAt_27 : decode cX0_valueAt 27 = .ok (.getfield 23, 3) := by decide +kernel
theorem dX0_valueAt_30 : decode cX0_valueAt 30 = .ok (.iload_n 1, 1) := by decide +kernel
theorem dX0_valueAt_31 : decode cX0_valueAt 31 = .ok (.iconst 1, 1) := by decide +kernel
theorem dX0_valueAt_32 : decode cX0_valueAt 32 = .ok (.iand, 1) := by decide +kernel
theorem dX0_valueAt_33 : decode cX0_valueAt 33 = .ok (.aaload, 1) := by decide +kernel
theorem dX0_valueAt_34 : decode cX0_valueAt 34 = .ok (.iload_n 2, 1) := by decide +kernel
theorem dX0_valueAt_35 : decode cX0_valueAt 35 = .ok (.bipush 12, 2) := by decide +kernel
theorem dX0_valueAt_37 : decode cX0_valueAt 37 = .ok (.imul, 1) := by decide +kernel
theorem dX0_valueAt_38 : decode cX0_valueAt 38 = .ok (.iload_n 3, 1) := by decide +kernel
theorem dX0_valueAt_39 : decode cX0_valueAt 39 = .ok (.iadd, 1) := by decide +kernel
theorem dX0_valueAt_40 : decode cX0_valueAt 40 = .ok (.iaload, 1) := by decide +kernel
theorem dX0_valueAt_41 : decode cX0_valueAt 41 = .ok (.ireturn, 1) := by decide +kernel
theorem dX0_fillScore_0 : decode cX0_fillScore 0 = .ok (.aload_n 0, 1) := by decide +kernel
theorem dX0_fillScore_1 : decode cX0_fillScore 1 = .ok (.getfield 23, 3) := by decide +kernel
theorem dX0_fillScore_4 : decode cX0_fillScore 4 = .ok (.iload_n 1, 1) := by decide +kernel
theorem dX0_fillScore_5 : decode cX0_fillScore 5 = .ok (.iconst 1, 1) := by decide +kernel
theorem dX0_fillScore_6 : decode cX0_fillScore 6 = .ok (.iand, 1) := by decide +kernel
theorem dX0_fillScore_7 : decode cX0_fillScore 7 = .ok (.aaload, 1) := by decide +kernel
theorem dX0_fillScore_8 : decode cX0_fillScore 8 = .ok (.astore 4, 2) := by decide +kernel
theorem dX0_fillScore_10 : decode cX0_fillScore 10 = .ok (.iload_n 2, 1) := by decide +kernel
theorem dX0_fillScore_11 : decode cX0_fillScore 11 = .ok (.bipush 12, 2) := by decide +kernel
theorem dX0_fillScore_13 : decode cX0_fillScore 13 = .ok (.imul, 1) := by decide +kernel
theorem dX0_fillScore_14 : decode cX0_fillScore 14 = .ok (.istore 5, 2) := by decide +kernel
theorem dX0_fillScore_16 : decode cX0_fillScore 16 = .ok (.iconst 0, 1) := by decide +kernel
theorem dX0_fillScore_17 : decode cX0_fillScore 17 = .ok (.istore 6, 2) := by decide +kernel
theorem dX0_fillScore_19 : decode cX0_fillScore 19 = .ok (.iload 6, 2) := by decide +kernel
theorem dX0_fillScore_21 : decode cX0_fillScore 21 = .ok (.bipush 12, 2) := by decide +kernel
theorem dX0_fillScore_23 : decode cX0_fillScore 23 = .ok (.if_icmp .ge 18, 3) := by decide +kernel
theorem dX0_fillScore_26 : decode cX0_fillScore 26 = .ok (.aload 4, 2) := by decide +kernel
theorem dX0_fillScore_28 : decode cX0_fillScore 28 = .ok (.iload 5, 2) := by decide +kernel
theorem dX0_fillScore_30 : decode cX0_fillScore 30 = .ok (.iload 6, 2) := by decide +kernel
theorem dX0_fillScore_32 : decode cX0_fillScore 32 = .ok (.iadd, 1) := by decide +kernel
theorem dX0_fillScore_33 : decode cX0_fillScore 33 = .ok (.iload_n 3, 1) := by decide +kernel
theorem dX0_fillScore_34 : decode cX0_fillScore 34 = .ok (.iastore, 1) := by decide +kernel
theorem dX0_fillScore_35 : decode cX0_fillScore 35 = .ok (.iinc 6 1, 3) := by decide +kernel
theorem dX0_fillScore_38 : decode cX0_fillScore 38 = .ok (.goto (-19), 3) := by decide +kernel
theorem dX0_fillScore_41 : decode cX0_fillScore 41 = .ok (.return_, 1) := by decide +kernel
theorem dX0_reckonScore_0 : decode cX0_reckonScore 0 = .ok (.aload_n 0, 1) := by decide +kernel
theorem dX0_reckonScore_1 : decode cX0_reckonScore 1 = .ok (.getfield 23, 3) := by decide +kernel
theorem dX0_reckonScore_4 : decode cX0_reckonScore 4 = .ok (.iload_n 1, 1) := by decide +kernel
theorem dX0_reckonScore_5 : decode cX0_reckonScore 5 = .ok (.iconst 1, 1) := by decide +kernel
theorem dX0_reckonScore_6 : decode cX0_reckonScore 6 = .ok (.iand, 1) := by decide +kernel
theorem dX0_reckonScore_7 : decode cX0_reckonScore 7 = .ok (.aaload, 1) := by decide +kernel
theorem dX0_reckonScore_8 : decode cX0_reckonScore 8 = .ok (.astore_n 3, 1) := by decide +kernel
theorem dX0_reckonScore_9 : decode cX0_reckonScore 9 = .ok (.aload_n 0, 1) := by decide +kernel
theorem dX0_reckonScore_10 : decode cX0_reckonScore 10 = .ok (.getfield 23, 3) := by decide +kernel
theorem dX0_reckonScore_13 : decode cX0_reckonScore 13 = .ok (.iload_n 1, 1) := by decide +kernel
theorem dX0_reckonScore_14 : decode cX0_reckonScore 14 = .ok (.iconst 1, 1) := by decide +kernel
theorem dX0_reckonScore_15 : decode cX0_reckonScore 15 = .ok (.iadd, 1) := by decide +kernel
theorem dX0_reckonScore_16 : decode cX0_reckonScore 16 = .ok (.iconst 1, 1) := by decide +kernel
theorem dX0_reckonScore_17 : decode cX0_reckonScore 17 = .ok (.iand, 1) := by decide +kernel
theorem dX0_reckonScore_18 : decode cX0_reckonScore 18 = .ok (.aaload, 1) := by decide +kernel
theorem dX0_reckonScore_19 : decode cX0_reckonScore 19 = .ok (.astore 4, 2) := by decide +kernel
theorem dX0_reckonScore_21 : decode cX0_reckonScore 21 = .ok (.iload_n 2, 1) := by decide +kernel
theorem dX0_reckonScore_22 : decode cX0_reckonScore 22 = .ok (.bipush 12, 2) := by decide +kernel
theorem dX0_reckonScore_24 : decode cX0_reckonScore 24 = .ok (.imul, 1) := by decide +kernel
theorem dX0_reckonScore_25 : decode cX0_reckonScore 25 = .ok (.istore 5, 2) := by decide +kernel
theorem dX0_reckonScore_27 : decode cX0_reckonScore 27 = .ok (.iload 5, 2) := by decide +kernel
theorem dX0_reckonScore_29 : decode cX0_reckonScore 29 = .ok (.bipush 12, 2) := by decide +kernel
theorem dX0_reckonScore_31 : decode cX0_reckonScore 31 = .ok (.iadd, 1) := by decide +kernel
theorem dX0_reckonScore_32 : decode cX0_reckonScore 32 = .ok (.istore 6, 2) := by decide +kernel
theorem dX0_reckonScore_34 : decode cX0_reckonScore 34 = .ok (.aload_n 0, 1) := by decide +kernel
theorem dX0_reckonScore_35 : decode cX0_reckonScore 35 = .ok (.getfield 26, 3) := by decide +kernel
theorem dX0_reckonScore_38 : decode cX0_reckonScore 38 = .ok (.istore 7, 2) := by decide +kernel
theorem dX0_reckonScore_40 : decode cX0_reckonScore 40 = .ok (.iconst 0, 1) := by decide +kernel
theorem dX0_reckonScore_41 : decode cX0_reckonScore 41 = .ok (.istore 8, 2) := by decide +kernel
theorem dX0_reckonScore_43 : decode cX0_reckonScore 43 = .ok (.iload 8, 2) := by decide +kernel
theorem dX0_reckonScore_45 : decode cX0_reckonScore 45 = .ok (.bipush 12, 2) := by decide +kernel
theorem dX0_reckonScore_47 : decode cX0_reckonScore 47 = .ok (.if_icmp .ge 125, 3) := by decide +kernel
theorem dX0_reckonScore_50 : decode cX0_reckonScore 50 = .ok (.iload 8, 2) := by decide +kernel
theorem dX0_reckonScore_52 : decode cX0_reckonScore 52 = .ok (.iconst 1, 1) := by decide +kernel
theorem dX0_reckonScore_53 : decode cX0_reckonScore 53 = .ok (.iadd, 1) := by decide +kernel
theorem dX0_reckonScore_54 : decode cX0_reckonScore 54 = .ok (.bipush 12, 2) := by decide +kernel
theorem dX0_reckonScore_56 : decode cX0_reckonScore 56 = .ok (.if_icmp .ge 10, 3) := by decide +kernel
theorem dX0_reckonScore_59 : decode cX0_reckonScore 59 = .ok (.iload 8, 2) := by decide +kernel
theorem dX0_reckonScore_61 : decode cX0_reckonScore 61 = .ok (.iconst 1, 1) := by decide +kernel
theorem dX0_reckonScore_62 : decode cX0_reckonScore 62 = .ok (.iadd, 1) := by decide +kernel
theorem dX0_reckonScore_63 : decode cX0_reckonScore 63 = .ok (.goto 4, 3) := by decide +kernel
theorem dX0_reckonScore_66 : decode cX0_reckonScore 66 = .ok (.iconst 0, 1) := by decide +kernel
theorem dX0_reckonScore_67 : decode cX0_reckonScore 67 = .ok (.istore 9, 2) := by decide +kernel
theorem dX0_reckonScore_69 : decode cX0_reckonScore 69 = .ok (.iload 7, 2) := by decide +kernel
theorem dX0_reckonScore_71 : decode cX0_reckonScore 71 = .ok (.ifCond .ne 15, 3) := by decide +kernel
theorem dX0_reckonScore_74 : decode cX0_reckonScore 74 = .ok (.aload 4, 2) := by decide +kernel
theorem dX0_reckonScore_76 : decode cX0_reckonScore 76 = .ok (.iload 5, 2) := by decide +kernel
theorem dX0_reckonScore_78 : decode cX0_reckonScore 78 = .ok (.iload 8, 2) := by decide +kernel
theorem dX0_reckonScore_80 : decode cX0_reckonScore 80 = .ok (.iadd, 1) := by decide +kernel
theorem dX0_reckonScore_81 : decode cX0_reckonScore 81 = .ok (.iaload, 1) := by decide +kernel
theorem dX0_reckonScore_82 : decode cX0_reckonScore 82 = .ok (.i2l, 1) := by decide +kernel
theorem dX0_reckonScore_83 : decode cX0_reckonScore 83 = .ok (.goto 11, 3) := by decide +kernel
theorem dX0_reckonScore_86 : decode cX0_reckonScore 86 = .ok (.aload_n 3, 1) := by decide +kernel
theorem dX0_reckonScore_87 : decode cX0_reckonScore 87 = .ok (.iload 6, 2) := by decide +kernel
theorem dX0_reckonScore_89 : decode cX0_reckonScore 89 = .ok (.iload 8, 2) := by decide +kernel
theorem dX0_reckonScore_91 : decode cX0_reckonScore 91 = .ok (.iadd, 1) := by decide +kernel
theorem dX0_reckonScore_92 : decode cX0_reckonScore 92 = .ok (.iaload, 1) := by decide +kernel
theorem dX0_reckonScore_93 : decode cX0_reckonScore 93 = .ok (.i2l, 1) := by decide +kernel
theorem dX0_reckonScore_94 : decode cX0_reckonScore 94 = .ok (.lstore 10, 2) := by decide +kernel
theorem dX0_reckonScore_96 : decode cX0_reckonScore 96 = .ok (.iload 7, 2) := by decide +kernel
theorem dX0_reckonScore_98 : decode cX0_reckonScore 98 = .ok (.ifCond .ne 14, 3) := by decide +kernel
theorem dX0_reckonScore_101 : decode cX0_reckonScore 101 = .ok (.aload_n 3, 1) := by decide +kernel
theorem dX0_reckonScore_102 : decode cX0_reckonScore 102 = .ok (.iload 6, 2) := by decide +kernel
theorem dX0_reckonScore_104 : decode cX0_reckonScore 104 = .ok (.iload 9, 2) := by decide +kernel
theorem dX0_reckonScore_106 : decode cX0_reckonScore 106 = .ok (.iadd, 1) := by decide +kernel
theorem dX0_reckonScore_107 : decode cX0_reckonScore 107 = .ok (.iaload, 1) := by decide +kernel
theorem dX0_reckonScore_108 : decode cX0_reckonScore 108 = .ok (.i2l, 1) := by decide +kernel
theorem dX0_reckonScore_109 : decode cX0_reckonScore 109 = .ok (.goto 12, 3) := by decide +kernel
theorem dX0_reckonScore_112 : decode cX0_reckonScore 112 = .ok (.aload 4, 2) := by decide +kernel
theorem dX0_reckonScore_114 : decode cX0_reckonScore 114 = .ok (.iload 5, 2) := by decide +kernel
theorem dX0_reckonScore_116 : decode cX0_reckonScore 116 = .ok (.iload 9, 2) := by decide +kernel
theorem dX0_reckonScore_118 : decode cX0_reckonScore 118 = .ok (.iadd, 1) := by decide +kernel
theorem dX0_reckonScore_119 : decode cX0_reckonScore 119 = .ok (.iaload, 1) := by decide +kernel
theorem dX0_reckonScore_120 : decode cX0_reckonScore 120 = .ok (.i2l, 1) := by decide +kernel
theorem dX0_reckonScore_121 : decode cX0_reckonScore 121 = .ok (.lstore 12, 2) := by decide +kernel
theorem dX0_reckonScore_123 : decode cX0_reckonScore 123 = .ok (.aload_n 0, 1) := by decide +kernel
theorem dX0_reckonScore_124 : decode cX0_reckonScore 124 = .ok (.getfield 18, 3) := by decide +kernel
theorem dX0_reckonScore_127 : decode cX0_reckonScore 127 = .ok (.iload 8, 2) := by decide +kernel
theorem dX0_reckonScore_129 : decode cX0_reckonScore 129 = .ok (.iaload, 1) := by decide +kernel
theorem dX0_reckonScore_130 : decode cX0_reckonScore 130 = .ok (.i2l, 1) := by decide +kernel
theorem dX0_reckonScore_131 : decode cX0_reckonScore 131 = .ok (.lstore 14, 2) := by decide +kernel
theorem dX0_reckonScore_133 : decode cX0_reckonScore 133 = .ok (.aload_n 3, 1) := by decide +kernel
theorem dX0_reckonScore_134 : decode cX0_reckonScore 134 = .ok (.iload 5, 2) := by decide +kernel
theorem dX0_reckonScore_136 : decode cX0_reckonScore 136 = .ok (.iload 8, 2) := by decide +kernel
theorem dX0_reckonScore_138 : decode cX0_reckonScore 138 = .ok (.iadd, 1) := by decide +kernel
theorem dX0_reckonScore_139 : decode cX0_reckonScore 139 = .ok (.lload 14, 2) := by decide +kernel
theorem dX0_reckonScore_141 : decode cX0_reckonScore 141 = .ok (.lload 10, 2) := by decide +kernel
theorem dX0_reckonScore_143 : decode cX0_reckonScore 143 = .ok (.lmul, 1) := by decide +kernel
theorem dX0_reckonScore_144 : decode cX0_reckonScore 144 = .ok (.ldc2_w 80, 3) := by decide +kernel
theorem dX0_reckonScore_147 : decode cX0_reckonScore 147 = .ok (.lload 14, 2) := by decide +kernel
theorem dX0_reckonScore_149 : decode cX0_reckonScore 149 = .ok (.lsub, 1) := by decide +kernel
theorem dX0_reckonScore_150 : decode cX0_reckonScore 150 = .ok (.lload 12, 2) := by decide +kernel
theorem dX0_reckonScore_152 : decode cX0_reckonScore 152 = .ok (.lmul, 1) := by decide +kernel
theorem dX0_reckonScore_153 : decode cX0_reckonScore 153 = .ok (.ladd, 1) := by decide +kernel
theorem dX0_reckonScore_154 : decode cX0_reckonScore 154 = .ok (.ldc2_w 80, 3) := by decide +kernel
theorem dX0_reckonScore_157 : decode cX0_reckonScore 157 = .ok (.ldiv, 1) := by decide +kernel
theorem dX0_reckonScore_158 : decode cX0_reckonScore 158 = .ok (.l2i, 1) := by decide +kernel
theorem dX0_reckonScore_159 : decode cX0_reckonScore 159 = .ok (.iastore, 1) := by decide +kernel
theorem dX0_reckonScore_160 : decode cX0_reckonScore 160 = .ok (.iconst 1, 1) := by decide +kernel
theorem dX0_reckonScore_161 : decode cX0_reckonScore 161 = .ok (.iload 7, 2) := by decide +kernel
theorem dX0_reckonScore_163 : decode cX0_reckonScore 163 = .ok (.isub, 1) := by decide +kernel
theorem dX0_reckonScore_164 : decode cX0_reckonScore 164 = .ok (.istore 7, 2) := by decide +kernel
theorem dX0_reckonScore_166 : decode cX0_reckonScore 166 = .ok (.iinc 8 1, 3) := by decide +kernel
theorem dX0_reckonScore_169 : decode cX0_reckonScore 169 = .ok (.goto (-126), 3) := by decide +kernel
theorem dX0_reckonScore_172 : decode cX0_reckonScore 172 = .ok (.return_, 1) := by decide +kernel
theorem dX1_init_0 : decode cX1_init 0 = .ok (.aload_n 0, 1) := by decide +kernel
theorem dX1_init_1 : decode cX1_init 1 = .ok (.invokespecial 3, 3) := by decide +kernel
theorem dX1_init_4 : decode cX1_init 4 = .ok (.aload_n 0, 1) := by decide +kernel
theorem dX1_init_5 : decode cX1_init 5 = .ok (.iconst (-1), 1) := by decide +kernel
theorem dX1_init_6 : decode cX1_init 6 = .ok (.putfield 9, 3) := by decide +kernel
theorem dX1_init_9 : decode cX1_init 9 = .ok (.aload_n 0, 1) := by decide +kernel
theorem dX1_init_10 : decode cX1_init 10 = .ok (.iconst 0, 1) := by decide +kernel
theorem dX1_init_11 : decode cX1_init 11 = .ok (.putfield 15, 3) := by decide +kernel
theorem dX1_init_14 : decode cX1_init 14 = .ok (.aload_n 0, 1) := by decide +kernel
theorem dX1_init_15 : decode cX1_init 15 = .ok (.iconst (-1), 1) := by decide +kernel
theorem dX1_init_16 : decode cX1_init 16 = .ok (.putfield 19, 3) := by decide +kernel
theorem dX1_init_19 : decode cX1_init 19 = .ok (.aload_n 0, 1) := by decide +kernel
theorem dX1_init_20 : decode cX1_init 20 = .ok (.iconst 0, 1) := by decide +kernel
theorem dX1_init_21 : decode cX1_init 21 = .ok (.putfield 22, 3) := by decide +kernel
theorem dX1_init_24 : decode cX1_init 24 = .ok (.aload_n 0, 1) := by decide +kernel
theorem dX1_init_25 : decode cX1_init 25 = .ok (.iconst 0, 1) := by decide +kernel
theorem dX1_init_26 : decode cX1_init 26 = .ok (.putfield 25, 3) := by decide +kernel
theorem dX1_init_29 : decode cX1_init 29 = .ok (.aload_n 0, 1) := by decide +kernel
theorem dX1_init_30 : decode cX1_init 30 = .ok (.iconst (-1), 1) := by decide +kernel
theorem dX1_init_31 : decode cX1_init 31 = .ok (.putfield 28, 3) := by decide +kernel
theorem dX1_init_34 : decode cX1_init 34 = .ok (.aload_n 0, 1) := by decide +kernel
theorem dX1_init_35 : decode cX1_init 35 = .ok (.iconst (-1), 1) := by decide +kernel
theorem dX1_init_36 : decode cX1_init 36 = .ok (.putfield 31, 3) := by decide +kernel
theorem dX1_init_39 : decode cX1_init 39 = .ok (.return_, 1) := by decide +kernel
theorem dX1_startSet_0 : decode cX1_startSet 0 = .ok (.aload_n 0, 1) := by decide +kernel
theorem dX1_startSet_1 : decode cX1_startSet 1 = .ok (.dup, 1) := by decide +kernel
theorem dX1_startSet_2 : decode cX1_startSet 2 = .ok (.getfield 9, 3) := by decide +kernel
theorem dX1_startSet_5 : decode cX1_startSet 5 = .ok (.iconst 1, 1) := by decide +kernel
theorem dX1_startSet_6 : decode cX1_startSet 6 = .ok (.iadd, 1) := by decide +kernel
theorem dX1_startSet_7 : decode cX1_startSet 7 = .ok (.putfield 9, 3) := by decide +kernel
theorem dX1_startSet_10 : decode cX1_startSet 10 = .ok (.aload_n 0, 1) := by decide +kernel
theorem dX1_startSet_11 : decode cX1_startSet 11 = .ok (.iconst 1, 1) := by decide +kernel
theorem dX1_startSet_12 : decode cX1_startSet 12 = .ok (.putfield 15, 3) := by decide +kernel
theorem dX1_startSet_15 : decode cX1_startSet 15 = .ok (.aload_n 0, 1) := by decide +kernel
theorem dX1_startSet_16 : decode cX1_startSet 16 = .ok (.iload_n 1, 1) := by decide +kernel
theorem dX1_startSet_17 : decode cX1_startSet 17 = .ok (.putfield 19, 3) := by decide +kernel
theorem dX1_startSet_20 : decode cX1_startSet 20 = .ok (.aload_n 0, 1) := by decide +kernel
theorem dX1_startSet_21 : decode cX1_startSet 21 = .ok (.iconst 0, 1) := by decide +kernel
theorem dX1_startSet_22 : decode cX1_startSet 22 = .ok (.putfield 22, 3) := by decide +kernel
theorem dX1_startSet_25 : decode cX1_startSet 25 = .ok (.aload_n 0, 1) := by decide +kernel
theorem dX1_startSet_26 : decode cX1_startSet 26 = .ok (.iconst 0, 1) := by decide +kernel
theorem dX1_startSet_27 : decode cX1_startSet 27 = .ok (.putfield 25, 3) := by decide +kernel
theorem dX1_startSet_30 : decode cX1_startSet 30 = .ok (.aload_n 0, 1) := by decide +kernel
theorem dX1_startSet_31 : decode cX1_startSet 31 = .ok (.iconst (-1), 1) := by decide +kernel
theorem dX1_startSet_32 : decode cX1_startSet 32 = .ok (.putfield 28, 3) := by decide +kernel
theorem dX1_startSet_35 : decode cX1_startSet 35 = .ok (.return_, 1) := by decide +kernel
theorem dX1_copyFrom_0 : decode cX1_copyFrom 0 = .ok (.aload_n 0, 1) := by decide +kernel
theorem dX1_copyFrom_1 : decode cX1_copyFrom 1 = .ok (.aload_n 1, 1) := by decide +kernel
theorem dX1_copyFrom_2 : decode cX1_copyFrom 2 = .ok (.getfield 9, 3) := by decide +kernel
theorem dX1_copyFrom_5 : decode cX1_copyFrom 5 = .ok (.putfield 9, 3) := by decide +kernel
theorem dX1_copyFrom_8 : decode cX1_copyFrom 8 = .ok (.aload_n 0, 1) := by decide +kernel
theorem dX1_copyFrom_9 : decode cX1_copyFrom 9 = .ok (.aload_n 1, 1) := by decide +kernel
theorem dX1_copyFrom_10 : decode cX1_copyFrom 10 = .ok (.getfield 15, 3) := by decide +kernel
theorem dX1_copyFrom_13 : decode cX1_copyFrom 13 = .ok (.putfield 15, 3) := by decide +kernel
theorem dX1_copyFrom_16 : decode cX1_copyFrom 16 = .ok (.aload_n 0, 1) := by decide +kernel
theorem dX1_copyFrom_17 : decode cX1_copyFrom 17 = .ok (.aload_n 1, 1) := by decide +kernel
theorem dX1_copyFrom_18 : decode cX1_copyFrom 18 = .ok (.getfield 19, 3) := by decide +kernel
theorem dX1_copyFrom_21 : decode cX1_copyFrom 21 = .ok (.putfield 19, 3) := by decide +kernel
theorem dX1_copyFrom_24 : decode cX1_copyFrom 24 = .ok (.aload_n 0, 1) := by decide +kernel
theorem dX1_copyFrom_25 : decode cX1_copyFrom 25 = .ok (.aload_n 1, 1) := by decide +kernel
theorem dX1_copyFrom_26 : decode cX1_copyFrom 26 = .ok (.getfield 22, 3) := by decide +kernel
theorem dX1_copyFrom_29 : decode cX1_copyFrom 29 = .ok (.putfield 22, 3) := by decide +kernel
theorem dX1_copyFrom_32 : decode cX1_copyFrom 32 = .ok (.aload_n 0, 1) := by decide +kernel
theorem dX1_copyFrom_33 : decode cX1_copyFrom 33 = .ok (.aload_n 1, 1) := by decide +kernel
theorem dX1_copyFrom_34 : decode cX1_copyFrom 34 = .ok (.getfield 25, 3) := by decide +kernel
theorem dX1_copyFrom_37 : decode cX1_copyFrom 37 = .ok (.putfield 25, 3) := by decide +kernel
theorem dX1_copyFrom_40 : decode cX1_copyFrom 40 = .ok (.aload_n 0, 1) := by decide +kernel
theorem dX1_copyFrom_41 : decode cX1_copyFrom 41 = .ok (.aload_n 1, 1) := by decide +kernel
theorem dX1_copyFrom_42 : decode cX1_copyFrom 42 = .ok (.getfield 28, 3) := by decide +kernel
theorem dX1_copyFrom_45 : decode cX1_copyFrom 45 = .ok (.putfield 28, 3) := by decide +kernel
theorem dX1_copyFrom_48 : decode cX1_copyFrom 48 = .ok (.aload_n 0, 1) := by decide +kernel
theorem dX1_copyFrom_49 : decode cX1_copyFrom 49 = .ok (.aload_n 1, 1) := by decide +kernel
theorem dX1_copyFrom_50 : decode cX1_copyFrom 50 = .ok (.getfield 31, 3) := by decide +kernel
theorem dX1_copyFrom_53 : decode cX1_copyFrom 53 = .ok (.putfield 31, 3) := by decide +kernel
theorem dX1_copyFrom_56 : decode cX1_copyFrom 56 = .ok (.return_, 1) := by decide +kernel
theorem dX2_init_0 : decode cX2_init 0 = .ok (.aload_n 0, 1) := by decide +kernel
theorem dX2_init_1 : decode cX2_init 1 = .ok (.invokespecial 3, 3) := by decide +kernel
theorem dX2_init_4 : decode cX2_init 4 = .ok (.aload_n 0, 1) := by decide +kernel
theorem dX2_init_5 : decode cX2_init 5 = .ok (.bipush 6, 2) := by decide +kernel
theorem dX2_init_7 : decode cX2_init 7 = .ok (.newarray .int, 2) := by decide +kernel
theorem dX2_init_9 : decode cX2_init 9 = .ok (.putfield 9, 3) := by decide +kernel
theorem dX2_init_12 : decode cX2_init 12 = .ok (.aload_n 0, 1) := by decide +kernel
theorem dX2_init_13 : decode cX2_init 13 = .ok (.bipush 12, 2) := by decide +kernel
theorem dX2_init_15 : decode cX2_init 15 = .ok (.newarray .int, 2) := by decide +kernel
theorem dX2_init_17 : decode cX2_init 17 = .ok (.putfield 15, 3) := by decide +kernel
theorem dX2_init_20 : decode cX2_init 20 = .ok (.aload_n 0, 1) := by decide +kernel
theorem dX2_init_21 : decode cX2_init 21 = .ok (.bipush 12, 2) := by decide +kernel
theorem dX2_init_23 : decode cX2_init 23 = .ok (.newarray .int, 2) := by decide +kernel
theorem dX2_init_25 : decode cX2_init 25 = .ok (.putfield 18, 3) := by decide +kernel
theorem dX2_init_28 : decode cX2_init 28 = .ok (.aload_n 0, 1) := by decide +kernel
theorem dX2_init_29 : decode cX2_init 29 = .ok (.bipush 12, 2) := by decide +kernel
theorem dX2_init_31 : decode cX2_init 31 = .ok (.newarray .int, 2) := by decide +kernel
theorem dX2_init_33 : decode cX2_init 33 = .ok (.putfield 21, 3) := by decide +kernel
theorem dX2_init_36 : decode cX2_init 36 = .ok (.aload_n 0, 1) := by decide +kernel
theorem dX2_init_37 : decode cX2_init 37 = .ok (.iconst (-1), 1) := by decide +kernel
theorem dX2_init_38 : decode cX2_init 38 = .ok (.putfield 24, 3) := by decide +kernel
theorem dX2_init_41 : decode cX2_init 41 = .ok (.aload_n 0, 1) := by decide +kernel
theorem dX2_init_42 : decode cX2_init 42 = .ok (.iconst (-1), 1) := by decide +kernel
theorem dX2_init_43 : decode cX2_init 43 = .ok (.putfield 28, 3) := by decide +kernel
theorem dX2_init_46 : decode cX2_init 46 = .ok (.aload_n 0, 1) := by decide +kernel
theorem dX2_init_47 : decode cX2_init 47 = .ok (.iconst 0, 1) := by decide +kernel
theorem dX2_init_48 : decode cX2_init 48 = .ok (.putfield 31, 3) := by decide +kernel
theorem dX2_init_51 : decode cX2_init 51 = .ok (.aload_n 0, 1) := by decide +kernel
theorem dX2_init_52 : decode cX2_init 52 = .ok (.iconst 0, 1) := by decide +kernel
theorem dX2_init_53 : decode cX2_init 53 = .ok (.putfield 35, 3) := by decide +kernel
theorem dX2_init_56 : decode cX2_init 56 = .ok (.aload_n 0, 1) := by decide +kernel
theorem dX2_init_57 : decode cX2_init 57 = .ok (.iconst 0, 1) := by decide +kernel
theorem dX2_init_58 : decode cX2_init 58 = .ok (.putfield 38, 3) := by decide +kernel
theorem dX2_init_61 : decode cX2_init 61 = .ok (.aload_n 0, 1) := by decide +kernel
theorem dX2_init_62 : decode cX2_init 62 = .ok (.iconst 0, 1) := by decide +kernel
theorem dX2_init_63 : decode cX2_init 63 = .ok (.putfield 41, 3) := by decide +kernel
theorem dX2_init_66 : decode cX2_init 66 = .ok (.aload_n 0, 1) := by decide +kernel
theorem dX2_init_67 : decode cX2_init 67 = .ok (.iconst 0, 1) := by decide +kernel
theorem dX2_init_68 : decode cX2_init 68 = .ok (.putfield 44, 3) := by decide +kernel
theorem dX2_init_71 : decode cX2_init 71 = .ok (.aload_n 0, 1) := by decide +kernel
theorem dX2_init_72 : decode cX2_init 72 = .ok (.iconst 0, 1) := by decide +kernel
theorem dX2_init_73 : decode cX2_init 73 = .ok (.putfield 47, 3) := by decide +kernel
theorem dX2_init_76 : decode cX2_init 76 = .ok (.return_, 1) := by decide +kernel
theorem dX2_startSet_0 : decode cX2_startSet 0 = .ok (.iconst 0, 1) := by decide +kernel
theorem dX2_startSet_1 : decode cX2_startSet 1 = .ok (.istore_n 2, 1) := by decide +kernel
theorem dX2_startSet_2 : decode cX2_startSet 2 = .ok (.iload_n 2, 1) := by decide +kernel
theorem dX2_startSet_3 : decode cX2_startSet 3 = .ok (.bipush 12, 2) := by decide +kernel
theorem dX2_startSet_5 : decode cX2_startSet 5 = .ok (.if_icmp .ge 23, 3) := by decide +kernel
theorem dX2_startSet_8 : decode cX2_startSet 8 = .ok (.aload_n 0, 1) := by decide +kernel
theorem dX2_startSet_9 : decode cX2_startSet 9 = .ok (.getfield 15, 3) := by decide +kernel
theorem dX2_startSet_12 : decode cX2_startSet 12 = .ok (.iload_n 2, 1) := by decide +kernel
theorem dX2_startSet_13 : decode cX2_startSet 13 = .ok (.iconst 0, 1) := by decide +kernel
theorem dX2_startSet_14 : decode cX2_startSet 14 = .ok (.iastore, 1) := by decide +kernel
theorem dX2_startSet_15 : decode cX2_startSet 15 = .ok (.aload_n 0, 1) := by decide +kernel
theorem dX2_startSet_16 : decode cX2_startSet 16 = .ok (.getfield 18, 3) := by decide +kernel
theorem dX2_startSet_19 : decode cX2_startSet 19 = .ok (.iload_n 2, 1) := by decide +kernel
theorem dX2_startSet_20 : decode cX2_startSet 20 = .ok (.iconst (-1), 1) := by decide +kernel
theorem dX2_startSet_21 : decode cX2_startSet 21 = .ok (.iastore, 1) := by decide +kernel
theorem dX2_startSet_22 : decode cX2_startSet 22 = .ok (.iinc 2 1, 3) := by decide +kernel
theorem dX2_startSet_25 : decode cX2_startSet 25 = .ok (.goto (-23), 3) := by decide +kernel
theorem dX2_startSet_28 : decode cX2_startSet 28 = .ok (.iconst 0, 1) := by decide +kernel
theorem dX2_startSet_29 : decode cX2_startSet 29 = .ok (.istore_n 2, 1) := by decide +kernel
theorem dX2_startSet_30 : decode cX2_startSet 30 = .ok (.iload_n 2, 1) := by decide +kernel
theorem dX2_startSet_31 : decode cX2_startSet 31 = .ok (.bipush 6, 2) := by decide +kernel
theorem dX2_startSet_33 : decode cX2_startSet 33 = .ok (.if_icmp .ge 37, 3) := by decide +kernel
theorem dX2_startSet_36 : decode cX2_startSet 36 = .ok (.aload_n 1, 1) := by decide +kernel
theorem dX2_startSet_37 : decode cX2_startSet 37 = .ok (.getfield 50, 3) := by decide +kernel
theorem dX2_startSet_40 : decode cX2_startSet 40 = .ok (.iload_n 2, 1) := by decide +kernel
theorem dX2_startSet_41 : decode cX2_startSet 41 = .ok (.iaload, 1) := by decide +kernel
theorem dX2_startSet_42 : decode cX2_startSet 42 = .ok (.istore_n 3, 1) := by decide +kernel
theorem dX2_startSet_43 : decode cX2_startSet 43 = .ok (.aload_n 0, 1) := by decide +kernel
theorem dX2_startSet_44 : decode cX2_startSet 44 = .ok (.getfield 9, 3) := by decide +kernel
theorem dX2_startSet_47 : decode cX2_startSet 47 = .ok (.iload_n 2, 1) := by decide +kernel
theorem dX2_startSet_48 : decode cX2_startSet 48 = .ok (.iload_n 3, 1) := by decide +kernel
theorem dX2_startSet_49 : decode cX2_startSet 49 = .ok (.iastore, 1) := by decide +kernel
theorem dX2_startSet_50 : decode cX2_startSet 50 = .ok (.iload_n 3, 1) := by decide +kernel
theorem dX2_startSet_51 : decode cX2_startSet 51 = .ok (.invokestatic 55, 3) := by decide +kernel
theorem dX2_startSet_54 : decode cX2_startSet 54 = .ok (.ifCond .eq 10, 3) := by decide +kernel
theorem dX2_startSet_57 : decode cX2_startSet 57 = .ok (.aload_n 0, 1) := by decide +kernel
theorem dX2_startSet_58 : decode cX2_startSet 58 = .ok (.getfield 15, 3) := by decide +kernel
theorem dX2_startSet_61 : decode cX2_startSet 61 = .ok (.iload_n 3, 1) := by decide +kernel
theorem dX2_startSet_62 : decode cX2_startSet 62 = .ok (.iconst 1, 1) := by decide +kernel
theorem dX2_startSet_63 : decode cX2_startSet 63 = .ok (.iastore, 1) := by decide +kernel
theorem dX2_startSet_64 : decode cX2_startSet 64 = .ok (.iinc 2 1, 3) := by decide +kernel
theorem dX2_startSet_67 : decode cX2_startSet 67 = .ok (.goto (-37), 3) := by decide +kernel
theorem dX2_startSet_70 : decode cX2_startSet 70 = .ok (.aload_n 0, 1) := by decide +kernel
theorem dX2_startSet_71 : decode cX2_startSet 71 = .ok (.aload_n 1, 1) := by decide +kernel
theorem dX2_startSet_72 : decode cX2_startSet 72 = .ok (.getfield 59, 3) := by decide +kernel
theorem dX2_startSet_75 : decode cX2_startSet 75 = .ok (.putfield 24, 3) := by decide +kernel
theorem dX2_startSet_78 : decode cX2_startSet 78 = .ok (.aload_n 0, 1) := by decide +kernel
theorem dX2_startSet_79 : decode cX2_startSet 79 = .ok (.iconst (-1), 1) := by decide +kernel
theorem dX2_startSet_80 : decode cX2_startSet 80 = .ok (.putfield 28, 3) := by decide +kernel
theorem dX2_startSet_83 : decode cX2_startSet 83 = .ok (.aload_n 0, 1) := by decide +kernel
theorem dX2_startSet_84 : decode cX2_startSet 84 = .ok (.iconst 0, 1) := by decide +kernel
theorem dX2_startSet_85 : decode cX2_startSet 85 = .ok (.putfield 31, 3) := by decide +kernel
theorem dX2_startSet_88 : decode cX2_startSet 88 = .ok (.aload_n 0, 1) := by decide +kernel
theorem dX2_startSet_89 : decode cX2_startSet 89 = .ok (.iconst 0, 1) := by decide +kernel
theorem dX2_startSet_90 : decode cX2_startSet 90 = .ok (.putfield 35, 3) := by decide +kernel
theorem dX2_startSet_93 : decode cX2_startSet 93 = .ok (.aload_n 0, 1) := by decide +kernel
theorem dX2_startSet_94 : decode cX2_startSet 94 = .ok (.iconst 0, 1) := by decide +kernel
theorem dX2_startSet_95 : decode cX2_startSet 95 = .ok (.putfield 41, 3) := by decide +kernel
theorem dX2_startSet_98 : decode cX2_startSet 98 = .ok (.aload_n 0, 1) := by decide +kernel
theorem dX2_startSet_99 : decode cX2_startSet 99 = .ok (.iconst 0, 1) := by decide +kernel
theorem dX2_startSet_100 : decode cX2_startSet 100 = .ok (.putfield 44, 3) := by decide +kernel
theorem dX2_startSet_103 : decode cX2_startSet 103 = .ok (.aload_n 0, 1) := by decide +kernel
theorem dX2_startSet_104 : decode cX2_startSet 104 = .ok (.iconst 0, 1) := by decide +kernel
theorem dX2_startSet_105 : decode cX2_startSet 105 = .ok (.putfield 47, 3) := by decide +kernel
theorem dX2_startSet_108 : decode cX2_startSet 108 = .ok (.return_, 1) := by decide +kernel
theorem dX2_copyFrom_0 : decode cX2_copyFrom 0 = .ok (.aload_n 1, 1) := by decide +kernel
theorem dX2_copyFrom_1 : decode cX2_copyFrom 1 = .ok (.getfield 9, 3) := by decide +kernel
theorem dX2_copyFrom_4 : decode cX2_copyFrom 4 = .ok (.iconst 0, 1) := by decide +kernel
theorem dX2_copyFrom_5 : decode cX2_copyFrom 5 = .ok (.aload_n 0, 1) := by decide +kernel
theorem dX2_copyFrom_6 : decode cX2_copyFrom 6 = .ok (.getfield 9, 3) := by decide +kernel
theorem dX2_copyFrom_9 : decode cX2_copyFrom 9 = .ok (.iconst 0, 1) := by decide +kernel
theorem dX2_copyFrom_10 : decode cX2_copyFrom 10 = .ok (.bipush 6, 2) := by decide +kernel
theorem dX2_copyFrom_12 : decode cX2_copyFrom 12 = .ok (.invokestatic 60, 3) := by decide +kernel
theorem dX2_copyFrom_15 : decode cX2_copyFrom 15 = .ok (.aload_n 1, 1) := by decide +kernel
theorem dX2_copyFrom_16 : decode cX2_copyFrom 16 = .ok (.getfield 15, 3) := by decide +kernel
theorem dX2_copyFrom_19 : decode cX2_copyFrom 19 = .ok (.iconst 0, 1) := by decide +kernel
theorem dX2_copyFrom_20 : decode cX2_copyFrom 20 = .ok (.aload_n 0, 1) := by decide +kernel
theorem dX2_copyFrom_21 : decode cX2_copyFrom 21 = .ok (.getfield 15, 3) := by decide +kernel
theorem dX2_copyFrom_24 : decode cX2_copyFrom 24 = .ok (.iconst 0, 1) := by decide +kernel
theorem dX2_copyFrom_25 : decode cX2_copyFrom 25 = .ok (.bipush 12, 2) := by decide +kernel
theorem dX2_copyFrom_27 : decode cX2_copyFrom 27 = .ok (.invokestatic 60, 3) := by decide +kernel
theorem dX2_copyFrom_30 : decode cX2_copyFrom 30 = .ok (.aload_n 1, 1) := by decide +kernel
theorem dX2_copyFrom_31 : decode cX2_copyFrom 31 = .ok (.getfield 18, 3) := by decide +kernel
theorem dX2_copyFrom_34 : decode cX2_copyFrom 34 = .ok (.iconst 0, 1) := by decide +kernel
theorem dX2_copyFrom_35 : decode cX2_copyFrom 35 = .ok (.aload_n 0, 1) := by decide +kernel
theorem dX2_copyFrom_36 : decode cX2_copyFrom 36 = .ok (.getfield 18, 3) := by decide +kernel
theorem dX2_copyFrom_39 : decode cX2_copyFrom 39 = .ok (.iconst 0, 1) := by decide +kernel
theorem dX2_copyFrom_40 : decode cX2_copyFrom 40 = .ok (.bipush 12, 2) := by decide +kernel
theorem dX2_copyFrom_42 : decode cX2_copyFrom 42 = .ok (.invokestatic 60, 3) := by decide +kernel
theorem dX2_copyFrom_45 : decode cX2_copyFrom 45 = .ok (.aload_n 1, 1) := by decide +kernel
theorem dX2_copyFrom_46 : decode cX2_copyFrom 46 = .ok (.getfield 21, 3) := by decide +kernel
theorem dX2_copyFrom_49 : decode cX2_copyFrom 49 = .ok (.iconst 0, 1) := by decide +kernel
theorem dX2_copyFrom_50 : decode cX2_copyFrom 50 = .ok (.aload_n 0, 1) := by decide +kernel
theorem dX2_copyFrom_51 : decode cX2_copyFrom 51 = .ok (.getfield 21, 3) := by decide +kernel
theorem dX2_copyFrom_54 : decode cX2_copyFrom 54 = .ok (.iconst 0, 1) := by decide +kernel
theorem dX2_copyFrom_55 : decode cX2_copyFrom 55 = .ok (.bipush 12, 2) := by decide +kernel
theorem dX2_copyFrom_57 : decode cX2_copyFrom 57 = .ok (.invokestatic 60, 3) := by decide +kernel
theorem dX2_copyFrom_60 : decode cX2_copyFrom 60 = .ok (.aload_n 0, 1) := by decide +kernel
theorem dX2_copyFrom_61 : decode cX2_copyFrom 61 = .ok (.aload_n 1, 1) := by decide +kernel
theorem dX2_copyFrom_62 : decode cX2_copyFrom 62 = .ok (.getfield 24, 3) := by decide +kernel
theorem dX2_copyFrom_65 : decode cX2_copyFrom 65 = .ok (.putfield 24, 3) := by decide +kernel
theorem dX2_copyFrom_68 : decode cX2_copyFrom 68 = .ok (.aload_n 0, 1) := by decide +kernel
theorem dX2_copyFrom_69 : decode cX2_copyFrom 69 = .ok (.aload_n 1, 1) := by decide +kernel
theorem dX2_copyFrom_70 : decode cX2_copyFrom 70 = .ok (.getfield 28, 3) := by decide +kernel
theorem dX2_copyFrom_73 : decode cX2_copyFrom 73 = .ok (.putfield 28, 3) := by decide +kernel
theorem dX2_copyFrom_76 : decode cX2_copyFrom 76 = .ok (.aload_n 0, 1) := by decide +kernel
theorem dX2_copyFrom_77 : decode cX2_copyFrom 77 = .ok (.aload_n 1, 1) := by decide +kernel
theorem dX2_copyFrom_78 : decode cX2_copyFrom 78 = .ok (.getfield 31, 3) := by decide +kernel
theorem dX2_copyFrom_81 : decode cX2_copyFrom 81 = .ok (.putfield 31, 3) := by decide +kernel
theorem dX2_copyFrom_84 : decode cX2_copyFrom 84 = .ok (.aload_n 0, 1) := by decide +kernel
theorem dX2_copyFrom_85 : decode cX2_copyFrom 85 = .ok (.aload_n 1, 1) := by decide +kernel
theorem dX2_copyFrom_86 : decode cX2_copyFrom 86 = .ok (.getfield 35, 3) := by decide +kernel
theorem dX2_copyFrom_89 : decode cX2_copyFrom 89 = .ok (.putfield 35, 3) := by decide +kernel
theorem dX2_copyFrom_92 : decode cX2_copyFrom 92 = .ok (.aload_n 0, 1) := by decide +kernel
theorem dX2_copyFrom_93 : decode cX2_copyFrom 93 = .ok (.aload_n 1, 1) := by decide +kernel
theorem dX2_copyFrom_94 : decode cX2_copyFrom 94 = .ok (.getfield 38, 3) := by decide +kernel
theorem dX2_copyFrom_97 : decode cX2_copyFrom 97 = .ok (.putfield 38, 3) := by decide +kernel
theorem dX2_copyFrom_100 : decode cX2_copyFrom 100 = .ok (.aload_n 0, 1) := by decide +kernel
theorem dX2_copyFrom_101 : decode cX2_copyFrom 101 = .ok (.aload_n 1, 1) := by decide +kernel
theorem dX2_copyFrom_102 : decode cX2_copyFrom 102 = .ok (.getfield 41, 3) := by decide +kernel
theorem dX2_copyFrom_105 : decode cX2_copyFrom 105 = .ok (.putfield 41, 3) := by decide +kernel
theorem dX2_copyFrom_108 : decode cX2_copyFrom 108 = .ok (.aload_n 0, 1) := by decide +kernel
theorem dX2_copyFrom_109 : decode cX2_copyFrom 109 = .ok (.aload_n 1, 1) := by decide +kernel
theorem dX2_copyFrom_110 : decode cX2_copyFrom 110 = .ok (.getfield 44, 3) := by decide +kernel
theorem dX2_copyFrom_113 : decode cX2_copyFrom 113 = .ok (.putfield 44, 3) := by decide +kernel
theorem dX2_copyFrom_116 : decode cX2_copyFrom 116 = .ok (.aload_n 0, 1) := by decide +kernel
theorem dX2_copyFrom_117 : decode cX2_copyFrom 117 = .ok (.aload_n 1, 1) := by decide +kernel
theorem dX2_copyFrom_118 : decode cX2_copyFrom 118 = .ok (.getfield 47, 3) := by decide +kernel
theorem dX2_copyFrom_121 : decode cX2_copyFrom 121 = .ok (.putfield 47, 3) := by decide +kernel
theorem dX2_copyFrom_124 : decode cX2_copyFrom 124 = .ok (.return_, 1) := by decide +kernel
theorem dX2_placeOf_0 : decode cX2_placeOf 0 = .ok (.iconst 0, 1) := by decide +kernel
theorem dX2_placeOf_1 : decode cX2_placeOf 1 = .ok (.istore_n 2, 1) := by decide +kernel
theorem dX2_placeOf_2 : decode cX2_placeOf 2 = .ok (.iload_n 2, 1) := by decide +kernel
theorem dX2_placeOf_3 : decode cX2_placeOf 3 = .ok (.bipush 6, 2) := by decide +kernel
theorem dX2_placeOf_5 : decode cX2_placeOf 5 = .ok (.if_icmp .ge 21, 3) := by decide +kernel
theorem dX2_placeOf_8 : decode cX2_placeOf 8 = .ok (.aload_n 0, 1) := by decide +kernel
theorem dX2_placeOf_9 : decode cX2_placeOf 9 = .ok (.getfield 9, 3) := by decide +kernel
theorem dX2_placeOf_12 : decode cX2_placeOf 12 = .ok (.iload_n 2, 1) := by decide +kernel
theorem dX2_placeOf_13 : decode cX2_placeOf 13 = .ok (.iaload, 1) := by decide +kernel
theorem dX2_placeOf_14 : decode cX2_placeOf 14 = .ok (.iload_n 1, 1) := by decide +kernel
theorem dX2_placeOf_15 : decode cX2_placeOf 15 = .ok (.if_icmp .ne 5, 3) := by decide +kernel
theorem dX2_placeOf_18 : decode cX2_placeOf 18 = .ok (.iload_n 2, 1) := by decide +kernel
theorem dX2_placeOf_19 : decode cX2_placeOf 19 = .ok (.ireturn, 1) := by decide +kernel
theorem dX2_placeOf_20 : decode cX2_placeOf 20 = .ok (.iinc 2 1, 3) := by decide +kernel
theorem dX2_placeOf_23 : decode cX2_placeOf 23 = .ok (.goto (-21), 3) := by decide +kernel
theorem dX2_placeOf_26 : decode cX2_placeOf 26 = .ok (.iconst (-1), 1) := by decide +kernel
theorem dX2_placeOf_27 : decode cX2_placeOf 27 = .ok (.ireturn, 1) := by decide +kernel
theorem dX2_playerAt_0 : decode cX2_playerAt 0 = .ok (.iload_n 1, 1) := by decide +kernel
theorem dX2_playerAt_1 : decode cX2_playerAt 1 = .ok (.ifCond .lt 9, 3) := by decide +kernel
theorem dX2_playerAt_4 : decode cX2_playerAt 4 = .ok (.iload_n 1, 1) := by decide +kernel
theorem dX2_playerAt_5 : decode cX2_playerAt 5 = .ok (.bipush 6, 2) := by decide +kernel
theorem dX2_playerAt_7 : decode cX2_playerAt 7 = .ok (.if_icmp .lt 5, 3) := by decide +kernel
theorem dX2_playerAt_10 : decode cX2_playerAt 10 = .ok (.iconst (-1), 1) := by decide +kernel
theorem dX2_playerAt_11 : decode cX2_playerAt 11 = .ok (.ireturn, 1) := by decide +kernel
theorem dX2_playerAt_12 : decode cX2_playerAt 12 = .ok (.iload_n 1, 1) := by decide +kernel
theorem dX2_playerAt_13 : decode cX2_playerAt 13 = .ok (.aload_n 0, 1) := by decide +kernel
theorem dX2_playerAt_14 : decode cX2_playerAt 14 = .ok (.getfield 28, 3) := by decide +kernel
theorem dX2_playerAt_17 : decode cX2_playerAt 17 = .ok (.if_icmp .ne 10, 3) := by decide +kernel
theorem dX2_playerAt_20 : decode cX2_playerAt 20 = .ok (.aload_n 0, 1) := by decide +kernel
theorem dX2_playerAt_21 : decode cX2_playerAt 21 = .ok (.getfield 24, 3) := by decide +kernel
theorem dX2_playerAt_24 : decode cX2_playerAt 24 = .ok (.goto 9, 3) := by decide +kernel
theorem dX2_playerAt_27 : decode cX2_playerAt 27 = .ok (.aload_n 0, 1) := by decide +kernel
theorem dX2_playerAt_28 : decode cX2_playerAt 28 = .ok (.getfield 9, 3) := by decide +kernel
theorem dX2_playerAt_31 : decode cX2_playerAt 31 = .ok (.iload_n 1, 1) := by decide +kernel
theorem dX2_playerAt_32 : decode cX2_playerAt 32 = .ok (.iaload, 1) := by decide +kernel
theorem dX2_playerAt_33 : decode cX2_playerAt 33 = .ok (.ireturn, 1) := by decide +kernel
theorem dX2_freeStandsFor_0 : decode cX2_freeStandsFor 0 = .ok (.aload_n 0, 1) := by decide +kernel
theorem dX2_freeStandsFor_1 : decode cX2_freeStandsFor 1 = .ok (.getfield 28, 3) := by decide +kernel
theorem dX2_freeStandsFor_4 : decode cX2_freeStandsFor 4 = .ok (.ifCond .lt 24, 3) := by decide +kernel
theorem dX2_freeStandsFor_7 : decode cX2_freeStandsFor 7 = .ok (.aload_n 0, 1) := by decide +kernel
theorem dX2_freeStandsFor_8 : decode cX2_freeStandsFor 8 = .ok (.getfield 28, 3) := by decide +kernel
theorem dX2_freeStandsFor_11 : decode cX2_freeStandsFor 11 = .ok (.bipush 6, 2) := by decide +kernel
theorem dX2_freeStandsFor_13 : decode cX2_freeStandsFor 13 = .ok (.if_icmp .ge 15, 3) := by decide +kernel
theorem dX2_freeStandsFor_16 : decode cX2_freeStandsFor 16 = .ok (.aload_n 0, 1) := by decide +kernel
theorem dX2_freeStandsFor_17 : decode cX2_freeStandsFor 17 = .ok (.getfield 9, 3) := by decide +kernel
theorem dX2_freeStandsFor_20 : decode cX2_freeStandsFor 20 = .ok (.aload_n 0, 1) := by decide +kernel
theorem dX2_freeStandsFor_21 : decode cX2_freeStandsFor 21 = .ok (.getfield 28, 3) := by decide +kernel
theorem dX2_freeStandsFor_24 : decode cX2_freeStandsFor 24 = .ok (.iaload, 1) := by decide +kernel
theorem dX2_freeStandsFor_25 : decode cX2_freeStandsFor 25 = .ok (.goto 4, 3) := by decide +kernel
theorem dX2_freeStandsFor_28 : decode cX2_freeStandsFor 28 = .ok (.iconst (-1), 1) := by decide +kernel
theorem dX2_freeStandsFor_29 : decode cX2_freeStandsFor 29 = .ok (.ireturn, 1) := by decide +kernel
theorem dX2_turnOn_0 : decode cX2_turnOn 0 = .ok (.aload_n 0, 1) := by decide +kernel
theorem dX2_turnOn_1 : decode cX2_turnOn 1 = .ok (.getfield 9, 3) := by decide +kernel
theorem dX2_turnOn_4 : decode cX2_turnOn 4 = .ok (.iconst 0, 1) := by decide +kernel
theorem dX2_turnOn_5 : decode cX2_turnOn 5 = .ok (.iaload, 1) := by decide +kernel
theorem dX2_turnOn_6 : decode cX2_turnOn 6 = .ok (.istore_n 1, 1) := by decide +kernel
theorem dX2_turnOn_7 : decode cX2_turnOn 7 = .ok (.iconst 1, 1) := by decide +kernel
theorem dX2_turnOn_8 : decode cX2_turnOn 8 = .ok (.istore_n 2, 1) := by decide +kernel
theorem dX2_turnOn_9 : decode cX2_turnOn 9 = .ok (.iload_n 2, 1) := by decide +kernel
theorem dX2_turnOn_10 : decode cX2_turnOn 10 = .ok (.bipush 6, 2) := by decide +kernel
theorem dX2_turnOn_12 : decode cX2_turnOn 12 = .ok (.if_icmp .ge 23, 3) := by decide +kernel
theorem dX2_turnOn_15 : decode cX2_turnOn 15 = .ok (.aload_n 0, 1) := by decide +kernel
theorem dX2_turnOn_16 : decode cX2_turnOn 16 = .ok (.getfield 9, 3) := by decide +kernel
theorem dX2_turnOn_19 : decode cX2_turnOn 19 = .ok (.iload_n 2, 1) := by decide +kernel
theorem dX2_turnOn_20 : decode cX2_turnOn 20 = .ok (.iconst 1, 1) := by decide +kernel
theorem dX2_turnOn_21 : decode cX2_turnOn 21 = .ok (.isub, 1) := by decide +kernel
theorem dX2_turnOn_22 : decode cX2_turnOn 22 = .ok (.aload_n 0, 1) := by decide +kernel
theorem dX2_turnOn_23 : decode cX2_turnOn 23 = .ok (.getfield 9, 3) := by decide +kernel
theorem dX2_turnOn_26 : decode cX2_turnOn 26 = .ok (.iload_n 2, 1) := by decide +kernel
theorem dX2_turnOn_27 : decode cX2_turnOn 27 = .ok (.iaload, 1) := by decide +kernel
theorem dX2_turnOn_28 : decode cX2_turnOn 28 = .ok (.iastore, 1) := by decide +kernel
theorem dX2_turnOn_29 : decode cX2_turnOn 29 = .ok (.iinc 2 1, 3) := by decide +kernel
theorem dX2_turnOn_32 : decode cX2_turnOn 32 = .ok (.goto (-23), 3) := by decide +kernel
theorem dX2_turnOn_35 : decode cX2_turnOn 35 = .ok (.aload_n 0, 1) := by decide +kernel
theorem dX2_turnOn_36 : decode cX2_turnOn 36 = .ok (.getfield 9, 3) := by decide +kernel
theorem dX2_turnOn_39 : decode cX2_turnOn 39 = .ok (.iconst 5, 1) := by decide +kernel
theorem dX2_turnOn_40 : decode cX2_turnOn 40 = .ok (.iload_n 1, 1) := by decide +kernel
theorem dX2_turnOn_41 : decode cX2_turnOn 41 = .ok (.iastore, 1) := by decide +kernel
theorem dX2_turnOn_42 : decode cX2_turnOn 42 = .ok (.aload_n 0, 1) := by decide +kernel
theorem dX2_turnOn_43 : decode cX2_turnOn 43 = .ok (.dup, 1) := by decide +kernel
theorem dX2_turnOn_44 : decode cX2_turnOn 44 = .ok (.getfield 47, 3) := by decide +kernel
theorem dX2_turnOn_47 : decode cX2_turnOn 47 = .ok (.iconst 1, 1) := by decide +kernel
theorem dX2_turnOn_48 : decode cX2_turnOn 48 = .ok (.iadd, 1) := by decide +kernel
theorem dX2_turnOn_49 : decode cX2_turnOn 49 = .ok (.putfield 47, 3) := by decide +kernel
theorem dX2_turnOn_52 : decode cX2_turnOn 52 = .ok (.aload_n 0, 1) := by decide +kernel
theorem dX2_turnOn_53 : decode cX2_turnOn 53 = .ok (.getfield 28, 3) := by decide +kernel
theorem dX2_turnOn_56 : decode cX2_turnOn 56 = .ok (.iconst (-1), 1) := by decide +kernel
theorem dX2_turnOn_57 : decode cX2_turnOn 57 = .ok (.if_icmp .eq 27, 3) := by decide +kernel
theorem dX2_turnOn_60 : decode cX2_turnOn 60 = .ok (.aload_n 0, 1) := by decide +kernel
theorem dX2_turnOn_61 : decode cX2_turnOn 61 = .ok (.aload_n 0, 1) := by decide +kernel
theorem dX2_turnOn_62 : decode cX2_turnOn 62 = .ok (.getfield 28, 3) := by decide +kernel
theorem dX2_turnOn_65 : decode cX2_turnOn 65 = .ok (.iconst 1, 1) := by decide +kernel
theorem dX2_turnOn_66 : decode cX2_turnOn 66 = .ok (.isub, 1) := by decide +kernel
theorem dX2_turnOn_67 : decode cX2_turnOn 67 = .ok (.iconst 3, 1) := by decide +kernel
theorem dX2_turnOn_68 : decode cX2_turnOn 68 = .ok (.if_icmp .ne 7, 3) := by decide +kernel
theorem dX2_turnOn_71 : decode cX2_turnOn 71 = .ok (.iconst (-1), 1) := by decide +kernel
theorem dX2_turnOn_72 : decode cX2_turnOn 72 = .ok (.goto 9, 3) := by decide +kernel
theorem dX2_turnOn_75 : decode cX2_turnOn 75 = .ok (.aload_n 0, 1) := by decide +kernel
theorem dX2_turnOn_76 : decode cX2_turnOn 76 = .ok (.getfield 28, 3) := by decide +kernel
theorem dX2_turnOn_79 : decode cX2_turnOn 79 = .ok (.iconst 1, 1) := by decide +kernel
theorem dX2_turnOn_80 : decode cX2_turnOn 80 = .ok (.isub, 1) := by decide +kernel
theorem dX2_turnOn_81 : decode cX2_turnOn 81 = .ok (.putfield 28, 3) := by decide +kernel
theorem dX2_turnOn_84 : decode cX2_turnOn 84 = .ok (.return_, 1) := by decide +kernel
theorem dX2_countServe_0 : decode cX2_countServe 0 = .ok (.aload_n 0, 1) := by decide +kernel
theorem dX2_countServe_1 : decode cX2_countServe 1 = .ok (.getfield 9, 3) := by decide +kernel
theorem dX2_countServe_4 : decode cX2_countServe 4 = .ok (.iconst 0, 1) := by decide +kernel
theorem dX2_countServe_5 : decode cX2_countServe 5 = .ok (.iaload, 1) := by decide +kernel
theorem dX2_countServe_6 : decode cX2_countServe 6 = .ok (.istore_n 1, 1) := by decide +kernel
theorem dX2_countServe_7 : decode cX2_countServe 7 = .ok (.iload_n 1, 1) := by decide +kernel
theorem dX2_countServe_8 : decode cX2_countServe 8 = .ok (.invokestatic 55, 3) := by decide +kernel
theorem dX2_countServe_11 : decode cX2_countServe 11 = .ok (.ifCond .eq 13, 3) := by decide +kernel
theorem dX2_countServe_14 : decode cX2_countServe 14 = .ok (.aload_n 0, 1) := by decide +kernel
theorem dX2_countServe_15 : decode cX2_countServe 15 = .ok (.getfield 21, 3) := by decide +kernel
theorem dX2_countServe_18 : decode cX2_countServe 18 = .ok (.iload_n 1, 1) := by decide +kernel
theorem dX2_countServe_19 : decode cX2_countServe 19 = .ok (.dup2, 1) := by decide +kernel
theorem dX2_countServe_20 : decode cX2_countServe 20 = .ok (.iaload, 1) := by decide +kernel
theorem dX2_countServe_21 : decode cX2_countServe 21 = .ok (.iconst 1, 1) := by decide +kernel
theorem dX2_countServe_22 : decode cX2_countServe 22 = .ok (.iadd, 1) := by decide +kernel
theorem dX2_countServe_23 : decode cX2_countServe 23 = .ok (.iastore, 1) := by decide +kernel
theorem dX2_countServe_24 : decode cX2_countServe 24 = .ok (.return_, 1) := by decide +kernel
theorem dX2_mayLeave_0 : decode cX2_mayLeave 0 = .ok (.aload_n 0, 1) := by decide +kernel
theorem dX2_mayLeave_1 : decode cX2_mayLeave 1 = .ok (.iload_n 1, 1) := by decide +kernel
theorem dX2_mayLeave_2 : decode cX2_mayLeave 2 = .ok (.invokevirtual 66, 3) := by decide +kernel
theorem dX2_mayLeave_5 : decode cX2_mayLeave 5 = .ok (.istore_n 2, 1) := by decide +kernel
theorem dX2_mayLeave_6 : decode cX2_mayLeave 6 = .ok (.iload_n 2, 1) := by decide +kernel
theorem dX2_mayLeave_7 : decode cX2_mayLeave 7 = .ok (.iconst (-1), 1) := by decide +kernel
theorem dX2_mayLeave_8 : decode cX2_mayLeave 8 = .ok (.if_icmp .eq 15, 3) := by decide +kernel
theorem dX2_mayLeave_11 : decode cX2_mayLeave 11 = .ok (.iload_n 2, 1) := by decide +kernel
theorem dX2_mayLeave_12 : decode cX2_mayLeave 12 = .ok (.aload_n 0, 1) := by decide +kernel
theorem dX2_mayLeave_13 : decode cX2_mayLeave 13 = .ok (.getfield 28, 3) := by decide +kernel
theorem dX2_mayLeave_16 : decode cX2_mayLeave 16 = .ok (.if_icmp .eq 7, 3) := by decide +kernel
theorem dX2_mayLeave_19 : decode cX2_mayLeave 19 = .ok (.iconst 1, 1) := by decide +kernel
theorem dX2_mayLeave_20 : decode cX2_mayLeave 20 = .ok (.goto 4, 3) := by decide +kernel
theorem dX2_mayLeave_23 : decode cX2_mayLeave 23 = .ok (.iconst 0, 1) := by decide +kernel
theorem dX2_mayLeave_24 : decode cX2_mayLeave 24 = .ok (.ireturn, 1) := by decide +kernel
theorem dX2_mayEnter_0 : decode cX2_mayEnter 0 = .ok (.aload_n 0, 1) := by decide +kernel
theorem dX2_mayEnter_1 : decode cX2_mayEnter 1 = .ok (.iload_n 1, 1) := by decide +kernel
theorem dX2_mayEnter_2 : decode cX2_mayEnter 2 = .ok (.invokevirtual 66, 3) := by decide +kernel
theorem dX2_mayEnter_5 : decode cX2_mayEnter 5 = .ok (.iconst (-1), 1) := by decide +kernel
theorem dX2_mayEnter_6 : decode cX2_mayEnter 6 = .ok (.if_icmp .ne 15, 3) := by decide +kernel
theorem dX2_mayEnter_9 : decode cX2_mayEnter 9 = .ok (.iload_n 1, 1) := by decide +kernel
theorem dX2_mayEnter_10 : decode cX2_mayEnter 10 = .ok (.aload_n 0, 1) := by decide +kernel
theorem dX2_mayEnter_11 : decode cX2_mayEnter 11 = .ok (.getfield 24, 3) := by decide +kernel
theorem dX2_mayEnter_14 : decode cX2_mayEnter 14 = .ok (.if_icmp .eq 7, 3) := by decide +kernel
theorem dX2_mayEnter_17 : decode cX2_mayEnter 17 = .ok (.iconst 1, 1) := by decide +kernel
theorem dX2_mayEnter_18 : decode cX2_mayEnter 18 = .ok (.goto 4, 3) := by decide +kernel
theorem dX2_mayEnter_21 : decode cX2_mayEnter 21 = .ok (.iconst 0, 1) := by decide +kernel
theorem dX2_mayEnter_22 : decode cX2_mayEnter 22 = .ok (.ireturn, 1) := by decide +kernel
theorem dX2_arePair_0 : decode cX2_arePair 0 = .ok (.iload_n 1, 1) := by decide +kernel
theorem dX2_arePair_1 : decode cX2_arePair 1 = .ok (.invokestatic 55, 3) := by decide +kernel
theorem dX2_arePair_4 : decode cX2_arePair 4 = .ok (.ifCond .eq 10, 3) := by decide +kernel
theorem dX2_arePair_7 : decode cX2_arePair 7 = .ok (.iload_n 2, 1) := by decide +kernel
theorem dX2_arePair_8 : decode cX2_arePair 8 = .ok (.invokestatic 55, 3) := by decide +kernel
theorem dX2_arePair_11 : decode cX2_arePair 11 = .ok (.ifCond .ne 5, 3) := by decide +kernel
theorem dX2_arePair_14 : decode cX2_arePair 14 = .ok (.iconst 0, 1) := by decide +kernel
theorem dX2_arePair_15 : decode cX2_arePair 15 = .ok (.ireturn, 1) := by decide +kernel
theorem dX2_arePair_16 : decode cX2_arePair 16 = .ok (.aload_n 0, 1) := by decide +kernel
theorem dX2_arePair_17 : decode cX2_arePair 17 = .ok (.getfield 15, 3) := by decide +kernel
theorem dX2_arePair_20 : decode cX2_arePair 20 = .ok (.iload_n 1, 1) := by decide +kernel
theorem dX2_arePair_21 : decode cX2_arePair 21 = .ok (.iaload, 1) := by decide +kernel
theorem dX2_arePair_22 : decode cX2_arePair 22 = .ok (.iconst 1, 1) := by decide +kernel
theorem dX2_arePair_23 : decode cX2_arePair 23 = .ok (.if_icmp .ne 18, 3) := by decide +kernel
theorem dX2_arePair_26 : decode cX2_arePair 26 = .ok (.aload_n 0, 1) := by decide +kernel
theorem dX2_arePair_27 : decode cX2_arePair 27 = .ok (.getfield 15, 3) := by decide +kernel
theorem dX2_arePair_30 : decode cX2_arePair 30 = .ok (.iload_n 2, 1) := by decide +kernel
theorem dX2_arePair_31 : decode cX2_arePair 31 = .ok (.iaload, 1) := by decide +kernel
theorem dX2_arePair_32 : decode cX2_arePair 32 = .ok (.ifCond .ne 7, 3) := by decide +kernel
theorem dX2_arePair_35 : decode cX2_arePair 35 = .ok (.iconst 1, 1) := by decide +kernel
theorem dX2_arePair_36 : decode cX2_arePair 36 = .ok (.goto 4, 3) := by decide +kernel
theorem dX2_arePair_39 : decode cX2_arePair 39 = .ok (.iconst 0, 1) := by decide +kernel
theorem dX2_arePair_40 : decode cX2_arePair 40 = .ok (.ireturn, 1) := by decide +kernel
theorem dX2_arePair_41 : decode cX2_arePair 41 = .ok (.aload_n 0, 1) := by decide +kernel
theorem dX2_arePair_42 : decode cX2_arePair 42 = .ok (.getfield 15, 3) := by decide +kernel
theorem dX2_arePair_45 : decode cX2_arePair 45 = .ok (.iload_n 1, 1) := by decide +kernel
theorem dX2_arePair_46 : decode cX2_arePair 46 = .ok (.iaload, 1) := by decide +kernel
theorem dX2_arePair_47 : decode cX2_arePair 47 = .ok (.iconst 3, 1) := by decide +kernel
theorem dX2_arePair_48 : decode cX2_arePair 48 = .ok (.if_icmp .ne 17, 3) := by decide +kernel
theorem dX2_arePair_51 : decode cX2_arePair 51 = .ok (.aload_n 0, 1) := by decide +kernel
theorem dX2_arePair_52 : decode cX2_arePair 52 = .ok (.getfield 18, 3) := by decide +kernel
theorem dX2_arePair_55 : decode cX2_arePair 55 = .ok (.iload_n 1, 1) := by decide +kernel
theorem dX2_arePair_56 : decode cX2_arePair 56 = .ok (.iaload, 1) := by decide +kernel
theorem dX2_arePair_57 : decode cX2_arePair 57 = .ok (.iload_n 2, 1) := by decide +kernel
theorem dX2_arePair_58 : decode cX2_arePair 58 = .ok (.if_icmp .ne 7, 3) := by decide +kernel
theorem dX2_arePair_61 : decode cX2_arePair 61 = .ok (.iconst 1, 1) := by decide +kernel
theorem dX2_arePair_62 : decode cX2_arePair 62 = .ok (.goto 4, 3) := by decide +kernel
theorem dX2_arePair_65 : decode cX2_arePair 65 = .ok (.iconst 0, 1) := by decide +kernel
theorem dX2_arePair_66 : decode cX2_arePair 66 = .ok (.ireturn, 1) := by decide +kernel
theorem dX2_exchange_0 : decode cX2_exchange 0 = .ok (.aload_n 0, 1) := by decide +kernel
theorem dX2_exchange_1 : decode cX2_exchange 1 = .ok (.iload_n 1, 1) := by decide +kernel
theorem dX2_exchange_2 : decode cX2_exchange 2 = .ok (.invokevirtual 66, 3) := by decide +kernel
theorem dX2_exchange_5 : decode cX2_exchange 5 = .ok (.istore_n 3, 1) := by decide +kernel
theorem dX2_exchange_6 : decode cX2_exchange 6 = .ok (.iload_n 3, 1) := by decide +kernel
theorem dX2_exchange_7 : decode cX2_exchange 7 = .ok (.iconst (-1), 1) := by decide +kernel
theorem dX2_exchange_8 : decode cX2_exchange 8 = .ok (.if_icmp .eq 12, 3) := by decide +kernel
theorem dX2_exchange_11 : decode cX2_exchange 11 = .ok (.aload_n 0, 1) := by decide +kernel
theorem dX2_exchange_12 : decode cX2_exchange 12 = .ok (.iload_n 1, 1) := by decide +kernel
theorem dX2_exchange_13 : decode cX2_exchange 13 = .ok (.iload_n 2, 1) := by decide +kernel
theorem dX2_exchange_14 : decode cX2_exchange 14 = .ok (.invokevirtual 70, 3) := by decide +kernel
theorem dX2_exchange_17 : decode cX2_exchange 17 = .ok (.ifCond .ne 5, 3) := by decide +kernel
theorem dX2_exchange_20 : decode cX2_exchange 20 = .ok (.iconst (-1), 1) := by decide +kernel
theorem dX2_exchange_21 : decode cX2_exchange 21 = .ok (.ireturn, 1) := by decide +kernel
theorem dX2_exchange_22 : decode cX2_exchange 22 = .ok (.aload_n 0, 1) := by decide +kernel
theorem dX2_exchange_23 : decode cX2_exchange 23 = .ok (.getfield 15, 3) := by decide +kernel
theorem dX2_exchange_26 : decode cX2_exchange 26 = .ok (.iload_n 1, 1) := by decide +kernel
theorem dX2_exchange_27 : decode cX2_exchange 27 = .ok (.iaload, 1) := by decide +kernel
theorem dX2_exchange_28 : decode cX2_exchange 28 = .ok (.iconst 1, 1) := by decide +kernel
theorem dX2_exchange_29 : decode cX2_exchange 29 = .ok (.if_icmp .ne 27, 3) := by decide +kernel
theorem dX2_exchange_32 : decode cX2_exchange 32 = .ok (.aload_n 0, 1) := by decide +kernel
theorem dX2_exchange_33 : decode cX2_exchange 33 = .ok (.getfield 15, 3) := by decide +kernel
theorem dX2_exchange_36 : decode cX2_exchange 36 = .ok (.iload_n 1, 1) := by decide +kernel
theorem dX2_exchange_37 : decode cX2_exchange 37 = .ok (.iconst 2, 1) := by decide +kernel
theorem dX2_exchange_38 : decode cX2_exchange 38 = .ok (.iastore, 1) := by decide +kernel
theorem dX2_exchange_39 : decode cX2_exchange 39 = .ok (.aload_n 0, 1) := by decide +kernel
theorem dX2_exchange_40 : decode cX2_exchange 40 = .ok (.getfield 15, 3) := by decide +kernel
theorem dX2_exchange_43 : decode cX2_exchange 43 = .ok (.iload_n 2, 1) := by decide +kernel
theorem dX2_exchange_44 : decode cX2_exchange 44 = .ok (.iconst 3, 1) := by decide +kernel
theorem dX2_exchange_45 : decode cX2_exchange 45 = .ok (.iastore, 1) := by decide +kernel
theorem dX2_exchange_46 : decode cX2_exchange 46 = .ok (.aload_n 0, 1) := by decide +kernel
theorem dX2_exchange_47 : decode cX2_exchange 47 = .ok (.getfield 18, 3) := by decide +kernel
theorem dX2_exchange_50 : decode cX2_exchange 50 = .ok (.iload_n 2, 1) := by decide +kernel
theorem dX2_exchange_51 : decode cX2_exchange 51 = .ok (.iload_n 1, 1) := by decide +kernel
theorem dX2_exchange_52 : decode cX2_exchange 52 = .ok (.iastore, 1) := by decide +kernel
theorem dX2_exchange_53 : decode cX2_exchange 53 = .ok (.goto 17, 3) := by decide +kernel
theorem dX2_exchange_56 : decode cX2_exchange 56 = .ok (.aload_n 0, 1) := by decide +kernel
theorem dX2_exchange_57 : decode cX2_exchange 57 = .ok (.getfield 15, 3) := by decide +kernel
theorem dX2_exchange_60 : decode cX2_exchange 60 = .ok (.iload_n 1, 1) := by decide +kernel
theorem dX2_exchange_61 : decode cX2_exchange 61 = .ok (.iconst 4, 1) := by decide +kernel
theorem dX2_exchange_62 : decode cX2_exchange 62 = .ok (.iastore, 1) := by decide +kernel
theorem dX2_exchange_63 : decode cX2_exchange 63 = .ok (.aload_n 0, 1) := by decide +kernel
theorem dX2_exchange_64 : decode cX2_exchange 64 = .ok (.getfield 15, 3) := by decide +kernel
theorem dX2_exchange_67 : decode cX2_exchange 67 = .ok (.iload_n 2, 1) := by decide +kernel
theorem dX2_exchange_68 : decode cX2_exchange 68 = .ok (.iconst 4, 1) := by decide +kernel
theorem dX2_exchange_69 : decode cX2_exchange 69 = .ok (.iastore, 1) := by decide +kernel
theorem dX2_exchange_70 : decode cX2_exchange 70 = .ok (.aload_n 0, 1) := by decide +kernel
theorem dX2_exchange_71 : decode cX2_exchange 71 = .ok (.getfield 9, 3) := by decide +kernel
theorem dX2_exchange_74 : decode cX2_exchange 74 = .ok (.iload_n 3, 1) := by decide +kernel
theorem dX2_exchange_75 : decode cX2_exchange 75 = .ok (.iload_n 2, 1) := by decide +kernel
theorem dX2_exchange_76 : decode cX2_exchange 76 = .ok (.iastore, 1) := by decide +kernel
theorem dX2_exchange_77 : decode cX2_exchange 77 = .ok (.aload_n 0, 1) := by decide +kernel
theorem dX2_exchange_78 : decode cX2_exchange 78 = .ok (.dup, 1) := by decide +kernel
theorem dX2_exchange_79 : decode cX2_exchange 79 = .ok (.getfield 41, 3) := by decide +kernel
theorem dX2_exchange_82 : decode cX2_exchange 82 = .ok (.iconst 1, 1) := by decide +kernel
theorem dX2_exchange_83 : decode cX2_exchange 83 = .ok (.iadd, 1) := by decide +kernel
theorem dX2_exchange_84 : decode cX2_exchange 84 = .ok (.putfield 41, 3) := by decide +kernel
theorem dX2_exchange_87 : decode cX2_exchange 87 = .ok (.iload_n 3, 1) := by decide +kernel
theorem dX2_exchange_88 : decode cX2_exchange 88 = .ok (.ireturn, 1) := by decide +kernel
theorem dX2_freeOn_0 : decode cX2_freeOn 0 = .ok (.aload_n 0, 1) := by decide +kernel
theorem dX2_freeOn_1 : decode cX2_freeOn 1 = .ok (.iload_n 1, 1) := by decide +kernel
theorem dX2_freeOn_2 : decode cX2_freeOn 2 = .ok (.invokevirtual 66, 3) := by decide +kernel
theorem dX2_freeOn_5 : decode cX2_freeOn 5 = .ok (.istore_n 2, 1) := by decide +kernel
theorem dX2_freeOn_6 : decode cX2_freeOn 6 = .ok (.aload_n 0, 1) := by decide +kernel
theorem dX2_freeOn_7 : decode cX2_freeOn 7 = .ok (.getfield 28, 3) := by decide +kernel
theorem dX2_freeOn_10 : decode cX2_freeOn 10 = .ok (.iconst (-1), 1) := by decide +kernel
theorem dX2_freeOn_11 : decode cX2_freeOn 11 = .ok (.if_icmp .ne 13, 3) := by decide +kernel
theorem dX2_freeOn_14 : decode cX2_freeOn 14 = .ok (.iload_n 2, 1) := by decide +kernel
theorem dX2_freeOn_15 : decode cX2_freeOn 15 = .ok (.iconst 4, 1) := by decide +kernel
theorem dX2_freeOn_16 : decode cX2_freeOn 16 = .ok (.if_icmp .eq 10, 3) := by decide +kernel
theorem dX2_freeOn_19 : decode cX2_freeOn 19 = .ok (.iload_n 2, 1) := by decide +kernel
theorem dX2_freeOn_20 : decode cX2_freeOn 20 = .ok (.iconst 5, 1) := by decide +kernel
theorem dX2_freeOn_21 : decode cX2_freeOn 21 = .ok (.if_icmp .eq 5, 3) := by decide +kernel
theorem dX2_freeOn_24 : decode cX2_freeOn 24 = .ok (.iconst (-1), 1) := by decide +kernel
theorem dX2_freeOn_25 : decode cX2_freeOn 25 = .ok (.ireturn, 1) := by decide +kernel
theorem dX2_freeOn_26 : decode cX2_freeOn 26 = .ok (.aload_n 0, 1) := by decide +kernel
theorem dX2_freeOn_27 : decode cX2_freeOn 27 = .ok (.iload_n 2, 1) := by decide +kernel
theorem dX2_freeOn_28 : decode cX2_freeOn 28 = .ok (.putfield 28, 3) := by decide +kernel
theorem dX2_freeOn_31 : decode cX2_freeOn 31 = .ok (.aload_n 0, 1) := by decide +kernel
theorem dX2_freeOn_32 : decode cX2_freeOn 32 = .ok (.iconst 1, 1) := by decide +kernel
theorem dX2_freeOn_33 : decode cX2_freeOn 33 = .ok (.putfield 31, 3) := by decide +kernel
theorem dX2_freeOn_36 : decode cX2_freeOn 36 = .ok (.iload_n 2, 1) := by decide +kernel
theorem dX2_freeOn_37 : decode cX2_freeOn 37 = .ok (.ireturn, 1) := by decide +kernel
theorem dX2_freeOff_0 : decode cX2_freeOff 0 = .ok (.aload_n 0, 1) := by decide +kernel
theorem dX2_freeOff_1 : decode cX2_freeOff 1 = .ok (.getfield 28, 3) := by decide +kernel
theorem dX2_freeOff_4 : decode cX2_freeOff 4 = .ok (.istore_n 1, 1) := by decide +kernel
theorem dX2_freeOff_5 : decode cX2_freeOff 5 = .ok (.iload_n 1, 1) := by decide +kernel
theorem dX2_freeOff_6 : decode cX2_freeOff 6 = .ok (.iconst (-1), 1) := by decide +kernel
theorem dX2_freeOff_7 : decode cX2_freeOff 7 = .ok (.if_icmp .eq 13, 3) := by decide +kernel
theorem dX2_freeOff_10 : decode cX2_freeOff 10 = .ok (.aload_n 0, 1) := by decide +kernel
theorem dX2_freeOff_11 : decode cX2_freeOff 11 = .ok (.iconst (-1), 1) := by decide +kernel
theorem dX2_freeOff_12 : decode cX2_freeOff 12 = .ok (.putfield 28, 3) := by decide +kernel
theorem dX2_freeOff_15 : decode cX2_freeOff 15 = .ok (.aload_n 0, 1) := by decide +kernel
theorem dX2_freeOff_16 : decode cX2_freeOff 16 = .ok (.iconst 1, 1) := by decide +kernel
theorem dX2_freeOff_17 : decode cX2_freeOff 17 = .ok (.putfield 31, 3) := by decide +kernel
theorem dX2_freeOff_20 : decode cX2_freeOff 20 = .ok (.iload_n 1, 1) := by decide +kernel
theorem dX2_freeOff_21 : decode cX2_freeOff 21 = .ok (.ireturn, 1) := by decide +kernel
theorem dX3_init_0 : decode cX3_init 0 = .ok (.aload_n 0, 1) := by decide +kernel
theorem dX3_init_1 : decode cX3_init 1 = .ok (.invokespecial 3, 3) := by decide +kernel
theorem dX3_init_4 : decode cX3_init 4 = .ok (.aload_n 0, 1) := by decide +kernel
theorem dX3_init_5 : decode cX3_init 5 = .ok (.bipush 6, 2) := by decide +kernel
theorem dX3_init_7 : decode cX3_init 7 = .ok (.newarray .int, 2) := by decide +kernel
theorem dX3_init_9 : decode cX3_init 9 = .ok (.dup, 1) := by decide +kernel
theorem dX3_init_10 : decode cX3_init 10 = .ok (.iconst 0, 1) := by decide +kernel
theorem dX3_init_11 : decode cX3_init 11 = .ok (.bipush 25, 2) := by decide +kernel
theorem dX3_init_13 : decode cX3_init 13 = .ok (.iastore, 1) := by decide +kernel
theorem dX3_init_14 : decode cX3_init 14 = .ok (.dup, 1) := by decide +kernel
theorem dX3_init_15 : decode cX3_init 15 = .ok (.iconst 1, 1) := by decide +kernel
theorem dX3_init_16 : decode cX3_init 16 = .ok (.bipush 30, 2) := by decide +kernel
theorem dX3_init_18 : decode cX3_init 18 = .ok (.iastore, 1) := by decide +kernel
theorem dX3_init_19 : decode cX3_init 19 = .ok (.dup, 1) := by decide +kernel
theorem dX3_init_20 : decode cX3_init 20 = .ok (.iconst 2, 1) := by decide +kernel
theorem dX3_init_21 : decode cX3_init 21 = .ok (.bipush 15, 2) := by decide +kernel
theorem dX3_init_23 : decode cX3_init 23 = .ok (.iastore, 1) := by decide +kernel
theorem dX3_init_24 : decode cX3_init 24 = .ok (.dup, 1) := by decide +kernel
theorem dX3_init_25 : decode cX3_init 25 = .ok (.iconst 3, 1) := by decide +kernel
theorem dX3_init_26 : decode cX3_init 26 = .ok (.iconst 2, 1) := by decide +kernel
theorem dX3_init_27 : decode cX3_init 27 = .ok (.iastore, 1) := by decide +kernel
theorem dX3_init_28 : decode cX3_init 28 = .ok (.dup, 1) := by decide +kernel
theorem dX3_init_29 : decode cX3_init 29 = .ok (.iconst 4, 1) := by decide +kernel
theorem dX3_init_30 : decode cX3_init 30 = .ok (.bipush 6, 2) := by decide +kernel
theorem dX3_init_32 : decode cX3_init 32 = .ok (.iastore, 1) := by decide +kernel
theorem dX3_init_33 : decode cX3_init 33 = .ok (.dup, 1) := by decide +kernel
theorem dX3_init_34 : decode cX3_init 34 = .ok (.iconst 5, 1) := by decide +kernel
theorem dX3_init_35 : decode cX3_init 35 = .ok (.iconst 2, 1) := by decide +kernel
theorem dX3_init_36 : decode cX3_init 36 = .ok (.iastore, 1) := by decide +kernel
theorem dX3_init_37 : decode cX3_init 37 = .ok (.putfield 9, 3) := by decide +kernel
theorem dX3_init_40 : decode cX3_init 40 = .ok (.return_, 1) := by decide +kernel
theorem dX3_takes_0 : decode cX3_takes 0 = .ok (.iload_n 1, 1) := by decide +kernel
theorem dX3_takes_1 : decode cX3_takes 1 = .ok (.ifCond .lt 30, 3) := by decide +kernel
theorem dX3_takes_4 : decode cX3_takes 4 = .ok (.iload_n 1, 1) := by decide +kernel
theorem dX3_takes_5 : decode cX3_takes 5 = .ok (.aload_n 0, 1) := by decide +kernel
theorem dX3_takes_6 : decode cX3_takes 6 = .ok (.getfield 9, 3) := by decide +kernel
theorem dX3_takes_9 : decode cX3_takes 9 = .ok (.arraylength, 1) := by decide +kernel
theorem dX3_takes_10 : decode cX3_takes 10 = .ok (.if_icmp .ge 21, 3) := by decide +kernel
theorem dX3_takes_13 : decode cX3_takes 13 = .ok (.iload_n 2, 1) := by decide +kernel
theorem dX3_takes_14 : decode cX3_takes 14 = .ok (.getstatic 15, 3) := by decide +kernel
theorem dX3_takes_17 : decode cX3_takes 17 = .ok (.iload_n 1, 1) := by decide +kernel
theorem dX3_takes_18 : decode cX3_takes 18 = .ok (.iaload, 1) := by decide +kernel
theorem dX3_takes_19 : decode cX3_takes 19 = .ok (.if_icmp .lt 12, 3) := by decide +kernel
theorem dX3_takes_22 : decode cX3_takes 22 = .ok (.iload_n 2, 1) := by decide +kernel
theorem dX3_takes_23 : decode cX3_takes 23 = .ok (.getstatic 18, 3) := by decide +kernel
theorem dX3_takes_26 : decode cX3_takes 26 = .ok (.iload_n 1, 1) := by decide +kernel
theorem dX3_takes_27 : decode cX3_takes 27 = .ok (.iaload, 1) := by decide +kernel
theorem dX3_takes_28 : decode cX3_takes 28 = .ok (.if_icmp .le 5, 3) := by decide +kernel
theorem dX3_takes_31 : decode cX3_takes 31 = .ok (.iconst 0, 1) := by decide +kernel
theorem dX3_takes_32 : decode cX3_takes 32 = .ok (.ireturn, 1) := by decide +kernel
theorem dX3_takes_33 : decode cX3_takes 33 = .ok (.iload_n 1, 1) := by decide +kernel
theorem dX3_takes_34 : decode cX3_takes 34 = .ok (.ifCond .ne 19, 3) := by decide +kernel
theorem dX3_takes_37 : decode cX3_takes 37 = .ok (.iload_n 2, 1) := by decide +kernel
theorem dX3_takes_38 : decode cX3_takes 38 = .ok (.aload_n 0, 1) := by decide +kernel
theorem dX3_takes_39 : decode cX3_takes 39 = .ok (.getfield 9, 3) := by decide +kernel
theorem dX3_takes_42 : decode cX3_takes 42 = .ok (.iconst 1, 1) := by decide +kernel
theorem dX3_takes_43 : decode cX3_takes 43 = .ok (.iaload, 1) := by decide +kernel
theorem dX3_takes_44 : decode cX3_takes 44 = .ok (.if_icmp .gt 7, 3) := by decide +kernel
theorem dX3_takes_47 : decode cX3_takes 47 = .ok (.iconst 1, 1) := by decide +kernel
theorem dX3_takes_48 : decode cX3_takes 48 = .ok (.goto 4, 3) := by decide +kernel
theorem dX3_takes_51 : decode cX3_takes 51 = .ok (.iconst 0, 1) := by decide +kernel
theorem dX3_takes_52 : decode cX3_takes 52 = .ok (.ireturn, 1) := by decide +kernel
theorem dX3_takes_53 : decode cX3_takes 53 = .ok (.iload_n 1, 1) := by decide +kernel
theorem dX3_takes_54 : decode cX3_takes 54 = .ok (.iconst 1, 1) := by decide +kernel
theorem dX3_takes_55 : decode cX3_takes 55 = .ok (.if_icmp .ne 13, 3) := by decide +kernel
theorem dX3_takes_58 : decode cX3_takes 58 = .ok (.iload_n 2, 1) := by decide +kernel
theorem dX3_takes_59 : decode cX3_takes 59 = .ok (.aload_n 0, 1) := by decide +kernel
theorem dX3_takes_60 : decode cX3_takes 60 = .ok (.getfield 9, 3) := by decide +kernel
theorem dX3_takes_63 : decode cX3_takes 63 = .ok (.iconst 0, 1) := by decide +kernel
theorem dX3_takes_64 : decode cX3_takes 64 = .ok (.iaload, 1) := by decide +kernel
theorem dX3_takes_65 : decode cX3_takes 65 = .ok (.if_icmp .lt 7, 3) := by decide +kernel
theorem dX3_takes_68 : decode cX3_takes 68 = .ok (.iconst 1, 1) := by decide +kernel
theorem dX3_takes_69 : decode cX3_takes 69 = .ok (.goto 4, 3) := by decide +kernel
theorem dX3_takes_72 : decode cX3_takes 72 = .ok (.iconst 0, 1) := by decide +kernel
theorem dX3_takes_73 : decode cX3_takes 73 = .ok (.ireturn, 1) := by decide +kernel
theorem dX3_valueOf_0 : decode cX3_valueOf 0 = .ok (.iload_n 1, 1) := by decide +kernel
theorem dX3_valueOf_1 : decode cX3_valueOf 1 = .ok (.ifCond .lt 21, 3) := by decide +kernel
theorem dX3_valueOf_4 : decode cX3_valueOf 4 = .ok (.iload_n 1, 1) := by decide +kernel
theorem dX3_valueOf_5 : decode cX3_valueOf 5 = .ok (.aload_n 0, 1) := by decide +kernel
theorem dX3_valueOf_6 : decode cX3_valueOf 6 = .ok (.getfield 9, 3) := by decide +kernel
theorem dX3_valueOf_9 : decode cX3_valueOf 9 = .ok (.arraylength, 1) := by decide +kernel
theorem dX3_valueOf_10 : decode cX3_valueOf 10 = .ok (.if_icmp .ge 12, 3) := by decide +kernel
theorem dX3_valueOf_13 : decode cX3_valueOf 13 = .ok (.aload_n 0, 1) := by decide +kernel
theorem dX3_valueOf_14 : decode cX3_valueOf 14 = .ok (.getfield 9, 3) := by decide +kernel
theorem dX3_valueOf_17 : decode cX3_valueOf 17 = .ok (.iload_n 1, 1) := by decide +kernel
theorem dX3_valueOf_18 : decode cX3_valueOf 18 = .ok (.iaload, 1) := by decide +kernel
theorem dX3_valueOf_19 : decode cX3_valueOf 19 = .ok (.goto 4, 3) := by decide +kernel
theorem dX3_valueOf_22 : decode cX3_valueOf 22 = .ok (.iconst 0, 1) := by decide +kernel
theorem dX3_valueOf_23 : decode cX3_valueOf 23 = .ok (.ireturn, 1) := by decide +kernel
theorem dX3_putValue_0 : decode cX3_putValue 0 = .ok (.iload_n 1, 1) := by decide +kernel
theorem dX3_putValue_1 : decode cX3_putValue 1 = .ok (.ifCond .lt 19, 3) := by decide +kernel
theorem dX3_putValue_4 : decode cX3_putValue 4 = .ok (.iload_n 1, 1) := by decide +kernel
theorem dX3_putValue_5 : decode cX3_putValue 5 = .ok (.aload_n 0, 1) := by decide +kernel
theorem dX3_putValue_6 : decode cX3_putValue 6 = .ok (.getfield 9, 3) := by decide +kernel
theorem dX3_putValue_9 : decode cX3_putValue 9 = .ok (.arraylength, 1) := by decide +kernel
theorem dX3_putValue_10 : decode cX3_putValue 10 = .ok (.if_icmp .ge 10, 3) := by decide +kernel
theorem dX3_putValue_13 : decode cX3_putValue 13 = .ok (.aload_n 0, 1) := by decide +kernel
theorem dX3_putValue_14 : decode cX3_putValue 14 = .ok (.getfield 9, 3) := by decide +kernel
theorem dX3_putValue_17 : decode cX3_putValue 17 = .ok (.iload_n 1, 1) := by decide +kernel
theorem dX3_putValue_18 : decode cX3_putValue 18 = .ok (.iload_n 2, 1) := by decide +kernel
theorem dX3_putValue_19 : decode cX3_putValue 19 = .ok (.iastore, 1) := by decide +kernel
theorem dX3_putValue_20 : decode cX3_putValue 20 = .ok (.return_, 1) := by decide +kernel
theorem dX3_target_0 : decode cX3_target 0 = .ok (.aload_n 0, 1) := by decide +kernel
theorem dX3_target_1 : decode cX3_target 1 = .ok (.getfield 9, 3) := by decide +kernel
theorem dX3_target_4 : decode cX3_target 4 = .ok (.iconst 3, 1) := by decide +kernel
theorem dX3_target_5 : decode cX3_target 5 = .ok (.iaload, 1) := by decide +kernel
theorem dX3_target_6 : decode cX3_target 6 = .ok (.iconst 1, 1) := by decide +kernel
theorem dX3_target_7 : decode cX3_target 7 = .ok (.isub, 1) := by decide +kernel
theorem dX3_target_8 : decode cX3_target 8 = .ok (.istore_n 3, 1) := by decide +kernel
theorem dX3_target_9 : decode cX3_target 9 = .ok (.iload_n 3, 1) := by decide +kernel
theorem dX3_target_10 : decode cX3_target 10 = .ok (.ifCond .le 17, 3) := by decide +kernel
theorem dX3_target_13 : decode cX3_target 13 = .ok (.iload_n 1, 1) := by decide +kernel
theorem dX3_target_14 : decode cX3_target 14 = .ok (.iload_n 3, 1) := by decide +kernel
theorem dX3_target_15 : decode cX3_target 15 = .ok (.if_icmp .ne 12, 3) := by decide +kernel
theorem dX3_target_18 : decode cX3_target 18 = .ok (.iload_n 2, 1) := by decide +kernel
theorem dX3_target_19 : decode cX3_target 19 = .ok (.iload_n 3, 1) := by decide +kernel
theorem dX3_target_20 : decode cX3_target 20 = .ok (.if_icmp .ne 7, 3) := by decide +kernel
theorem dX3_target_23 : decode cX3_target 23 = .ok (.iconst 1, 1) := by decide +kernel
theorem dX3_target_24 : decode cX3_target 24 = .ok (.goto 4, 3) := by decide +kernel
theorem dX3_target_27 : decode cX3_target 27 = .ok (.iconst 0, 1) := by decide +kernel
theorem dX3_target_28 : decode cX3_target 28 = .ok (.istore 4, 2) := by decide +kernel
theorem dX3_target_30 : decode cX3_target 30 = .ok (.iload 4, 2) := by decide +kernel
theorem dX3_target_32 : decode cX3_target 32 = .ok (.ifCond .eq 12, 3) := by decide +kernel
theorem dX3_target_35 : decode cX3_target 35 = .ok (.aload_n 0, 1) := by decide +kernel
theorem dX3_target_36 : decode cX3_target 36 = .ok (.getfield 9, 3) := by decide +kernel
theorem dX3_target_39 : decode cX3_target 39 = .ok (.iconst 2, 1) := by decide +kernel
theorem dX3_target_40 : decode cX3_target 40 = .ok (.iaload, 1) := by decide +kernel
theorem dX3_target_41 : decode cX3_target 41 = .ok (.goto 9, 3) := by decide +kernel
theorem dX3_target_44 : decode cX3_target 44 = .ok (.aload_n 0, 1) := by decide +kernel
theorem dX3_target_45 : decode cX3_target 45 = .ok (.getfield 9, 3) := by decide +kernel
theorem dX3_target_48 : decode cX3_target 48 = .ok (.iconst 0, 1) := by decide +kernel
theorem dX3_target_49 : decode cX3_target 49 = .ok (.iaload, 1) := by decide +kernel
theorem dX3_target_50 : decode cX3_target 50 = .ok (.ireturn, 1) := by decide +kernel
theorem dX3_wins_0 : decode cX3_wins 0 = .ok (.iload_n 0, 1) := by decide +kernel
theorem dX3_wins_1 : decode cX3_wins 1 = .ok (.iload_n 3, 1) := by decide +kernel
theorem dX3_wins_2 : decode cX3_wins 2 = .ok (.if_icmp .ge 15, 3) := by decide +kernel
theorem dX3_wins_5 : decode cX3_wins 5 = .ok (.iload_n 0, 1) := by decide +kernel
theorem dX3_wins_6 : decode cX3_wins 6 = .ok (.iload_n 2, 1) := by decide +kernel
theorem dX3_wins_7 : decode cX3_wins 7 = .ok (.if_icmp .lt 14, 3) := by decide +kernel
theorem dX3_wins_10 : decode cX3_wins 10 = .ok (.iload_n 0, 1) := by decide +kernel
theorem dX3_wins_11 : decode cX3_wins 11 = .ok (.iload_n 1, 1) := by decide +kernel
theorem dX3_wins_12 : decode cX3_wins 12 = .ok (.isub, 1) := by decide +kernel
theorem dX3_wins_13 : decode cX3_wins 13 = .ok (.iconst 2, 1) := by decide +kernel
theorem dX3_wins_14 : decode cX3_wins 14 = .ok (.if_icmp .lt 7, 3) := by decide +kernel
theorem dX3_wins_17 : decode cX3_wins 17 = .ok (.iconst 1, 1) := by decide +kernel
theorem dX3_wins_18 : decode cX3_wins 18 = .ok (.goto 4, 3) := by decide +kernel
theorem dX3_wins_21 : decode cX3_wins 21 = .ok (.iconst 0, 1) := by decide +kernel
theorem dX3_wins_22 : decode cX3_wins 22 = .ok (.ireturn, 1) := by decide +kernel
theorem dX4_init_0 : decode cX4_init 0 = .ok (.aload_n 0, 1) := by decide +kernel
theorem dX4_init_1 : decode cX4_init 1 = .ok (.invokespecial 3, 3) := by decide +kernel
theorem dX4_init_4 : decode cX4_init 4 = .ok (.aload_n 0, 1) := by decide +kernel
theorem dX4_init_5 : decode cX4_init 5 = .ok (.bipush 48, 2) := by decide +kernel
theorem dX4_init_7 : decode cX4_init 7 = .ok (.newarray .int, 2) := by decide +kernel
theorem dX4_init_9 : decode cX4_init 9 = .ok (.putfield 9, 3) := by decide +kernel
theorem dX4_init_12 : decode cX4_init 12 = .ok (.iconst 0, 1) := by decide +kernel
theorem dX4_init_13 : decode cX4_init 13 = .ok (.istore_n 1, 1) := by decide +kernel
theorem dX4_init_14 : decode cX4_init 14 = .ok (.iload_n 1, 1) := by decide +kernel
theorem dX4_init_15 : decode cX4_init 15 = .ok (.aload_n 0, 1) := by decide +kernel
theorem dX4_init_16 : decode cX4_init 16 = .ok (.getfield 9, 3) := by decide +kernel
theorem dX4_init_19 : decode cX4_init 19 = .ok (.arraylength, 1) := by decide +kernel
theorem dX4_init_20 : decode cX4_init 20 = .ok (.if_icmp .ge 17, 3) := by decide +kernel
theorem dX4_init_23 : decode cX4_init 23 = .ok (.aload_n 0, 1) := by decide +kernel
theorem dX4_init_24 : decode cX4_init 24 = .ok (.getfield 9, 3) := by decide +kernel
theorem dX4_init_27 : decode cX4_init 27 = .ok (.iload_n 1, 1) := by decide +kernel
theorem dX4_init_28 : decode cX4_init 28 = .ok (.bipush 50, 2) := by decide +kernel
theorem dX4_init_30 : decode cX4_init 30 = .ok (.iastore, 1) := by decide +kernel
theorem dX4_init_31 : decode cX4_init 31 = .ok (.iinc 1 1, 3) := by decide +kernel
theorem dX4_init_34 : decode cX4_init 34 = .ok (.goto (-20), 3) := by decide +kernel
theorem dX4_init_37 : decode cX4_init 37 = .ok (.aload_n 0, 1) := by decide +kernel
theorem dX4_init_38 : decode cX4_init 38 = .ok (.bipush 6, 2) := by decide +kernel
theorem dX4_init_40 : decode cX4_init 40 = .ok (.newarray .int, 2) := by decide +kernel
theorem dX4_init_42 : decode cX4_init 42 = .ok (.putfield 15, 3) := by decide +kernel
theorem dX4_init_45 : decode cX4_init 45 = .ok (.aload_n 0, 1) := by decide +kernel
theorem dX4_init_46 : decode cX4_init 46 = .ok (.iconst (-1), 1) := by decide +kernel
theorem dX4_init_47 : decode cX4_init 47 = .ok (.putfield 18, 3) := by decide +kernel
theorem dX4_init_50 : decode cX4_init 50 = .ok (.aload_n 0, 1) := by decide +kernel
theorem dX4_init_51 : decode cX4_init 51 = .ok (.iconst 0, 1) := by decide +kernel
theorem dX4_init_52 : decode cX4_init 52 = .ok (.putfield 22, 3) := by decide +kernel
theorem dX4_init_55 : decode cX4_init 55 = .ok (.return_, 1) := by decide +kernel
theorem dX4_skillOf_0 : decode cX4_skillOf 0 = .ok (.iload_n 1, 1) := by decide +kernel
theorem dX4_skillOf_1 : decode cX4_skillOf 1 = .ok (.iconst 4, 1) := by decide +kernel
theorem dX4_skillOf_2 : decode cX4_skillOf 2 = .ok (.imul, 1) := by decide +kernel
theorem dX4_skillOf_3 : decode cX4_skillOf 3 = .ok (.iload_n 2, 1) := by decide +kernel
theorem dX4_skillOf_4 : decode cX4_skillOf 4 = .ok (.iadd, 1) := by decide +kernel
theorem dX4_skillOf_5 : decode cX4_skillOf 5 = .ok (.istore_n 3, 1) := by decide +kernel
theorem dX4_skillOf_6 : decode cX4_skillOf 6 = .ok (.iload_n 3, 1) := by decide +kernel
theorem dX4_skillOf_7 : decode cX4_skillOf 7 = .ok (.ifCond .lt 21, 3) := by decide +kernel
theorem dX4_skillOf_10 : decode cX4_skillOf 10 = .ok (.iload_n 3, 1) := by decide +kernel
theorem dX4_skillOf_11 : decode cX4_skillOf 11 = .ok (.aload_n 0, 1) := by decide +kernel
theorem dX4_skillOf_12 : decode cX4_skillOf 12 = .ok (.getfield 9, 3) := by decide +kernel
theorem dX4_skillOf_15 : decode cX4_skillOf 15 = .ok (.arraylength, 1) := by decide +kernel
theorem dX4_skillOf_16 : decode cX4_skillOf 16 = .ok (.if_icmp .ge 12, 3) := by decide +kernel
theorem dX4_skillOf_19 : decode cX4_skillOf 19 = .ok (.aload_n 0, 1) := by decide +kernel
theorem dX4_skillOf_20 : decode cX4_skillOf 20 = .ok (.getfield 9, 3) := by decide +kernel
theorem dX4_skillOf_23 : decode cX4_skillOf 23 = .ok (.iload_n 3, 1) := by decide +kernel
theorem dX4_skillOf_24 : decode cX4_skillOf 24 = .ok (.iaload, 1) := by decide +kernel
theorem dX4_skillOf_25 : decode cX4_skillOf 25 = .ok (.goto 4, 3) := by decide +kernel
theorem dX4_skillOf_28 : decode cX4_skillOf 28 = .ok (.iconst 0, 1) := by decide +kernel
theorem dX4_skillOf_29 : decode cX4_skillOf 29 = .ok (.ireturn, 1) := by decide +kernel
theorem dX4_putSkill_0 : decode cX4_putSkill 0 = .ok (.iload_n 1, 1) := by decide +kernel
theorem dX4_putSkill_1 : decode cX4_putSkill 1 = .ok (.iconst 4, 1) := by decide +kernel
theorem dX4_putSkill_2 : decode cX4_putSkill 2 = .ok (.imul, 1) := by decide +kernel
theorem dX4_putSkill_3 : decode cX4_putSkill 3 = .ok (.iload_n 2, 1) := by decide +kernel
theorem dX4_putSkill_4 : decode cX4_putSkill 4 = .ok (.iadd, 1) := by decide +kernel
theorem dX4_putSkill_5 : decode cX4_putSkill 5 = .ok (.istore 4, 2) := by decide +kernel
theorem dX4_putSkill_7 : decode cX4_putSkill 7 = .ok (.iload 4, 2) := by decide +kernel
theorem dX4_putSkill_9 : decode cX4_putSkill 9 = .ok (.ifCond .lt 21, 3) := by decide +kernel
theorem dX4_putSkill_12 : decode cX4_putSkill 12 = .ok (.iload 4, 2) := by decide +kernel
theorem dX4_putSkill_14 : decode cX4_putSkill 14 = .ok (.aload_n 0, 1) := by decide +kernel
theorem dX4_putSkill_15 : decode cX4_putSkill 15 = .ok (.getfield 9, 3) := by decide +kernel
theorem dX4_putSkill_18 : decode cX4_putSkill 18 = .ok (.arraylength, 1) := by decide +kernel
theorem dX4_putSkill_19 : decode cX4_putSkill 19 = .ok (.if_icmp .ge 11, 3) := by decide +kernel
theorem dX4_putSkill_22 : decode cX4_putSkill 22 = .ok (.aload_n 0, 1) := by decide +kernel
theorem dX4_putSkill_23 : decode cX4_putSkill 23 = .ok (.getfield 9, 3) := by decide +kernel
theorem dX4_putSkill_26 : decode cX4_putSkill 26 = .ok (.iload 4, 2) := by decide +kernel
theorem dX4_putSkill_28 : decode cX4_putSkill 28 = .ok (.iload_n 3, 1) := by decide +kernel
theorem dX4_putSkill_29 : decode cX4_putSkill 29 = .ok (.iastore, 1) := by decide +kernel
theorem dX4_putSkill_30 : decode cX4_putSkill 30 = .ok (.return_, 1) := by decide +kernel
theorem dX4_tell_0 : decode cX4_tell 0 = .ok (.aload_n 0, 1) := by decide +kernel
theorem dX4_tell_1 : decode cX4_tell 1 = .ok (.getfield 15, 3) := by decide +kernel
theorem dX4_tell_4 : decode cX4_tell 4 = .ok (.iconst 0, 1) := by decide +kernel
theorem dX4_tell_5 : decode cX4_tell 5 = .ok (.iload_n 1, 1) := by decide +kernel
theorem dX4_tell_6 : decode cX4_tell 6 = .ok (.iastore, 1) := by decide +kernel
theorem dX4_tell_7 : decode cX4_tell 7 = .ok (.aload_n 0, 1) := by decide +kernel
theorem dX4_tell_8 : decode cX4_tell 8 = .ok (.getfield 15, 3) := by decide +kernel
theorem dX4_tell_11 : decode cX4_tell 11 = .ok (.iconst 1, 1) := by decide +kernel
theorem dX4_tell_12 : decode cX4_tell 12 = .ok (.iload_n 2, 1) := by decide +kernel
theorem dX4_tell_13 : decode cX4_tell 13 = .ok (.iastore, 1) := by decide +kernel
theorem dX4_tell_14 : decode cX4_tell 14 = .ok (.aload_n 0, 1) := by decide +kernel
theorem dX4_tell_15 : decode cX4_tell 15 = .ok (.getfield 15, 3) := by decide +kernel
theorem dX4_tell_18 : decode cX4_tell 18 = .ok (.iconst 2, 1) := by decide +kernel
theorem dX4_tell_19 : decode cX4_tell 19 = .ok (.iload_n 3, 1) := by decide +kernel
theorem dX4_tell_20 : decode cX4_tell 20 = .ok (.iastore, 1) := by decide +kernel
theorem dX4_tell_21 : decode cX4_tell 21 = .ok (.aload_n 0, 1) := by decide +kernel
theorem dX4_tell_22 : decode cX4_tell 22 = .ok (.getfield 15, 3) := by decide +kernel
theorem dX4_tell_25 : decode cX4_tell 25 = .ok (.iconst 3, 1) := by decide +kernel
theorem dX4_tell_26 : decode cX4_tell 26 = .ok (.iload 4, 2) := by decide +kernel
theorem dX4_tell_28 : decode cX4_tell 28 = .ok (.iastore, 1) := by decide +kernel
theorem dX4_tell_29 : decode cX4_tell 29 = .ok (.aload_n 0, 1) := by decide +kernel
theorem dX4_tell_30 : decode cX4_tell 30 = .ok (.getfield 15, 3) := by decide +kernel
theorem dX4_tell_33 : decode cX4_tell 33 = .ok (.iconst 4, 1) := by decide +kernel
theorem dX4_tell_34 : decode cX4_tell 34 = .ok (.iload 5, 2) := by decide +kernel
theorem dX4_tell_36 : decode cX4_tell 36 = .ok (.iastore, 1) := by decide +kernel
theorem dX4_tell_37 : decode cX4_tell 37 = .ok (.aload_n 0, 1) := by decide +kernel
theorem dX4_tell_38 : decode cX4_tell 38 = .ok (.getfield 15, 3) := by decide +kernel
theorem dX4_tell_41 : decode cX4_tell 41 = .ok (.iconst 5, 1) := by decide +kernel
theorem dX4_tell_42 : decode cX4_tell 42 = .ok (.iload 6, 2) := by decide +kernel
theorem dX4_tell_44 : decode cX4_tell 44 = .ok (.iastore, 1) := by decide +kernel
theorem dX4_tell_45 : decode cX4_tell 45 = .ok (.aload_n 0, 1) := by decide +kernel
theorem dX4_tell_46 : decode cX4_tell 46 = .ok (.iconst 1, 1) := by decide +kernel
theorem dX4_tell_47 : decode cX4_tell 47 = .ok (.putfield 22, 3) := by decide +kernel
theorem dX4_tell_50 : decode cX4_tell 50 = .ok (.return_, 1) := by decide +kernel
theorem dX4_isReady_0 : decode cX4_isReady 0 = .ok (.iconst 0, 1) := by decide +kernel
theorem dX4_isReady_1 : decode cX4_isReady 1 = .ok (.istore_n 1, 1) := by decide +kernel
theorem dX4_isReady_2 : decode cX4_isReady 2 = .ok (.iload_n 1, 1) := by decide +kernel
theorem dX4_isReady_3 : decode cX4_isReady 3 = .ok (.bipush 6, 2) := by decide +kernel
theorem dX4_isReady_5 : decode cX4_isReady 5 = .ok (.if_icmp .ge 24, 3) := by decide +kernel
theorem dX4_isReady_8 : decode cX4_isReady 8 = .ok (.aload_n 0, 1) := by decide +kernel
theorem dX4_isReady_9 : decode cX4_isReady 9 = .ok (.getfield 15, 3) := by decide +kernel
theorem dX4_isReady_12 : decode cX4_isReady 12 = .ok (.iload_n 1, 1) := by decide +kernel
theorem dX4_isReady_13 : decode cX4_isReady 13 = .ok (.iaload, 1) := by decide +kernel
theorem dX4_isReady_14 : decode cX4_isReady 14 = .ok (.aload_n 0, 1) := by decide +kernel
theorem dX4_isReady_15 : decode cX4_isReady 15 = .ok (.getfield 18, 3) := by decide +kernel
theorem dX4_isReady_18 : decode cX4_isReady 18 = .ok (.if_icmp .ne 5, 3) := by decide +kernel
theorem dX4_isReady_21 : decode cX4_isReady 21 = .ok (.iconst 0, 1) := by decide +kernel
theorem dX4_isReady_22 : decode cX4_isReady 22 = .ok (.ireturn, 1) := by decide +kernel
theorem dX4_isReady_23 : decode cX4_isReady 23 = .ok (.iinc 1 1, 3) := by decide +kernel
theorem dX4_isReady_26 : decode cX4_isReady 26 = .ok (.goto (-24), 3) := by decide +kernel
theorem dX4_isReady_29 : decode cX4_isReady 29 = .ok (.aload_n 0, 1) := by decide +kernel
theorem dX4_isReady_30 : decode cX4_isReady 30 = .ok (.getfield 22, 3) := by decide +kernel
theorem dX4_isReady_33 : decode cX4_isReady 33 = .ok (.ireturn, 1) := by decide +kernel
theorem dX4_third_0 : decode cX4_third 0 = .ok (.iconst 0, 1) := by decide +kernel
theorem dX4_third_1 : decode cX4_third 1 = .ok (.istore 5, 2) := by decide +kernel
theorem dX4_third_3 : decode cX4_third 3 = .ok (.iconst 0, 1) := by decide +kernel
theorem dX4_third_4 : decode cX4_third 4 = .ok (.istore 6, 2) := by decide +kernel
theorem dX4_third_6 : decode cX4_third 6 = .ok (.iload 6, 2) := by decide +kernel
theorem dX4_third_8 : decode cX4_third 8 = .ok (.aload_n 3, 1) := by decide +kernel
theorem dX4_third_9 : decode cX4_third 9 = .ok (.arraylength, 1) := by decide +kernel
theorem dX4_third_10 : decode cX4_third 10 = .ok (.if_icmp .ge 33, 3) := by decide +kernel
theorem dX4_third_13 : decode cX4_third 13 = .ok (.iload 5, 2) := by decide +kernel
theorem dX4_third_15 : decode cX4_third 15 = .ok (.aload_n 0, 1) := by decide +kernel
theorem dX4_third_16 : decode cX4_third 16 = .ok (.aload_n 1, 1) := by decide +kernel
theorem dX4_third_17 : decode cX4_third 17 = .ok (.aload_n 3, 1) := by decide +kernel
theorem dX4_third_18 : decode cX4_third 18 = .ok (.iload 6, 2) := by decide +kernel
theorem dX4_third_20 : decode cX4_third 20 = .ok (.iaload, 1) := by decide +kernel
theorem dX4_third_21 : decode cX4_third 21 = .ok (.iload_n 2, 1) := by decide +kernel
theorem dX4_third_22 : decode cX4_third 22 = .ok (.iadd, 1) := by decide +kernel
theorem dX4_third_23 : decode cX4_third 23 = .ok (.bipush 6, 2) := by decide +kernel
theorem dX4_third_25 : decode cX4_third 25 = .ok (.invokestatic 26, 3) := by decide +kernel
theorem dX4_third_28 : decode cX4_third 28 = .ok (.iaload, 1) := by decide +kernel
theorem dX4_third_29 : decode cX4_third 29 = .ok (.iload 4, 2) := by decide +kernel
theorem dX4_third_31 : decode cX4_third 31 = .ok (.invokevirtual 32, 3) := by decide +kernel
theorem dX4_third_34 : decode cX4_third 34 = .ok (.iadd, 1) := by decide +kernel
theorem dX4_third_35 : decode cX4_third 35 = .ok (.istore 5, 2) := by decide +kernel
theorem dX4_third_37 : decode cX4_third 37 = .ok (.iinc 6 1, 3) := by decide +kernel
theorem dX4_third_40 : decode cX4_third 40 = .ok (.goto (-34), 3) := by decide +kernel
theorem dX4_third_43 : decode cX4_third 43 = .ok (.iload 5, 2) := by decide +kernel
theorem dX4_third_45 : decode cX4_third 45 = .ok (.iconst 3, 1) := by decide +kernel
theorem dX4_third_46 : decode cX4_third 46 = .ok (.idiv, 1) := by decide +kernel
theorem dX4_third_47 : decode cX4_third 47 = .ok (.ireturn, 1) := by decide +kernel
theorem dX5_init_0 : decode cX5_init 0 = .ok (.aload_n 0, 1) := by decide +kernel
theorem dX5_init_1 : decode cX5_init 1 = .ok (.invokespecial 3, 3) := by decide +kernel
theorem dX5_init_4 : decode cX5_init 4 = .ok (.aload_n 0, 1) := by decide +kernel
theorem dX5_init_5 : decode cX5_init 5 = .ok (.bipush 6, 2) := by decide +kernel
theorem dX5_init_7 : decode cX5_init 7 = .ok (.newarray .int, 2) := by decide +kernel
theorem dX5_init_9 : decode cX5_init 9 = .ok (.putfield 9, 3) := by decide +kernel
theorem dX5_init_12 : decode cX5_init 12 = .ok (.aload_n 0, 1) := by decide +kernel
theorem dX5_init_13 : decode cX5_init 13 = .ok (.bipush 6, 2) := by decide +kernel
theorem dX5_init_15 : decode cX5_init 15 = .ok (.newarray .int, 2) := by decide +kernel
theorem dX5_init_17 : decode cX5_init 17 = .ok (.putfield 15, 3) := by decide +kernel
theorem dX5_init_20 : decode cX5_init 20 = .ok (.return_, 1) := by decide +kernel
theorem dX5_stand_0 : decode cX5_stand 0 = .ok (.getstatic 18, 3) := by decide +kernel
theorem dX5_stand_3 : decode cX5_stand 3 = .ok (.iconst 0, 1) := by decide +kernel
theorem dX5_stand_4 : decode cX5_stand 4 = .ok (.aload_n 0, 1) := by decide +kernel
theorem dX5_stand_5 : decode cX5_stand 5 = .ok (.getfield 9, 3) := by decide +kernel
theorem dX5_stand_8 : decode cX5_stand 8 = .ok (.iconst 0, 1) := by decide +kernel
theorem dX5_stand_9 : decode cX5_stand 9 = .ok (.bipush 6, 2) := by decide +kernel
theorem dX5_stand_11 : decode cX5_stand 11 = .ok (.invokestatic 21, 3) := by decide +kernel
theorem dX5_stand_14 : decode cX5_stand 14 = .ok (.getstatic 27, 3) := by decide +kernel
theorem dX5_stand_17 : decode cX5_stand 17 = .ok (.iconst 0, 1) := by decide +kernel
theorem dX5_stand_18 : decode cX5_stand 18 = .ok (.aload_n 0, 1) := by decide +kernel
theorem dX5_stand_19 : decode cX5_stand 19 = .ok (.getfield 15, 3) := by decide +kernel
theorem dX5_stand_22 : decode cX5_stand 22 = .ok (.iconst 0, 1) := by decide +kernel
theorem dX5_stand_23 : decode cX5_stand 23 = .ok (.bipush 6, 2) := by decide +kernel
theorem dX5_stand_25 : decode cX5_stand 25 = .ok (.invokestatic 21, 3) := by decide +kernel
theorem dX5_stand_28 : decode cX5_stand 28 = .ok (.return_, 1) := by decide +kernel
theorem dX5_put_0 : decode cX5_put 0 = .ok (.iload_n 1, 1) := by decide +kernel
theorem dX5_put_1 : decode cX5_put 1 = .ok (.ifCond .lt 23, 3) := by decide +kernel
theorem dX5_put_4 : decode cX5_put 4 = .ok (.iload_n 1, 1) := by decide +kernel
theorem dX5_put_5 : decode cX5_put 5 = .ok (.bipush 6, 2) := by decide +kernel
theorem dX5_put_7 : decode cX5_put 7 = .ok (.if_icmp .ge 17, 3) := by decide +kernel
theorem dX5_put_10 : decode cX5_put 10 = .ok (.aload_n 0, 1) := by decide +kernel
theorem dX5_put_11 : decode cX5_put 11 = .ok (.getfield 9, 3) := by decide +kernel
theorem dX5_put_14 : decode cX5_put 14 = .ok (.iload_n 1, 1) := by decide +kernel
theorem dX5_put_15 : decode cX5_put 15 = .ok (.iload_n 2, 1) := by decide +kernel
theorem dX5_put_16 : decode cX5_put 16 = .ok (.iastore, 1) := by decide +kernel
theorem dX5_put_17 : decode cX5_put 17 = .ok (.aload_n 0, 1) := by decide +kernel
theorem dX5_put_18 : decode cX5_put 18 = .ok (.getfield 15, 3) := by decide +kernel
theorem dX5_put_21 : decode cX5_put 21 = .ok (.iload_n 1, 1) := by decide +kernel
theorem dX5_put_22 : decode cX5_put 22 = .ok (.iload_n 3, 1) := by decide +kernel
theorem dX5_put_23 : decode cX5_put 23 = .ok (.iastore, 1) := by decide +kernel
theorem dX5_put_24 : decode cX5_put 24 = .ok (.return_, 1) := by decide +kernel
theorem dX5_firstBroken_0 : decode cX5_firstBroken 0 = .ok (.iconst 0, 1) := by decide +kernel
theorem dX5_firstBroken_1 : decode cX5_firstBroken 1 = .ok (.istore_n 2, 1) := by decide +kernel
theorem dX5_firstBroken_2 : decode cX5_firstBroken 2 = .ok (.iload_n 2, 1) := by decide +kernel
theorem dX5_firstBroken_3 : decode cX5_firstBroken 3 = .ok (.getstatic 30, 3) := by decide +kernel
theorem dX5_firstBroken_6 : decode cX5_firstBroken 6 = .ok (.arraylength, 1) := by decide +kernel
theorem dX5_firstBroken_7 : decode cX5_firstBroken 7 = .ok (.if_icmp .ge 70, 3) := by decide +kernel
theorem dX5_firstBroken_10 : decode cX5_firstBroken 10 = .ok (.iload_n 1, 1) := by decide +kernel
theorem dX5_firstBroken_11 : decode cX5_firstBroken 11 = .ok (.ifCond .eq 11, 3) := by decide +kernel
theorem dX5_firstBroken_14 : decode cX5_firstBroken 14 = .ok (.getstatic 33, 3) := by decide +kernel
theorem dX5_firstBroken_17 : decode cX5_firstBroken 17 = .ok (.iload_n 2, 1) := by decide +kernel
theorem dX5_firstBroken_18 : decode cX5_firstBroken 18 = .ok (.iaload, 1) := by decide +kernel
theorem dX5_firstBroken_19 : decode cX5_firstBroken 19 = .ok (.ifCond .eq 7, 3) := by decide +kernel
theorem dX5_firstBroken_22 : decode cX5_firstBroken 22 = .ok (.iconst 1, 1) := by decide +kernel
theorem dX5_firstBroken_23 : decode cX5_firstBroken 23 = .ok (.goto 4, 3) := by decide +kernel
theorem dX5_firstBroken_26 : decode cX5_firstBroken 26 = .ok (.iconst 0, 1) := by decide +kernel
theorem dX5_firstBroken_27 : decode cX5_firstBroken 27 = .ok (.istore_n 3, 1) := by decide +kernel
theorem dX5_firstBroken_28 : decode cX5_firstBroken 28 = .ok (.iload_n 2, 1) := by decide +kernel
theorem dX5_firstBroken_29 : decode cX5_firstBroken 29 = .ok (.iconst 3, 1) := by decide +kernel
theorem dX5_firstBroken_30 : decode cX5_firstBroken 30 = .ok (.if_icmp .ge 10, 3) := by decide +kernel
theorem dX5_firstBroken_33 : decode cX5_firstBroken 33 = .ok (.aload_n 0, 1) := by decide +kernel
theorem dX5_firstBroken_34 : decode cX5_firstBroken 34 = .ok (.getfield 15, 3) := by decide +kernel
theorem dX5_firstBroken_37 : decode cX5_firstBroken 37 = .ok (.goto 7, 3) := by decide +kernel
theorem dX5_firstBroken_40 : decode cX5_firstBroken 40 = .ok (.aload_n 0, 1) := by decide +kernel
theorem dX5_firstBroken_41 : decode cX5_firstBroken 41 = .ok (.getfield 9, 3) := by decide +kernel
theorem dX5_firstBroken_44 : decode cX5_firstBroken 44 = .ok (.astore 4, 2) := by decide +kernel
theorem dX5_firstBroken_46 : decode cX5_firstBroken 46 = .ok (.iload_n 3, 1) := by decide +kernel
theorem dX5_firstBroken_47 : decode cX5_firstBroken 47 = .ok (.ifCond .eq 24, 3) := by decide +kernel
theorem dX5_firstBroken_50 : decode cX5_firstBroken 50 = .ok (.aload 4, 2) := by decide +kernel
theorem dX5_firstBroken_52 : decode cX5_firstBroken 52 = .ok (.getstatic 30, 3) := by decide +kernel
theorem dX5_firstBroken_55 : decode cX5_firstBroken 55 = .ok (.iload_n 2, 1) := by decide +kernel
theorem dX5_firstBroken_56 : decode cX5_firstBroken 56 = .ok (.iaload, 1) := by decide +kernel
theorem dX5_firstBroken_57 : decode cX5_firstBroken 57 = .ok (.iaload, 1) := by decide +kernel
theorem dX5_firstBroken_58 : decode cX5_firstBroken 58 = .ok (.aload 4, 2) := by decide +kernel
theorem dX5_firstBroken_60 : decode cX5_firstBroken 60 = .ok (.getstatic 33, 3) := by decide +kernel
theorem dX5_firstBroken_63 : decode cX5_firstBroken 63 = .ok (.iload_n 2, 1) := by decide +kernel
theorem dX5_firstBroken_64 : decode cX5_firstBroken 64 = .ok (.iaload, 1) := by decide +kernel
theorem dX5_firstBroken_65 : decode cX5_firstBroken 65 = .ok (.iaload, 1) := by decide +kernel
theorem dX5_firstBroken_66 : decode cX5_firstBroken 66 = .ok (.if_icmp .lt 5, 3) := by decide +kernel
theorem dX5_firstBroken_69 : decode cX5_firstBroken 69 = .ok (.iload_n 2, 1) := by decide +kernel
theorem dX5_firstBroken_70 : decode cX5_firstBroken 70 = .ok (.ireturn, 1) := by decide +kernel
theorem dX5_firstBroken_71 : decode cX5_firstBroken 71 = .ok (.iinc 2 1, 3) := by decide +kernel
theorem dX5_firstBroken_74 : decode cX5_firstBroken 74 = .ok (.goto (-72), 3) := by decide +kernel
theorem dX5_firstBroken_77 : decode cX5_firstBroken 77 = .ok (.bipush (-2), 2) := by decide +kernel
theorem dX5_firstBroken_79 : decode cX5_firstBroken 79 = .ok (.ireturn, 1) := by decide +kernel
theorem dX6_init_0 : decode cX6_init 0 = .ok (.aload_n 0, 1) := by decide +kernel
theorem dX6_init_1 : decode cX6_init 1 = .ok (.invokespecial 3, 3) := by decide +kernel
theorem dX6_init_4 : decode cX6_init 4 = .ok (.aload_n 0, 1) := by decide +kernel
theorem dX6_init_5 : decode cX6_init 5 = .ok (.bipush 100, 2) := by decide +kernel
theorem dX6_init_7 : decode cX6_init 7 = .ok (.newarray .char, 2) := by decide +kernel
theorem dX6_init_9 : decode cX6_init 9 = .ok (.putfield 11, 3) := by decide +kernel
theorem dX6_init_12 : decode cX6_init 12 = .ok (.aload_n 0, 1) := by decide +kernel
theorem dX6_init_13 : decode cX6_init 13 = .ok (.iconst 0, 1) := by decide +kernel
theorem dX6_init_14 : decode cX6_init 14 = .ok (.putfield 15, 3) := by decide +kernel
theorem dX6_init_17 : decode cX6_init 17 = .ok (.return_, 1) := by decide +kernel
theorem dX6_append_0 : decode cX6_append 0 = .ok (.aload_n 0, 1) := by decide +kernel
theorem dX6_append_1 : decode cX6_append 1 = .ok (.getfield 15, 3) := by decide +kernel
theorem dX6_append_4 : decode cX6_append 4 = .ok (.ifCond .lt 32, 3) := by decide +kernel
theorem dX6_append_7 : decode cX6_append 7 = .ok (.aload_n 0, 1) := by decide +kernel
theorem dX6_append_8 : decode cX6_append 8 = .ok (.getfield 15, 3) := by decide +kernel
theorem dX6_append_11 : decode cX6_append 11 = .ok (.bipush 100, 2) := by decide +kernel
theorem dX6_append_13 : decode cX6_append 13 = .ok (.if_icmp .ge 23, 3) := by decide +kernel
theorem dX6_append_16 : decode cX6_append 16 = .ok (.aload_n 0, 1) := by decide +kernel
theorem dX6_append_17 : decode cX6_append 17 = .ok (.getfield 11, 3) := by decide +kernel
theorem dX6_append_20 : decode cX6_append 20 = .ok (.aload_n 0, 1) := by decide +kernel
theorem dX6_append_21 : decode cX6_append 21 = .ok (.getfield 15, 3) := by decide +kernel
theorem dX6_append_24 : decode cX6_append 24 = .ok (.iload_n 1, 1) := by decide +kernel
theorem dX6_append_25 : decode cX6_append 25 = .ok (.castore, 1) := by decide +kernel
theorem dX6_append_26 : decode cX6_append 26 = .ok (.aload_n 0, 1) := by decide +kernel
theorem dX6_append_27 : decode cX6_append 27 = .ok (.dup, 1) := by decide +kernel
theorem dX6_append_28 : decode cX6_append 28 = .ok (.getfield 15, 3) := by decide +kernel
theorem dX6_append_31 : decode cX6_append 31 = .ok (.iconst 1, 1) := by decide +kernel
theorem dX6_append_32 : decode cX6_append 32 = .ok (.iadd, 1) := by decide +kernel
theorem dX6_append_33 : decode cX6_append 33 = .ok (.putfield 15, 3) := by decide +kernel
theorem dX6_append_36 : decode cX6_append 36 = .ok (.return_, 1) := by decide +kernel
theorem dX6_signAt_0 : decode cX6_signAt 0 = .ok (.iload_n 1, 1) := by decide +kernel
theorem dX6_signAt_1 : decode cX6_signAt 1 = .ok (.ifCond .lt 18, 3) := by decide +kernel
theorem dX6_signAt_4 : decode cX6_signAt 4 = .ok (.iload_n 1, 1) := by decide +kernel
theorem dX6_signAt_5 : decode cX6_signAt 5 = .ok (.bipush 100, 2) := by decide +kernel
theorem dX6_signAt_7 : decode cX6_signAt 7 = .ok (.if_icmp .ge 12, 3) := by decide +kernel
theorem dX6_signAt_10 : decode cX6_signAt 10 = .ok (.aload_n 0, 1) := by decide +kernel
theorem dX6_signAt_11 : decode cX6_signAt 11 = .ok (.getfield 11, 3) := by decide +kernel
theorem dX6_signAt_14 : decode cX6_signAt 14 = .ok (.iload_n 1, 1) := by decide +kernel
theorem dX6_signAt_15 : decode cX6_signAt 15 = .ok (.caload, 1) := by decide +kernel
theorem dX6_signAt_16 : decode cX6_signAt 16 = .ok (.goto 4, 3) := by decide +kernel
theorem dX6_signAt_19 : decode cX6_signAt 19 = .ok (.iconst 0, 1) := by decide +kernel
theorem dX6_signAt_20 : decode cX6_signAt 20 = .ok (.ireturn, 1) := by decide +kernel
theorem dX6_playerOf_0 : decode cX6_playerOf 0 = .ok (.iload_n 0, 1) := by decide +kernel
theorem dX6_playerOf_1 : decode cX6_playerOf 1 = .ok (.bipush 48, 2) := by decide +kernel
theorem dX6_playerOf_3 : decode cX6_playerOf 3 = .ok (.if_icmp .lt 14, 3) := by decide +kernel
theorem dX6_playerOf_6 : decode cX6_playerOf 6 = .ok (.iload_n 0, 1) := by decide +kernel
theorem dX6_playerOf_7 : decode cX6_playerOf 7 = .ok (.bipush 57, 2) := by decide +kernel
theorem dX6_playerOf_9 : decode cX6_playerOf 9 = .ok (.if_icmp .gt 8, 3) := by decide +kernel
theorem dX6_playerOf_12 : decode cX6_playerOf 12 = .ok (.iload_n 0, 1) := by decide +kernel
theorem dX6_playerOf_13 : decode cX6_playerOf 13 = .ok (.bipush 48, 2) := by decide +kernel
theorem dX6_playerOf_15 : decode cX6_playerOf 15 = .ok (.isub, 1) := by decide +kernel
theorem dX6_playerOf_16 : decode cX6_playerOf 16 = .ok (.ireturn, 1) := by decide +kernel
theorem dX6_playerOf_17 : decode cX6_playerOf 17 = .ok (.iload_n 0, 1) := by decide +kernel
theorem dX6_playerOf_18 : decode cX6_playerOf 18 = .ok (.bipush 120, 2) := by decide +kernel
theorem dX6_playerOf_20 : decode cX6_playerOf 20 = .ok (.if_icmp .ne 6, 3) := by decide +kernel
theorem dX6_playerOf_23 : decode cX6_playerOf 23 = .ok (.bipush 10, 2) := by decide +kernel
theorem dX6_playerOf_25 : decode cX6_playerOf 25 = .ok (.ireturn, 1) := by decide +kernel
theorem dX6_playerOf_26 : decode cX6_playerOf 26 = .ok (.iload_n 0, 1) := by decide +kernel
theorem dX6_playerOf_27 : decode cX6_playerOf 27 = .ok (.bipush 121, 2) := by decide +kernel
theorem dX6_playerOf_29 : decode cX6_playerOf 29 = .ok (.if_icmp .ne 8, 3) := by decide +kernel
theorem dX6_playerOf_32 : decode cX6_playerOf 32 = .ok (.bipush 11, 2) := by decide +kernel
theorem dX6_playerOf_34 : decode cX6_playerOf 34 = .ok (.goto 4, 3) := by decide +kernel
theorem dX6_playerOf_37 : decode cX6_playerOf 37 = .ok (.iconst (-1), 1) := by decide +kernel
theorem dX6_playerOf_38 : decode cX6_playerOf 38 = .ok (.ireturn, 1) := by decide +kernel
theorem dX6_firstFault_0 : decode cX6_firstFault 0 = .ok (.iload_n 1, 1) := by decide +kernel
theorem dX6_firstFault_1 : decode cX6_firstFault 1 = .ok (.bipush 80, 2) := by decide +kernel
theorem dX6_firstFault_3 : decode cX6_firstFault 3 = .ok (.invokestatic 19, 3) := by decide +kernel
theorem dX6_firstFault_6 : decode cX6_firstFault 6 = .ok (.istore_n 2, 1) := by decide +kernel
theorem dX6_firstFault_7 : decode cX6_firstFault 7 = .ok (.iconst 0, 1) := by decide +kernel
theorem dX6_firstFault_8 : decode cX6_firstFault 8 = .ok (.istore_n 3, 1) := by decide +kernel
theorem dX6_firstFault_9 : decode cX6_firstFault 9 = .ok (.iload_n 3, 1) := by decide +kernel
theorem dX6_firstFault_10 : decode cX6_firstFault 10 = .ok (.iload_n 2, 1) := by decide +kernel
theorem dX6_firstFault_11 : decode cX6_firstFault 11 = .ok (.if_icmp .ge 40, 3) := by decide +kernel
theorem dX6_firstFault_14 : decode cX6_firstFault 14 = .ok (.aload_n 0, 1) := by decide +kernel
theorem dX6_firstFault_15 : decode cX6_firstFault 15 = .ok (.iload_n 3, 1) := by decide +kernel
theorem dX6_firstFault_16 : decode cX6_firstFault 16 = .ok (.invokevirtual 25, 3) := by decide +kernel
theorem dX6_firstFault_19 : decode cX6_firstFault 19 = .ok (.istore 4, 2) := by decide +kernel
theorem dX6_firstFault_21 : decode cX6_firstFault 21 = .ok (.iload 4, 2) := by decide +kernel
theorem dX6_firstFault_23 : decode cX6_firstFault 23 = .ok (.iconst (-1), 1) := by decide +kernel
theorem dX6_firstFault_24 : decode cX6_firstFault 24 = .ok (.if_icmp .eq 12, 3) := by decide +kernel
theorem dX6_firstFault_27 : decode cX6_firstFault 27 = .ok (.iload 4, 2) := by decide +kernel
theorem dX6_firstFault_29 : decode cX6_firstFault 29 = .ok (.iload_n 2, 1) := by decide +kernel
theorem dX6_firstFault_30 : decode cX6_firstFault 30 = .ok (.if_icmp .ge 6, 3) := by decide +kernel
theorem dX6_firstFault_33 : decode cX6_firstFault 33 = .ok (.iload 4, 2) := by decide +kernel
theorem dX6_firstFault_35 : decode cX6_firstFault 35 = .ok (.ireturn, 1) := by decide +kernel
theorem dX6_firstFault_36 : decode cX6_firstFault 36 = .ok (.iload_n 3, 1) := by decide +kernel
theorem dX6_firstFault_37 : decode cX6_firstFault 37 = .ok (.iconst 1, 1) := by decide +kernel
theorem dX6_firstFault_38 : decode cX6_firstFault 38 = .ok (.aload_n 0, 1) := by decide +kernel
theorem dX6_firstFault_39 : decode cX6_firstFault 39 = .ok (.iload_n 3, 1) := by decide +kernel
theorem dX6_firstFault_40 : decode cX6_firstFault 40 = .ok (.invokevirtual 29, 3) := by decide +kernel
theorem dX6_firstFault_43 : decode cX6_firstFault 43 = .ok (.invokestatic 32, 3) := by decide +kernel
theorem dX6_firstFault_46 : decode cX6_firstFault 46 = .ok (.iadd, 1) := by decide +kernel
theorem dX6_firstFault_47 : decode cX6_firstFault 47 = .ok (.istore_n 3, 1) := by decide +kernel
theorem dX6_firstFault_48 : decode cX6_firstFault 48 = .ok (.goto (-39), 3) := by decide +kernel
theorem dX6_firstFault_51 : decode cX6_firstFault 51 = .ok (.iload_n 3, 1) := by decide +kernel
theorem dX6_firstFault_52 : decode cX6_firstFault 52 = .ok (.iload_n 2, 1) := by decide +kernel
theorem dX6_firstFault_53 : decode cX6_firstFault 53 = .ok (.if_icmp .gt 9, 3) := by decide +kernel
theorem dX6_firstFault_56 : decode cX6_firstFault 56 = .ok (.iload_n 1, 1) := by decide +kernel
theorem dX6_firstFault_57 : decode cX6_firstFault 57 = .ok (.bipush 80, 2) := by decide +kernel
theorem dX6_firstFault_59 : decode cX6_firstFault 59 = .ok (.if_icmp .le 7, 3) := by decide +kernel
theorem dX6_firstFault_62 : decode cX6_firstFault 62 = .ok (.iload_n 2, 1) := by decide +kernel
theorem dX6_firstFault_63 : decode cX6_firstFault 63 = .ok (.goto 4, 3) := by decide +kernel
theorem dX6_firstFault_66 : decode cX6_firstFault 66 = .ok (.iconst (-1), 1) := by decide +kernel
theorem dX6_firstFault_67 : decode cX6_firstFault 67 = .ok (.ireturn, 1) := by decide +kernel
theorem dX6_faultInItem_0 : decode cX6_faultInItem 0 = .ok (.aload_n 0, 1) := by decide +kernel
theorem dX6_faultInItem_1 : decode cX6_faultInItem 1 = .ok (.iload_n 1, 1) := by decide +kernel
theorem dX6_faultInItem_2 : decode cX6_faultInItem 2 = .ok (.invokevirtual 35, 3) := by decide +kernel
theorem dX6_faultInItem_5 : decode cX6_faultInItem 5 = .ok (.istore_n 2, 1) := by decide +kernel
theorem dX6_faultInItem_6 : decode cX6_faultInItem 6 = .ok (.iload_n 2, 1) := by decide +kernel
theorem dX6_faultInItem_7 : decode cX6_faultInItem 7 = .ok (.bipush 65, 2) := by decide +kernel
theorem dX6_faultInItem_9 : decode cX6_faultInItem 9 = .ok (.if_icmp .eq 9, 3) := by decide +kernel
theorem dX6_faultInItem_12 : decode cX6_faultInItem 12 = .ok (.iload_n 2, 1) := by decide +kernel
theorem dX6_faultInItem_13 : decode cX6_faultInItem 13 = .ok (.bipush 66, 2) := by decide +kernel
theorem dX6_faultInItem_15 : decode cX6_faultInItem 15 = .ok (.if_icmp .ne 5, 3) := by decide +kernel
theorem dX6_faultInItem_18 : decode cX6_faultInItem 18 = .ok (.iconst (-1), 1) := by decide +kernel
theorem dX6_faultInItem_19 : decode cX6_faultInItem 19 = .ok (.ireturn, 1) := by decide +kernel
theorem dX6_faultInItem_20 : decode cX6_faultInItem 20 = .ok (.iload_n 2, 1) := by decide +kernel
theorem dX6_faultInItem_21 : decode cX6_faultInItem 21 = .ok (.bipush 97, 2) := by decide +kernel
theorem dX6_faultInItem_23 : decode cX6_faultInItem 23 = .ok (.if_icmp .eq 11, 3) := by decide +kernel
theorem dX6_faultInItem_26 : decode cX6_faultInItem 26 = .ok (.iload_n 2, 1) := by decide +kernel
theorem dX6_faultInItem_27 : decode cX6_faultInItem 27 = .ok (.bipush 98, 2) := by decide +kernel
theorem dX6_faultInItem_29 : decode cX6_faultInItem 29 = .ok (.if_icmp .eq 5, 3) := by decide +kernel
theorem dX6_faultInItem_32 : decode cX6_faultInItem 32 = .ok (.iload_n 1, 1) := by decide +kernel
theorem dX6_faultInItem_33 : decode cX6_faultInItem 33 = .ok (.ireturn, 1) := by decide +kernel
theorem dX6_faultInItem_34 : decode cX6_faultInItem 34 = .ok (.aload_n 0, 1) := by decide +kernel
theorem dX6_faultInItem_35 : decode cX6_faultInItem 35 = .ok (.iload_n 1, 1) := by decide +kernel
theorem dX6_faultInItem_36 : decode cX6_faultInItem 36 = .ok (.iconst 1, 1) := by decide +kernel
theorem dX6_faultInItem_37 : decode cX6_faultInItem 37 = .ok (.iadd, 1) := by decide +kernel
theorem dX6_faultInItem_38 : decode cX6_faultInItem 38 = .ok (.invokevirtual 35, 3) := by decide +kernel
theorem dX6_faultInItem_41 : decode cX6_faultInItem 41 = .ok (.istore_n 3, 1) := by decide +kernel
theorem dX6_faultInItem_42 : decode cX6_faultInItem 42 = .ok (.iload_n 3, 1) := by decide +kernel
theorem dX6_faultInItem_43 : decode cX6_faultInItem 43 = .ok (.bipush 33, 2) := by decide +kernel
theorem dX6_faultInItem_45 : decode cX6_faultInItem 45 = .ok (.if_icmp .eq 9, 3) := by decide +kernel
theorem dX6_faultInItem_48 : decode cX6_faultInItem 48 = .ok (.iload_n 3, 1) := by decide +kernel
theorem dX6_faultInItem_49 : decode cX6_faultInItem 49 = .ok (.bipush 45, 2) := by decide +kernel
theorem dX6_faultInItem_51 : decode cX6_faultInItem 51 = .ok (.if_icmp .ne 5, 3) := by decide +kernel
theorem dX6_faultInItem_54 : decode cX6_faultInItem 54 = .ok (.iconst (-1), 1) := by decide +kernel
theorem dX6_faultInItem_55 : decode cX6_faultInItem 55 = .ok (.ireturn, 1) := by decide +kernel
theorem dX6_faultInItem_56 : decode cX6_faultInItem 56 = .ok (.iload_n 3, 1) := by decide +kernel
theorem dX6_faultInItem_57 : decode cX6_faultInItem 57 = .ok (.bipush 42, 2) := by decide +kernel
theorem dX6_faultInItem_59 : decode cX6_faultInItem 59 = .ok (.if_icmp .eq 15, 3) := by decide +kernel
theorem dX6_faultInItem_62 : decode cX6_faultInItem 62 = .ok (.iload_n 3, 1) := by decide +kernel
theorem dX6_faultInItem_63 : decode cX6_faultInItem 63 = .ok (.invokestatic 39, 3) := by decide +kernel
theorem dX6_faultInItem_66 : decode cX6_faultInItem 66 = .ok (.iconst (-1), 1) := by decide +kernel
theorem dX6_faultInItem_67 : decode cX6_faultInItem 67 = .ok (.if_icmp .ne 7, 3) := by decide +kernel
theorem dX6_faultInItem_70 : decode cX6_faultInItem 70 = .ok (.iload_n 1, 1) := by decide +kernel
theorem dX6_faultInItem_71 : decode cX6_faultInItem 71 = .ok (.iconst 1, 1) := by decide +kernel
theorem dX6_faultInItem_72 : decode cX6_faultInItem 72 = .ok (.iadd, 1) := by decide +kernel
theorem dX6_faultInItem_73 : decode cX6_faultInItem 73 = .ok (.ireturn, 1) := by decide +kernel
theorem dX6_faultInItem_74 : decode cX6_faultInItem 74 = .ok (.aload_n 0, 1) := by decide +kernel
theorem dX6_faultInItem_75 : decode cX6_faultInItem 75 = .ok (.iload_n 1, 1) := by decide +kernel
theorem dX6_faultInItem_76 : decode cX6_faultInItem 76 = .ok (.iconst 2, 1) := by decide +kernel
theorem dX6_faultInItem_77 : decode cX6_faultInItem 77 = .ok (.iadd, 1) := by decide +kernel
theorem dX6_faultInItem_78 : decode cX6_faultInItem 78 = .ok (.invokevirtual 35, 3) := by decide +kernel
theorem dX6_faultInItem_81 : decode cX6_faultInItem 81 = .ok (.invokestatic 39, 3) := by decide +kernel
theorem dX6_faultInItem_84 : decode cX6_faultInItem 84 = .ok (.iconst (-1), 1) := by decide +kernel
theorem dX6_faultInItem_85 : decode cX6_faultInItem 85 = .ok (.if_icmp .ne 9, 3) := by decide +kernel
theorem dX6_faultInItem_88 : decode cX6_faultInItem 88 = .ok (.iload_n 1, 1) := by decide +kernel
theorem dX6_faultInItem_89 : decode cX6_faultInItem 89 = .ok (.iconst 2, 1) := by decide +kernel
theorem dX6_faultInItem_90 : decode cX6_faultInItem 90 = .ok (.iadd, 1) := by decide +kernel
theorem dX6_faultInItem_91 : decode cX6_faultInItem 91 = .ok (.goto 4, 3) := by decide +kernel
theorem dX6_faultInItem_94 : decode cX6_faultInItem 94 = .ok (.iconst (-1), 1) := by decide +kernel
theorem dX6_faultInItem_95 : decode cX6_faultInItem 95 = .ok (.ireturn, 1) := by decide +kernel
theorem dX6_itemLength_0 : decode cX6_itemLength 0 = .ok (.aload_n 0, 1) := by decide +kernel
theorem dX6_itemLength_1 : decode cX6_itemLength 1 = .ok (.iload_n 1, 1) := by decide +kernel
theorem dX6_itemLength_2 : decode cX6_itemLength 2 = .ok (.invokevirtual 35, 3) := by decide +kernel
theorem dX6_itemLength_5 : decode cX6_itemLength 5 = .ok (.istore_n 2, 1) := by decide +kernel
theorem dX6_itemLength_6 : decode cX6_itemLength 6 = .ok (.iload_n 2, 1) := by decide +kernel
theorem dX6_itemLength_7 : decode cX6_itemLength 7 = .ok (.bipush 97, 2) := by decide +kernel
theorem dX6_itemLength_9 : decode cX6_itemLength 9 = .ok (.if_icmp .eq 11, 3) := by decide +kernel
theorem dX6_itemLength_12 : decode cX6_itemLength 12 = .ok (.iload_n 2, 1) := by decide +kernel
theorem dX6_itemLength_13 : decode cX6_itemLength 13 = .ok (.bipush 98, 2) := by decide +kernel
theorem dX6_itemLength_15 : decode cX6_itemLength 15 = .ok (.if_icmp .eq 5, 3) := by decide +kernel
theorem dX6_itemLength_18 : decode cX6_itemLength 18 = .ok (.iconst 1, 1) := by decide +kernel
theorem dX6_itemLength_19 : decode cX6_itemLength 19 = .ok (.ireturn, 1) := by decide +kernel
theorem dX6_itemLength_20 : decode cX6_itemLength 20 = .ok (.aload_n 0, 1) := by decide +kernel
theorem dX6_itemLength_21 : decode cX6_itemLength 21 = .ok (.iload_n 1, 1) := by decide +kernel
theorem dX6_itemLength_22 : decode cX6_itemLength 22 = .ok (.iconst 1, 1) := by decide +kernel
theorem dX6_itemLength_23 : decode cX6_itemLength 23 = .ok (.iadd, 1) := by decide +kernel
theorem dX6_itemLength_24 : decode cX6_itemLength 24 = .ok (.invokevirtual 35, 3) := by decide +kernel
theorem dX6_itemLength_27 : decode cX6_itemLength 27 = .ok (.istore_n 3, 1) := by decide +kernel
theorem dX6_itemLength_28 : decode cX6_itemLength 28 = .ok (.iload_n 3, 1) := by decide +kernel
theorem dX6_itemLength_29 : decode cX6_itemLength 29 = .ok (.bipush 33, 2) := by decide +kernel
theorem dX6_itemLength_31 : decode cX6_itemLength 31 = .ok (.if_icmp .eq 9, 3) := by decide +kernel
theorem dX6_itemLength_34 : decode cX6_itemLength 34 = .ok (.iload_n 3, 1) := by decide +kernel
theorem dX6_itemLength_35 : decode cX6_itemLength 35 = .ok (.bipush 45, 2) := by decide +kernel
theorem dX6_itemLength_37 : decode cX6_itemLength 37 = .ok (.if_icmp .ne 7, 3) := by decide +kernel
theorem dX6_itemLength_40 : decode cX6_itemLength 40 = .ok (.iconst 2, 1) := by decide +kernel
theorem dX6_itemLength_41 : decode cX6_itemLength 41 = .ok (.goto 4, 3) := by decide +kernel
theorem dX6_itemLength_44 : decode cX6_itemLength 44 = .ok (.iconst 3, 1) := by decide +kernel
theorem dX6_itemLength_45 : decode cX6_itemLength 45 = .ok (.ireturn, 1) := by decide +kernel
theorem dJ6_bitCount_0f7a4_0 : decode cJ6_bitCount_0f7a4 0 = .ok (.iload_n 0, 1) := by decide +kernel
theorem dJ6_bitCount_0f7a4_1 : decode cJ6_bitCount_0f7a4 1 = .ok (.iload_n 0, 1) := by decide +kernel
theorem dJ6_bitCount_0f7a4_2 : decode cJ6_bitCount_0f7a4 2 = .ok (.iconst 1, 1) := by decide +kernel
theorem dJ6_bitCount_0f7a4_3 : decode cJ6_bitCount_0f7a4 3 = .ok (.iushr, 1) := by decide +kernel
theorem dJ6_bitCount_0f7a4_4 : decode cJ6_bitCount_0f7a4 4 = .ok (.ldc_w 265, 3) := by decide +kernel
theorem dJ6_bitCount_0f7a4_7 : decode cJ6_bitCount_0f7a4 7 = .ok (.iand, 1) := by decide +kernel
theorem dJ6_bitCount_0f7a4_8 : decode cJ6_bitCount_0f7a4 8 = .ok (.isub, 1) := by decide +kernel
theorem dJ6_bitCount_0f7a4_9 : decode cJ6_bitCount_0f7a4 9 = .ok (.istore_n 0, 1) := by decide +kernel
theorem dJ6_bitCount_0f7a4_10 : decode cJ6_bitCount_0f7a4 10 = .ok (.iload_n 0, 1) := by decide +kernel
theorem dJ6_bitCount_0f7a4_11 : decode cJ6_bitCount_0f7a4 11 = .ok (.ldc_w 266, 3) := by decide +kernel
theorem dJ6_bitCount_0f7a4_14 : decode cJ6_bitCount_0f7a4 14 = .ok (.iand, 1) := by decide +kernel
theorem dJ6_bitCount_0f7a4_15 : decode cJ6_bitCount_0f7a4 15 = .ok (.iload_n 0, 1) := by decide +kernel
theorem dJ6_bitCount_0f7a4_16 : decode cJ6_bitCount_0f7a4 16 = .ok (.iconst 2, 1) := by decide +kernel
theorem dJ6_bitCount_0f7a4_17 : decode cJ6_bitCount_0f7a4 17 = .ok (.iushr, 1) := by decide +kernel
theorem dJ6_bitCount_0f7a4_18 : decode cJ6_bitCount_0f7a4 18 = .ok (.ldc_w 266, 3) := by decide +kernel
theorem dJ6_bitCount_0f7a4_21 : decode cJ6_bitCount_0f7a4 21 = .ok (.iand, 1) := by decide +kernel
theorem dJ6_bitCount_0f7a4_22 : decode cJ6_bitCount_0f7a4 22 = .ok (.iadd, 1) := by decide +kernel
theorem dJ6_bitCount_0f7a4_23 : decode cJ6_bitCount_0f7a4 23 = .ok (.istore_n 0, 1) := by decide +kernel
theorem dJ6_bitCount_0f7a4_24 : decode cJ6_bitCount_0f7a4 24 = .ok (.iload_n 0, 1) := by decide +kernel
theorem dJ6_bitCount_0f7a4_25 : decode cJ6_bitCount_0f7a4 25 = .ok (.iload_n 0, 1) := by decide +kernel
theorem dJ6_bitCount_0f7a4_26 : decode cJ6_bitCount_0f7a4 26 = .ok (.iconst 4, 1) := by decide +kernel
theorem dJ6_bitCount_0f7a4_27 : decode cJ6_bitCount_0f7a4 27 = .ok (.iushr, 1) := by decide +kernel
theorem dJ6_bitCount_0f7a4_28 : decode cJ6_bitCount_0f7a4 28 = .ok (.iadd, 1) := by decide +kernel
theorem dJ6_bitCount_0f7a4_29 : decode cJ6_bitCount_0f7a4 29 = .ok (.ldc_w 267, 3) := by decide +kernel
theorem dJ6_bitCount_0f7a4_32 : decode cJ6_bitCount_0f7a4 32 = .ok (.iand, 1) := by decide +kernel
theorem dJ6_bitCount_0f7a4_33 : decode cJ6_bitCount_0f7a4 33 = .ok (.istore_n 0, 1) := by decide +kernel
theorem dJ6_bitCount_0f7a4_34 : decode cJ6_bitCount_0f7a4 34 = .ok (.iload_n 0, 1) := by decide +kernel
theorem dJ6_bitCount_0f7a4_35 : decode cJ6_bitCount_0f7a4 35 = .ok (.iload_n 0, 1) := by decide +kernel
theorem dJ6_bitCount_0f7a4_36 : decode cJ6_bitCount_0f7a4 36 = .ok (.bipush 8, 2) := by decide +kernel
theorem dJ6_bitCount_0f7a4_38 : decode cJ6_bitCount_0f7a4 38 = .ok (.iushr, 1) := by decide +kernel
theorem dJ6_bitCount_0f7a4_39 : decode cJ6_bitCount_0f7a4 39 = .ok (.iadd, 1) := by decide +kernel
theorem dJ6_bitCount_0f7a4_40 : decode cJ6_bitCount_0f7a4 40 = .ok (.istore_n 0, 1) := by decide +kernel
theorem dJ6_bitCount_0f7a4_41 : decode cJ6_bitCount_0f7a4 41 = .ok (.iload_n 0, 1) := by decide +kernel
theorem dJ6_bitCount_0f7a4_42 : decode cJ6_bitCount_0f7a4 42 = .ok (.iload_n 0, 1) := by decide +kernel
theorem dJ6_bitCount_0f7a4_43 : decode cJ6_bitCount_0f7a4 43 = .ok (.bipush 16, 2) := by decide +kernel
theorem dJ6_bitCount_0f7a4_45 : decode cJ6_bitCount_0f7a4 45 = .ok (.iushr, 1) := by decide +kernel
theorem dJ6_bitCount_0f7a4_46 : decode cJ6_bitCount_0f7a4 46 = .ok (.iadd, 1) := by decide +kernel
theorem dJ6_bitCount_0f7a4_47 : decode cJ6_bitCount_0f7a4 47 = .ok (.istore_n 0, 1) := by decide +kernel
theorem dJ6_bitCount_0f7a4_48 : decode cJ6_bitCount_0f7a4 48 = .ok (.iload_n 0, 1) := by decide +kernel
theorem dJ6_bitCount_0f7a4_49 : decode cJ6_bitCount_0f7a4 49 = .ok (.bipush 63, 2) := by decide +kernel
theorem dJ6_bitCount_0f7a4_51 : decode cJ6_bitCount_0f7a4 51 = .ok (.iand, 1) := by decide +kernel
theorem dJ6_bitCount_0f7a4_52 : decode cJ6_bitCount_0f7a4 52 = .ok (.ireturn, 1) := by decide +kernel
theorem dJ9_floorMod_7cf53_0 : decode cJ9_floorMod_7cf53 0 = .ok (.iload_n 0, 1) := by decide +kernel
theorem dJ9_floorMod_7cf53_1 : decode cJ9_floorMod_7cf53 1 = .ok (.iload_n 1, 1) := by decide +kernel
theorem dJ9_floorMod_7cf53_2 : decode cJ9_floorMod_7cf53 2 = .ok (.irem, 1) := by decide +kernel
theorem dJ9_floorMod_7cf53_3 : decode cJ9_floorMod_7cf53 3 = .ok (.istore_n 2, 1) := by decide +kernel
theorem dJ9_floorMod_7cf53_4 : decode cJ9_floorMod_7cf53 4 = .ok (.iload_n 0, 1) := by decide +kernel
theorem dJ9_floorMod_7cf53_5 : decode cJ9_floorMod_7cf53 5 = .ok (.iload_n 1, 1) := by decide +kernel
theorem dJ9_floorMod_7cf53_6 : decode cJ9_floorMod_7cf53 6 = .ok (.ixor, 1) := by decide +kernel
theorem dJ9_floorMod_7cf53_7 : decode cJ9_floorMod_7cf53 7 = .ok (.ifCond .ge 11, 3) := by decide +kernel
theorem dJ9_floorMod_7cf53_10 : decode cJ9_floorMod_7cf53 10 = .ok (.iload_n 2, 1) := by decide +kernel
theorem dJ9_floorMod_7cf53_11 : decode cJ9_floorMod_7cf53 11 = .ok (.ifCond .eq 7, 3) := by decide +kernel
theorem dJ9_floorMod_7cf53_14 : decode cJ9_floorMod_7cf53 14 = .ok (.iload_n 2, 1) := by decide +kernel
theorem dJ9_floorMod_7cf53_15 : decode cJ9_floorMod_7cf53 15 = .ok (.iload_n 1, 1) := by decide +kernel
theorem dJ9_floorMod_7cf53_16 : decode cJ9_floorMod_7cf53 16 = .ok (.iadd, 1) := by decide +kernel
theorem dJ9_floorMod_7cf53_17 : decode cJ9_floorMod_7cf53 17 = .ok (.ireturn, 1) := by decide +kernel
theorem dJ9_floorMod_7cf53_18 : decode cJ9_floorMod_7cf53 18 = .ok (.iload_n 2, 1) := by decide +kernel
theorem dJ9_floorMod_7cf53_19 : decode cJ9_floorMod_7cf53 19 = .ok (.ireturn, 1) := by decide +kernel
theorem dJ9_max_7cf53_0 : decode cJ9_max_7cf53 0 = .ok (.iload_n 0, 1) := by decide +kernel
theorem dJ9_max_7cf53_1 : decode cJ9_max_7cf53 1 = .ok (.iload_n 1, 1) := by decide +kernel
theorem dJ9_max_7cf53_2 : decode cJ9_max_7cf53 2 = .ok (.if_icmp .lt 7, 3) := by decide +kernel
theorem dJ9_max_7cf53_5 : decode cJ9_max_7cf53 5 = .ok (.iload_n 0, 1) := by decide +kernel
theorem dJ9_max_7cf53_6 : decode cJ9_max_7cf53 6 = .ok (.goto 4, 3) := by decide +kernel
theorem dJ9_max_7cf53_9 : decode cJ9_max_7cf53 9 = .ok (.iload_n 1, 1) := by decide +kernel
theorem dJ9_max_7cf53_10 : decode cJ9_max_7cf53 10 = .ok (.ireturn, 1) := by decide +kernel
theorem dJ9_min_7cf53_0 : decode cJ9_min_7cf53 0 = .ok (.iload_n 0, 1) := by decide +kernel
theorem dJ9_min_7cf53_1 : decode cJ9_min_7cf53 1 = .ok (.iload_n 1, 1) := by decide +kernel
theorem dJ9_min_7cf53_2 : decode cJ9_min_7cf53 2 = .ok (.if_icmp .gt 7, 3) := by decide +kernel
theorem dJ9_min_7cf53_5 : decode cJ9_min_7cf53 5 = .ok (.iload_n 0, 1) := by decide +kernel
theorem dJ9_min_7cf53_6 : decode cJ9_min_7cf53 6 = .ok (.goto 4, 3) := by decide +kernel
theorem dJ9_min_7cf53_9 : decode cJ9_min_7cf53 9 = .ok (.iload_n 1, 1) := by decide +kernel
theorem dJ9_min_7cf53_10 : decode cJ9_min_7cf53 10 = .ok (.ireturn, 1) := by decide +kernel

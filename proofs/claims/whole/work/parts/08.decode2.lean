theorem dX7_init_0 : decode cX7_init 0 = .ok (.aload_n 0, 1) := by decide +kernel
theorem dX7_init_1 : decode cX7_init 1 = .ok (.invokespecial 1, 3) := by decide +kernel
theorem dX7_init_4 : decode cX7_init 4 = .ok (.aload_n 0, 1) := by decide +kernel
theorem dX7_init_5 : decode cX7_init 5 = .ok (.new 7, 3) := by decide +kernel
theorem dX7_init_8 : decode cX7_init 8 = .ok (.dup, 1) := by decide +kernel
theorem dX7_init_9 : decode cX7_init 9 = .ok (.invokespecial 9, 3) := by decide +kernel
theorem dX7_init_12 : decode cX7_init 12 = .ok (.putfield 10, 3) := by decide +kernel
theorem dX7_init_15 : decode cX7_init 15 = .ok (.aload_n 0, 1) := by decide +kernel
theorem dX7_init_16 : decode cX7_init 16 = .ok (.new 16, 3) := by decide +kernel
theorem dX7_init_19 : decode cX7_init 19 = .ok (.dup, 1) := by decide +kernel
theorem dX7_init_20 : decode cX7_init 20 = .ok (.invokespecial 18, 3) := by decide +kernel
theorem dX7_init_23 : decode cX7_init 23 = .ok (.putfield 19, 3) := by decide +kernel
theorem dX7_init_26 : decode cX7_init 26 = .ok (.aload_n 0, 1) := by decide +kernel
theorem dX7_init_27 : decode cX7_init 27 = .ok (.new 16, 3) := by decide +kernel
theorem dX7_init_30 : decode cX7_init 30 = .ok (.dup, 1) := by decide +kernel
theorem dX7_init_31 : decode cX7_init 31 = .ok (.invokespecial 18, 3) := by decide +kernel
theorem dX7_init_34 : decode cX7_init 34 = .ok (.putfield 23, 3) := by decide +kernel
theorem dX7_init_37 : decode cX7_init 37 = .ok (.aload_n 0, 1) := by decide +kernel
theorem dX7_init_38 : decode cX7_init 38 = .ok (.new 26, 3) := by decide +kernel
theorem dX7_init_41 : decode cX7_init 41 = .ok (.dup, 1) := by decide +kernel
theorem dX7_init_42 : decode cX7_init 42 = .ok (.invokespecial 28, 3) := by decide +kernel
theorem dX7_init_45 : decode cX7_init 45 = .ok (.putfield 29, 3) := by decide +kernel
theorem dX7_init_48 : decode cX7_init 48 = .ok (.aload_n 0, 1) := by decide +kernel
theorem dX7_init_49 : decode cX7_init 49 = .ok (.new 26, 3) := by decide +kernel
theorem dX7_init_52 : decode cX7_init 52 = .ok (.dup, 1) := by decide +kernel
theorem dX7_init_53 : decode cX7_init 53 = .ok (.invokespecial 28, 3) := by decide +kernel
theorem dX7_init_56 : decode cX7_init 56 = .ok (.putfield 33, 3) := by decide +kernel
theorem dX7_init_59 : decode cX7_init 59 = .ok (.aload_n 0, 1) := by decide +kernel
theorem dX7_init_60 : decode cX7_init 60 = .ok (.new 36, 3) := by decide +kernel
theorem dX7_init_63 : decode cX7_init 63 = .ok (.dup, 1) := by decide +kernel
theorem dX7_init_64 : decode cX7_init 64 = .ok (.invokespecial 38, 3) := by decide +kernel
theorem dX7_init_67 : decode cX7_init 67 = .ok (.putfield 39, 3) := by decide +kernel
theorem dX7_init_70 : decode cX7_init 70 = .ok (.aload_n 0, 1) := by decide +kernel
theorem dX7_init_71 : decode cX7_init 71 = .ok (.new 26, 3) := by decide +kernel
theorem dX7_init_74 : decode cX7_init 74 = .ok (.dup, 1) := by decide +kernel
theorem dX7_init_75 : decode cX7_init 75 = .ok (.invokespecial 28, 3) := by decide +kernel
theorem dX7_init_78 : decode cX7_init 78 = .ok (.putfield 43, 3) := by decide +kernel
theorem dX7_init_81 : decode cX7_init 81 = .ok (.aload_n 0, 1) := by decide +kernel
theorem dX7_init_82 : decode cX7_init 82 = .ok (.new 26, 3) := by decide +kernel
theorem dX7_init_85 : decode cX7_init 85 = .ok (.dup, 1) := by decide +kernel
theorem dX7_init_86 : decode cX7_init 86 = .ok (.invokespecial 28, 3) := by decide +kernel
theorem dX7_init_89 : decode cX7_init 89 = .ok (.putfield 46, 3) := by decide +kernel
theorem dX7_init_92 : decode cX7_init 92 = .ok (.aload_n 0, 1) := by decide +kernel
theorem dX7_init_93 : decode cX7_init 93 = .ok (.new 36, 3) := by decide +kernel
theorem dX7_init_96 : decode cX7_init 96 = .ok (.dup, 1) := by decide +kernel
theorem dX7_init_97 : decode cX7_init 97 = .ok (.invokespecial 38, 3) := by decide +kernel
theorem dX7_init_100 : decode cX7_init 100 = .ok (.putfield 49, 3) := by decide +kernel
theorem dX7_init_103 : decode cX7_init 103 = .ok (.aload_n 0, 1) := by decide +kernel
theorem dX7_init_104 : decode cX7_init 104 = .ok (.new 52, 3) := by decide +kernel
theorem dX7_init_107 : decode cX7_init 107 = .ok (.dup, 1) := by decide +kernel
theorem dX7_init_108 : decode cX7_init 108 = .ok (.invokespecial 54, 3) := by decide +kernel
theorem dX7_init_111 : decode cX7_init 111 = .ok (.putfield 55, 3) := by decide +kernel
theorem dX7_init_114 : decode cX7_init 114 = .ok (.aload_n 0, 1) := by decide +kernel
theorem dX7_init_115 : decode cX7_init 115 = .ok (.new 52, 3) := by decide +kernel
theorem dX7_init_118 : decode cX7_init 118 = .ok (.dup, 1) := by decide +kernel
theorem dX7_init_119 : decode cX7_init 119 = .ok (.invokespecial 54, 3) := by decide +kernel
theorem dX7_init_122 : decode cX7_init 122 = .ok (.putfield 59, 3) := by decide +kernel
theorem dX7_init_125 : decode cX7_init 125 = .ok (.aload_n 0, 1) := by decide +kernel
theorem dX7_init_126 : decode cX7_init 126 = .ok (.new 62, 3) := by decide +kernel
theorem dX7_init_129 : decode cX7_init 129 = .ok (.dup, 1) := by decide +kernel
theorem dX7_init_130 : decode cX7_init 130 = .ok (.invokespecial 64, 3) := by decide +kernel
theorem dX7_init_133 : decode cX7_init 133 = .ok (.putfield 65, 3) := by decide +kernel
theorem dX7_init_136 : decode cX7_init 136 = .ok (.aload_n 0, 1) := by decide +kernel
theorem dX7_init_137 : decode cX7_init 137 = .ok (.new 69, 3) := by decide +kernel
theorem dX7_init_140 : decode cX7_init 140 = .ok (.dup, 1) := by decide +kernel
theorem dX7_init_141 : decode cX7_init 141 = .ok (.invokespecial 71, 3) := by decide +kernel
theorem dX7_init_144 : decode cX7_init 144 = .ok (.putfield 72, 3) := by decide +kernel
theorem dX7_init_147 : decode cX7_init 147 = .ok (.aload_n 0, 1) := by decide +kernel
theorem dX7_init_148 : decode cX7_init 148 = .ok (.iconst 0, 1) := by decide +kernel
theorem dX7_init_149 : decode cX7_init 149 = .ok (.putfield 76, 3) := by decide +kernel
theorem dX7_init_152 : decode cX7_init 152 = .ok (.aload_n 0, 1) := by decide +kernel
theorem dX7_init_153 : decode cX7_init 153 = .ok (.iconst 0, 1) := by decide +kernel
theorem dX7_init_154 : decode cX7_init 154 = .ok (.putfield 80, 3) := by decide +kernel
theorem dX7_init_157 : decode cX7_init 157 = .ok (.return_, 1) := by decide +kernel
theorem dX7_skill_0 : decode cX7_skill 0 = .ok (.iload_n 1, 1) := by decide +kernel
theorem dX7_skill_1 : decode cX7_skill 1 = .ok (.invokestatic 83, 3) := by decide +kernel
theorem dX7_skill_4 : decode cX7_skill 4 = .ok (.ifCond .eq 31, 3) := by decide +kernel
theorem dX7_skill_7 : decode cX7_skill 7 = .ok (.iload_n 2, 1) := by decide +kernel
theorem dX7_skill_8 : decode cX7_skill 8 = .ok (.invokestatic 87, 3) := by decide +kernel
theorem dX7_skill_11 : decode cX7_skill 11 = .ok (.ifCond .eq 24, 3) := by decide +kernel
theorem dX7_skill_14 : decode cX7_skill 14 = .ok (.iload_n 3, 1) := by decide +kernel
theorem dX7_skill_15 : decode cX7_skill 15 = .ok (.ifCond .lt 20, 3) := by decide +kernel
theorem dX7_skill_18 : decode cX7_skill 18 = .ok (.iload_n 3, 1) := by decide +kernel
theorem dX7_skill_19 : decode cX7_skill 19 = .ok (.iconst 4, 1) := by decide +kernel
theorem dX7_skill_20 : decode cX7_skill 20 = .ok (.if_icmp .ge 15, 3) := by decide +kernel
theorem dX7_skill_23 : decode cX7_skill 23 = .ok (.iload 4, 2) := by decide +kernel
theorem dX7_skill_25 : decode cX7_skill 25 = .ok (.ifCond .lt 10, 3) := by decide +kernel
theorem dX7_skill_28 : decode cX7_skill 28 = .ok (.iload 4, 2) := by decide +kernel
theorem dX7_skill_30 : decode cX7_skill 30 = .ok (.bipush 100, 2) := by decide +kernel
theorem dX7_skill_32 : decode cX7_skill 32 = .ok (.if_icmp .le 5, 3) := by decide +kernel
theorem dX7_skill_35 : decode cX7_skill 35 = .ok (.iconst (-1), 1) := by decide +kernel
theorem dX7_skill_36 : decode cX7_skill 36 = .ok (.ireturn, 1) := by decide +kernel
theorem dX7_skill_37 : decode cX7_skill 37 = .ok (.aload_n 0, 1) := by decide +kernel
theorem dX7_skill_38 : decode cX7_skill 38 = .ok (.iload_n 1, 1) := by decide +kernel
theorem dX7_skill_39 : decode cX7_skill 39 = .ok (.invokevirtual 90, 3) := by decide +kernel
theorem dX7_skill_42 : decode cX7_skill 42 = .ok (.astore 5, 2) := by decide +kernel
theorem dX7_skill_44 : decode cX7_skill 44 = .ok (.aload 5, 2) := by decide +kernel
theorem dX7_skill_46 : decode cX7_skill 46 = .ok (.iload_n 2, 1) := by decide +kernel
theorem dX7_skill_47 : decode cX7_skill 47 = .ok (.iload_n 3, 1) := by decide +kernel
theorem dX7_skill_48 : decode cX7_skill 48 = .ok (.invokevirtual 94, 3) := by decide +kernel
theorem dX7_skill_51 : decode cX7_skill 51 = .ok (.istore 6, 2) := by decide +kernel
theorem dX7_skill_53 : decode cX7_skill 53 = .ok (.aload 5, 2) := by decide +kernel
theorem dX7_skill_55 : decode cX7_skill 55 = .ok (.iload_n 2, 1) := by decide +kernel
theorem dX7_skill_56 : decode cX7_skill 56 = .ok (.iload_n 3, 1) := by decide +kernel
theorem dX7_skill_57 : decode cX7_skill 57 = .ok (.iload 4, 2) := by decide +kernel
theorem dX7_skill_59 : decode cX7_skill 59 = .ok (.invokevirtual 98, 3) := by decide +kernel
theorem dX7_skill_62 : decode cX7_skill 62 = .ok (.iload 6, 2) := by decide +kernel
theorem dX7_skill_64 : decode cX7_skill 64 = .ok (.ireturn, 1) := by decide +kernel
theorem dX7_libre_0 : decode cX7_libre 0 = .ok (.iload_n 1, 1) := by decide +kernel
theorem dX7_libre_1 : decode cX7_libre 1 = .ok (.invokestatic 83, 3) := by decide +kernel
theorem dX7_libre_4 : decode cX7_libre 4 = .ok (.ifCond .eq 25, 3) := by decide +kernel
theorem dX7_libre_7 : decode cX7_libre 7 = .ok (.iload_n 2, 1) := by decide +kernel
theorem dX7_libre_8 : decode cX7_libre 8 = .ok (.iconst (-1), 1) := by decide +kernel
theorem dX7_libre_9 : decode cX7_libre 9 = .ok (.if_icmp .eq 10, 3) := by decide +kernel
theorem dX7_libre_12 : decode cX7_libre 12 = .ok (.iload_n 2, 1) := by decide +kernel
theorem dX7_libre_13 : decode cX7_libre 13 = .ok (.invokestatic 87, 3) := by decide +kernel
theorem dX7_libre_16 : decode cX7_libre 16 = .ok (.ifCond .eq 13, 3) := by decide +kernel
theorem dX7_libre_19 : decode cX7_libre 19 = .ok (.aload_n 0, 1) := by decide +kernel
theorem dX7_libre_20 : decode cX7_libre 20 = .ok (.getfield 39, 3) := by decide +kernel
theorem dX7_libre_23 : decode cX7_libre 23 = .ok (.getfield 102, 3) := by decide +kernel
theorem dX7_libre_26 : decode cX7_libre 26 = .ok (.ifCond .eq 6, 3) := by decide +kernel
theorem dX7_libre_29 : decode cX7_libre 29 = .ok (.bipush (-2), 2) := by decide +kernel
theorem dX7_libre_31 : decode cX7_libre 31 = .ok (.ireturn, 1) := by decide +kernel
theorem dX7_libre_32 : decode cX7_libre 32 = .ok (.aload_n 0, 1) := by decide +kernel
theorem dX7_libre_33 : decode cX7_libre 33 = .ok (.iload_n 1, 1) := by decide +kernel
theorem dX7_libre_34 : decode cX7_libre 34 = .ok (.invokevirtual 90, 3) := by decide +kernel
theorem dX7_libre_37 : decode cX7_libre 37 = .ok (.astore_n 3, 1) := by decide +kernel
theorem dX7_libre_38 : decode cX7_libre 38 = .ok (.aload_n 3, 1) := by decide +kernel
theorem dX7_libre_39 : decode cX7_libre 39 = .ok (.getfield 106, 3) := by decide +kernel
theorem dX7_libre_42 : decode cX7_libre 42 = .ok (.istore 4, 2) := by decide +kernel
theorem dX7_libre_44 : decode cX7_libre 44 = .ok (.aload_n 3, 1) := by decide +kernel
theorem dX7_libre_45 : decode cX7_libre 45 = .ok (.iload_n 2, 1) := by decide +kernel
theorem dX7_libre_46 : decode cX7_libre 46 = .ok (.putfield 106, 3) := by decide +kernel
theorem dX7_libre_49 : decode cX7_libre 49 = .ok (.iload 4, 2) := by decide +kernel
theorem dX7_libre_51 : decode cX7_libre 51 = .ok (.ireturn, 1) := by decide +kernel
theorem dX7_set_0 : decode cX7_set 0 = .ok (.aload_n 0, 1) := by decide +kernel
theorem dX7_set_1 : decode cX7_set 1 = .ok (.getfield 39, 3) := by decide +kernel
theorem dX7_set_4 : decode cX7_set 4 = .ok (.getfield 109, 3) := by decide +kernel
theorem dX7_set_7 : decode cX7_set 7 = .ok (.iconst (-1), 1) := by decide +kernel
theorem dX7_set_8 : decode cX7_set 8 = .ok (.if_icmp .ne 15, 3) := by decide +kernel
theorem dX7_set_11 : decode cX7_set 11 = .ok (.aload_n 0, 1) := by decide +kernel
theorem dX7_set_12 : decode cX7_set 12 = .ok (.getfield 10, 3) := by decide +kernel
theorem dX7_set_15 : decode cX7_set 15 = .ok (.iload_n 1, 1) := by decide +kernel
theorem dX7_set_16 : decode cX7_set 16 = .ok (.iload_n 2, 1) := by decide +kernel
theorem dX7_set_17 : decode cX7_set 17 = .ok (.invokevirtual 112, 3) := by decide +kernel
theorem dX7_set_20 : decode cX7_set 20 = .ok (.ifCond .ne 5, 3) := by decide +kernel
theorem dX7_set_23 : decode cX7_set 23 = .ok (.iconst (-1), 1) := by decide +kernel
theorem dX7_set_24 : decode cX7_set 24 = .ok (.ireturn, 1) := by decide +kernel
theorem dX7_set_25 : decode cX7_set 25 = .ok (.aload_n 0, 1) := by decide +kernel
theorem dX7_set_26 : decode cX7_set 26 = .ok (.getfield 10, 3) := by decide +kernel
theorem dX7_set_29 : decode cX7_set 29 = .ok (.iload_n 1, 1) := by decide +kernel
theorem dX7_set_30 : decode cX7_set 30 = .ok (.invokevirtual 116, 3) := by decide +kernel
theorem dX7_set_33 : decode cX7_set 33 = .ok (.istore_n 3, 1) := by decide +kernel
theorem dX7_set_34 : decode cX7_set 34 = .ok (.aload_n 0, 1) := by decide +kernel
theorem dX7_set_35 : decode cX7_set 35 = .ok (.getfield 10, 3) := by decide +kernel
theorem dX7_set_38 : decode cX7_set 38 = .ok (.iload_n 1, 1) := by decide +kernel
theorem dX7_set_39 : decode cX7_set 39 = .ok (.iload_n 2, 1) := by decide +kernel
theorem dX7_set_40 : decode cX7_set 40 = .ok (.invokevirtual 120, 3) := by decide +kernel
theorem dX7_set_43 : decode cX7_set 43 = .ok (.iload_n 3, 1) := by decide +kernel
theorem dX7_set_44 : decode cX7_set 44 = .ok (.ireturn, 1) := by decide +kernel
theorem dX7_lineUp_0 : decode cX7_lineUp 0 = .ok (.iload_n 1, 1) := by decide +kernel
theorem dX7_lineUp_1 : decode cX7_lineUp 1 = .ok (.invokestatic 83, 3) := by decide +kernel
theorem dX7_lineUp_4 : decode cX7_lineUp 4 = .ok (.ifCond .eq 24, 3) := by decide +kernel
theorem dX7_lineUp_7 : decode cX7_lineUp 7 = .ok (.aload_n 0, 1) := by decide +kernel
theorem dX7_lineUp_8 : decode cX7_lineUp 8 = .ok (.getfield 39, 3) := by decide +kernel
theorem dX7_lineUp_11 : decode cX7_lineUp 11 = .ok (.getfield 102, 3) := by decide +kernel
theorem dX7_lineUp_14 : decode cX7_lineUp 14 = .ok (.ifCond .ne 14, 3) := by decide +kernel
theorem dX7_lineUp_17 : decode cX7_lineUp 17 = .ok (.aload_n 0, 1) := by decide +kernel
theorem dX7_lineUp_18 : decode cX7_lineUp 18 = .ok (.getfield 39, 3) := by decide +kernel
theorem dX7_lineUp_21 : decode cX7_lineUp 21 = .ok (.getfield 124, 3) := by decide +kernel
theorem dX7_lineUp_24 : decode cX7_lineUp 24 = .ok (.iconst (-1), 1) := by decide +kernel
theorem dX7_lineUp_25 : decode cX7_lineUp 25 = .ok (.if_icmp .eq 5, 3) := by decide +kernel
theorem dX7_lineUp_28 : decode cX7_lineUp 28 = .ok (.iconst 0, 1) := by decide +kernel
theorem dX7_lineUp_29 : decode cX7_lineUp 29 = .ok (.ireturn, 1) := by decide +kernel
theorem dX7_lineUp_30 : decode cX7_lineUp 30 = .ok (.iload_n 2, 1) := by decide +kernel
theorem dX7_lineUp_31 : decode cX7_lineUp 31 = .ok (.invokestatic 127, 3) := by decide +kernel
theorem dX7_lineUp_34 : decode cX7_lineUp 34 = .ok (.iload_n 3, 1) := by decide +kernel
theorem dX7_lineUp_35 : decode cX7_lineUp 35 = .ok (.invokestatic 127, 3) := by decide +kernel
theorem dX7_lineUp_38 : decode cX7_lineUp 38 = .ok (.ior, 1) := by decide +kernel
theorem dX7_lineUp_39 : decode cX7_lineUp 39 = .ok (.iload 4, 2) := by decide +kernel
theorem dX7_lineUp_41 : decode cX7_lineUp 41 = .ok (.invokestatic 127, 3) := by decide +kernel
theorem dX7_lineUp_44 : decode cX7_lineUp 44 = .ok (.ior, 1) := by decide +kernel
theorem dX7_lineUp_45 : decode cX7_lineUp 45 = .ok (.iload 5, 2) := by decide +kernel
theorem dX7_lineUp_47 : decode cX7_lineUp 47 = .ok (.invokestatic 127, 3) := by decide +kernel
theorem dX7_lineUp_50 : decode cX7_lineUp 50 = .ok (.ior, 1) := by decide +kernel
theorem dX7_lineUp_51 : decode cX7_lineUp 51 = .ok (.iload 6, 2) := by decide +kernel
theorem dX7_lineUp_53 : decode cX7_lineUp 53 = .ok (.invokestatic 127, 3) := by decide +kernel
theorem dX7_lineUp_56 : decode cX7_lineUp 56 = .ok (.ior, 1) := by decide +kernel
theorem dX7_lineUp_57 : decode cX7_lineUp 57 = .ok (.iload 7, 2) := by decide +kernel
theorem dX7_lineUp_59 : decode cX7_lineUp 59 = .ok (.invokestatic 127, 3) := by decide +kernel
theorem dX7_lineUp_62 : decode cX7_lineUp 62 = .ok (.ior, 1) := by decide +kernel
theorem dX7_lineUp_63 : decode cX7_lineUp 63 = .ok (.istore 8, 2) := by decide +kernel
theorem dX7_lineUp_65 : decode cX7_lineUp 65 = .ok (.aload_n 0, 1) := by decide +kernel
theorem dX7_lineUp_66 : decode cX7_lineUp 66 = .ok (.iload_n 1, 1) := by decide +kernel
theorem dX7_lineUp_67 : decode cX7_lineUp 67 = .ok (.invokevirtual 90, 3) := by decide +kernel
theorem dX7_lineUp_70 : decode cX7_lineUp 70 = .ok (.astore 9, 2) := by decide +kernel
theorem dX7_lineUp_72 : decode cX7_lineUp 72 = .ok (.iload 8, 2) := by decide +kernel
theorem dX7_lineUp_74 : decode cX7_lineUp 74 = .ok (.invokestatic 130, 3) := by decide +kernel
theorem dX7_lineUp_77 : decode cX7_lineUp 77 = .ok (.bipush 6, 2) := by decide +kernel
theorem dX7_lineUp_79 : decode cX7_lineUp 79 = .ok (.if_icmp .ne 17, 3) := by decide +kernel
theorem dX7_lineUp_82 : decode cX7_lineUp 82 = .ok (.iload 8, 2) := by decide +kernel
theorem dX7_lineUp_84 : decode cX7_lineUp 84 = .ok (.aload 9, 2) := by decide +kernel
theorem dX7_lineUp_86 : decode cX7_lineUp 86 = .ok (.getfield 106, 3) := by decide +kernel
theorem dX7_lineUp_89 : decode cX7_lineUp 89 = .ok (.invokestatic 127, 3) := by decide +kernel
theorem dX7_lineUp_92 : decode cX7_lineUp 92 = .ok (.iand, 1) := by decide +kernel
theorem dX7_lineUp_93 : decode cX7_lineUp 93 = .ok (.ifCond .eq 5, 3) := by decide +kernel
theorem dX7_lineUp_96 : decode cX7_lineUp 96 = .ok (.iconst 0, 1) := by decide +kernel
theorem dX7_lineUp_97 : decode cX7_lineUp 97 = .ok (.ireturn, 1) := by decide +kernel
theorem dX7_lineUp_98 : decode cX7_lineUp 98 = .ok (.aload 9, 2) := by decide +kernel
theorem dX7_lineUp_100 : decode cX7_lineUp 100 = .ok (.iload_n 2, 1) := by decide +kernel
theorem dX7_lineUp_101 : decode cX7_lineUp 101 = .ok (.iload_n 3, 1) := by decide +kernel
theorem dX7_lineUp_102 : decode cX7_lineUp 102 = .ok (.iload 4, 2) := by decide +kernel
theorem dX7_lineUp_104 : decode cX7_lineUp 104 = .ok (.iload 5, 2) := by decide +kernel
theorem dX7_lineUp_106 : decode cX7_lineUp 106 = .ok (.iload 6, 2) := by decide +kernel
theorem dX7_lineUp_108 : decode cX7_lineUp 108 = .ok (.iload 7, 2) := by decide +kernel
theorem dX7_lineUp_110 : decode cX7_lineUp 110 = .ok (.invokevirtual 135, 3) := by decide +kernel
theorem dX7_lineUp_113 : decode cX7_lineUp 113 = .ok (.iconst 1, 1) := by decide +kernel
theorem dX7_lineUp_114 : decode cX7_lineUp 114 = .ok (.ireturn, 1) := by decide +kernel
theorem dX7_begin_0 : decode cX7_begin 0 = .ok (.iload_n 1, 1) := by decide +kernel
theorem dX7_begin_1 : decode cX7_begin 1 = .ok (.invokestatic 83, 3) := by decide +kernel
theorem dX7_begin_4 : decode cX7_begin 4 = .ok (.ifCond .eq 24, 3) := by decide +kernel
theorem dX7_begin_7 : decode cX7_begin 7 = .ok (.aload_n 0, 1) := by decide +kernel
theorem dX7_begin_8 : decode cX7_begin 8 = .ok (.getfield 39, 3) := by decide +kernel
theorem dX7_begin_11 : decode cX7_begin 11 = .ok (.getfield 102, 3) := by decide +kernel
theorem dX7_begin_14 : decode cX7_begin 14 = .ok (.ifCond .ne 14, 3) := by decide +kernel
theorem dX7_begin_17 : decode cX7_begin 17 = .ok (.aload_n 0, 1) := by decide +kernel
theorem dX7_begin_18 : decode cX7_begin 18 = .ok (.getfield 39, 3) := by decide +kernel
theorem dX7_begin_21 : decode cX7_begin 21 = .ok (.getfield 124, 3) := by decide +kernel
theorem dX7_begin_24 : decode cX7_begin 24 = .ok (.iconst (-1), 1) := by decide +kernel
theorem dX7_begin_25 : decode cX7_begin 25 = .ok (.if_icmp .eq 5, 3) := by decide +kernel
theorem dX7_begin_28 : decode cX7_begin 28 = .ok (.iconst (-1), 1) := by decide +kernel
theorem dX7_begin_29 : decode cX7_begin 29 = .ok (.ireturn, 1) := by decide +kernel
theorem dX7_begin_30 : decode cX7_begin 30 = .ok (.aload_n 0, 1) := by decide +kernel
theorem dX7_begin_31 : decode cX7_begin 31 = .ok (.getfield 19, 3) := by decide +kernel
theorem dX7_begin_34 : decode cX7_begin 34 = .ok (.invokevirtual 139, 3) := by decide +kernel
theorem dX7_begin_37 : decode cX7_begin 37 = .ok (.ifCond .eq 13, 3) := by decide +kernel
theorem dX7_begin_40 : decode cX7_begin 40 = .ok (.aload_n 0, 1) := by decide +kernel
theorem dX7_begin_41 : decode cX7_begin 41 = .ok (.getfield 23, 3) := by decide +kernel
theorem dX7_begin_44 : decode cX7_begin 44 = .ok (.invokevirtual 139, 3) := by decide +kernel
theorem dX7_begin_47 : decode cX7_begin 47 = .ok (.ifCond .ne 5, 3) := by decide +kernel
theorem dX7_begin_50 : decode cX7_begin 50 = .ok (.iconst (-1), 1) := by decide +kernel
theorem dX7_begin_51 : decode cX7_begin 51 = .ok (.ireturn, 1) := by decide +kernel
theorem dX7_begin_52 : decode cX7_begin 52 = .ok (.aload_n 0, 1) := by decide +kernel
theorem dX7_begin_53 : decode cX7_begin 53 = .ok (.getfield 29, 3) := by decide +kernel
theorem dX7_begin_56 : decode cX7_begin 56 = .ok (.aload_n 0, 1) := by decide +kernel
theorem dX7_begin_57 : decode cX7_begin 57 = .ok (.getfield 19, 3) := by decide +kernel
theorem dX7_begin_60 : decode cX7_begin 60 = .ok (.invokevirtual 143, 3) := by decide +kernel
theorem dX7_begin_63 : decode cX7_begin 63 = .ok (.aload_n 0, 1) := by decide +kernel
theorem dX7_begin_64 : decode cX7_begin 64 = .ok (.getfield 33, 3) := by decide +kernel
theorem dX7_begin_67 : decode cX7_begin 67 = .ok (.aload_n 0, 1) := by decide +kernel
theorem dX7_begin_68 : decode cX7_begin 68 = .ok (.getfield 23, 3) := by decide +kernel
theorem dX7_begin_71 : decode cX7_begin 71 = .ok (.invokevirtual 143, 3) := by decide +kernel
theorem dX7_begin_74 : decode cX7_begin 74 = .ok (.aload_n 0, 1) := by decide +kernel
theorem dX7_begin_75 : decode cX7_begin 75 = .ok (.getfield 19, 3) := by decide +kernel
theorem dX7_begin_78 : decode cX7_begin 78 = .ok (.iconst 0, 1) := by decide +kernel
theorem dX7_begin_79 : decode cX7_begin 79 = .ok (.putfield 147, 3) := by decide +kernel
theorem dX7_begin_82 : decode cX7_begin 82 = .ok (.aload_n 0, 1) := by decide +kernel
theorem dX7_begin_83 : decode cX7_begin 83 = .ok (.getfield 23, 3) := by decide +kernel
theorem dX7_begin_86 : decode cX7_begin 86 = .ok (.iconst 0, 1) := by decide +kernel
theorem dX7_begin_87 : decode cX7_begin 87 = .ok (.putfield 147, 3) := by decide +kernel
theorem dX7_begin_90 : decode cX7_begin 90 = .ok (.aload_n 0, 1) := by decide +kernel
theorem dX7_begin_91 : decode cX7_begin 91 = .ok (.getfield 55, 3) := by decide +kernel
theorem dX7_begin_94 : decode cX7_begin 94 = .ok (.invokevirtual 150, 3) := by decide +kernel
theorem dX7_begin_97 : decode cX7_begin 97 = .ok (.aload_n 0, 1) := by decide +kernel
theorem dX7_begin_98 : decode cX7_begin 98 = .ok (.getfield 59, 3) := by decide +kernel
theorem dX7_begin_101 : decode cX7_begin 101 = .ok (.invokevirtual 150, 3) := by decide +kernel
theorem dX7_begin_104 : decode cX7_begin 104 = .ok (.aload_n 0, 1) := by decide +kernel
theorem dX7_begin_105 : decode cX7_begin 105 = .ok (.getfield 39, 3) := by decide +kernel
theorem dX7_begin_108 : decode cX7_begin 108 = .ok (.iload_n 1, 1) := by decide +kernel
theorem dX7_begin_109 : decode cX7_begin 109 = .ok (.invokevirtual 153, 3) := by decide +kernel
theorem dX7_begin_112 : decode cX7_begin 112 = .ok (.aload_n 0, 1) := by decide +kernel
theorem dX7_begin_113 : decode cX7_begin 113 = .ok (.getfield 39, 3) := by decide +kernel
theorem dX7_begin_116 : decode cX7_begin 116 = .ok (.getfield 109, 3) := by decide +kernel
theorem dX7_begin_119 : decode cX7_begin 119 = .ok (.ireturn, 1) := by decide +kernel
theorem dX7_rally_0 : decode cX7_rally 0 = .ok (.iload_n 1, 1) := by decide +kernel
theorem dX7_rally_1 : decode cX7_rally 1 = .ok (.invokestatic 83, 3) := by decide +kernel
theorem dX7_rally_4 : decode cX7_rally 4 = .ok (.ifCond .eq 13, 3) := by decide +kernel
theorem dX7_rally_7 : decode cX7_rally 7 = .ok (.aload_n 0, 1) := by decide +kernel
theorem dX7_rally_8 : decode cX7_rally 8 = .ok (.getfield 39, 3) := by decide +kernel
theorem dX7_rally_11 : decode cX7_rally 11 = .ok (.getfield 102, 3) := by decide +kernel
theorem dX7_rally_14 : decode cX7_rally 14 = .ok (.ifCond .ne 5, 3) := by decide +kernel
theorem dX7_rally_17 : decode cX7_rally 17 = .ok (.iconst (-1), 1) := by decide +kernel
theorem dX7_rally_18 : decode cX7_rally 18 = .ok (.ireturn, 1) := by decide +kernel
theorem dX7_rally_19 : decode cX7_rally 19 = .ok (.aload_n 0, 1) := by decide +kernel
theorem dX7_rally_20 : decode cX7_rally 20 = .ok (.iload_n 1, 1) := by decide +kernel
theorem dX7_rally_21 : decode cX7_rally 21 = .ok (.invokevirtual 156, 3) := by decide +kernel
theorem dX7_rally_24 : decode cX7_rally 24 = .ok (.ireturn, 1) := by decide +kernel
theorem dX7_may_0 : decode cX7_may 0 = .ok (.iload_n 1, 1) := by decide +kernel
theorem dX7_may_1 : decode cX7_may 1 = .ok (.invokestatic 83, 3) := by decide +kernel
theorem dX7_may_4 : decode cX7_may 4 = .ok (.ifCond .ne 5, 3) := by decide +kernel
theorem dX7_may_7 : decode cX7_may 7 = .ok (.iconst (-1), 1) := by decide +kernel
theorem dX7_may_8 : decode cX7_may 8 = .ok (.ireturn, 1) := by decide +kernel
theorem dX7_may_9 : decode cX7_may 9 = .ok (.aload_n 0, 1) := by decide +kernel
theorem dX7_may_10 : decode cX7_may 10 = .ok (.getfield 39, 3) := by decide +kernel
theorem dX7_may_13 : decode cX7_may 13 = .ok (.getfield 102, 3) := by decide +kernel
theorem dX7_may_16 : decode cX7_may 16 = .ok (.ifCond .ne 5, 3) := by decide +kernel
theorem dX7_may_19 : decode cX7_may 19 = .ok (.iconst 1, 1) := by decide +kernel
theorem dX7_may_20 : decode cX7_may 20 = .ok (.ireturn, 1) := by decide +kernel
theorem dX7_may_21 : decode cX7_may 21 = .ok (.iload_n 2, 1) := by decide +kernel
theorem dX7_may_22 : decode cX7_may 22 = .ok (.invokestatic 87, 3) := by decide +kernel
theorem dX7_may_25 : decode cX7_may 25 = .ok (.ifCond .eq 15, 3) := by decide +kernel
theorem dX7_may_28 : decode cX7_may 28 = .ok (.iload_n 3, 1) := by decide +kernel
theorem dX7_may_29 : decode cX7_may 29 = .ok (.invokestatic 87, 3) := by decide +kernel
theorem dX7_may_32 : decode cX7_may 32 = .ok (.ifCond .eq 8, 3) := by decide +kernel
theorem dX7_may_35 : decode cX7_may 35 = .ok (.iload_n 2, 1) := by decide +kernel
theorem dX7_may_36 : decode cX7_may 36 = .ok (.iload_n 3, 1) := by decide +kernel
theorem dX7_may_37 : decode cX7_may 37 = .ok (.if_icmp .ne 5, 3) := by decide +kernel
theorem dX7_may_40 : decode cX7_may 40 = .ok (.iconst 2, 1) := by decide +kernel
theorem dX7_may_41 : decode cX7_may 41 = .ok (.ireturn, 1) := by decide +kernel
theorem dX7_may_42 : decode cX7_may 42 = .ok (.aload_n 0, 1) := by decide +kernel
theorem dX7_may_43 : decode cX7_may 43 = .ok (.iload_n 1, 1) := by decide +kernel
theorem dX7_may_44 : decode cX7_may 44 = .ok (.invokevirtual 159, 3) := by decide +kernel
theorem dX7_may_47 : decode cX7_may 47 = .ok (.astore 4, 2) := by decide +kernel
theorem dX7_may_49 : decode cX7_may 49 = .ok (.aload 4, 2) := by decide +kernel
theorem dX7_may_51 : decode cX7_may 51 = .ok (.iload_n 2, 1) := by decide +kernel
theorem dX7_may_52 : decode cX7_may 52 = .ok (.invokevirtual 163, 3) := by decide +kernel
theorem dX7_may_55 : decode cX7_may 55 = .ok (.ifCond .ne 5, 3) := by decide +kernel
theorem dX7_may_58 : decode cX7_may 58 = .ok (.iconst 3, 1) := by decide +kernel
theorem dX7_may_59 : decode cX7_may 59 = .ok (.ireturn, 1) := by decide +kernel
theorem dX7_may_60 : decode cX7_may 60 = .ok (.aload 4, 2) := by decide +kernel
theorem dX7_may_62 : decode cX7_may 62 = .ok (.iload_n 3, 1) := by decide +kernel
theorem dX7_may_63 : decode cX7_may 63 = .ok (.invokevirtual 166, 3) := by decide +kernel
theorem dX7_may_66 : decode cX7_may 66 = .ok (.ifCond .ne 5, 3) := by decide +kernel
theorem dX7_may_69 : decode cX7_may 69 = .ok (.iconst 4, 1) := by decide +kernel
theorem dX7_may_70 : decode cX7_may 70 = .ok (.ireturn, 1) := by decide +kernel
theorem dX7_may_71 : decode cX7_may 71 = .ok (.aload 4, 2) := by decide +kernel
theorem dX7_may_73 : decode cX7_may 73 = .ok (.getfield 169, 3) := by decide +kernel
theorem dX7_may_76 : decode cX7_may 76 = .ok (.aload_n 0, 1) := by decide +kernel
theorem dX7_may_77 : decode cX7_may 77 = .ok (.getfield 10, 3) := by decide +kernel
theorem dX7_may_80 : decode cX7_may 80 = .ok (.iconst 4, 1) := by decide +kernel
theorem dX7_may_81 : decode cX7_may 81 = .ok (.invokevirtual 116, 3) := by decide +kernel
theorem dX7_may_84 : decode cX7_may 84 = .ok (.if_icmp .lt 5, 3) := by decide +kernel
theorem dX7_may_87 : decode cX7_may 87 = .ok (.iconst 5, 1) := by decide +kernel
theorem dX7_may_88 : decode cX7_may 88 = .ok (.ireturn, 1) := by decide +kernel
theorem dX7_may_89 : decode cX7_may 89 = .ok (.aload 4, 2) := by decide +kernel
theorem dX7_may_91 : decode cX7_may 91 = .ok (.iload_n 2, 1) := by decide +kernel
theorem dX7_may_92 : decode cX7_may 92 = .ok (.iload_n 3, 1) := by decide +kernel
theorem dX7_may_93 : decode cX7_may 93 = .ok (.invokevirtual 172, 3) := by decide +kernel
theorem dX7_may_96 : decode cX7_may 96 = .ok (.ifCond .eq 7, 3) := by decide +kernel
theorem dX7_may_99 : decode cX7_may 99 = .ok (.iconst 0, 1) := by decide +kernel
theorem dX7_may_100 : decode cX7_may 100 = .ok (.goto 5, 3) := by decide +kernel
theorem dX7_may_103 : decode cX7_may 103 = .ok (.bipush 6, 2) := by decide +kernel
theorem dX7_may_105 : decode cX7_may 105 = .ok (.ireturn, 1) := by decide +kernel
theorem dX7_change_0 : decode cX7_change 0 = .ok (.aload_n 0, 1) := by decide +kernel
theorem dX7_change_1 : decode cX7_change 1 = .ok (.iload_n 1, 1) := by decide +kernel
theorem dX7_change_2 : decode cX7_change 2 = .ok (.iload_n 2, 1) := by decide +kernel
theorem dX7_change_3 : decode cX7_change 3 = .ok (.iload_n 3, 1) := by decide +kernel
theorem dX7_change_4 : decode cX7_change 4 = .ok (.invokevirtual 175, 3) := by decide +kernel
theorem dX7_change_7 : decode cX7_change 7 = .ok (.ifCond .eq 5, 3) := by decide +kernel
theorem dX7_change_10 : decode cX7_change 10 = .ok (.iconst (-1), 1) := by decide +kernel
theorem dX7_change_11 : decode cX7_change 11 = .ok (.ireturn, 1) := by decide +kernel
theorem dX7_change_12 : decode cX7_change 12 = .ok (.aload_n 0, 1) := by decide +kernel
theorem dX7_change_13 : decode cX7_change 13 = .ok (.iload_n 1, 1) := by decide +kernel
theorem dX7_change_14 : decode cX7_change 14 = .ok (.invokevirtual 159, 3) := by decide +kernel
theorem dX7_change_17 : decode cX7_change 17 = .ok (.iload_n 2, 1) := by decide +kernel
theorem dX7_change_18 : decode cX7_change 18 = .ok (.iload_n 3, 1) := by decide +kernel
theorem dX7_change_19 : decode cX7_change 19 = .ok (.invokevirtual 179, 3) := by decide +kernel
theorem dX7_change_22 : decode cX7_change 22 = .ok (.ireturn, 1) := by decide +kernel
theorem dX7_free_0 : decode cX7_free 0 = .ok (.iload_n 1, 1) := by decide +kernel
theorem dX7_free_1 : decode cX7_free 1 = .ok (.invokestatic 83, 3) := by decide +kernel
theorem dX7_free_4 : decode cX7_free 4 = .ok (.ifCond .eq 13, 3) := by decide +kernel
theorem dX7_free_7 : decode cX7_free 7 = .ok (.aload_n 0, 1) := by decide +kernel
theorem dX7_free_8 : decode cX7_free 8 = .ok (.getfield 39, 3) := by decide +kernel
theorem dX7_free_11 : decode cX7_free 11 = .ok (.getfield 102, 3) := by decide +kernel
theorem dX7_free_14 : decode cX7_free 14 = .ok (.ifCond .ne 5, 3) := by decide +kernel
theorem dX7_free_17 : decode cX7_free 17 = .ok (.iconst (-1), 1) := by decide +kernel
theorem dX7_free_18 : decode cX7_free 18 = .ok (.ireturn, 1) := by decide +kernel
theorem dX7_free_19 : decode cX7_free 19 = .ok (.aload_n 0, 1) := by decide +kernel
theorem dX7_free_20 : decode cX7_free 20 = .ok (.iload_n 1, 1) := by decide +kernel
theorem dX7_free_21 : decode cX7_free 21 = .ok (.invokevirtual 159, 3) := by decide +kernel
theorem dX7_free_24 : decode cX7_free 24 = .ok (.astore_n 3, 1) := by decide +kernel
theorem dX7_free_25 : decode cX7_free 25 = .ok (.aload_n 3, 1) := by decide +kernel
theorem dX7_free_26 : decode cX7_free 26 = .ok (.getfield 182, 3) := by decide +kernel
theorem dX7_free_29 : decode cX7_free 29 = .ok (.ifCond .ne 11, 3) := by decide +kernel
theorem dX7_free_32 : decode cX7_free 32 = .ok (.aload_n 3, 1) := by decide +kernel
theorem dX7_free_33 : decode cX7_free 33 = .ok (.getfield 185, 3) := by decide +kernel
theorem dX7_free_36 : decode cX7_free 36 = .ok (.iconst (-1), 1) := by decide +kernel
theorem dX7_free_37 : decode cX7_free 37 = .ok (.if_icmp .ne 5, 3) := by decide +kernel
theorem dX7_free_40 : decode cX7_free 40 = .ok (.iconst (-1), 1) := by decide +kernel
theorem dX7_free_41 : decode cX7_free 41 = .ok (.ireturn, 1) := by decide +kernel
theorem dX7_free_42 : decode cX7_free 42 = .ok (.iload_n 2, 1) := by decide +kernel
theorem dX7_free_43 : decode cX7_free 43 = .ok (.iconst (-1), 1) := by decide +kernel
theorem dX7_free_44 : decode cX7_free 44 = .ok (.if_icmp .ne 10, 3) := by decide +kernel
theorem dX7_free_47 : decode cX7_free 47 = .ok (.aload_n 3, 1) := by decide +kernel
theorem dX7_free_48 : decode cX7_free 48 = .ok (.invokevirtual 186, 3) := by decide +kernel
theorem dX7_free_51 : decode cX7_free 51 = .ok (.goto 8, 3) := by decide +kernel
theorem dX7_free_54 : decode cX7_free 54 = .ok (.aload_n 3, 1) := by decide +kernel
theorem dX7_free_55 : decode cX7_free 55 = .ok (.iload_n 2, 1) := by decide +kernel
theorem dX7_free_56 : decode cX7_free 56 = .ok (.invokevirtual 190, 3) := by decide +kernel
theorem dX7_free_59 : decode cX7_free 59 = .ok (.ireturn, 1) := by decide +kernel
theorem dX7_pause_0 : decode cX7_pause 0 = .ok (.iload_n 1, 1) := by decide +kernel
theorem dX7_pause_1 : decode cX7_pause 1 = .ok (.invokestatic 83, 3) := by decide +kernel
theorem dX7_pause_4 : decode cX7_pause 4 = .ok (.ifCond .eq 13, 3) := by decide +kernel
theorem dX7_pause_7 : decode cX7_pause 7 = .ok (.aload_n 0, 1) := by decide +kernel
theorem dX7_pause_8 : decode cX7_pause 8 = .ok (.getfield 39, 3) := by decide +kernel
theorem dX7_pause_11 : decode cX7_pause 11 = .ok (.getfield 102, 3) := by decide +kernel
theorem dX7_pause_14 : decode cX7_pause 14 = .ok (.ifCond .ne 5, 3) := by decide +kernel
theorem dX7_pause_17 : decode cX7_pause 17 = .ok (.iconst (-1), 1) := by decide +kernel
theorem dX7_pause_18 : decode cX7_pause 18 = .ok (.ireturn, 1) := by decide +kernel
theorem dX7_pause_19 : decode cX7_pause 19 = .ok (.aload_n 0, 1) := by decide +kernel
theorem dX7_pause_20 : decode cX7_pause 20 = .ok (.iload_n 1, 1) := by decide +kernel
theorem dX7_pause_21 : decode cX7_pause 21 = .ok (.invokevirtual 159, 3) := by decide +kernel
theorem dX7_pause_24 : decode cX7_pause 24 = .ok (.astore_n 2, 1) := by decide +kernel
theorem dX7_pause_25 : decode cX7_pause 25 = .ok (.aload_n 2, 1) := by decide +kernel
theorem dX7_pause_26 : decode cX7_pause 26 = .ok (.getfield 193, 3) := by decide +kernel
theorem dX7_pause_29 : decode cX7_pause 29 = .ok (.aload_n 0, 1) := by decide +kernel
theorem dX7_pause_30 : decode cX7_pause 30 = .ok (.getfield 10, 3) := by decide +kernel
theorem dX7_pause_33 : decode cX7_pause 33 = .ok (.iconst 5, 1) := by decide +kernel
theorem dX7_pause_34 : decode cX7_pause 34 = .ok (.invokevirtual 116, 3) := by decide +kernel
theorem dX7_pause_37 : decode cX7_pause 37 = .ok (.if_icmp .lt 5, 3) := by decide +kernel
theorem dX7_pause_40 : decode cX7_pause 40 = .ok (.iconst (-1), 1) := by decide +kernel
theorem dX7_pause_41 : decode cX7_pause 41 = .ok (.ireturn, 1) := by decide +kernel
theorem dX7_pause_42 : decode cX7_pause 42 = .ok (.aload_n 2, 1) := by decide +kernel
theorem dX7_pause_43 : decode cX7_pause 43 = .ok (.dup, 1) := by decide +kernel
theorem dX7_pause_44 : decode cX7_pause 44 = .ok (.getfield 193, 3) := by decide +kernel
theorem dX7_pause_47 : decode cX7_pause 47 = .ok (.iconst 1, 1) := by decide +kernel
theorem dX7_pause_48 : decode cX7_pause 48 = .ok (.iadd, 1) := by decide +kernel
theorem dX7_pause_49 : decode cX7_pause 49 = .ok (.putfield 193, 3) := by decide +kernel
theorem dX7_pause_52 : decode cX7_pause 52 = .ok (.aload_n 2, 1) := by decide +kernel
theorem dX7_pause_53 : decode cX7_pause 53 = .ok (.getfield 193, 3) := by decide +kernel
theorem dX7_pause_56 : decode cX7_pause 56 = .ok (.ireturn, 1) := by decide +kernel
theorem dX7_wrong_0 : decode cX7_wrong 0 = .ok (.aload_n 0, 1) := by decide +kernel
theorem dX7_wrong_1 : decode cX7_wrong 1 = .ok (.getfield 39, 3) := by decide +kernel
theorem dX7_wrong_4 : decode cX7_wrong 4 = .ok (.getfield 102, 3) := by decide +kernel
theorem dX7_wrong_7 : decode cX7_wrong 7 = .ok (.ifCond .eq 18, 3) := by decide +kernel
theorem dX7_wrong_10 : decode cX7_wrong 10 = .ok (.iload_n 1, 1) := by decide +kernel
theorem dX7_wrong_11 : decode cX7_wrong 11 = .ok (.ifCond .lt 14, 3) := by decide +kernel
theorem dX7_wrong_14 : decode cX7_wrong 14 = .ok (.iload_n 1, 1) := by decide +kernel
theorem dX7_wrong_15 : decode cX7_wrong 15 = .ok (.aload_n 0, 1) := by decide +kernel
theorem dX7_wrong_16 : decode cX7_wrong 16 = .ok (.getfield 39, 3) := by decide +kernel
theorem dX7_wrong_19 : decode cX7_wrong 19 = .ok (.getfield 196, 3) := by decide +kernel
theorem dX7_wrong_22 : decode cX7_wrong 22 = .ok (.if_icmp .le 5, 3) := by decide +kernel
theorem dX7_wrong_25 : decode cX7_wrong 25 = .ok (.iconst (-1), 1) := by decide +kernel
theorem dX7_wrong_26 : decode cX7_wrong 26 = .ok (.ireturn, 1) := by decide +kernel
theorem dX7_wrong_27 : decode cX7_wrong 27 = .ok (.aload_n 0, 1) := by decide +kernel
theorem dX7_wrong_28 : decode cX7_wrong 28 = .ok (.aload_n 0, 1) := by decide +kernel
theorem dX7_wrong_29 : decode cX7_wrong 29 = .ok (.getfield 39, 3) := by decide +kernel
theorem dX7_wrong_32 : decode cX7_wrong 32 = .ok (.getfield 199, 3) := by decide +kernel
theorem dX7_wrong_35 : decode cX7_wrong 35 = .ok (.invokevirtual 159, 3) := by decide +kernel
theorem dX7_wrong_38 : decode cX7_wrong 38 = .ok (.dup, 1) := by decide +kernel
theorem dX7_wrong_39 : decode cX7_wrong 39 = .ok (.getfield 202, 3) := by decide +kernel
theorem dX7_wrong_42 : decode cX7_wrong 42 = .ok (.iload_n 1, 1) := by decide +kernel
theorem dX7_wrong_43 : decode cX7_wrong 43 = .ok (.isub, 1) := by decide +kernel
theorem dX7_wrong_44 : decode cX7_wrong 44 = .ok (.putfield 202, 3) := by decide +kernel
theorem dX7_wrong_47 : decode cX7_wrong 47 = .ok (.aload_n 0, 1) := by decide +kernel
theorem dX7_wrong_48 : decode cX7_wrong 48 = .ok (.iconst 1, 1) := by decide +kernel
theorem dX7_wrong_49 : decode cX7_wrong 49 = .ok (.aload_n 0, 1) := by decide +kernel
theorem dX7_wrong_50 : decode cX7_wrong 50 = .ok (.getfield 39, 3) := by decide +kernel
theorem dX7_wrong_53 : decode cX7_wrong 53 = .ok (.getfield 199, 3) := by decide +kernel
theorem dX7_wrong_56 : decode cX7_wrong 56 = .ok (.isub, 1) := by decide +kernel
theorem dX7_wrong_57 : decode cX7_wrong 57 = .ok (.invokevirtual 156, 3) := by decide +kernel
theorem dX7_wrong_60 : decode cX7_wrong 60 = .ok (.ireturn, 1) := by decide +kernel
theorem dX7_at_0 : decode cX7_at 0 = .ok (.iload_n 1, 1) := by decide +kernel
theorem dX7_at_1 : decode cX7_at 1 = .ok (.invokestatic 83, 3) := by decide +kernel
theorem dX7_at_4 : decode cX7_at 4 = .ok (.ifCond .eq 24, 3) := by decide +kernel
theorem dX7_at_7 : decode cX7_at 7 = .ok (.iload_n 2, 1) := by decide +kernel
theorem dX7_at_8 : decode cX7_at 8 = .ok (.ifCond .lt 20, 3) := by decide +kernel
theorem dX7_at_11 : decode cX7_at 11 = .ok (.iload_n 2, 1) := by decide +kernel
theorem dX7_at_12 : decode cX7_at 12 = .ok (.bipush 6, 2) := by decide +kernel
theorem dX7_at_14 : decode cX7_at 14 = .ok (.if_icmp .ge 14, 3) := by decide +kernel
theorem dX7_at_17 : decode cX7_at 17 = .ok (.aload_n 0, 1) := by decide +kernel
theorem dX7_at_18 : decode cX7_at 18 = .ok (.getfield 39, 3) := by decide +kernel
theorem dX7_at_21 : decode cX7_at 21 = .ok (.getfield 109, 3) := by decide +kernel
theorem dX7_at_24 : decode cX7_at 24 = .ok (.iconst (-1), 1) := by decide +kernel
theorem dX7_at_25 : decode cX7_at 25 = .ok (.if_icmp .ne 5, 3) := by decide +kernel
theorem dX7_at_28 : decode cX7_at 28 = .ok (.iconst (-1), 1) := by decide +kernel
theorem dX7_at_29 : decode cX7_at 29 = .ok (.ireturn, 1) := by decide +kernel
theorem dX7_at_30 : decode cX7_at 30 = .ok (.aload_n 0, 1) := by decide +kernel
theorem dX7_at_31 : decode cX7_at 31 = .ok (.iload_n 1, 1) := by decide +kernel
theorem dX7_at_32 : decode cX7_at 32 = .ok (.invokevirtual 159, 3) := by decide +kernel
theorem dX7_at_35 : decode cX7_at 35 = .ok (.iload_n 2, 1) := by decide +kernel
theorem dX7_at_36 : decode cX7_at 36 = .ok (.invokevirtual 205, 3) := by decide +kernel
theorem dX7_at_39 : decode cX7_at 39 = .ok (.ireturn, 1) := by decide +kernel
theorem dX7_of_0 : decode cX7_of 0 = .ok (.iload_n 1, 1) := by decide +kernel
theorem dX7_of_1 : decode cX7_of 1 = .ok (.invokestatic 83, 3) := by decide +kernel
theorem dX7_of_4 : decode cX7_of 4 = .ok (.ifCond .ne 5, 3) := by decide +kernel
theorem dX7_of_7 : decode cX7_of 7 = .ok (.iconst (-1), 1) := by decide +kernel
theorem dX7_of_8 : decode cX7_of 8 = .ok (.ireturn, 1) := by decide +kernel
theorem dX7_of_9 : decode cX7_of 9 = .ok (.aload_n 0, 1) := by decide +kernel
theorem dX7_of_10 : decode cX7_of 10 = .ok (.iload_n 1, 1) := by decide +kernel
theorem dX7_of_11 : decode cX7_of 11 = .ok (.invokevirtual 159, 3) := by decide +kernel
theorem dX7_of_14 : decode cX7_of 14 = .ok (.astore_n 3, 1) := by decide +kernel
theorem dX7_of_15 : decode cX7_of 15 = .ok (.iload_n 2, 1) := by decide +kernel
theorem dX7_of_16 : decode cX7_of 16 = .ok (.tableswitch 97 0 6 #[44, 49, 54, 59, 64, 69, 92], 44) := by decide +kernel
theorem dX7_of_60 : decode cX7_of 60 = .ok (.aload_n 3, 1) := by decide +kernel
theorem dX7_of_61 : decode cX7_of 61 = .ok (.getfield 202, 3) := by decide +kernel
theorem dX7_of_64 : decode cX7_of 64 = .ok (.ireturn, 1) := by decide +kernel
theorem dX7_of_65 : decode cX7_of 65 = .ok (.aload_n 3, 1) := by decide +kernel
theorem dX7_of_66 : decode cX7_of 66 = .ok (.getfield 208, 3) := by decide +kernel
theorem dX7_of_69 : decode cX7_of 69 = .ok (.ireturn, 1) := by decide +kernel
theorem dX7_of_70 : decode cX7_of 70 = .ok (.aload_n 3, 1) := by decide +kernel
theorem dX7_of_71 : decode cX7_of 71 = .ok (.getfield 169, 3) := by decide +kernel
theorem dX7_of_74 : decode cX7_of 74 = .ok (.ireturn, 1) := by decide +kernel
theorem dX7_of_75 : decode cX7_of 75 = .ok (.aload_n 3, 1) := by decide +kernel
theorem dX7_of_76 : decode cX7_of 76 = .ok (.getfield 193, 3) := by decide +kernel
theorem dX7_of_79 : decode cX7_of 79 = .ok (.ireturn, 1) := by decide +kernel
theorem dX7_of_80 : decode cX7_of 80 = .ok (.aload_n 3, 1) := by decide +kernel
theorem dX7_of_81 : decode cX7_of 81 = .ok (.invokevirtual 211, 3) := by decide +kernel
theorem dX7_of_84 : decode cX7_of 84 = .ok (.ireturn, 1) := by decide +kernel
theorem dX7_of_85 : decode cX7_of 85 = .ok (.iload_n 1, 1) := by decide +kernel
theorem dX7_of_86 : decode cX7_of 86 = .ok (.aload_n 0, 1) := by decide +kernel
theorem dX7_of_87 : decode cX7_of 87 = .ok (.getfield 39, 3) := by decide +kernel
theorem dX7_of_90 : decode cX7_of 90 = .ok (.getfield 199, 3) := by decide +kernel
theorem dX7_of_93 : decode cX7_of 93 = .ok (.if_icmp .ne 13, 3) := by decide +kernel
theorem dX7_of_96 : decode cX7_of 96 = .ok (.aload_n 0, 1) := by decide +kernel
theorem dX7_of_97 : decode cX7_of 97 = .ok (.getfield 39, 3) := by decide +kernel
theorem dX7_of_100 : decode cX7_of 100 = .ok (.getfield 196, 3) := by decide +kernel
theorem dX7_of_103 : decode cX7_of 103 = .ok (.goto 4, 3) := by decide +kernel
theorem dX7_of_106 : decode cX7_of 106 = .ok (.iconst 0, 1) := by decide +kernel
theorem dX7_of_107 : decode cX7_of 107 = .ok (.ireturn, 1) := by decide +kernel
theorem dX7_of_108 : decode cX7_of 108 = .ok (.aload_n 3, 1) := by decide +kernel
theorem dX7_of_109 : decode cX7_of 109 = .ok (.getfield 214, 3) := by decide +kernel
theorem dX7_of_112 : decode cX7_of 112 = .ok (.ireturn, 1) := by decide +kernel
theorem dX7_of_113 : decode cX7_of 113 = .ok (.iconst (-1), 1) := by decide +kernel
theorem dX7_of_114 : decode cX7_of 114 = .ok (.ireturn, 1) := by decide +kernel
theorem dX7_count_0 : decode cX7_count 0 = .ok (.iload_n 1, 1) := by decide +kernel
theorem dX7_count_1 : decode cX7_count 1 = .ok (.tableswitch 130 0 7 #[47, 55, 71, 93, 101, 109, 114, 122], 47) := by decide +kernel
theorem dX7_count_48 : decode cX7_count 48 = .ok (.aload_n 0, 1) := by decide +kernel
theorem dX7_count_49 : decode cX7_count 49 = .ok (.getfield 39, 3) := by decide +kernel
theorem dX7_count_52 : decode cX7_count 52 = .ok (.getfield 109, 3) := by decide +kernel
theorem dX7_count_55 : decode cX7_count 55 = .ok (.ireturn, 1) := by decide +kernel
theorem dX7_count_56 : decode cX7_count 56 = .ok (.aload_n 0, 1) := by decide +kernel
theorem dX7_count_57 : decode cX7_count 57 = .ok (.getfield 39, 3) := by decide +kernel
theorem dX7_count_60 : decode cX7_count 60 = .ok (.getfield 102, 3) := by decide +kernel
theorem dX7_count_63 : decode cX7_count 63 = .ok (.ifCond .eq 7, 3) := by decide +kernel
theorem dX7_count_66 : decode cX7_count 66 = .ok (.iconst 1, 1) := by decide +kernel
theorem dX7_count_67 : decode cX7_count 67 = .ok (.goto 4, 3) := by decide +kernel
theorem dX7_count_70 : decode cX7_count 70 = .ok (.iconst 0, 1) := by decide +kernel
theorem dX7_count_71 : decode cX7_count 71 = .ok (.ireturn, 1) := by decide +kernel
theorem dX7_count_72 : decode cX7_count 72 = .ok (.aload_n 0, 1) := by decide +kernel
theorem dX7_count_73 : decode cX7_count 73 = .ok (.getfield 39, 3) := by decide +kernel
theorem dX7_count_76 : decode cX7_count 76 = .ok (.getfield 102, 3) := by decide +kernel
theorem dX7_count_79 : decode cX7_count 79 = .ok (.ifCond .eq 13, 3) := by decide +kernel
theorem dX7_count_82 : decode cX7_count 82 = .ok (.aload_n 0, 1) := by decide +kernel
theorem dX7_count_83 : decode cX7_count 83 = .ok (.getfield 39, 3) := by decide +kernel
theorem dX7_count_86 : decode cX7_count 86 = .ok (.getfield 199, 3) := by decide +kernel
theorem dX7_count_89 : decode cX7_count 89 = .ok (.goto 4, 3) := by decide +kernel
theorem dX7_count_92 : decode cX7_count 92 = .ok (.iconst (-1), 1) := by decide +kernel
theorem dX7_count_93 : decode cX7_count 93 = .ok (.ireturn, 1) := by decide +kernel
theorem dX7_count_94 : decode cX7_count 94 = .ok (.aload_n 0, 1) := by decide +kernel
theorem dX7_count_95 : decode cX7_count 95 = .ok (.getfield 39, 3) := by decide +kernel
theorem dX7_count_98 : decode cX7_count 98 = .ok (.getfield 217, 3) := by decide +kernel
theorem dX7_count_101 : decode cX7_count 101 = .ok (.ireturn, 1) := by decide +kernel
theorem dX7_count_102 : decode cX7_count 102 = .ok (.aload_n 0, 1) := by decide +kernel
theorem dX7_count_103 : decode cX7_count 103 = .ok (.getfield 39, 3) := by decide +kernel
theorem dX7_count_106 : decode cX7_count 106 = .ok (.getfield 124, 3) := by decide +kernel
theorem dX7_count_109 : decode cX7_count 109 = .ok (.ireturn, 1) := by decide +kernel
theorem dX7_count_110 : decode cX7_count 110 = .ok (.aload_n 0, 1) := by decide +kernel
theorem dX7_count_111 : decode cX7_count 111 = .ok (.getfield 76, 3) := by decide +kernel
theorem dX7_count_114 : decode cX7_count 114 = .ok (.ireturn, 1) := by decide +kernel
theorem dX7_count_115 : decode cX7_count 115 = .ok (.aload_n 0, 1) := by decide +kernel
theorem dX7_count_116 : decode cX7_count 116 = .ok (.getfield 65, 3) := by decide +kernel
theorem dX7_count_119 : decode cX7_count 119 = .ok (.getfield 220, 3) := by decide +kernel
theorem dX7_count_122 : decode cX7_count 122 = .ok (.ireturn, 1) := by decide +kernel
theorem dX7_count_123 : decode cX7_count 123 = .ok (.aload_n 0, 1) := by decide +kernel
theorem dX7_count_124 : decode cX7_count 124 = .ok (.getfield 39, 3) := by decide +kernel
theorem dX7_count_127 : decode cX7_count 127 = .ok (.getfield 223, 3) := by decide +kernel
theorem dX7_count_130 : decode cX7_count 130 = .ok (.ireturn, 1) := by decide +kernel
theorem dX7_count_131 : decode cX7_count 131 = .ok (.iconst (-1), 1) := by decide +kernel
theorem dX7_count_132 : decode cX7_count 132 = .ok (.ireturn, 1) := by decide +kernel
theorem dX7_served_0 : decode cX7_served 0 = .ok (.iload_n 1, 1) := by decide +kernel
theorem dX7_served_1 : decode cX7_served 1 = .ok (.invokestatic 83, 3) := by decide +kernel
theorem dX7_served_4 : decode cX7_served 4 = .ok (.ifCond .eq 10, 3) := by decide +kernel
theorem dX7_served_7 : decode cX7_served 7 = .ok (.iload_n 2, 1) := by decide +kernel
theorem dX7_served_8 : decode cX7_served 8 = .ok (.invokestatic 87, 3) := by decide +kernel
theorem dX7_served_11 : decode cX7_served 11 = .ok (.ifCond .ne 5, 3) := by decide +kernel
theorem dX7_served_14 : decode cX7_served 14 = .ok (.iconst (-1), 1) := by decide +kernel
theorem dX7_served_15 : decode cX7_served 15 = .ok (.ireturn, 1) := by decide +kernel
theorem dX7_served_16 : decode cX7_served 16 = .ok (.aload_n 0, 1) := by decide +kernel
theorem dX7_served_17 : decode cX7_served 17 = .ok (.iload_n 1, 1) := by decide +kernel
theorem dX7_served_18 : decode cX7_served 18 = .ok (.invokevirtual 159, 3) := by decide +kernel
theorem dX7_served_21 : decode cX7_served 21 = .ok (.getfield 226, 3) := by decide +kernel
theorem dX7_served_24 : decode cX7_served 24 = .ok (.iload_n 2, 1) := by decide +kernel
theorem dX7_served_25 : decode cX7_served 25 = .ok (.iaload, 1) := by decide +kernel
theorem dX7_served_26 : decode cX7_served 26 = .ok (.ireturn, 1) := by decide +kernel
theorem dX7_feet_0 : decode cX7_feet 0 = .ok (.iload_n 1, 1) := by decide +kernel
theorem dX7_feet_1 : decode cX7_feet 1 = .ok (.invokestatic 83, 3) := by decide +kernel
theorem dX7_feet_4 : decode cX7_feet 4 = .ok (.ifCond .eq 23, 3) := by decide +kernel
theorem dX7_feet_7 : decode cX7_feet 7 = .ok (.iload_n 2, 1) := by decide +kernel
theorem dX7_feet_8 : decode cX7_feet 8 = .ok (.ifCond .lt 19, 3) := by decide +kernel
theorem dX7_feet_11 : decode cX7_feet 11 = .ok (.iload_n 2, 1) := by decide +kernel
theorem dX7_feet_12 : decode cX7_feet 12 = .ok (.bipush 6, 2) := by decide +kernel
theorem dX7_feet_14 : decode cX7_feet 14 = .ok (.if_icmp .ge 13, 3) := by decide +kernel
theorem dX7_feet_17 : decode cX7_feet 17 = .ok (.aload_n 0, 1) := by decide +kernel
theorem dX7_feet_18 : decode cX7_feet 18 = .ok (.getfield 39, 3) := by decide +kernel
theorem dX7_feet_21 : decode cX7_feet 21 = .ok (.getfield 102, 3) := by decide +kernel
theorem dX7_feet_24 : decode cX7_feet 24 = .ok (.ifCond .ne 5, 3) := by decide +kernel
theorem dX7_feet_27 : decode cX7_feet 27 = .ok (.iconst 0, 1) := by decide +kernel
theorem dX7_feet_28 : decode cX7_feet 28 = .ok (.ireturn, 1) := by decide +kernel
theorem dX7_feet_29 : decode cX7_feet 29 = .ok (.iload_n 3, 1) := by decide +kernel
theorem dX7_feet_30 : decode cX7_feet 30 = .ok (.ifCond .lt 23, 3) := by decide +kernel
theorem dX7_feet_33 : decode cX7_feet 33 = .ok (.iload_n 3, 1) := by decide +kernel
theorem dX7_feet_34 : decode cX7_feet 34 = .ok (.sipush 999, 3) := by decide +kernel
theorem dX7_feet_37 : decode cX7_feet 37 = .ok (.if_icmp .gt 16, 3) := by decide +kernel
theorem dX7_feet_40 : decode cX7_feet 40 = .ok (.iload 4, 2) := by decide +kernel
theorem dX7_feet_42 : decode cX7_feet 42 = .ok (.ifCond .lt 11, 3) := by decide +kernel
theorem dX7_feet_45 : decode cX7_feet 45 = .ok (.iload 4, 2) := by decide +kernel
theorem dX7_feet_47 : decode cX7_feet 47 = .ok (.sipush 999, 3) := by decide +kernel
theorem dX7_feet_50 : decode cX7_feet 50 = .ok (.if_icmp .le 5, 3) := by decide +kernel
theorem dX7_feet_53 : decode cX7_feet 53 = .ok (.iconst 0, 1) := by decide +kernel
theorem dX7_feet_54 : decode cX7_feet 54 = .ok (.ireturn, 1) := by decide +kernel
theorem dX7_feet_55 : decode cX7_feet 55 = .ok (.aload_n 0, 1) := by decide +kernel
theorem dX7_feet_56 : decode cX7_feet 56 = .ok (.iload_n 1, 1) := by decide +kernel
theorem dX7_feet_57 : decode cX7_feet 57 = .ok (.invokevirtual 230, 3) := by decide +kernel
theorem dX7_feet_60 : decode cX7_feet 60 = .ok (.iload_n 2, 1) := by decide +kernel
theorem dX7_feet_61 : decode cX7_feet 61 = .ok (.iload_n 3, 1) := by decide +kernel
theorem dX7_feet_62 : decode cX7_feet 62 = .ok (.iload 4, 2) := by decide +kernel
theorem dX7_feet_64 : decode cX7_feet 64 = .ok (.invokevirtual 234, 3) := by decide +kernel
theorem dX7_feet_67 : decode cX7_feet 67 = .ok (.iconst 1, 1) := by decide +kernel
theorem dX7_feet_68 : decode cX7_feet 68 = .ok (.ireturn, 1) := by decide +kernel
theorem dX7_overlap_0 : decode cX7_overlap 0 = .ok (.iload_n 1, 1) := by decide +kernel
theorem dX7_overlap_1 : decode cX7_overlap 1 = .ok (.invokestatic 83, 3) := by decide +kernel
theorem dX7_overlap_4 : decode cX7_overlap 4 = .ok (.ifCond .eq 13, 3) := by decide +kernel
theorem dX7_overlap_7 : decode cX7_overlap 7 = .ok (.aload_n 0, 1) := by decide +kernel
theorem dX7_overlap_8 : decode cX7_overlap 8 = .ok (.getfield 39, 3) := by decide +kernel
theorem dX7_overlap_11 : decode cX7_overlap 11 = .ok (.getfield 102, 3) := by decide +kernel
theorem dX7_overlap_14 : decode cX7_overlap 14 = .ok (.ifCond .ne 5, 3) := by decide +kernel
theorem dX7_overlap_17 : decode cX7_overlap 17 = .ok (.iconst (-1), 1) := by decide +kernel
theorem dX7_overlap_18 : decode cX7_overlap 18 = .ok (.ireturn, 1) := by decide +kernel
theorem dX7_overlap_19 : decode cX7_overlap 19 = .ok (.aload_n 0, 1) := by decide +kernel
theorem dX7_overlap_20 : decode cX7_overlap 20 = .ok (.iload_n 1, 1) := by decide +kernel
theorem dX7_overlap_21 : decode cX7_overlap 21 = .ok (.invokevirtual 230, 3) := by decide +kernel
theorem dX7_overlap_24 : decode cX7_overlap 24 = .ok (.iload_n 1, 1) := by decide +kernel
theorem dX7_overlap_25 : decode cX7_overlap 25 = .ok (.aload_n 0, 1) := by decide +kernel
theorem dX7_overlap_26 : decode cX7_overlap 26 = .ok (.getfield 39, 3) := by decide +kernel
theorem dX7_overlap_29 : decode cX7_overlap 29 = .ok (.getfield 199, 3) := by decide +kernel
theorem dX7_overlap_32 : decode cX7_overlap 32 = .ok (.if_icmp .ne 7, 3) := by decide +kernel
theorem dX7_overlap_35 : decode cX7_overlap 35 = .ok (.iconst 1, 1) := by decide +kernel
theorem dX7_overlap_36 : decode cX7_overlap 36 = .ok (.goto 4, 3) := by decide +kernel
theorem dX7_overlap_39 : decode cX7_overlap 39 = .ok (.iconst 0, 1) := by decide +kernel
theorem dX7_overlap_40 : decode cX7_overlap 40 = .ok (.invokevirtual 237, 3) := by decide +kernel
theorem dX7_overlap_43 : decode cX7_overlap 43 = .ok (.ireturn, 1) := by decide +kernel
theorem dX7_sign_0 : decode cX7_sign 0 = .ok (.aload_n 0, 1) := by decide +kernel
theorem dX7_sign_1 : decode cX7_sign 1 = .ok (.getfield 65, 3) := by decide +kernel
theorem dX7_sign_4 : decode cX7_sign 4 = .ok (.getfield 220, 3) := by decide +kernel
theorem dX7_sign_7 : decode cX7_sign 7 = .ok (.iconst 4, 1) := by decide +kernel
theorem dX7_sign_8 : decode cX7_sign 8 = .ok (.iadd, 1) := by decide +kernel
theorem dX7_sign_9 : decode cX7_sign 9 = .ok (.bipush 100, 2) := by decide +kernel
theorem dX7_sign_11 : decode cX7_sign 11 = .ok (.if_icmp .le 5, 3) := by decide +kernel
theorem dX7_sign_14 : decode cX7_sign 14 = .ok (.iconst (-1), 1) := by decide +kernel
theorem dX7_sign_15 : decode cX7_sign 15 = .ok (.ireturn, 1) := by decide +kernel
theorem dX7_sign_16 : decode cX7_sign 16 = .ok (.aload_n 0, 1) := by decide +kernel
theorem dX7_sign_17 : decode cX7_sign 17 = .ok (.getfield 65, 3) := by decide +kernel
theorem dX7_sign_20 : decode cX7_sign 20 = .ok (.iload_n 1, 1) := by decide +kernel
theorem dX7_sign_21 : decode cX7_sign 21 = .ok (.bipush 24, 2) := by decide +kernel
theorem dX7_sign_23 : decode cX7_sign 23 = .ok (.iushr, 1) := by decide +kernel
theorem dX7_sign_24 : decode cX7_sign 24 = .ok (.sipush 255, 3) := by decide +kernel
theorem dX7_sign_27 : decode cX7_sign 27 = .ok (.iand, 1) := by decide +kernel
theorem dX7_sign_28 : decode cX7_sign 28 = .ok (.i2c, 1) := by decide +kernel
theorem dX7_sign_29 : decode cX7_sign 29 = .ok (.invokevirtual 241, 3) := by decide +kernel
theorem dX7_sign_32 : decode cX7_sign 32 = .ok (.aload_n 0, 1) := by decide +kernel
theorem dX7_sign_33 : decode cX7_sign 33 = .ok (.getfield 65, 3) := by decide +kernel
theorem dX7_sign_36 : decode cX7_sign 36 = .ok (.iload_n 1, 1) := by decide +kernel
theorem dX7_sign_37 : decode cX7_sign 37 = .ok (.bipush 16, 2) := by decide +kernel
theorem dX7_sign_39 : decode cX7_sign 39 = .ok (.iushr, 1) := by decide +kernel
theorem dX7_sign_40 : decode cX7_sign 40 = .ok (.sipush 255, 3) := by decide +kernel
theorem dX7_sign_43 : decode cX7_sign 43 = .ok (.iand, 1) := by decide +kernel
theorem dX7_sign_44 : decode cX7_sign 44 = .ok (.i2c, 1) := by decide +kernel
theorem dX7_sign_45 : decode cX7_sign 45 = .ok (.invokevirtual 241, 3) := by decide +kernel
theorem dX7_sign_48 : decode cX7_sign 48 = .ok (.aload_n 0, 1) := by decide +kernel
theorem dX7_sign_49 : decode cX7_sign 49 = .ok (.getfield 65, 3) := by decide +kernel
theorem dX7_sign_52 : decode cX7_sign 52 = .ok (.iload_n 1, 1) := by decide +kernel
theorem dX7_sign_53 : decode cX7_sign 53 = .ok (.bipush 8, 2) := by decide +kernel
theorem dX7_sign_55 : decode cX7_sign 55 = .ok (.iushr, 1) := by decide +kernel
theorem dX7_sign_56 : decode cX7_sign 56 = .ok (.sipush 255, 3) := by decide +kernel
theorem dX7_sign_59 : decode cX7_sign 59 = .ok (.iand, 1) := by decide +kernel
theorem dX7_sign_60 : decode cX7_sign 60 = .ok (.i2c, 1) := by decide +kernel
theorem dX7_sign_61 : decode cX7_sign 61 = .ok (.invokevirtual 241, 3) := by decide +kernel
theorem dX7_sign_64 : decode cX7_sign 64 = .ok (.aload_n 0, 1) := by decide +kernel
theorem dX7_sign_65 : decode cX7_sign 65 = .ok (.getfield 65, 3) := by decide +kernel
theorem dX7_sign_68 : decode cX7_sign 68 = .ok (.iload_n 1, 1) := by decide +kernel
theorem dX7_sign_69 : decode cX7_sign 69 = .ok (.sipush 255, 3) := by decide +kernel
theorem dX7_sign_72 : decode cX7_sign 72 = .ok (.iand, 1) := by decide +kernel
theorem dX7_sign_73 : decode cX7_sign 73 = .ok (.i2c, 1) := by decide +kernel
theorem dX7_sign_74 : decode cX7_sign 74 = .ok (.invokevirtual 241, 3) := by decide +kernel
theorem dX7_sign_77 : decode cX7_sign 77 = .ok (.aload_n 0, 1) := by decide +kernel
theorem dX7_sign_78 : decode cX7_sign 78 = .ok (.getfield 65, 3) := by decide +kernel
theorem dX7_sign_81 : decode cX7_sign 81 = .ok (.getfield 220, 3) := by decide +kernel
theorem dX7_sign_84 : decode cX7_sign 84 = .ok (.ireturn, 1) := by decide +kernel
theorem dX7_end_0 : decode cX7_end 0 = .ok (.iload_n 1, 1) := by decide +kernel
theorem dX7_end_1 : decode cX7_end 1 = .ok (.ifCond .lt 14, 3) := by decide +kernel
theorem dX7_end_4 : decode cX7_end 4 = .ok (.iload_n 1, 1) := by decide +kernel
theorem dX7_end_5 : decode cX7_end 5 = .ok (.aload_n 0, 1) := by decide +kernel
theorem dX7_end_6 : decode cX7_end 6 = .ok (.getfield 65, 3) := by decide +kernel
theorem dX7_end_9 : decode cX7_end 9 = .ok (.getfield 220, 3) := by decide +kernel
theorem dX7_end_12 : decode cX7_end 12 = .ok (.if_icmp .le 5, 3) := by decide +kernel
theorem dX7_end_15 : decode cX7_end 15 = .ok (.iconst 0, 1) := by decide +kernel
theorem dX7_end_16 : decode cX7_end 16 = .ok (.ireturn, 1) := by decide +kernel
theorem dX7_end_17 : decode cX7_end 17 = .ok (.aload_n 0, 1) := by decide +kernel
theorem dX7_end_18 : decode cX7_end 18 = .ok (.getfield 65, 3) := by decide +kernel
theorem dX7_end_21 : decode cX7_end 21 = .ok (.iload_n 1, 1) := by decide +kernel
theorem dX7_end_22 : decode cX7_end 22 = .ok (.putfield 220, 3) := by decide +kernel
theorem dX7_end_25 : decode cX7_end 25 = .ok (.iconst 1, 1) := by decide +kernel
theorem dX7_end_26 : decode cX7_end 26 = .ok (.ireturn, 1) := by decide +kernel
theorem dX7_sheet_0 : decode cX7_sheet 0 = .ok (.aload_n 0, 1) := by decide +kernel
theorem dX7_sheet_1 : decode cX7_sheet 1 = .ok (.getfield 65, 3) := by decide +kernel
theorem dX7_sheet_4 : decode cX7_sheet 4 = .ok (.getfield 220, 3) := by decide +kernel
theorem dX7_sheet_7 : decode cX7_sheet 7 = .ok (.istore_n 1, 1) := by decide +kernel
theorem dX7_sheet_8 : decode cX7_sheet 8 = .ok (.aload_n 0, 1) := by decide +kernel
theorem dX7_sheet_9 : decode cX7_sheet 9 = .ok (.getfield 65, 3) := by decide +kernel
theorem dX7_sheet_12 : decode cX7_sheet 12 = .ok (.iconst 0, 1) := by decide +kernel
theorem dX7_sheet_13 : decode cX7_sheet 13 = .ok (.putfield 220, 3) := by decide +kernel
theorem dX7_sheet_16 : decode cX7_sheet 16 = .ok (.aload_n 0, 1) := by decide +kernel
theorem dX7_sheet_17 : decode cX7_sheet 17 = .ok (.getfield 39, 3) := by decide +kernel
theorem dX7_sheet_20 : decode cX7_sheet 20 = .ok (.getfield 102, 3) := by decide +kernel
theorem dX7_sheet_23 : decode cX7_sheet 23 = .ok (.ifCond .ne 6, 3) := by decide +kernel
theorem dX7_sheet_26 : decode cX7_sheet 26 = .ok (.bipush (-100), 2) := by decide +kernel
theorem dX7_sheet_28 : decode cX7_sheet 28 = .ok (.ireturn, 1) := by decide +kernel
theorem dX7_sheet_29 : decode cX7_sheet 29 = .ok (.aload_n 0, 1) := by decide +kernel
theorem dX7_sheet_30 : decode cX7_sheet 30 = .ok (.getfield 65, 3) := by decide +kernel
theorem dX7_sheet_33 : decode cX7_sheet 33 = .ok (.iload_n 1, 1) := by decide +kernel
theorem dX7_sheet_34 : decode cX7_sheet 34 = .ok (.invokevirtual 245, 3) := by decide +kernel
theorem dX7_sheet_37 : decode cX7_sheet 37 = .ok (.istore_n 2, 1) := by decide +kernel
theorem dX7_sheet_38 : decode cX7_sheet 38 = .ok (.iload_n 2, 1) := by decide +kernel
theorem dX7_sheet_39 : decode cX7_sheet 39 = .ok (.iconst (-1), 1) := by decide +kernel
theorem dX7_sheet_40 : decode cX7_sheet 40 = .ok (.if_icmp .eq 7, 3) := by decide +kernel
theorem dX7_sheet_43 : decode cX7_sheet 43 = .ok (.iconst (-1), 1) := by decide +kernel
theorem dX7_sheet_44 : decode cX7_sheet 44 = .ok (.iload_n 2, 1) := by decide +kernel
theorem dX7_sheet_45 : decode cX7_sheet 45 = .ok (.isub, 1) := by decide +kernel
theorem dX7_sheet_46 : decode cX7_sheet 46 = .ok (.ireturn, 1) := by decide +kernel
theorem dX7_sheet_47 : decode cX7_sheet 47 = .ok (.aload_n 0, 1) := by decide +kernel
theorem dX7_sheet_48 : decode cX7_sheet 48 = .ok (.iload_n 1, 1) := by decide +kernel
theorem dX7_sheet_49 : decode cX7_sheet 49 = .ok (.invokevirtual 248, 3) := by decide +kernel
theorem dX7_sheet_52 : decode cX7_sheet 52 = .ok (.ireturn, 1) := by decide +kernel
theorem dX7_odds_0 : decode cX7_odds 0 = .ok (.iload_n 3, 1) := by decide +kernel
theorem dX7_odds_1 : decode cX7_odds 1 = .ok (.invokestatic 83, 3) := by decide +kernel
theorem dX7_odds_4 : decode cX7_odds 4 = .ok (.ifCond .eq 33, 3) := by decide +kernel
theorem dX7_odds_7 : decode cX7_odds 7 = .ok (.iload_n 1, 1) := by decide +kernel
theorem dX7_odds_8 : decode cX7_odds 8 = .ok (.ifCond .lt 29, 3) := by decide +kernel
theorem dX7_odds_11 : decode cX7_odds 11 = .ok (.iload_n 1, 1) := by decide +kernel
theorem dX7_odds_12 : decode cX7_odds 12 = .ok (.bipush 6, 2) := by decide +kernel
theorem dX7_odds_14 : decode cX7_odds 14 = .ok (.if_icmp .ge 23, 3) := by decide +kernel
theorem dX7_odds_17 : decode cX7_odds 17 = .ok (.iload_n 2, 1) := by decide +kernel
theorem dX7_odds_18 : decode cX7_odds 18 = .ok (.ifCond .lt 19, 3) := by decide +kernel
theorem dX7_odds_21 : decode cX7_odds 21 = .ok (.iload_n 2, 1) := by decide +kernel
theorem dX7_odds_22 : decode cX7_odds 22 = .ok (.bipush 6, 2) := by decide +kernel
theorem dX7_odds_24 : decode cX7_odds 24 = .ok (.if_icmp .ge 13, 3) := by decide +kernel
theorem dX7_odds_27 : decode cX7_odds 27 = .ok (.aload_n 0, 1) := by decide +kernel
theorem dX7_odds_28 : decode cX7_odds 28 = .ok (.getfield 39, 3) := by decide +kernel
theorem dX7_odds_31 : decode cX7_odds 31 = .ok (.getfield 102, 3) := by decide +kernel
theorem dX7_odds_34 : decode cX7_odds 34 = .ok (.ifCond .ne 5, 3) := by decide +kernel
theorem dX7_odds_37 : decode cX7_odds 37 = .ok (.iconst (-1), 1) := by decide +kernel
theorem dX7_odds_38 : decode cX7_odds 38 = .ok (.ireturn, 1) := by decide +kernel
theorem dX7_odds_39 : decode cX7_odds 39 = .ok (.aload_n 0, 1) := by decide +kernel
theorem dX7_odds_40 : decode cX7_odds 40 = .ok (.invokevirtual 251, 3) := by decide +kernel
theorem dX7_odds_43 : decode cX7_odds 43 = .ok (.aload_n 0, 1) := by decide +kernel
theorem dX7_odds_44 : decode cX7_odds 44 = .ok (.getfield 72, 3) := by decide +kernel
theorem dX7_odds_47 : decode cX7_odds 47 = .ok (.aload_n 0, 1) := by decide +kernel
theorem dX7_odds_48 : decode cX7_odds 48 = .ok (.getfield 19, 3) := by decide +kernel
theorem dX7_odds_51 : decode cX7_odds 51 = .ok (.aload_n 0, 1) := by decide +kernel
theorem dX7_odds_52 : decode cX7_odds 52 = .ok (.getfield 23, 3) := by decide +kernel
theorem dX7_odds_55 : decode cX7_odds 55 = .ok (.iload_n 1, 1) := by decide +kernel
theorem dX7_odds_56 : decode cX7_odds 56 = .ok (.iload_n 2, 1) := by decide +kernel
theorem dX7_odds_57 : decode cX7_odds 57 = .ok (.iload_n 3, 1) := by decide +kernel
theorem dX7_odds_58 : decode cX7_odds 58 = .ok (.invokevirtual 254, 3) := by decide +kernel
theorem dX7_odds_61 : decode cX7_odds 61 = .ok (.ireturn, 1) := by decide +kernel
theorem dX7_chance_0 : decode cX7_chance 0 = .ok (.aload_n 0, 1) := by decide +kernel
theorem dX7_chance_1 : decode cX7_chance 1 = .ok (.getfield 39, 3) := by decide +kernel
theorem dX7_chance_4 : decode cX7_chance 4 = .ok (.getfield 102, 3) := by decide +kernel
theorem dX7_chance_7 : decode cX7_chance 7 = .ok (.ifCond .ne 5, 3) := by decide +kernel
theorem dX7_chance_10 : decode cX7_chance 10 = .ok (.iconst (-1), 1) := by decide +kernel
theorem dX7_chance_11 : decode cX7_chance 11 = .ok (.ireturn, 1) := by decide +kernel
theorem dX7_chance_12 : decode cX7_chance 12 = .ok (.aload_n 0, 1) := by decide +kernel
theorem dX7_chance_13 : decode cX7_chance 13 = .ok (.invokevirtual 258, 3) := by decide +kernel
theorem dX7_chance_16 : decode cX7_chance 16 = .ok (.ireturn, 1) := by decide +kernel
theorem dX7_weight_0 : decode cX7_weight 0 = .ok (.aload_n 0, 1) := by decide +kernel
theorem dX7_weight_1 : decode cX7_weight 1 = .ok (.getfield 39, 3) := by decide +kernel
theorem dX7_weight_4 : decode cX7_weight 4 = .ok (.getfield 102, 3) := by decide +kernel
theorem dX7_weight_7 : decode cX7_weight 7 = .ok (.ifCond .ne 5, 3) := by decide +kernel
theorem dX7_weight_10 : decode cX7_weight 10 = .ok (.iconst (-1), 1) := by decide +kernel
theorem dX7_weight_11 : decode cX7_weight 11 = .ok (.ireturn, 1) := by decide +kernel
theorem dX7_weight_12 : decode cX7_weight 12 = .ok (.aload_n 0, 1) := by decide +kernel
theorem dX7_weight_13 : decode cX7_weight 13 = .ok (.invokevirtual 258, 3) := by decide +kernel
theorem dX7_weight_16 : decode cX7_weight 16 = .ok (.pop, 1) := by decide +kernel
theorem dX7_weight_17 : decode cX7_weight 17 = .ok (.aload_n 0, 1) := by decide +kernel
theorem dX7_weight_18 : decode cX7_weight 18 = .ok (.getfield 72, 3) := by decide +kernel
theorem dX7_weight_21 : decode cX7_weight 21 = .ok (.aload_n 0, 1) := by decide +kernel
theorem dX7_weight_22 : decode cX7_weight 22 = .ok (.getfield 29, 3) := by decide +kernel
theorem dX7_weight_25 : decode cX7_weight 25 = .ok (.getfield 202, 3) := by decide +kernel
theorem dX7_weight_28 : decode cX7_weight 28 = .ok (.aload_n 0, 1) := by decide +kernel
theorem dX7_weight_29 : decode cX7_weight 29 = .ok (.getfield 33, 3) := by decide +kernel
theorem dX7_weight_32 : decode cX7_weight 32 = .ok (.getfield 202, 3) := by decide +kernel
theorem dX7_weight_35 : decode cX7_weight 35 = .ok (.invokevirtual 261, 3) := by decide +kernel
theorem dX7_weight_38 : decode cX7_weight 38 = .ok (.ireturn, 1) := by decide +kernel
theorem dX7_turn_0 : decode cX7_turn 0 = .ok (.iload_n 1, 1) := by decide +kernel
theorem dX7_turn_1 : decode cX7_turn 1 = .ok (.invokestatic 83, 3) := by decide +kernel
theorem dX7_turn_4 : decode cX7_turn 4 = .ok (.ifCond .eq 30, 3) := by decide +kernel
theorem dX7_turn_7 : decode cX7_turn 7 = .ok (.iload_n 2, 1) := by decide +kernel
theorem dX7_turn_8 : decode cX7_turn 8 = .ok (.invokestatic 83, 3) := by decide +kernel
theorem dX7_turn_11 : decode cX7_turn 11 = .ok (.ifCond .eq 23, 3) := by decide +kernel
theorem dX7_turn_14 : decode cX7_turn 14 = .ok (.aload_n 0, 1) := by decide +kernel
theorem dX7_turn_15 : decode cX7_turn 15 = .ok (.getfield 19, 3) := by decide +kernel
theorem dX7_turn_18 : decode cX7_turn 18 = .ok (.getfield 147, 3) := by decide +kernel
theorem dX7_turn_21 : decode cX7_turn 21 = .ok (.ifCond .eq 13, 3) := by decide +kernel
theorem dX7_turn_24 : decode cX7_turn 24 = .ok (.aload_n 0, 1) := by decide +kernel
theorem dX7_turn_25 : decode cX7_turn 25 = .ok (.getfield 23, 3) := by decide +kernel
theorem dX7_turn_28 : decode cX7_turn 28 = .ok (.getfield 147, 3) := by decide +kernel
theorem dX7_turn_31 : decode cX7_turn 31 = .ok (.ifCond .ne 5, 3) := by decide +kernel
theorem dX7_turn_34 : decode cX7_turn 34 = .ok (.iconst (-1), 1) := by decide +kernel
theorem dX7_turn_35 : decode cX7_turn 35 = .ok (.ireturn, 1) := by decide +kernel
theorem dX7_turn_36 : decode cX7_turn 36 = .ok (.iconst (-1), 1) := by decide +kernel
theorem dX7_turn_37 : decode cX7_turn 37 = .ok (.istore_n 3, 1) := by decide +kernel
theorem dX7_turn_38 : decode cX7_turn 38 = .ok (.iconst 0, 1) := by decide +kernel
theorem dX7_turn_39 : decode cX7_turn 39 = .ok (.istore 4, 2) := by decide +kernel
theorem dX7_turn_41 : decode cX7_turn 41 = .ok (.iconst 0, 1) := by decide +kernel
theorem dX7_turn_42 : decode cX7_turn 42 = .ok (.istore 5, 2) := by decide +kernel
theorem dX7_turn_44 : decode cX7_turn 44 = .ok (.iload 5, 2) := by decide +kernel
theorem dX7_turn_46 : decode cX7_turn 46 = .ok (.bipush 6, 2) := by decide +kernel
theorem dX7_turn_48 : decode cX7_turn 48 = .ok (.if_icmp .ge 92, 3) := by decide +kernel
theorem dX7_turn_51 : decode cX7_turn 51 = .ok (.aload_n 0, 1) := by decide +kernel
theorem dX7_turn_52 : decode cX7_turn 52 = .ok (.getfield 72, 3) := by decide +kernel
theorem dX7_turn_55 : decode cX7_turn 55 = .ok (.iconst 0, 1) := by decide +kernel
theorem dX7_turn_56 : decode cX7_turn 56 = .ok (.aload_n 0, 1) := by decide +kernel
theorem dX7_turn_57 : decode cX7_turn 57 = .ok (.getfield 19, 3) := by decide +kernel
theorem dX7_turn_60 : decode cX7_turn 60 = .ok (.getfield 264, 3) := by decide +kernel
theorem dX7_turn_63 : decode cX7_turn 63 = .ok (.iload_n 1, 1) := by decide +kernel
theorem dX7_turn_64 : decode cX7_turn 64 = .ok (.ifCond .ne 8, 3) := by decide +kernel
theorem dX7_turn_67 : decode cX7_turn 67 = .ok (.iload 5, 2) := by decide +kernel
theorem dX7_turn_69 : decode cX7_turn 69 = .ok (.goto 4, 3) := by decide +kernel
theorem dX7_turn_72 : decode cX7_turn 72 = .ok (.iconst 0, 1) := by decide +kernel
theorem dX7_turn_73 : decode cX7_turn 73 = .ok (.invokevirtual 267, 3) := by decide +kernel
theorem dX7_turn_76 : decode cX7_turn 76 = .ok (.aload_n 0, 1) := by decide +kernel
theorem dX7_turn_77 : decode cX7_turn 77 = .ok (.getfield 72, 3) := by decide +kernel
theorem dX7_turn_80 : decode cX7_turn 80 = .ok (.iconst 1, 1) := by decide +kernel
theorem dX7_turn_81 : decode cX7_turn 81 = .ok (.aload_n 0, 1) := by decide +kernel
theorem dX7_turn_82 : decode cX7_turn 82 = .ok (.getfield 23, 3) := by decide +kernel
theorem dX7_turn_85 : decode cX7_turn 85 = .ok (.getfield 264, 3) := by decide +kernel
theorem dX7_turn_88 : decode cX7_turn 88 = .ok (.iload_n 1, 1) := by decide +kernel
theorem dX7_turn_89 : decode cX7_turn 89 = .ok (.iconst 1, 1) := by decide +kernel
theorem dX7_turn_90 : decode cX7_turn 90 = .ok (.if_icmp .ne 8, 3) := by decide +kernel
theorem dX7_turn_93 : decode cX7_turn 93 = .ok (.iload 5, 2) := by decide +kernel
theorem dX7_turn_95 : decode cX7_turn 95 = .ok (.goto 4, 3) := by decide +kernel
theorem dX7_turn_98 : decode cX7_turn 98 = .ok (.iconst 0, 1) := by decide +kernel
theorem dX7_turn_99 : decode cX7_turn 99 = .ok (.invokevirtual 267, 3) := by decide +kernel
theorem dX7_turn_102 : decode cX7_turn 102 = .ok (.aload_n 0, 1) := by decide +kernel
theorem dX7_turn_103 : decode cX7_turn 103 = .ok (.iload_n 2, 1) := by decide +kernel
theorem dX7_turn_104 : decode cX7_turn 104 = .ok (.iconst 0, 1) := by decide +kernel
theorem dX7_turn_105 : decode cX7_turn 105 = .ok (.iconst 0, 1) := by decide +kernel
theorem dX7_turn_106 : decode cX7_turn 106 = .ok (.invokevirtual 271, 3) := by decide +kernel
theorem dX7_turn_109 : decode cX7_turn 109 = .ok (.istore 6, 2) := by decide +kernel
theorem dX7_turn_111 : decode cX7_turn 111 = .ok (.iload_n 3, 1) := by decide +kernel
theorem dX7_turn_112 : decode cX7_turn 112 = .ok (.iconst (-1), 1) := by decide +kernel
theorem dX7_turn_113 : decode cX7_turn 113 = .ok (.if_icmp .eq 14, 3) := by decide +kernel
theorem dX7_turn_116 : decode cX7_turn 116 = .ok (.iload_n 1, 1) := by decide +kernel
theorem dX7_turn_117 : decode cX7_turn 117 = .ok (.iload 6, 2) := by decide +kernel
theorem dX7_turn_119 : decode cX7_turn 119 = .ok (.iload 4, 2) := by decide +kernel
theorem dX7_turn_121 : decode cX7_turn 121 = .ok (.invokestatic 274, 3) := by decide +kernel
theorem dX7_turn_124 : decode cX7_turn 124 = .ok (.ifCond .eq 10, 3) := by decide +kernel
theorem dX7_turn_127 : decode cX7_turn 127 = .ok (.iload 5, 2) := by decide +kernel
theorem dX7_turn_129 : decode cX7_turn 129 = .ok (.istore_n 3, 1) := by decide +kernel
theorem dX7_turn_130 : decode cX7_turn 130 = .ok (.iload 6, 2) := by decide +kernel
theorem dX7_turn_132 : decode cX7_turn 132 = .ok (.istore 4, 2) := by decide +kernel
theorem dX7_turn_134 : decode cX7_turn 134 = .ok (.iinc 5 1, 3) := by decide +kernel
theorem dX7_turn_137 : decode cX7_turn 137 = .ok (.goto (-93), 3) := by decide +kernel
theorem dX7_turn_140 : decode cX7_turn 140 = .ok (.aload_n 0, 1) := by decide +kernel
theorem dX7_turn_141 : decode cX7_turn 141 = .ok (.iload 4, 2) := by decide +kernel
theorem dX7_turn_143 : decode cX7_turn 143 = .ok (.invokevirtual 278, 3) := by decide +kernel
theorem dX7_turn_146 : decode cX7_turn 146 = .ok (.iload_n 3, 1) := by decide +kernel
theorem dX7_turn_147 : decode cX7_turn 147 = .ok (.ireturn, 1) := by decide +kernel
theorem dX7_advice_0 : decode cX7_advice 0 = .ok (.iload_n 1, 1) := by decide +kernel
theorem dX7_advice_1 : decode cX7_advice 1 = .ok (.invokestatic 83, 3) := by decide +kernel
theorem dX7_advice_4 : decode cX7_advice 4 = .ok (.ifCond .eq 13, 3) := by decide +kernel
theorem dX7_advice_7 : decode cX7_advice 7 = .ok (.aload_n 0, 1) := by decide +kernel
theorem dX7_advice_8 : decode cX7_advice 8 = .ok (.getfield 39, 3) := by decide +kernel
theorem dX7_advice_11 : decode cX7_advice 11 = .ok (.getfield 102, 3) := by decide +kernel
theorem dX7_advice_14 : decode cX7_advice 14 = .ok (.ifCond .ne 5, 3) := by decide +kernel
theorem dX7_advice_17 : decode cX7_advice 17 = .ok (.iconst (-1), 1) := by decide +kernel
theorem dX7_advice_18 : decode cX7_advice 18 = .ok (.ireturn, 1) := by decide +kernel
theorem dX7_advice_19 : decode cX7_advice 19 = .ok (.bipush (-2), 2) := by decide +kernel
theorem dX7_advice_21 : decode cX7_advice 21 = .ok (.istore_n 2, 1) := by decide +kernel
theorem dX7_advice_22 : decode cX7_advice 22 = .ok (.aload_n 0, 1) := by decide +kernel
theorem dX7_advice_23 : decode cX7_advice 23 = .ok (.invokevirtual 258, 3) := by decide +kernel
theorem dX7_advice_26 : decode cX7_advice 26 = .ok (.istore_n 3, 1) := by decide +kernel
theorem dX7_advice_27 : decode cX7_advice 27 = .ok (.iconst 0, 1) := by decide +kernel
theorem dX7_advice_28 : decode cX7_advice 28 = .ok (.istore 4, 2) := by decide +kernel
theorem dX7_advice_30 : decode cX7_advice 30 = .ok (.iload 4, 2) := by decide +kernel
theorem dX7_advice_32 : decode cX7_advice 32 = .ok (.bipush 12, 2) := by decide +kernel
theorem dX7_advice_34 : decode cX7_advice 34 = .ok (.if_icmp .ge 70, 3) := by decide +kernel
theorem dX7_advice_37 : decode cX7_advice 37 = .ok (.iconst 0, 1) := by decide +kernel
theorem dX7_advice_38 : decode cX7_advice 38 = .ok (.istore 5, 2) := by decide +kernel
theorem dX7_advice_40 : decode cX7_advice 40 = .ok (.iload 5, 2) := by decide +kernel
theorem dX7_advice_42 : decode cX7_advice 42 = .ok (.bipush 12, 2) := by decide +kernel
theorem dX7_advice_44 : decode cX7_advice 44 = .ok (.if_icmp .ge 54, 3) := by decide +kernel
theorem dX7_advice_47 : decode cX7_advice 47 = .ok (.aload_n 0, 1) := by decide +kernel
theorem dX7_advice_48 : decode cX7_advice 48 = .ok (.iload_n 1, 1) := by decide +kernel
theorem dX7_advice_49 : decode cX7_advice 49 = .ok (.iload 4, 2) := by decide +kernel
theorem dX7_advice_51 : decode cX7_advice 51 = .ok (.iload 5, 2) := by decide +kernel
theorem dX7_advice_53 : decode cX7_advice 53 = .ok (.invokevirtual 175, 3) := by decide +kernel
theorem dX7_advice_56 : decode cX7_advice 56 = .ok (.ifCond .ne 36, 3) := by decide +kernel
theorem dX7_advice_59 : decode cX7_advice 59 = .ok (.aload_n 0, 1) := by decide +kernel
theorem dX7_advice_60 : decode cX7_advice 60 = .ok (.iload_n 1, 1) := by decide +kernel
theorem dX7_advice_61 : decode cX7_advice 61 = .ok (.iload 4, 2) := by decide +kernel
theorem dX7_advice_63 : decode cX7_advice 63 = .ok (.iload 5, 2) := by decide +kernel
theorem dX7_advice_65 : decode cX7_advice 65 = .ok (.invokevirtual 281, 3) := by decide +kernel
theorem dX7_advice_68 : decode cX7_advice 68 = .ok (.istore 6, 2) := by decide +kernel
theorem dX7_advice_70 : decode cX7_advice 70 = .ok (.iload_n 1, 1) := by decide +kernel
theorem dX7_advice_71 : decode cX7_advice 71 = .ok (.iload 6, 2) := by decide +kernel
theorem dX7_advice_73 : decode cX7_advice 73 = .ok (.iload_n 3, 1) := by decide +kernel
theorem dX7_advice_74 : decode cX7_advice 74 = .ok (.invokestatic 274, 3) := by decide +kernel
theorem dX7_advice_77 : decode cX7_advice 77 = .ok (.ifCond .eq 15, 3) := by decide +kernel
theorem dX7_advice_80 : decode cX7_advice 80 = .ok (.iload 4, 2) := by decide +kernel
theorem dX7_advice_82 : decode cX7_advice 82 = .ok (.bipush 12, 2) := by decide +kernel
theorem dX7_advice_84 : decode cX7_advice 84 = .ok (.imul, 1) := by decide +kernel
theorem dX7_advice_85 : decode cX7_advice 85 = .ok (.iload 5, 2) := by decide +kernel
theorem dX7_advice_87 : decode cX7_advice 87 = .ok (.iadd, 1) := by decide +kernel
theorem dX7_advice_88 : decode cX7_advice 88 = .ok (.istore_n 2, 1) := by decide +kernel
theorem dX7_advice_89 : decode cX7_advice 89 = .ok (.iload 6, 2) := by decide +kernel
theorem dX7_advice_91 : decode cX7_advice 91 = .ok (.istore_n 3, 1) := by decide +kernel
theorem dX7_advice_92 : decode cX7_advice 92 = .ok (.iinc 5 1, 3) := by decide +kernel
theorem dX7_advice_95 : decode cX7_advice 95 = .ok (.goto (-55), 3) := by decide +kernel
theorem dX7_advice_98 : decode cX7_advice 98 = .ok (.iinc 4 1, 3) := by decide +kernel
theorem dX7_advice_101 : decode cX7_advice 101 = .ok (.goto (-71), 3) := by decide +kernel
theorem dX7_advice_104 : decode cX7_advice 104 = .ok (.iload_n 2, 1) := by decide +kernel
theorem dX7_advice_105 : decode cX7_advice 105 = .ok (.bipush (-2), 2) := by decide +kernel
theorem dX7_advice_107 : decode cX7_advice 107 = .ok (.if_icmp .eq 8, 3) := by decide +kernel
theorem dX7_advice_110 : decode cX7_advice 110 = .ok (.aload_n 0, 1) := by decide +kernel
theorem dX7_advice_111 : decode cX7_advice 111 = .ok (.iload_n 3, 1) := by decide +kernel
theorem dX7_advice_112 : decode cX7_advice 112 = .ok (.invokevirtual 278, 3) := by decide +kernel
theorem dX7_advice_115 : decode cX7_advice 115 = .ok (.iload_n 2, 1) := by decide +kernel
theorem dX7_advice_116 : decode cX7_advice 116 = .ok (.ireturn, 1) := by decide +kernel
theorem dX7_row_0 : decode cX7_row 0 = .ok (.iload_n 1, 1) := by decide +kernel
theorem dX7_row_1 : decode cX7_row 1 = .ok (.ifCond .lt 11, 3) := by decide +kernel
theorem dX7_row_4 : decode cX7_row 4 = .ok (.iload_n 1, 1) := by decide +kernel
theorem dX7_row_5 : decode cX7_row 5 = .ok (.aload_n 0, 1) := by decide +kernel
theorem dX7_row_6 : decode cX7_row 6 = .ok (.getfield 76, 3) := by decide +kernel
theorem dX7_row_9 : decode cX7_row 9 = .ok (.if_icmp .lt 11, 3) := by decide +kernel
theorem dX7_row_12 : decode cX7_row 12 = .ok (.new 284, 3) := by decide +kernel
theorem dX7_row_15 : decode cX7_row 15 = .ok (.dup, 1) := by decide +kernel
theorem dX7_row_16 : decode cX7_row 16 = .ok (.invokespecial 286, 3) := by decide +kernel
theorem dX7_row_19 : decode cX7_row 19 = .ok (.athrow, 1) := by decide +kernel
theorem dX7_row_20 : decode cX7_row 20 = .ok (.aload_n 0, 1) := by decide +kernel
theorem dX7_row_21 : decode cX7_row 21 = .ok (.getfield 80, 3) := by decide +kernel
theorem dX7_row_24 : decode cX7_row 24 = .ok (.ireturn, 1) := by decide +kernel
theorem dX7_isTeam_0 : decode cX7_isTeam 0 = .ok (.iload_n 0, 1) := by decide +kernel
theorem dX7_isTeam_1 : decode cX7_isTeam 1 = .ok (.ifCond .eq 8, 3) := by decide +kernel
theorem dX7_isTeam_4 : decode cX7_isTeam 4 = .ok (.iload_n 0, 1) := by decide +kernel
theorem dX7_isTeam_5 : decode cX7_isTeam 5 = .ok (.iconst 1, 1) := by decide +kernel
theorem dX7_isTeam_6 : decode cX7_isTeam 6 = .ok (.if_icmp .ne 7, 3) := by decide +kernel
theorem dX7_isTeam_9 : decode cX7_isTeam 9 = .ok (.iconst 1, 1) := by decide +kernel
theorem dX7_isTeam_10 : decode cX7_isTeam 10 = .ok (.goto 4, 3) := by decide +kernel
theorem dX7_isTeam_13 : decode cX7_isTeam 13 = .ok (.iconst 0, 1) := by decide +kernel
theorem dX7_isTeam_14 : decode cX7_isTeam 14 = .ok (.ireturn, 1) := by decide +kernel
theorem dX7_isPlayer_0 : decode cX7_isPlayer 0 = .ok (.iload_n 0, 1) := by decide +kernel
theorem dX7_isPlayer_1 : decode cX7_isPlayer 1 = .ok (.ifCond .lt 13, 3) := by decide +kernel
theorem dX7_isPlayer_4 : decode cX7_isPlayer 4 = .ok (.iload_n 0, 1) := by decide +kernel
theorem dX7_isPlayer_5 : decode cX7_isPlayer 5 = .ok (.bipush 12, 2) := by decide +kernel
theorem dX7_isPlayer_7 : decode cX7_isPlayer 7 = .ok (.if_icmp .ge 7, 3) := by decide +kernel
theorem dX7_isPlayer_10 : decode cX7_isPlayer 10 = .ok (.iconst 1, 1) := by decide +kernel
theorem dX7_isPlayer_11 : decode cX7_isPlayer 11 = .ok (.goto 4, 3) := by decide +kernel
theorem dX7_isPlayer_14 : decode cX7_isPlayer 14 = .ok (.iconst 0, 1) := by decide +kernel
theorem dX7_isPlayer_15 : decode cX7_isPlayer 15 = .ok (.ireturn, 1) := by decide +kernel
theorem dX7_bitOf_0 : decode cX7_bitOf 0 = .ok (.iload_n 0, 1) := by decide +kernel
theorem dX7_bitOf_1 : decode cX7_bitOf 1 = .ok (.invokestatic 87, 3) := by decide +kernel
theorem dX7_bitOf_4 : decode cX7_bitOf 4 = .ok (.ifCond .eq 9, 3) := by decide +kernel
theorem dX7_bitOf_7 : decode cX7_bitOf 7 = .ok (.iconst 1, 1) := by decide +kernel
theorem dX7_bitOf_8 : decode cX7_bitOf 8 = .ok (.iload_n 0, 1) := by decide +kernel
theorem dX7_bitOf_9 : decode cX7_bitOf 9 = .ok (.ishl, 1) := by decide +kernel
theorem dX7_bitOf_10 : decode cX7_bitOf 10 = .ok (.goto 4, 3) := by decide +kernel
theorem dX7_bitOf_13 : decode cX7_bitOf 13 = .ok (.iconst 0, 1) := by decide +kernel
theorem dX7_bitOf_14 : decode cX7_bitOf 14 = .ok (.ireturn, 1) := by decide +kernel
theorem dX7_squadOf_0 : decode cX7_squadOf 0 = .ok (.iload_n 1, 1) := by decide +kernel
theorem dX7_squadOf_1 : decode cX7_squadOf 1 = .ok (.ifCond .ne 10, 3) := by decide +kernel
theorem dX7_squadOf_4 : decode cX7_squadOf 4 = .ok (.aload_n 0, 1) := by decide +kernel
theorem dX7_squadOf_5 : decode cX7_squadOf 5 = .ok (.getfield 19, 3) := by decide +kernel
theorem dX7_squadOf_8 : decode cX7_squadOf 8 = .ok (.goto 7, 3) := by decide +kernel
theorem dX7_squadOf_11 : decode cX7_squadOf 11 = .ok (.aload_n 0, 1) := by decide +kernel
theorem dX7_squadOf_12 : decode cX7_squadOf 12 = .ok (.getfield 23, 3) := by decide +kernel
theorem dX7_squadOf_15 : decode cX7_squadOf 15 = .ok (.areturn, 1) := by decide +kernel
theorem dX7_courtOf_0 : decode cX7_courtOf 0 = .ok (.iload_n 1, 1) := by decide +kernel
theorem dX7_courtOf_1 : decode cX7_courtOf 1 = .ok (.ifCond .ne 10, 3) := by decide +kernel
theorem dX7_courtOf_4 : decode cX7_courtOf 4 = .ok (.aload_n 0, 1) := by decide +kernel
theorem dX7_courtOf_5 : decode cX7_courtOf 5 = .ok (.getfield 29, 3) := by decide +kernel
theorem dX7_courtOf_8 : decode cX7_courtOf 8 = .ok (.goto 7, 3) := by decide +kernel
theorem dX7_courtOf_11 : decode cX7_courtOf 11 = .ok (.aload_n 0, 1) := by decide +kernel
theorem dX7_courtOf_12 : decode cX7_courtOf 12 = .ok (.getfield 33, 3) := by decide +kernel
theorem dX7_courtOf_15 : decode cX7_courtOf 15 = .ok (.areturn, 1) := by decide +kernel
theorem dX7_stanceOf_0 : decode cX7_stanceOf 0 = .ok (.iload_n 1, 1) := by decide +kernel
theorem dX7_stanceOf_1 : decode cX7_stanceOf 1 = .ok (.ifCond .ne 10, 3) := by decide +kernel
theorem dX7_stanceOf_4 : decode cX7_stanceOf 4 = .ok (.aload_n 0, 1) := by decide +kernel
theorem dX7_stanceOf_5 : decode cX7_stanceOf 5 = .ok (.getfield 55, 3) := by decide +kernel
theorem dX7_stanceOf_8 : decode cX7_stanceOf 8 = .ok (.goto 7, 3) := by decide +kernel
theorem dX7_stanceOf_11 : decode cX7_stanceOf 11 = .ok (.aload_n 0, 1) := by decide +kernel
theorem dX7_stanceOf_12 : decode cX7_stanceOf 12 = .ok (.getfield 59, 3) := by decide +kernel
theorem dX7_stanceOf_15 : decode cX7_stanceOf 15 = .ok (.areturn, 1) := by decide +kernel
theorem dX7_winRally_0 : decode cX7_winRally 0 = .ok (.aload_n 0, 1) := by decide +kernel
theorem dX7_winRally_1 : decode cX7_winRally 1 = .ok (.iload_n 1, 1) := by decide +kernel
theorem dX7_winRally_2 : decode cX7_winRally 2 = .ok (.invokevirtual 159, 3) := by decide +kernel
theorem dX7_winRally_5 : decode cX7_winRally 5 = .ok (.astore_n 2, 1) := by decide +kernel
theorem dX7_winRally_6 : decode cX7_winRally 6 = .ok (.aload_n 2, 1) := by decide +kernel
theorem dX7_winRally_7 : decode cX7_winRally 7 = .ok (.dup, 1) := by decide +kernel
theorem dX7_winRally_8 : decode cX7_winRally 8 = .ok (.getfield 202, 3) := by decide +kernel
theorem dX7_winRally_11 : decode cX7_winRally 11 = .ok (.iconst 1, 1) := by decide +kernel
theorem dX7_winRally_12 : decode cX7_winRally 12 = .ok (.iadd, 1) := by decide +kernel
theorem dX7_winRally_13 : decode cX7_winRally 13 = .ok (.putfield 202, 3) := by decide +kernel
theorem dX7_winRally_16 : decode cX7_winRally 16 = .ok (.aload_n 0, 1) := by decide +kernel
theorem dX7_winRally_17 : decode cX7_winRally 17 = .ok (.getfield 39, 3) := by decide +kernel
theorem dX7_winRally_20 : decode cX7_winRally 20 = .ok (.getfield 199, 3) := by decide +kernel
theorem dX7_winRally_23 : decode cX7_winRally 23 = .ok (.iload_n 1, 1) := by decide +kernel
theorem dX7_winRally_24 : decode cX7_winRally 24 = .ok (.if_icmp .ne 23, 3) := by decide +kernel
theorem dX7_winRally_27 : decode cX7_winRally 27 = .ok (.aload_n 2, 1) := by decide +kernel
theorem dX7_winRally_28 : decode cX7_winRally 28 = .ok (.invokevirtual 287, 3) := by decide +kernel
theorem dX7_winRally_31 : decode cX7_winRally 31 = .ok (.aload_n 0, 1) := by decide +kernel
theorem dX7_winRally_32 : decode cX7_winRally 32 = .ok (.getfield 39, 3) := by decide +kernel
theorem dX7_winRally_35 : decode cX7_winRally 35 = .ok (.dup, 1) := by decide +kernel
theorem dX7_winRally_36 : decode cX7_winRally 36 = .ok (.getfield 196, 3) := by decide +kernel
theorem dX7_winRally_39 : decode cX7_winRally 39 = .ok (.iconst 1, 1) := by decide +kernel
theorem dX7_winRally_40 : decode cX7_winRally 40 = .ok (.iadd, 1) := by decide +kernel
theorem dX7_winRally_41 : decode cX7_winRally 41 = .ok (.putfield 196, 3) := by decide +kernel
theorem dX7_winRally_44 : decode cX7_winRally 44 = .ok (.goto 23, 3) := by decide +kernel
theorem dX7_winRally_47 : decode cX7_winRally 47 = .ok (.aload_n 2, 1) := by decide +kernel
theorem dX7_winRally_48 : decode cX7_winRally 48 = .ok (.invokevirtual 290, 3) := by decide +kernel
theorem dX7_winRally_51 : decode cX7_winRally 51 = .ok (.aload_n 0, 1) := by decide +kernel
theorem dX7_winRally_52 : decode cX7_winRally 52 = .ok (.getfield 39, 3) := by decide +kernel
theorem dX7_winRally_55 : decode cX7_winRally 55 = .ok (.iload_n 1, 1) := by decide +kernel
theorem dX7_winRally_56 : decode cX7_winRally 56 = .ok (.putfield 199, 3) := by decide +kernel
theorem dX7_winRally_59 : decode cX7_winRally 59 = .ok (.aload_n 0, 1) := by decide +kernel
theorem dX7_winRally_60 : decode cX7_winRally 60 = .ok (.getfield 39, 3) := by decide +kernel
theorem dX7_winRally_63 : decode cX7_winRally 63 = .ok (.iconst 0, 1) := by decide +kernel
theorem dX7_winRally_64 : decode cX7_winRally 64 = .ok (.putfield 196, 3) := by decide +kernel
theorem dX7_winRally_67 : decode cX7_winRally 67 = .ok (.aload_n 0, 1) := by decide +kernel
theorem dX7_winRally_68 : decode cX7_winRally 68 = .ok (.getfield 39, 3) := by decide +kernel
theorem dX7_winRally_71 : decode cX7_winRally 71 = .ok (.dup, 1) := by decide +kernel
theorem dX7_winRally_72 : decode cX7_winRally 72 = .ok (.getfield 217, 3) := by decide +kernel
theorem dX7_winRally_75 : decode cX7_winRally 75 = .ok (.iconst 1, 1) := by decide +kernel
theorem dX7_winRally_76 : decode cX7_winRally 76 = .ok (.iadd, 1) := by decide +kernel
theorem dX7_winRally_77 : decode cX7_winRally 77 = .ok (.putfield 217, 3) := by decide +kernel
theorem dX7_winRally_80 : decode cX7_winRally 80 = .ok (.aload_n 0, 1) := by decide +kernel
theorem dX7_winRally_81 : decode cX7_winRally 81 = .ok (.getfield 29, 3) := by decide +kernel
theorem dX7_winRally_84 : decode cX7_winRally 84 = .ok (.iconst 0, 1) := by decide +kernel
theorem dX7_winRally_85 : decode cX7_winRally 85 = .ok (.putfield 182, 3) := by decide +kernel
theorem dX7_winRally_88 : decode cX7_winRally 88 = .ok (.aload_n 0, 1) := by decide +kernel
theorem dX7_winRally_89 : decode cX7_winRally 89 = .ok (.getfield 33, 3) := by decide +kernel
theorem dX7_winRally_92 : decode cX7_winRally 92 = .ok (.iconst 0, 1) := by decide +kernel
theorem dX7_winRally_93 : decode cX7_winRally 93 = .ok (.putfield 182, 3) := by decide +kernel
theorem dX7_winRally_96 : decode cX7_winRally 96 = .ok (.aload_n 0, 1) := by decide +kernel
theorem dX7_winRally_97 : decode cX7_winRally 97 = .ok (.iload_n 1, 1) := by decide +kernel
theorem dX7_winRally_98 : decode cX7_winRally 98 = .ok (.invokevirtual 293, 3) := by decide +kernel
theorem dX7_winRally_101 : decode cX7_winRally 101 = .ok (.ireturn, 1) := by decide +kernel
theorem dX7_closeIfWon_0 : decode cX7_closeIfWon 0 = .ok (.aload_n 0, 1) := by decide +kernel
theorem dX7_closeIfWon_1 : decode cX7_closeIfWon 1 = .ok (.iload_n 1, 1) := by decide +kernel
theorem dX7_closeIfWon_2 : decode cX7_closeIfWon 2 = .ok (.invokevirtual 159, 3) := by decide +kernel
theorem dX7_closeIfWon_5 : decode cX7_closeIfWon 5 = .ok (.astore_n 2, 1) := by decide +kernel
theorem dX7_closeIfWon_6 : decode cX7_closeIfWon 6 = .ok (.aload_n 0, 1) := by decide +kernel
theorem dX7_closeIfWon_7 : decode cX7_closeIfWon 7 = .ok (.iconst 1, 1) := by decide +kernel
theorem dX7_closeIfWon_8 : decode cX7_closeIfWon 8 = .ok (.iload_n 1, 1) := by decide +kernel
theorem dX7_closeIfWon_9 : decode cX7_closeIfWon 9 = .ok (.isub, 1) := by decide +kernel
theorem dX7_closeIfWon_10 : decode cX7_closeIfWon 10 = .ok (.invokevirtual 159, 3) := by decide +kernel
theorem dX7_closeIfWon_13 : decode cX7_closeIfWon 13 = .ok (.astore_n 3, 1) := by decide +kernel
theorem dX7_closeIfWon_14 : decode cX7_closeIfWon 14 = .ok (.aload_n 0, 1) := by decide +kernel
theorem dX7_closeIfWon_15 : decode cX7_closeIfWon 15 = .ok (.getfield 10, 3) := by decide +kernel
theorem dX7_closeIfWon_18 : decode cX7_closeIfWon 18 = .ok (.aload_n 2, 1) := by decide +kernel
theorem dX7_closeIfWon_19 : decode cX7_closeIfWon 19 = .ok (.getfield 208, 3) := by decide +kernel
theorem dX7_closeIfWon_22 : decode cX7_closeIfWon 22 = .ok (.aload_n 3, 1) := by decide +kernel
theorem dX7_closeIfWon_23 : decode cX7_closeIfWon 23 = .ok (.getfield 208, 3) := by decide +kernel
theorem dX7_closeIfWon_26 : decode cX7_closeIfWon 26 = .ok (.invokevirtual 296, 3) := by decide +kernel
theorem dX7_closeIfWon_29 : decode cX7_closeIfWon 29 = .ok (.istore 4, 2) := by decide +kernel
theorem dX7_closeIfWon_31 : decode cX7_closeIfWon 31 = .ok (.aload_n 2, 1) := by decide +kernel
theorem dX7_closeIfWon_32 : decode cX7_closeIfWon 32 = .ok (.getfield 202, 3) := by decide +kernel
theorem dX7_closeIfWon_35 : decode cX7_closeIfWon 35 = .ok (.aload_n 3, 1) := by decide +kernel
theorem dX7_closeIfWon_36 : decode cX7_closeIfWon 36 = .ok (.getfield 202, 3) := by decide +kernel
theorem dX7_closeIfWon_39 : decode cX7_closeIfWon 39 = .ok (.iload 4, 2) := by decide +kernel
theorem dX7_closeIfWon_41 : decode cX7_closeIfWon 41 = .ok (.aload_n 0, 1) := by decide +kernel
theorem dX7_closeIfWon_42 : decode cX7_closeIfWon 42 = .ok (.getfield 10, 3) := by decide +kernel
theorem dX7_closeIfWon_45 : decode cX7_closeIfWon 45 = .ok (.iconst 1, 1) := by decide +kernel
theorem dX7_closeIfWon_46 : decode cX7_closeIfWon 46 = .ok (.invokevirtual 116, 3) := by decide +kernel
theorem dX7_closeIfWon_49 : decode cX7_closeIfWon 49 = .ok (.invokestatic 299, 3) := by decide +kernel
theorem dX7_closeIfWon_52 : decode cX7_closeIfWon 52 = .ok (.ifCond .ne 5, 3) := by decide +kernel
theorem dX7_closeIfWon_55 : decode cX7_closeIfWon 55 = .ok (.iconst 0, 1) := by decide +kernel
theorem dX7_closeIfWon_56 : decode cX7_closeIfWon 56 = .ok (.ireturn, 1) := by decide +kernel
theorem dX7_closeIfWon_57 : decode cX7_closeIfWon 57 = .ok (.aload_n 2, 1) := by decide +kernel
theorem dX7_closeIfWon_58 : decode cX7_closeIfWon 58 = .ok (.dup, 1) := by decide +kernel
theorem dX7_closeIfWon_59 : decode cX7_closeIfWon 59 = .ok (.getfield 208, 3) := by decide +kernel
theorem dX7_closeIfWon_62 : decode cX7_closeIfWon 62 = .ok (.iconst 1, 1) := by decide +kernel
theorem dX7_closeIfWon_63 : decode cX7_closeIfWon 63 = .ok (.iadd, 1) := by decide +kernel
theorem dX7_closeIfWon_64 : decode cX7_closeIfWon 64 = .ok (.putfield 208, 3) := by decide +kernel
theorem dX7_closeIfWon_67 : decode cX7_closeIfWon 67 = .ok (.aload_n 0, 1) := by decide +kernel
theorem dX7_closeIfWon_68 : decode cX7_closeIfWon 68 = .ok (.getfield 39, 3) := by decide +kernel
theorem dX7_closeIfWon_71 : decode cX7_closeIfWon 71 = .ok (.iconst 0, 1) := by decide +kernel
theorem dX7_closeIfWon_72 : decode cX7_closeIfWon 72 = .ok (.putfield 102, 3) := by decide +kernel
theorem dX7_closeIfWon_75 : decode cX7_closeIfWon 75 = .ok (.aload_n 0, 1) := by decide +kernel
theorem dX7_closeIfWon_76 : decode cX7_closeIfWon 76 = .ok (.getfield 39, 3) := by decide +kernel
theorem dX7_closeIfWon_79 : decode cX7_closeIfWon 79 = .ok (.iload_n 1, 1) := by decide +kernel
theorem dX7_closeIfWon_80 : decode cX7_closeIfWon 80 = .ok (.putfield 223, 3) := by decide +kernel
theorem dX7_closeIfWon_83 : decode cX7_closeIfWon 83 = .ok (.aload_n 2, 1) := by decide +kernel
theorem dX7_closeIfWon_84 : decode cX7_closeIfWon 84 = .ok (.getfield 208, 3) := by decide +kernel
theorem dX7_closeIfWon_87 : decode cX7_closeIfWon 87 = .ok (.aload_n 0, 1) := by decide +kernel
theorem dX7_closeIfWon_88 : decode cX7_closeIfWon 88 = .ok (.getfield 10, 3) := by decide +kernel
theorem dX7_closeIfWon_91 : decode cX7_closeIfWon 91 = .ok (.iconst 3, 1) := by decide +kernel
theorem dX7_closeIfWon_92 : decode cX7_closeIfWon 92 = .ok (.invokevirtual 116, 3) := by decide +kernel
theorem dX7_closeIfWon_95 : decode cX7_closeIfWon 95 = .ok (.if_icmp .ge 5, 3) := by decide +kernel
theorem dX7_closeIfWon_98 : decode cX7_closeIfWon 98 = .ok (.iconst 1, 1) := by decide +kernel
theorem dX7_closeIfWon_99 : decode cX7_closeIfWon 99 = .ok (.ireturn, 1) := by decide +kernel
theorem dX7_closeIfWon_100 : decode cX7_closeIfWon 100 = .ok (.aload_n 0, 1) := by decide +kernel
theorem dX7_closeIfWon_101 : decode cX7_closeIfWon 101 = .ok (.getfield 39, 3) := by decide +kernel
theorem dX7_closeIfWon_104 : decode cX7_closeIfWon 104 = .ok (.iload_n 1, 1) := by decide +kernel
theorem dX7_closeIfWon_105 : decode cX7_closeIfWon 105 = .ok (.putfield 124, 3) := by decide +kernel
theorem dX7_closeIfWon_108 : decode cX7_closeIfWon 108 = .ok (.iconst 2, 1) := by decide +kernel
theorem dX7_closeIfWon_109 : decode cX7_closeIfWon 109 = .ok (.ireturn, 1) := by decide +kernel
theorem dX7_doItems_0 : decode cX7_doItems 0 = .ok (.aload_n 0, 1) := by decide +kernel
theorem dX7_doItems_1 : decode cX7_doItems 1 = .ok (.invokevirtual 303, 3) := by decide +kernel
theorem dX7_doItems_4 : decode cX7_doItems 4 = .ok (.iconst 0, 1) := by decide +kernel
theorem dX7_doItems_5 : decode cX7_doItems 5 = .ok (.istore_n 2, 1) := by decide +kernel
theorem dX7_doItems_6 : decode cX7_doItems 6 = .ok (.iconst 0, 1) := by decide +kernel
theorem dX7_doItems_7 : decode cX7_doItems 7 = .ok (.istore_n 3, 1) := by decide +kernel
theorem dX7_doItems_8 : decode cX7_doItems 8 = .ok (.iload_n 3, 1) := by decide +kernel
theorem dX7_doItems_9 : decode cX7_doItems 9 = .ok (.iload_n 1, 1) := by decide +kernel
theorem dX7_doItems_10 : decode cX7_doItems 10 = .ok (.if_icmp .ge 43, 3) := by decide +kernel
theorem dX7_doItems_13 : decode cX7_doItems 13 = .ok (.aload_n 0, 1) := by decide +kernel
theorem dX7_doItems_14 : decode cX7_doItems 14 = .ok (.iload_n 3, 1) := by decide +kernel
theorem dX7_doItems_15 : decode cX7_doItems 15 = .ok (.invokevirtual 306, 3) := by decide +kernel
theorem dX7_doItems_18 : decode cX7_doItems 18 = .ok (.iconst (-1), 1) := by decide +kernel
theorem dX7_doItems_19 : decode cX7_doItems 19 = .ok (.if_icmp .ne 13, 3) := by decide +kernel
theorem dX7_doItems_22 : decode cX7_doItems 22 = .ok (.aload_n 0, 1) := by decide +kernel
theorem dX7_doItems_23 : decode cX7_doItems 23 = .ok (.invokevirtual 309, 3) := by decide +kernel
theorem dX7_doItems_26 : decode cX7_doItems 26 = .ok (.sipush (-1001), 3) := by decide +kernel
theorem dX7_doItems_29 : decode cX7_doItems 29 = .ok (.iload_n 3, 1) := by decide +kernel
theorem dX7_doItems_30 : decode cX7_doItems 30 = .ok (.isub, 1) := by decide +kernel
theorem dX7_doItems_31 : decode cX7_doItems 31 = .ok (.ireturn, 1) := by decide +kernel
theorem dX7_doItems_32 : decode cX7_doItems 32 = .ok (.iinc 2 1, 3) := by decide +kernel
theorem dX7_doItems_35 : decode cX7_doItems 35 = .ok (.iload_n 3, 1) := by decide +kernel
theorem dX7_doItems_36 : decode cX7_doItems 36 = .ok (.iconst 1, 1) := by decide +kernel
theorem dX7_doItems_37 : decode cX7_doItems 37 = .ok (.aload_n 0, 1) := by decide +kernel
theorem dX7_doItems_38 : decode cX7_doItems 38 = .ok (.getfield 65, 3) := by decide +kernel
theorem dX7_doItems_41 : decode cX7_doItems 41 = .ok (.iload_n 3, 1) := by decide +kernel
theorem dX7_doItems_42 : decode cX7_doItems 42 = .ok (.invokevirtual 312, 3) := by decide +kernel
theorem dX7_doItems_45 : decode cX7_doItems 45 = .ok (.invokestatic 315, 3) := by decide +kernel
theorem dX7_doItems_48 : decode cX7_doItems 48 = .ok (.iadd, 1) := by decide +kernel
theorem dX7_doItems_49 : decode cX7_doItems 49 = .ok (.istore_n 3, 1) := by decide +kernel
theorem dX7_doItems_50 : decode cX7_doItems 50 = .ok (.goto (-42), 3) := by decide +kernel
theorem dX7_doItems_53 : decode cX7_doItems 53 = .ok (.iload_n 2, 1) := by decide +kernel
theorem dX7_doItems_54 : decode cX7_doItems 54 = .ok (.ireturn, 1) := by decide +kernel
theorem dX7_doItem_0 : decode cX7_doItem 0 = .ok (.aload_n 0, 1) := by decide +kernel
theorem dX7_doItem_1 : decode cX7_doItem 1 = .ok (.getfield 65, 3) := by decide +kernel
theorem dX7_doItem_4 : decode cX7_doItem 4 = .ok (.iload_n 1, 1) := by decide +kernel
theorem dX7_doItem_5 : decode cX7_doItem 5 = .ok (.invokevirtual 320, 3) := by decide +kernel
theorem dX7_doItem_8 : decode cX7_doItem 8 = .ok (.istore_n 2, 1) := by decide +kernel
theorem dX7_doItem_9 : decode cX7_doItem 9 = .ok (.iload_n 2, 1) := by decide +kernel
theorem dX7_doItem_10 : decode cX7_doItem 10 = .ok (.bipush 65, 2) := by decide +kernel
theorem dX7_doItem_12 : decode cX7_doItem 12 = .ok (.if_icmp .eq 9, 3) := by decide +kernel
theorem dX7_doItem_15 : decode cX7_doItem 15 = .ok (.iload_n 2, 1) := by decide +kernel
theorem dX7_doItem_16 : decode cX7_doItem 16 = .ok (.bipush 66, 2) := by decide +kernel
theorem dX7_doItem_18 : decode cX7_doItem 18 = .ok (.if_icmp .ne 19, 3) := by decide +kernel
theorem dX7_doItem_21 : decode cX7_doItem 21 = .ok (.aload_n 0, 1) := by decide +kernel
theorem dX7_doItem_22 : decode cX7_doItem 22 = .ok (.iload_n 2, 1) := by decide +kernel
theorem dX7_doItem_23 : decode cX7_doItem 23 = .ok (.bipush 65, 2) := by decide +kernel
theorem dX7_doItem_25 : decode cX7_doItem 25 = .ok (.if_icmp .ne 7, 3) := by decide +kernel
theorem dX7_doItem_28 : decode cX7_doItem 28 = .ok (.iconst 0, 1) := by decide +kernel
theorem dX7_doItem_29 : decode cX7_doItem 29 = .ok (.goto 4, 3) := by decide +kernel
theorem dX7_doItem_32 : decode cX7_doItem 32 = .ok (.iconst 1, 1) := by decide +kernel
theorem dX7_doItem_33 : decode cX7_doItem 33 = .ok (.invokevirtual 324, 3) := by decide +kernel
theorem dX7_doItem_36 : decode cX7_doItem 36 = .ok (.ireturn, 1) := by decide +kernel
theorem dX7_doItem_37 : decode cX7_doItem 37 = .ok (.iload_n 2, 1) := by decide +kernel
theorem dX7_doItem_38 : decode cX7_doItem 38 = .ok (.bipush 97, 2) := by decide +kernel
theorem dX7_doItem_40 : decode cX7_doItem 40 = .ok (.if_icmp .ne 7, 3) := by decide +kernel
theorem dX7_doItem_43 : decode cX7_doItem 43 = .ok (.iconst 0, 1) := by decide +kernel
theorem dX7_doItem_44 : decode cX7_doItem 44 = .ok (.goto 4, 3) := by decide +kernel
theorem dX7_doItem_47 : decode cX7_doItem 47 = .ok (.iconst 1, 1) := by decide +kernel
theorem dX7_doItem_48 : decode cX7_doItem 48 = .ok (.istore_n 3, 1) := by decide +kernel
theorem dX7_doItem_49 : decode cX7_doItem 49 = .ok (.aload_n 0, 1) := by decide +kernel
theorem dX7_doItem_50 : decode cX7_doItem 50 = .ok (.getfield 65, 3) := by decide +kernel
theorem dX7_doItem_53 : decode cX7_doItem 53 = .ok (.iload_n 1, 1) := by decide +kernel
theorem dX7_doItem_54 : decode cX7_doItem 54 = .ok (.iconst 1, 1) := by decide +kernel
theorem dX7_doItem_55 : decode cX7_doItem 55 = .ok (.iadd, 1) := by decide +kernel
theorem dX7_doItem_56 : decode cX7_doItem 56 = .ok (.invokevirtual 320, 3) := by decide +kernel
theorem dX7_doItem_59 : decode cX7_doItem 59 = .ok (.istore 4, 2) := by decide +kernel
theorem dX7_doItem_61 : decode cX7_doItem 61 = .ok (.iload 4, 2) := by decide +kernel
theorem dX7_doItem_63 : decode cX7_doItem 63 = .ok (.bipush 33, 2) := by decide +kernel
theorem dX7_doItem_65 : decode cX7_doItem 65 = .ok (.if_icmp .ne 9, 3) := by decide +kernel
theorem dX7_doItem_68 : decode cX7_doItem 68 = .ok (.aload_n 0, 1) := by decide +kernel
theorem dX7_doItem_69 : decode cX7_doItem 69 = .ok (.iload_n 3, 1) := by decide +kernel
theorem dX7_doItem_70 : decode cX7_doItem 70 = .ok (.invokevirtual 327, 3) := by decide +kernel
theorem dX7_doItem_73 : decode cX7_doItem 73 = .ok (.ireturn, 1) := by decide +kernel
theorem dX7_doItem_74 : decode cX7_doItem 74 = .ok (.iload 4, 2) := by decide +kernel
theorem dX7_doItem_76 : decode cX7_doItem 76 = .ok (.bipush 45, 2) := by decide +kernel
theorem dX7_doItem_78 : decode cX7_doItem 78 = .ok (.if_icmp .ne 10, 3) := by decide +kernel
theorem dX7_doItem_81 : decode cX7_doItem 81 = .ok (.aload_n 0, 1) := by decide +kernel
theorem dX7_doItem_82 : decode cX7_doItem 82 = .ok (.iload_n 3, 1) := by decide +kernel
theorem dX7_doItem_83 : decode cX7_doItem 83 = .ok (.iconst (-1), 1) := by decide +kernel
theorem dX7_doItem_84 : decode cX7_doItem 84 = .ok (.invokevirtual 330, 3) := by decide +kernel
theorem dX7_doItem_87 : decode cX7_doItem 87 = .ok (.ireturn, 1) := by decide +kernel
theorem dX7_doItem_88 : decode cX7_doItem 88 = .ok (.iload 4, 2) := by decide +kernel
theorem dX7_doItem_90 : decode cX7_doItem 90 = .ok (.bipush 42, 2) := by decide +kernel
theorem dX7_doItem_92 : decode cX7_doItem 92 = .ok (.if_icmp .ne 22, 3) := by decide +kernel
theorem dX7_doItem_95 : decode cX7_doItem 95 = .ok (.aload_n 0, 1) := by decide +kernel
theorem dX7_doItem_96 : decode cX7_doItem 96 = .ok (.iload_n 3, 1) := by decide +kernel
theorem dX7_doItem_97 : decode cX7_doItem 97 = .ok (.aload_n 0, 1) := by decide +kernel
theorem dX7_doItem_98 : decode cX7_doItem 98 = .ok (.getfield 65, 3) := by decide +kernel
theorem dX7_doItem_101 : decode cX7_doItem 101 = .ok (.iload_n 1, 1) := by decide +kernel
theorem dX7_doItem_102 : decode cX7_doItem 102 = .ok (.iconst 2, 1) := by decide +kernel
theorem dX7_doItem_103 : decode cX7_doItem 103 = .ok (.iadd, 1) := by decide +kernel
theorem dX7_doItem_104 : decode cX7_doItem 104 = .ok (.invokevirtual 320, 3) := by decide +kernel
theorem dX7_doItem_107 : decode cX7_doItem 107 = .ok (.invokestatic 333, 3) := by decide +kernel
theorem dX7_doItem_110 : decode cX7_doItem 110 = .ok (.invokevirtual 330, 3) := by decide +kernel
theorem dX7_doItem_113 : decode cX7_doItem 113 = .ok (.ireturn, 1) := by decide +kernel
theorem dX7_doItem_114 : decode cX7_doItem 114 = .ok (.aload_n 0, 1) := by decide +kernel
theorem dX7_doItem_115 : decode cX7_doItem 115 = .ok (.iload_n 3, 1) := by decide +kernel
theorem dX7_doItem_116 : decode cX7_doItem 116 = .ok (.iload 4, 2) := by decide +kernel
theorem dX7_doItem_118 : decode cX7_doItem 118 = .ok (.invokestatic 333, 3) := by decide +kernel
theorem dX7_doItem_121 : decode cX7_doItem 121 = .ok (.aload_n 0, 1) := by decide +kernel
theorem dX7_doItem_122 : decode cX7_doItem 122 = .ok (.getfield 65, 3) := by decide +kernel
theorem dX7_doItem_125 : decode cX7_doItem 125 = .ok (.iload_n 1, 1) := by decide +kernel
theorem dX7_doItem_126 : decode cX7_doItem 126 = .ok (.iconst 2, 1) := by decide +kernel
theorem dX7_doItem_127 : decode cX7_doItem 127 = .ok (.iadd, 1) := by decide +kernel
theorem dX7_doItem_128 : decode cX7_doItem 128 = .ok (.invokevirtual 320, 3) := by decide +kernel
theorem dX7_doItem_131 : decode cX7_doItem 131 = .ok (.invokestatic 333, 3) := by decide +kernel
theorem dX7_doItem_134 : decode cX7_doItem 134 = .ok (.invokevirtual 337, 3) := by decide +kernel
theorem dX7_doItem_137 : decode cX7_doItem 137 = .ok (.ireturn, 1) := by decide +kernel
theorem dX7_saveMatch_0 : decode cX7_saveMatch 0 = .ok (.aload_n 0, 1) := by decide +kernel
theorem dX7_saveMatch_1 : decode cX7_saveMatch 1 = .ok (.getfield 43, 3) := by decide +kernel
theorem dX7_saveMatch_4 : decode cX7_saveMatch 4 = .ok (.aload_n 0, 1) := by decide +kernel
theorem dX7_saveMatch_5 : decode cX7_saveMatch 5 = .ok (.getfield 29, 3) := by decide +kernel
theorem dX7_saveMatch_8 : decode cX7_saveMatch 8 = .ok (.invokevirtual 340, 3) := by decide +kernel
theorem dX7_saveMatch_11 : decode cX7_saveMatch 11 = .ok (.aload_n 0, 1) := by decide +kernel
theorem dX7_saveMatch_12 : decode cX7_saveMatch 12 = .ok (.getfield 46, 3) := by decide +kernel
theorem dX7_saveMatch_15 : decode cX7_saveMatch 15 = .ok (.aload_n 0, 1) := by decide +kernel
theorem dX7_saveMatch_16 : decode cX7_saveMatch 16 = .ok (.getfield 33, 3) := by decide +kernel
theorem dX7_saveMatch_19 : decode cX7_saveMatch 19 = .ok (.invokevirtual 340, 3) := by decide +kernel
theorem dX7_saveMatch_22 : decode cX7_saveMatch 22 = .ok (.aload_n 0, 1) := by decide +kernel
theorem dX7_saveMatch_23 : decode cX7_saveMatch 23 = .ok (.getfield 49, 3) := by decide +kernel
theorem dX7_saveMatch_26 : decode cX7_saveMatch 26 = .ok (.aload_n 0, 1) := by decide +kernel
theorem dX7_saveMatch_27 : decode cX7_saveMatch 27 = .ok (.getfield 39, 3) := by decide +kernel
theorem dX7_saveMatch_30 : decode cX7_saveMatch 30 = .ok (.invokevirtual 344, 3) := by decide +kernel
theorem dX7_saveMatch_33 : decode cX7_saveMatch 33 = .ok (.return_, 1) := by decide +kernel
theorem dX7_restoreMatch_0 : decode cX7_restoreMatch 0 = .ok (.aload_n 0, 1) := by decide +kernel
theorem dX7_restoreMatch_1 : decode cX7_restoreMatch 1 = .ok (.getfield 29, 3) := by decide +kernel
theorem dX7_restoreMatch_4 : decode cX7_restoreMatch 4 = .ok (.aload_n 0, 1) := by decide +kernel
theorem dX7_restoreMatch_5 : decode cX7_restoreMatch 5 = .ok (.getfield 43, 3) := by decide +kernel
theorem dX7_restoreMatch_8 : decode cX7_restoreMatch 8 = .ok (.invokevirtual 340, 3) := by decide +kernel
theorem dX7_restoreMatch_11 : decode cX7_restoreMatch 11 = .ok (.aload_n 0, 1) := by decide +kernel
theorem dX7_restoreMatch_12 : decode cX7_restoreMatch 12 = .ok (.getfield 33, 3) := by decide +kernel
theorem dX7_restoreMatch_15 : decode cX7_restoreMatch 15 = .ok (.aload_n 0, 1) := by decide +kernel
theorem dX7_restoreMatch_16 : decode cX7_restoreMatch 16 = .ok (.getfield 46, 3) := by decide +kernel
theorem dX7_restoreMatch_19 : decode cX7_restoreMatch 19 = .ok (.invokevirtual 340, 3) := by decide +kernel
theorem dX7_restoreMatch_22 : decode cX7_restoreMatch 22 = .ok (.aload_n 0, 1) := by decide +kernel
theorem dX7_restoreMatch_23 : decode cX7_restoreMatch 23 = .ok (.getfield 39, 3) := by decide +kernel
theorem dX7_restoreMatch_26 : decode cX7_restoreMatch 26 = .ok (.aload_n 0, 1) := by decide +kernel
theorem dX7_restoreMatch_27 : decode cX7_restoreMatch 27 = .ok (.getfield 49, 3) := by decide +kernel
theorem dX7_restoreMatch_30 : decode cX7_restoreMatch 30 = .ok (.invokevirtual 344, 3) := by decide +kernel
theorem dX7_restoreMatch_33 : decode cX7_restoreMatch 33 = .ok (.return_, 1) := by decide +kernel
theorem dX7_takeCourts_0 : decode cX7_takeCourts 0 = .ok (.aload_n 0, 1) := by decide +kernel
theorem dX7_takeCourts_1 : decode cX7_takeCourts 1 = .ok (.getfield 72, 3) := by decide +kernel
theorem dX7_takeCourts_4 : decode cX7_takeCourts 4 = .ok (.iconst 0, 1) := by decide +kernel
theorem dX7_takeCourts_5 : decode cX7_takeCourts 5 = .ok (.aload_n 0, 1) := by decide +kernel
theorem dX7_takeCourts_6 : decode cX7_takeCourts 6 = .ok (.getfield 29, 3) := by decide +kernel
theorem dX7_takeCourts_9 : decode cX7_takeCourts 9 = .ok (.getfield 347, 3) := by decide +kernel
theorem dX7_takeCourts_12 : decode cX7_takeCourts 12 = .ok (.iconst 0, 1) := by decide +kernel
theorem dX7_takeCourts_13 : decode cX7_takeCourts 13 = .ok (.invokevirtual 267, 3) := by decide +kernel
theorem dX7_takeCourts_16 : decode cX7_takeCourts 16 = .ok (.aload_n 0, 1) := by decide +kernel
theorem dX7_takeCourts_17 : decode cX7_takeCourts 17 = .ok (.getfield 72, 3) := by decide +kernel
theorem dX7_takeCourts_20 : decode cX7_takeCourts 20 = .ok (.iconst 1, 1) := by decide +kernel
theorem dX7_takeCourts_21 : decode cX7_takeCourts 21 = .ok (.aload_n 0, 1) := by decide +kernel
theorem dX7_takeCourts_22 : decode cX7_takeCourts 22 = .ok (.getfield 33, 3) := by decide +kernel
theorem dX7_takeCourts_25 : decode cX7_takeCourts 25 = .ok (.getfield 347, 3) := by decide +kernel
theorem dX7_takeCourts_28 : decode cX7_takeCourts 28 = .ok (.iconst 0, 1) := by decide +kernel
theorem dX7_takeCourts_29 : decode cX7_takeCourts 29 = .ok (.invokevirtual 267, 3) := by decide +kernel
theorem dX7_takeCourts_32 : decode cX7_takeCourts 32 = .ok (.return_, 1) := by decide +kernel
theorem dX7_chanceNow_0 : decode cX7_chanceNow 0 = .ok (.aload_n 0, 1) := by decide +kernel
theorem dX7_chanceNow_1 : decode cX7_chanceNow 1 = .ok (.invokevirtual 251, 3) := by decide +kernel
theorem dX7_chanceNow_4 : decode cX7_chanceNow 4 = .ok (.aload_n 0, 1) := by decide +kernel
theorem dX7_chanceNow_5 : decode cX7_chanceNow 5 = .ok (.aload_n 0, 1) := by decide +kernel
theorem dX7_chanceNow_6 : decode cX7_chanceNow 6 = .ok (.getfield 39, 3) := by decide +kernel
theorem dX7_chanceNow_9 : decode cX7_chanceNow 9 = .ok (.getfield 199, 3) := by decide +kernel
theorem dX7_chanceNow_12 : decode cX7_chanceNow 12 = .ok (.aload_n 0, 1) := by decide +kernel
theorem dX7_chanceNow_13 : decode cX7_chanceNow 13 = .ok (.getfield 29, 3) := by decide +kernel
theorem dX7_chanceNow_16 : decode cX7_chanceNow 16 = .ok (.getfield 202, 3) := by decide +kernel
theorem dX7_chanceNow_19 : decode cX7_chanceNow 19 = .ok (.aload_n 0, 1) := by decide +kernel
theorem dX7_chanceNow_20 : decode cX7_chanceNow 20 = .ok (.getfield 33, 3) := by decide +kernel
theorem dX7_chanceNow_23 : decode cX7_chanceNow 23 = .ok (.getfield 202, 3) := by decide +kernel
theorem dX7_chanceNow_26 : decode cX7_chanceNow 26 = .ok (.invokevirtual 271, 3) := by decide +kernel
theorem dX7_chanceNow_29 : decode cX7_chanceNow 29 = .ok (.ireturn, 1) := by decide +kernel
theorem dX7_chanceFrom_0 : decode cX7_chanceFrom 0 = .ok (.aload_n 0, 1) := by decide +kernel
theorem dX7_chanceFrom_1 : decode cX7_chanceFrom 1 = .ok (.getfield 72, 3) := by decide +kernel
theorem dX7_chanceFrom_4 : decode cX7_chanceFrom 4 = .ok (.aload_n 0, 1) := by decide +kernel
theorem dX7_chanceFrom_5 : decode cX7_chanceFrom 5 = .ok (.getfield 19, 3) := by decide +kernel
theorem dX7_chanceFrom_8 : decode cX7_chanceFrom 8 = .ok (.aload_n 0, 1) := by decide +kernel
theorem dX7_chanceFrom_9 : decode cX7_chanceFrom 9 = .ok (.getfield 23, 3) := by decide +kernel
theorem dX7_chanceFrom_12 : decode cX7_chanceFrom 12 = .ok (.iload_n 1, 1) := by decide +kernel
theorem dX7_chanceFrom_13 : decode cX7_chanceFrom 13 = .ok (.invokevirtual 350, 3) := by decide +kernel
theorem dX7_chanceFrom_16 : decode cX7_chanceFrom 16 = .ok (.aload_n 0, 1) := by decide +kernel
theorem dX7_chanceFrom_17 : decode cX7_chanceFrom 17 = .ok (.getfield 10, 3) := by decide +kernel
theorem dX7_chanceFrom_20 : decode cX7_chanceFrom 20 = .ok (.aload_n 0, 1) := by decide +kernel
theorem dX7_chanceFrom_21 : decode cX7_chanceFrom 21 = .ok (.getfield 29, 3) := by decide +kernel
theorem dX7_chanceFrom_24 : decode cX7_chanceFrom 24 = .ok (.getfield 208, 3) := by decide +kernel
theorem dX7_chanceFrom_27 : decode cX7_chanceFrom 27 = .ok (.aload_n 0, 1) := by decide +kernel
theorem dX7_chanceFrom_28 : decode cX7_chanceFrom 28 = .ok (.getfield 33, 3) := by decide +kernel
theorem dX7_chanceFrom_31 : decode cX7_chanceFrom 31 = .ok (.getfield 208, 3) := by decide +kernel
theorem dX7_chanceFrom_34 : decode cX7_chanceFrom 34 = .ok (.invokevirtual 296, 3) := by decide +kernel
theorem dX7_chanceFrom_37 : decode cX7_chanceFrom 37 = .ok (.istore 4, 2) := by decide +kernel
theorem dX7_chanceFrom_39 : decode cX7_chanceFrom 39 = .ok (.aload_n 0, 1) := by decide +kernel
theorem dX7_chanceFrom_40 : decode cX7_chanceFrom 40 = .ok (.getfield 72, 3) := by decide +kernel
theorem dX7_chanceFrom_43 : decode cX7_chanceFrom 43 = .ok (.iload_n 2, 1) := by decide +kernel
theorem dX7_chanceFrom_44 : decode cX7_chanceFrom 44 = .ok (.iload_n 3, 1) := by decide +kernel
theorem dX7_chanceFrom_45 : decode cX7_chanceFrom 45 = .ok (.iload 4, 2) := by decide +kernel
theorem dX7_chanceFrom_47 : decode cX7_chanceFrom 47 = .ok (.aload_n 0, 1) := by decide +kernel
theorem dX7_chanceFrom_48 : decode cX7_chanceFrom 48 = .ok (.getfield 10, 3) := by decide +kernel
theorem dX7_chanceFrom_51 : decode cX7_chanceFrom 51 = .ok (.iconst 1, 1) := by decide +kernel
theorem dX7_chanceFrom_52 : decode cX7_chanceFrom 52 = .ok (.invokevirtual 116, 3) := by decide +kernel
theorem dX7_chanceFrom_55 : decode cX7_chanceFrom 55 = .ok (.invokevirtual 354, 3) := by decide +kernel
theorem dX7_chanceFrom_58 : decode cX7_chanceFrom 58 = .ok (.ireturn, 1) := by decide +kernel
theorem dX7_chanceAfter_0 : decode cX7_chanceAfter 0 = .ok (.aload_n 0, 1) := by decide +kernel
theorem dX7_chanceAfter_1 : decode cX7_chanceAfter 1 = .ok (.getfield 72, 3) := by decide +kernel
theorem dX7_chanceAfter_4 : decode cX7_chanceAfter 4 = .ok (.iload_n 1, 1) := by decide +kernel
theorem dX7_chanceAfter_5 : decode cX7_chanceAfter 5 = .ok (.iload_n 2, 1) := by decide +kernel
theorem dX7_chanceAfter_6 : decode cX7_chanceAfter 6 = .ok (.iload_n 3, 1) := by decide +kernel
theorem dX7_chanceAfter_7 : decode cX7_chanceAfter 7 = .ok (.invokevirtual 358, 3) := by decide +kernel
theorem dX7_chanceAfter_10 : decode cX7_chanceAfter 10 = .ok (.aload_n 0, 1) := by decide +kernel
theorem dX7_chanceAfter_11 : decode cX7_chanceAfter 11 = .ok (.aload_n 0, 1) := by decide +kernel
theorem dX7_chanceAfter_12 : decode cX7_chanceAfter 12 = .ok (.getfield 39, 3) := by decide +kernel
theorem dX7_chanceAfter_15 : decode cX7_chanceAfter 15 = .ok (.getfield 199, 3) := by decide +kernel
theorem dX7_chanceAfter_18 : decode cX7_chanceAfter 18 = .ok (.aload_n 0, 1) := by decide +kernel
theorem dX7_chanceAfter_19 : decode cX7_chanceAfter 19 = .ok (.getfield 29, 3) := by decide +kernel
theorem dX7_chanceAfter_22 : decode cX7_chanceAfter 22 = .ok (.getfield 202, 3) := by decide +kernel
theorem dX7_chanceAfter_25 : decode cX7_chanceAfter 25 = .ok (.aload_n 0, 1) := by decide +kernel
theorem dX7_chanceAfter_26 : decode cX7_chanceAfter 26 = .ok (.getfield 33, 3) := by decide +kernel
theorem dX7_chanceAfter_29 : decode cX7_chanceAfter 29 = .ok (.getfield 202, 3) := by decide +kernel
theorem dX7_chanceAfter_32 : decode cX7_chanceAfter 32 = .ok (.invokevirtual 271, 3) := by decide +kernel
theorem dX7_chanceAfter_35 : decode cX7_chanceAfter 35 = .ok (.istore 4, 2) := by decide +kernel
theorem dX7_chanceAfter_37 : decode cX7_chanceAfter 37 = .ok (.aload_n 0, 1) := by decide +kernel
theorem dX7_chanceAfter_38 : decode cX7_chanceAfter 38 = .ok (.getfield 72, 3) := by decide +kernel
theorem dX7_chanceAfter_41 : decode cX7_chanceAfter 41 = .ok (.iload_n 1, 1) := by decide +kernel
theorem dX7_chanceAfter_42 : decode cX7_chanceAfter 42 = .ok (.iload_n 3, 1) := by decide +kernel
theorem dX7_chanceAfter_43 : decode cX7_chanceAfter 43 = .ok (.iload_n 2, 1) := by decide +kernel
theorem dX7_chanceAfter_44 : decode cX7_chanceAfter 44 = .ok (.invokevirtual 358, 3) := by decide +kernel
theorem dX7_chanceAfter_47 : decode cX7_chanceAfter 47 = .ok (.iload 4, 2) := by decide +kernel
theorem dX7_chanceAfter_49 : decode cX7_chanceAfter 49 = .ok (.ireturn, 1) := by decide +kernel
theorem dX7_isBetter_0 : decode cX7_isBetter 0 = .ok (.iload_n 0, 1) := by decide +kernel
theorem dX7_isBetter_1 : decode cX7_isBetter 1 = .ok (.ifCond .ne 16, 3) := by decide +kernel
theorem dX7_isBetter_4 : decode cX7_isBetter 4 = .ok (.iload_n 1, 1) := by decide +kernel
theorem dX7_isBetter_5 : decode cX7_isBetter 5 = .ok (.iload_n 2, 1) := by decide +kernel
theorem dX7_isBetter_6 : decode cX7_isBetter 6 = .ok (.if_icmp .le 7, 3) := by decide +kernel
theorem dX7_isBetter_9 : decode cX7_isBetter 9 = .ok (.iconst 1, 1) := by decide +kernel
theorem dX7_isBetter_10 : decode cX7_isBetter 10 = .ok (.goto 17, 3) := by decide +kernel
theorem dX7_isBetter_13 : decode cX7_isBetter 13 = .ok (.iconst 0, 1) := by decide +kernel
theorem dX7_isBetter_14 : decode cX7_isBetter 14 = .ok (.goto 13, 3) := by decide +kernel
theorem dX7_isBetter_17 : decode cX7_isBetter 17 = .ok (.iload_n 1, 1) := by decide +kernel
theorem dX7_isBetter_18 : decode cX7_isBetter 18 = .ok (.iload_n 2, 1) := by decide +kernel
theorem dX7_isBetter_19 : decode cX7_isBetter 19 = .ok (.if_icmp .ge 7, 3) := by decide +kernel
theorem dX7_isBetter_22 : decode cX7_isBetter 22 = .ok (.iconst 1, 1) := by decide +kernel
theorem dX7_isBetter_23 : decode cX7_isBetter 23 = .ok (.goto 4, 3) := by decide +kernel
theorem dX7_isBetter_26 : decode cX7_isBetter 26 = .ok (.iconst 0, 1) := by decide +kernel
theorem dX7_isBetter_27 : decode cX7_isBetter 27 = .ok (.ireturn, 1) := by decide +kernel
theorem dX7_tellRow_0 : decode cX7_tellRow 0 = .ok (.aload_n 0, 1) := by decide +kernel
theorem dX7_tellRow_1 : decode cX7_tellRow 1 = .ok (.iconst 1, 1) := by decide +kernel
theorem dX7_tellRow_2 : decode cX7_tellRow 2 = .ok (.putfield 76, 3) := by decide +kernel
theorem dX7_tellRow_5 : decode cX7_tellRow 5 = .ok (.aload_n 0, 1) := by decide +kernel
theorem dX7_tellRow_6 : decode cX7_tellRow 6 = .ok (.iload_n 1, 1) := by decide +kernel
theorem dX7_tellRow_7 : decode cX7_tellRow 7 = .ok (.putfield 80, 3) := by decide +kernel
theorem dX7_tellRow_10 : decode cX7_tellRow 10 = .ok (.return_, 1) := by decide +kernel

theorem dX8_init_0 : decode cX8_init 0 = .ok (.aload_n 0, 1) := by decide +kernel
theorem dX8_init_1 : decode cX8_init 1 = .ok (.invokespecial 3, 3) := by decide +kernel
theorem dX8_init_4 : decode cX8_init 4 = .ok (.aload_n 0, 1) := by decide +kernel
theorem dX8_init_5 : decode cX8_init 5 = .ok (.bipush 96, 2) := by decide +kernel
theorem dX8_init_7 : decode cX8_init 7 = .ok (.newarray .int, 2) := by decide +kernel
theorem dX8_init_9 : decode cX8_init 9 = .ok (.putfield 9, 3) := by decide +kernel
theorem dX8_init_12 : decode cX8_init 12 = .ok (.aload_n 0, 1) := by decide +kernel
theorem dX8_init_13 : decode cX8_init 13 = .ok (.iconst 2, 1) := by decide +kernel
theorem dX8_init_14 : decode cX8_init 14 = .ok (.newarray .int, 2) := by decide +kernel
theorem dX8_init_16 : decode cX8_init 16 = .ok (.dup, 1) := by decide +kernel
theorem dX8_init_17 : decode cX8_init 17 = .ok (.iconst 0, 1) := by decide +kernel
theorem dX8_init_18 : decode cX8_init 18 = .ok (.iconst (-1), 1) := by decide +kernel
theorem dX8_init_19 : decode cX8_init 19 = .ok (.iastore, 1) := by decide +kernel
theorem dX8_init_20 : decode cX8_init 20 = .ok (.dup, 1) := by decide +kernel
theorem dX8_init_21 : decode cX8_init 21 = .ok (.iconst 1, 1) := by decide +kernel
theorem dX8_init_22 : decode cX8_init 22 = .ok (.iconst (-1), 1) := by decide +kernel
theorem dX8_init_23 : decode cX8_init 23 = .ok (.iastore, 1) := by decide +kernel
theorem dX8_init_24 : decode cX8_init 24 = .ok (.putfield 13, 3) := by decide +kernel
theorem dX8_init_27 : decode cX8_init 27 = .ok (.aload_n 0, 1) := by decide +kernel
theorem dX8_init_28 : decode cX8_init 28 = .ok (.bipush 6, 2) := by decide +kernel
theorem dX8_init_30 : decode cX8_init 30 = .ok (.newarray .int, 2) := by decide +kernel
theorem dX8_init_32 : decode cX8_init 32 = .ok (.dup, 1) := by decide +kernel
theorem dX8_init_33 : decode cX8_init 33 = .ok (.iconst 0, 1) := by decide +kernel
theorem dX8_init_34 : decode cX8_init 34 = .ok (.bipush 25, 2) := by decide +kernel
theorem dX8_init_36 : decode cX8_init 36 = .ok (.iastore, 1) := by decide +kernel
theorem dX8_init_37 : decode cX8_init 37 = .ok (.dup, 1) := by decide +kernel
theorem dX8_init_38 : decode cX8_init 38 = .ok (.iconst 1, 1) := by decide +kernel
theorem dX8_init_39 : decode cX8_init 39 = .ok (.bipush 30, 2) := by decide +kernel
theorem dX8_init_41 : decode cX8_init 41 = .ok (.iastore, 1) := by decide +kernel
theorem dX8_init_42 : decode cX8_init 42 = .ok (.dup, 1) := by decide +kernel
theorem dX8_init_43 : decode cX8_init 43 = .ok (.iconst 2, 1) := by decide +kernel
theorem dX8_init_44 : decode cX8_init 44 = .ok (.bipush 15, 2) := by decide +kernel
theorem dX8_init_46 : decode cX8_init 46 = .ok (.iastore, 1) := by decide +kernel
theorem dX8_init_47 : decode cX8_init 47 = .ok (.dup, 1) := by decide +kernel
theorem dX8_init_48 : decode cX8_init 48 = .ok (.iconst 3, 1) := by decide +kernel
theorem dX8_init_49 : decode cX8_init 49 = .ok (.iconst 2, 1) := by decide +kernel
theorem dX8_init_50 : decode cX8_init 50 = .ok (.iastore, 1) := by decide +kernel
theorem dX8_init_51 : decode cX8_init 51 = .ok (.dup, 1) := by decide +kernel
theorem dX8_init_52 : decode cX8_init 52 = .ok (.iconst 4, 1) := by decide +kernel
theorem dX8_init_53 : decode cX8_init 53 = .ok (.bipush 6, 2) := by decide +kernel
theorem dX8_init_55 : decode cX8_init 55 = .ok (.iastore, 1) := by decide +kernel
theorem dX8_init_56 : decode cX8_init 56 = .ok (.dup, 1) := by decide +kernel
theorem dX8_init_57 : decode cX8_init 57 = .ok (.iconst 5, 1) := by decide +kernel
theorem dX8_init_58 : decode cX8_init 58 = .ok (.iconst 2, 1) := by decide +kernel
theorem dX8_init_59 : decode cX8_init 59 = .ok (.iastore, 1) := by decide +kernel
theorem dX8_init_60 : decode cX8_init 60 = .ok (.putfield 16, 3) := by decide +kernel
theorem dX8_init_63 : decode cX8_init 63 = .ok (.aload_n 0, 1) := by decide +kernel
theorem dX8_init_64 : decode cX8_init 64 = .ok (.bipush 12, 2) := by decide +kernel
theorem dX8_init_66 : decode cX8_init 66 = .ok (.newarray .int, 2) := by decide +kernel
theorem dX8_init_68 : decode cX8_init 68 = .ok (.putfield 19, 3) := by decide +kernel
theorem dX8_init_71 : decode cX8_init 71 = .ok (.aload_n 0, 1) := by decide +kernel
theorem dX8_init_72 : decode cX8_init 72 = .ok (.iconst 2, 1) := by decide +kernel
theorem dX8_init_73 : decode cX8_init 73 = .ok (.newarray .boolean, 2) := by decide +kernel
theorem dX8_init_75 : decode cX8_init 75 = .ok (.putfield 22, 3) := by decide +kernel
theorem dX8_init_78 : decode cX8_init 78 = .ok (.aload_n 0, 1) := by decide +kernel
theorem dX8_init_79 : decode cX8_init 79 = .ok (.bipush 106, 2) := by decide +kernel
theorem dX8_init_81 : decode cX8_init 81 = .ok (.newarray .int, 2) := by decide +kernel
theorem dX8_init_83 : decode cX8_init 83 = .ok (.putfield 26, 3) := by decide +kernel
theorem dX8_init_86 : decode cX8_init 86 = .ok (.aload_n 0, 1) := by decide +kernel
theorem dX8_init_87 : decode cX8_init 87 = .ok (.bipush 106, 2) := by decide +kernel
theorem dX8_init_89 : decode cX8_init 89 = .ok (.newarray .int, 2) := by decide +kernel
theorem dX8_init_91 : decode cX8_init 91 = .ok (.putfield 29, 3) := by decide +kernel
theorem dX8_init_94 : decode cX8_init 94 = .ok (.aload_n 0, 1) := by decide +kernel
theorem dX8_init_95 : decode cX8_init 95 = .ok (.bipush 12, 2) := by decide +kernel
theorem dX8_init_97 : decode cX8_init 97 = .ok (.newarray .int, 2) := by decide +kernel
theorem dX8_init_99 : decode cX8_init 99 = .ok (.putfield 32, 3) := by decide +kernel
theorem dX8_init_102 : decode cX8_init 102 = .ok (.aload_n 0, 1) := by decide +kernel
theorem dX8_init_103 : decode cX8_init 103 = .ok (.bipush 12, 2) := by decide +kernel
theorem dX8_init_105 : decode cX8_init 105 = .ok (.newarray .int, 2) := by decide +kernel
theorem dX8_init_107 : decode cX8_init 107 = .ok (.putfield 35, 3) := by decide +kernel
theorem dX8_init_110 : decode cX8_init 110 = .ok (.aload_n 0, 1) := by decide +kernel
theorem dX8_init_111 : decode cX8_init 111 = .ok (.bipush 100, 2) := by decide +kernel
theorem dX8_init_113 : decode cX8_init 113 = .ok (.newarray .byte, 2) := by decide +kernel
theorem dX8_init_115 : decode cX8_init 115 = .ok (.putfield 38, 3) := by decide +kernel
theorem dX8_init_118 : decode cX8_init 118 = .ok (.aload_n 0, 1) := by decide +kernel
theorem dX8_init_119 : decode cX8_init 119 = .ok (.bipush 6, 2) := by decide +kernel
theorem dX8_init_121 : decode cX8_init 121 = .ok (.newarray .int, 2) := by decide +kernel
theorem dX8_init_123 : decode cX8_init 123 = .ok (.putfield 42, 3) := by decide +kernel
theorem dX8_init_126 : decode cX8_init 126 = .ok (.aload_n 0, 1) := by decide +kernel
theorem dX8_init_127 : decode cX8_init 127 = .ok (.bipush 12, 2) := by decide +kernel
theorem dX8_init_129 : decode cX8_init 129 = .ok (.newarray .int, 2) := by decide +kernel
theorem dX8_init_131 : decode cX8_init 131 = .ok (.putfield 45, 3) := by decide +kernel
theorem dX8_init_134 : decode cX8_init 134 = .ok (.aload_n 0, 1) := by decide +kernel
theorem dX8_init_135 : decode cX8_init 135 = .ok (.bipush 72, 2) := by decide +kernel
theorem dX8_init_137 : decode cX8_init 137 = .ok (.newarray .int, 2) := by decide +kernel
theorem dX8_init_139 : decode cX8_init 139 = .ok (.putfield 48, 3) := by decide +kernel
theorem dX8_init_142 : decode cX8_init 142 = .ok (.aload_n 0, 1) := by decide +kernel
theorem dX8_init_143 : decode cX8_init 143 = .ok (.ldc 51, 2) := by decide +kernel
theorem dX8_init_145 : decode cX8_init 145 = .ok (.newarray .long, 2) := by decide +kernel
theorem dX8_init_147 : decode cX8_init 147 = .ok (.putfield 52, 3) := by decide +kernel
theorem dX8_init_150 : decode cX8_init 150 = .ok (.iconst 0, 1) := by decide +kernel
theorem dX8_init_151 : decode cX8_init 151 = .ok (.istore_n 1, 1) := by decide +kernel
theorem dX8_init_152 : decode cX8_init 152 = .ok (.iload_n 1, 1) := by decide +kernel
theorem dX8_init_153 : decode cX8_init 153 = .ok (.aload_n 0, 1) := by decide +kernel
theorem dX8_init_154 : decode cX8_init 154 = .ok (.getfield 9, 3) := by decide +kernel
theorem dX8_init_157 : decode cX8_init 157 = .ok (.arraylength, 1) := by decide +kernel
theorem dX8_init_158 : decode cX8_init 158 = .ok (.if_icmp .ge 17, 3) := by decide +kernel
theorem dX8_init_161 : decode cX8_init 161 = .ok (.aload_n 0, 1) := by decide +kernel
theorem dX8_init_162 : decode cX8_init 162 = .ok (.getfield 9, 3) := by decide +kernel
theorem dX8_init_165 : decode cX8_init 165 = .ok (.iload_n 1, 1) := by decide +kernel
theorem dX8_init_166 : decode cX8_init 166 = .ok (.bipush 50, 2) := by decide +kernel
theorem dX8_init_168 : decode cX8_init 168 = .ok (.iastore, 1) := by decide +kernel
theorem dX8_init_169 : decode cX8_init 169 = .ok (.iinc 1 1, 3) := by decide +kernel
theorem dX8_init_172 : decode cX8_init 172 = .ok (.goto (-20), 3) := by decide +kernel
theorem dX8_init_175 : decode cX8_init 175 = .ok (.aload_n 0, 1) := by decide +kernel
theorem dX8_init_176 : decode cX8_init 176 = .ok (.getfield 26, 3) := by decide +kernel
theorem dX8_init_179 : decode cX8_init 179 = .ok (.iconst 0, 1) := by decide +kernel
theorem dX8_init_180 : decode cX8_init 180 = .ok (.iconst (-1), 1) := by decide +kernel
theorem dX8_init_181 : decode cX8_init 181 = .ok (.iastore, 1) := by decide +kernel
theorem dX8_init_182 : decode cX8_init 182 = .ok (.aload_n 0, 1) := by decide +kernel
theorem dX8_init_183 : decode cX8_init 183 = .ok (.getfield 26, 3) := by decide +kernel
theorem dX8_init_186 : decode cX8_init 186 = .ok (.iconst 2, 1) := by decide +kernel
theorem dX8_init_187 : decode cX8_init 187 = .ok (.iconst (-1), 1) := by decide +kernel
theorem dX8_init_188 : decode cX8_init 188 = .ok (.iastore, 1) := by decide +kernel
theorem dX8_init_189 : decode cX8_init 189 = .ok (.aload_n 0, 1) := by decide +kernel
theorem dX8_init_190 : decode cX8_init 190 = .ok (.getfield 26, 3) := by decide +kernel
theorem dX8_init_193 : decode cX8_init 193 = .ok (.iconst 4, 1) := by decide +kernel
theorem dX8_init_194 : decode cX8_init 194 = .ok (.iconst (-1), 1) := by decide +kernel
theorem dX8_init_195 : decode cX8_init 195 = .ok (.iastore, 1) := by decide +kernel
theorem dX8_init_196 : decode cX8_init 196 = .ok (.aload_n 0, 1) := by decide +kernel
theorem dX8_init_197 : decode cX8_init 197 = .ok (.getfield 26, 3) := by decide +kernel
theorem dX8_init_200 : decode cX8_init 200 = .ok (.iconst 5, 1) := by decide +kernel
theorem dX8_init_201 : decode cX8_init 201 = .ok (.iconst (-1), 1) := by decide +kernel
theorem dX8_init_202 : decode cX8_init 202 = .ok (.iastore, 1) := by decide +kernel
theorem dX8_init_203 : decode cX8_init 203 = .ok (.iconst 0, 1) := by decide +kernel
theorem dX8_init_204 : decode cX8_init 204 = .ok (.istore_n 1, 1) := by decide +kernel
theorem dX8_init_205 : decode cX8_init 205 = .ok (.iload_n 1, 1) := by decide +kernel
theorem dX8_init_206 : decode cX8_init 206 = .ok (.iconst 2, 1) := by decide +kernel
theorem dX8_init_207 : decode cX8_init 207 = .ok (.if_icmp .ge 40, 3) := by decide +kernel
theorem dX8_init_210 : decode cX8_init 210 = .ok (.aload_n 0, 1) := by decide +kernel
theorem dX8_init_211 : decode cX8_init 211 = .ok (.iload_n 1, 1) := by decide +kernel
theorem dX8_init_212 : decode cX8_init 212 = .ok (.iconst 4, 1) := by decide +kernel
theorem dX8_init_213 : decode cX8_init 213 = .ok (.iconst (-1), 1) := by decide +kernel
theorem dX8_init_214 : decode cX8_init 214 = .ok (.invokevirtual 56, 3) := by decide +kernel
theorem dX8_init_217 : decode cX8_init 217 = .ok (.iconst 0, 1) := by decide +kernel
theorem dX8_init_218 : decode cX8_init 218 = .ok (.istore_n 2, 1) := by decide +kernel
theorem dX8_init_219 : decode cX8_init 219 = .ok (.iload_n 2, 1) := by decide +kernel
theorem dX8_init_220 : decode cX8_init 220 = .ok (.bipush 6, 2) := by decide +kernel
theorem dX8_init_222 : decode cX8_init 222 = .ok (.if_icmp .ge 19, 3) := by decide +kernel
theorem dX8_init_225 : decode cX8_init 225 = .ok (.aload_n 0, 1) := by decide +kernel
theorem dX8_init_226 : decode cX8_init 226 = .ok (.iload_n 1, 1) := by decide +kernel
theorem dX8_init_227 : decode cX8_init 227 = .ok (.bipush 8, 2) := by decide +kernel
theorem dX8_init_229 : decode cX8_init 229 = .ok (.iload_n 2, 1) := by decide +kernel
theorem dX8_init_230 : decode cX8_init 230 = .ok (.iadd, 1) := by decide +kernel
theorem dX8_init_231 : decode cX8_init 231 = .ok (.iconst (-1), 1) := by decide +kernel
theorem dX8_init_232 : decode cX8_init 232 = .ok (.invokevirtual 56, 3) := by decide +kernel
theorem dX8_init_235 : decode cX8_init 235 = .ok (.iinc 2 1, 3) := by decide +kernel
theorem dX8_init_238 : decode cX8_init 238 = .ok (.goto (-19), 3) := by decide +kernel
theorem dX8_init_241 : decode cX8_init 241 = .ok (.iinc 1 1, 3) := by decide +kernel
theorem dX8_init_244 : decode cX8_init 244 = .ok (.goto (-39), 3) := by decide +kernel
theorem dX8_init_247 : decode cX8_init 247 = .ok (.aload_n 0, 1) := by decide +kernel
theorem dX8_init_248 : decode cX8_init 248 = .ok (.invokevirtual 60, 3) := by decide +kernel
theorem dX8_init_251 : decode cX8_init 251 = .ok (.return_, 1) := by decide +kernel
theorem dX8_thrown_0 : decode cX8_thrown 0 = .ok (.aload_n 0, 1) := by decide +kernel
theorem dX8_thrown_1 : decode cX8_thrown 1 = .ok (.getfield 63, 3) := by decide +kernel
theorem dX8_thrown_4 : decode cX8_thrown 4 = .ok (.ireturn, 1) := by decide +kernel
theorem dX8_in_0 : decode cX8_in 0 = .ok (.iload_n 0, 1) := by decide +kernel
theorem dX8_in_1 : decode cX8_in 1 = .ok (.iload_n 1, 1) := by decide +kernel
theorem dX8_in_2 : decode cX8_in 2 = .ok (.if_icmp .lt 12, 3) := by decide +kernel
theorem dX8_in_5 : decode cX8_in 5 = .ok (.iload_n 0, 1) := by decide +kernel
theorem dX8_in_6 : decode cX8_in 6 = .ok (.iload_n 2, 1) := by decide +kernel
theorem dX8_in_7 : decode cX8_in 7 = .ok (.if_icmp .gt 7, 3) := by decide +kernel
theorem dX8_in_10 : decode cX8_in 10 = .ok (.iconst 1, 1) := by decide +kernel
theorem dX8_in_11 : decode cX8_in 11 = .ok (.goto 4, 3) := by decide +kernel
theorem dX8_in_14 : decode cX8_in 14 = .ok (.iconst 0, 1) := by decide +kernel
theorem dX8_in_15 : decode cX8_in 15 = .ok (.ireturn, 1) := by decide +kernel
theorem dX8_isTeam_0 : decode cX8_isTeam 0 = .ok (.iload_n 0, 1) := by decide +kernel
theorem dX8_isTeam_1 : decode cX8_isTeam 1 = .ok (.ifCond .eq 8, 3) := by decide +kernel
theorem dX8_isTeam_4 : decode cX8_isTeam 4 = .ok (.iload_n 0, 1) := by decide +kernel
theorem dX8_isTeam_5 : decode cX8_isTeam 5 = .ok (.iconst 1, 1) := by decide +kernel
theorem dX8_isTeam_6 : decode cX8_isTeam 6 = .ok (.if_icmp .ne 7, 3) := by decide +kernel
theorem dX8_isTeam_9 : decode cX8_isTeam 9 = .ok (.iconst 1, 1) := by decide +kernel
theorem dX8_isTeam_10 : decode cX8_isTeam 10 = .ok (.goto 4, 3) := by decide +kernel
theorem dX8_isTeam_13 : decode cX8_isTeam 13 = .ok (.iconst 0, 1) := by decide +kernel
theorem dX8_isTeam_14 : decode cX8_isTeam 14 = .ok (.ireturn, 1) := by decide +kernel
theorem dX8_isPlayer_0 : decode cX8_isPlayer 0 = .ok (.iload_n 0, 1) := by decide +kernel
theorem dX8_isPlayer_1 : decode cX8_isPlayer 1 = .ok (.iconst 0, 1) := by decide +kernel
theorem dX8_isPlayer_2 : decode cX8_isPlayer 2 = .ok (.bipush 11, 2) := by decide +kernel
theorem dX8_isPlayer_4 : decode cX8_isPlayer 4 = .ok (.invokestatic 67, 3) := by decide +kernel
theorem dX8_isPlayer_7 : decode cX8_isPlayer 7 = .ok (.ireturn, 1) := by decide +kernel
theorem dX8_get_0 : decode cX8_get 0 = .ok (.aload_n 0, 1) := by decide +kernel
theorem dX8_get_1 : decode cX8_get 1 = .ok (.getfield 26, 3) := by decide +kernel
theorem dX8_get_4 : decode cX8_get 4 = .ok (.bipush 6, 2) := by decide +kernel
theorem dX8_get_6 : decode cX8_get 6 = .ok (.bipush 50, 2) := by decide +kernel
theorem dX8_get_8 : decode cX8_get 8 = .ok (.iload_n 1, 1) := by decide +kernel
theorem dX8_get_9 : decode cX8_get 9 = .ok (.imul, 1) := by decide +kernel
theorem dX8_get_10 : decode cX8_get 10 = .ok (.iadd, 1) := by decide +kernel
theorem dX8_get_11 : decode cX8_get 11 = .ok (.iload_n 2, 1) := by decide +kernel
theorem dX8_get_12 : decode cX8_get 12 = .ok (.iadd, 1) := by decide +kernel
theorem dX8_get_13 : decode cX8_get 13 = .ok (.iaload, 1) := by decide +kernel
theorem dX8_get_14 : decode cX8_get 14 = .ok (.ireturn, 1) := by decide +kernel
theorem dX8_put_0 : decode cX8_put 0 = .ok (.aload_n 0, 1) := by decide +kernel
theorem dX8_put_1 : decode cX8_put 1 = .ok (.getfield 26, 3) := by decide +kernel
theorem dX8_put_4 : decode cX8_put 4 = .ok (.bipush 6, 2) := by decide +kernel
theorem dX8_put_6 : decode cX8_put 6 = .ok (.bipush 50, 2) := by decide +kernel
theorem dX8_put_8 : decode cX8_put 8 = .ok (.iload_n 1, 1) := by decide +kernel
theorem dX8_put_9 : decode cX8_put 9 = .ok (.imul, 1) := by decide +kernel
theorem dX8_put_10 : decode cX8_put 10 = .ok (.iadd, 1) := by decide +kernel
theorem dX8_put_11 : decode cX8_put 11 = .ok (.iload_n 2, 1) := by decide +kernel
theorem dX8_put_12 : decode cX8_put 12 = .ok (.iadd, 1) := by decide +kernel
theorem dX8_put_13 : decode cX8_put 13 = .ok (.iload_n 3, 1) := by decide +kernel
theorem dX8_put_14 : decode cX8_put 14 = .ok (.iastore, 1) := by decide +kernel
theorem dX8_put_15 : decode cX8_put 15 = .ok (.return_, 1) := by decide +kernel
theorem dX8_isOn_0 : decode cX8_isOn 0 = .ok (.aload_n 0, 1) := by decide +kernel
theorem dX8_isOn_1 : decode cX8_isOn 1 = .ok (.getfield 26, 3) := by decide +kernel
theorem dX8_isOn_4 : decode cX8_isOn 4 = .ok (.iconst 1, 1) := by decide +kernel
theorem dX8_isOn_5 : decode cX8_isOn 5 = .ok (.iaload, 1) := by decide +kernel
theorem dX8_isOn_6 : decode cX8_isOn 6 = .ok (.iconst 1, 1) := by decide +kernel
theorem dX8_isOn_7 : decode cX8_isOn 7 = .ok (.if_icmp .ne 7, 3) := by decide +kernel
theorem dX8_isOn_10 : decode cX8_isOn 10 = .ok (.iconst 1, 1) := by decide +kernel
theorem dX8_isOn_11 : decode cX8_isOn 11 = .ok (.goto 4, 3) := by decide +kernel
theorem dX8_isOn_14 : decode cX8_isOn 14 = .ok (.iconst 0, 1) := by decide +kernel
theorem dX8_isOn_15 : decode cX8_isOn 15 = .ok (.ireturn, 1) := by decide +kernel
theorem dX8_stand_0 : decode cX8_stand 0 = .ok (.iconst 0, 1) := by decide +kernel
theorem dX8_stand_1 : decode cX8_stand 1 = .ok (.istore_n 1, 1) := by decide +kernel
theorem dX8_stand_2 : decode cX8_stand 2 = .ok (.iload_n 1, 1) := by decide +kernel
theorem dX8_stand_3 : decode cX8_stand 3 = .ok (.iconst 2, 1) := by decide +kernel
theorem dX8_stand_4 : decode cX8_stand 4 = .ok (.if_icmp .ge 93, 3) := by decide +kernel
theorem dX8_stand_7 : decode cX8_stand 7 = .ok (.iconst 0, 1) := by decide +kernel
theorem dX8_stand_8 : decode cX8_stand 8 = .ok (.istore_n 2, 1) := by decide +kernel
theorem dX8_stand_9 : decode cX8_stand 9 = .ok (.iload_n 2, 1) := by decide +kernel
theorem dX8_stand_10 : decode cX8_stand 10 = .ok (.bipush 6, 2) := by decide +kernel
theorem dX8_stand_12 : decode cX8_stand 12 = .ok (.if_icmp .ge 79, 3) := by decide +kernel
theorem dX8_stand_15 : decode cX8_stand 15 = .ok (.aload_n 0, 1) := by decide +kernel
theorem dX8_stand_16 : decode cX8_stand 16 = .ok (.getfield 32, 3) := by decide +kernel
theorem dX8_stand_19 : decode cX8_stand 19 = .ok (.bipush 6, 2) := by decide +kernel
theorem dX8_stand_21 : decode cX8_stand 21 = .ok (.iload_n 1, 1) := by decide +kernel
theorem dX8_stand_22 : decode cX8_stand 22 = .ok (.imul, 1) := by decide +kernel
theorem dX8_stand_23 : decode cX8_stand 23 = .ok (.iload_n 2, 1) := by decide +kernel
theorem dX8_stand_24 : decode cX8_stand 24 = .ok (.iadd, 1) := by decide +kernel
theorem dX8_stand_25 : decode cX8_stand 25 = .ok (.iload_n 2, 1) := by decide +kernel
theorem dX8_stand_26 : decode cX8_stand 26 = .ok (.iconst 2, 1) := by decide +kernel
theorem dX8_stand_27 : decode cX8_stand 27 = .ok (.if_icmp .ge 9, 3) := by decide +kernel
theorem dX8_stand_30 : decode cX8_stand 30 = .ok (.sipush 800, 3) := by decide +kernel
theorem dX8_stand_33 : decode cX8_stand 33 = .ok (.goto 22, 3) := by decide +kernel
theorem dX8_stand_36 : decode cX8_stand 36 = .ok (.iload_n 2, 1) := by decide +kernel
theorem dX8_stand_37 : decode cX8_stand 37 = .ok (.iconst 2, 1) := by decide +kernel
theorem dX8_stand_38 : decode cX8_stand 38 = .ok (.if_icmp .eq 8, 3) := by decide +kernel
theorem dX8_stand_41 : decode cX8_stand 41 = .ok (.iload_n 2, 1) := by decide +kernel
theorem dX8_stand_42 : decode cX8_stand 42 = .ok (.iconst 5, 1) := by decide +kernel
theorem dX8_stand_43 : decode cX8_stand 43 = .ok (.if_icmp .ne 9, 3) := by decide +kernel
theorem dX8_stand_46 : decode cX8_stand 46 = .ok (.sipush 500, 3) := by decide +kernel
theorem dX8_stand_49 : decode cX8_stand 49 = .ok (.goto 6, 3) := by decide +kernel
theorem dX8_stand_52 : decode cX8_stand 52 = .ok (.sipush 200, 3) := by decide +kernel
theorem dX8_stand_55 : decode cX8_stand 55 = .ok (.iastore, 1) := by decide +kernel
theorem dX8_stand_56 : decode cX8_stand 56 = .ok (.aload_n 0, 1) := by decide +kernel
theorem dX8_stand_57 : decode cX8_stand 57 = .ok (.getfield 35, 3) := by decide +kernel
theorem dX8_stand_60 : decode cX8_stand 60 = .ok (.bipush 6, 2) := by decide +kernel
theorem dX8_stand_62 : decode cX8_stand 62 = .ok (.iload_n 1, 1) := by decide +kernel
theorem dX8_stand_63 : decode cX8_stand 63 = .ok (.imul, 1) := by decide +kernel
theorem dX8_stand_64 : decode cX8_stand 64 = .ok (.iload_n 2, 1) := by decide +kernel
theorem dX8_stand_65 : decode cX8_stand 65 = .ok (.iadd, 1) := by decide +kernel
theorem dX8_stand_66 : decode cX8_stand 66 = .ok (.iload_n 2, 1) := by decide +kernel
theorem dX8_stand_67 : decode cX8_stand 67 = .ok (.ifCond .eq 8, 3) := by decide +kernel
theorem dX8_stand_70 : decode cX8_stand 70 = .ok (.iload_n 2, 1) := by decide +kernel
theorem dX8_stand_71 : decode cX8_stand 71 = .ok (.iconst 3, 1) := by decide +kernel
theorem dX8_stand_72 : decode cX8_stand 72 = .ok (.if_icmp .le 9, 3) := by decide +kernel
theorem dX8_stand_75 : decode cX8_stand 75 = .ok (.sipush 800, 3) := by decide +kernel
theorem dX8_stand_78 : decode cX8_stand 78 = .ok (.goto 6, 3) := by decide +kernel
theorem dX8_stand_81 : decode cX8_stand 81 = .ok (.sipush 200, 3) := by decide +kernel
theorem dX8_stand_84 : decode cX8_stand 84 = .ok (.iastore, 1) := by decide +kernel
theorem dX8_stand_85 : decode cX8_stand 85 = .ok (.iinc 2 1, 3) := by decide +kernel
theorem dX8_stand_88 : decode cX8_stand 88 = .ok (.goto (-79), 3) := by decide +kernel
theorem dX8_stand_91 : decode cX8_stand 91 = .ok (.iinc 1 1, 3) := by decide +kernel
theorem dX8_stand_94 : decode cX8_stand 94 = .ok (.goto (-92), 3) := by decide +kernel
theorem dX8_stand_97 : decode cX8_stand 97 = .ok (.return_, 1) := by decide +kernel
theorem dX8_skillOf_0 : decode cX8_skillOf 0 = .ok (.aload_n 0, 1) := by decide +kernel
theorem dX8_skillOf_1 : decode cX8_skillOf 1 = .ok (.getfield 9, 3) := by decide +kernel
theorem dX8_skillOf_4 : decode cX8_skillOf 4 = .ok (.bipush 12, 2) := by decide +kernel
theorem dX8_skillOf_6 : decode cX8_skillOf 6 = .ok (.iload_n 1, 1) := by decide +kernel
theorem dX8_skillOf_7 : decode cX8_skillOf 7 = .ok (.imul, 1) := by decide +kernel
theorem dX8_skillOf_8 : decode cX8_skillOf 8 = .ok (.iload_n 2, 1) := by decide +kernel
theorem dX8_skillOf_9 : decode cX8_skillOf 9 = .ok (.iadd, 1) := by decide +kernel
theorem dX8_skillOf_10 : decode cX8_skillOf 10 = .ok (.iconst 4, 1) := by decide +kernel
theorem dX8_skillOf_11 : decode cX8_skillOf 11 = .ok (.imul, 1) := by decide +kernel
theorem dX8_skillOf_12 : decode cX8_skillOf 12 = .ok (.iload_n 3, 1) := by decide +kernel
theorem dX8_skillOf_13 : decode cX8_skillOf 13 = .ok (.iadd, 1) := by decide +kernel
theorem dX8_skillOf_14 : decode cX8_skillOf 14 = .ok (.iaload, 1) := by decide +kernel
theorem dX8_skillOf_15 : decode cX8_skillOf 15 = .ok (.ireturn, 1) := by decide +kernel
theorem dX8_skill_0 : decode cX8_skill 0 = .ok (.aload_n 0, 1) := by decide +kernel
theorem dX8_skill_1 : decode cX8_skill 1 = .ok (.iconst 0, 1) := by decide +kernel
theorem dX8_skill_2 : decode cX8_skill 2 = .ok (.putfield 63, 3) := by decide +kernel
theorem dX8_skill_5 : decode cX8_skill 5 = .ok (.iload_n 1, 1) := by decide +kernel
theorem dX8_skill_6 : decode cX8_skill 6 = .ok (.invokestatic 71, 3) := by decide +kernel
theorem dX8_skill_9 : decode cX8_skill 9 = .ok (.ifCond .eq 30, 3) := by decide +kernel
theorem dX8_skill_12 : decode cX8_skill 12 = .ok (.iload_n 2, 1) := by decide +kernel
theorem dX8_skill_13 : decode cX8_skill 13 = .ok (.invokestatic 75, 3) := by decide +kernel
theorem dX8_skill_16 : decode cX8_skill 16 = .ok (.ifCond .eq 23, 3) := by decide +kernel
theorem dX8_skill_19 : decode cX8_skill 19 = .ok (.iload_n 3, 1) := by decide +kernel
theorem dX8_skill_20 : decode cX8_skill 20 = .ok (.iconst 0, 1) := by decide +kernel
theorem dX8_skill_21 : decode cX8_skill 21 = .ok (.iconst 3, 1) := by decide +kernel
theorem dX8_skill_22 : decode cX8_skill 22 = .ok (.invokestatic 67, 3) := by decide +kernel
theorem dX8_skill_25 : decode cX8_skill 25 = .ok (.ifCond .eq 14, 3) := by decide +kernel
theorem dX8_skill_28 : decode cX8_skill 28 = .ok (.iload 4, 2) := by decide +kernel
theorem dX8_skill_30 : decode cX8_skill 30 = .ok (.iconst 0, 1) := by decide +kernel
theorem dX8_skill_31 : decode cX8_skill 31 = .ok (.bipush 100, 2) := by decide +kernel
theorem dX8_skill_33 : decode cX8_skill 33 = .ok (.invokestatic 67, 3) := by decide +kernel
theorem dX8_skill_36 : decode cX8_skill 36 = .ok (.ifCond .ne 5, 3) := by decide +kernel
theorem dX8_skill_39 : decode cX8_skill 39 = .ok (.iconst (-1), 1) := by decide +kernel
theorem dX8_skill_40 : decode cX8_skill 40 = .ok (.ireturn, 1) := by decide +kernel
theorem dX8_skill_41 : decode cX8_skill 41 = .ok (.aload_n 0, 1) := by decide +kernel
theorem dX8_skill_42 : decode cX8_skill 42 = .ok (.iload_n 1, 1) := by decide +kernel
theorem dX8_skill_43 : decode cX8_skill 43 = .ok (.iload_n 2, 1) := by decide +kernel
theorem dX8_skill_44 : decode cX8_skill 44 = .ok (.iload_n 3, 1) := by decide +kernel
theorem dX8_skill_45 : decode cX8_skill 45 = .ok (.invokevirtual 78, 3) := by decide +kernel
theorem dX8_skill_48 : decode cX8_skill 48 = .ok (.istore 5, 2) := by decide +kernel
theorem dX8_skill_50 : decode cX8_skill 50 = .ok (.aload_n 0, 1) := by decide +kernel
theorem dX8_skill_51 : decode cX8_skill 51 = .ok (.getfield 9, 3) := by decide +kernel
theorem dX8_skill_54 : decode cX8_skill 54 = .ok (.bipush 12, 2) := by decide +kernel
theorem dX8_skill_56 : decode cX8_skill 56 = .ok (.iload_n 1, 1) := by decide +kernel
theorem dX8_skill_57 : decode cX8_skill 57 = .ok (.imul, 1) := by decide +kernel
theorem dX8_skill_58 : decode cX8_skill 58 = .ok (.iload_n 2, 1) := by decide +kernel
theorem dX8_skill_59 : decode cX8_skill 59 = .ok (.iadd, 1) := by decide +kernel
theorem dX8_skill_60 : decode cX8_skill 60 = .ok (.iconst 4, 1) := by decide +kernel
theorem dX8_skill_61 : decode cX8_skill 61 = .ok (.imul, 1) := by decide +kernel
theorem dX8_skill_62 : decode cX8_skill 62 = .ok (.iload_n 3, 1) := by decide +kernel
theorem dX8_skill_63 : decode cX8_skill 63 = .ok (.iadd, 1) := by decide +kernel
theorem dX8_skill_64 : decode cX8_skill 64 = .ok (.iload 4, 2) := by decide +kernel
theorem dX8_skill_66 : decode cX8_skill 66 = .ok (.iastore, 1) := by decide +kernel
theorem dX8_skill_67 : decode cX8_skill 67 = .ok (.iload 5, 2) := by decide +kernel
theorem dX8_skill_69 : decode cX8_skill 69 = .ok (.ireturn, 1) := by decide +kernel
theorem dX8_libre_0 : decode cX8_libre 0 = .ok (.aload_n 0, 1) := by decide +kernel
theorem dX8_libre_1 : decode cX8_libre 1 = .ok (.iconst 0, 1) := by decide +kernel
theorem dX8_libre_2 : decode cX8_libre 2 = .ok (.putfield 63, 3) := by decide +kernel
theorem dX8_libre_5 : decode cX8_libre 5 = .ok (.iload_n 1, 1) := by decide +kernel
theorem dX8_libre_6 : decode cX8_libre 6 = .ok (.invokestatic 71, 3) := by decide +kernel
theorem dX8_libre_9 : decode cX8_libre 9 = .ok (.ifCond .eq 22, 3) := by decide +kernel
theorem dX8_libre_12 : decode cX8_libre 12 = .ok (.iload_n 2, 1) := by decide +kernel
theorem dX8_libre_13 : decode cX8_libre 13 = .ok (.iconst (-1), 1) := by decide +kernel
theorem dX8_libre_14 : decode cX8_libre 14 = .ok (.if_icmp .eq 10, 3) := by decide +kernel
theorem dX8_libre_17 : decode cX8_libre 17 = .ok (.iload_n 2, 1) := by decide +kernel
theorem dX8_libre_18 : decode cX8_libre 18 = .ok (.invokestatic 75, 3) := by decide +kernel
theorem dX8_libre_21 : decode cX8_libre 21 = .ok (.ifCond .eq 10, 3) := by decide +kernel
theorem dX8_libre_24 : decode cX8_libre 24 = .ok (.aload_n 0, 1) := by decide +kernel
theorem dX8_libre_25 : decode cX8_libre 25 = .ok (.invokevirtual 82, 3) := by decide +kernel
theorem dX8_libre_28 : decode cX8_libre 28 = .ok (.ifCond .eq 6, 3) := by decide +kernel
theorem dX8_libre_31 : decode cX8_libre 31 = .ok (.bipush (-2), 2) := by decide +kernel
theorem dX8_libre_33 : decode cX8_libre 33 = .ok (.ireturn, 1) := by decide +kernel
theorem dX8_libre_34 : decode cX8_libre 34 = .ok (.aload_n 0, 1) := by decide +kernel
theorem dX8_libre_35 : decode cX8_libre 35 = .ok (.getfield 13, 3) := by decide +kernel
theorem dX8_libre_38 : decode cX8_libre 38 = .ok (.iload_n 1, 1) := by decide +kernel
theorem dX8_libre_39 : decode cX8_libre 39 = .ok (.iaload, 1) := by decide +kernel
theorem dX8_libre_40 : decode cX8_libre 40 = .ok (.istore_n 3, 1) := by decide +kernel
theorem dX8_libre_41 : decode cX8_libre 41 = .ok (.aload_n 0, 1) := by decide +kernel
theorem dX8_libre_42 : decode cX8_libre 42 = .ok (.getfield 13, 3) := by decide +kernel
theorem dX8_libre_45 : decode cX8_libre 45 = .ok (.iload_n 1, 1) := by decide +kernel
theorem dX8_libre_46 : decode cX8_libre 46 = .ok (.iload_n 2, 1) := by decide +kernel
theorem dX8_libre_47 : decode cX8_libre 47 = .ok (.iastore, 1) := by decide +kernel
theorem dX8_libre_48 : decode cX8_libre 48 = .ok (.iload_n 3, 1) := by decide +kernel
theorem dX8_libre_49 : decode cX8_libre 49 = .ok (.ireturn, 1) := by decide +kernel
theorem dX8_set_0 : decode cX8_set 0 = .ok (.aload_n 0, 1) := by decide +kernel
theorem dX8_set_1 : decode cX8_set 1 = .ok (.iconst 0, 1) := by decide +kernel
theorem dX8_set_2 : decode cX8_set 2 = .ok (.putfield 63, 3) := by decide +kernel
theorem dX8_set_5 : decode cX8_set 5 = .ok (.iload_n 1, 1) := by decide +kernel
theorem dX8_set_6 : decode cX8_set 6 = .ok (.iconst 0, 1) := by decide +kernel
theorem dX8_set_7 : decode cX8_set 7 = .ok (.iconst 5, 1) := by decide +kernel
theorem dX8_set_8 : decode cX8_set 8 = .ok (.invokestatic 67, 3) := by decide +kernel
theorem dX8_set_11 : decode cX8_set 11 = .ok (.ifCond .eq 59, 3) := by decide +kernel
theorem dX8_set_14 : decode cX8_set 14 = .ok (.iload_n 2, 1) := by decide +kernel
theorem dX8_set_15 : decode cX8_set 15 = .ok (.getstatic 86, 3) := by decide +kernel
theorem dX8_set_18 : decode cX8_set 18 = .ok (.iload_n 1, 1) := by decide +kernel
theorem dX8_set_19 : decode cX8_set 19 = .ok (.iaload, 1) := by decide +kernel
theorem dX8_set_20 : decode cX8_set 20 = .ok (.getstatic 89, 3) := by decide +kernel
theorem dX8_set_23 : decode cX8_set 23 = .ok (.iload_n 1, 1) := by decide +kernel
theorem dX8_set_24 : decode cX8_set 24 = .ok (.iaload, 1) := by decide +kernel
theorem dX8_set_25 : decode cX8_set 25 = .ok (.invokestatic 67, 3) := by decide +kernel
theorem dX8_set_28 : decode cX8_set 28 = .ok (.ifCond .eq 42, 3) := by decide +kernel
theorem dX8_set_31 : decode cX8_set 31 = .ok (.aload_n 0, 1) := by decide +kernel
theorem dX8_set_32 : decode cX8_set 32 = .ok (.getfield 26, 3) := by decide +kernel
theorem dX8_set_35 : decode cX8_set 35 = .ok (.iconst 0, 1) := by decide +kernel
theorem dX8_set_36 : decode cX8_set 36 = .ok (.iaload, 1) := by decide +kernel
theorem dX8_set_37 : decode cX8_set 37 = .ok (.iconst (-1), 1) := by decide +kernel
theorem dX8_set_38 : decode cX8_set 38 = .ok (.if_icmp .ne 32, 3) := by decide +kernel
theorem dX8_set_41 : decode cX8_set 41 = .ok (.iload_n 1, 1) := by decide +kernel
theorem dX8_set_42 : decode cX8_set 42 = .ok (.ifCond .ne 13, 3) := by decide +kernel
theorem dX8_set_45 : decode cX8_set 45 = .ok (.iload_n 2, 1) := by decide +kernel
theorem dX8_set_46 : decode cX8_set 46 = .ok (.aload_n 0, 1) := by decide +kernel
theorem dX8_set_47 : decode cX8_set 47 = .ok (.getfield 16, 3) := by decide +kernel
theorem dX8_set_50 : decode cX8_set 50 = .ok (.iconst 1, 1) := by decide +kernel
theorem dX8_set_51 : decode cX8_set 51 = .ok (.iaload, 1) := by decide +kernel
theorem dX8_set_52 : decode cX8_set 52 = .ok (.if_icmp .gt 18, 3) := by decide +kernel
theorem dX8_set_55 : decode cX8_set 55 = .ok (.iload_n 1, 1) := by decide +kernel
theorem dX8_set_56 : decode cX8_set 56 = .ok (.iconst 1, 1) := by decide +kernel
theorem dX8_set_57 : decode cX8_set 57 = .ok (.if_icmp .ne 15, 3) := by decide +kernel
theorem dX8_set_60 : decode cX8_set 60 = .ok (.iload_n 2, 1) := by decide +kernel
theorem dX8_set_61 : decode cX8_set 61 = .ok (.aload_n 0, 1) := by decide +kernel
theorem dX8_set_62 : decode cX8_set 62 = .ok (.getfield 16, 3) := by decide +kernel
theorem dX8_set_65 : decode cX8_set 65 = .ok (.iconst 0, 1) := by decide +kernel
theorem dX8_set_66 : decode cX8_set 66 = .ok (.iaload, 1) := by decide +kernel
theorem dX8_set_67 : decode cX8_set 67 = .ok (.if_icmp .ge 5, 3) := by decide +kernel
theorem dX8_set_70 : decode cX8_set 70 = .ok (.iconst (-1), 1) := by decide +kernel
theorem dX8_set_71 : decode cX8_set 71 = .ok (.ireturn, 1) := by decide +kernel
theorem dX8_set_72 : decode cX8_set 72 = .ok (.aload_n 0, 1) := by decide +kernel
theorem dX8_set_73 : decode cX8_set 73 = .ok (.getfield 16, 3) := by decide +kernel
theorem dX8_set_76 : decode cX8_set 76 = .ok (.iload_n 1, 1) := by decide +kernel
theorem dX8_set_77 : decode cX8_set 77 = .ok (.iaload, 1) := by decide +kernel
theorem dX8_set_78 : decode cX8_set 78 = .ok (.istore_n 3, 1) := by decide +kernel
theorem dX8_set_79 : decode cX8_set 79 = .ok (.aload_n 0, 1) := by decide +kernel
theorem dX8_set_80 : decode cX8_set 80 = .ok (.getfield 16, 3) := by decide +kernel
theorem dX8_set_83 : decode cX8_set 83 = .ok (.iload_n 1, 1) := by decide +kernel
theorem dX8_set_84 : decode cX8_set 84 = .ok (.iload_n 2, 1) := by decide +kernel
theorem dX8_set_85 : decode cX8_set 85 = .ok (.iastore, 1) := by decide +kernel
theorem dX8_set_86 : decode cX8_set 86 = .ok (.iload_n 3, 1) := by decide +kernel
theorem dX8_set_87 : decode cX8_set 87 = .ok (.ireturn, 1) := by decide +kernel
theorem dX8_lineUp_0 : decode cX8_lineUp 0 = .ok (.aload_n 0, 1) := by decide +kernel
theorem dX8_lineUp_1 : decode cX8_lineUp 1 = .ok (.iconst 0, 1) := by decide +kernel
theorem dX8_lineUp_2 : decode cX8_lineUp 2 = .ok (.putfield 63, 3) := by decide +kernel
theorem dX8_lineUp_5 : decode cX8_lineUp 5 = .ok (.aload_n 0, 1) := by decide +kernel
theorem dX8_lineUp_6 : decode cX8_lineUp 6 = .ok (.getfield 42, 3) := by decide +kernel
theorem dX8_lineUp_9 : decode cX8_lineUp 9 = .ok (.iconst 0, 1) := by decide +kernel
theorem dX8_lineUp_10 : decode cX8_lineUp 10 = .ok (.iload_n 2, 1) := by decide +kernel
theorem dX8_lineUp_11 : decode cX8_lineUp 11 = .ok (.iastore, 1) := by decide +kernel
theorem dX8_lineUp_12 : decode cX8_lineUp 12 = .ok (.aload_n 0, 1) := by decide +kernel
theorem dX8_lineUp_13 : decode cX8_lineUp 13 = .ok (.getfield 42, 3) := by decide +kernel
theorem dX8_lineUp_16 : decode cX8_lineUp 16 = .ok (.iconst 1, 1) := by decide +kernel
theorem dX8_lineUp_17 : decode cX8_lineUp 17 = .ok (.iload_n 3, 1) := by decide +kernel
theorem dX8_lineUp_18 : decode cX8_lineUp 18 = .ok (.iastore, 1) := by decide +kernel
theorem dX8_lineUp_19 : decode cX8_lineUp 19 = .ok (.aload_n 0, 1) := by decide +kernel
theorem dX8_lineUp_20 : decode cX8_lineUp 20 = .ok (.getfield 42, 3) := by decide +kernel
theorem dX8_lineUp_23 : decode cX8_lineUp 23 = .ok (.iconst 2, 1) := by decide +kernel
theorem dX8_lineUp_24 : decode cX8_lineUp 24 = .ok (.iload 4, 2) := by decide +kernel
theorem dX8_lineUp_26 : decode cX8_lineUp 26 = .ok (.iastore, 1) := by decide +kernel
theorem dX8_lineUp_27 : decode cX8_lineUp 27 = .ok (.aload_n 0, 1) := by decide +kernel
theorem dX8_lineUp_28 : decode cX8_lineUp 28 = .ok (.getfield 42, 3) := by decide +kernel
theorem dX8_lineUp_31 : decode cX8_lineUp 31 = .ok (.iconst 3, 1) := by decide +kernel
theorem dX8_lineUp_32 : decode cX8_lineUp 32 = .ok (.iload 5, 2) := by decide +kernel
theorem dX8_lineUp_34 : decode cX8_lineUp 34 = .ok (.iastore, 1) := by decide +kernel
theorem dX8_lineUp_35 : decode cX8_lineUp 35 = .ok (.aload_n 0, 1) := by decide +kernel
theorem dX8_lineUp_36 : decode cX8_lineUp 36 = .ok (.getfield 42, 3) := by decide +kernel
theorem dX8_lineUp_39 : decode cX8_lineUp 39 = .ok (.iconst 4, 1) := by decide +kernel
theorem dX8_lineUp_40 : decode cX8_lineUp 40 = .ok (.iload 6, 2) := by decide +kernel
theorem dX8_lineUp_42 : decode cX8_lineUp 42 = .ok (.iastore, 1) := by decide +kernel
theorem dX8_lineUp_43 : decode cX8_lineUp 43 = .ok (.aload_n 0, 1) := by decide +kernel
theorem dX8_lineUp_44 : decode cX8_lineUp 44 = .ok (.getfield 42, 3) := by decide +kernel
theorem dX8_lineUp_47 : decode cX8_lineUp 47 = .ok (.iconst 5, 1) := by decide +kernel
theorem dX8_lineUp_48 : decode cX8_lineUp 48 = .ok (.iload 7, 2) := by decide +kernel
theorem dX8_lineUp_50 : decode cX8_lineUp 50 = .ok (.iastore, 1) := by decide +kernel
theorem dX8_lineUp_51 : decode cX8_lineUp 51 = .ok (.iload_n 1, 1) := by decide +kernel
theorem dX8_lineUp_52 : decode cX8_lineUp 52 = .ok (.invokestatic 71, 3) := by decide +kernel
theorem dX8_lineUp_55 : decode cX8_lineUp 55 = .ok (.ifCond .eq 20, 3) := by decide +kernel
theorem dX8_lineUp_58 : decode cX8_lineUp 58 = .ok (.aload_n 0, 1) := by decide +kernel
theorem dX8_lineUp_59 : decode cX8_lineUp 59 = .ok (.invokevirtual 82, 3) := by decide +kernel
theorem dX8_lineUp_62 : decode cX8_lineUp 62 = .ok (.ifCond .ne 13, 3) := by decide +kernel
theorem dX8_lineUp_65 : decode cX8_lineUp 65 = .ok (.aload_n 0, 1) := by decide +kernel
theorem dX8_lineUp_66 : decode cX8_lineUp 66 = .ok (.getfield 26, 3) := by decide +kernel
theorem dX8_lineUp_69 : decode cX8_lineUp 69 = .ok (.iconst 4, 1) := by decide +kernel
theorem dX8_lineUp_70 : decode cX8_lineUp 70 = .ok (.iaload, 1) := by decide +kernel
theorem dX8_lineUp_71 : decode cX8_lineUp 71 = .ok (.iconst (-1), 1) := by decide +kernel
theorem dX8_lineUp_72 : decode cX8_lineUp 72 = .ok (.if_icmp .eq 5, 3) := by decide +kernel
theorem dX8_lineUp_75 : decode cX8_lineUp 75 = .ok (.iconst 0, 1) := by decide +kernel
theorem dX8_lineUp_76 : decode cX8_lineUp 76 = .ok (.ireturn, 1) := by decide +kernel
theorem dX8_lineUp_77 : decode cX8_lineUp 77 = .ok (.iconst 0, 1) := by decide +kernel
theorem dX8_lineUp_78 : decode cX8_lineUp 78 = .ok (.istore 8, 2) := by decide +kernel
theorem dX8_lineUp_80 : decode cX8_lineUp 80 = .ok (.iload 8, 2) := by decide +kernel
theorem dX8_lineUp_82 : decode cX8_lineUp 82 = .ok (.bipush 6, 2) := by decide +kernel
theorem dX8_lineUp_84 : decode cX8_lineUp 84 = .ok (.if_icmp .ge 75, 3) := by decide +kernel
theorem dX8_lineUp_87 : decode cX8_lineUp 87 = .ok (.aload_n 0, 1) := by decide +kernel
theorem dX8_lineUp_88 : decode cX8_lineUp 88 = .ok (.getfield 42, 3) := by decide +kernel
theorem dX8_lineUp_91 : decode cX8_lineUp 91 = .ok (.iload 8, 2) := by decide +kernel
theorem dX8_lineUp_93 : decode cX8_lineUp 93 = .ok (.iaload, 1) := by decide +kernel
theorem dX8_lineUp_94 : decode cX8_lineUp 94 = .ok (.invokestatic 75, 3) := by decide +kernel
theorem dX8_lineUp_97 : decode cX8_lineUp 97 = .ok (.ifCond .eq 19, 3) := by decide +kernel
theorem dX8_lineUp_100 : decode cX8_lineUp 100 = .ok (.aload_n 0, 1) := by decide +kernel
theorem dX8_lineUp_101 : decode cX8_lineUp 101 = .ok (.getfield 42, 3) := by decide +kernel
theorem dX8_lineUp_104 : decode cX8_lineUp 104 = .ok (.iload 8, 2) := by decide +kernel
theorem dX8_lineUp_106 : decode cX8_lineUp 106 = .ok (.iaload, 1) := by decide +kernel
theorem dX8_lineUp_107 : decode cX8_lineUp 107 = .ok (.aload_n 0, 1) := by decide +kernel
theorem dX8_lineUp_108 : decode cX8_lineUp 108 = .ok (.getfield 13, 3) := by decide +kernel
theorem dX8_lineUp_111 : decode cX8_lineUp 111 = .ok (.iload_n 1, 1) := by decide +kernel
theorem dX8_lineUp_112 : decode cX8_lineUp 112 = .ok (.iaload, 1) := by decide +kernel
theorem dX8_lineUp_113 : decode cX8_lineUp 113 = .ok (.if_icmp .ne 5, 3) := by decide +kernel
theorem dX8_lineUp_116 : decode cX8_lineUp 116 = .ok (.iconst 0, 1) := by decide +kernel
theorem dX8_lineUp_117 : decode cX8_lineUp 117 = .ok (.ireturn, 1) := by decide +kernel
theorem dX8_lineUp_118 : decode cX8_lineUp 118 = .ok (.iconst 0, 1) := by decide +kernel
theorem dX8_lineUp_119 : decode cX8_lineUp 119 = .ok (.istore 9, 2) := by decide +kernel
theorem dX8_lineUp_121 : decode cX8_lineUp 121 = .ok (.iload 9, 2) := by decide +kernel
theorem dX8_lineUp_123 : decode cX8_lineUp 123 = .ok (.iload 8, 2) := by decide +kernel
theorem dX8_lineUp_125 : decode cX8_lineUp 125 = .ok (.if_icmp .ge 28, 3) := by decide +kernel
theorem dX8_lineUp_128 : decode cX8_lineUp 128 = .ok (.aload_n 0, 1) := by decide +kernel
theorem dX8_lineUp_129 : decode cX8_lineUp 129 = .ok (.getfield 42, 3) := by decide +kernel
theorem dX8_lineUp_132 : decode cX8_lineUp 132 = .ok (.iload 9, 2) := by decide +kernel
theorem dX8_lineUp_134 : decode cX8_lineUp 134 = .ok (.iaload, 1) := by decide +kernel
theorem dX8_lineUp_135 : decode cX8_lineUp 135 = .ok (.aload_n 0, 1) := by decide +kernel
theorem dX8_lineUp_136 : decode cX8_lineUp 136 = .ok (.getfield 42, 3) := by decide +kernel
theorem dX8_lineUp_139 : decode cX8_lineUp 139 = .ok (.iload 8, 2) := by decide +kernel
theorem dX8_lineUp_141 : decode cX8_lineUp 141 = .ok (.iaload, 1) := by decide +kernel
theorem dX8_lineUp_142 : decode cX8_lineUp 142 = .ok (.if_icmp .ne 5, 3) := by decide +kernel
theorem dX8_lineUp_145 : decode cX8_lineUp 145 = .ok (.iconst 0, 1) := by decide +kernel
theorem dX8_lineUp_146 : decode cX8_lineUp 146 = .ok (.ireturn, 1) := by decide +kernel
theorem dX8_lineUp_147 : decode cX8_lineUp 147 = .ok (.iinc 9 1, 3) := by decide +kernel
theorem dX8_lineUp_150 : decode cX8_lineUp 150 = .ok (.goto (-29), 3) := by decide +kernel
theorem dX8_lineUp_153 : decode cX8_lineUp 153 = .ok (.iinc 8 1, 3) := by decide +kernel
theorem dX8_lineUp_156 : decode cX8_lineUp 156 = .ok (.goto (-76), 3) := by decide +kernel
theorem dX8_lineUp_159 : decode cX8_lineUp 159 = .ok (.iconst 0, 1) := by decide +kernel
theorem dX8_lineUp_160 : decode cX8_lineUp 160 = .ok (.istore 8, 2) := by decide +kernel
theorem dX8_lineUp_162 : decode cX8_lineUp 162 = .ok (.iload 8, 2) := by decide +kernel
theorem dX8_lineUp_164 : decode cX8_lineUp 164 = .ok (.bipush 6, 2) := by decide +kernel
theorem dX8_lineUp_166 : decode cX8_lineUp 166 = .ok (.if_icmp .ge 28, 3) := by decide +kernel
theorem dX8_lineUp_169 : decode cX8_lineUp 169 = .ok (.aload_n 0, 1) := by decide +kernel
theorem dX8_lineUp_170 : decode cX8_lineUp 170 = .ok (.getfield 19, 3) := by decide +kernel
theorem dX8_lineUp_173 : decode cX8_lineUp 173 = .ok (.bipush 6, 2) := by decide +kernel
theorem dX8_lineUp_175 : decode cX8_lineUp 175 = .ok (.iload_n 1, 1) := by decide +kernel
theorem dX8_lineUp_176 : decode cX8_lineUp 176 = .ok (.imul, 1) := by decide +kernel
theorem dX8_lineUp_177 : decode cX8_lineUp 177 = .ok (.iload 8, 2) := by decide +kernel
theorem dX8_lineUp_179 : decode cX8_lineUp 179 = .ok (.iadd, 1) := by decide +kernel
theorem dX8_lineUp_180 : decode cX8_lineUp 180 = .ok (.aload_n 0, 1) := by decide +kernel
theorem dX8_lineUp_181 : decode cX8_lineUp 181 = .ok (.getfield 42, 3) := by decide +kernel
theorem dX8_lineUp_184 : decode cX8_lineUp 184 = .ok (.iload 8, 2) := by decide +kernel
theorem dX8_lineUp_186 : decode cX8_lineUp 186 = .ok (.iaload, 1) := by decide +kernel
theorem dX8_lineUp_187 : decode cX8_lineUp 187 = .ok (.iastore, 1) := by decide +kernel
theorem dX8_lineUp_188 : decode cX8_lineUp 188 = .ok (.iinc 8 1, 3) := by decide +kernel
theorem dX8_lineUp_191 : decode cX8_lineUp 191 = .ok (.goto (-29), 3) := by decide +kernel
theorem dX8_lineUp_194 : decode cX8_lineUp 194 = .ok (.aload_n 0, 1) := by decide +kernel
theorem dX8_lineUp_195 : decode cX8_lineUp 195 = .ok (.getfield 22, 3) := by decide +kernel
theorem dX8_lineUp_198 : decode cX8_lineUp 198 = .ok (.iload_n 1, 1) := by decide +kernel
theorem dX8_lineUp_199 : decode cX8_lineUp 199 = .ok (.iconst 1, 1) := by decide +kernel
theorem dX8_lineUp_200 : decode cX8_lineUp 200 = .ok (.bastore, 1) := by decide +kernel
theorem dX8_lineUp_201 : decode cX8_lineUp 201 = .ok (.iconst 1, 1) := by decide +kernel
theorem dX8_lineUp_202 : decode cX8_lineUp 202 = .ok (.ireturn, 1) := by decide +kernel
theorem dX8_hasFree_0 : decode cX8_hasFree 0 = .ok (.iconst 0, 1) := by decide +kernel
theorem dX8_hasFree_1 : decode cX8_hasFree 1 = .ok (.istore_n 2, 1) := by decide +kernel
theorem dX8_hasFree_2 : decode cX8_hasFree 2 = .ok (.iload_n 2, 1) := by decide +kernel
theorem dX8_hasFree_3 : decode cX8_hasFree 3 = .ok (.bipush 6, 2) := by decide +kernel
theorem dX8_hasFree_5 : decode cX8_hasFree 5 = .ok (.if_icmp .ge 31, 3) := by decide +kernel
theorem dX8_hasFree_8 : decode cX8_hasFree 8 = .ok (.aload_n 0, 1) := by decide +kernel
theorem dX8_hasFree_9 : decode cX8_hasFree 9 = .ok (.getfield 19, 3) := by decide +kernel
theorem dX8_hasFree_12 : decode cX8_hasFree 12 = .ok (.bipush 6, 2) := by decide +kernel
theorem dX8_hasFree_14 : decode cX8_hasFree 14 = .ok (.iload_n 1, 1) := by decide +kernel
theorem dX8_hasFree_15 : decode cX8_hasFree 15 = .ok (.imul, 1) := by decide +kernel
theorem dX8_hasFree_16 : decode cX8_hasFree 16 = .ok (.iload_n 2, 1) := by decide +kernel
theorem dX8_hasFree_17 : decode cX8_hasFree 17 = .ok (.iadd, 1) := by decide +kernel
theorem dX8_hasFree_18 : decode cX8_hasFree 18 = .ok (.iaload, 1) := by decide +kernel
theorem dX8_hasFree_19 : decode cX8_hasFree 19 = .ok (.aload_n 0, 1) := by decide +kernel
theorem dX8_hasFree_20 : decode cX8_hasFree 20 = .ok (.getfield 13, 3) := by decide +kernel
theorem dX8_hasFree_23 : decode cX8_hasFree 23 = .ok (.iload_n 1, 1) := by decide +kernel
theorem dX8_hasFree_24 : decode cX8_hasFree 24 = .ok (.iaload, 1) := by decide +kernel
theorem dX8_hasFree_25 : decode cX8_hasFree 25 = .ok (.if_icmp .ne 5, 3) := by decide +kernel
theorem dX8_hasFree_28 : decode cX8_hasFree 28 = .ok (.iconst 1, 1) := by decide +kernel
theorem dX8_hasFree_29 : decode cX8_hasFree 29 = .ok (.ireturn, 1) := by decide +kernel
theorem dX8_hasFree_30 : decode cX8_hasFree 30 = .ok (.iinc 2 1, 3) := by decide +kernel
theorem dX8_hasFree_33 : decode cX8_hasFree 33 = .ok (.goto (-31), 3) := by decide +kernel
theorem dX8_hasFree_36 : decode cX8_hasFree 36 = .ok (.iconst 0, 1) := by decide +kernel
theorem dX8_hasFree_37 : decode cX8_hasFree 37 = .ok (.ireturn, 1) := by decide +kernel
theorem dX8_begin_0 : decode cX8_begin 0 = .ok (.aload_n 0, 1) := by decide +kernel
theorem dX8_begin_1 : decode cX8_begin 1 = .ok (.iconst 0, 1) := by decide +kernel
theorem dX8_begin_2 : decode cX8_begin 2 = .ok (.putfield 63, 3) := by decide +kernel
theorem dX8_begin_5 : decode cX8_begin 5 = .ok (.iload_n 1, 1) := by decide +kernel
theorem dX8_begin_6 : decode cX8_begin 6 = .ok (.invokestatic 71, 3) := by decide +kernel
theorem dX8_begin_9 : decode cX8_begin 9 = .ok (.ifCond .eq 54, 3) := by decide +kernel
theorem dX8_begin_12 : decode cX8_begin 12 = .ok (.aload_n 0, 1) := by decide +kernel
theorem dX8_begin_13 : decode cX8_begin 13 = .ok (.invokevirtual 82, 3) := by decide +kernel
theorem dX8_begin_16 : decode cX8_begin 16 = .ok (.ifCond .ne 47, 3) := by decide +kernel
theorem dX8_begin_19 : decode cX8_begin 19 = .ok (.aload_n 0, 1) := by decide +kernel
theorem dX8_begin_20 : decode cX8_begin 20 = .ok (.getfield 26, 3) := by decide +kernel
theorem dX8_begin_23 : decode cX8_begin 23 = .ok (.iconst 4, 1) := by decide +kernel
theorem dX8_begin_24 : decode cX8_begin 24 = .ok (.iaload, 1) := by decide +kernel
theorem dX8_begin_25 : decode cX8_begin 25 = .ok (.iconst (-1), 1) := by decide +kernel
theorem dX8_begin_26 : decode cX8_begin 26 = .ok (.if_icmp .ne 37, 3) := by decide +kernel
theorem dX8_begin_29 : decode cX8_begin 29 = .ok (.aload_n 0, 1) := by decide +kernel
theorem dX8_begin_30 : decode cX8_begin 30 = .ok (.getfield 22, 3) := by decide +kernel
theorem dX8_begin_33 : decode cX8_begin 33 = .ok (.iconst 0, 1) := by decide +kernel
theorem dX8_begin_34 : decode cX8_begin 34 = .ok (.baload, 1) := by decide +kernel
theorem dX8_begin_35 : decode cX8_begin 35 = .ok (.ifCond .eq 28, 3) := by decide +kernel
theorem dX8_begin_38 : decode cX8_begin 38 = .ok (.aload_n 0, 1) := by decide +kernel
theorem dX8_begin_39 : decode cX8_begin 39 = .ok (.getfield 22, 3) := by decide +kernel
theorem dX8_begin_42 : decode cX8_begin 42 = .ok (.iconst 1, 1) := by decide +kernel
theorem dX8_begin_43 : decode cX8_begin 43 = .ok (.baload, 1) := by decide +kernel
theorem dX8_begin_44 : decode cX8_begin 44 = .ok (.ifCond .eq 19, 3) := by decide +kernel
theorem dX8_begin_47 : decode cX8_begin 47 = .ok (.aload_n 0, 1) := by decide +kernel
theorem dX8_begin_48 : decode cX8_begin 48 = .ok (.iconst 0, 1) := by decide +kernel
theorem dX8_begin_49 : decode cX8_begin 49 = .ok (.invokevirtual 92, 3) := by decide +kernel
theorem dX8_begin_52 : decode cX8_begin 52 = .ok (.ifCond .ne 11, 3) := by decide +kernel
theorem dX8_begin_55 : decode cX8_begin 55 = .ok (.aload_n 0, 1) := by decide +kernel
theorem dX8_begin_56 : decode cX8_begin 56 = .ok (.iconst 1, 1) := by decide +kernel
theorem dX8_begin_57 : decode cX8_begin 57 = .ok (.invokevirtual 92, 3) := by decide +kernel
theorem dX8_begin_60 : decode cX8_begin 60 = .ok (.ifCond .eq 5, 3) := by decide +kernel
theorem dX8_begin_63 : decode cX8_begin 63 = .ok (.iconst (-1), 1) := by decide +kernel
theorem dX8_begin_64 : decode cX8_begin 64 = .ok (.ireturn, 1) := by decide +kernel
theorem dX8_begin_65 : decode cX8_begin 65 = .ok (.aload_n 0, 1) := by decide +kernel
theorem dX8_begin_66 : decode cX8_begin 66 = .ok (.getfield 26, 3) := by decide +kernel
theorem dX8_begin_69 : decode cX8_begin 69 = .ok (.iconst 0, 1) := by decide +kernel
theorem dX8_begin_70 : decode cX8_begin 70 = .ok (.dup2, 1) := by decide +kernel
theorem dX8_begin_71 : decode cX8_begin 71 = .ok (.iaload, 1) := by decide +kernel
theorem dX8_begin_72 : decode cX8_begin 72 = .ok (.iconst 1, 1) := by decide +kernel
theorem dX8_begin_73 : decode cX8_begin 73 = .ok (.iadd, 1) := by decide +kernel
theorem dX8_begin_74 : decode cX8_begin 74 = .ok (.iastore, 1) := by decide +kernel
theorem dX8_begin_75 : decode cX8_begin 75 = .ok (.aload_n 0, 1) := by decide +kernel
theorem dX8_begin_76 : decode cX8_begin 76 = .ok (.getfield 26, 3) := by decide +kernel
theorem dX8_begin_79 : decode cX8_begin 79 = .ok (.iconst 1, 1) := by decide +kernel
theorem dX8_begin_80 : decode cX8_begin 80 = .ok (.iconst 1, 1) := by decide +kernel
theorem dX8_begin_81 : decode cX8_begin 81 = .ok (.iastore, 1) := by decide +kernel
theorem dX8_begin_82 : decode cX8_begin 82 = .ok (.aload_n 0, 1) := by decide +kernel
theorem dX8_begin_83 : decode cX8_begin 83 = .ok (.getfield 26, 3) := by decide +kernel
theorem dX8_begin_86 : decode cX8_begin 86 = .ok (.iconst 2, 1) := by decide +kernel
theorem dX8_begin_87 : decode cX8_begin 87 = .ok (.iload_n 1, 1) := by decide +kernel
theorem dX8_begin_88 : decode cX8_begin 88 = .ok (.iastore, 1) := by decide +kernel
theorem dX8_begin_89 : decode cX8_begin 89 = .ok (.aload_n 0, 1) := by decide +kernel
theorem dX8_begin_90 : decode cX8_begin 90 = .ok (.getfield 26, 3) := by decide +kernel
theorem dX8_begin_93 : decode cX8_begin 93 = .ok (.iconst 3, 1) := by decide +kernel
theorem dX8_begin_94 : decode cX8_begin 94 = .ok (.iconst 0, 1) := by decide +kernel
theorem dX8_begin_95 : decode cX8_begin 95 = .ok (.iastore, 1) := by decide +kernel
theorem dX8_begin_96 : decode cX8_begin 96 = .ok (.aload_n 0, 1) := by decide +kernel
theorem dX8_begin_97 : decode cX8_begin 97 = .ok (.getfield 26, 3) := by decide +kernel
theorem dX8_begin_100 : decode cX8_begin 100 = .ok (.iconst 5, 1) := by decide +kernel
theorem dX8_begin_101 : decode cX8_begin 101 = .ok (.iconst (-1), 1) := by decide +kernel
theorem dX8_begin_102 : decode cX8_begin 102 = .ok (.iastore, 1) := by decide +kernel
theorem dX8_begin_103 : decode cX8_begin 103 = .ok (.iconst 0, 1) := by decide +kernel
theorem dX8_begin_104 : decode cX8_begin 104 = .ok (.istore_n 2, 1) := by decide +kernel
theorem dX8_begin_105 : decode cX8_begin 105 = .ok (.iload_n 2, 1) := by decide +kernel
theorem dX8_begin_106 : decode cX8_begin 106 = .ok (.iconst 2, 1) := by decide +kernel
theorem dX8_begin_107 : decode cX8_begin 107 = .ok (.if_icmp .ge 158, 3) := by decide +kernel
theorem dX8_begin_110 : decode cX8_begin 110 = .ok (.aload_n 0, 1) := by decide +kernel
theorem dX8_begin_111 : decode cX8_begin 111 = .ok (.iload_n 2, 1) := by decide +kernel
theorem dX8_begin_112 : decode cX8_begin 112 = .ok (.iconst 1, 1) := by decide +kernel
theorem dX8_begin_113 : decode cX8_begin 113 = .ok (.invokevirtual 95, 3) := by decide +kernel
theorem dX8_begin_116 : decode cX8_begin 116 = .ok (.istore_n 3, 1) := by decide +kernel
theorem dX8_begin_117 : decode cX8_begin 117 = .ok (.iconst 0, 1) := by decide +kernel
theorem dX8_begin_118 : decode cX8_begin 118 = .ok (.istore 4, 2) := by decide +kernel
theorem dX8_begin_120 : decode cX8_begin 120 = .ok (.iload 4, 2) := by decide +kernel
theorem dX8_begin_122 : decode cX8_begin 122 = .ok (.bipush 14, 2) := by decide +kernel
theorem dX8_begin_124 : decode cX8_begin 124 = .ok (.if_icmp .ge 17, 3) := by decide +kernel
theorem dX8_begin_127 : decode cX8_begin 127 = .ok (.aload_n 0, 1) := by decide +kernel
theorem dX8_begin_128 : decode cX8_begin 128 = .ok (.iload_n 2, 1) := by decide +kernel
theorem dX8_begin_129 : decode cX8_begin 129 = .ok (.iload 4, 2) := by decide +kernel
theorem dX8_begin_131 : decode cX8_begin 131 = .ok (.iconst 0, 1) := by decide +kernel
theorem dX8_begin_132 : decode cX8_begin 132 = .ok (.invokevirtual 56, 3) := by decide +kernel
theorem dX8_begin_135 : decode cX8_begin 135 = .ok (.iinc 4 1, 3) := by decide +kernel
theorem dX8_begin_138 : decode cX8_begin 138 = .ok (.goto (-18), 3) := by decide +kernel
theorem dX8_begin_141 : decode cX8_begin 141 = .ok (.aload_n 0, 1) := by decide +kernel
theorem dX8_begin_142 : decode cX8_begin 142 = .ok (.iload_n 2, 1) := by decide +kernel
theorem dX8_begin_143 : decode cX8_begin 143 = .ok (.iconst 1, 1) := by decide +kernel
theorem dX8_begin_144 : decode cX8_begin 144 = .ok (.iload_n 3, 1) := by decide +kernel
theorem dX8_begin_145 : decode cX8_begin 145 = .ok (.invokevirtual 56, 3) := by decide +kernel
theorem dX8_begin_148 : decode cX8_begin 148 = .ok (.aload_n 0, 1) := by decide +kernel
theorem dX8_begin_149 : decode cX8_begin 149 = .ok (.iload_n 2, 1) := by decide +kernel
theorem dX8_begin_150 : decode cX8_begin 150 = .ok (.iconst 4, 1) := by decide +kernel
theorem dX8_begin_151 : decode cX8_begin 151 = .ok (.iconst (-1), 1) := by decide +kernel
theorem dX8_begin_152 : decode cX8_begin 152 = .ok (.invokevirtual 56, 3) := by decide +kernel
theorem dX8_begin_155 : decode cX8_begin 155 = .ok (.iconst 0, 1) := by decide +kernel
theorem dX8_begin_156 : decode cX8_begin 156 = .ok (.istore 4, 2) := by decide +kernel
theorem dX8_begin_158 : decode cX8_begin 158 = .ok (.iload 4, 2) := by decide +kernel
theorem dX8_begin_160 : decode cX8_begin 160 = .ok (.bipush 12, 2) := by decide +kernel
theorem dX8_begin_162 : decode cX8_begin 162 = .ok (.if_icmp .ge 31, 3) := by decide +kernel
theorem dX8_begin_165 : decode cX8_begin 165 = .ok (.aload_n 0, 1) := by decide +kernel
theorem dX8_begin_166 : decode cX8_begin 166 = .ok (.iload_n 2, 1) := by decide +kernel
theorem dX8_begin_167 : decode cX8_begin 167 = .ok (.bipush 14, 2) := by decide +kernel
theorem dX8_begin_169 : decode cX8_begin 169 = .ok (.iload 4, 2) := by decide +kernel
theorem dX8_begin_171 : decode cX8_begin 171 = .ok (.iadd, 1) := by decide +kernel
theorem dX8_begin_172 : decode cX8_begin 172 = .ok (.iconst 0, 1) := by decide +kernel
theorem dX8_begin_173 : decode cX8_begin 173 = .ok (.invokevirtual 56, 3) := by decide +kernel
theorem dX8_begin_176 : decode cX8_begin 176 = .ok (.aload_n 0, 1) := by decide +kernel
theorem dX8_begin_177 : decode cX8_begin 177 = .ok (.iload_n 2, 1) := by decide +kernel
theorem dX8_begin_178 : decode cX8_begin 178 = .ok (.bipush 26, 2) := by decide +kernel
theorem dX8_begin_180 : decode cX8_begin 180 = .ok (.iload 4, 2) := by decide +kernel
theorem dX8_begin_182 : decode cX8_begin 182 = .ok (.iadd, 1) := by decide +kernel
theorem dX8_begin_183 : decode cX8_begin 183 = .ok (.iconst (-1), 1) := by decide +kernel
theorem dX8_begin_184 : decode cX8_begin 184 = .ok (.invokevirtual 56, 3) := by decide +kernel
theorem dX8_begin_187 : decode cX8_begin 187 = .ok (.iinc 4 1, 3) := by decide +kernel
theorem dX8_begin_190 : decode cX8_begin 190 = .ok (.goto (-32), 3) := by decide +kernel
theorem dX8_begin_193 : decode cX8_begin 193 = .ok (.iconst 0, 1) := by decide +kernel
theorem dX8_begin_194 : decode cX8_begin 194 = .ok (.istore 4, 2) := by decide +kernel
theorem dX8_begin_196 : decode cX8_begin 196 = .ok (.iload 4, 2) := by decide +kernel
theorem dX8_begin_198 : decode cX8_begin 198 = .ok (.bipush 6, 2) := by decide +kernel
theorem dX8_begin_200 : decode cX8_begin 200 = .ok (.if_icmp .ge 52, 3) := by decide +kernel
theorem dX8_begin_203 : decode cX8_begin 203 = .ok (.aload_n 0, 1) := by decide +kernel
theorem dX8_begin_204 : decode cX8_begin 204 = .ok (.iload_n 2, 1) := by decide +kernel
theorem dX8_begin_205 : decode cX8_begin 205 = .ok (.bipush 8, 2) := by decide +kernel
theorem dX8_begin_207 : decode cX8_begin 207 = .ok (.iload 4, 2) := by decide +kernel
theorem dX8_begin_209 : decode cX8_begin 209 = .ok (.iadd, 1) := by decide +kernel
theorem dX8_begin_210 : decode cX8_begin 210 = .ok (.aload_n 0, 1) := by decide +kernel
theorem dX8_begin_211 : decode cX8_begin 211 = .ok (.getfield 19, 3) := by decide +kernel
theorem dX8_begin_214 : decode cX8_begin 214 = .ok (.bipush 6, 2) := by decide +kernel
theorem dX8_begin_216 : decode cX8_begin 216 = .ok (.iload_n 2, 1) := by decide +kernel
theorem dX8_begin_217 : decode cX8_begin 217 = .ok (.imul, 1) := by decide +kernel
theorem dX8_begin_218 : decode cX8_begin 218 = .ok (.iload 4, 2) := by decide +kernel
theorem dX8_begin_220 : decode cX8_begin 220 = .ok (.iadd, 1) := by decide +kernel
theorem dX8_begin_221 : decode cX8_begin 221 = .ok (.iaload, 1) := by decide +kernel
theorem dX8_begin_222 : decode cX8_begin 222 = .ok (.invokevirtual 56, 3) := by decide +kernel
theorem dX8_begin_225 : decode cX8_begin 225 = .ok (.aload_n 0, 1) := by decide +kernel
theorem dX8_begin_226 : decode cX8_begin 226 = .ok (.iload_n 2, 1) := by decide +kernel
theorem dX8_begin_227 : decode cX8_begin 227 = .ok (.bipush 14, 2) := by decide +kernel
theorem dX8_begin_229 : decode cX8_begin 229 = .ok (.aload_n 0, 1) := by decide +kernel
theorem dX8_begin_230 : decode cX8_begin 230 = .ok (.getfield 19, 3) := by decide +kernel
theorem dX8_begin_233 : decode cX8_begin 233 = .ok (.bipush 6, 2) := by decide +kernel
theorem dX8_begin_235 : decode cX8_begin 235 = .ok (.iload_n 2, 1) := by decide +kernel
theorem dX8_begin_236 : decode cX8_begin 236 = .ok (.imul, 1) := by decide +kernel
theorem dX8_begin_237 : decode cX8_begin 237 = .ok (.iload 4, 2) := by decide +kernel
theorem dX8_begin_239 : decode cX8_begin 239 = .ok (.iadd, 1) := by decide +kernel
theorem dX8_begin_240 : decode cX8_begin 240 = .ok (.iaload, 1) := by decide +kernel
theorem dX8_begin_241 : decode cX8_begin 241 = .ok (.iadd, 1) := by decide +kernel
theorem dX8_begin_242 : decode cX8_begin 242 = .ok (.iconst 1, 1) := by decide +kernel
theorem dX8_begin_243 : decode cX8_begin 243 = .ok (.invokevirtual 56, 3) := by decide +kernel
theorem dX8_begin_246 : decode cX8_begin 246 = .ok (.iinc 4 1, 3) := by decide +kernel
theorem dX8_begin_249 : decode cX8_begin 249 = .ok (.goto (-53), 3) := by decide +kernel
theorem dX8_begin_252 : decode cX8_begin 252 = .ok (.aload_n 0, 1) := by decide +kernel
theorem dX8_begin_253 : decode cX8_begin 253 = .ok (.getfield 22, 3) := by decide +kernel
theorem dX8_begin_256 : decode cX8_begin 256 = .ok (.iload_n 2, 1) := by decide +kernel
theorem dX8_begin_257 : decode cX8_begin 257 = .ok (.iconst 0, 1) := by decide +kernel
theorem dX8_begin_258 : decode cX8_begin 258 = .ok (.bastore, 1) := by decide +kernel
theorem dX8_begin_259 : decode cX8_begin 259 = .ok (.iinc 2 1, 3) := by decide +kernel
theorem dX8_begin_262 : decode cX8_begin 262 = .ok (.goto (-157), 3) := by decide +kernel
theorem dX8_begin_265 : decode cX8_begin 265 = .ok (.aload_n 0, 1) := by decide +kernel
theorem dX8_begin_266 : decode cX8_begin 266 = .ok (.invokevirtual 60, 3) := by decide +kernel
theorem dX8_begin_269 : decode cX8_begin 269 = .ok (.aload_n 0, 1) := by decide +kernel
theorem dX8_begin_270 : decode cX8_begin 270 = .ok (.getfield 26, 3) := by decide +kernel
theorem dX8_begin_273 : decode cX8_begin 273 = .ok (.iconst 0, 1) := by decide +kernel
theorem dX8_begin_274 : decode cX8_begin 274 = .ok (.iaload, 1) := by decide +kernel
theorem dX8_begin_275 : decode cX8_begin 275 = .ok (.ireturn, 1) := by decide +kernel
theorem dX8_turn_0 : decode cX8_turn 0 = .ok (.aload_n 0, 1) := by decide +kernel
theorem dX8_turn_1 : decode cX8_turn 1 = .ok (.iload_n 1, 1) := by decide +kernel
theorem dX8_turn_2 : decode cX8_turn 2 = .ok (.bipush 8, 2) := by decide +kernel
theorem dX8_turn_4 : decode cX8_turn 4 = .ok (.invokevirtual 95, 3) := by decide +kernel
theorem dX8_turn_7 : decode cX8_turn 7 = .ok (.istore_n 2, 1) := by decide +kernel
theorem dX8_turn_8 : decode cX8_turn 8 = .ok (.iconst 0, 1) := by decide +kernel
theorem dX8_turn_9 : decode cX8_turn 9 = .ok (.istore_n 3, 1) := by decide +kernel
theorem dX8_turn_10 : decode cX8_turn 10 = .ok (.iload_n 3, 1) := by decide +kernel
theorem dX8_turn_11 : decode cX8_turn 11 = .ok (.iconst 5, 1) := by decide +kernel
theorem dX8_turn_12 : decode cX8_turn 12 = .ok (.if_icmp .ge 29, 3) := by decide +kernel
theorem dX8_turn_15 : decode cX8_turn 15 = .ok (.aload_n 0, 1) := by decide +kernel
theorem dX8_turn_16 : decode cX8_turn 16 = .ok (.iload_n 1, 1) := by decide +kernel
theorem dX8_turn_17 : decode cX8_turn 17 = .ok (.bipush 8, 2) := by decide +kernel
theorem dX8_turn_19 : decode cX8_turn 19 = .ok (.iload_n 3, 1) := by decide +kernel
theorem dX8_turn_20 : decode cX8_turn 20 = .ok (.iadd, 1) := by decide +kernel
theorem dX8_turn_21 : decode cX8_turn 21 = .ok (.aload_n 0, 1) := by decide +kernel
theorem dX8_turn_22 : decode cX8_turn 22 = .ok (.iload_n 1, 1) := by decide +kernel
theorem dX8_turn_23 : decode cX8_turn 23 = .ok (.bipush 8, 2) := by decide +kernel
theorem dX8_turn_25 : decode cX8_turn 25 = .ok (.iload_n 3, 1) := by decide +kernel
theorem dX8_turn_26 : decode cX8_turn 26 = .ok (.iadd, 1) := by decide +kernel
theorem dX8_turn_27 : decode cX8_turn 27 = .ok (.iconst 1, 1) := by decide +kernel
theorem dX8_turn_28 : decode cX8_turn 28 = .ok (.iadd, 1) := by decide +kernel
theorem dX8_turn_29 : decode cX8_turn 29 = .ok (.invokevirtual 95, 3) := by decide +kernel
theorem dX8_turn_32 : decode cX8_turn 32 = .ok (.invokevirtual 56, 3) := by decide +kernel
theorem dX8_turn_35 : decode cX8_turn 35 = .ok (.iinc 3 1, 3) := by decide +kernel
theorem dX8_turn_38 : decode cX8_turn 38 = .ok (.goto (-28), 3) := by decide +kernel
theorem dX8_turn_41 : decode cX8_turn 41 = .ok (.aload_n 0, 1) := by decide +kernel
theorem dX8_turn_42 : decode cX8_turn 42 = .ok (.iload_n 1, 1) := by decide +kernel
theorem dX8_turn_43 : decode cX8_turn 43 = .ok (.bipush 13, 2) := by decide +kernel
theorem dX8_turn_45 : decode cX8_turn 45 = .ok (.iload_n 2, 1) := by decide +kernel
theorem dX8_turn_46 : decode cX8_turn 46 = .ok (.invokevirtual 56, 3) := by decide +kernel
theorem dX8_turn_49 : decode cX8_turn 49 = .ok (.aload_n 0, 1) := by decide +kernel
theorem dX8_turn_50 : decode cX8_turn 50 = .ok (.iload_n 1, 1) := by decide +kernel
theorem dX8_turn_51 : decode cX8_turn 51 = .ok (.bipush 6, 2) := by decide +kernel
theorem dX8_turn_53 : decode cX8_turn 53 = .ok (.aload_n 0, 1) := by decide +kernel
theorem dX8_turn_54 : decode cX8_turn 54 = .ok (.iload_n 1, 1) := by decide +kernel
theorem dX8_turn_55 : decode cX8_turn 55 = .ok (.bipush 6, 2) := by decide +kernel
theorem dX8_turn_57 : decode cX8_turn 57 = .ok (.invokevirtual 95, 3) := by decide +kernel
theorem dX8_turn_60 : decode cX8_turn 60 = .ok (.iconst 1, 1) := by decide +kernel
theorem dX8_turn_61 : decode cX8_turn 61 = .ok (.iadd, 1) := by decide +kernel
theorem dX8_turn_62 : decode cX8_turn 62 = .ok (.invokevirtual 56, 3) := by decide +kernel
theorem dX8_turn_65 : decode cX8_turn 65 = .ok (.aload_n 0, 1) := by decide +kernel
theorem dX8_turn_66 : decode cX8_turn 66 = .ok (.iload_n 1, 1) := by decide +kernel
theorem dX8_turn_67 : decode cX8_turn 67 = .ok (.iconst 4, 1) := by decide +kernel
theorem dX8_turn_68 : decode cX8_turn 68 = .ok (.invokevirtual 95, 3) := by decide +kernel
theorem dX8_turn_71 : decode cX8_turn 71 = .ok (.iconst (-1), 1) := by decide +kernel
theorem dX8_turn_72 : decode cX8_turn 72 = .ok (.if_icmp .eq 19, 3) := by decide +kernel
theorem dX8_turn_75 : decode cX8_turn 75 = .ok (.aload_n 0, 1) := by decide +kernel
theorem dX8_turn_76 : decode cX8_turn 76 = .ok (.iload_n 1, 1) := by decide +kernel
theorem dX8_turn_77 : decode cX8_turn 77 = .ok (.bipush 11, 2) := by decide +kernel
theorem dX8_turn_79 : decode cX8_turn 79 = .ok (.invokevirtual 95, 3) := by decide +kernel
theorem dX8_turn_82 : decode cX8_turn 82 = .ok (.aload_n 0, 1) := by decide +kernel
theorem dX8_turn_83 : decode cX8_turn 83 = .ok (.getfield 13, 3) := by decide +kernel
theorem dX8_turn_86 : decode cX8_turn 86 = .ok (.iload_n 1, 1) := by decide +kernel
theorem dX8_turn_87 : decode cX8_turn 87 = .ok (.iaload, 1) := by decide +kernel
theorem dX8_turn_88 : decode cX8_turn 88 = .ok (.if_icmp .eq 4, 3) := by decide +kernel
theorem dX8_turn_91 : decode cX8_turn 91 = .ok (.return_, 1) := by decide +kernel
theorem dX8_turn_92 : decode cX8_turn 92 = .ok (.aload_n 0, 1) := by decide +kernel
theorem dX8_turn_93 : decode cX8_turn 93 = .ok (.iload_n 1, 1) := by decide +kernel
theorem dX8_turn_94 : decode cX8_turn 94 = .ok (.bipush 11, 2) := by decide +kernel
theorem dX8_turn_96 : decode cX8_turn 96 = .ok (.aload_n 0, 1) := by decide +kernel
theorem dX8_turn_97 : decode cX8_turn 97 = .ok (.iload_n 1, 1) := by decide +kernel
theorem dX8_turn_98 : decode cX8_turn 98 = .ok (.iconst 4, 1) := by decide +kernel
theorem dX8_turn_99 : decode cX8_turn 99 = .ok (.invokevirtual 95, 3) := by decide +kernel
theorem dX8_turn_102 : decode cX8_turn 102 = .ok (.invokevirtual 56, 3) := by decide +kernel
theorem dX8_turn_105 : decode cX8_turn 105 = .ok (.aload_n 0, 1) := by decide +kernel
theorem dX8_turn_106 : decode cX8_turn 106 = .ok (.iload_n 1, 1) := by decide +kernel
theorem dX8_turn_107 : decode cX8_turn 107 = .ok (.iconst 4, 1) := by decide +kernel
theorem dX8_turn_108 : decode cX8_turn 108 = .ok (.iconst (-1), 1) := by decide +kernel
theorem dX8_turn_109 : decode cX8_turn 109 = .ok (.invokevirtual 56, 3) := by decide +kernel
theorem dX8_turn_112 : decode cX8_turn 112 = .ok (.return_, 1) := by decide +kernel
theorem dX8_isLastSet_0 : decode cX8_isLastSet 0 = .ok (.aload_n 0, 1) := by decide +kernel
theorem dX8_isLastSet_1 : decode cX8_isLastSet 1 = .ok (.getfield 16, 3) := by decide +kernel
theorem dX8_isLastSet_4 : decode cX8_isLastSet 4 = .ok (.iconst 3, 1) := by decide +kernel
theorem dX8_isLastSet_5 : decode cX8_isLastSet 5 = .ok (.iaload, 1) := by decide +kernel
theorem dX8_isLastSet_6 : decode cX8_isLastSet 6 = .ok (.iconst 1, 1) := by decide +kernel
theorem dX8_isLastSet_7 : decode cX8_isLastSet 7 = .ok (.if_icmp .le 41, 3) := by decide +kernel
theorem dX8_isLastSet_10 : decode cX8_isLastSet 10 = .ok (.aload_n 0, 1) := by decide +kernel
theorem dX8_isLastSet_11 : decode cX8_isLastSet 11 = .ok (.iconst 0, 1) := by decide +kernel
theorem dX8_isLastSet_12 : decode cX8_isLastSet 12 = .ok (.iconst 1, 1) := by decide +kernel
theorem dX8_isLastSet_13 : decode cX8_isLastSet 13 = .ok (.invokevirtual 95, 3) := by decide +kernel
theorem dX8_isLastSet_16 : decode cX8_isLastSet 16 = .ok (.aload_n 0, 1) := by decide +kernel
theorem dX8_isLastSet_17 : decode cX8_isLastSet 17 = .ok (.getfield 16, 3) := by decide +kernel
theorem dX8_isLastSet_20 : decode cX8_isLastSet 20 = .ok (.iconst 3, 1) := by decide +kernel
theorem dX8_isLastSet_21 : decode cX8_isLastSet 21 = .ok (.iaload, 1) := by decide +kernel
theorem dX8_isLastSet_22 : decode cX8_isLastSet 22 = .ok (.iconst 1, 1) := by decide +kernel
theorem dX8_isLastSet_23 : decode cX8_isLastSet 23 = .ok (.isub, 1) := by decide +kernel
theorem dX8_isLastSet_24 : decode cX8_isLastSet 24 = .ok (.if_icmp .ne 24, 3) := by decide +kernel
theorem dX8_isLastSet_27 : decode cX8_isLastSet 27 = .ok (.aload_n 0, 1) := by decide +kernel
theorem dX8_isLastSet_28 : decode cX8_isLastSet 28 = .ok (.iconst 1, 1) := by decide +kernel
theorem dX8_isLastSet_29 : decode cX8_isLastSet 29 = .ok (.iconst 1, 1) := by decide +kernel
theorem dX8_isLastSet_30 : decode cX8_isLastSet 30 = .ok (.invokevirtual 95, 3) := by decide +kernel
theorem dX8_isLastSet_33 : decode cX8_isLastSet 33 = .ok (.aload_n 0, 1) := by decide +kernel
theorem dX8_isLastSet_34 : decode cX8_isLastSet 34 = .ok (.getfield 16, 3) := by decide +kernel
theorem dX8_isLastSet_37 : decode cX8_isLastSet 37 = .ok (.iconst 3, 1) := by decide +kernel
theorem dX8_isLastSet_38 : decode cX8_isLastSet 38 = .ok (.iaload, 1) := by decide +kernel
theorem dX8_isLastSet_39 : decode cX8_isLastSet 39 = .ok (.iconst 1, 1) := by decide +kernel
theorem dX8_isLastSet_40 : decode cX8_isLastSet 40 = .ok (.isub, 1) := by decide +kernel
theorem dX8_isLastSet_41 : decode cX8_isLastSet 41 = .ok (.if_icmp .ne 7, 3) := by decide +kernel
theorem dX8_isLastSet_44 : decode cX8_isLastSet 44 = .ok (.iconst 1, 1) := by decide +kernel
theorem dX8_isLastSet_45 : decode cX8_isLastSet 45 = .ok (.goto 4, 3) := by decide +kernel
theorem dX8_isLastSet_48 : decode cX8_isLastSet 48 = .ok (.iconst 0, 1) := by decide +kernel
theorem dX8_isLastSet_49 : decode cX8_isLastSet 49 = .ok (.ireturn, 1) := by decide +kernel
theorem dX8_goal_0 : decode cX8_goal 0 = .ok (.aload_n 0, 1) := by decide +kernel
theorem dX8_goal_1 : decode cX8_goal 1 = .ok (.invokevirtual 99, 3) := by decide +kernel
theorem dX8_goal_4 : decode cX8_goal 4 = .ok (.ifCond .eq 12, 3) := by decide +kernel
theorem dX8_goal_7 : decode cX8_goal 7 = .ok (.aload_n 0, 1) := by decide +kernel
theorem dX8_goal_8 : decode cX8_goal 8 = .ok (.getfield 16, 3) := by decide +kernel
theorem dX8_goal_11 : decode cX8_goal 11 = .ok (.iconst 2, 1) := by decide +kernel
theorem dX8_goal_12 : decode cX8_goal 12 = .ok (.iaload, 1) := by decide +kernel
theorem dX8_goal_13 : decode cX8_goal 13 = .ok (.goto 9, 3) := by decide +kernel
theorem dX8_goal_16 : decode cX8_goal 16 = .ok (.aload_n 0, 1) := by decide +kernel
theorem dX8_goal_17 : decode cX8_goal 17 = .ok (.getfield 16, 3) := by decide +kernel
theorem dX8_goal_20 : decode cX8_goal 20 = .ok (.iconst 0, 1) := by decide +kernel
theorem dX8_goal_21 : decode cX8_goal 21 = .ok (.iaload, 1) := by decide +kernel
theorem dX8_goal_22 : decode cX8_goal 22 = .ok (.ireturn, 1) := by decide +kernel
theorem dX8_wins_0 : decode cX8_wins 0 = .ok (.iload_n 1, 1) := by decide +kernel
theorem dX8_wins_1 : decode cX8_wins 1 = .ok (.iload_n 3, 1) := by decide +kernel
theorem dX8_wins_2 : decode cX8_wins 2 = .ok (.if_icmp .lt 10, 3) := by decide +kernel
theorem dX8_wins_5 : decode cX8_wins 5 = .ok (.iload_n 1, 1) := by decide +kernel
theorem dX8_wins_6 : decode cX8_wins 6 = .ok (.iload_n 2, 1) := by decide +kernel
theorem dX8_wins_7 : decode cX8_wins 7 = .ok (.isub, 1) := by decide +kernel
theorem dX8_wins_8 : decode cX8_wins 8 = .ok (.iconst 2, 1) := by decide +kernel
theorem dX8_wins_9 : decode cX8_wins 9 = .ok (.if_icmp .ge 13, 3) := by decide +kernel
theorem dX8_wins_12 : decode cX8_wins 12 = .ok (.iload_n 1, 1) := by decide +kernel
theorem dX8_wins_13 : decode cX8_wins 13 = .ok (.aload_n 0, 1) := by decide +kernel
theorem dX8_wins_14 : decode cX8_wins 14 = .ok (.getfield 16, 3) := by decide +kernel
theorem dX8_wins_17 : decode cX8_wins 17 = .ok (.iconst 1, 1) := by decide +kernel
theorem dX8_wins_18 : decode cX8_wins 18 = .ok (.iaload, 1) := by decide +kernel
theorem dX8_wins_19 : decode cX8_wins 19 = .ok (.if_icmp .lt 7, 3) := by decide +kernel
theorem dX8_wins_22 : decode cX8_wins 22 = .ok (.iconst 1, 1) := by decide +kernel
theorem dX8_wins_23 : decode cX8_wins 23 = .ok (.goto 4, 3) := by decide +kernel
theorem dX8_wins_26 : decode cX8_wins 26 = .ok (.iconst 0, 1) := by decide +kernel
theorem dX8_wins_27 : decode cX8_wins 27 = .ok (.ireturn, 1) := by decide +kernel
theorem dX8_point_0 : decode cX8_point 0 = .ok (.aload_n 0, 1) := by decide +kernel
theorem dX8_point_1 : decode cX8_point 1 = .ok (.invokevirtual 102, 3) := by decide +kernel
theorem dX8_point_4 : decode cX8_point 4 = .ok (.istore_n 2, 1) := by decide +kernel
theorem dX8_point_5 : decode cX8_point 5 = .ok (.aload_n 0, 1) := by decide +kernel
theorem dX8_point_6 : decode cX8_point 6 = .ok (.getfield 26, 3) := by decide +kernel
theorem dX8_point_9 : decode cX8_point 9 = .ok (.iconst 3, 1) := by decide +kernel
theorem dX8_point_10 : decode cX8_point 10 = .ok (.dup2, 1) := by decide +kernel
theorem dX8_point_11 : decode cX8_point 11 = .ok (.iaload, 1) := by decide +kernel
theorem dX8_point_12 : decode cX8_point 12 = .ok (.iconst 1, 1) := by decide +kernel
theorem dX8_point_13 : decode cX8_point 13 = .ok (.iadd, 1) := by decide +kernel
theorem dX8_point_14 : decode cX8_point 14 = .ok (.iastore, 1) := by decide +kernel
theorem dX8_point_15 : decode cX8_point 15 = .ok (.aload_n 0, 1) := by decide +kernel
theorem dX8_point_16 : decode cX8_point 16 = .ok (.iconst 0, 1) := by decide +kernel
theorem dX8_point_17 : decode cX8_point 17 = .ok (.bipush 7, 2) := by decide +kernel
theorem dX8_point_19 : decode cX8_point 19 = .ok (.iconst 0, 1) := by decide +kernel
theorem dX8_point_20 : decode cX8_point 20 = .ok (.invokevirtual 56, 3) := by decide +kernel
theorem dX8_point_23 : decode cX8_point 23 = .ok (.aload_n 0, 1) := by decide +kernel
theorem dX8_point_24 : decode cX8_point 24 = .ok (.iconst 1, 1) := by decide +kernel
theorem dX8_point_25 : decode cX8_point 25 = .ok (.bipush 7, 2) := by decide +kernel
theorem dX8_point_27 : decode cX8_point 27 = .ok (.iconst 0, 1) := by decide +kernel
theorem dX8_point_28 : decode cX8_point 28 = .ok (.invokevirtual 56, 3) := by decide +kernel
theorem dX8_point_31 : decode cX8_point 31 = .ok (.aload_n 0, 1) := by decide +kernel
theorem dX8_point_32 : decode cX8_point 32 = .ok (.iload_n 1, 1) := by decide +kernel
theorem dX8_point_33 : decode cX8_point 33 = .ok (.iconst 0, 1) := by decide +kernel
theorem dX8_point_34 : decode cX8_point 34 = .ok (.aload_n 0, 1) := by decide +kernel
theorem dX8_point_35 : decode cX8_point 35 = .ok (.iload_n 1, 1) := by decide +kernel
theorem dX8_point_36 : decode cX8_point 36 = .ok (.iconst 0, 1) := by decide +kernel
theorem dX8_point_37 : decode cX8_point 37 = .ok (.invokevirtual 95, 3) := by decide +kernel
theorem dX8_point_40 : decode cX8_point 40 = .ok (.iconst 1, 1) := by decide +kernel
theorem dX8_point_41 : decode cX8_point 41 = .ok (.iadd, 1) := by decide +kernel
theorem dX8_point_42 : decode cX8_point 42 = .ok (.invokevirtual 56, 3) := by decide +kernel
theorem dX8_point_45 : decode cX8_point 45 = .ok (.aload_n 0, 1) := by decide +kernel
theorem dX8_point_46 : decode cX8_point 46 = .ok (.getfield 26, 3) := by decide +kernel
theorem dX8_point_49 : decode cX8_point 49 = .ok (.iconst 2, 1) := by decide +kernel
theorem dX8_point_50 : decode cX8_point 50 = .ok (.iaload, 1) := by decide +kernel
theorem dX8_point_51 : decode cX8_point 51 = .ok (.iload_n 1, 1) := by decide +kernel
theorem dX8_point_52 : decode cX8_point 52 = .ok (.if_icmp .ne 48, 3) := by decide +kernel
theorem dX8_point_55 : decode cX8_point 55 = .ok (.aload_n 0, 1) := by decide +kernel
theorem dX8_point_56 : decode cX8_point 56 = .ok (.iload_n 1, 1) := by decide +kernel
theorem dX8_point_57 : decode cX8_point 57 = .ok (.iconst 5, 1) := by decide +kernel
theorem dX8_point_58 : decode cX8_point 58 = .ok (.aload_n 0, 1) := by decide +kernel
theorem dX8_point_59 : decode cX8_point 59 = .ok (.iload_n 1, 1) := by decide +kernel
theorem dX8_point_60 : decode cX8_point 60 = .ok (.iconst 5, 1) := by decide +kernel
theorem dX8_point_61 : decode cX8_point 61 = .ok (.invokevirtual 95, 3) := by decide +kernel
theorem dX8_point_64 : decode cX8_point 64 = .ok (.iconst 1, 1) := by decide +kernel
theorem dX8_point_65 : decode cX8_point 65 = .ok (.iadd, 1) := by decide +kernel
theorem dX8_point_66 : decode cX8_point 66 = .ok (.invokevirtual 56, 3) := by decide +kernel
theorem dX8_point_69 : decode cX8_point 69 = .ok (.aload_n 0, 1) := by decide +kernel
theorem dX8_point_70 : decode cX8_point 70 = .ok (.iload_n 1, 1) := by decide +kernel
theorem dX8_point_71 : decode cX8_point 71 = .ok (.bipush 8, 2) := by decide +kernel
theorem dX8_point_73 : decode cX8_point 73 = .ok (.invokevirtual 95, 3) := by decide +kernel
theorem dX8_point_76 : decode cX8_point 76 = .ok (.istore_n 3, 1) := by decide +kernel
theorem dX8_point_77 : decode cX8_point 77 = .ok (.aload_n 0, 1) := by decide +kernel
theorem dX8_point_78 : decode cX8_point 78 = .ok (.iload_n 1, 1) := by decide +kernel
theorem dX8_point_79 : decode cX8_point 79 = .ok (.bipush 38, 2) := by decide +kernel
theorem dX8_point_81 : decode cX8_point 81 = .ok (.iload_n 3, 1) := by decide +kernel
theorem dX8_point_82 : decode cX8_point 82 = .ok (.iadd, 1) := by decide +kernel
theorem dX8_point_83 : decode cX8_point 83 = .ok (.aload_n 0, 1) := by decide +kernel
theorem dX8_point_84 : decode cX8_point 84 = .ok (.iload_n 1, 1) := by decide +kernel
theorem dX8_point_85 : decode cX8_point 85 = .ok (.bipush 38, 2) := by decide +kernel
theorem dX8_point_87 : decode cX8_point 87 = .ok (.iload_n 3, 1) := by decide +kernel
theorem dX8_point_88 : decode cX8_point 88 = .ok (.iadd, 1) := by decide +kernel
theorem dX8_point_89 : decode cX8_point 89 = .ok (.invokevirtual 95, 3) := by decide +kernel
theorem dX8_point_92 : decode cX8_point 92 = .ok (.iconst 1, 1) := by decide +kernel
theorem dX8_point_93 : decode cX8_point 93 = .ok (.iadd, 1) := by decide +kernel
theorem dX8_point_94 : decode cX8_point 94 = .ok (.invokevirtual 56, 3) := by decide +kernel
theorem dX8_point_97 : decode cX8_point 97 = .ok (.goto 31, 3) := by decide +kernel
theorem dX8_point_100 : decode cX8_point 100 = .ok (.aload_n 0, 1) := by decide +kernel
theorem dX8_point_101 : decode cX8_point 101 = .ok (.iconst 1, 1) := by decide +kernel
theorem dX8_point_102 : decode cX8_point 102 = .ok (.iload_n 1, 1) := by decide +kernel
theorem dX8_point_103 : decode cX8_point 103 = .ok (.isub, 1) := by decide +kernel
theorem dX8_point_104 : decode cX8_point 104 = .ok (.iconst 5, 1) := by decide +kernel
theorem dX8_point_105 : decode cX8_point 105 = .ok (.iconst 0, 1) := by decide +kernel
theorem dX8_point_106 : decode cX8_point 106 = .ok (.invokevirtual 56, 3) := by decide +kernel
theorem dX8_point_109 : decode cX8_point 109 = .ok (.aload_n 0, 1) := by decide +kernel
theorem dX8_point_110 : decode cX8_point 110 = .ok (.iload_n 1, 1) := by decide +kernel
theorem dX8_point_111 : decode cX8_point 111 = .ok (.iconst 5, 1) := by decide +kernel
theorem dX8_point_112 : decode cX8_point 112 = .ok (.iconst 0, 1) := by decide +kernel
theorem dX8_point_113 : decode cX8_point 113 = .ok (.invokevirtual 56, 3) := by decide +kernel
theorem dX8_point_116 : decode cX8_point 116 = .ok (.aload_n 0, 1) := by decide +kernel
theorem dX8_point_117 : decode cX8_point 117 = .ok (.getfield 26, 3) := by decide +kernel
theorem dX8_point_120 : decode cX8_point 120 = .ok (.iconst 2, 1) := by decide +kernel
theorem dX8_point_121 : decode cX8_point 121 = .ok (.iload_n 1, 1) := by decide +kernel
theorem dX8_point_122 : decode cX8_point 122 = .ok (.iastore, 1) := by decide +kernel
theorem dX8_point_123 : decode cX8_point 123 = .ok (.aload_n 0, 1) := by decide +kernel
theorem dX8_point_124 : decode cX8_point 124 = .ok (.iload_n 1, 1) := by decide +kernel
theorem dX8_point_125 : decode cX8_point 125 = .ok (.invokevirtual 106, 3) := by decide +kernel
theorem dX8_point_128 : decode cX8_point 128 = .ok (.aload_n 0, 1) := by decide +kernel
theorem dX8_point_129 : decode cX8_point 129 = .ok (.aload_n 0, 1) := by decide +kernel
theorem dX8_point_130 : decode cX8_point 130 = .ok (.iload_n 1, 1) := by decide +kernel
theorem dX8_point_131 : decode cX8_point 131 = .ok (.iconst 0, 1) := by decide +kernel
theorem dX8_point_132 : decode cX8_point 132 = .ok (.invokevirtual 95, 3) := by decide +kernel
theorem dX8_point_135 : decode cX8_point 135 = .ok (.aload_n 0, 1) := by decide +kernel
theorem dX8_point_136 : decode cX8_point 136 = .ok (.iconst 1, 1) := by decide +kernel
theorem dX8_point_137 : decode cX8_point 137 = .ok (.iload_n 1, 1) := by decide +kernel
theorem dX8_point_138 : decode cX8_point 138 = .ok (.isub, 1) := by decide +kernel
theorem dX8_point_139 : decode cX8_point 139 = .ok (.iconst 0, 1) := by decide +kernel
theorem dX8_point_140 : decode cX8_point 140 = .ok (.invokevirtual 95, 3) := by decide +kernel
theorem dX8_point_143 : decode cX8_point 143 = .ok (.iload_n 2, 1) := by decide +kernel
theorem dX8_point_144 : decode cX8_point 144 = .ok (.invokevirtual 110, 3) := by decide +kernel
theorem dX8_point_147 : decode cX8_point 147 = .ok (.ifCond .ne 5, 3) := by decide +kernel
theorem dX8_point_150 : decode cX8_point 150 = .ok (.iconst 0, 1) := by decide +kernel
theorem dX8_point_151 : decode cX8_point 151 = .ok (.ireturn, 1) := by decide +kernel
theorem dX8_point_152 : decode cX8_point 152 = .ok (.aload_n 0, 1) := by decide +kernel
theorem dX8_point_153 : decode cX8_point 153 = .ok (.getfield 26, 3) := by decide +kernel
theorem dX8_point_156 : decode cX8_point 156 = .ok (.iconst 1, 1) := by decide +kernel
theorem dX8_point_157 : decode cX8_point 157 = .ok (.iconst 0, 1) := by decide +kernel
theorem dX8_point_158 : decode cX8_point 158 = .ok (.iastore, 1) := by decide +kernel
theorem dX8_point_159 : decode cX8_point 159 = .ok (.aload_n 0, 1) := by decide +kernel
theorem dX8_point_160 : decode cX8_point 160 = .ok (.getfield 26, 3) := by decide +kernel
theorem dX8_point_163 : decode cX8_point 163 = .ok (.iconst 2, 1) := by decide +kernel
theorem dX8_point_164 : decode cX8_point 164 = .ok (.iconst (-1), 1) := by decide +kernel
theorem dX8_point_165 : decode cX8_point 165 = .ok (.iastore, 1) := by decide +kernel
theorem dX8_point_166 : decode cX8_point 166 = .ok (.aload_n 0, 1) := by decide +kernel
theorem dX8_point_167 : decode cX8_point 167 = .ok (.getfield 26, 3) := by decide +kernel
theorem dX8_point_170 : decode cX8_point 170 = .ok (.iconst 5, 1) := by decide +kernel
theorem dX8_point_171 : decode cX8_point 171 = .ok (.iload_n 1, 1) := by decide +kernel
theorem dX8_point_172 : decode cX8_point 172 = .ok (.iastore, 1) := by decide +kernel
theorem dX8_point_173 : decode cX8_point 173 = .ok (.aload_n 0, 1) := by decide +kernel
theorem dX8_point_174 : decode cX8_point 174 = .ok (.iload_n 1, 1) := by decide +kernel
theorem dX8_point_175 : decode cX8_point 175 = .ok (.iconst 1, 1) := by decide +kernel
theorem dX8_point_176 : decode cX8_point 176 = .ok (.aload_n 0, 1) := by decide +kernel
theorem dX8_point_177 : decode cX8_point 177 = .ok (.iload_n 1, 1) := by decide +kernel
theorem dX8_point_178 : decode cX8_point 178 = .ok (.iconst 1, 1) := by decide +kernel
theorem dX8_point_179 : decode cX8_point 179 = .ok (.invokevirtual 95, 3) := by decide +kernel
theorem dX8_point_182 : decode cX8_point 182 = .ok (.iconst 1, 1) := by decide +kernel
theorem dX8_point_183 : decode cX8_point 183 = .ok (.iadd, 1) := by decide +kernel
theorem dX8_point_184 : decode cX8_point 184 = .ok (.invokevirtual 56, 3) := by decide +kernel
theorem dX8_point_187 : decode cX8_point 187 = .ok (.aload_n 0, 1) := by decide +kernel
theorem dX8_point_188 : decode cX8_point 188 = .ok (.iload_n 1, 1) := by decide +kernel
theorem dX8_point_189 : decode cX8_point 189 = .ok (.iconst 1, 1) := by decide +kernel
theorem dX8_point_190 : decode cX8_point 190 = .ok (.invokevirtual 95, 3) := by decide +kernel
theorem dX8_point_193 : decode cX8_point 193 = .ok (.aload_n 0, 1) := by decide +kernel
theorem dX8_point_194 : decode cX8_point 194 = .ok (.getfield 16, 3) := by decide +kernel
theorem dX8_point_197 : decode cX8_point 197 = .ok (.iconst 3, 1) := by decide +kernel
theorem dX8_point_198 : decode cX8_point 198 = .ok (.iaload, 1) := by decide +kernel
theorem dX8_point_199 : decode cX8_point 199 = .ok (.if_icmp .ge 5, 3) := by decide +kernel
theorem dX8_point_202 : decode cX8_point 202 = .ok (.iconst 1, 1) := by decide +kernel
theorem dX8_point_203 : decode cX8_point 203 = .ok (.ireturn, 1) := by decide +kernel
theorem dX8_point_204 : decode cX8_point 204 = .ok (.aload_n 0, 1) := by decide +kernel
theorem dX8_point_205 : decode cX8_point 205 = .ok (.getfield 26, 3) := by decide +kernel
theorem dX8_point_208 : decode cX8_point 208 = .ok (.iconst 4, 1) := by decide +kernel
theorem dX8_point_209 : decode cX8_point 209 = .ok (.iload_n 1, 1) := by decide +kernel
theorem dX8_point_210 : decode cX8_point 210 = .ok (.iastore, 1) := by decide +kernel
theorem dX8_point_211 : decode cX8_point 211 = .ok (.iconst 2, 1) := by decide +kernel
theorem dX8_point_212 : decode cX8_point 212 = .ok (.ireturn, 1) := by decide +kernel
theorem dX8_rally_0 : decode cX8_rally 0 = .ok (.aload_n 0, 1) := by decide +kernel
theorem dX8_rally_1 : decode cX8_rally 1 = .ok (.iconst 0, 1) := by decide +kernel
theorem dX8_rally_2 : decode cX8_rally 2 = .ok (.putfield 63, 3) := by decide +kernel
theorem dX8_rally_5 : decode cX8_rally 5 = .ok (.iload_n 1, 1) := by decide +kernel
theorem dX8_rally_6 : decode cX8_rally 6 = .ok (.invokestatic 71, 3) := by decide +kernel
theorem dX8_rally_9 : decode cX8_rally 9 = .ok (.ifCond .eq 18, 3) := by decide +kernel
theorem dX8_rally_12 : decode cX8_rally 12 = .ok (.aload_n 0, 1) := by decide +kernel
theorem dX8_rally_13 : decode cX8_rally 13 = .ok (.invokevirtual 82, 3) := by decide +kernel
theorem dX8_rally_16 : decode cX8_rally 16 = .ok (.ifCond .eq 11, 3) := by decide +kernel
theorem dX8_rally_19 : decode cX8_rally 19 = .ok (.aload_n 0, 1) := by decide +kernel
theorem dX8_rally_20 : decode cX8_rally 20 = .ok (.iload_n 1, 1) := by decide +kernel
theorem dX8_rally_21 : decode cX8_rally 21 = .ok (.invokevirtual 113, 3) := by decide +kernel
theorem dX8_rally_24 : decode cX8_rally 24 = .ok (.goto 4, 3) := by decide +kernel
theorem dX8_rally_27 : decode cX8_rally 27 = .ok (.iconst (-1), 1) := by decide +kernel
theorem dX8_rally_28 : decode cX8_rally 28 = .ok (.ireturn, 1) := by decide +kernel
theorem dX8_placeOf_0 : decode cX8_placeOf 0 = .ok (.iconst 0, 1) := by decide +kernel
theorem dX8_placeOf_1 : decode cX8_placeOf 1 = .ok (.istore_n 3, 1) := by decide +kernel
theorem dX8_placeOf_2 : decode cX8_placeOf 2 = .ok (.iload_n 3, 1) := by decide +kernel
theorem dX8_placeOf_3 : decode cX8_placeOf 3 = .ok (.bipush 6, 2) := by decide +kernel
theorem dX8_placeOf_5 : decode cX8_placeOf 5 = .ok (.if_icmp .ge 24, 3) := by decide +kernel
theorem dX8_placeOf_8 : decode cX8_placeOf 8 = .ok (.aload_n 0, 1) := by decide +kernel
theorem dX8_placeOf_9 : decode cX8_placeOf 9 = .ok (.iload_n 1, 1) := by decide +kernel
theorem dX8_placeOf_10 : decode cX8_placeOf 10 = .ok (.bipush 8, 2) := by decide +kernel
theorem dX8_placeOf_12 : decode cX8_placeOf 12 = .ok (.iload_n 3, 1) := by decide +kernel
theorem dX8_placeOf_13 : decode cX8_placeOf 13 = .ok (.iadd, 1) := by decide +kernel
theorem dX8_placeOf_14 : decode cX8_placeOf 14 = .ok (.invokevirtual 95, 3) := by decide +kernel
theorem dX8_placeOf_17 : decode cX8_placeOf 17 = .ok (.iload_n 2, 1) := by decide +kernel
theorem dX8_placeOf_18 : decode cX8_placeOf 18 = .ok (.if_icmp .ne 5, 3) := by decide +kernel
theorem dX8_placeOf_21 : decode cX8_placeOf 21 = .ok (.iload_n 3, 1) := by decide +kernel
theorem dX8_placeOf_22 : decode cX8_placeOf 22 = .ok (.ireturn, 1) := by decide +kernel
theorem dX8_placeOf_23 : decode cX8_placeOf 23 = .ok (.iinc 3 1, 3) := by decide +kernel
theorem dX8_placeOf_26 : decode cX8_placeOf 26 = .ok (.goto (-24), 3) := by decide +kernel
theorem dX8_placeOf_29 : decode cX8_placeOf 29 = .ok (.iconst (-1), 1) := by decide +kernel
theorem dX8_placeOf_30 : decode cX8_placeOf 30 = .ok (.ireturn, 1) := by decide +kernel
theorem dX8_mayNot_0 : decode cX8_mayNot 0 = .ok (.aload_n 0, 1) := by decide +kernel
theorem dX8_mayNot_1 : decode cX8_mayNot 1 = .ok (.invokevirtual 82, 3) := by decide +kernel
theorem dX8_mayNot_4 : decode cX8_mayNot 4 = .ok (.ifCond .ne 5, 3) := by decide +kernel
theorem dX8_mayNot_7 : decode cX8_mayNot 7 = .ok (.iconst 1, 1) := by decide +kernel
theorem dX8_mayNot_8 : decode cX8_mayNot 8 = .ok (.ireturn, 1) := by decide +kernel
theorem dX8_mayNot_9 : decode cX8_mayNot 9 = .ok (.iload_n 2, 1) := by decide +kernel
theorem dX8_mayNot_10 : decode cX8_mayNot 10 = .ok (.invokestatic 75, 3) := by decide +kernel
theorem dX8_mayNot_13 : decode cX8_mayNot 13 = .ok (.ifCond .eq 15, 3) := by decide +kernel
theorem dX8_mayNot_16 : decode cX8_mayNot 16 = .ok (.iload_n 3, 1) := by decide +kernel
theorem dX8_mayNot_17 : decode cX8_mayNot 17 = .ok (.invokestatic 75, 3) := by decide +kernel
theorem dX8_mayNot_20 : decode cX8_mayNot 20 = .ok (.ifCond .eq 8, 3) := by decide +kernel
theorem dX8_mayNot_23 : decode cX8_mayNot 23 = .ok (.iload_n 2, 1) := by decide +kernel
theorem dX8_mayNot_24 : decode cX8_mayNot 24 = .ok (.iload_n 3, 1) := by decide +kernel
theorem dX8_mayNot_25 : decode cX8_mayNot 25 = .ok (.if_icmp .ne 5, 3) := by decide +kernel
theorem dX8_mayNot_28 : decode cX8_mayNot 28 = .ok (.iconst 2, 1) := by decide +kernel
theorem dX8_mayNot_29 : decode cX8_mayNot 29 = .ok (.ireturn, 1) := by decide +kernel
theorem dX8_mayNot_30 : decode cX8_mayNot 30 = .ok (.aload_n 0, 1) := by decide +kernel
theorem dX8_mayNot_31 : decode cX8_mayNot 31 = .ok (.iload_n 1, 1) := by decide +kernel
theorem dX8_mayNot_32 : decode cX8_mayNot 32 = .ok (.iload_n 2, 1) := by decide +kernel
theorem dX8_mayNot_33 : decode cX8_mayNot 33 = .ok (.invokevirtual 117, 3) := by decide +kernel
theorem dX8_mayNot_36 : decode cX8_mayNot 36 = .ok (.iconst (-1), 1) := by decide +kernel
theorem dX8_mayNot_37 : decode cX8_mayNot 37 = .ok (.if_icmp .eq 13, 3) := by decide +kernel
theorem dX8_mayNot_40 : decode cX8_mayNot 40 = .ok (.iload_n 2, 1) := by decide +kernel
theorem dX8_mayNot_41 : decode cX8_mayNot 41 = .ok (.aload_n 0, 1) := by decide +kernel
theorem dX8_mayNot_42 : decode cX8_mayNot 42 = .ok (.getfield 13, 3) := by decide +kernel
theorem dX8_mayNot_45 : decode cX8_mayNot 45 = .ok (.iload_n 1, 1) := by decide +kernel
theorem dX8_mayNot_46 : decode cX8_mayNot 46 = .ok (.iaload, 1) := by decide +kernel
theorem dX8_mayNot_47 : decode cX8_mayNot 47 = .ok (.if_icmp .ne 5, 3) := by decide +kernel
theorem dX8_mayNot_50 : decode cX8_mayNot 50 = .ok (.iconst 3, 1) := by decide +kernel
theorem dX8_mayNot_51 : decode cX8_mayNot 51 = .ok (.ireturn, 1) := by decide +kernel
theorem dX8_mayNot_52 : decode cX8_mayNot 52 = .ok (.aload_n 0, 1) := by decide +kernel
theorem dX8_mayNot_53 : decode cX8_mayNot 53 = .ok (.iload_n 1, 1) := by decide +kernel
theorem dX8_mayNot_54 : decode cX8_mayNot 54 = .ok (.iload_n 3, 1) := by decide +kernel
theorem dX8_mayNot_55 : decode cX8_mayNot 55 = .ok (.invokevirtual 117, 3) := by decide +kernel
theorem dX8_mayNot_58 : decode cX8_mayNot 58 = .ok (.iconst (-1), 1) := by decide +kernel
theorem dX8_mayNot_59 : decode cX8_mayNot 59 = .ok (.if_icmp .ne 23, 3) := by decide +kernel
theorem dX8_mayNot_62 : decode cX8_mayNot 62 = .ok (.iload_n 3, 1) := by decide +kernel
theorem dX8_mayNot_63 : decode cX8_mayNot 63 = .ok (.aload_n 0, 1) := by decide +kernel
theorem dX8_mayNot_64 : decode cX8_mayNot 64 = .ok (.getfield 13, 3) := by decide +kernel
theorem dX8_mayNot_67 : decode cX8_mayNot 67 = .ok (.iload_n 1, 1) := by decide +kernel
theorem dX8_mayNot_68 : decode cX8_mayNot 68 = .ok (.iaload, 1) := by decide +kernel
theorem dX8_mayNot_69 : decode cX8_mayNot 69 = .ok (.if_icmp .eq 13, 3) := by decide +kernel
theorem dX8_mayNot_72 : decode cX8_mayNot 72 = .ok (.aload_n 0, 1) := by decide +kernel
theorem dX8_mayNot_73 : decode cX8_mayNot 73 = .ok (.iload_n 1, 1) := by decide +kernel
theorem dX8_mayNot_74 : decode cX8_mayNot 74 = .ok (.iconst 4, 1) := by decide +kernel
theorem dX8_mayNot_75 : decode cX8_mayNot 75 = .ok (.invokevirtual 95, 3) := by decide +kernel
theorem dX8_mayNot_78 : decode cX8_mayNot 78 = .ok (.iload_n 3, 1) := by decide +kernel
theorem dX8_mayNot_79 : decode cX8_mayNot 79 = .ok (.if_icmp .ne 5, 3) := by decide +kernel
theorem dX8_mayNot_82 : decode cX8_mayNot 82 = .ok (.iconst 4, 1) := by decide +kernel
theorem dX8_mayNot_83 : decode cX8_mayNot 83 = .ok (.ireturn, 1) := by decide +kernel
theorem dX8_mayNot_84 : decode cX8_mayNot 84 = .ok (.aload_n 0, 1) := by decide +kernel
theorem dX8_mayNot_85 : decode cX8_mayNot 85 = .ok (.iload_n 1, 1) := by decide +kernel
theorem dX8_mayNot_86 : decode cX8_mayNot 86 = .ok (.iconst 2, 1) := by decide +kernel
theorem dX8_mayNot_87 : decode cX8_mayNot 87 = .ok (.invokevirtual 95, 3) := by decide +kernel
theorem dX8_mayNot_90 : decode cX8_mayNot 90 = .ok (.aload_n 0, 1) := by decide +kernel
theorem dX8_mayNot_91 : decode cX8_mayNot 91 = .ok (.getfield 16, 3) := by decide +kernel
theorem dX8_mayNot_94 : decode cX8_mayNot 94 = .ok (.iconst 4, 1) := by decide +kernel
theorem dX8_mayNot_95 : decode cX8_mayNot 95 = .ok (.iaload, 1) := by decide +kernel
theorem dX8_mayNot_96 : decode cX8_mayNot 96 = .ok (.if_icmp .lt 5, 3) := by decide +kernel
theorem dX8_mayNot_99 : decode cX8_mayNot 99 = .ok (.iconst 5, 1) := by decide +kernel
theorem dX8_mayNot_100 : decode cX8_mayNot 100 = .ok (.ireturn, 1) := by decide +kernel
theorem dX8_mayNot_101 : decode cX8_mayNot 101 = .ok (.aload_n 0, 1) := by decide +kernel
theorem dX8_mayNot_102 : decode cX8_mayNot 102 = .ok (.iload_n 1, 1) := by decide +kernel
theorem dX8_mayNot_103 : decode cX8_mayNot 103 = .ok (.bipush 14, 2) := by decide +kernel
theorem dX8_mayNot_105 : decode cX8_mayNot 105 = .ok (.iload_n 2, 1) := by decide +kernel
theorem dX8_mayNot_106 : decode cX8_mayNot 106 = .ok (.iadd, 1) := by decide +kernel
theorem dX8_mayNot_107 : decode cX8_mayNot 107 = .ok (.invokevirtual 95, 3) := by decide +kernel
theorem dX8_mayNot_110 : decode cX8_mayNot 110 = .ok (.istore 4, 2) := by decide +kernel
theorem dX8_mayNot_112 : decode cX8_mayNot 112 = .ok (.aload_n 0, 1) := by decide +kernel
theorem dX8_mayNot_113 : decode cX8_mayNot 113 = .ok (.iload_n 1, 1) := by decide +kernel
theorem dX8_mayNot_114 : decode cX8_mayNot 114 = .ok (.bipush 14, 2) := by decide +kernel
theorem dX8_mayNot_116 : decode cX8_mayNot 116 = .ok (.iload_n 3, 1) := by decide +kernel
theorem dX8_mayNot_117 : decode cX8_mayNot 117 = .ok (.iadd, 1) := by decide +kernel
theorem dX8_mayNot_118 : decode cX8_mayNot 118 = .ok (.invokevirtual 95, 3) := by decide +kernel
theorem dX8_mayNot_121 : decode cX8_mayNot 121 = .ok (.istore 5, 2) := by decide +kernel
theorem dX8_mayNot_123 : decode cX8_mayNot 123 = .ok (.iload 4, 2) := by decide +kernel
theorem dX8_mayNot_125 : decode cX8_mayNot 125 = .ok (.iconst 1, 1) := by decide +kernel
theorem dX8_mayNot_126 : decode cX8_mayNot 126 = .ok (.if_icmp .ne 10, 3) := by decide +kernel
theorem dX8_mayNot_129 : decode cX8_mayNot 129 = .ok (.iload 5, 2) := by decide +kernel
theorem dX8_mayNot_131 : decode cX8_mayNot 131 = .ok (.ifCond .ne 5, 3) := by decide +kernel
theorem dX8_mayNot_134 : decode cX8_mayNot 134 = .ok (.iconst 0, 1) := by decide +kernel
theorem dX8_mayNot_135 : decode cX8_mayNot 135 = .ok (.ireturn, 1) := by decide +kernel
theorem dX8_mayNot_136 : decode cX8_mayNot 136 = .ok (.iload 4, 2) := by decide +kernel
theorem dX8_mayNot_138 : decode cX8_mayNot 138 = .ok (.iconst 3, 1) := by decide +kernel
theorem dX8_mayNot_139 : decode cX8_mayNot 139 = .ok (.if_icmp .ne 26, 3) := by decide +kernel
theorem dX8_mayNot_142 : decode cX8_mayNot 142 = .ok (.iload 5, 2) := by decide +kernel
theorem dX8_mayNot_144 : decode cX8_mayNot 144 = .ok (.iconst 2, 1) := by decide +kernel
theorem dX8_mayNot_145 : decode cX8_mayNot 145 = .ok (.if_icmp .ne 20, 3) := by decide +kernel
theorem dX8_mayNot_148 : decode cX8_mayNot 148 = .ok (.aload_n 0, 1) := by decide +kernel
theorem dX8_mayNot_149 : decode cX8_mayNot 149 = .ok (.iload_n 1, 1) := by decide +kernel
theorem dX8_mayNot_150 : decode cX8_mayNot 150 = .ok (.bipush 26, 2) := by decide +kernel
theorem dX8_mayNot_152 : decode cX8_mayNot 152 = .ok (.iload_n 2, 1) := by decide +kernel
theorem dX8_mayNot_153 : decode cX8_mayNot 153 = .ok (.iadd, 1) := by decide +kernel
theorem dX8_mayNot_154 : decode cX8_mayNot 154 = .ok (.invokevirtual 95, 3) := by decide +kernel
theorem dX8_mayNot_157 : decode cX8_mayNot 157 = .ok (.iload_n 3, 1) := by decide +kernel
theorem dX8_mayNot_158 : decode cX8_mayNot 158 = .ok (.if_icmp .ne 7, 3) := by decide +kernel
theorem dX8_mayNot_161 : decode cX8_mayNot 161 = .ok (.iconst 0, 1) := by decide +kernel
theorem dX8_mayNot_162 : decode cX8_mayNot 162 = .ok (.goto 5, 3) := by decide +kernel
theorem dX8_mayNot_165 : decode cX8_mayNot 165 = .ok (.bipush 6, 2) := by decide +kernel
theorem dX8_mayNot_167 : decode cX8_mayNot 167 = .ok (.ireturn, 1) := by decide +kernel
theorem dX8_may_0 : decode cX8_may 0 = .ok (.aload_n 0, 1) := by decide +kernel
theorem dX8_may_1 : decode cX8_may 1 = .ok (.iconst 0, 1) := by decide +kernel
theorem dX8_may_2 : decode cX8_may 2 = .ok (.putfield 63, 3) := by decide +kernel
theorem dX8_may_5 : decode cX8_may 5 = .ok (.iload_n 1, 1) := by decide +kernel
theorem dX8_may_6 : decode cX8_may 6 = .ok (.invokestatic 71, 3) := by decide +kernel
theorem dX8_may_9 : decode cX8_may 9 = .ok (.ifCond .eq 13, 3) := by decide +kernel
theorem dX8_may_12 : decode cX8_may 12 = .ok (.aload_n 0, 1) := by decide +kernel
theorem dX8_may_13 : decode cX8_may 13 = .ok (.iload_n 1, 1) := by decide +kernel
theorem dX8_may_14 : decode cX8_may 14 = .ok (.iload_n 2, 1) := by decide +kernel
theorem dX8_may_15 : decode cX8_may 15 = .ok (.iload_n 3, 1) := by decide +kernel
theorem dX8_may_16 : decode cX8_may 16 = .ok (.invokevirtual 120, 3) := by decide +kernel
theorem dX8_may_19 : decode cX8_may 19 = .ok (.goto 4, 3) := by decide +kernel
theorem dX8_may_22 : decode cX8_may 22 = .ok (.iconst (-1), 1) := by decide +kernel
theorem dX8_may_23 : decode cX8_may 23 = .ok (.ireturn, 1) := by decide +kernel
theorem dX8_doChange_0 : decode cX8_doChange 0 = .ok (.aload_n 0, 1) := by decide +kernel
theorem dX8_doChange_1 : decode cX8_doChange 1 = .ok (.iload_n 1, 1) := by decide +kernel
theorem dX8_doChange_2 : decode cX8_doChange 2 = .ok (.iload_n 2, 1) := by decide +kernel
theorem dX8_doChange_3 : decode cX8_doChange 3 = .ok (.invokevirtual 117, 3) := by decide +kernel
theorem dX8_doChange_6 : decode cX8_doChange 6 = .ok (.istore 4, 2) := by decide +kernel
theorem dX8_doChange_8 : decode cX8_doChange 8 = .ok (.aload_n 0, 1) := by decide +kernel
theorem dX8_doChange_9 : decode cX8_doChange 9 = .ok (.iload_n 1, 1) := by decide +kernel
theorem dX8_doChange_10 : decode cX8_doChange 10 = .ok (.bipush 14, 2) := by decide +kernel
theorem dX8_doChange_12 : decode cX8_doChange 12 = .ok (.iload_n 2, 1) := by decide +kernel
theorem dX8_doChange_13 : decode cX8_doChange 13 = .ok (.iadd, 1) := by decide +kernel
theorem dX8_doChange_14 : decode cX8_doChange 14 = .ok (.invokevirtual 95, 3) := by decide +kernel
theorem dX8_doChange_17 : decode cX8_doChange 17 = .ok (.iconst 3, 1) := by decide +kernel
theorem dX8_doChange_18 : decode cX8_doChange 18 = .ok (.if_icmp .ne 7, 3) := by decide +kernel
theorem dX8_doChange_21 : decode cX8_doChange 21 = .ok (.iconst 1, 1) := by decide +kernel
theorem dX8_doChange_22 : decode cX8_doChange 22 = .ok (.goto 4, 3) := by decide +kernel
theorem dX8_doChange_25 : decode cX8_doChange 25 = .ok (.iconst 0, 1) := by decide +kernel
theorem dX8_doChange_26 : decode cX8_doChange 26 = .ok (.istore 5, 2) := by decide +kernel
theorem dX8_doChange_28 : decode cX8_doChange 28 = .ok (.aload_n 0, 1) := by decide +kernel
theorem dX8_doChange_29 : decode cX8_doChange 29 = .ok (.iload_n 1, 1) := by decide +kernel
theorem dX8_doChange_30 : decode cX8_doChange 30 = .ok (.bipush 8, 2) := by decide +kernel
theorem dX8_doChange_32 : decode cX8_doChange 32 = .ok (.iload 4, 2) := by decide +kernel
theorem dX8_doChange_34 : decode cX8_doChange 34 = .ok (.iadd, 1) := by decide +kernel
theorem dX8_doChange_35 : decode cX8_doChange 35 = .ok (.iload_n 3, 1) := by decide +kernel
theorem dX8_doChange_36 : decode cX8_doChange 36 = .ok (.invokevirtual 56, 3) := by decide +kernel
theorem dX8_doChange_39 : decode cX8_doChange 39 = .ok (.aload_n 0, 1) := by decide +kernel
theorem dX8_doChange_40 : decode cX8_doChange 40 = .ok (.iload_n 1, 1) := by decide +kernel
theorem dX8_doChange_41 : decode cX8_doChange 41 = .ok (.bipush 14, 2) := by decide +kernel
theorem dX8_doChange_43 : decode cX8_doChange 43 = .ok (.iload_n 2, 1) := by decide +kernel
theorem dX8_doChange_44 : decode cX8_doChange 44 = .ok (.iadd, 1) := by decide +kernel
theorem dX8_doChange_45 : decode cX8_doChange 45 = .ok (.iload 5, 2) := by decide +kernel
theorem dX8_doChange_47 : decode cX8_doChange 47 = .ok (.ifCond .eq 7, 3) := by decide +kernel
theorem dX8_doChange_50 : decode cX8_doChange 50 = .ok (.iconst 4, 1) := by decide +kernel
theorem dX8_doChange_51 : decode cX8_doChange 51 = .ok (.goto 4, 3) := by decide +kernel
theorem dX8_doChange_54 : decode cX8_doChange 54 = .ok (.iconst 2, 1) := by decide +kernel
theorem dX8_doChange_55 : decode cX8_doChange 55 = .ok (.invokevirtual 56, 3) := by decide +kernel
theorem dX8_doChange_58 : decode cX8_doChange 58 = .ok (.aload_n 0, 1) := by decide +kernel
theorem dX8_doChange_59 : decode cX8_doChange 59 = .ok (.iload_n 1, 1) := by decide +kernel
theorem dX8_doChange_60 : decode cX8_doChange 60 = .ok (.bipush 14, 2) := by decide +kernel
theorem dX8_doChange_62 : decode cX8_doChange 62 = .ok (.iload_n 3, 1) := by decide +kernel
theorem dX8_doChange_63 : decode cX8_doChange 63 = .ok (.iadd, 1) := by decide +kernel
theorem dX8_doChange_64 : decode cX8_doChange 64 = .ok (.iload 5, 2) := by decide +kernel
theorem dX8_doChange_66 : decode cX8_doChange 66 = .ok (.ifCond .eq 7, 3) := by decide +kernel
theorem dX8_doChange_69 : decode cX8_doChange 69 = .ok (.iconst 4, 1) := by decide +kernel
theorem dX8_doChange_70 : decode cX8_doChange 70 = .ok (.goto 4, 3) := by decide +kernel
theorem dX8_doChange_73 : decode cX8_doChange 73 = .ok (.iconst 3, 1) := by decide +kernel
theorem dX8_doChange_74 : decode cX8_doChange 74 = .ok (.invokevirtual 56, 3) := by decide +kernel
theorem dX8_doChange_77 : decode cX8_doChange 77 = .ok (.aload_n 0, 1) := by decide +kernel
theorem dX8_doChange_78 : decode cX8_doChange 78 = .ok (.iload_n 1, 1) := by decide +kernel
theorem dX8_doChange_79 : decode cX8_doChange 79 = .ok (.bipush 26, 2) := by decide +kernel
theorem dX8_doChange_81 : decode cX8_doChange 81 = .ok (.iload_n 2, 1) := by decide +kernel
theorem dX8_doChange_82 : decode cX8_doChange 82 = .ok (.iadd, 1) := by decide +kernel
theorem dX8_doChange_83 : decode cX8_doChange 83 = .ok (.iload_n 3, 1) := by decide +kernel
theorem dX8_doChange_84 : decode cX8_doChange 84 = .ok (.invokevirtual 56, 3) := by decide +kernel
theorem dX8_doChange_87 : decode cX8_doChange 87 = .ok (.aload_n 0, 1) := by decide +kernel
theorem dX8_doChange_88 : decode cX8_doChange 88 = .ok (.iload_n 1, 1) := by decide +kernel
theorem dX8_doChange_89 : decode cX8_doChange 89 = .ok (.bipush 26, 2) := by decide +kernel
theorem dX8_doChange_91 : decode cX8_doChange 91 = .ok (.iload_n 3, 1) := by decide +kernel
theorem dX8_doChange_92 : decode cX8_doChange 92 = .ok (.iadd, 1) := by decide +kernel
theorem dX8_doChange_93 : decode cX8_doChange 93 = .ok (.iload_n 2, 1) := by decide +kernel
theorem dX8_doChange_94 : decode cX8_doChange 94 = .ok (.invokevirtual 56, 3) := by decide +kernel
theorem dX8_doChange_97 : decode cX8_doChange 97 = .ok (.aload_n 0, 1) := by decide +kernel
theorem dX8_doChange_98 : decode cX8_doChange 98 = .ok (.iload_n 1, 1) := by decide +kernel
theorem dX8_doChange_99 : decode cX8_doChange 99 = .ok (.iconst 2, 1) := by decide +kernel
theorem dX8_doChange_100 : decode cX8_doChange 100 = .ok (.aload_n 0, 1) := by decide +kernel
theorem dX8_doChange_101 : decode cX8_doChange 101 = .ok (.iload_n 1, 1) := by decide +kernel
theorem dX8_doChange_102 : decode cX8_doChange 102 = .ok (.iconst 2, 1) := by decide +kernel
theorem dX8_doChange_103 : decode cX8_doChange 103 = .ok (.invokevirtual 95, 3) := by decide +kernel
theorem dX8_doChange_106 : decode cX8_doChange 106 = .ok (.iconst 1, 1) := by decide +kernel
theorem dX8_doChange_107 : decode cX8_doChange 107 = .ok (.iadd, 1) := by decide +kernel
theorem dX8_doChange_108 : decode cX8_doChange 108 = .ok (.invokevirtual 56, 3) := by decide +kernel
theorem dX8_doChange_111 : decode cX8_doChange 111 = .ok (.iload 4, 2) := by decide +kernel
theorem dX8_doChange_113 : decode cX8_doChange 113 = .ok (.ireturn, 1) := by decide +kernel
theorem dX8_change_0 : decode cX8_change 0 = .ok (.aload_n 0, 1) := by decide +kernel
theorem dX8_change_1 : decode cX8_change 1 = .ok (.iconst 0, 1) := by decide +kernel
theorem dX8_change_2 : decode cX8_change 2 = .ok (.putfield 63, 3) := by decide +kernel
theorem dX8_change_5 : decode cX8_change 5 = .ok (.iload_n 1, 1) := by decide +kernel
theorem dX8_change_6 : decode cX8_change 6 = .ok (.invokestatic 71, 3) := by decide +kernel
theorem dX8_change_9 : decode cX8_change 9 = .ok (.ifCond .eq 23, 3) := by decide +kernel
theorem dX8_change_12 : decode cX8_change 12 = .ok (.aload_n 0, 1) := by decide +kernel
theorem dX8_change_13 : decode cX8_change 13 = .ok (.iload_n 1, 1) := by decide +kernel
theorem dX8_change_14 : decode cX8_change 14 = .ok (.iload_n 2, 1) := by decide +kernel
theorem dX8_change_15 : decode cX8_change 15 = .ok (.iload_n 3, 1) := by decide +kernel
theorem dX8_change_16 : decode cX8_change 16 = .ok (.invokevirtual 120, 3) := by decide +kernel
theorem dX8_change_19 : decode cX8_change 19 = .ok (.ifCond .ne 13, 3) := by decide +kernel
theorem dX8_change_22 : decode cX8_change 22 = .ok (.aload_n 0, 1) := by decide +kernel
theorem dX8_change_23 : decode cX8_change 23 = .ok (.iload_n 1, 1) := by decide +kernel
theorem dX8_change_24 : decode cX8_change 24 = .ok (.iload_n 2, 1) := by decide +kernel
theorem dX8_change_25 : decode cX8_change 25 = .ok (.iload_n 3, 1) := by decide +kernel
theorem dX8_change_26 : decode cX8_change 26 = .ok (.invokevirtual 123, 3) := by decide +kernel
theorem dX8_change_29 : decode cX8_change 29 = .ok (.goto 4, 3) := by decide +kernel
theorem dX8_change_32 : decode cX8_change 32 = .ok (.iconst (-1), 1) := by decide +kernel
theorem dX8_change_33 : decode cX8_change 33 = .ok (.ireturn, 1) := by decide +kernel
theorem dX8_doFree_0 : decode cX8_doFree 0 = .ok (.aload_n 0, 1) := by decide +kernel
theorem dX8_doFree_1 : decode cX8_doFree 1 = .ok (.invokevirtual 82, 3) := by decide +kernel
theorem dX8_doFree_4 : decode cX8_doFree 4 = .ok (.ifCond .eq 24, 3) := by decide +kernel
theorem dX8_doFree_7 : decode cX8_doFree 7 = .ok (.aload_n 0, 1) := by decide +kernel
theorem dX8_doFree_8 : decode cX8_doFree 8 = .ok (.getfield 13, 3) := by decide +kernel
theorem dX8_doFree_11 : decode cX8_doFree 11 = .ok (.iload_n 1, 1) := by decide +kernel
theorem dX8_doFree_12 : decode cX8_doFree 12 = .ok (.iaload, 1) := by decide +kernel
theorem dX8_doFree_13 : decode cX8_doFree 13 = .ok (.iconst (-1), 1) := by decide +kernel
theorem dX8_doFree_14 : decode cX8_doFree 14 = .ok (.if_icmp .eq 14, 3) := by decide +kernel
theorem dX8_doFree_17 : decode cX8_doFree 17 = .ok (.aload_n 0, 1) := by decide +kernel
theorem dX8_doFree_18 : decode cX8_doFree 18 = .ok (.iload_n 1, 1) := by decide +kernel
theorem dX8_doFree_19 : decode cX8_doFree 19 = .ok (.bipush 7, 2) := by decide +kernel
theorem dX8_doFree_21 : decode cX8_doFree 21 = .ok (.invokevirtual 95, 3) := by decide +kernel
theorem dX8_doFree_24 : decode cX8_doFree 24 = .ok (.iconst 1, 1) := by decide +kernel
theorem dX8_doFree_25 : decode cX8_doFree 25 = .ok (.if_icmp .ne 5, 3) := by decide +kernel
theorem dX8_doFree_28 : decode cX8_doFree 28 = .ok (.iconst (-1), 1) := by decide +kernel
theorem dX8_doFree_29 : decode cX8_doFree 29 = .ok (.ireturn, 1) := by decide +kernel
theorem dX8_doFree_30 : decode cX8_doFree 30 = .ok (.iload_n 2, 1) := by decide +kernel
theorem dX8_doFree_31 : decode cX8_doFree 31 = .ok (.iconst (-1), 1) := by decide +kernel
theorem dX8_doFree_32 : decode cX8_doFree 32 = .ok (.if_icmp .ne 52, 3) := by decide +kernel
theorem dX8_doFree_35 : decode cX8_doFree 35 = .ok (.aload_n 0, 1) := by decide +kernel
theorem dX8_doFree_36 : decode cX8_doFree 36 = .ok (.iload_n 1, 1) := by decide +kernel
theorem dX8_doFree_37 : decode cX8_doFree 37 = .ok (.iconst 4, 1) := by decide +kernel
theorem dX8_doFree_38 : decode cX8_doFree 38 = .ok (.invokevirtual 95, 3) := by decide +kernel
theorem dX8_doFree_41 : decode cX8_doFree 41 = .ok (.iconst (-1), 1) := by decide +kernel
theorem dX8_doFree_42 : decode cX8_doFree 42 = .ok (.if_icmp .ne 5, 3) := by decide +kernel
theorem dX8_doFree_45 : decode cX8_doFree 45 = .ok (.iconst (-1), 1) := by decide +kernel
theorem dX8_doFree_46 : decode cX8_doFree 46 = .ok (.ireturn, 1) := by decide +kernel
theorem dX8_doFree_47 : decode cX8_doFree 47 = .ok (.aload_n 0, 1) := by decide +kernel
theorem dX8_doFree_48 : decode cX8_doFree 48 = .ok (.iload_n 1, 1) := by decide +kernel
theorem dX8_doFree_49 : decode cX8_doFree 49 = .ok (.aload_n 0, 1) := by decide +kernel
theorem dX8_doFree_50 : decode cX8_doFree 50 = .ok (.getfield 13, 3) := by decide +kernel
theorem dX8_doFree_53 : decode cX8_doFree 53 = .ok (.iload_n 1, 1) := by decide +kernel
theorem dX8_doFree_54 : decode cX8_doFree 54 = .ok (.iaload, 1) := by decide +kernel
theorem dX8_doFree_55 : decode cX8_doFree 55 = .ok (.invokevirtual 117, 3) := by decide +kernel
theorem dX8_doFree_58 : decode cX8_doFree 58 = .ok (.istore_n 3, 1) := by decide +kernel
theorem dX8_doFree_59 : decode cX8_doFree 59 = .ok (.aload_n 0, 1) := by decide +kernel
theorem dX8_doFree_60 : decode cX8_doFree 60 = .ok (.iload_n 1, 1) := by decide +kernel
theorem dX8_doFree_61 : decode cX8_doFree 61 = .ok (.bipush 8, 2) := by decide +kernel
theorem dX8_doFree_63 : decode cX8_doFree 63 = .ok (.iload_n 3, 1) := by decide +kernel
theorem dX8_doFree_64 : decode cX8_doFree 64 = .ok (.iadd, 1) := by decide +kernel
theorem dX8_doFree_65 : decode cX8_doFree 65 = .ok (.aload_n 0, 1) := by decide +kernel
theorem dX8_doFree_66 : decode cX8_doFree 66 = .ok (.iload_n 1, 1) := by decide +kernel
theorem dX8_doFree_67 : decode cX8_doFree 67 = .ok (.iconst 4, 1) := by decide +kernel
theorem dX8_doFree_68 : decode cX8_doFree 68 = .ok (.invokevirtual 95, 3) := by decide +kernel
theorem dX8_doFree_71 : decode cX8_doFree 71 = .ok (.invokevirtual 56, 3) := by decide +kernel
theorem dX8_doFree_74 : decode cX8_doFree 74 = .ok (.aload_n 0, 1) := by decide +kernel
theorem dX8_doFree_75 : decode cX8_doFree 75 = .ok (.iload_n 1, 1) := by decide +kernel
theorem dX8_doFree_76 : decode cX8_doFree 76 = .ok (.iconst 4, 1) := by decide +kernel
theorem dX8_doFree_77 : decode cX8_doFree 77 = .ok (.iconst (-1), 1) := by decide +kernel
theorem dX8_doFree_78 : decode cX8_doFree 78 = .ok (.invokevirtual 56, 3) := by decide +kernel
theorem dX8_doFree_81 : decode cX8_doFree 81 = .ok (.goto 63, 3) := by decide +kernel
theorem dX8_doFree_84 : decode cX8_doFree 84 = .ok (.iload_n 2, 1) := by decide +kernel
theorem dX8_doFree_85 : decode cX8_doFree 85 = .ok (.invokestatic 75, 3) := by decide +kernel
theorem dX8_doFree_88 : decode cX8_doFree 88 = .ok (.ifCond .eq 13, 3) := by decide +kernel
theorem dX8_doFree_91 : decode cX8_doFree 91 = .ok (.aload_n 0, 1) := by decide +kernel
theorem dX8_doFree_92 : decode cX8_doFree 92 = .ok (.iload_n 1, 1) := by decide +kernel
theorem dX8_doFree_93 : decode cX8_doFree 93 = .ok (.iconst 4, 1) := by decide +kernel
theorem dX8_doFree_94 : decode cX8_doFree 94 = .ok (.invokevirtual 95, 3) := by decide +kernel
theorem dX8_doFree_97 : decode cX8_doFree 97 = .ok (.iconst (-1), 1) := by decide +kernel
theorem dX8_doFree_98 : decode cX8_doFree 98 = .ok (.if_icmp .eq 5, 3) := by decide +kernel
theorem dX8_doFree_101 : decode cX8_doFree 101 = .ok (.iconst (-1), 1) := by decide +kernel
theorem dX8_doFree_102 : decode cX8_doFree 102 = .ok (.ireturn, 1) := by decide +kernel
theorem dX8_doFree_103 : decode cX8_doFree 103 = .ok (.aload_n 0, 1) := by decide +kernel
theorem dX8_doFree_104 : decode cX8_doFree 104 = .ok (.iload_n 1, 1) := by decide +kernel
theorem dX8_doFree_105 : decode cX8_doFree 105 = .ok (.iload_n 2, 1) := by decide +kernel
theorem dX8_doFree_106 : decode cX8_doFree 106 = .ok (.invokevirtual 117, 3) := by decide +kernel
theorem dX8_doFree_109 : decode cX8_doFree 109 = .ok (.istore_n 3, 1) := by decide +kernel
theorem dX8_doFree_110 : decode cX8_doFree 110 = .ok (.iload_n 3, 1) := by decide +kernel
theorem dX8_doFree_111 : decode cX8_doFree 111 = .ok (.iconst 4, 1) := by decide +kernel
theorem dX8_doFree_112 : decode cX8_doFree 112 = .ok (.if_icmp .eq 10, 3) := by decide +kernel
theorem dX8_doFree_115 : decode cX8_doFree 115 = .ok (.iload_n 3, 1) := by decide +kernel
theorem dX8_doFree_116 : decode cX8_doFree 116 = .ok (.iconst 5, 1) := by decide +kernel
theorem dX8_doFree_117 : decode cX8_doFree 117 = .ok (.if_icmp .eq 5, 3) := by decide +kernel
theorem dX8_doFree_120 : decode cX8_doFree 120 = .ok (.iconst (-1), 1) := by decide +kernel
theorem dX8_doFree_121 : decode cX8_doFree 121 = .ok (.ireturn, 1) := by decide +kernel
theorem dX8_doFree_122 : decode cX8_doFree 122 = .ok (.aload_n 0, 1) := by decide +kernel
theorem dX8_doFree_123 : decode cX8_doFree 123 = .ok (.iload_n 1, 1) := by decide +kernel
theorem dX8_doFree_124 : decode cX8_doFree 124 = .ok (.bipush 8, 2) := by decide +kernel
theorem dX8_doFree_126 : decode cX8_doFree 126 = .ok (.iload_n 3, 1) := by decide +kernel
theorem dX8_doFree_127 : decode cX8_doFree 127 = .ok (.iadd, 1) := by decide +kernel
theorem dX8_doFree_128 : decode cX8_doFree 128 = .ok (.aload_n 0, 1) := by decide +kernel
theorem dX8_doFree_129 : decode cX8_doFree 129 = .ok (.getfield 13, 3) := by decide +kernel
theorem dX8_doFree_132 : decode cX8_doFree 132 = .ok (.iload_n 1, 1) := by decide +kernel
theorem dX8_doFree_133 : decode cX8_doFree 133 = .ok (.iaload, 1) := by decide +kernel
theorem dX8_doFree_134 : decode cX8_doFree 134 = .ok (.invokevirtual 56, 3) := by decide +kernel
theorem dX8_doFree_137 : decode cX8_doFree 137 = .ok (.aload_n 0, 1) := by decide +kernel
theorem dX8_doFree_138 : decode cX8_doFree 138 = .ok (.iload_n 1, 1) := by decide +kernel
theorem dX8_doFree_139 : decode cX8_doFree 139 = .ok (.iconst 4, 1) := by decide +kernel
theorem dX8_doFree_140 : decode cX8_doFree 140 = .ok (.iload_n 2, 1) := by decide +kernel
theorem dX8_doFree_141 : decode cX8_doFree 141 = .ok (.invokevirtual 56, 3) := by decide +kernel
theorem dX8_doFree_144 : decode cX8_doFree 144 = .ok (.aload_n 0, 1) := by decide +kernel
theorem dX8_doFree_145 : decode cX8_doFree 145 = .ok (.iload_n 1, 1) := by decide +kernel
theorem dX8_doFree_146 : decode cX8_doFree 146 = .ok (.bipush 7, 2) := by decide +kernel
theorem dX8_doFree_148 : decode cX8_doFree 148 = .ok (.iconst 1, 1) := by decide +kernel
theorem dX8_doFree_149 : decode cX8_doFree 149 = .ok (.invokevirtual 56, 3) := by decide +kernel
theorem dX8_doFree_152 : decode cX8_doFree 152 = .ok (.iload_n 3, 1) := by decide +kernel
theorem dX8_doFree_153 : decode cX8_doFree 153 = .ok (.ireturn, 1) := by decide +kernel
theorem dX8_free_0 : decode cX8_free 0 = .ok (.aload_n 0, 1) := by decide +kernel
theorem dX8_free_1 : decode cX8_free 1 = .ok (.iconst 0, 1) := by decide +kernel
theorem dX8_free_2 : decode cX8_free 2 = .ok (.putfield 63, 3) := by decide +kernel
theorem dX8_free_5 : decode cX8_free 5 = .ok (.iload_n 1, 1) := by decide +kernel
theorem dX8_free_6 : decode cX8_free 6 = .ok (.invokestatic 71, 3) := by decide +kernel
theorem dX8_free_9 : decode cX8_free 9 = .ok (.ifCond .eq 12, 3) := by decide +kernel
theorem dX8_free_12 : decode cX8_free 12 = .ok (.aload_n 0, 1) := by decide +kernel
theorem dX8_free_13 : decode cX8_free 13 = .ok (.iload_n 1, 1) := by decide +kernel
theorem dX8_free_14 : decode cX8_free 14 = .ok (.iload_n 2, 1) := by decide +kernel
theorem dX8_free_15 : decode cX8_free 15 = .ok (.invokevirtual 126, 3) := by decide +kernel
theorem dX8_free_18 : decode cX8_free 18 = .ok (.goto 4, 3) := by decide +kernel
theorem dX8_free_21 : decode cX8_free 21 = .ok (.iconst (-1), 1) := by decide +kernel
theorem dX8_free_22 : decode cX8_free 22 = .ok (.ireturn, 1) := by decide +kernel
theorem dX8_doPause_0 : decode cX8_doPause 0 = .ok (.aload_n 0, 1) := by decide +kernel
theorem dX8_doPause_1 : decode cX8_doPause 1 = .ok (.invokevirtual 82, 3) := by decide +kernel
theorem dX8_doPause_4 : decode cX8_doPause 4 = .ok (.ifCond .eq 18, 3) := by decide +kernel
theorem dX8_doPause_7 : decode cX8_doPause 7 = .ok (.aload_n 0, 1) := by decide +kernel
theorem dX8_doPause_8 : decode cX8_doPause 8 = .ok (.iload_n 1, 1) := by decide +kernel
theorem dX8_doPause_9 : decode cX8_doPause 9 = .ok (.iconst 3, 1) := by decide +kernel
theorem dX8_doPause_10 : decode cX8_doPause 10 = .ok (.invokevirtual 95, 3) := by decide +kernel
theorem dX8_doPause_13 : decode cX8_doPause 13 = .ok (.aload_n 0, 1) := by decide +kernel
theorem dX8_doPause_14 : decode cX8_doPause 14 = .ok (.getfield 16, 3) := by decide +kernel
theorem dX8_doPause_17 : decode cX8_doPause 17 = .ok (.iconst 5, 1) := by decide +kernel
theorem dX8_doPause_18 : decode cX8_doPause 18 = .ok (.iaload, 1) := by decide +kernel
theorem dX8_doPause_19 : decode cX8_doPause 19 = .ok (.if_icmp .lt 5, 3) := by decide +kernel
theorem dX8_doPause_22 : decode cX8_doPause 22 = .ok (.iconst (-1), 1) := by decide +kernel
theorem dX8_doPause_23 : decode cX8_doPause 23 = .ok (.ireturn, 1) := by decide +kernel
theorem dX8_doPause_24 : decode cX8_doPause 24 = .ok (.aload_n 0, 1) := by decide +kernel
theorem dX8_doPause_25 : decode cX8_doPause 25 = .ok (.iload_n 1, 1) := by decide +kernel
theorem dX8_doPause_26 : decode cX8_doPause 26 = .ok (.iconst 3, 1) := by decide +kernel
theorem dX8_doPause_27 : decode cX8_doPause 27 = .ok (.aload_n 0, 1) := by decide +kernel
theorem dX8_doPause_28 : decode cX8_doPause 28 = .ok (.iload_n 1, 1) := by decide +kernel
theorem dX8_doPause_29 : decode cX8_doPause 29 = .ok (.iconst 3, 1) := by decide +kernel
theorem dX8_doPause_30 : decode cX8_doPause 30 = .ok (.invokevirtual 95, 3) := by decide +kernel
theorem dX8_doPause_33 : decode cX8_doPause 33 = .ok (.iconst 1, 1) := by decide +kernel
theorem dX8_doPause_34 : decode cX8_doPause 34 = .ok (.iadd, 1) := by decide +kernel
theorem dX8_doPause_35 : decode cX8_doPause 35 = .ok (.invokevirtual 56, 3) := by decide +kernel
theorem dX8_doPause_38 : decode cX8_doPause 38 = .ok (.aload_n 0, 1) := by decide +kernel
theorem dX8_doPause_39 : decode cX8_doPause 39 = .ok (.iload_n 1, 1) := by decide +kernel
theorem dX8_doPause_40 : decode cX8_doPause 40 = .ok (.iconst 3, 1) := by decide +kernel
theorem dX8_doPause_41 : decode cX8_doPause 41 = .ok (.invokevirtual 95, 3) := by decide +kernel
theorem dX8_doPause_44 : decode cX8_doPause 44 = .ok (.ireturn, 1) := by decide +kernel
theorem dX8_pause_0 : decode cX8_pause 0 = .ok (.aload_n 0, 1) := by decide +kernel
theorem dX8_pause_1 : decode cX8_pause 1 = .ok (.iconst 0, 1) := by decide +kernel
theorem dX8_pause_2 : decode cX8_pause 2 = .ok (.putfield 63, 3) := by decide +kernel
theorem dX8_pause_5 : decode cX8_pause 5 = .ok (.iload_n 1, 1) := by decide +kernel
theorem dX8_pause_6 : decode cX8_pause 6 = .ok (.invokestatic 71, 3) := by decide +kernel
theorem dX8_pause_9 : decode cX8_pause 9 = .ok (.ifCond .eq 11, 3) := by decide +kernel
theorem dX8_pause_12 : decode cX8_pause 12 = .ok (.aload_n 0, 1) := by decide +kernel
theorem dX8_pause_13 : decode cX8_pause 13 = .ok (.iload_n 1, 1) := by decide +kernel
theorem dX8_pause_14 : decode cX8_pause 14 = .ok (.invokevirtual 129, 3) := by decide +kernel
theorem dX8_pause_17 : decode cX8_pause 17 = .ok (.goto 4, 3) := by decide +kernel
theorem dX8_pause_20 : decode cX8_pause 20 = .ok (.iconst (-1), 1) := by decide +kernel
theorem dX8_pause_21 : decode cX8_pause 21 = .ok (.ireturn, 1) := by decide +kernel
theorem dX8_wrong_0 : decode cX8_wrong 0 = .ok (.aload_n 0, 1) := by decide +kernel
theorem dX8_wrong_1 : decode cX8_wrong 1 = .ok (.iconst 0, 1) := by decide +kernel
theorem dX8_wrong_2 : decode cX8_wrong 2 = .ok (.putfield 63, 3) := by decide +kernel
theorem dX8_wrong_5 : decode cX8_wrong 5 = .ok (.aload_n 0, 1) := by decide +kernel
theorem dX8_wrong_6 : decode cX8_wrong 6 = .ok (.invokevirtual 82, 3) := by decide +kernel
theorem dX8_wrong_9 : decode cX8_wrong 9 = .ok (.ifCond .ne 5, 3) := by decide +kernel
theorem dX8_wrong_12 : decode cX8_wrong 12 = .ok (.iconst (-1), 1) := by decide +kernel
theorem dX8_wrong_13 : decode cX8_wrong 13 = .ok (.ireturn, 1) := by decide +kernel
theorem dX8_wrong_14 : decode cX8_wrong 14 = .ok (.aload_n 0, 1) := by decide +kernel
theorem dX8_wrong_15 : decode cX8_wrong 15 = .ok (.getfield 26, 3) := by decide +kernel
theorem dX8_wrong_18 : decode cX8_wrong 18 = .ok (.iconst 2, 1) := by decide +kernel
theorem dX8_wrong_19 : decode cX8_wrong 19 = .ok (.iaload, 1) := by decide +kernel
theorem dX8_wrong_20 : decode cX8_wrong 20 = .ok (.istore_n 2, 1) := by decide +kernel
theorem dX8_wrong_21 : decode cX8_wrong 21 = .ok (.iload_n 1, 1) := by decide +kernel
theorem dX8_wrong_22 : decode cX8_wrong 22 = .ok (.iconst 0, 1) := by decide +kernel
theorem dX8_wrong_23 : decode cX8_wrong 23 = .ok (.aload_n 0, 1) := by decide +kernel
theorem dX8_wrong_24 : decode cX8_wrong 24 = .ok (.iload_n 2, 1) := by decide +kernel
theorem dX8_wrong_25 : decode cX8_wrong 25 = .ok (.iconst 5, 1) := by decide +kernel
theorem dX8_wrong_26 : decode cX8_wrong 26 = .ok (.invokevirtual 95, 3) := by decide +kernel
theorem dX8_wrong_29 : decode cX8_wrong 29 = .ok (.invokestatic 67, 3) := by decide +kernel
theorem dX8_wrong_32 : decode cX8_wrong 32 = .ok (.ifCond .ne 5, 3) := by decide +kernel
theorem dX8_wrong_35 : decode cX8_wrong 35 = .ok (.iconst (-1), 1) := by decide +kernel
theorem dX8_wrong_36 : decode cX8_wrong 36 = .ok (.ireturn, 1) := by decide +kernel
theorem dX8_wrong_37 : decode cX8_wrong 37 = .ok (.aload_n 0, 1) := by decide +kernel
theorem dX8_wrong_38 : decode cX8_wrong 38 = .ok (.iload_n 2, 1) := by decide +kernel
theorem dX8_wrong_39 : decode cX8_wrong 39 = .ok (.iconst 0, 1) := by decide +kernel
theorem dX8_wrong_40 : decode cX8_wrong 40 = .ok (.aload_n 0, 1) := by decide +kernel
theorem dX8_wrong_41 : decode cX8_wrong 41 = .ok (.iload_n 2, 1) := by decide +kernel
theorem dX8_wrong_42 : decode cX8_wrong 42 = .ok (.iconst 0, 1) := by decide +kernel
theorem dX8_wrong_43 : decode cX8_wrong 43 = .ok (.invokevirtual 95, 3) := by decide +kernel
theorem dX8_wrong_46 : decode cX8_wrong 46 = .ok (.iload_n 1, 1) := by decide +kernel
theorem dX8_wrong_47 : decode cX8_wrong 47 = .ok (.isub, 1) := by decide +kernel
theorem dX8_wrong_48 : decode cX8_wrong 48 = .ok (.invokevirtual 56, 3) := by decide +kernel
theorem dX8_wrong_51 : decode cX8_wrong 51 = .ok (.aload_n 0, 1) := by decide +kernel
theorem dX8_wrong_52 : decode cX8_wrong 52 = .ok (.iconst 1, 1) := by decide +kernel
theorem dX8_wrong_53 : decode cX8_wrong 53 = .ok (.iload_n 2, 1) := by decide +kernel
theorem dX8_wrong_54 : decode cX8_wrong 54 = .ok (.isub, 1) := by decide +kernel
theorem dX8_wrong_55 : decode cX8_wrong 55 = .ok (.invokevirtual 113, 3) := by decide +kernel
theorem dX8_wrong_58 : decode cX8_wrong 58 = .ok (.ireturn, 1) := by decide +kernel
theorem dX8_at_0 : decode cX8_at 0 = .ok (.aload_n 0, 1) := by decide +kernel
theorem dX8_at_1 : decode cX8_at 1 = .ok (.iconst 0, 1) := by decide +kernel
theorem dX8_at_2 : decode cX8_at 2 = .ok (.putfield 63, 3) := by decide +kernel
theorem dX8_at_5 : decode cX8_at 5 = .ok (.iload_n 1, 1) := by decide +kernel
theorem dX8_at_6 : decode cX8_at 6 = .ok (.invokestatic 71, 3) := by decide +kernel
theorem dX8_at_9 : decode cX8_at 9 = .ok (.ifCond .eq 34, 3) := by decide +kernel
theorem dX8_at_12 : decode cX8_at 12 = .ok (.iload_n 2, 1) := by decide +kernel
theorem dX8_at_13 : decode cX8_at 13 = .ok (.iconst 0, 1) := by decide +kernel
theorem dX8_at_14 : decode cX8_at 14 = .ok (.iconst 5, 1) := by decide +kernel
theorem dX8_at_15 : decode cX8_at 15 = .ok (.invokestatic 67, 3) := by decide +kernel
theorem dX8_at_18 : decode cX8_at 18 = .ok (.ifCond .eq 25, 3) := by decide +kernel
theorem dX8_at_21 : decode cX8_at 21 = .ok (.aload_n 0, 1) := by decide +kernel
theorem dX8_at_22 : decode cX8_at 22 = .ok (.getfield 26, 3) := by decide +kernel
theorem dX8_at_25 : decode cX8_at 25 = .ok (.iconst 0, 1) := by decide +kernel
theorem dX8_at_26 : decode cX8_at 26 = .ok (.iaload, 1) := by decide +kernel
theorem dX8_at_27 : decode cX8_at 27 = .ok (.iconst (-1), 1) := by decide +kernel
theorem dX8_at_28 : decode cX8_at 28 = .ok (.if_icmp .eq 15, 3) := by decide +kernel
theorem dX8_at_31 : decode cX8_at 31 = .ok (.aload_n 0, 1) := by decide +kernel
theorem dX8_at_32 : decode cX8_at 32 = .ok (.iload_n 1, 1) := by decide +kernel
theorem dX8_at_33 : decode cX8_at 33 = .ok (.bipush 8, 2) := by decide +kernel
theorem dX8_at_35 : decode cX8_at 35 = .ok (.iload_n 2, 1) := by decide +kernel
theorem dX8_at_36 : decode cX8_at 36 = .ok (.iadd, 1) := by decide +kernel
theorem dX8_at_37 : decode cX8_at 37 = .ok (.invokevirtual 95, 3) := by decide +kernel
theorem dX8_at_40 : decode cX8_at 40 = .ok (.goto 4, 3) := by decide +kernel
theorem dX8_at_43 : decode cX8_at 43 = .ok (.iconst (-1), 1) := by decide +kernel
theorem dX8_at_44 : decode cX8_at 44 = .ok (.ireturn, 1) := by decide +kernel
theorem dX8_of_0 : decode cX8_of 0 = .ok (.aload_n 0, 1) := by decide +kernel
theorem dX8_of_1 : decode cX8_of 1 = .ok (.iconst 0, 1) := by decide +kernel
theorem dX8_of_2 : decode cX8_of 2 = .ok (.putfield 63, 3) := by decide +kernel
theorem dX8_of_5 : decode cX8_of 5 = .ok (.iload_n 1, 1) := by decide +kernel
theorem dX8_of_6 : decode cX8_of 6 = .ok (.invokestatic 71, 3) := by decide +kernel
theorem dX8_of_9 : decode cX8_of 9 = .ok (.ifCond .eq 22, 3) := by decide +kernel
theorem dX8_of_12 : decode cX8_of 12 = .ok (.iload_n 2, 1) := by decide +kernel
theorem dX8_of_13 : decode cX8_of 13 = .ok (.iconst 0, 1) := by decide +kernel
theorem dX8_of_14 : decode cX8_of 14 = .ok (.bipush 6, 2) := by decide +kernel
theorem dX8_of_16 : decode cX8_of 16 = .ok (.invokestatic 67, 3) := by decide +kernel
theorem dX8_of_19 : decode cX8_of 19 = .ok (.ifCond .eq 12, 3) := by decide +kernel
theorem dX8_of_22 : decode cX8_of 22 = .ok (.aload_n 0, 1) := by decide +kernel
theorem dX8_of_23 : decode cX8_of 23 = .ok (.iload_n 1, 1) := by decide +kernel
theorem dX8_of_24 : decode cX8_of 24 = .ok (.iload_n 2, 1) := by decide +kernel
theorem dX8_of_25 : decode cX8_of 25 = .ok (.invokevirtual 95, 3) := by decide +kernel
theorem dX8_of_28 : decode cX8_of 28 = .ok (.goto 4, 3) := by decide +kernel
theorem dX8_of_31 : decode cX8_of 31 = .ok (.iconst (-1), 1) := by decide +kernel
theorem dX8_of_32 : decode cX8_of 32 = .ok (.ireturn, 1) := by decide +kernel
theorem dX8_count_0 : decode cX8_count 0 = .ok (.aload_n 0, 1) := by decide +kernel
theorem dX8_count_1 : decode cX8_count 1 = .ok (.iconst 0, 1) := by decide +kernel
theorem dX8_count_2 : decode cX8_count 2 = .ok (.putfield 63, 3) := by decide +kernel
theorem dX8_count_5 : decode cX8_count 5 = .ok (.iload_n 1, 1) := by decide +kernel
theorem dX8_count_6 : decode cX8_count 6 = .ok (.tableswitch 98 0 7 #[46, 53, 60, 67, 74, 81, 86, 91], 46) := by decide +kernel
theorem dX8_count_52 : decode cX8_count 52 = .ok (.aload_n 0, 1) := by decide +kernel
theorem dX8_count_53 : decode cX8_count 53 = .ok (.getfield 26, 3) := by decide +kernel
theorem dX8_count_56 : decode cX8_count 56 = .ok (.iconst 0, 1) := by decide +kernel
theorem dX8_count_57 : decode cX8_count 57 = .ok (.iaload, 1) := by decide +kernel
theorem dX8_count_58 : decode cX8_count 58 = .ok (.ireturn, 1) := by decide +kernel
theorem dX8_count_59 : decode cX8_count 59 = .ok (.aload_n 0, 1) := by decide +kernel
theorem dX8_count_60 : decode cX8_count 60 = .ok (.getfield 26, 3) := by decide +kernel
theorem dX8_count_63 : decode cX8_count 63 = .ok (.iconst 1, 1) := by decide +kernel
theorem dX8_count_64 : decode cX8_count 64 = .ok (.iaload, 1) := by decide +kernel
theorem dX8_count_65 : decode cX8_count 65 = .ok (.ireturn, 1) := by decide +kernel
theorem dX8_count_66 : decode cX8_count 66 = .ok (.aload_n 0, 1) := by decide +kernel
theorem dX8_count_67 : decode cX8_count 67 = .ok (.getfield 26, 3) := by decide +kernel
theorem dX8_count_70 : decode cX8_count 70 = .ok (.iconst 2, 1) := by decide +kernel
theorem dX8_count_71 : decode cX8_count 71 = .ok (.iaload, 1) := by decide +kernel
theorem dX8_count_72 : decode cX8_count 72 = .ok (.ireturn, 1) := by decide +kernel
theorem dX8_count_73 : decode cX8_count 73 = .ok (.aload_n 0, 1) := by decide +kernel
theorem dX8_count_74 : decode cX8_count 74 = .ok (.getfield 26, 3) := by decide +kernel
theorem dX8_count_77 : decode cX8_count 77 = .ok (.iconst 3, 1) := by decide +kernel
theorem dX8_count_78 : decode cX8_count 78 = .ok (.iaload, 1) := by decide +kernel
theorem dX8_count_79 : decode cX8_count 79 = .ok (.ireturn, 1) := by decide +kernel
theorem dX8_count_80 : decode cX8_count 80 = .ok (.aload_n 0, 1) := by decide +kernel
theorem dX8_count_81 : decode cX8_count 81 = .ok (.getfield 26, 3) := by decide +kernel
theorem dX8_count_84 : decode cX8_count 84 = .ok (.iconst 4, 1) := by decide +kernel
theorem dX8_count_85 : decode cX8_count 85 = .ok (.iaload, 1) := by decide +kernel
theorem dX8_count_86 : decode cX8_count 86 = .ok (.ireturn, 1) := by decide +kernel
theorem dX8_count_87 : decode cX8_count 87 = .ok (.aload_n 0, 1) := by decide +kernel
theorem dX8_count_88 : decode cX8_count 88 = .ok (.getfield 132, 3) := by decide +kernel
theorem dX8_count_91 : decode cX8_count 91 = .ok (.ireturn, 1) := by decide +kernel
theorem dX8_count_92 : decode cX8_count 92 = .ok (.aload_n 0, 1) := by decide +kernel
theorem dX8_count_93 : decode cX8_count 93 = .ok (.getfield 135, 3) := by decide +kernel
theorem dX8_count_96 : decode cX8_count 96 = .ok (.ireturn, 1) := by decide +kernel
theorem dX8_count_97 : decode cX8_count 97 = .ok (.aload_n 0, 1) := by decide +kernel
theorem dX8_count_98 : decode cX8_count 98 = .ok (.getfield 26, 3) := by decide +kernel
theorem dX8_count_101 : decode cX8_count 101 = .ok (.iconst 5, 1) := by decide +kernel
theorem dX8_count_102 : decode cX8_count 102 = .ok (.iaload, 1) := by decide +kernel
theorem dX8_count_103 : decode cX8_count 103 = .ok (.ireturn, 1) := by decide +kernel
theorem dX8_count_104 : decode cX8_count 104 = .ok (.iconst (-1), 1) := by decide +kernel
theorem dX8_count_105 : decode cX8_count 105 = .ok (.ireturn, 1) := by decide +kernel
theorem dX8_served_0 : decode cX8_served 0 = .ok (.aload_n 0, 1) := by decide +kernel
theorem dX8_served_1 : decode cX8_served 1 = .ok (.iconst 0, 1) := by decide +kernel
theorem dX8_served_2 : decode cX8_served 2 = .ok (.putfield 63, 3) := by decide +kernel
theorem dX8_served_5 : decode cX8_served 5 = .ok (.iload_n 1, 1) := by decide +kernel
theorem dX8_served_6 : decode cX8_served 6 = .ok (.invokestatic 71, 3) := by decide +kernel
theorem dX8_served_9 : decode cX8_served 9 = .ok (.ifCond .eq 22, 3) := by decide +kernel
theorem dX8_served_12 : decode cX8_served 12 = .ok (.iload_n 2, 1) := by decide +kernel
theorem dX8_served_13 : decode cX8_served 13 = .ok (.invokestatic 75, 3) := by decide +kernel
theorem dX8_served_16 : decode cX8_served 16 = .ok (.ifCond .eq 15, 3) := by decide +kernel
theorem dX8_served_19 : decode cX8_served 19 = .ok (.aload_n 0, 1) := by decide +kernel
theorem dX8_served_20 : decode cX8_served 20 = .ok (.iload_n 1, 1) := by decide +kernel
theorem dX8_served_21 : decode cX8_served 21 = .ok (.bipush 38, 2) := by decide +kernel
theorem dX8_served_23 : decode cX8_served 23 = .ok (.iload_n 2, 1) := by decide +kernel
theorem dX8_served_24 : decode cX8_served 24 = .ok (.iadd, 1) := by decide +kernel
theorem dX8_served_25 : decode cX8_served 25 = .ok (.invokevirtual 95, 3) := by decide +kernel
theorem dX8_served_28 : decode cX8_served 28 = .ok (.goto 4, 3) := by decide +kernel
theorem dX8_served_31 : decode cX8_served 31 = .ok (.iconst (-1), 1) := by decide +kernel
theorem dX8_served_32 : decode cX8_served 32 = .ok (.ireturn, 1) := by decide +kernel
theorem dX8_feet_0 : decode cX8_feet 0 = .ok (.aload_n 0, 1) := by decide +kernel
theorem dX8_feet_1 : decode cX8_feet 1 = .ok (.iconst 0, 1) := by decide +kernel
theorem dX8_feet_2 : decode cX8_feet 2 = .ok (.putfield 63, 3) := by decide +kernel
theorem dX8_feet_5 : decode cX8_feet 5 = .ok (.iload_n 1, 1) := by decide +kernel
theorem dX8_feet_6 : decode cX8_feet 6 = .ok (.invokestatic 71, 3) := by decide +kernel
theorem dX8_feet_9 : decode cX8_feet 9 = .ok (.ifCond .eq 42, 3) := by decide +kernel
theorem dX8_feet_12 : decode cX8_feet 12 = .ok (.iload_n 2, 1) := by decide +kernel
theorem dX8_feet_13 : decode cX8_feet 13 = .ok (.iconst 0, 1) := by decide +kernel
theorem dX8_feet_14 : decode cX8_feet 14 = .ok (.iconst 5, 1) := by decide +kernel
theorem dX8_feet_15 : decode cX8_feet 15 = .ok (.invokestatic 67, 3) := by decide +kernel
theorem dX8_feet_18 : decode cX8_feet 18 = .ok (.ifCond .eq 33, 3) := by decide +kernel
theorem dX8_feet_21 : decode cX8_feet 21 = .ok (.iload_n 3, 1) := by decide +kernel
theorem dX8_feet_22 : decode cX8_feet 22 = .ok (.iconst 0, 1) := by decide +kernel
theorem dX8_feet_23 : decode cX8_feet 23 = .ok (.sipush 999, 3) := by decide +kernel
theorem dX8_feet_26 : decode cX8_feet 26 = .ok (.invokestatic 67, 3) := by decide +kernel
theorem dX8_feet_29 : decode cX8_feet 29 = .ok (.ifCond .eq 22, 3) := by decide +kernel
theorem dX8_feet_32 : decode cX8_feet 32 = .ok (.iload 4, 2) := by decide +kernel
theorem dX8_feet_34 : decode cX8_feet 34 = .ok (.iconst 0, 1) := by decide +kernel
theorem dX8_feet_35 : decode cX8_feet 35 = .ok (.sipush 999, 3) := by decide +kernel
theorem dX8_feet_38 : decode cX8_feet 38 = .ok (.invokestatic 67, 3) := by decide +kernel
theorem dX8_feet_41 : decode cX8_feet 41 = .ok (.ifCond .eq 10, 3) := by decide +kernel
theorem dX8_feet_44 : decode cX8_feet 44 = .ok (.aload_n 0, 1) := by decide +kernel
theorem dX8_feet_45 : decode cX8_feet 45 = .ok (.invokevirtual 82, 3) := by decide +kernel
theorem dX8_feet_48 : decode cX8_feet 48 = .ok (.ifCond .ne 5, 3) := by decide +kernel
theorem dX8_feet_51 : decode cX8_feet 51 = .ok (.iconst 0, 1) := by decide +kernel
theorem dX8_feet_52 : decode cX8_feet 52 = .ok (.ireturn, 1) := by decide +kernel
theorem dX8_feet_53 : decode cX8_feet 53 = .ok (.aload_n 0, 1) := by decide +kernel
theorem dX8_feet_54 : decode cX8_feet 54 = .ok (.getfield 32, 3) := by decide +kernel
theorem dX8_feet_57 : decode cX8_feet 57 = .ok (.bipush 6, 2) := by decide +kernel
theorem dX8_feet_59 : decode cX8_feet 59 = .ok (.iload_n 1, 1) := by decide +kernel
theorem dX8_feet_60 : decode cX8_feet 60 = .ok (.imul, 1) := by decide +kernel
theorem dX8_feet_61 : decode cX8_feet 61 = .ok (.iload_n 2, 1) := by decide +kernel
theorem dX8_feet_62 : decode cX8_feet 62 = .ok (.iadd, 1) := by decide +kernel
theorem dX8_feet_63 : decode cX8_feet 63 = .ok (.iload_n 3, 1) := by decide +kernel
theorem dX8_feet_64 : decode cX8_feet 64 = .ok (.iastore, 1) := by decide +kernel
theorem dX8_feet_65 : decode cX8_feet 65 = .ok (.aload_n 0, 1) := by decide +kernel
theorem dX8_feet_66 : decode cX8_feet 66 = .ok (.getfield 35, 3) := by decide +kernel
theorem dX8_feet_69 : decode cX8_feet 69 = .ok (.bipush 6, 2) := by decide +kernel
theorem dX8_feet_71 : decode cX8_feet 71 = .ok (.iload_n 1, 1) := by decide +kernel
theorem dX8_feet_72 : decode cX8_feet 72 = .ok (.imul, 1) := by decide +kernel
theorem dX8_feet_73 : decode cX8_feet 73 = .ok (.iload_n 2, 1) := by decide +kernel
theorem dX8_feet_74 : decode cX8_feet 74 = .ok (.iadd, 1) := by decide +kernel
theorem dX8_feet_75 : decode cX8_feet 75 = .ok (.iload 4, 2) := by decide +kernel
theorem dX8_feet_77 : decode cX8_feet 77 = .ok (.iastore, 1) := by decide +kernel
theorem dX8_feet_78 : decode cX8_feet 78 = .ok (.iconst 1, 1) := by decide +kernel
theorem dX8_feet_79 : decode cX8_feet 79 = .ok (.ireturn, 1) := by decide +kernel
theorem dX8_overlap_0 : decode cX8_overlap 0 = .ok (.aload_n 0, 1) := by decide +kernel
theorem dX8_overlap_1 : decode cX8_overlap 1 = .ok (.iconst 0, 1) := by decide +kernel
theorem dX8_overlap_2 : decode cX8_overlap 2 = .ok (.putfield 63, 3) := by decide +kernel
theorem dX8_overlap_5 : decode cX8_overlap 5 = .ok (.iload_n 1, 1) := by decide +kernel
theorem dX8_overlap_6 : decode cX8_overlap 6 = .ok (.invokestatic 71, 3) := by decide +kernel
theorem dX8_overlap_9 : decode cX8_overlap 9 = .ok (.ifCond .eq 10, 3) := by decide +kernel
theorem dX8_overlap_12 : decode cX8_overlap 12 = .ok (.aload_n 0, 1) := by decide +kernel
theorem dX8_overlap_13 : decode cX8_overlap 13 = .ok (.invokevirtual 82, 3) := by decide +kernel
theorem dX8_overlap_16 : decode cX8_overlap 16 = .ok (.ifCond .ne 5, 3) := by decide +kernel
theorem dX8_overlap_19 : decode cX8_overlap 19 = .ok (.iconst (-1), 1) := by decide +kernel
theorem dX8_overlap_20 : decode cX8_overlap 20 = .ok (.ireturn, 1) := by decide +kernel
theorem dX8_overlap_21 : decode cX8_overlap 21 = .ok (.iconst 0, 1) := by decide +kernel
theorem dX8_overlap_22 : decode cX8_overlap 22 = .ok (.istore_n 2, 1) := by decide +kernel
theorem dX8_overlap_23 : decode cX8_overlap 23 = .ok (.iload_n 2, 1) := by decide +kernel
theorem dX8_overlap_24 : decode cX8_overlap 24 = .ok (.bipush 7, 2) := by decide +kernel
theorem dX8_overlap_26 : decode cX8_overlap 26 = .ok (.if_icmp .ge 76, 3) := by decide +kernel
theorem dX8_overlap_29 : decode cX8_overlap 29 = .ok (.getstatic 138, 3) := by decide +kernel
theorem dX8_overlap_32 : decode cX8_overlap 32 = .ok (.iload_n 2, 1) := by decide +kernel
theorem dX8_overlap_33 : decode cX8_overlap 33 = .ok (.iaload, 1) := by decide +kernel
theorem dX8_overlap_34 : decode cX8_overlap 34 = .ok (.ifCond .ne 16, 3) := by decide +kernel
theorem dX8_overlap_37 : decode cX8_overlap 37 = .ok (.aload_n 0, 1) := by decide +kernel
theorem dX8_overlap_38 : decode cX8_overlap 38 = .ok (.getfield 26, 3) := by decide +kernel
theorem dX8_overlap_41 : decode cX8_overlap 41 = .ok (.iconst 2, 1) := by decide +kernel
theorem dX8_overlap_42 : decode cX8_overlap 42 = .ok (.iaload, 1) := by decide +kernel
theorem dX8_overlap_43 : decode cX8_overlap 43 = .ok (.iload_n 1, 1) := by decide +kernel
theorem dX8_overlap_44 : decode cX8_overlap 44 = .ok (.if_icmp .ne 6, 3) := by decide +kernel
theorem dX8_overlap_47 : decode cX8_overlap 47 = .ok (.goto 49, 3) := by decide +kernel
theorem dX8_overlap_50 : decode cX8_overlap 50 = .ok (.iload_n 2, 1) := by decide +kernel
theorem dX8_overlap_51 : decode cX8_overlap 51 = .ok (.iconst 3, 1) := by decide +kernel
theorem dX8_overlap_52 : decode cX8_overlap 52 = .ok (.if_icmp .ge 10, 3) := by decide +kernel
theorem dX8_overlap_55 : decode cX8_overlap 55 = .ok (.aload_n 0, 1) := by decide +kernel
theorem dX8_overlap_56 : decode cX8_overlap 56 = .ok (.getfield 35, 3) := by decide +kernel
theorem dX8_overlap_59 : decode cX8_overlap 59 = .ok (.goto 7, 3) := by decide +kernel
theorem dX8_overlap_62 : decode cX8_overlap 62 = .ok (.aload_n 0, 1) := by decide +kernel
theorem dX8_overlap_63 : decode cX8_overlap 63 = .ok (.getfield 32, 3) := by decide +kernel
theorem dX8_overlap_66 : decode cX8_overlap 66 = .ok (.astore_n 3, 1) := by decide +kernel
theorem dX8_overlap_67 : decode cX8_overlap 67 = .ok (.aload_n 3, 1) := by decide +kernel
theorem dX8_overlap_68 : decode cX8_overlap 68 = .ok (.bipush 6, 2) := by decide +kernel
theorem dX8_overlap_70 : decode cX8_overlap 70 = .ok (.iload_n 1, 1) := by decide +kernel
theorem dX8_overlap_71 : decode cX8_overlap 71 = .ok (.imul, 1) := by decide +kernel
theorem dX8_overlap_72 : decode cX8_overlap 72 = .ok (.getstatic 141, 3) := by decide +kernel
theorem dX8_overlap_75 : decode cX8_overlap 75 = .ok (.iload_n 2, 1) := by decide +kernel
theorem dX8_overlap_76 : decode cX8_overlap 76 = .ok (.iaload, 1) := by decide +kernel
theorem dX8_overlap_77 : decode cX8_overlap 77 = .ok (.iadd, 1) := by decide +kernel
theorem dX8_overlap_78 : decode cX8_overlap 78 = .ok (.iaload, 1) := by decide +kernel
theorem dX8_overlap_79 : decode cX8_overlap 79 = .ok (.aload_n 3, 1) := by decide +kernel
theorem dX8_overlap_80 : decode cX8_overlap 80 = .ok (.bipush 6, 2) := by decide +kernel
theorem dX8_overlap_82 : decode cX8_overlap 82 = .ok (.iload_n 1, 1) := by decide +kernel
theorem dX8_overlap_83 : decode cX8_overlap 83 = .ok (.imul, 1) := by decide +kernel
theorem dX8_overlap_84 : decode cX8_overlap 84 = .ok (.getstatic 138, 3) := by decide +kernel
theorem dX8_overlap_87 : decode cX8_overlap 87 = .ok (.iload_n 2, 1) := by decide +kernel
theorem dX8_overlap_88 : decode cX8_overlap 88 = .ok (.iaload, 1) := by decide +kernel
theorem dX8_overlap_89 : decode cX8_overlap 89 = .ok (.iadd, 1) := by decide +kernel
theorem dX8_overlap_90 : decode cX8_overlap 90 = .ok (.iaload, 1) := by decide +kernel
theorem dX8_overlap_91 : decode cX8_overlap 91 = .ok (.if_icmp .lt 5, 3) := by decide +kernel
theorem dX8_overlap_94 : decode cX8_overlap 94 = .ok (.iload_n 2, 1) := by decide +kernel
theorem dX8_overlap_95 : decode cX8_overlap 95 = .ok (.ireturn, 1) := by decide +kernel
theorem dX8_overlap_96 : decode cX8_overlap 96 = .ok (.iinc 2 1, 3) := by decide +kernel
theorem dX8_overlap_99 : decode cX8_overlap 99 = .ok (.goto (-76), 3) := by decide +kernel
theorem dX8_overlap_102 : decode cX8_overlap 102 = .ok (.bipush (-2), 2) := by decide +kernel
theorem dX8_overlap_104 : decode cX8_overlap 104 = .ok (.ireturn, 1) := by decide +kernel
theorem dX8_sign_0 : decode cX8_sign 0 = .ok (.aload_n 0, 1) := by decide +kernel
theorem dX8_sign_1 : decode cX8_sign 1 = .ok (.iconst 0, 1) := by decide +kernel
theorem dX8_sign_2 : decode cX8_sign 2 = .ok (.putfield 63, 3) := by decide +kernel
theorem dX8_sign_5 : decode cX8_sign 5 = .ok (.aload_n 0, 1) := by decide +kernel
theorem dX8_sign_6 : decode cX8_sign 6 = .ok (.getfield 135, 3) := by decide +kernel
theorem dX8_sign_9 : decode cX8_sign 9 = .ok (.iconst 4, 1) := by decide +kernel
theorem dX8_sign_10 : decode cX8_sign 10 = .ok (.iadd, 1) := by decide +kernel
theorem dX8_sign_11 : decode cX8_sign 11 = .ok (.bipush 100, 2) := by decide +kernel
theorem dX8_sign_13 : decode cX8_sign 13 = .ok (.if_icmp .le 5, 3) := by decide +kernel
theorem dX8_sign_16 : decode cX8_sign 16 = .ok (.iconst (-1), 1) := by decide +kernel
theorem dX8_sign_17 : decode cX8_sign 17 = .ok (.ireturn, 1) := by decide +kernel
theorem dX8_sign_18 : decode cX8_sign 18 = .ok (.iconst 3, 1) := by decide +kernel
theorem dX8_sign_19 : decode cX8_sign 19 = .ok (.istore_n 2, 1) := by decide +kernel
theorem dX8_sign_20 : decode cX8_sign 20 = .ok (.iload_n 2, 1) := by decide +kernel
theorem dX8_sign_21 : decode cX8_sign 21 = .ok (.ifCond .lt 32, 3) := by decide +kernel
theorem dX8_sign_24 : decode cX8_sign 24 = .ok (.aload_n 0, 1) := by decide +kernel
theorem dX8_sign_25 : decode cX8_sign 25 = .ok (.getfield 38, 3) := by decide +kernel
theorem dX8_sign_28 : decode cX8_sign 28 = .ok (.aload_n 0, 1) := by decide +kernel
theorem dX8_sign_29 : decode cX8_sign 29 = .ok (.dup, 1) := by decide +kernel
theorem dX8_sign_30 : decode cX8_sign 30 = .ok (.getfield 135, 3) := by decide +kernel
theorem dX8_sign_33 : decode cX8_sign 33 = .ok (.dup_x1, 1) := by decide +kernel
theorem dX8_sign_34 : decode cX8_sign 34 = .ok (.iconst 1, 1) := by decide +kernel
theorem dX8_sign_35 : decode cX8_sign 35 = .ok (.iadd, 1) := by decide +kernel
theorem dX8_sign_36 : decode cX8_sign 36 = .ok (.putfield 135, 3) := by decide +kernel
theorem dX8_sign_39 : decode cX8_sign 39 = .ok (.iload_n 1, 1) := by decide +kernel
theorem dX8_sign_40 : decode cX8_sign 40 = .ok (.bipush 8, 2) := by decide +kernel
theorem dX8_sign_42 : decode cX8_sign 42 = .ok (.iload_n 2, 1) := by decide +kernel
theorem dX8_sign_43 : decode cX8_sign 43 = .ok (.imul, 1) := by decide +kernel
theorem dX8_sign_44 : decode cX8_sign 44 = .ok (.ishr, 1) := by decide +kernel
theorem dX8_sign_45 : decode cX8_sign 45 = .ok (.i2b, 1) := by decide +kernel
theorem dX8_sign_46 : decode cX8_sign 46 = .ok (.bastore, 1) := by decide +kernel
theorem dX8_sign_47 : decode cX8_sign 47 = .ok (.iinc 2 (-1), 3) := by decide +kernel
theorem dX8_sign_50 : decode cX8_sign 50 = .ok (.goto (-30), 3) := by decide +kernel
theorem dX8_sign_53 : decode cX8_sign 53 = .ok (.aload_n 0, 1) := by decide +kernel
theorem dX8_sign_54 : decode cX8_sign 54 = .ok (.getfield 135, 3) := by decide +kernel
theorem dX8_sign_57 : decode cX8_sign 57 = .ok (.ireturn, 1) := by decide +kernel
theorem dX8_end_0 : decode cX8_end 0 = .ok (.aload_n 0, 1) := by decide +kernel
theorem dX8_end_1 : decode cX8_end 1 = .ok (.iconst 0, 1) := by decide +kernel
theorem dX8_end_2 : decode cX8_end 2 = .ok (.putfield 63, 3) := by decide +kernel
theorem dX8_end_5 : decode cX8_end 5 = .ok (.iload_n 1, 1) := by decide +kernel
theorem dX8_end_6 : decode cX8_end 6 = .ok (.iconst 0, 1) := by decide +kernel
theorem dX8_end_7 : decode cX8_end 7 = .ok (.aload_n 0, 1) := by decide +kernel
theorem dX8_end_8 : decode cX8_end 8 = .ok (.getfield 135, 3) := by decide +kernel
theorem dX8_end_11 : decode cX8_end 11 = .ok (.invokestatic 67, 3) := by decide +kernel
theorem dX8_end_14 : decode cX8_end 14 = .ok (.ifCond .ne 5, 3) := by decide +kernel
theorem dX8_end_17 : decode cX8_end 17 = .ok (.iconst 0, 1) := by decide +kernel
theorem dX8_end_18 : decode cX8_end 18 = .ok (.ireturn, 1) := by decide +kernel
theorem dX8_end_19 : decode cX8_end 19 = .ok (.aload_n 0, 1) := by decide +kernel
theorem dX8_end_20 : decode cX8_end 20 = .ok (.iload_n 1, 1) := by decide +kernel
theorem dX8_end_21 : decode cX8_end 21 = .ok (.putfield 135, 3) := by decide +kernel
theorem dX8_end_24 : decode cX8_end 24 = .ok (.iconst 1, 1) := by decide +kernel
theorem dX8_end_25 : decode cX8_end 25 = .ok (.ireturn, 1) := by decide +kernel
theorem dX8_playerOf_0 : decode cX8_playerOf 0 = .ok (.iload_n 0, 1) := by decide +kernel
theorem dX8_playerOf_1 : decode cX8_playerOf 1 = .ok (.bipush 48, 2) := by decide +kernel
theorem dX8_playerOf_3 : decode cX8_playerOf 3 = .ok (.if_icmp .lt 16, 3) := by decide +kernel
theorem dX8_playerOf_6 : decode cX8_playerOf 6 = .ok (.iload_n 0, 1) := by decide +kernel
theorem dX8_playerOf_7 : decode cX8_playerOf 7 = .ok (.bipush 57, 2) := by decide +kernel
theorem dX8_playerOf_9 : decode cX8_playerOf 9 = .ok (.if_icmp .gt 10, 3) := by decide +kernel
theorem dX8_playerOf_12 : decode cX8_playerOf 12 = .ok (.iload_n 0, 1) := by decide +kernel
theorem dX8_playerOf_13 : decode cX8_playerOf 13 = .ok (.bipush 48, 2) := by decide +kernel
theorem dX8_playerOf_15 : decode cX8_playerOf 15 = .ok (.isub, 1) := by decide +kernel
theorem dX8_playerOf_16 : decode cX8_playerOf 16 = .ok (.goto 26, 3) := by decide +kernel
theorem dX8_playerOf_19 : decode cX8_playerOf 19 = .ok (.iload_n 0, 1) := by decide +kernel
theorem dX8_playerOf_20 : decode cX8_playerOf 20 = .ok (.bipush 120, 2) := by decide +kernel
theorem dX8_playerOf_22 : decode cX8_playerOf 22 = .ok (.if_icmp .ne 8, 3) := by decide +kernel
theorem dX8_playerOf_25 : decode cX8_playerOf 25 = .ok (.bipush 10, 2) := by decide +kernel
theorem dX8_playerOf_27 : decode cX8_playerOf 27 = .ok (.goto 15, 3) := by decide +kernel
theorem dX8_playerOf_30 : decode cX8_playerOf 30 = .ok (.iload_n 0, 1) := by decide +kernel
theorem dX8_playerOf_31 : decode cX8_playerOf 31 = .ok (.bipush 121, 2) := by decide +kernel
theorem dX8_playerOf_33 : decode cX8_playerOf 33 = .ok (.if_icmp .ne 8, 3) := by decide +kernel
theorem dX8_playerOf_36 : decode cX8_playerOf 36 = .ok (.bipush 11, 2) := by decide +kernel
theorem dX8_playerOf_38 : decode cX8_playerOf 38 = .ok (.goto 4, 3) := by decide +kernel
theorem dX8_playerOf_41 : decode cX8_playerOf 41 = .ok (.iconst (-1), 1) := by decide +kernel
theorem dX8_playerOf_42 : decode cX8_playerOf 42 = .ok (.ireturn, 1) := by decide +kernel
theorem dX8_reads_0 : decode cX8_reads 0 = .ok (.aload_n 0, 1) := by decide +kernel
theorem dX8_reads_1 : decode cX8_reads 1 = .ok (.getfield 38, 3) := by decide +kernel
theorem dX8_reads_4 : decode cX8_reads 4 = .ok (.iload_n 1, 1) := by decide +kernel
theorem dX8_reads_5 : decode cX8_reads 5 = .ok (.baload, 1) := by decide +kernel
theorem dX8_reads_6 : decode cX8_reads 6 = .ok (.istore_n 3, 1) := by decide +kernel
theorem dX8_reads_7 : decode cX8_reads 7 = .ok (.iload_n 3, 1) := by decide +kernel
theorem dX8_reads_8 : decode cX8_reads 8 = .ok (.bipush 65, 2) := by decide +kernel
theorem dX8_reads_10 : decode cX8_reads 10 = .ok (.if_icmp .eq 9, 3) := by decide +kernel
theorem dX8_reads_13 : decode cX8_reads 13 = .ok (.iload_n 3, 1) := by decide +kernel
theorem dX8_reads_14 : decode cX8_reads 14 = .ok (.bipush 66, 2) := by decide +kernel
theorem dX8_reads_16 : decode cX8_reads 16 = .ok (.if_icmp .ne 5, 3) := by decide +kernel
theorem dX8_reads_19 : decode cX8_reads 19 = .ok (.iconst 1, 1) := by decide +kernel
theorem dX8_reads_20 : decode cX8_reads 20 = .ok (.ireturn, 1) := by decide +kernel
theorem dX8_reads_21 : decode cX8_reads 21 = .ok (.iload_n 3, 1) := by decide +kernel
theorem dX8_reads_22 : decode cX8_reads 22 = .ok (.bipush 97, 2) := by decide +kernel
theorem dX8_reads_24 : decode cX8_reads 24 = .ok (.if_icmp .eq 13, 3) := by decide +kernel
theorem dX8_reads_27 : decode cX8_reads 27 = .ok (.iload_n 3, 1) := by decide +kernel
theorem dX8_reads_28 : decode cX8_reads 28 = .ok (.bipush 98, 2) := by decide +kernel
theorem dX8_reads_30 : decode cX8_reads 30 = .ok (.if_icmp .eq 7, 3) := by decide +kernel
theorem dX8_reads_33 : decode cX8_reads 33 = .ok (.iconst (-1), 1) := by decide +kernel
theorem dX8_reads_34 : decode cX8_reads 34 = .ok (.iload_n 1, 1) := by decide +kernel
theorem dX8_reads_35 : decode cX8_reads 35 = .ok (.isub, 1) := by decide +kernel
theorem dX8_reads_36 : decode cX8_reads 36 = .ok (.ireturn, 1) := by decide +kernel
theorem dX8_reads_37 : decode cX8_reads 37 = .ok (.iload_n 1, 1) := by decide +kernel
theorem dX8_reads_38 : decode cX8_reads 38 = .ok (.iconst 1, 1) := by decide +kernel
theorem dX8_reads_39 : decode cX8_reads 39 = .ok (.iadd, 1) := by decide +kernel
theorem dX8_reads_40 : decode cX8_reads 40 = .ok (.iload_n 2, 1) := by decide +kernel
theorem dX8_reads_41 : decode cX8_reads 41 = .ok (.if_icmp .ge 14, 3) := by decide +kernel
theorem dX8_reads_44 : decode cX8_reads 44 = .ok (.aload_n 0, 1) := by decide +kernel
theorem dX8_reads_45 : decode cX8_reads 45 = .ok (.getfield 38, 3) := by decide +kernel
theorem dX8_reads_48 : decode cX8_reads 48 = .ok (.iload_n 1, 1) := by decide +kernel
theorem dX8_reads_49 : decode cX8_reads 49 = .ok (.iconst 1, 1) := by decide +kernel
theorem dX8_reads_50 : decode cX8_reads 50 = .ok (.iadd, 1) := by decide +kernel
theorem dX8_reads_51 : decode cX8_reads 51 = .ok (.baload, 1) := by decide +kernel
theorem dX8_reads_52 : decode cX8_reads 52 = .ok (.goto 4, 3) := by decide +kernel
theorem dX8_reads_55 : decode cX8_reads 55 = .ok (.iconst (-1), 1) := by decide +kernel
theorem dX8_reads_56 : decode cX8_reads 56 = .ok (.istore 4, 2) := by decide +kernel
theorem dX8_reads_58 : decode cX8_reads 58 = .ok (.iload 4, 2) := by decide +kernel
theorem dX8_reads_60 : decode cX8_reads 60 = .ok (.bipush 33, 2) := by decide +kernel
theorem dX8_reads_62 : decode cX8_reads 62 = .ok (.if_icmp .eq 10, 3) := by decide +kernel
theorem dX8_reads_65 : decode cX8_reads 65 = .ok (.iload 4, 2) := by decide +kernel
theorem dX8_reads_67 : decode cX8_reads 67 = .ok (.bipush 45, 2) := by decide +kernel
theorem dX8_reads_69 : decode cX8_reads 69 = .ok (.if_icmp .ne 5, 3) := by decide +kernel
theorem dX8_reads_72 : decode cX8_reads 72 = .ok (.iconst 2, 1) := by decide +kernel
theorem dX8_reads_73 : decode cX8_reads 73 = .ok (.ireturn, 1) := by decide +kernel
theorem dX8_reads_74 : decode cX8_reads 74 = .ok (.iload 4, 2) := by decide +kernel
theorem dX8_reads_76 : decode cX8_reads 76 = .ok (.bipush 42, 2) := by decide +kernel
theorem dX8_reads_78 : decode cX8_reads 78 = .ok (.if_icmp .eq 17, 3) := by decide +kernel
theorem dX8_reads_81 : decode cX8_reads 81 = .ok (.iload 4, 2) := by decide +kernel
theorem dX8_reads_83 : decode cX8_reads 83 = .ok (.invokestatic 144, 3) := by decide +kernel
theorem dX8_reads_86 : decode cX8_reads 86 = .ok (.iconst (-1), 1) := by decide +kernel
theorem dX8_reads_87 : decode cX8_reads 87 = .ok (.if_icmp .ne 8, 3) := by decide +kernel
theorem dX8_reads_90 : decode cX8_reads 90 = .ok (.bipush (-2), 2) := by decide +kernel
theorem dX8_reads_92 : decode cX8_reads 92 = .ok (.iload_n 1, 1) := by decide +kernel
theorem dX8_reads_93 : decode cX8_reads 93 = .ok (.isub, 1) := by decide +kernel
theorem dX8_reads_94 : decode cX8_reads 94 = .ok (.ireturn, 1) := by decide +kernel
theorem dX8_reads_95 : decode cX8_reads 95 = .ok (.iload_n 1, 1) := by decide +kernel
theorem dX8_reads_96 : decode cX8_reads 96 = .ok (.iconst 2, 1) := by decide +kernel
theorem dX8_reads_97 : decode cX8_reads 97 = .ok (.iadd, 1) := by decide +kernel
theorem dX8_reads_98 : decode cX8_reads 98 = .ok (.iload_n 2, 1) := by decide +kernel
theorem dX8_reads_99 : decode cX8_reads 99 = .ok (.if_icmp .ge 14, 3) := by decide +kernel
theorem dX8_reads_102 : decode cX8_reads 102 = .ok (.aload_n 0, 1) := by decide +kernel
theorem dX8_reads_103 : decode cX8_reads 103 = .ok (.getfield 38, 3) := by decide +kernel
theorem dX8_reads_106 : decode cX8_reads 106 = .ok (.iload_n 1, 1) := by decide +kernel
theorem dX8_reads_107 : decode cX8_reads 107 = .ok (.iconst 2, 1) := by decide +kernel
theorem dX8_reads_108 : decode cX8_reads 108 = .ok (.iadd, 1) := by decide +kernel
theorem dX8_reads_109 : decode cX8_reads 109 = .ok (.baload, 1) := by decide +kernel
theorem dX8_reads_110 : decode cX8_reads 110 = .ok (.goto 4, 3) := by decide +kernel
theorem dX8_reads_113 : decode cX8_reads 113 = .ok (.iconst (-1), 1) := by decide +kernel
theorem dX8_reads_114 : decode cX8_reads 114 = .ok (.istore 5, 2) := by decide +kernel
theorem dX8_reads_116 : decode cX8_reads 116 = .ok (.iload 5, 2) := by decide +kernel
theorem dX8_reads_118 : decode cX8_reads 118 = .ok (.invokestatic 144, 3) := by decide +kernel
theorem dX8_reads_121 : decode cX8_reads 121 = .ok (.iconst (-1), 1) := by decide +kernel
theorem dX8_reads_122 : decode cX8_reads 122 = .ok (.if_icmp .ne 10, 3) := by decide +kernel
theorem dX8_reads_125 : decode cX8_reads 125 = .ok (.bipush (-3), 2) := by decide +kernel
theorem dX8_reads_127 : decode cX8_reads 127 = .ok (.iload_n 1, 1) := by decide +kernel
theorem dX8_reads_128 : decode cX8_reads 128 = .ok (.isub, 1) := by decide +kernel
theorem dX8_reads_129 : decode cX8_reads 129 = .ok (.goto 4, 3) := by decide +kernel
theorem dX8_reads_132 : decode cX8_reads 132 = .ok (.iconst 3, 1) := by decide +kernel
theorem dX8_reads_133 : decode cX8_reads 133 = .ok (.ireturn, 1) := by decide +kernel
theorem dX8_doItem_0 : decode cX8_doItem 0 = .ok (.aload_n 0, 1) := by decide +kernel
theorem dX8_doItem_1 : decode cX8_doItem 1 = .ok (.getfield 38, 3) := by decide +kernel
theorem dX8_doItem_4 : decode cX8_doItem 4 = .ok (.iload_n 1, 1) := by decide +kernel
theorem dX8_doItem_5 : decode cX8_doItem 5 = .ok (.baload, 1) := by decide +kernel
theorem dX8_doItem_6 : decode cX8_doItem 6 = .ok (.istore_n 2, 1) := by decide +kernel
theorem dX8_doItem_7 : decode cX8_doItem 7 = .ok (.aload_n 0, 1) := by decide +kernel
theorem dX8_doItem_8 : decode cX8_doItem 8 = .ok (.invokevirtual 82, 3) := by decide +kernel
theorem dX8_doItem_11 : decode cX8_doItem 11 = .ok (.ifCond .ne 5, 3) := by decide +kernel
theorem dX8_doItem_14 : decode cX8_doItem 14 = .ok (.iconst 0, 1) := by decide +kernel
theorem dX8_doItem_15 : decode cX8_doItem 15 = .ok (.ireturn, 1) := by decide +kernel
theorem dX8_doItem_16 : decode cX8_doItem 16 = .ok (.iload_n 2, 1) := by decide +kernel
theorem dX8_doItem_17 : decode cX8_doItem 17 = .ok (.bipush 65, 2) := by decide +kernel
theorem dX8_doItem_19 : decode cX8_doItem 19 = .ok (.if_icmp .eq 9, 3) := by decide +kernel
theorem dX8_doItem_22 : decode cX8_doItem 22 = .ok (.iload_n 2, 1) := by decide +kernel
theorem dX8_doItem_23 : decode cX8_doItem 23 = .ok (.bipush 66, 2) := by decide +kernel
theorem dX8_doItem_25 : decode cX8_doItem 25 = .ok (.if_icmp .ne 14, 3) := by decide +kernel
theorem dX8_doItem_28 : decode cX8_doItem 28 = .ok (.aload_n 0, 1) := by decide +kernel
theorem dX8_doItem_29 : decode cX8_doItem 29 = .ok (.iload_n 2, 1) := by decide +kernel
theorem dX8_doItem_30 : decode cX8_doItem 30 = .ok (.bipush 65, 2) := by decide +kernel
theorem dX8_doItem_32 : decode cX8_doItem 32 = .ok (.isub, 1) := by decide +kernel
theorem dX8_doItem_33 : decode cX8_doItem 33 = .ok (.invokevirtual 113, 3) := by decide +kernel
theorem dX8_doItem_36 : decode cX8_doItem 36 = .ok (.pop, 1) := by decide +kernel
theorem dX8_doItem_37 : decode cX8_doItem 37 = .ok (.iconst 1, 1) := by decide +kernel
theorem dX8_doItem_38 : decode cX8_doItem 38 = .ok (.ireturn, 1) := by decide +kernel
theorem dX8_doItem_39 : decode cX8_doItem 39 = .ok (.iload_n 2, 1) := by decide +kernel
theorem dX8_doItem_40 : decode cX8_doItem 40 = .ok (.bipush 97, 2) := by decide +kernel
theorem dX8_doItem_42 : decode cX8_doItem 42 = .ok (.isub, 1) := by decide +kernel
theorem dX8_doItem_43 : decode cX8_doItem 43 = .ok (.istore_n 3, 1) := by decide +kernel
theorem dX8_doItem_44 : decode cX8_doItem 44 = .ok (.aload_n 0, 1) := by decide +kernel
theorem dX8_doItem_45 : decode cX8_doItem 45 = .ok (.getfield 38, 3) := by decide +kernel
theorem dX8_doItem_48 : decode cX8_doItem 48 = .ok (.iload_n 1, 1) := by decide +kernel
theorem dX8_doItem_49 : decode cX8_doItem 49 = .ok (.iconst 1, 1) := by decide +kernel
theorem dX8_doItem_50 : decode cX8_doItem 50 = .ok (.iadd, 1) := by decide +kernel
theorem dX8_doItem_51 : decode cX8_doItem 51 = .ok (.baload, 1) := by decide +kernel
theorem dX8_doItem_52 : decode cX8_doItem 52 = .ok (.istore 4, 2) := by decide +kernel
theorem dX8_doItem_54 : decode cX8_doItem 54 = .ok (.iload 4, 2) := by decide +kernel
theorem dX8_doItem_56 : decode cX8_doItem 56 = .ok (.bipush 33, 2) := by decide +kernel
theorem dX8_doItem_58 : decode cX8_doItem 58 = .ok (.if_icmp .ne 18, 3) := by decide +kernel
theorem dX8_doItem_61 : decode cX8_doItem 61 = .ok (.aload_n 0, 1) := by decide +kernel
theorem dX8_doItem_62 : decode cX8_doItem 62 = .ok (.iload_n 3, 1) := by decide +kernel
theorem dX8_doItem_63 : decode cX8_doItem 63 = .ok (.invokevirtual 129, 3) := by decide +kernel
theorem dX8_doItem_66 : decode cX8_doItem 66 = .ok (.iconst (-1), 1) := by decide +kernel
theorem dX8_doItem_67 : decode cX8_doItem 67 = .ok (.if_icmp .eq 7, 3) := by decide +kernel
theorem dX8_doItem_70 : decode cX8_doItem 70 = .ok (.iconst 1, 1) := by decide +kernel
theorem dX8_doItem_71 : decode cX8_doItem 71 = .ok (.goto 4, 3) := by decide +kernel
theorem dX8_doItem_74 : decode cX8_doItem 74 = .ok (.iconst 0, 1) := by decide +kernel
theorem dX8_doItem_75 : decode cX8_doItem 75 = .ok (.ireturn, 1) := by decide +kernel
theorem dX8_doItem_76 : decode cX8_doItem 76 = .ok (.iload 4, 2) := by decide +kernel
theorem dX8_doItem_78 : decode cX8_doItem 78 = .ok (.bipush 45, 2) := by decide +kernel
theorem dX8_doItem_80 : decode cX8_doItem 80 = .ok (.if_icmp .ne 19, 3) := by decide +kernel
theorem dX8_doItem_83 : decode cX8_doItem 83 = .ok (.aload_n 0, 1) := by decide +kernel
theorem dX8_doItem_84 : decode cX8_doItem 84 = .ok (.iload_n 3, 1) := by decide +kernel
theorem dX8_doItem_85 : decode cX8_doItem 85 = .ok (.iconst (-1), 1) := by decide +kernel
theorem dX8_doItem_86 : decode cX8_doItem 86 = .ok (.invokevirtual 126, 3) := by decide +kernel
theorem dX8_doItem_89 : decode cX8_doItem 89 = .ok (.iconst (-1), 1) := by decide +kernel
theorem dX8_doItem_90 : decode cX8_doItem 90 = .ok (.if_icmp .eq 7, 3) := by decide +kernel
theorem dX8_doItem_93 : decode cX8_doItem 93 = .ok (.iconst 1, 1) := by decide +kernel
theorem dX8_doItem_94 : decode cX8_doItem 94 = .ok (.goto 4, 3) := by decide +kernel
theorem dX8_doItem_97 : decode cX8_doItem 97 = .ok (.iconst 0, 1) := by decide +kernel
theorem dX8_doItem_98 : decode cX8_doItem 98 = .ok (.ireturn, 1) := by decide +kernel
theorem dX8_doItem_99 : decode cX8_doItem 99 = .ok (.aload_n 0, 1) := by decide +kernel
theorem dX8_doItem_100 : decode cX8_doItem 100 = .ok (.getfield 38, 3) := by decide +kernel
theorem dX8_doItem_103 : decode cX8_doItem 103 = .ok (.iload_n 1, 1) := by decide +kernel
theorem dX8_doItem_104 : decode cX8_doItem 104 = .ok (.iconst 2, 1) := by decide +kernel
theorem dX8_doItem_105 : decode cX8_doItem 105 = .ok (.iadd, 1) := by decide +kernel
theorem dX8_doItem_106 : decode cX8_doItem 106 = .ok (.baload, 1) := by decide +kernel
theorem dX8_doItem_107 : decode cX8_doItem 107 = .ok (.invokestatic 144, 3) := by decide +kernel
theorem dX8_doItem_110 : decode cX8_doItem 110 = .ok (.istore 5, 2) := by decide +kernel
theorem dX8_doItem_112 : decode cX8_doItem 112 = .ok (.iload 4, 2) := by decide +kernel
theorem dX8_doItem_114 : decode cX8_doItem 114 = .ok (.bipush 42, 2) := by decide +kernel
theorem dX8_doItem_116 : decode cX8_doItem 116 = .ok (.if_icmp .ne 20, 3) := by decide +kernel
theorem dX8_doItem_119 : decode cX8_doItem 119 = .ok (.aload_n 0, 1) := by decide +kernel
theorem dX8_doItem_120 : decode cX8_doItem 120 = .ok (.iload_n 3, 1) := by decide +kernel
theorem dX8_doItem_121 : decode cX8_doItem 121 = .ok (.iload 5, 2) := by decide +kernel
theorem dX8_doItem_123 : decode cX8_doItem 123 = .ok (.invokevirtual 126, 3) := by decide +kernel
theorem dX8_doItem_126 : decode cX8_doItem 126 = .ok (.iconst (-1), 1) := by decide +kernel
theorem dX8_doItem_127 : decode cX8_doItem 127 = .ok (.if_icmp .eq 7, 3) := by decide +kernel
theorem dX8_doItem_130 : decode cX8_doItem 130 = .ok (.iconst 1, 1) := by decide +kernel
theorem dX8_doItem_131 : decode cX8_doItem 131 = .ok (.goto 4, 3) := by decide +kernel
theorem dX8_doItem_134 : decode cX8_doItem 134 = .ok (.iconst 0, 1) := by decide +kernel
theorem dX8_doItem_135 : decode cX8_doItem 135 = .ok (.ireturn, 1) := by decide +kernel
theorem dX8_doItem_136 : decode cX8_doItem 136 = .ok (.aload_n 0, 1) := by decide +kernel
theorem dX8_doItem_137 : decode cX8_doItem 137 = .ok (.iload_n 3, 1) := by decide +kernel
theorem dX8_doItem_138 : decode cX8_doItem 138 = .ok (.iload 4, 2) := by decide +kernel
theorem dX8_doItem_140 : decode cX8_doItem 140 = .ok (.invokestatic 144, 3) := by decide +kernel
theorem dX8_doItem_143 : decode cX8_doItem 143 = .ok (.iload 5, 2) := by decide +kernel
theorem dX8_doItem_145 : decode cX8_doItem 145 = .ok (.invokevirtual 120, 3) := by decide +kernel
theorem dX8_doItem_148 : decode cX8_doItem 148 = .ok (.ifCond .eq 5, 3) := by decide +kernel
theorem dX8_doItem_151 : decode cX8_doItem 151 = .ok (.iconst 0, 1) := by decide +kernel
theorem dX8_doItem_152 : decode cX8_doItem 152 = .ok (.ireturn, 1) := by decide +kernel
theorem dX8_doItem_153 : decode cX8_doItem 153 = .ok (.aload_n 0, 1) := by decide +kernel
theorem dX8_doItem_154 : decode cX8_doItem 154 = .ok (.iload_n 3, 1) := by decide +kernel
theorem dX8_doItem_155 : decode cX8_doItem 155 = .ok (.iload 4, 2) := by decide +kernel
theorem dX8_doItem_157 : decode cX8_doItem 157 = .ok (.invokestatic 144, 3) := by decide +kernel
theorem dX8_doItem_160 : decode cX8_doItem 160 = .ok (.iload 5, 2) := by decide +kernel
theorem dX8_doItem_162 : decode cX8_doItem 162 = .ok (.invokevirtual 123, 3) := by decide +kernel
theorem dX8_doItem_165 : decode cX8_doItem 165 = .ok (.pop, 1) := by decide +kernel
theorem dX8_doItem_166 : decode cX8_doItem 166 = .ok (.iconst 1, 1) := by decide +kernel
theorem dX8_doItem_167 : decode cX8_doItem 167 = .ok (.ireturn, 1) := by decide +kernel
theorem dX8_sheet_0 : decode cX8_sheet 0 = .ok (.aload_n 0, 1) := by decide +kernel
theorem dX8_sheet_1 : decode cX8_sheet 1 = .ok (.iconst 0, 1) := by decide +kernel
theorem dX8_sheet_2 : decode cX8_sheet 2 = .ok (.putfield 63, 3) := by decide +kernel
theorem dX8_sheet_5 : decode cX8_sheet 5 = .ok (.aload_n 0, 1) := by decide +kernel
theorem dX8_sheet_6 : decode cX8_sheet 6 = .ok (.getfield 135, 3) := by decide +kernel
theorem dX8_sheet_9 : decode cX8_sheet 9 = .ok (.istore_n 1, 1) := by decide +kernel
theorem dX8_sheet_10 : decode cX8_sheet 10 = .ok (.aload_n 0, 1) := by decide +kernel
theorem dX8_sheet_11 : decode cX8_sheet 11 = .ok (.iconst 0, 1) := by decide +kernel
theorem dX8_sheet_12 : decode cX8_sheet 12 = .ok (.putfield 135, 3) := by decide +kernel
theorem dX8_sheet_15 : decode cX8_sheet 15 = .ok (.aload_n 0, 1) := by decide +kernel
theorem dX8_sheet_16 : decode cX8_sheet 16 = .ok (.invokevirtual 82, 3) := by decide +kernel
theorem dX8_sheet_19 : decode cX8_sheet 19 = .ok (.ifCond .ne 6, 3) := by decide +kernel
theorem dX8_sheet_22 : decode cX8_sheet 22 = .ok (.bipush (-100), 2) := by decide +kernel
theorem dX8_sheet_24 : decode cX8_sheet 24 = .ok (.ireturn, 1) := by decide +kernel
theorem dX8_sheet_25 : decode cX8_sheet 25 = .ok (.iload_n 1, 1) := by decide +kernel
theorem dX8_sheet_26 : decode cX8_sheet 26 = .ok (.bipush 80, 2) := by decide +kernel
theorem dX8_sheet_28 : decode cX8_sheet 28 = .ok (.invokestatic 147, 3) := by decide +kernel
theorem dX8_sheet_31 : decode cX8_sheet 31 = .ok (.istore_n 2, 1) := by decide +kernel
theorem dX8_sheet_32 : decode cX8_sheet 32 = .ok (.iconst 0, 1) := by decide +kernel
theorem dX8_sheet_33 : decode cX8_sheet 33 = .ok (.istore_n 3, 1) := by decide +kernel
theorem dX8_sheet_34 : decode cX8_sheet 34 = .ok (.iload_n 3, 1) := by decide +kernel
theorem dX8_sheet_35 : decode cX8_sheet 35 = .ok (.iload_n 2, 1) := by decide +kernel
theorem dX8_sheet_36 : decode cX8_sheet 36 = .ok (.if_icmp .ge 27, 3) := by decide +kernel
theorem dX8_sheet_39 : decode cX8_sheet 39 = .ok (.aload_n 0, 1) := by decide +kernel
theorem dX8_sheet_40 : decode cX8_sheet 40 = .ok (.iload_n 3, 1) := by decide +kernel
theorem dX8_sheet_41 : decode cX8_sheet 41 = .ok (.iload_n 2, 1) := by decide +kernel
theorem dX8_sheet_42 : decode cX8_sheet 42 = .ok (.invokevirtual 152, 3) := by decide +kernel
theorem dX8_sheet_45 : decode cX8_sheet 45 = .ok (.istore 4, 2) := by decide +kernel
theorem dX8_sheet_47 : decode cX8_sheet 47 = .ok (.iload 4, 2) := by decide +kernel
theorem dX8_sheet_49 : decode cX8_sheet 49 = .ok (.ifCond .ge 6, 3) := by decide +kernel
theorem dX8_sheet_52 : decode cX8_sheet 52 = .ok (.iload 4, 2) := by decide +kernel
theorem dX8_sheet_54 : decode cX8_sheet 54 = .ok (.ireturn, 1) := by decide +kernel
theorem dX8_sheet_55 : decode cX8_sheet 55 = .ok (.iload_n 3, 1) := by decide +kernel
theorem dX8_sheet_56 : decode cX8_sheet 56 = .ok (.iload 4, 2) := by decide +kernel
theorem dX8_sheet_58 : decode cX8_sheet 58 = .ok (.iadd, 1) := by decide +kernel
theorem dX8_sheet_59 : decode cX8_sheet 59 = .ok (.istore_n 3, 1) := by decide +kernel
theorem dX8_sheet_60 : decode cX8_sheet 60 = .ok (.goto (-26), 3) := by decide +kernel
theorem dX8_sheet_63 : decode cX8_sheet 63 = .ok (.iload_n 1, 1) := by decide +kernel
theorem dX8_sheet_64 : decode cX8_sheet 64 = .ok (.bipush 80, 2) := by decide +kernel
theorem dX8_sheet_66 : decode cX8_sheet 66 = .ok (.if_icmp .le 6, 3) := by decide +kernel
theorem dX8_sheet_69 : decode cX8_sheet 69 = .ok (.bipush (-81), 2) := by decide +kernel
theorem dX8_sheet_71 : decode cX8_sheet 71 = .ok (.ireturn, 1) := by decide +kernel
theorem dX8_sheet_72 : decode cX8_sheet 72 = .ok (.aload_n 0, 1) := by decide +kernel
theorem dX8_sheet_73 : decode cX8_sheet 73 = .ok (.invokevirtual 155, 3) := by decide +kernel
theorem dX8_sheet_76 : decode cX8_sheet 76 = .ok (.iconst 0, 1) := by decide +kernel
theorem dX8_sheet_77 : decode cX8_sheet 77 = .ok (.istore_n 3, 1) := by decide +kernel
theorem dX8_sheet_78 : decode cX8_sheet 78 = .ok (.iconst 0, 1) := by decide +kernel
theorem dX8_sheet_79 : decode cX8_sheet 79 = .ok (.istore 4, 2) := by decide +kernel
theorem dX8_sheet_81 : decode cX8_sheet 81 = .ok (.iload 4, 2) := by decide +kernel
theorem dX8_sheet_83 : decode cX8_sheet 83 = .ok (.iload_n 1, 1) := by decide +kernel
theorem dX8_sheet_84 : decode cX8_sheet 84 = .ok (.if_icmp .ge 41, 3) := by decide +kernel
theorem dX8_sheet_87 : decode cX8_sheet 87 = .ok (.aload_n 0, 1) := by decide +kernel
theorem dX8_sheet_88 : decode cX8_sheet 88 = .ok (.iload 4, 2) := by decide +kernel
theorem dX8_sheet_90 : decode cX8_sheet 90 = .ok (.invokevirtual 158, 3) := by decide +kernel
theorem dX8_sheet_93 : decode cX8_sheet 93 = .ok (.ifCond .ne 14, 3) := by decide +kernel
theorem dX8_sheet_96 : decode cX8_sheet 96 = .ok (.aload_n 0, 1) := by decide +kernel
theorem dX8_sheet_97 : decode cX8_sheet 97 = .ok (.invokevirtual 161, 3) := by decide +kernel
theorem dX8_sheet_100 : decode cX8_sheet 100 = .ok (.sipush (-1001), 3) := by decide +kernel
theorem dX8_sheet_103 : decode cX8_sheet 103 = .ok (.iload 4, 2) := by decide +kernel
theorem dX8_sheet_105 : decode cX8_sheet 105 = .ok (.isub, 1) := by decide +kernel
theorem dX8_sheet_106 : decode cX8_sheet 106 = .ok (.ireturn, 1) := by decide +kernel
theorem dX8_sheet_107 : decode cX8_sheet 107 = .ok (.iinc 3 1, 3) := by decide +kernel
theorem dX8_sheet_110 : decode cX8_sheet 110 = .ok (.iload 4, 2) := by decide +kernel
theorem dX8_sheet_112 : decode cX8_sheet 112 = .ok (.aload_n 0, 1) := by decide +kernel
theorem dX8_sheet_113 : decode cX8_sheet 113 = .ok (.iload 4, 2) := by decide +kernel
theorem dX8_sheet_115 : decode cX8_sheet 115 = .ok (.iload_n 1, 1) := by decide +kernel
theorem dX8_sheet_116 : decode cX8_sheet 116 = .ok (.invokevirtual 152, 3) := by decide +kernel
theorem dX8_sheet_119 : decode cX8_sheet 119 = .ok (.iadd, 1) := by decide +kernel
theorem dX8_sheet_120 : decode cX8_sheet 120 = .ok (.istore 4, 2) := by decide +kernel
theorem dX8_sheet_122 : decode cX8_sheet 122 = .ok (.goto (-41), 3) := by decide +kernel
theorem dX8_sheet_125 : decode cX8_sheet 125 = .ok (.iload_n 3, 1) := by decide +kernel
theorem dX8_sheet_126 : decode cX8_sheet 126 = .ok (.ireturn, 1) := by decide +kernel
theorem dX8_putAside_0 : decode cX8_putAside 0 = .ok (.iconst 0, 1) := by decide +kernel
theorem dX8_putAside_1 : decode cX8_putAside 1 = .ok (.istore_n 1, 1) := by decide +kernel
theorem dX8_putAside_2 : decode cX8_putAside 2 = .ok (.iload_n 1, 1) := by decide +kernel
theorem dX8_putAside_3 : decode cX8_putAside 3 = .ok (.bipush 106, 2) := by decide +kernel
theorem dX8_putAside_5 : decode cX8_putAside 5 = .ok (.if_icmp .ge 21, 3) := by decide +kernel
theorem dX8_putAside_8 : decode cX8_putAside 8 = .ok (.aload_n 0, 1) := by decide +kernel
theorem dX8_putAside_9 : decode cX8_putAside 9 = .ok (.getfield 29, 3) := by decide +kernel
theorem dX8_putAside_12 : decode cX8_putAside 12 = .ok (.iload_n 1, 1) := by decide +kernel
theorem dX8_putAside_13 : decode cX8_putAside 13 = .ok (.aload_n 0, 1) := by decide +kernel
theorem dX8_putAside_14 : decode cX8_putAside 14 = .ok (.getfield 26, 3) := by decide +kernel
theorem dX8_putAside_17 : decode cX8_putAside 17 = .ok (.iload_n 1, 1) := by decide +kernel
theorem dX8_putAside_18 : decode cX8_putAside 18 = .ok (.iaload, 1) := by decide +kernel
theorem dX8_putAside_19 : decode cX8_putAside 19 = .ok (.iastore, 1) := by decide +kernel
theorem dX8_putAside_20 : decode cX8_putAside 20 = .ok (.iinc 1 1, 3) := by decide +kernel
theorem dX8_putAside_23 : decode cX8_putAside 23 = .ok (.goto (-21), 3) := by decide +kernel
theorem dX8_putAside_26 : decode cX8_putAside 26 = .ok (.return_, 1) := by decide +kernel
theorem dX8_putBack_0 : decode cX8_putBack 0 = .ok (.iconst 0, 1) := by decide +kernel
theorem dX8_putBack_1 : decode cX8_putBack 1 = .ok (.istore_n 1, 1) := by decide +kernel
theorem dX8_putBack_2 : decode cX8_putBack 2 = .ok (.iload_n 1, 1) := by decide +kernel
theorem dX8_putBack_3 : decode cX8_putBack 3 = .ok (.bipush 106, 2) := by decide +kernel
theorem dX8_putBack_5 : decode cX8_putBack 5 = .ok (.if_icmp .ge 21, 3) := by decide +kernel
theorem dX8_putBack_8 : decode cX8_putBack 8 = .ok (.aload_n 0, 1) := by decide +kernel
theorem dX8_putBack_9 : decode cX8_putBack 9 = .ok (.getfield 26, 3) := by decide +kernel
theorem dX8_putBack_12 : decode cX8_putBack 12 = .ok (.iload_n 1, 1) := by decide +kernel
theorem dX8_putBack_13 : decode cX8_putBack 13 = .ok (.aload_n 0, 1) := by decide +kernel
theorem dX8_putBack_14 : decode cX8_putBack 14 = .ok (.getfield 29, 3) := by decide +kernel
theorem dX8_putBack_17 : decode cX8_putBack 17 = .ok (.iload_n 1, 1) := by decide +kernel
theorem dX8_putBack_18 : decode cX8_putBack 18 = .ok (.iaload, 1) := by decide +kernel
theorem dX8_putBack_19 : decode cX8_putBack 19 = .ok (.iastore, 1) := by decide +kernel
theorem dX8_putBack_20 : decode cX8_putBack 20 = .ok (.iinc 1 1, 3) := by decide +kernel
theorem dX8_putBack_23 : decode cX8_putBack 23 = .ok (.goto (-21), 3) := by decide +kernel
theorem dX8_putBack_26 : decode cX8_putBack 26 = .ok (.return_, 1) := by decide +kernel
theorem dX8_countNow_0 : decode cX8_countNow 0 = .ok (.iconst 0, 1) := by decide +kernel
theorem dX8_countNow_1 : decode cX8_countNow 1 = .ok (.istore_n 1, 1) := by decide +kernel
theorem dX8_countNow_2 : decode cX8_countNow 2 = .ok (.iload_n 1, 1) := by decide +kernel
theorem dX8_countNow_3 : decode cX8_countNow 3 = .ok (.iconst 2, 1) := by decide +kernel
theorem dX8_countNow_4 : decode cX8_countNow 4 = .ok (.if_icmp .ge 74, 3) := by decide +kernel
theorem dX8_countNow_7 : decode cX8_countNow 7 = .ok (.iconst 0, 1) := by decide +kernel
theorem dX8_countNow_8 : decode cX8_countNow 8 = .ok (.istore_n 2, 1) := by decide +kernel
theorem dX8_countNow_9 : decode cX8_countNow 9 = .ok (.iload_n 2, 1) := by decide +kernel
theorem dX8_countNow_10 : decode cX8_countNow 10 = .ok (.bipush 6, 2) := by decide +kernel
theorem dX8_countNow_12 : decode cX8_countNow 12 = .ok (.if_icmp .ge 60, 3) := by decide +kernel
theorem dX8_countNow_15 : decode cX8_countNow 15 = .ok (.aload_n 0, 1) := by decide +kernel
theorem dX8_countNow_16 : decode cX8_countNow 16 = .ok (.iload_n 1, 1) := by decide +kernel
theorem dX8_countNow_17 : decode cX8_countNow 17 = .ok (.bipush 8, 2) := by decide +kernel
theorem dX8_countNow_19 : decode cX8_countNow 19 = .ok (.iload_n 2, 1) := by decide +kernel
theorem dX8_countNow_20 : decode cX8_countNow 20 = .ok (.iadd, 1) := by decide +kernel
theorem dX8_countNow_21 : decode cX8_countNow 21 = .ok (.invokevirtual 95, 3) := by decide +kernel
theorem dX8_countNow_24 : decode cX8_countNow 24 = .ok (.istore_n 3, 1) := by decide +kernel
theorem dX8_countNow_25 : decode cX8_countNow 25 = .ok (.aload_n 0, 1) := by decide +kernel
theorem dX8_countNow_26 : decode cX8_countNow 26 = .ok (.getfield 45, 3) := by decide +kernel
theorem dX8_countNow_29 : decode cX8_countNow 29 = .ok (.bipush 6, 2) := by decide +kernel
theorem dX8_countNow_31 : decode cX8_countNow 31 = .ok (.iload_n 1, 1) := by decide +kernel
theorem dX8_countNow_32 : decode cX8_countNow 32 = .ok (.imul, 1) := by decide +kernel
theorem dX8_countNow_33 : decode cX8_countNow 33 = .ok (.iload_n 2, 1) := by decide +kernel
theorem dX8_countNow_34 : decode cX8_countNow 34 = .ok (.iadd, 1) := by decide +kernel
theorem dX8_countNow_35 : decode cX8_countNow 35 = .ok (.aload_n 0, 1) := by decide +kernel
theorem dX8_countNow_36 : decode cX8_countNow 36 = .ok (.iload_n 1, 1) := by decide +kernel
theorem dX8_countNow_37 : decode cX8_countNow 37 = .ok (.iconst 4, 1) := by decide +kernel
theorem dX8_countNow_38 : decode cX8_countNow 38 = .ok (.invokevirtual 95, 3) := by decide +kernel
theorem dX8_countNow_41 : decode cX8_countNow 41 = .ok (.iconst (-1), 1) := by decide +kernel
theorem dX8_countNow_42 : decode cX8_countNow 42 = .ok (.if_icmp .eq 22, 3) := by decide +kernel
theorem dX8_countNow_45 : decode cX8_countNow 45 = .ok (.iload_n 3, 1) := by decide +kernel
theorem dX8_countNow_46 : decode cX8_countNow 46 = .ok (.aload_n 0, 1) := by decide +kernel
theorem dX8_countNow_47 : decode cX8_countNow 47 = .ok (.getfield 13, 3) := by decide +kernel
theorem dX8_countNow_50 : decode cX8_countNow 50 = .ok (.iload_n 1, 1) := by decide +kernel
theorem dX8_countNow_51 : decode cX8_countNow 51 = .ok (.iaload, 1) := by decide +kernel
theorem dX8_countNow_52 : decode cX8_countNow 52 = .ok (.if_icmp .ne 12, 3) := by decide +kernel
theorem dX8_countNow_55 : decode cX8_countNow 55 = .ok (.aload_n 0, 1) := by decide +kernel
theorem dX8_countNow_56 : decode cX8_countNow 56 = .ok (.iload_n 1, 1) := by decide +kernel
theorem dX8_countNow_57 : decode cX8_countNow 57 = .ok (.iconst 4, 1) := by decide +kernel
theorem dX8_countNow_58 : decode cX8_countNow 58 = .ok (.invokevirtual 95, 3) := by decide +kernel
theorem dX8_countNow_61 : decode cX8_countNow 61 = .ok (.goto 4, 3) := by decide +kernel
theorem dX8_countNow_64 : decode cX8_countNow 64 = .ok (.iload_n 3, 1) := by decide +kernel
theorem dX8_countNow_65 : decode cX8_countNow 65 = .ok (.iastore, 1) := by decide +kernel
theorem dX8_countNow_66 : decode cX8_countNow 66 = .ok (.iinc 2 1, 3) := by decide +kernel
theorem dX8_countNow_69 : decode cX8_countNow 69 = .ok (.goto (-60), 3) := by decide +kernel
theorem dX8_countNow_72 : decode cX8_countNow 72 = .ok (.iinc 1 1, 3) := by decide +kernel
theorem dX8_countNow_75 : decode cX8_countNow 75 = .ok (.goto (-73), 3) := by decide +kernel
theorem dX8_countNow_78 : decode cX8_countNow 78 = .ok (.return_, 1) := by decide +kernel
theorem dX8_later_0 : decode cX8_later 0 = .ok (.aload_n 0, 1) := by decide +kernel
theorem dX8_later_1 : decode cX8_later 1 = .ok (.getfield 45, 3) := by decide +kernel
theorem dX8_later_4 : decode cX8_later 4 = .ok (.bipush 6, 2) := by decide +kernel
theorem dX8_later_6 : decode cX8_later 6 = .ok (.iload_n 1, 1) := by decide +kernel
theorem dX8_later_7 : decode cX8_later 7 = .ok (.imul, 1) := by decide +kernel
theorem dX8_later_8 : decode cX8_later 8 = .ok (.iload_n 2, 1) := by decide +kernel
theorem dX8_later_9 : decode cX8_later 9 = .ok (.iload_n 3, 1) := by decide +kernel
theorem dX8_later_10 : decode cX8_later 10 = .ok (.iadd, 1) := by decide +kernel
theorem dX8_later_11 : decode cX8_later 11 = .ok (.bipush 6, 2) := by decide +kernel
theorem dX8_later_13 : decode cX8_later 13 = .ok (.irem, 1) := by decide +kernel
theorem dX8_later_14 : decode cX8_later 14 = .ok (.iadd, 1) := by decide +kernel
theorem dX8_later_15 : decode cX8_later 15 = .ok (.iaload, 1) := by decide +kernel
theorem dX8_later_16 : decode cX8_later 16 = .ok (.ireturn, 1) := by decide +kernel
theorem dX8_sum_0 : decode cX8_sum 0 = .ok (.aload_n 0, 1) := by decide +kernel
theorem dX8_sum_1 : decode cX8_sum 1 = .ok (.iload_n 1, 1) := by decide +kernel
theorem dX8_sum_2 : decode cX8_sum 2 = .ok (.aload_n 0, 1) := by decide +kernel
theorem dX8_sum_3 : decode cX8_sum 3 = .ok (.iload_n 1, 1) := by decide +kernel
theorem dX8_sum_4 : decode cX8_sum 4 = .ok (.iload 4, 2) := by decide +kernel
theorem dX8_sum_6 : decode cX8_sum 6 = .ok (.iload_n 2, 1) := by decide +kernel
theorem dX8_sum_7 : decode cX8_sum 7 = .ok (.invokevirtual 164, 3) := by decide +kernel
theorem dX8_sum_10 : decode cX8_sum 10 = .ok (.iload_n 3, 1) := by decide +kernel
theorem dX8_sum_11 : decode cX8_sum 11 = .ok (.invokevirtual 78, 3) := by decide +kernel
theorem dX8_sum_14 : decode cX8_sum 14 = .ok (.aload_n 0, 1) := by decide +kernel
theorem dX8_sum_15 : decode cX8_sum 15 = .ok (.iload_n 1, 1) := by decide +kernel
theorem dX8_sum_16 : decode cX8_sum 16 = .ok (.aload_n 0, 1) := by decide +kernel
theorem dX8_sum_17 : decode cX8_sum 17 = .ok (.iload_n 1, 1) := by decide +kernel
theorem dX8_sum_18 : decode cX8_sum 18 = .ok (.iload 5, 2) := by decide +kernel
theorem dX8_sum_20 : decode cX8_sum 20 = .ok (.iload_n 2, 1) := by decide +kernel
theorem dX8_sum_21 : decode cX8_sum 21 = .ok (.invokevirtual 164, 3) := by decide +kernel
theorem dX8_sum_24 : decode cX8_sum 24 = .ok (.iload_n 3, 1) := by decide +kernel
theorem dX8_sum_25 : decode cX8_sum 25 = .ok (.invokevirtual 78, 3) := by decide +kernel
theorem dX8_sum_28 : decode cX8_sum 28 = .ok (.iadd, 1) := by decide +kernel
theorem dX8_sum_29 : decode cX8_sum 29 = .ok (.aload_n 0, 1) := by decide +kernel
theorem dX8_sum_30 : decode cX8_sum 30 = .ok (.iload_n 1, 1) := by decide +kernel
theorem dX8_sum_31 : decode cX8_sum 31 = .ok (.aload_n 0, 1) := by decide +kernel
theorem dX8_sum_32 : decode cX8_sum 32 = .ok (.iload_n 1, 1) := by decide +kernel
theorem dX8_sum_33 : decode cX8_sum 33 = .ok (.iload 6, 2) := by decide +kernel
theorem dX8_sum_35 : decode cX8_sum 35 = .ok (.iload_n 2, 1) := by decide +kernel
theorem dX8_sum_36 : decode cX8_sum 36 = .ok (.invokevirtual 164, 3) := by decide +kernel
theorem dX8_sum_39 : decode cX8_sum 39 = .ok (.iload_n 3, 1) := by decide +kernel
theorem dX8_sum_40 : decode cX8_sum 40 = .ok (.invokevirtual 78, 3) := by decide +kernel
theorem dX8_sum_43 : decode cX8_sum 43 = .ok (.iadd, 1) := by decide +kernel
theorem dX8_sum_44 : decode cX8_sum 44 = .ok (.ireturn, 1) := by decide +kernel
theorem dX8_oddsOf_0 : decode cX8_oddsOf 0 = .ok (.iload_n 3, 1) := by decide +kernel
theorem dX8_oddsOf_1 : decode cX8_oddsOf 1 = .ok (.ifCond .ne 7, 3) := by decide +kernel
theorem dX8_oddsOf_4 : decode cX8_oddsOf 4 = .ok (.iload_n 1, 1) := by decide +kernel
theorem dX8_oddsOf_5 : decode cX8_oddsOf 5 = .ok (.goto 4, 3) := by decide +kernel
theorem dX8_oddsOf_8 : decode cX8_oddsOf 8 = .ok (.iload_n 2, 1) := by decide +kernel
theorem dX8_oddsOf_9 : decode cX8_oddsOf 9 = .ok (.istore 4, 2) := by decide +kernel
theorem dX8_oddsOf_11 : decode cX8_oddsOf 11 = .ok (.iload_n 3, 1) := by decide +kernel
theorem dX8_oddsOf_12 : decode cX8_oddsOf 12 = .ok (.ifCond .ne 7, 3) := by decide +kernel
theorem dX8_oddsOf_15 : decode cX8_oddsOf 15 = .ok (.iload_n 2, 1) := by decide +kernel
theorem dX8_oddsOf_16 : decode cX8_oddsOf 16 = .ok (.goto 4, 3) := by decide +kernel
theorem dX8_oddsOf_19 : decode cX8_oddsOf 19 = .ok (.iload_n 1, 1) := by decide +kernel
theorem dX8_oddsOf_20 : decode cX8_oddsOf 20 = .ok (.istore 5, 2) := by decide +kernel
theorem dX8_oddsOf_22 : decode cX8_oddsOf 22 = .ok (.sipush 380, 3) := by decide +kernel
theorem dX8_oddsOf_25 : decode cX8_oddsOf 25 = .ok (.aload_n 0, 1) := by decide +kernel
theorem dX8_oddsOf_26 : decode cX8_oddsOf 26 = .ok (.iload_n 3, 1) := by decide +kernel
theorem dX8_oddsOf_27 : decode cX8_oddsOf 27 = .ok (.aload_n 0, 1) := by decide +kernel
theorem dX8_oddsOf_28 : decode cX8_oddsOf 28 = .ok (.iload_n 3, 1) := by decide +kernel
theorem dX8_oddsOf_29 : decode cX8_oddsOf 29 = .ok (.iconst 0, 1) := by decide +kernel
theorem dX8_oddsOf_30 : decode cX8_oddsOf 30 = .ok (.iload 4, 2) := by decide +kernel
theorem dX8_oddsOf_32 : decode cX8_oddsOf 32 = .ok (.invokevirtual 164, 3) := by decide +kernel
theorem dX8_oddsOf_35 : decode cX8_oddsOf 35 = .ok (.iconst 0, 1) := by decide +kernel
theorem dX8_oddsOf_36 : decode cX8_oddsOf 36 = .ok (.invokevirtual 78, 3) := by decide +kernel
theorem dX8_oddsOf_39 : decode cX8_oddsOf 39 = .ok (.iadd, 1) := by decide +kernel
theorem dX8_oddsOf_40 : decode cX8_oddsOf 40 = .ok (.aload_n 0, 1) := by decide +kernel
theorem dX8_oddsOf_41 : decode cX8_oddsOf 41 = .ok (.iconst 1, 1) := by decide +kernel
theorem dX8_oddsOf_42 : decode cX8_oddsOf 42 = .ok (.iload_n 3, 1) := by decide +kernel
theorem dX8_oddsOf_43 : decode cX8_oddsOf 43 = .ok (.isub, 1) := by decide +kernel
theorem dX8_oddsOf_44 : decode cX8_oddsOf 44 = .ok (.iload 5, 2) := by decide +kernel
theorem dX8_oddsOf_46 : decode cX8_oddsOf 46 = .ok (.iconst 1, 1) := by decide +kernel
theorem dX8_oddsOf_47 : decode cX8_oddsOf 47 = .ok (.iconst 0, 1) := by decide +kernel
theorem dX8_oddsOf_48 : decode cX8_oddsOf 48 = .ok (.iconst 4, 1) := by decide +kernel
theorem dX8_oddsOf_49 : decode cX8_oddsOf 49 = .ok (.iconst 5, 1) := by decide +kernel
theorem dX8_oddsOf_50 : decode cX8_oddsOf 50 = .ok (.invokevirtual 167, 3) := by decide +kernel
theorem dX8_oddsOf_53 : decode cX8_oddsOf 53 = .ok (.iconst 3, 1) := by decide +kernel
theorem dX8_oddsOf_54 : decode cX8_oddsOf 54 = .ok (.idiv, 1) := by decide +kernel
theorem dX8_oddsOf_55 : decode cX8_oddsOf 55 = .ok (.isub, 1) := by decide +kernel
theorem dX8_oddsOf_56 : decode cX8_oddsOf 56 = .ok (.aload_n 0, 1) := by decide +kernel
theorem dX8_oddsOf_57 : decode cX8_oddsOf 57 = .ok (.iload_n 3, 1) := by decide +kernel
theorem dX8_oddsOf_58 : decode cX8_oddsOf 58 = .ok (.iload 4, 2) := by decide +kernel
theorem dX8_oddsOf_60 : decode cX8_oddsOf 60 = .ok (.iconst 3, 1) := by decide +kernel
theorem dX8_oddsOf_61 : decode cX8_oddsOf 61 = .ok (.iconst 1, 1) := by decide +kernel
theorem dX8_oddsOf_62 : decode cX8_oddsOf 62 = .ok (.iconst 2, 1) := by decide +kernel
theorem dX8_oddsOf_63 : decode cX8_oddsOf 63 = .ok (.iconst 3, 1) := by decide +kernel
theorem dX8_oddsOf_64 : decode cX8_oddsOf 64 = .ok (.invokevirtual 167, 3) := by decide +kernel
theorem dX8_oddsOf_67 : decode cX8_oddsOf 67 = .ok (.iconst 3, 1) := by decide +kernel
theorem dX8_oddsOf_68 : decode cX8_oddsOf 68 = .ok (.idiv, 1) := by decide +kernel
theorem dX8_oddsOf_69 : decode cX8_oddsOf 69 = .ok (.iadd, 1) := by decide +kernel
theorem dX8_oddsOf_70 : decode cX8_oddsOf 70 = .ok (.aload_n 0, 1) := by decide +kernel
theorem dX8_oddsOf_71 : decode cX8_oddsOf 71 = .ok (.iconst 1, 1) := by decide +kernel
theorem dX8_oddsOf_72 : decode cX8_oddsOf 72 = .ok (.iload_n 3, 1) := by decide +kernel
theorem dX8_oddsOf_73 : decode cX8_oddsOf 73 = .ok (.isub, 1) := by decide +kernel
theorem dX8_oddsOf_74 : decode cX8_oddsOf 74 = .ok (.iload 5, 2) := by decide +kernel
theorem dX8_oddsOf_76 : decode cX8_oddsOf 76 = .ok (.iconst 2, 1) := by decide +kernel
theorem dX8_oddsOf_77 : decode cX8_oddsOf 77 = .ok (.iconst 1, 1) := by decide +kernel
theorem dX8_oddsOf_78 : decode cX8_oddsOf 78 = .ok (.iconst 2, 1) := by decide +kernel
theorem dX8_oddsOf_79 : decode cX8_oddsOf 79 = .ok (.iconst 3, 1) := by decide +kernel
theorem dX8_oddsOf_80 : decode cX8_oddsOf 80 = .ok (.invokevirtual 167, 3) := by decide +kernel
theorem dX8_oddsOf_83 : decode cX8_oddsOf 83 = .ok (.iconst 3, 1) := by decide +kernel
theorem dX8_oddsOf_84 : decode cX8_oddsOf 84 = .ok (.idiv, 1) := by decide +kernel
theorem dX8_oddsOf_85 : decode cX8_oddsOf 85 = .ok (.isub, 1) := by decide +kernel
theorem dX8_oddsOf_86 : decode cX8_oddsOf 86 = .ok (.istore 6, 2) := by decide +kernel
theorem dX8_oddsOf_88 : decode cX8_oddsOf 88 = .ok (.bipush 50, 2) := by decide +kernel
theorem dX8_oddsOf_90 : decode cX8_oddsOf 90 = .ok (.sipush 950, 3) := by decide +kernel
theorem dX8_oddsOf_93 : decode cX8_oddsOf 93 = .ok (.iload 6, 2) := by decide +kernel
theorem dX8_oddsOf_95 : decode cX8_oddsOf 95 = .ok (.invokestatic 147, 3) := by decide +kernel
theorem dX8_oddsOf_98 : decode cX8_oddsOf 98 = .ok (.invokestatic 171, 3) := by decide +kernel
theorem dX8_oddsOf_101 : decode cX8_oddsOf 101 = .ok (.ireturn, 1) := by decide +kernel
theorem dX8_odds_0 : decode cX8_odds 0 = .ok (.aload_n 0, 1) := by decide +kernel
theorem dX8_odds_1 : decode cX8_odds 1 = .ok (.iconst 0, 1) := by decide +kernel
theorem dX8_odds_2 : decode cX8_odds 2 = .ok (.putfield 63, 3) := by decide +kernel
theorem dX8_odds_5 : decode cX8_odds 5 = .ok (.aload_n 0, 1) := by decide +kernel
theorem dX8_odds_6 : decode cX8_odds 6 = .ok (.invokevirtual 82, 3) := by decide +kernel
theorem dX8_odds_9 : decode cX8_odds 9 = .ok (.ifCond .eq 28, 3) := by decide +kernel
theorem dX8_odds_12 : decode cX8_odds 12 = .ok (.iload_n 1, 1) := by decide +kernel
theorem dX8_odds_13 : decode cX8_odds 13 = .ok (.iconst 0, 1) := by decide +kernel
theorem dX8_odds_14 : decode cX8_odds 14 = .ok (.iconst 5, 1) := by decide +kernel
theorem dX8_odds_15 : decode cX8_odds 15 = .ok (.invokestatic 67, 3) := by decide +kernel
theorem dX8_odds_18 : decode cX8_odds 18 = .ok (.ifCond .eq 19, 3) := by decide +kernel
theorem dX8_odds_21 : decode cX8_odds 21 = .ok (.iload_n 2, 1) := by decide +kernel
theorem dX8_odds_22 : decode cX8_odds 22 = .ok (.iconst 0, 1) := by decide +kernel
theorem dX8_odds_23 : decode cX8_odds 23 = .ok (.iconst 5, 1) := by decide +kernel
theorem dX8_odds_24 : decode cX8_odds 24 = .ok (.invokestatic 67, 3) := by decide +kernel
theorem dX8_odds_27 : decode cX8_odds 27 = .ok (.ifCond .eq 10, 3) := by decide +kernel
theorem dX8_odds_30 : decode cX8_odds 30 = .ok (.iload_n 3, 1) := by decide +kernel
theorem dX8_odds_31 : decode cX8_odds 31 = .ok (.invokestatic 71, 3) := by decide +kernel
theorem dX8_odds_34 : decode cX8_odds 34 = .ok (.ifCond .ne 5, 3) := by decide +kernel
theorem dX8_odds_37 : decode cX8_odds 37 = .ok (.iconst (-1), 1) := by decide +kernel
theorem dX8_odds_38 : decode cX8_odds 38 = .ok (.ireturn, 1) := by decide +kernel
theorem dX8_odds_39 : decode cX8_odds 39 = .ok (.aload_n 0, 1) := by decide +kernel
theorem dX8_odds_40 : decode cX8_odds 40 = .ok (.invokevirtual 174, 3) := by decide +kernel
theorem dX8_odds_43 : decode cX8_odds 43 = .ok (.aload_n 0, 1) := by decide +kernel
theorem dX8_odds_44 : decode cX8_odds 44 = .ok (.iload_n 1, 1) := by decide +kernel
theorem dX8_odds_45 : decode cX8_odds 45 = .ok (.iload_n 2, 1) := by decide +kernel
theorem dX8_odds_46 : decode cX8_odds 46 = .ok (.iload_n 3, 1) := by decide +kernel
theorem dX8_odds_47 : decode cX8_odds 47 = .ok (.invokevirtual 177, 3) := by decide +kernel
theorem dX8_odds_50 : decode cX8_odds 50 = .ok (.ireturn, 1) := by decide +kernel
theorem dX8_cell_0 : decode cX8_cell 0 = .ok (.iload_n 0, 1) := by decide +kernel
theorem dX8_cell_1 : decode cX8_cell 1 = .ok (.bipush 31, 2) := by decide +kernel
theorem dX8_cell_3 : decode cX8_cell 3 = .ok (.imul, 1) := by decide +kernel
theorem dX8_cell_4 : decode cX8_cell 4 = .ok (.iload_n 1, 1) := by decide +kernel
theorem dX8_cell_5 : decode cX8_cell 5 = .ok (.iadd, 1) := by decide +kernel
theorem dX8_cell_6 : decode cX8_cell 6 = .ok (.iconst 2, 1) := by decide +kernel
theorem dX8_cell_7 : decode cX8_cell 7 = .ok (.imul, 1) := by decide +kernel
theorem dX8_cell_8 : decode cX8_cell 8 = .ok (.iload_n 2, 1) := by decide +kernel
theorem dX8_cell_9 : decode cX8_cell 9 = .ok (.iadd, 1) := by decide +kernel
theorem dX8_cell_10 : decode cX8_cell 10 = .ok (.bipush 6, 2) := by decide +kernel
theorem dX8_cell_12 : decode cX8_cell 12 = .ok (.imul, 1) := by decide +kernel
theorem dX8_cell_13 : decode cX8_cell 13 = .ok (.iload_n 3, 1) := by decide +kernel
theorem dX8_cell_14 : decode cX8_cell 14 = .ok (.iadd, 1) := by decide +kernel
theorem dX8_cell_15 : decode cX8_cell 15 = .ok (.bipush 6, 2) := by decide +kernel
theorem dX8_cell_17 : decode cX8_cell 17 = .ok (.imul, 1) := by decide +kernel
theorem dX8_cell_18 : decode cX8_cell 18 = .ok (.iload 4, 2) := by decide +kernel
theorem dX8_cell_20 : decode cX8_cell 20 = .ok (.iadd, 1) := by decide +kernel
theorem dX8_cell_21 : decode cX8_cell 21 = .ok (.ireturn, 1) := by decide +kernel
theorem dX8_fill_0 : decode cX8_fill 0 = .ok (.iconst 0, 1) := by decide +kernel
theorem dX8_fill_1 : decode cX8_fill 1 = .ok (.istore_n 2, 1) := by decide +kernel
theorem dX8_fill_2 : decode cX8_fill 2 = .ok (.iload_n 2, 1) := by decide +kernel
theorem dX8_fill_3 : decode cX8_fill 3 = .ok (.bipush 6, 2) := by decide +kernel
theorem dX8_fill_5 : decode cX8_fill 5 = .ok (.if_icmp .ge 63, 3) := by decide +kernel
theorem dX8_fill_8 : decode cX8_fill 8 = .ok (.iconst 0, 1) := by decide +kernel
theorem dX8_fill_9 : decode cX8_fill 9 = .ok (.istore_n 3, 1) := by decide +kernel
theorem dX8_fill_10 : decode cX8_fill 10 = .ok (.iload_n 3, 1) := by decide +kernel
theorem dX8_fill_11 : decode cX8_fill 11 = .ok (.bipush 6, 2) := by decide +kernel
theorem dX8_fill_13 : decode cX8_fill 13 = .ok (.if_icmp .ge 49, 3) := by decide +kernel
theorem dX8_fill_16 : decode cX8_fill 16 = .ok (.iconst 0, 1) := by decide +kernel
theorem dX8_fill_17 : decode cX8_fill 17 = .ok (.istore 4, 2) := by decide +kernel
theorem dX8_fill_19 : decode cX8_fill 19 = .ok (.iload 4, 2) := by decide +kernel
theorem dX8_fill_21 : decode cX8_fill 21 = .ok (.iconst 2, 1) := by decide +kernel
theorem dX8_fill_22 : decode cX8_fill 22 = .ok (.if_icmp .ge 34, 3) := by decide +kernel
theorem dX8_fill_25 : decode cX8_fill 25 = .ok (.aload_n 0, 1) := by decide +kernel
theorem dX8_fill_26 : decode cX8_fill 26 = .ok (.getfield 48, 3) := by decide +kernel
theorem dX8_fill_29 : decode cX8_fill 29 = .ok (.iload 4, 2) := by decide +kernel
theorem dX8_fill_31 : decode cX8_fill 31 = .ok (.bipush 6, 2) := by decide +kernel
theorem dX8_fill_33 : decode cX8_fill 33 = .ok (.imul, 1) := by decide +kernel
theorem dX8_fill_34 : decode cX8_fill 34 = .ok (.iload_n 2, 1) := by decide +kernel
theorem dX8_fill_35 : decode cX8_fill 35 = .ok (.iadd, 1) := by decide +kernel
theorem dX8_fill_36 : decode cX8_fill 36 = .ok (.bipush 6, 2) := by decide +kernel
theorem dX8_fill_38 : decode cX8_fill 38 = .ok (.imul, 1) := by decide +kernel
theorem dX8_fill_39 : decode cX8_fill 39 = .ok (.iload_n 3, 1) := by decide +kernel
theorem dX8_fill_40 : decode cX8_fill 40 = .ok (.iadd, 1) := by decide +kernel
theorem dX8_fill_41 : decode cX8_fill 41 = .ok (.aload_n 0, 1) := by decide +kernel
theorem dX8_fill_42 : decode cX8_fill 42 = .ok (.iload_n 2, 1) := by decide +kernel
theorem dX8_fill_43 : decode cX8_fill 43 = .ok (.iload_n 3, 1) := by decide +kernel
theorem dX8_fill_44 : decode cX8_fill 44 = .ok (.iload 4, 2) := by decide +kernel
theorem dX8_fill_46 : decode cX8_fill 46 = .ok (.invokevirtual 177, 3) := by decide +kernel
theorem dX8_fill_49 : decode cX8_fill 49 = .ok (.iastore, 1) := by decide +kernel
theorem dX8_fill_50 : decode cX8_fill 50 = .ok (.iinc 4 1, 3) := by decide +kernel
theorem dX8_fill_53 : decode cX8_fill 53 = .ok (.goto (-34), 3) := by decide +kernel
theorem dX8_fill_56 : decode cX8_fill 56 = .ok (.iinc 3 1, 3) := by decide +kernel
theorem dX8_fill_59 : decode cX8_fill 59 = .ok (.goto (-49), 3) := by decide +kernel
theorem dX8_fill_62 : decode cX8_fill 62 = .ok (.iinc 2 1, 3) := by decide +kernel
theorem dX8_fill_65 : decode cX8_fill 65 = .ok (.goto (-63), 3) := by decide +kernel
theorem dX8_fill_68 : decode cX8_fill 68 = .ok (.aload_n 0, 1) := by decide +kernel
theorem dX8_fill_69 : decode cX8_fill 69 = .ok (.getfield 16, 3) := by decide +kernel
theorem dX8_fill_72 : decode cX8_fill 72 = .ok (.iconst 1, 1) := by decide +kernel
theorem dX8_fill_73 : decode cX8_fill 73 = .ok (.iaload, 1) := by decide +kernel
theorem dX8_fill_74 : decode cX8_fill 74 = .ok (.istore_n 2, 1) := by decide +kernel
theorem dX8_fill_75 : decode cX8_fill 75 = .ok (.iconst 2, 1) := by decide +kernel
theorem dX8_fill_76 : decode cX8_fill 76 = .ok (.iload_n 2, 1) := by decide +kernel
theorem dX8_fill_77 : decode cX8_fill 77 = .ok (.imul, 1) := by decide +kernel
theorem dX8_fill_78 : decode cX8_fill 78 = .ok (.istore_n 3, 1) := by decide +kernel
theorem dX8_fill_79 : decode cX8_fill 79 = .ok (.iload_n 3, 1) := by decide +kernel
theorem dX8_fill_80 : decode cX8_fill 80 = .ok (.ifCond .lt 294, 3) := by decide +kernel
theorem dX8_fill_83 : decode cX8_fill 83 = .ok (.iconst 0, 1) := by decide +kernel
theorem dX8_fill_84 : decode cX8_fill 84 = .ok (.iload_n 3, 1) := by decide +kernel
theorem dX8_fill_85 : decode cX8_fill 85 = .ok (.iload_n 2, 1) := by decide +kernel
theorem dX8_fill_86 : decode cX8_fill 86 = .ok (.isub, 1) := by decide +kernel
theorem dX8_fill_87 : decode cX8_fill 87 = .ok (.invokestatic 171, 3) := by decide +kernel
theorem dX8_fill_90 : decode cX8_fill 90 = .ok (.istore 4, 2) := by decide +kernel
theorem dX8_fill_92 : decode cX8_fill 92 = .ok (.iload 4, 2) := by decide +kernel
theorem dX8_fill_94 : decode cX8_fill 94 = .ok (.iload_n 2, 1) := by decide +kernel
theorem dX8_fill_95 : decode cX8_fill 95 = .ok (.iload_n 3, 1) := by decide +kernel
theorem dX8_fill_96 : decode cX8_fill 96 = .ok (.invokestatic 147, 3) := by decide +kernel
theorem dX8_fill_99 : decode cX8_fill 99 = .ok (.if_icmp .gt 269, 3) := by decide +kernel
theorem dX8_fill_102 : decode cX8_fill 102 = .ok (.iload_n 3, 1) := by decide +kernel
theorem dX8_fill_103 : decode cX8_fill 103 = .ok (.iload 4, 2) := by decide +kernel
theorem dX8_fill_105 : decode cX8_fill 105 = .ok (.isub, 1) := by decide +kernel
theorem dX8_fill_106 : decode cX8_fill 106 = .ok (.istore 5, 2) := by decide +kernel
theorem dX8_fill_108 : decode cX8_fill 108 = .ok (.aload_n 0, 1) := by decide +kernel
theorem dX8_fill_109 : decode cX8_fill 109 = .ok (.iload 4, 2) := by decide +kernel
theorem dX8_fill_111 : decode cX8_fill 111 = .ok (.iload 5, 2) := by decide +kernel
theorem dX8_fill_113 : decode cX8_fill 113 = .ok (.iload_n 1, 1) := by decide +kernel
theorem dX8_fill_114 : decode cX8_fill 114 = .ok (.invokevirtual 110, 3) := by decide +kernel
theorem dX8_fill_117 : decode cX8_fill 117 = .ok (.ifCond .eq 9, 3) := by decide +kernel
theorem dX8_fill_120 : decode cX8_fill 120 = .ok (.ldc2_w 180, 3) := by decide +kernel
theorem dX8_fill_123 : decode cX8_fill 123 = .ok (.goto 22, 3) := by decide +kernel
theorem dX8_fill_126 : decode cX8_fill 126 = .ok (.aload_n 0, 1) := by decide +kernel
theorem dX8_fill_127 : decode cX8_fill 127 = .ok (.iload 5, 2) := by decide +kernel
theorem dX8_fill_129 : decode cX8_fill 129 = .ok (.iload 4, 2) := by decide +kernel
theorem dX8_fill_131 : decode cX8_fill 131 = .ok (.iload_n 1, 1) := by decide +kernel
theorem dX8_fill_132 : decode cX8_fill 132 = .ok (.invokevirtual 110, 3) := by decide +kernel
theorem dX8_fill_135 : decode cX8_fill 135 = .ok (.ifCond .eq 7, 3) := by decide +kernel
theorem dX8_fill_138 : decode cX8_fill 138 = .ok (.lconst 0, 1) := by decide +kernel
theorem dX8_fill_139 : decode cX8_fill 139 = .ok (.goto 6, 3) := by decide +kernel
theorem dX8_fill_142 : decode cX8_fill 142 = .ok (.ldc2_w 182, 3) := by decide +kernel
theorem dX8_fill_145 : decode cX8_fill 145 = .ok (.lstore 6, 2) := by decide +kernel
theorem dX8_fill_147 : decode cX8_fill 147 = .ok (.iconst 0, 1) := by decide +kernel
theorem dX8_fill_148 : decode cX8_fill 148 = .ok (.istore 8, 2) := by decide +kernel
theorem dX8_fill_150 : decode cX8_fill 150 = .ok (.iload 8, 2) := by decide +kernel
theorem dX8_fill_152 : decode cX8_fill 152 = .ok (.bipush 6, 2) := by decide +kernel
theorem dX8_fill_154 : decode cX8_fill 154 = .ok (.if_icmp .ge 208, 3) := by decide +kernel
theorem dX8_fill_157 : decode cX8_fill 157 = .ok (.iconst 0, 1) := by decide +kernel
theorem dX8_fill_158 : decode cX8_fill 158 = .ok (.istore 9, 2) := by decide +kernel
theorem dX8_fill_160 : decode cX8_fill 160 = .ok (.iload 9, 2) := by decide +kernel
theorem dX8_fill_162 : decode cX8_fill 162 = .ok (.bipush 6, 2) := by decide +kernel
theorem dX8_fill_164 : decode cX8_fill 164 = .ok (.if_icmp .ge 192, 3) := by decide +kernel
theorem dX8_fill_167 : decode cX8_fill 167 = .ok (.aload_n 0, 1) := by decide +kernel
theorem dX8_fill_168 : decode cX8_fill 168 = .ok (.getfield 52, 3) := by decide +kernel
theorem dX8_fill_171 : decode cX8_fill 171 = .ok (.iload 4, 2) := by decide +kernel
theorem dX8_fill_173 : decode cX8_fill 173 = .ok (.iload 5, 2) := by decide +kernel
theorem dX8_fill_175 : decode cX8_fill 175 = .ok (.iconst 0, 1) := by decide +kernel
theorem dX8_fill_176 : decode cX8_fill 176 = .ok (.iload 8, 2) := by decide +kernel
theorem dX8_fill_178 : decode cX8_fill 178 = .ok (.iload 9, 2) := by decide +kernel
theorem dX8_fill_180 : decode cX8_fill 180 = .ok (.invokestatic 184, 3) := by decide +kernel
theorem dX8_fill_183 : decode cX8_fill 183 = .ok (.lload 6, 2) := by decide +kernel
theorem dX8_fill_185 : decode cX8_fill 185 = .ok (.ldc2_w 182, 3) := by decide +kernel
theorem dX8_fill_188 : decode cX8_fill 188 = .ok (.lcmp, 1) := by decide +kernel
theorem dX8_fill_189 : decode cX8_fill 189 = .ok (.ifCond .eq 8, 3) := by decide +kernel
theorem dX8_fill_192 : decode cX8_fill 192 = .ok (.lload 6, 2) := by decide +kernel
theorem dX8_fill_194 : decode cX8_fill 194 = .ok (.goto 62, 3) := by decide +kernel
theorem dX8_fill_197 : decode cX8_fill 197 = .ok (.aload_n 0, 1) := by decide +kernel
theorem dX8_fill_198 : decode cX8_fill 198 = .ok (.getfield 48, 3) := by decide +kernel
theorem dX8_fill_201 : decode cX8_fill 201 = .ok (.iload 8, 2) := by decide +kernel
theorem dX8_fill_203 : decode cX8_fill 203 = .ok (.bipush 6, 2) := by decide +kernel
theorem dX8_fill_205 : decode cX8_fill 205 = .ok (.imul, 1) := by decide +kernel
theorem dX8_fill_206 : decode cX8_fill 206 = .ok (.iload 9, 2) := by decide +kernel
theorem dX8_fill_208 : decode cX8_fill 208 = .ok (.iadd, 1) := by decide +kernel
theorem dX8_fill_209 : decode cX8_fill 209 = .ok (.iaload, 1) := by decide +kernel
theorem dX8_fill_210 : decode cX8_fill 210 = .ok (.aload_n 0, 1) := by decide +kernel
theorem dX8_fill_211 : decode cX8_fill 211 = .ok (.getfield 52, 3) := by decide +kernel
theorem dX8_fill_214 : decode cX8_fill 214 = .ok (.iload 4, 2) := by decide +kernel
theorem dX8_fill_216 : decode cX8_fill 216 = .ok (.iconst 1, 1) := by decide +kernel
theorem dX8_fill_217 : decode cX8_fill 217 = .ok (.iadd, 1) := by decide +kernel
theorem dX8_fill_218 : decode cX8_fill 218 = .ok (.iload 5, 2) := by decide +kernel
theorem dX8_fill_220 : decode cX8_fill 220 = .ok (.iconst 0, 1) := by decide +kernel
theorem dX8_fill_221 : decode cX8_fill 221 = .ok (.iload 8, 2) := by decide +kernel
theorem dX8_fill_223 : decode cX8_fill 223 = .ok (.iload 9, 2) := by decide +kernel
theorem dX8_fill_225 : decode cX8_fill 225 = .ok (.invokestatic 184, 3) := by decide +kernel
theorem dX8_fill_228 : decode cX8_fill 228 = .ok (.laload, 1) := by decide +kernel
theorem dX8_fill_229 : decode cX8_fill 229 = .ok (.aload_n 0, 1) := by decide +kernel
theorem dX8_fill_230 : decode cX8_fill 230 = .ok (.getfield 52, 3) := by decide +kernel
theorem dX8_fill_233 : decode cX8_fill 233 = .ok (.iload 4, 2) := by decide +kernel
theorem dX8_fill_235 : decode cX8_fill 235 = .ok (.iload 5, 2) := by decide +kernel
theorem dX8_fill_237 : decode cX8_fill 237 = .ok (.iconst 1, 1) := by decide +kernel
theorem dX8_fill_238 : decode cX8_fill 238 = .ok (.iadd, 1) := by decide +kernel
theorem dX8_fill_239 : decode cX8_fill 239 = .ok (.iconst 1, 1) := by decide +kernel
theorem dX8_fill_240 : decode cX8_fill 240 = .ok (.iload 8, 2) := by decide +kernel
theorem dX8_fill_242 : decode cX8_fill 242 = .ok (.iload 9, 2) := by decide +kernel
theorem dX8_fill_244 : decode cX8_fill 244 = .ok (.iconst 1, 1) := by decide +kernel
theorem dX8_fill_245 : decode cX8_fill 245 = .ok (.iadd, 1) := by decide +kernel
theorem dX8_fill_246 : decode cX8_fill 246 = .ok (.bipush 6, 2) := by decide +kernel
theorem dX8_fill_248 : decode cX8_fill 248 = .ok (.irem, 1) := by decide +kernel
theorem dX8_fill_249 : decode cX8_fill 249 = .ok (.invokestatic 184, 3) := by decide +kernel
theorem dX8_fill_252 : decode cX8_fill 252 = .ok (.laload, 1) := by decide +kernel
theorem dX8_fill_253 : decode cX8_fill 253 = .ok (.invokestatic 188, 3) := by decide +kernel
theorem dX8_fill_256 : decode cX8_fill 256 = .ok (.lastore, 1) := by decide +kernel
theorem dX8_fill_257 : decode cX8_fill 257 = .ok (.aload_n 0, 1) := by decide +kernel
theorem dX8_fill_258 : decode cX8_fill 258 = .ok (.getfield 52, 3) := by decide +kernel
theorem dX8_fill_261 : decode cX8_fill 261 = .ok (.iload 4, 2) := by decide +kernel
theorem dX8_fill_263 : decode cX8_fill 263 = .ok (.iload 5, 2) := by decide +kernel
theorem dX8_fill_265 : decode cX8_fill 265 = .ok (.iconst 1, 1) := by decide +kernel
theorem dX8_fill_266 : decode cX8_fill 266 = .ok (.iload 8, 2) := by decide +kernel
theorem dX8_fill_268 : decode cX8_fill 268 = .ok (.iload 9, 2) := by decide +kernel
theorem dX8_fill_270 : decode cX8_fill 270 = .ok (.invokestatic 184, 3) := by decide +kernel
theorem dX8_fill_273 : decode cX8_fill 273 = .ok (.lload 6, 2) := by decide +kernel
theorem dX8_fill_275 : decode cX8_fill 275 = .ok (.ldc2_w 182, 3) := by decide +kernel
theorem dX8_fill_278 : decode cX8_fill 278 = .ok (.lcmp, 1) := by decide +kernel
theorem dX8_fill_279 : decode cX8_fill 279 = .ok (.ifCond .eq 8, 3) := by decide +kernel
theorem dX8_fill_282 : decode cX8_fill 282 = .ok (.lload 6, 2) := by decide +kernel
theorem dX8_fill_284 : decode cX8_fill 284 = .ok (.goto 65, 3) := by decide +kernel
theorem dX8_fill_287 : decode cX8_fill 287 = .ok (.aload_n 0, 1) := by decide +kernel
theorem dX8_fill_288 : decode cX8_fill 288 = .ok (.getfield 48, 3) := by decide +kernel
theorem dX8_fill_291 : decode cX8_fill 291 = .ok (.bipush 6, 2) := by decide +kernel
theorem dX8_fill_293 : decode cX8_fill 293 = .ok (.iload 8, 2) := by decide +kernel
theorem dX8_fill_295 : decode cX8_fill 295 = .ok (.iadd, 1) := by decide +kernel
theorem dX8_fill_296 : decode cX8_fill 296 = .ok (.bipush 6, 2) := by decide +kernel
theorem dX8_fill_298 : decode cX8_fill 298 = .ok (.imul, 1) := by decide +kernel
theorem dX8_fill_299 : decode cX8_fill 299 = .ok (.iload 9, 2) := by decide +kernel
theorem dX8_fill_301 : decode cX8_fill 301 = .ok (.iadd, 1) := by decide +kernel
theorem dX8_fill_302 : decode cX8_fill 302 = .ok (.iaload, 1) := by decide +kernel
theorem dX8_fill_303 : decode cX8_fill 303 = .ok (.aload_n 0, 1) := by decide +kernel
theorem dX8_fill_304 : decode cX8_fill 304 = .ok (.getfield 52, 3) := by decide +kernel
theorem dX8_fill_307 : decode cX8_fill 307 = .ok (.iload 4, 2) := by decide +kernel
theorem dX8_fill_309 : decode cX8_fill 309 = .ok (.iload 5, 2) := by decide +kernel
theorem dX8_fill_311 : decode cX8_fill 311 = .ok (.iconst 1, 1) := by decide +kernel
theorem dX8_fill_312 : decode cX8_fill 312 = .ok (.iadd, 1) := by decide +kernel
theorem dX8_fill_313 : decode cX8_fill 313 = .ok (.iconst 1, 1) := by decide +kernel
theorem dX8_fill_314 : decode cX8_fill 314 = .ok (.iload 8, 2) := by decide +kernel
theorem dX8_fill_316 : decode cX8_fill 316 = .ok (.iload 9, 2) := by decide +kernel
theorem dX8_fill_318 : decode cX8_fill 318 = .ok (.invokestatic 184, 3) := by decide +kernel
theorem dX8_fill_321 : decode cX8_fill 321 = .ok (.laload, 1) := by decide +kernel
theorem dX8_fill_322 : decode cX8_fill 322 = .ok (.aload_n 0, 1) := by decide +kernel
theorem dX8_fill_323 : decode cX8_fill 323 = .ok (.getfield 52, 3) := by decide +kernel
theorem dX8_fill_326 : decode cX8_fill 326 = .ok (.iload 4, 2) := by decide +kernel
theorem dX8_fill_328 : decode cX8_fill 328 = .ok (.iconst 1, 1) := by decide +kernel
theorem dX8_fill_329 : decode cX8_fill 329 = .ok (.iadd, 1) := by decide +kernel
theorem dX8_fill_330 : decode cX8_fill 330 = .ok (.iload 5, 2) := by decide +kernel
theorem dX8_fill_332 : decode cX8_fill 332 = .ok (.iconst 0, 1) := by decide +kernel
theorem dX8_fill_333 : decode cX8_fill 333 = .ok (.iload 8, 2) := by decide +kernel
theorem dX8_fill_335 : decode cX8_fill 335 = .ok (.iconst 1, 1) := by decide +kernel
theorem dX8_fill_336 : decode cX8_fill 336 = .ok (.iadd, 1) := by decide +kernel
theorem dX8_fill_337 : decode cX8_fill 337 = .ok (.bipush 6, 2) := by decide +kernel
theorem dX8_fill_339 : decode cX8_fill 339 = .ok (.irem, 1) := by decide +kernel
theorem dX8_fill_340 : decode cX8_fill 340 = .ok (.iload 9, 2) := by decide +kernel
theorem dX8_fill_342 : decode cX8_fill 342 = .ok (.invokestatic 184, 3) := by decide +kernel
theorem dX8_fill_345 : decode cX8_fill 345 = .ok (.laload, 1) := by decide +kernel
theorem dX8_fill_346 : decode cX8_fill 346 = .ok (.invokestatic 188, 3) := by decide +kernel
theorem dX8_fill_349 : decode cX8_fill 349 = .ok (.lastore, 1) := by decide +kernel
theorem dX8_fill_350 : decode cX8_fill 350 = .ok (.iinc 9 1, 3) := by decide +kernel
theorem dX8_fill_353 : decode cX8_fill 353 = .ok (.goto (-193), 3) := by decide +kernel
theorem dX8_fill_356 : decode cX8_fill 356 = .ok (.iinc 8 1, 3) := by decide +kernel
theorem dX8_fill_359 : decode cX8_fill 359 = .ok (.goto (-209), 3) := by decide +kernel
theorem dX8_fill_362 : decode cX8_fill 362 = .ok (.iinc 4 1, 3) := by decide +kernel
theorem dX8_fill_365 : decode cX8_fill 365 = .ok (.goto (-273), 3) := by decide +kernel
theorem dX8_fill_368 : decode cX8_fill 368 = .ok (.iinc 3 (-1), 3) := by decide +kernel
theorem dX8_fill_371 : decode cX8_fill 371 = .ok (.goto (-292), 3) := by decide +kernel
theorem dX8_fill_374 : decode cX8_fill 374 = .ok (.return_, 1) := by decide +kernel
theorem dX8_mean_0 : decode cX8_mean 0 = .ok (.iload_n 0, 1) := by decide +kernel
theorem dX8_mean_1 : decode cX8_mean 1 = .ok (.i2l, 1) := by decide +kernel
theorem dX8_mean_2 : decode cX8_mean 2 = .ok (.lload_n 1, 1) := by decide +kernel
theorem dX8_mean_3 : decode cX8_mean 3 = .ok (.lmul, 1) := by decide +kernel
theorem dX8_mean_4 : decode cX8_mean 4 = .ok (.sipush 1000, 3) := by decide +kernel
theorem dX8_mean_7 : decode cX8_mean 7 = .ok (.iload_n 0, 1) := by decide +kernel
theorem dX8_mean_8 : decode cX8_mean 8 = .ok (.isub, 1) := by decide +kernel
theorem dX8_mean_9 : decode cX8_mean 9 = .ok (.i2l, 1) := by decide +kernel
theorem dX8_mean_10 : decode cX8_mean 10 = .ok (.lload_n 3, 1) := by decide +kernel
theorem dX8_mean_11 : decode cX8_mean 11 = .ok (.lmul, 1) := by decide +kernel
theorem dX8_mean_12 : decode cX8_mean 12 = .ok (.ladd, 1) := by decide +kernel
theorem dX8_mean_13 : decode cX8_mean 13 = .ok (.ldc2_w 192, 3) := by decide +kernel
theorem dX8_mean_16 : decode cX8_mean 16 = .ok (.ldiv, 1) := by decide +kernel
theorem dX8_mean_17 : decode cX8_mean 17 = .ok (.lreturn, 1) := by decide +kernel
theorem dX8_now_0 : decode cX8_now 0 = .ok (.aload_n 0, 1) := by decide +kernel
theorem dX8_now_1 : decode cX8_now 1 = .ok (.getfield 52, 3) := by decide +kernel
theorem dX8_now_4 : decode cX8_now 4 = .ok (.aload_n 0, 1) := by decide +kernel
theorem dX8_now_5 : decode cX8_now 5 = .ok (.iconst 0, 1) := by decide +kernel
theorem dX8_now_6 : decode cX8_now 6 = .ok (.iconst 0, 1) := by decide +kernel
theorem dX8_now_7 : decode cX8_now 7 = .ok (.invokevirtual 95, 3) := by decide +kernel
theorem dX8_now_10 : decode cX8_now 10 = .ok (.aload_n 0, 1) := by decide +kernel
theorem dX8_now_11 : decode cX8_now 11 = .ok (.iconst 1, 1) := by decide +kernel
theorem dX8_now_12 : decode cX8_now 12 = .ok (.iconst 0, 1) := by decide +kernel
theorem dX8_now_13 : decode cX8_now 13 = .ok (.invokevirtual 95, 3) := by decide +kernel
theorem dX8_now_16 : decode cX8_now 16 = .ok (.aload_n 0, 1) := by decide +kernel
theorem dX8_now_17 : decode cX8_now 17 = .ok (.getfield 26, 3) := by decide +kernel
theorem dX8_now_20 : decode cX8_now 20 = .ok (.iconst 2, 1) := by decide +kernel
theorem dX8_now_21 : decode cX8_now 21 = .ok (.iaload, 1) := by decide +kernel
theorem dX8_now_22 : decode cX8_now 22 = .ok (.iconst 0, 1) := by decide +kernel
theorem dX8_now_23 : decode cX8_now 23 = .ok (.iconst 0, 1) := by decide +kernel
theorem dX8_now_24 : decode cX8_now 24 = .ok (.invokestatic 184, 3) := by decide +kernel
theorem dX8_now_27 : decode cX8_now 27 = .ok (.laload, 1) := by decide +kernel
theorem dX8_now_28 : decode cX8_now 28 = .ok (.l2i, 1) := by decide +kernel
theorem dX8_now_29 : decode cX8_now 29 = .ok (.ireturn, 1) := by decide +kernel
theorem dX8_chance_0 : decode cX8_chance 0 = .ok (.aload_n 0, 1) := by decide +kernel
theorem dX8_chance_1 : decode cX8_chance 1 = .ok (.iconst 0, 1) := by decide +kernel
theorem dX8_chance_2 : decode cX8_chance 2 = .ok (.putfield 63, 3) := by decide +kernel
theorem dX8_chance_5 : decode cX8_chance 5 = .ok (.aload_n 0, 1) := by decide +kernel
theorem dX8_chance_6 : decode cX8_chance 6 = .ok (.invokevirtual 82, 3) := by decide +kernel
theorem dX8_chance_9 : decode cX8_chance 9 = .ok (.ifCond .ne 5, 3) := by decide +kernel
theorem dX8_chance_12 : decode cX8_chance 12 = .ok (.iconst (-1), 1) := by decide +kernel
theorem dX8_chance_13 : decode cX8_chance 13 = .ok (.ireturn, 1) := by decide +kernel
theorem dX8_chance_14 : decode cX8_chance 14 = .ok (.aload_n 0, 1) := by decide +kernel
theorem dX8_chance_15 : decode cX8_chance 15 = .ok (.invokevirtual 174, 3) := by decide +kernel
theorem dX8_chance_18 : decode cX8_chance 18 = .ok (.aload_n 0, 1) := by decide +kernel
theorem dX8_chance_19 : decode cX8_chance 19 = .ok (.aload_n 0, 1) := by decide +kernel
theorem dX8_chance_20 : decode cX8_chance 20 = .ok (.invokevirtual 102, 3) := by decide +kernel
theorem dX8_chance_23 : decode cX8_chance 23 = .ok (.invokevirtual 194, 3) := by decide +kernel
theorem dX8_chance_26 : decode cX8_chance 26 = .ok (.aload_n 0, 1) := by decide +kernel
theorem dX8_chance_27 : decode cX8_chance 27 = .ok (.invokevirtual 197, 3) := by decide +kernel
theorem dX8_chance_30 : decode cX8_chance 30 = .ok (.ireturn, 1) := by decide +kernel
theorem dX8_weight_0 : decode cX8_weight 0 = .ok (.aload_n 0, 1) := by decide +kernel
theorem dX8_weight_1 : decode cX8_weight 1 = .ok (.iconst 0, 1) := by decide +kernel
theorem dX8_weight_2 : decode cX8_weight 2 = .ok (.putfield 63, 3) := by decide +kernel
theorem dX8_weight_5 : decode cX8_weight 5 = .ok (.aload_n 0, 1) := by decide +kernel
theorem dX8_weight_6 : decode cX8_weight 6 = .ok (.invokevirtual 82, 3) := by decide +kernel
theorem dX8_weight_9 : decode cX8_weight 9 = .ok (.ifCond .ne 5, 3) := by decide +kernel
theorem dX8_weight_12 : decode cX8_weight 12 = .ok (.iconst (-1), 1) := by decide +kernel
theorem dX8_weight_13 : decode cX8_weight 13 = .ok (.ireturn, 1) := by decide +kernel
theorem dX8_weight_14 : decode cX8_weight 14 = .ok (.aload_n 0, 1) := by decide +kernel
theorem dX8_weight_15 : decode cX8_weight 15 = .ok (.invokevirtual 174, 3) := by decide +kernel
theorem dX8_weight_18 : decode cX8_weight 18 = .ok (.aload_n 0, 1) := by decide +kernel
theorem dX8_weight_19 : decode cX8_weight 19 = .ok (.aload_n 0, 1) := by decide +kernel
theorem dX8_weight_20 : decode cX8_weight 20 = .ok (.invokevirtual 102, 3) := by decide +kernel
theorem dX8_weight_23 : decode cX8_weight 23 = .ok (.invokevirtual 194, 3) := by decide +kernel
theorem dX8_weight_26 : decode cX8_weight 26 = .ok (.aload_n 0, 1) := by decide +kernel
theorem dX8_weight_27 : decode cX8_weight 27 = .ok (.iconst 0, 1) := by decide +kernel
theorem dX8_weight_28 : decode cX8_weight 28 = .ok (.iconst 0, 1) := by decide +kernel
theorem dX8_weight_29 : decode cX8_weight 29 = .ok (.invokevirtual 95, 3) := by decide +kernel
theorem dX8_weight_32 : decode cX8_weight 32 = .ok (.istore_n 1, 1) := by decide +kernel
theorem dX8_weight_33 : decode cX8_weight 33 = .ok (.aload_n 0, 1) := by decide +kernel
theorem dX8_weight_34 : decode cX8_weight 34 = .ok (.iconst 1, 1) := by decide +kernel
theorem dX8_weight_35 : decode cX8_weight 35 = .ok (.iconst 0, 1) := by decide +kernel
theorem dX8_weight_36 : decode cX8_weight 36 = .ok (.invokevirtual 95, 3) := by decide +kernel
theorem dX8_weight_39 : decode cX8_weight 39 = .ok (.istore_n 2, 1) := by decide +kernel
theorem dX8_weight_40 : decode cX8_weight 40 = .ok (.aload_n 0, 1) := by decide +kernel
theorem dX8_weight_41 : decode cX8_weight 41 = .ok (.getfield 26, 3) := by decide +kernel
theorem dX8_weight_44 : decode cX8_weight 44 = .ok (.iconst 2, 1) := by decide +kernel
theorem dX8_weight_45 : decode cX8_weight 45 = .ok (.iaload, 1) := by decide +kernel
theorem dX8_weight_46 : decode cX8_weight 46 = .ok (.ifCond .ne 7, 3) := by decide +kernel
theorem dX8_weight_49 : decode cX8_weight 49 = .ok (.iconst 1, 1) := by decide +kernel
theorem dX8_weight_50 : decode cX8_weight 50 = .ok (.goto 4, 3) := by decide +kernel
theorem dX8_weight_53 : decode cX8_weight 53 = .ok (.iconst 0, 1) := by decide +kernel
theorem dX8_weight_54 : decode cX8_weight 54 = .ok (.istore_n 3, 1) := by decide +kernel
theorem dX8_weight_55 : decode cX8_weight 55 = .ok (.aload_n 0, 1) := by decide +kernel
theorem dX8_weight_56 : decode cX8_weight 56 = .ok (.getfield 52, 3) := by decide +kernel
theorem dX8_weight_59 : decode cX8_weight 59 = .ok (.iload_n 1, 1) := by decide +kernel
theorem dX8_weight_60 : decode cX8_weight 60 = .ok (.iconst 1, 1) := by decide +kernel
theorem dX8_weight_61 : decode cX8_weight 61 = .ok (.iadd, 1) := by decide +kernel
theorem dX8_weight_62 : decode cX8_weight 62 = .ok (.iload_n 2, 1) := by decide +kernel
theorem dX8_weight_63 : decode cX8_weight 63 = .ok (.iconst 0, 1) := by decide +kernel
theorem dX8_weight_64 : decode cX8_weight 64 = .ok (.iload_n 3, 1) := by decide +kernel
theorem dX8_weight_65 : decode cX8_weight 65 = .ok (.ifCond .eq 7, 3) := by decide +kernel
theorem dX8_weight_68 : decode cX8_weight 68 = .ok (.iconst 0, 1) := by decide +kernel
theorem dX8_weight_69 : decode cX8_weight 69 = .ok (.goto 4, 3) := by decide +kernel
theorem dX8_weight_72 : decode cX8_weight 72 = .ok (.iconst 1, 1) := by decide +kernel
theorem dX8_weight_73 : decode cX8_weight 73 = .ok (.iconst 0, 1) := by decide +kernel
theorem dX8_weight_74 : decode cX8_weight 74 = .ok (.invokestatic 184, 3) := by decide +kernel
theorem dX8_weight_77 : decode cX8_weight 77 = .ok (.laload, 1) := by decide +kernel
theorem dX8_weight_78 : decode cX8_weight 78 = .ok (.lstore 4, 2) := by decide +kernel
theorem dX8_weight_80 : decode cX8_weight 80 = .ok (.aload_n 0, 1) := by decide +kernel
theorem dX8_weight_81 : decode cX8_weight 81 = .ok (.getfield 52, 3) := by decide +kernel
theorem dX8_weight_84 : decode cX8_weight 84 = .ok (.iload_n 1, 1) := by decide +kernel
theorem dX8_weight_85 : decode cX8_weight 85 = .ok (.iload_n 2, 1) := by decide +kernel
theorem dX8_weight_86 : decode cX8_weight 86 = .ok (.iconst 1, 1) := by decide +kernel
theorem dX8_weight_87 : decode cX8_weight 87 = .ok (.iadd, 1) := by decide +kernel
theorem dX8_weight_88 : decode cX8_weight 88 = .ok (.iconst 1, 1) := by decide +kernel
theorem dX8_weight_89 : decode cX8_weight 89 = .ok (.iconst 0, 1) := by decide +kernel
theorem dX8_weight_90 : decode cX8_weight 90 = .ok (.iload_n 3, 1) := by decide +kernel
theorem dX8_weight_91 : decode cX8_weight 91 = .ok (.ifCond .eq 7, 3) := by decide +kernel
theorem dX8_weight_94 : decode cX8_weight 94 = .ok (.iconst 1, 1) := by decide +kernel
theorem dX8_weight_95 : decode cX8_weight 95 = .ok (.goto 4, 3) := by decide +kernel
theorem dX8_weight_98 : decode cX8_weight 98 = .ok (.iconst 0, 1) := by decide +kernel
theorem dX8_weight_99 : decode cX8_weight 99 = .ok (.invokestatic 184, 3) := by decide +kernel
theorem dX8_weight_102 : decode cX8_weight 102 = .ok (.laload, 1) := by decide +kernel
theorem dX8_weight_103 : decode cX8_weight 103 = .ok (.lstore 6, 2) := by decide +kernel
theorem dX8_weight_105 : decode cX8_weight 105 = .ok (.lload 4, 2) := by decide +kernel
theorem dX8_weight_107 : decode cX8_weight 107 = .ok (.lload 6, 2) := by decide +kernel
theorem dX8_weight_109 : decode cX8_weight 109 = .ok (.lsub, 1) := by decide +kernel
theorem dX8_weight_110 : decode cX8_weight 110 = .ok (.l2i, 1) := by decide +kernel
theorem dX8_weight_111 : decode cX8_weight 111 = .ok (.ireturn, 1) := by decide +kernel
theorem dX8_turn__0 : decode cX8_turn_ 0 = .ok (.aload_n 0, 1) := by decide +kernel
theorem dX8_turn__1 : decode cX8_turn_ 1 = .ok (.iconst 0, 1) := by decide +kernel
theorem dX8_turn__2 : decode cX8_turn_ 2 = .ok (.putfield 63, 3) := by decide +kernel
theorem dX8_turn__5 : decode cX8_turn_ 5 = .ok (.iload_n 1, 1) := by decide +kernel
theorem dX8_turn__6 : decode cX8_turn_ 6 = .ok (.invokestatic 71, 3) := by decide +kernel
theorem dX8_turn__9 : decode cX8_turn_ 9 = .ok (.ifCond .eq 35, 3) := by decide +kernel
theorem dX8_turn__12 : decode cX8_turn_ 12 = .ok (.iload_n 2, 1) := by decide +kernel
theorem dX8_turn__13 : decode cX8_turn_ 13 = .ok (.invokestatic 71, 3) := by decide +kernel
theorem dX8_turn__16 : decode cX8_turn_ 16 = .ok (.ifCond .eq 28, 3) := by decide +kernel
theorem dX8_turn__19 : decode cX8_turn_ 19 = .ok (.aload_n 0, 1) := by decide +kernel
theorem dX8_turn__20 : decode cX8_turn_ 20 = .ok (.invokevirtual 82, 3) := by decide +kernel
theorem dX8_turn__23 : decode cX8_turn_ 23 = .ok (.ifCond .ne 21, 3) := by decide +kernel
theorem dX8_turn__26 : decode cX8_turn_ 26 = .ok (.aload_n 0, 1) := by decide +kernel
theorem dX8_turn__27 : decode cX8_turn_ 27 = .ok (.getfield 22, 3) := by decide +kernel
theorem dX8_turn__30 : decode cX8_turn_ 30 = .ok (.iconst 0, 1) := by decide +kernel
theorem dX8_turn__31 : decode cX8_turn_ 31 = .ok (.baload, 1) := by decide +kernel
theorem dX8_turn__32 : decode cX8_turn_ 32 = .ok (.ifCond .eq 12, 3) := by decide +kernel
theorem dX8_turn__35 : decode cX8_turn_ 35 = .ok (.aload_n 0, 1) := by decide +kernel
theorem dX8_turn__36 : decode cX8_turn_ 36 = .ok (.getfield 22, 3) := by decide +kernel
theorem dX8_turn__39 : decode cX8_turn_ 39 = .ok (.iconst 1, 1) := by decide +kernel
theorem dX8_turn__40 : decode cX8_turn_ 40 = .ok (.baload, 1) := by decide +kernel
theorem dX8_turn__41 : decode cX8_turn_ 41 = .ok (.ifCond .ne 5, 3) := by decide +kernel
theorem dX8_turn__44 : decode cX8_turn_ 44 = .ok (.iconst (-1), 1) := by decide +kernel
theorem dX8_turn__45 : decode cX8_turn_ 45 = .ok (.ireturn, 1) := by decide +kernel
theorem dX8_turn__46 : decode cX8_turn_ 46 = .ok (.iconst (-1), 1) := by decide +kernel
theorem dX8_turn__47 : decode cX8_turn_ 47 = .ok (.istore_n 3, 1) := by decide +kernel
theorem dX8_turn__48 : decode cX8_turn_ 48 = .ok (.lconst 0, 1) := by decide +kernel
theorem dX8_turn__49 : decode cX8_turn_ 49 = .ok (.lstore 4, 2) := by decide +kernel
theorem dX8_turn__51 : decode cX8_turn_ 51 = .ok (.iconst 0, 1) := by decide +kernel
theorem dX8_turn__52 : decode cX8_turn_ 52 = .ok (.istore 6, 2) := by decide +kernel
theorem dX8_turn__54 : decode cX8_turn_ 54 = .ok (.iload 6, 2) := by decide +kernel
theorem dX8_turn__56 : decode cX8_turn_ 56 = .ok (.bipush 6, 2) := by decide +kernel
theorem dX8_turn__58 : decode cX8_turn_ 58 = .ok (.if_icmp .ge 144, 3) := by decide +kernel
theorem dX8_turn__61 : decode cX8_turn_ 61 = .ok (.iconst 0, 1) := by decide +kernel
theorem dX8_turn__62 : decode cX8_turn_ 62 = .ok (.istore 7, 2) := by decide +kernel
theorem dX8_turn__64 : decode cX8_turn_ 64 = .ok (.iload 7, 2) := by decide +kernel
theorem dX8_turn__66 : decode cX8_turn_ 66 = .ok (.iconst 2, 1) := by decide +kernel
theorem dX8_turn__67 : decode cX8_turn_ 67 = .ok (.if_icmp .ge 68, 3) := by decide +kernel
theorem dX8_turn__70 : decode cX8_turn_ 70 = .ok (.iconst 0, 1) := by decide +kernel
theorem dX8_turn__71 : decode cX8_turn_ 71 = .ok (.istore 8, 2) := by decide +kernel
theorem dX8_turn__73 : decode cX8_turn_ 73 = .ok (.iload 8, 2) := by decide +kernel
theorem dX8_turn__75 : decode cX8_turn_ 75 = .ok (.bipush 6, 2) := by decide +kernel
theorem dX8_turn__77 : decode cX8_turn_ 77 = .ok (.if_icmp .ge 52, 3) := by decide +kernel
theorem dX8_turn__80 : decode cX8_turn_ 80 = .ok (.aload_n 0, 1) := by decide +kernel
theorem dX8_turn__81 : decode cX8_turn_ 81 = .ok (.getfield 45, 3) := by decide +kernel
theorem dX8_turn__84 : decode cX8_turn_ 84 = .ok (.bipush 6, 2) := by decide +kernel
theorem dX8_turn__86 : decode cX8_turn_ 86 = .ok (.iload 7, 2) := by decide +kernel
theorem dX8_turn__88 : decode cX8_turn_ 88 = .ok (.imul, 1) := by decide +kernel
theorem dX8_turn__89 : decode cX8_turn_ 89 = .ok (.iload 8, 2) := by decide +kernel
theorem dX8_turn__91 : decode cX8_turn_ 91 = .ok (.iadd, 1) := by decide +kernel
theorem dX8_turn__92 : decode cX8_turn_ 92 = .ok (.aload_n 0, 1) := by decide +kernel
theorem dX8_turn__93 : decode cX8_turn_ 93 = .ok (.getfield 19, 3) := by decide +kernel
theorem dX8_turn__96 : decode cX8_turn_ 96 = .ok (.bipush 6, 2) := by decide +kernel
theorem dX8_turn__98 : decode cX8_turn_ 98 = .ok (.iload 7, 2) := by decide +kernel
theorem dX8_turn__100 : decode cX8_turn_ 100 = .ok (.imul, 1) := by decide +kernel
theorem dX8_turn__101 : decode cX8_turn_ 101 = .ok (.iload 7, 2) := by decide +kernel
theorem dX8_turn__103 : decode cX8_turn_ 103 = .ok (.iload_n 1, 1) := by decide +kernel
theorem dX8_turn__104 : decode cX8_turn_ 104 = .ok (.if_icmp .ne 14, 3) := by decide +kernel
theorem dX8_turn__107 : decode cX8_turn_ 107 = .ok (.iload 8, 2) := by decide +kernel
theorem dX8_turn__109 : decode cX8_turn_ 109 = .ok (.iload 6, 2) := by decide +kernel
theorem dX8_turn__111 : decode cX8_turn_ 111 = .ok (.iadd, 1) := by decide +kernel
theorem dX8_turn__112 : decode cX8_turn_ 112 = .ok (.bipush 6, 2) := by decide +kernel
theorem dX8_turn__114 : decode cX8_turn_ 114 = .ok (.irem, 1) := by decide +kernel
theorem dX8_turn__115 : decode cX8_turn_ 115 = .ok (.goto 5, 3) := by decide +kernel
theorem dX8_turn__118 : decode cX8_turn_ 118 = .ok (.iload 8, 2) := by decide +kernel
theorem dX8_turn__120 : decode cX8_turn_ 120 = .ok (.iadd, 1) := by decide +kernel
theorem dX8_turn__121 : decode cX8_turn_ 121 = .ok (.iaload, 1) := by decide +kernel
theorem dX8_turn__122 : decode cX8_turn_ 122 = .ok (.iastore, 1) := by decide +kernel
theorem dX8_turn__123 : decode cX8_turn_ 123 = .ok (.iinc 8 1, 3) := by decide +kernel
theorem dX8_turn__126 : decode cX8_turn_ 126 = .ok (.goto (-53), 3) := by decide +kernel
theorem dX8_turn__129 : decode cX8_turn_ 129 = .ok (.iinc 7 1, 3) := by decide +kernel
theorem dX8_turn__132 : decode cX8_turn_ 132 = .ok (.goto (-68), 3) := by decide +kernel
theorem dX8_turn__135 : decode cX8_turn_ 135 = .ok (.aload_n 0, 1) := by decide +kernel
theorem dX8_turn__136 : decode cX8_turn_ 136 = .ok (.aload_n 0, 1) := by decide +kernel
theorem dX8_turn__137 : decode cX8_turn_ 137 = .ok (.invokevirtual 102, 3) := by decide +kernel
theorem dX8_turn__140 : decode cX8_turn_ 140 = .ok (.invokevirtual 194, 3) := by decide +kernel
theorem dX8_turn__143 : decode cX8_turn_ 143 = .ok (.aload_n 0, 1) := by decide +kernel
theorem dX8_turn__144 : decode cX8_turn_ 144 = .ok (.getfield 52, 3) := by decide +kernel
theorem dX8_turn__147 : decode cX8_turn_ 147 = .ok (.iconst 0, 1) := by decide +kernel
theorem dX8_turn__148 : decode cX8_turn_ 148 = .ok (.iconst 0, 1) := by decide +kernel
theorem dX8_turn__149 : decode cX8_turn_ 149 = .ok (.iload_n 2, 1) := by decide +kernel
theorem dX8_turn__150 : decode cX8_turn_ 150 = .ok (.iconst 0, 1) := by decide +kernel
theorem dX8_turn__151 : decode cX8_turn_ 151 = .ok (.iconst 0, 1) := by decide +kernel
theorem dX8_turn__152 : decode cX8_turn_ 152 = .ok (.invokestatic 184, 3) := by decide +kernel
theorem dX8_turn__155 : decode cX8_turn_ 155 = .ok (.laload, 1) := by decide +kernel
theorem dX8_turn__156 : decode cX8_turn_ 156 = .ok (.lstore 7, 2) := by decide +kernel
theorem dX8_turn__158 : decode cX8_turn_ 158 = .ok (.iload_n 3, 1) := by decide +kernel
theorem dX8_turn__159 : decode cX8_turn_ 159 = .ok (.iconst (-1), 1) := by decide +kernel
theorem dX8_turn__160 : decode cX8_turn_ 160 = .ok (.if_icmp .eq 29, 3) := by decide +kernel
theorem dX8_turn__163 : decode cX8_turn_ 163 = .ok (.iload_n 1, 1) := by decide +kernel
theorem dX8_turn__164 : decode cX8_turn_ 164 = .ok (.ifCond .ne 14, 3) := by decide +kernel
theorem dX8_turn__167 : decode cX8_turn_ 167 = .ok (.lload 7, 2) := by decide +kernel
theorem dX8_turn__169 : decode cX8_turn_ 169 = .ok (.lload 4, 2) := by decide +kernel
theorem dX8_turn__171 : decode cX8_turn_ 171 = .ok (.lcmp, 1) := by decide +kernel
theorem dX8_turn__172 : decode cX8_turn_ 172 = .ok (.ifCond .gt 17, 3) := by decide +kernel
theorem dX8_turn__175 : decode cX8_turn_ 175 = .ok (.goto 21, 3) := by decide +kernel
theorem dX8_turn__178 : decode cX8_turn_ 178 = .ok (.lload 7, 2) := by decide +kernel
theorem dX8_turn__180 : decode cX8_turn_ 180 = .ok (.lload 4, 2) := by decide +kernel
theorem dX8_turn__182 : decode cX8_turn_ 182 = .ok (.lcmp, 1) := by decide +kernel
theorem dX8_turn__183 : decode cX8_turn_ 183 = .ok (.ifCond .lt 6, 3) := by decide +kernel
theorem dX8_turn__186 : decode cX8_turn_ 186 = .ok (.goto 10, 3) := by decide +kernel
theorem dX8_turn__189 : decode cX8_turn_ 189 = .ok (.iload 6, 2) := by decide +kernel
theorem dX8_turn__191 : decode cX8_turn_ 191 = .ok (.istore_n 3, 1) := by decide +kernel
theorem dX8_turn__192 : decode cX8_turn_ 192 = .ok (.lload 7, 2) := by decide +kernel
theorem dX8_turn__194 : decode cX8_turn_ 194 = .ok (.lstore 4, 2) := by decide +kernel
theorem dX8_turn__196 : decode cX8_turn_ 196 = .ok (.iinc 6 1, 3) := by decide +kernel
theorem dX8_turn__199 : decode cX8_turn_ 199 = .ok (.goto (-145), 3) := by decide +kernel
theorem dX8_turn__202 : decode cX8_turn_ 202 = .ok (.aload_n 0, 1) := by decide +kernel
theorem dX8_turn__203 : decode cX8_turn_ 203 = .ok (.lload 4, 2) := by decide +kernel
theorem dX8_turn__205 : decode cX8_turn_ 205 = .ok (.l2i, 1) := by decide +kernel
theorem dX8_turn__206 : decode cX8_turn_ 206 = .ok (.putfield 200, 3) := by decide +kernel
theorem dX8_turn__209 : decode cX8_turn_ 209 = .ok (.aload_n 0, 1) := by decide +kernel
theorem dX8_turn__210 : decode cX8_turn_ 210 = .ok (.iconst 1, 1) := by decide +kernel
theorem dX8_turn__211 : decode cX8_turn_ 211 = .ok (.putfield 132, 3) := by decide +kernel
theorem dX8_turn__214 : decode cX8_turn_ 214 = .ok (.iload_n 3, 1) := by decide +kernel
theorem dX8_turn__215 : decode cX8_turn_ 215 = .ok (.ireturn, 1) := by decide +kernel
theorem dX8_advice_0 : decode cX8_advice 0 = .ok (.aload_n 0, 1) := by decide +kernel
theorem dX8_advice_1 : decode cX8_advice 1 = .ok (.iconst 0, 1) := by decide +kernel
theorem dX8_advice_2 : decode cX8_advice 2 = .ok (.putfield 63, 3) := by decide +kernel
theorem dX8_advice_5 : decode cX8_advice 5 = .ok (.iload_n 1, 1) := by decide +kernel
theorem dX8_advice_6 : decode cX8_advice 6 = .ok (.invokestatic 71, 3) := by decide +kernel
theorem dX8_advice_9 : decode cX8_advice 9 = .ok (.ifCond .eq 10, 3) := by decide +kernel
theorem dX8_advice_12 : decode cX8_advice 12 = .ok (.aload_n 0, 1) := by decide +kernel
theorem dX8_advice_13 : decode cX8_advice 13 = .ok (.invokevirtual 82, 3) := by decide +kernel
theorem dX8_advice_16 : decode cX8_advice 16 = .ok (.ifCond .ne 5, 3) := by decide +kernel
theorem dX8_advice_19 : decode cX8_advice 19 = .ok (.iconst (-1), 1) := by decide +kernel
theorem dX8_advice_20 : decode cX8_advice 20 = .ok (.ireturn, 1) := by decide +kernel
theorem dX8_advice_21 : decode cX8_advice 21 = .ok (.aload_n 0, 1) := by decide +kernel
theorem dX8_advice_22 : decode cX8_advice 22 = .ok (.invokevirtual 174, 3) := by decide +kernel
theorem dX8_advice_25 : decode cX8_advice 25 = .ok (.aload_n 0, 1) := by decide +kernel
theorem dX8_advice_26 : decode cX8_advice 26 = .ok (.aload_n 0, 1) := by decide +kernel
theorem dX8_advice_27 : decode cX8_advice 27 = .ok (.invokevirtual 102, 3) := by decide +kernel
theorem dX8_advice_30 : decode cX8_advice 30 = .ok (.invokevirtual 194, 3) := by decide +kernel
theorem dX8_advice_33 : decode cX8_advice 33 = .ok (.bipush (-2), 2) := by decide +kernel
theorem dX8_advice_35 : decode cX8_advice 35 = .ok (.istore_n 2, 1) := by decide +kernel
theorem dX8_advice_36 : decode cX8_advice 36 = .ok (.aload_n 0, 1) := by decide +kernel
theorem dX8_advice_37 : decode cX8_advice 37 = .ok (.invokevirtual 197, 3) := by decide +kernel
theorem dX8_advice_40 : decode cX8_advice 40 = .ok (.istore_n 3, 1) := by decide +kernel
theorem dX8_advice_41 : decode cX8_advice 41 = .ok (.iconst 0, 1) := by decide +kernel
theorem dX8_advice_42 : decode cX8_advice 42 = .ok (.istore 4, 2) := by decide +kernel
theorem dX8_advice_44 : decode cX8_advice 44 = .ok (.iload 4, 2) := by decide +kernel
theorem dX8_advice_46 : decode cX8_advice 46 = .ok (.bipush 12, 2) := by decide +kernel
theorem dX8_advice_48 : decode cX8_advice 48 = .ok (.if_icmp .ge 111, 3) := by decide +kernel
theorem dX8_advice_51 : decode cX8_advice 51 = .ok (.iconst 0, 1) := by decide +kernel
theorem dX8_advice_52 : decode cX8_advice 52 = .ok (.istore 5, 2) := by decide +kernel
theorem dX8_advice_54 : decode cX8_advice 54 = .ok (.iload 5, 2) := by decide +kernel
theorem dX8_advice_56 : decode cX8_advice 56 = .ok (.bipush 12, 2) := by decide +kernel
theorem dX8_advice_58 : decode cX8_advice 58 = .ok (.if_icmp .ge 95, 3) := by decide +kernel
theorem dX8_advice_61 : decode cX8_advice 61 = .ok (.aload_n 0, 1) := by decide +kernel
theorem dX8_advice_62 : decode cX8_advice 62 = .ok (.iload_n 1, 1) := by decide +kernel
theorem dX8_advice_63 : decode cX8_advice 63 = .ok (.iload 4, 2) := by decide +kernel
theorem dX8_advice_65 : decode cX8_advice 65 = .ok (.iload 5, 2) := by decide +kernel
theorem dX8_advice_67 : decode cX8_advice 67 = .ok (.invokevirtual 120, 3) := by decide +kernel
theorem dX8_advice_70 : decode cX8_advice 70 = .ok (.ifCond .eq 6, 3) := by decide +kernel
theorem dX8_advice_73 : decode cX8_advice 73 = .ok (.goto 74, 3) := by decide +kernel
theorem dX8_advice_76 : decode cX8_advice 76 = .ok (.aload_n 0, 1) := by decide +kernel
theorem dX8_advice_77 : decode cX8_advice 77 = .ok (.invokevirtual 174, 3) := by decide +kernel
theorem dX8_advice_80 : decode cX8_advice 80 = .ok (.aload_n 0, 1) := by decide +kernel
theorem dX8_advice_81 : decode cX8_advice 81 = .ok (.getfield 45, 3) := by decide +kernel
theorem dX8_advice_84 : decode cX8_advice 84 = .ok (.bipush 6, 2) := by decide +kernel
theorem dX8_advice_86 : decode cX8_advice 86 = .ok (.iload_n 1, 1) := by decide +kernel
theorem dX8_advice_87 : decode cX8_advice 87 = .ok (.imul, 1) := by decide +kernel
theorem dX8_advice_88 : decode cX8_advice 88 = .ok (.aload_n 0, 1) := by decide +kernel
theorem dX8_advice_89 : decode cX8_advice 89 = .ok (.iload_n 1, 1) := by decide +kernel
theorem dX8_advice_90 : decode cX8_advice 90 = .ok (.iload 4, 2) := by decide +kernel
theorem dX8_advice_92 : decode cX8_advice 92 = .ok (.invokevirtual 117, 3) := by decide +kernel
theorem dX8_advice_95 : decode cX8_advice 95 = .ok (.iadd, 1) := by decide +kernel
theorem dX8_advice_96 : decode cX8_advice 96 = .ok (.iload 5, 2) := by decide +kernel
theorem dX8_advice_98 : decode cX8_advice 98 = .ok (.iastore, 1) := by decide +kernel
theorem dX8_advice_99 : decode cX8_advice 99 = .ok (.aload_n 0, 1) := by decide +kernel
theorem dX8_advice_100 : decode cX8_advice 100 = .ok (.aload_n 0, 1) := by decide +kernel
theorem dX8_advice_101 : decode cX8_advice 101 = .ok (.invokevirtual 102, 3) := by decide +kernel
theorem dX8_advice_104 : decode cX8_advice 104 = .ok (.invokevirtual 194, 3) := by decide +kernel
theorem dX8_advice_107 : decode cX8_advice 107 = .ok (.aload_n 0, 1) := by decide +kernel
theorem dX8_advice_108 : decode cX8_advice 108 = .ok (.invokevirtual 197, 3) := by decide +kernel
theorem dX8_advice_111 : decode cX8_advice 111 = .ok (.istore 6, 2) := by decide +kernel
theorem dX8_advice_113 : decode cX8_advice 113 = .ok (.iload_n 1, 1) := by decide +kernel
theorem dX8_advice_114 : decode cX8_advice 114 = .ok (.ifCond .ne 12, 3) := by decide +kernel
theorem dX8_advice_117 : decode cX8_advice 117 = .ok (.iload 6, 2) := by decide +kernel
theorem dX8_advice_119 : decode cX8_advice 119 = .ok (.iload_n 3, 1) := by decide +kernel
theorem dX8_advice_120 : decode cX8_advice 120 = .ok (.if_icmp .gt 15, 3) := by decide +kernel
theorem dX8_advice_123 : decode cX8_advice 123 = .ok (.goto 24, 3) := by decide +kernel
theorem dX8_advice_126 : decode cX8_advice 126 = .ok (.iload 6, 2) := by decide +kernel
theorem dX8_advice_128 : decode cX8_advice 128 = .ok (.iload_n 3, 1) := by decide +kernel
theorem dX8_advice_129 : decode cX8_advice 129 = .ok (.if_icmp .lt 6, 3) := by decide +kernel
theorem dX8_advice_132 : decode cX8_advice 132 = .ok (.goto 15, 3) := by decide +kernel
theorem dX8_advice_135 : decode cX8_advice 135 = .ok (.bipush 12, 2) := by decide +kernel
theorem dX8_advice_137 : decode cX8_advice 137 = .ok (.iload 4, 2) := by decide +kernel
theorem dX8_advice_139 : decode cX8_advice 139 = .ok (.imul, 1) := by decide +kernel
theorem dX8_advice_140 : decode cX8_advice 140 = .ok (.iload 5, 2) := by decide +kernel
theorem dX8_advice_142 : decode cX8_advice 142 = .ok (.iadd, 1) := by decide +kernel
theorem dX8_advice_143 : decode cX8_advice 143 = .ok (.istore_n 2, 1) := by decide +kernel
theorem dX8_advice_144 : decode cX8_advice 144 = .ok (.iload 6, 2) := by decide +kernel
theorem dX8_advice_146 : decode cX8_advice 146 = .ok (.istore_n 3, 1) := by decide +kernel
theorem dX8_advice_147 : decode cX8_advice 147 = .ok (.iinc 5 1, 3) := by decide +kernel
theorem dX8_advice_150 : decode cX8_advice 150 = .ok (.goto (-96), 3) := by decide +kernel
theorem dX8_advice_153 : decode cX8_advice 153 = .ok (.iinc 4 1, 3) := by decide +kernel
theorem dX8_advice_156 : decode cX8_advice 156 = .ok (.goto (-112), 3) := by decide +kernel
theorem dX8_advice_159 : decode cX8_advice 159 = .ok (.iload_n 2, 1) := by decide +kernel
theorem dX8_advice_160 : decode cX8_advice 160 = .ok (.bipush (-2), 2) := by decide +kernel
theorem dX8_advice_162 : decode cX8_advice 162 = .ok (.if_icmp .ne 5, 3) := by decide +kernel
theorem dX8_advice_165 : decode cX8_advice 165 = .ok (.iload_n 2, 1) := by decide +kernel
theorem dX8_advice_166 : decode cX8_advice 166 = .ok (.ireturn, 1) := by decide +kernel
theorem dX8_advice_167 : decode cX8_advice 167 = .ok (.aload_n 0, 1) := by decide +kernel
theorem dX8_advice_168 : decode cX8_advice 168 = .ok (.iload_n 3, 1) := by decide +kernel
theorem dX8_advice_169 : decode cX8_advice 169 = .ok (.putfield 200, 3) := by decide +kernel
theorem dX8_advice_172 : decode cX8_advice 172 = .ok (.aload_n 0, 1) := by decide +kernel
theorem dX8_advice_173 : decode cX8_advice 173 = .ok (.iconst 1, 1) := by decide +kernel
theorem dX8_advice_174 : decode cX8_advice 174 = .ok (.putfield 132, 3) := by decide +kernel
theorem dX8_advice_177 : decode cX8_advice 177 = .ok (.iload_n 2, 1) := by decide +kernel
theorem dX8_advice_178 : decode cX8_advice 178 = .ok (.ireturn, 1) := by decide +kernel
theorem dX8_row_0 : decode cX8_row 0 = .ok (.aload_n 0, 1) := by decide +kernel
theorem dX8_row_1 : decode cX8_row 1 = .ok (.iconst 0, 1) := by decide +kernel
theorem dX8_row_2 : decode cX8_row 2 = .ok (.putfield 63, 3) := by decide +kernel
theorem dX8_row_5 : decode cX8_row 5 = .ok (.iload_n 1, 1) := by decide +kernel
theorem dX8_row_6 : decode cX8_row 6 = .ok (.ifCond .ne 16, 3) := by decide +kernel
theorem dX8_row_9 : decode cX8_row 9 = .ok (.aload_n 0, 1) := by decide +kernel
theorem dX8_row_10 : decode cX8_row 10 = .ok (.getfield 132, 3) := by decide +kernel
theorem dX8_row_13 : decode cX8_row 13 = .ok (.iconst 1, 1) := by decide +kernel
theorem dX8_row_14 : decode cX8_row 14 = .ok (.if_icmp .ne 8, 3) := by decide +kernel
theorem dX8_row_17 : decode cX8_row 17 = .ok (.aload_n 0, 1) := by decide +kernel
theorem dX8_row_18 : decode cX8_row 18 = .ok (.getfield 200, 3) := by decide +kernel
theorem dX8_row_21 : decode cX8_row 21 = .ok (.ireturn, 1) := by decide +kernel
theorem dX8_row_22 : decode cX8_row 22 = .ok (.aload_n 0, 1) := by decide +kernel
theorem dX8_row_23 : decode cX8_row 23 = .ok (.iconst 1, 1) := by decide +kernel
theorem dX8_row_24 : decode cX8_row 24 = .ok (.putfield 63, 3) := by decide +kernel
theorem dX8_row_27 : decode cX8_row 27 = .ok (.iconst 0, 1) := by decide +kernel
theorem dX8_row_28 : decode cX8_row 28 = .ok (.ireturn, 1) := by decide +kernel

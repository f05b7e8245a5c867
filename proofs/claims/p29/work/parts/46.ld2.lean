theorem dL_would_40 : decode cL_would 40 = .ok (.iload_n 3, 1) := by decide +kernel
theorem dL_would_41 : decode cL_would 41 = .ok (.iconst 4, 1) := by decide +kernel
theorem dL_would_42 : decode cL_would 42 = .ok (.if_icmp .ne 7, 3) := by decide +kernel
theorem dL_would_45 : decode cL_would 45 = .ok (.iconst 1, 1) := by decide +kernel
theorem dL_would_46 : decode cL_would 46 = .ok (.goto 4, 3) := by decide +kernel
theorem dL_would_49 : decode cL_would 49 = .ok (.iconst 0, 1) := by decide +kernel
theorem dL_would_50 : decode cL_would 50 = .ok (.istore 6, 2) := by decide +kernel
theorem dL_would_52 : decode cL_would 52 = .ok (.iload 6, 2) := by decide +kernel
theorem dL_would_54 : decode cL_would 54 = .ok (.ifCond .eq 13, 3) := by decide +kernel
theorem dL_would_57 : decode cL_would 57 = .ok (.iload 4, 2) := by decide +kernel
theorem dL_would_59 : decode cL_would 59 = .ok (.bipush (-102), 2) := by decide +kernel
theorem dL_would_61 : decode cL_would 61 = .ok (.if_icmp .ne 55, 3) := by decide +kernel
theorem dL_would_64 : decode cL_would 64 = .ok (.goto 8, 3) := by decide +kernel
theorem dL_would_67 : decode cL_would 67 = .ok (.iload 4, 2) := by decide +kernel
theorem dL_would_69 : decode cL_would 69 = .ok (.ifCond .lt 47, 3) := by decide +kernel
theorem dL_would_72 : decode cL_would 72 = .ok (.iload 5, 2) := by decide +kernel
theorem dL_would_74 : decode cL_would 74 = .ok (.iconst (-1), 1) := by decide +kernel
theorem dL_would_75 : decode cL_would 75 = .ok (.if_icmp .lt 41, 3) := by decide +kernel
theorem dL_would_78 : decode cL_would 78 = .ok (.iload 5, 2) := by decide +kernel
theorem dL_would_80 : decode cL_would 80 = .ok (.sipush 200, 3) := by decide +kernel
theorem dL_would_83 : decode cL_would 83 = .ok (.if_icmp .gt 33, 3) := by decide +kernel
theorem dL_would_86 : decode cL_would 86 = .ok (.iload 5, 2) := by decide +kernel
theorem dL_would_88 : decode cL_would 88 = .ok (.ifCond .ne 7, 3) := by decide +kernel
theorem dL_would_91 : decode cL_would 91 = .ok (.iconst 1, 1) := by decide +kernel
theorem dL_would_92 : decode cL_would 92 = .ok (.goto 4, 3) := by decide +kernel
theorem dL_would_95 : decode cL_would 95 = .ok (.iconst 0, 1) := by decide +kernel
theorem dL_would_96 : decode cL_would 96 = .ok (.aload_n 0, 1) := by decide +kernel
theorem dL_would_97 : decode cL_would 97 = .ok (.iconst 2, 1) := by decide +kernel
theorem dL_would_98 : decode cL_would 98 = .ok (.invokevirtual 76, 3) := by decide +kernel
theorem dL_would_101 : decode cL_would 101 = .ok (.ifCond .ne 7, 3) := by decide +kernel
theorem dL_would_104 : decode cL_would 104 = .ok (.iconst 1, 1) := by decide +kernel
theorem dL_would_105 : decode cL_would 105 = .ok (.goto 4, 3) := by decide +kernel
theorem dL_would_108 : decode cL_would 108 = .ok (.iconst 0, 1) := by decide +kernel
theorem dL_would_109 : decode cL_would 109 = .ok (.if_icmp .ne 7, 3) := by decide +kernel
theorem dL_would_112 : decode cL_would 112 = .ok (.iconst 1, 1) := by decide +kernel
theorem dL_would_113 : decode cL_would 113 = .ok (.goto 4, 3) := by decide +kernel
theorem dL_would_116 : decode cL_would 116 = .ok (.iconst 0, 1) := by decide +kernel
theorem dL_would_117 : decode cL_would 117 = .ok (.ireturn, 1) := by decide +kernel
theorem dL_types_0 : decode cL_types 0 = .ok (.iload_n 1, 1) := by decide +kernel
theorem dL_types_1 : decode cL_types 1 = .ok (.bipush 7, 2) := by decide +kernel
theorem dL_types_3 : decode cL_types 3 = .ok (.invokestatic 102, 3) := by decide +kernel
theorem dL_types_6 : decode cL_types 6 = .ok (.istore_n 2, 1) := by decide +kernel
theorem dL_types_7 : decode cL_types 7 = .ok (.aload_n 0, 1) := by decide +kernel
theorem dL_types_8 : decode cL_types 8 = .ok (.invokevirtual 110, 3) := by decide +kernel
theorem dL_types_11 : decode cL_types 11 = .ok (.ifCond .lt 7, 3) := by decide +kernel
theorem dL_types_14 : decode cL_types 14 = .ok (.iconst 1, 1) := by decide +kernel
theorem dL_types_15 : decode cL_types 15 = .ok (.goto 4, 3) := by decide +kernel
theorem dL_types_18 : decode cL_types 18 = .ok (.iconst 0, 1) := by decide +kernel
theorem dL_types_19 : decode cL_types 19 = .ok (.istore_n 3, 1) := by decide +kernel
theorem dL_types_20 : decode cL_types 20 = .ok (.iconst 0, 1) := by decide +kernel
theorem dL_types_21 : decode cL_types 21 = .ok (.istore 4, 2) := by decide +kernel
theorem dL_types_23 : decode cL_types 23 = .ok (.iload 4, 2) := by decide +kernel
theorem dL_types_25 : decode cL_types 25 = .ok (.iload_n 2, 1) := by decide +kernel
theorem dL_types_26 : decode cL_types 26 = .ok (.if_icmp .ge 206, 3) := by decide +kernel
theorem dL_types_29 : decode cL_types 29 = .ok (.iload_n 1, 1) := by decide +kernel
theorem dL_types_30 : decode cL_types 30 = .ok (.iconst 3, 1) := by decide +kernel
theorem dL_types_31 : decode cL_types 31 = .ok (.iconst 3, 1) := by decide +kernel
theorem dL_types_32 : decode cL_types 32 = .ok (.iload 4, 2) := by decide +kernel
theorem dL_types_34 : decode cL_types 34 = .ok (.imul, 1) := by decide +kernel
theorem dL_types_35 : decode cL_types 35 = .ok (.iadd, 1) := by decide +kernel
theorem dL_types_36 : decode cL_types 36 = .ok (.ishr, 1) := by decide +kernel
theorem dL_types_37 : decode cL_types 37 = .ok (.istore 5, 2) := by decide +kernel
theorem dL_types_39 : decode cL_types 39 = .ok (.iload 5, 2) := by decide +kernel
theorem dL_types_41 : decode cL_types 41 = .ok (.bipush 9, 2) := by decide +kernel
theorem dL_types_43 : decode cL_types 43 = .ok (.invokestatic 102, 3) := by decide +kernel
theorem dL_types_46 : decode cL_types 46 = .ok (.istore 6, 2) := by decide +kernel
theorem dL_types_48 : decode cL_types 48 = .ok (.iload_n 3, 1) := by decide +kernel
theorem dL_types_49 : decode cL_types 49 = .ok (.ifCond .eq 79, 3) := by decide +kernel
theorem dL_types_52 : decode cL_types 52 = .ok (.aload_n 0, 1) := by decide +kernel
theorem dL_types_53 : decode cL_types 53 = .ok (.iload_n 1, 1) := by decide +kernel
theorem dL_types_54 : decode cL_types 54 = .ok (.bipush 24, 2) := by decide +kernel
theorem dL_types_56 : decode cL_types 56 = .ok (.ishr, 1) := by decide +kernel
theorem dL_types_57 : decode cL_types 57 = .ok (.bipush 13, 2) := by decide +kernel
theorem dL_types_59 : decode cL_types 59 = .ok (.invokestatic 102, 3) := by decide +kernel
theorem dL_types_62 : decode cL_types 62 = .ok (.ifCond .ne 8, 3) := by decide +kernel
theorem dL_types_65 : decode cL_types 65 = .ok (.bipush 118, 2) := by decide +kernel
theorem dL_types_67 : decode cL_types 67 = .ok (.goto 51, 3) := by decide +kernel
theorem dL_types_70 : decode cL_types 70 = .ok (.iload 6, 2) := by decide +kernel
theorem dL_types_72 : decode cL_types 72 = .ok (.iconst 2, 1) := by decide +kernel
theorem dL_types_73 : decode cL_types 73 = .ok (.if_icmp .ge 8, 3) := by decide +kernel
theorem dL_types_76 : decode cL_types 76 = .ok (.bipush 108, 2) := by decide +kernel
theorem dL_types_78 : decode cL_types 78 = .ok (.goto 40, 3) := by decide +kernel
theorem dL_types_81 : decode cL_types 81 = .ok (.iload 6, 2) := by decide +kernel
theorem dL_types_83 : decode cL_types 83 = .ok (.iconst 2, 1) := by decide +kernel
theorem dL_types_84 : decode cL_types 84 = .ok (.if_icmp .ne 8, 3) := by decide +kernel
theorem dL_types_87 : decode cL_types 87 = .ok (.bipush 113, 2) := by decide +kernel
theorem dL_types_89 : decode cL_types 89 = .ok (.goto 29, 3) := by decide +kernel
theorem dL_types_92 : decode cL_types 92 = .ok (.iload 6, 2) := by decide +kernel
theorem dL_types_94 : decode cL_types 94 = .ok (.bipush 6, 2) := by decide +kernel
theorem dL_types_96 : decode cL_types 96 = .ok (.if_icmp .ge 8, 3) := by decide +kernel
theorem dL_types_99 : decode cL_types 99 = .ok (.bipush 119, 2) := by decide +kernel
theorem dL_types_101 : decode cL_types 101 = .ok (.goto 17, 3) := by decide +kernel
theorem dL_types_104 : decode cL_types 104 = .ok (.iload 6, 2) := by decide +kernel
theorem dL_types_106 : decode cL_types 106 = .ok (.bipush 6, 2) := by decide +kernel
theorem dL_types_108 : decode cL_types 108 = .ok (.if_icmp .ne 8, 3) := by decide +kernel
theorem dL_types_111 : decode cL_types 111 = .ok (.bipush 100, 2) := by decide +kernel
theorem dL_types_113 : decode cL_types 113 = .ok (.goto 5, 3) := by decide +kernel
theorem dL_types_116 : decode cL_types 116 = .ok (.bipush 116, 2) := by decide +kernel
theorem dL_types_118 : decode cL_types 118 = .ok (.invokestatic 113, 3) := by decide +kernel
theorem dL_types_121 : decode cL_types 121 = .ok (.ifCond .le 7, 3) := by decide +kernel
theorem dL_types_124 : decode cL_types 124 = .ok (.iconst 1, 1) := by decide +kernel
theorem dL_types_125 : decode cL_types 125 = .ok (.goto 4, 3) := by decide +kernel
theorem dL_types_128 : decode cL_types 128 = .ok (.iconst 0, 1) := by decide +kernel
theorem dL_types_129 : decode cL_types 129 = .ok (.istore_n 3, 1) := by decide +kernel
theorem dL_types_130 : decode cL_types 130 = .ok (.iload_n 3, 1) := by decide +kernel
theorem dL_types_131 : decode cL_types 131 = .ok (.ifCond .eq 93, 3) := by decide +kernel
theorem dL_types_134 : decode cL_types 134 = .ok (.iload 6, 2) := by decide +kernel
theorem dL_types_136 : decode cL_types 136 = .ok (.iconst 5, 1) := by decide +kernel
theorem dL_types_137 : decode cL_types 137 = .ok (.if_icmp .gt 21, 3) := by decide +kernel
theorem dL_types_140 : decode cL_types 140 = .ok (.aload_n 0, 1) := by decide +kernel
theorem dL_types_141 : decode cL_types 141 = .ok (.bipush 48, 2) := by decide +kernel
theorem dL_types_143 : decode cL_types 143 = .ok (.iload 5, 2) := by decide +kernel
theorem dL_types_145 : decode cL_types 145 = .ok (.iconst 2, 1) := by decide +kernel
theorem dL_types_146 : decode cL_types 146 = .ok (.ishr, 1) := by decide +kernel
theorem dL_types_147 : decode cL_types 147 = .ok (.iconst 3, 1) := by decide +kernel
theorem dL_types_148 : decode cL_types 148 = .ok (.invokestatic 102, 3) := by decide +kernel
theorem dL_types_151 : decode cL_types 151 = .ok (.iadd, 1) := by decide +kernel
theorem dL_types_152 : decode cL_types 152 = .ok (.invokestatic 113, 3) := by decide +kernel
theorem dL_types_155 : decode cL_types 155 = .ok (.ifCond .le 69, 3) := by decide +kernel
theorem dL_types_158 : decode cL_types 158 = .ok (.aload_n 0, 1) := by decide +kernel
theorem dL_types_159 : decode cL_types 159 = .ok (.iload 6, 2) := by decide +kernel
theorem dL_types_161 : decode cL_types 161 = .ok (.bipush 6, 2) := by decide +kernel
theorem dL_types_163 : decode cL_types 163 = .ok (.if_icmp .eq 10, 3) := by decide +kernel
theorem dL_types_166 : decode cL_types 166 = .ok (.iload 6, 2) := by decide +kernel
theorem dL_types_168 : decode cL_types 168 = .ok (.bipush 6, 2) := by decide +kernel
theorem dL_types_170 : decode cL_types 170 = .ok (.if_icmp .ge 33, 3) := by decide +kernel
theorem dL_types_173 : decode cL_types 173 = .ok (.bipush 48, 2) := by decide +kernel
theorem dL_types_175 : decode cL_types 175 = .ok (.iload 5, 2) := by decide +kernel
theorem dL_types_177 : decode cL_types 177 = .ok (.iconst 4, 1) := by decide +kernel
theorem dL_types_178 : decode cL_types 178 = .ok (.ishr, 1) := by decide +kernel
theorem dL_types_179 : decode cL_types 179 = .ok (.iload_n 1, 1) := by decide +kernel
theorem dL_types_180 : decode cL_types 180 = .ok (.bipush 20, 2) := by decide +kernel
theorem dL_types_182 : decode cL_types 182 = .ok (.ishr, 1) := by decide +kernel
theorem dL_types_183 : decode cL_types 183 = .ok (.bipush 17, 2) := by decide +kernel
theorem dL_types_185 : decode cL_types 185 = .ok (.invokestatic 102, 3) := by decide +kernel
theorem dL_types_188 : decode cL_types 188 = .ok (.ifCond .ne 7, 3) := by decide +kernel
theorem dL_types_191 : decode cL_types 191 = .ok (.iconst 4, 1) := by decide +kernel
theorem dL_types_192 : decode cL_types 192 = .ok (.goto 4, 3) := by decide +kernel
theorem dL_types_195 : decode cL_types 195 = .ok (.iconst 3, 1) := by decide +kernel
theorem dL_types_196 : decode cL_types 196 = .ok (.invokestatic 102, 3) := by decide +kernel
theorem dL_types_199 : decode cL_types 199 = .ok (.iadd, 1) := by decide +kernel
theorem dL_types_200 : decode cL_types 200 = .ok (.goto 14, 3) := by decide +kernel
theorem dL_types_203 : decode cL_types 203 = .ok (.bipush 49, 2) := by decide +kernel
theorem dL_types_205 : decode cL_types 205 = .ok (.iload 5, 2) := by decide +kernel
theorem dL_types_207 : decode cL_types 207 = .ok (.iconst 1, 1) := by decide +kernel
theorem dL_types_208 : decode cL_types 208 = .ok (.ishr, 1) := by decide +kernel
theorem dL_types_209 : decode cL_types 209 = .ok (.iconst 5, 1) := by decide +kernel
theorem dL_types_210 : decode cL_types 210 = .ok (.invokestatic 102, 3) := by decide +kernel
theorem dL_types_213 : decode cL_types 213 = .ok (.iadd, 1) := by decide +kernel
theorem dL_types_214 : decode cL_types 214 = .ok (.invokestatic 113, 3) := by decide +kernel
theorem dL_types_217 : decode cL_types 217 = .ok (.ifCond .le 7, 3) := by decide +kernel
theorem dL_types_220 : decode cL_types 220 = .ok (.iconst 1, 1) := by decide +kernel
theorem dL_types_221 : decode cL_types 221 = .ok (.goto 4, 3) := by decide +kernel
theorem dL_types_224 : decode cL_types 224 = .ok (.iconst 0, 1) := by decide +kernel
theorem dL_types_225 : decode cL_types 225 = .ok (.istore_n 3, 1) := by decide +kernel
theorem dL_types_226 : decode cL_types 226 = .ok (.iinc 4 1, 3) := by decide +kernel
theorem dL_types_229 : decode cL_types 229 = .ok (.goto (-206), 3) := by decide +kernel
theorem dL_types_232 : decode cL_types 232 = .ok (.iload_n 3, 1) := by decide +kernel
theorem dL_types_233 : decode cL_types 233 = .ok (.ifCond .eq 28, 3) := by decide +kernel
theorem dL_types_236 : decode cL_types 236 = .ok (.iload_n 1, 1) := by decide +kernel
theorem dL_types_237 : decode cL_types 237 = .ok (.bipush 26, 2) := by decide +kernel
theorem dL_types_239 : decode cL_types 239 = .ok (.ishr, 1) := by decide +kernel
theorem dL_types_240 : decode cL_types 240 = .ok (.bipush 6, 2) := by decide +kernel
theorem dL_types_242 : decode cL_types 242 = .ok (.invokestatic 102, 3) := by decide +kernel
theorem dL_types_245 : decode cL_types 245 = .ok (.ifCond .gt 12, 3) := by decide +kernel
theorem dL_types_248 : decode cL_types 248 = .ok (.aload_n 0, 1) := by decide +kernel
theorem dL_types_249 : decode cL_types 249 = .ok (.bipush 119, 2) := by decide +kernel
theorem dL_types_251 : decode cL_types 251 = .ok (.invokestatic 113, 3) := by decide +kernel
theorem dL_types_254 : decode cL_types 254 = .ok (.ifCond .le 7, 3) := by decide +kernel
theorem dL_types_257 : decode cL_types 257 = .ok (.iconst 1, 1) := by decide +kernel
theorem dL_types_258 : decode cL_types 258 = .ok (.goto 4, 3) := by decide +kernel
theorem dL_types_261 : decode cL_types 261 = .ok (.iconst 0, 1) := by decide +kernel
theorem dL_types_262 : decode cL_types 262 = .ok (.ireturn, 1) := by decide +kernel
theorem dL_runs_0 : decode cL_runs 0 = .ok (.aload_n 0, 1) := by decide +kernel
theorem dL_runs_1 : decode cL_runs 1 = .ok (.bipush 11, 2) := by decide +kernel
theorem dL_runs_3 : decode cL_runs 3 = .ok (.invokevirtual 76, 3) := by decide +kernel
theorem dL_runs_6 : decode cL_runs 6 = .ok (.istore_n 2, 1) := by decide +kernel
theorem dL_runs_7 : decode cL_runs 7 = .ok (.aload_n 0, 1) := by decide +kernel
theorem dL_runs_8 : decode cL_runs 8 = .ok (.iload_n 1, 1) := by decide +kernel
theorem dL_runs_9 : decode cL_runs 9 = .ok (.invokestatic 116, 3) := by decide +kernel
theorem dL_runs_12 : decode cL_runs 12 = .ok (.istore_n 3, 1) := by decide +kernel
theorem dL_runs_13 : decode cL_runs 13 = .ok (.aload_n 0, 1) := by decide +kernel
theorem dL_runs_14 : decode cL_runs 14 = .ok (.invokevirtual 120, 3) := by decide +kernel
theorem dL_runs_17 : decode cL_runs 17 = .ok (.istore 4, 2) := by decide +kernel
theorem dL_runs_19 : decode cL_runs 19 = .ok (.aload_n 0, 1) := by decide +kernel
theorem dL_runs_20 : decode cL_runs 20 = .ok (.invokestatic 123, 3) := by decide +kernel
theorem dL_runs_23 : decode cL_runs 23 = .ok (.istore 5, 2) := by decide +kernel
theorem dL_runs_25 : decode cL_runs 25 = .ok (.aload_n 0, 1) := by decide +kernel
theorem dL_runs_26 : decode cL_runs 26 = .ok (.invokevirtual 110, 3) := by decide +kernel
theorem dL_runs_29 : decode cL_runs 29 = .ok (.istore 6, 2) := by decide +kernel
theorem dL_runs_31 : decode cL_runs 31 = .ok (.iload_n 3, 1) := by decide +kernel
theorem dL_runs_32 : decode cL_runs 32 = .ok (.ifCond .eq 76, 3) := by decide +kernel
theorem dL_runs_35 : decode cL_runs 35 = .ok (.iload 5, 2) := by decide +kernel
theorem dL_runs_37 : decode cL_runs 37 = .ok (.bipush (-102), 2) := by decide +kernel
theorem dL_runs_39 : decode cL_runs 39 = .ok (.if_icmp .ne 23, 3) := by decide +kernel
theorem dL_runs_42 : decode cL_runs 42 = .ok (.iload 4, 2) := by decide +kernel
theorem dL_runs_44 : decode cL_runs 44 = .ok (.iload 6, 2) := by decide +kernel
theorem dL_runs_46 : decode cL_runs 46 = .ok (.if_icmp .gt 62, 3) := by decide +kernel
theorem dL_runs_49 : decode cL_runs 49 = .ok (.aload_n 0, 1) := by decide +kernel
theorem dL_runs_50 : decode cL_runs 50 = .ok (.bipush 11, 2) := by decide +kernel
theorem dL_runs_52 : decode cL_runs 52 = .ok (.invokevirtual 76, 3) := by decide +kernel
theorem dL_runs_55 : decode cL_runs 55 = .ok (.iload_n 2, 1) := by decide +kernel
theorem dL_runs_56 : decode cL_runs 56 = .ok (.if_icmp .ne 52, 3) := by decide +kernel
theorem dL_runs_59 : decode cL_runs 59 = .ok (.goto 45, 3) := by decide +kernel
theorem dL_runs_62 : decode cL_runs 62 = .ok (.iload 5, 2) := by decide +kernel
theorem dL_runs_64 : decode cL_runs 64 = .ok (.ifCond .lt 44, 3) := by decide +kernel
theorem dL_runs_67 : decode cL_runs 67 = .ok (.iload 6, 2) := by decide +kernel
theorem dL_runs_69 : decode cL_runs 69 = .ok (.ifCond .ne 39, 3) := by decide +kernel
theorem dL_runs_72 : decode cL_runs 72 = .ok (.iconst 2, 1) := by decide +kernel
theorem dL_runs_73 : decode cL_runs 73 = .ok (.iload 5, 2) := by decide +kernel
theorem dL_runs_75 : decode cL_runs 75 = .ok (.imul, 1) := by decide +kernel
theorem dL_runs_76 : decode cL_runs 76 = .ok (.iload 4, 2) := by decide +kernel
theorem dL_runs_78 : decode cL_runs 78 = .ok (.if_icmp .gt 30, 3) := by decide +kernel
theorem dL_runs_81 : decode cL_runs 81 = .ok (.aload_n 0, 1) := by decide +kernel
theorem dL_runs_82 : decode cL_runs 82 = .ok (.bipush 11, 2) := by decide +kernel
theorem dL_runs_84 : decode cL_runs 84 = .ok (.invokevirtual 76, 3) := by decide +kernel
theorem dL_runs_87 : decode cL_runs 87 = .ok (.iload_n 2, 1) := by decide +kernel
theorem dL_runs_88 : decode cL_runs 88 = .ok (.bipush 6, 2) := by decide +kernel
theorem dL_runs_90 : decode cL_runs 90 = .ok (.if_icmp .ge 9, 3) := by decide +kernel
theorem dL_runs_93 : decode cL_runs 93 = .ok (.iload_n 2, 1) := by decide +kernel
theorem dL_runs_94 : decode cL_runs 94 = .ok (.iconst 1, 1) := by decide +kernel
theorem dL_runs_95 : decode cL_runs 95 = .ok (.iadd, 1) := by decide +kernel
theorem dL_runs_96 : decode cL_runs 96 = .ok (.goto 5, 3) := by decide +kernel
theorem dL_runs_99 : decode cL_runs 99 = .ok (.bipush 6, 2) := by decide +kernel
theorem dL_runs_101 : decode cL_runs 101 = .ok (.if_icmp .ne 7, 3) := by decide +kernel
theorem dL_runs_104 : decode cL_runs 104 = .ok (.iconst 1, 1) := by decide +kernel
theorem dL_runs_105 : decode cL_runs 105 = .ok (.goto 4, 3) := by decide +kernel
theorem dL_runs_108 : decode cL_runs 108 = .ok (.iconst 0, 1) := by decide +kernel
theorem dL_runs_109 : decode cL_runs 109 = .ok (.ireturn, 1) := by decide +kernel
theorem dL_goes_0 : decode cL_goes 0 = .ok (.iload_n 2, 1) := by decide +kernel
theorem dL_goes_1 : decode cL_goes 1 = .ok (.aload_n 0, 1) := by decide +kernel
theorem dL_goes_2 : decode cL_goes 2 = .ok (.iconst 1, 1) := by decide +kernel
theorem dL_goes_3 : decode cL_goes 3 = .ok (.invokevirtual 76, 3) := by decide +kernel
theorem dL_goes_6 : decode cL_goes 6 = .ok (.iconst 1, 1) := by decide +kernel
theorem dL_goes_7 : decode cL_goes 7 = .ok (.iadd, 1) := by decide +kernel
theorem dL_goes_8 : decode cL_goes 8 = .ok (.invokestatic 102, 3) := by decide +kernel
theorem dL_goes_11 : decode cL_goes 11 = .ok (.istore_n 3, 1) := by decide +kernel
theorem dL_goes_12 : decode cL_goes 12 = .ok (.iload_n 2, 1) := by decide +kernel
theorem dL_goes_13 : decode cL_goes 13 = .ok (.iconst 3, 1) := by decide +kernel
theorem dL_goes_14 : decode cL_goes 14 = .ok (.ishr, 1) := by decide +kernel
theorem dL_goes_15 : decode cL_goes 15 = .ok (.iconst 4, 1) := by decide +kernel
theorem dL_goes_16 : decode cL_goes 16 = .ok (.invokestatic 102, 3) := by decide +kernel
theorem dL_goes_19 : decode cL_goes 19 = .ok (.istore 4, 2) := by decide +kernel
theorem dL_goes_21 : decode cL_goes 21 = .ok (.iload_n 3, 1) := by decide +kernel
theorem dL_goes_22 : decode cL_goes 22 = .ok (.aload_n 0, 1) := by decide +kernel
theorem dL_goes_23 : decode cL_goes 23 = .ok (.iconst 1, 1) := by decide +kernel
theorem dL_goes_24 : decode cL_goes 24 = .ok (.invokevirtual 76, 3) := by decide +kernel
theorem dL_goes_27 : decode cL_goes 27 = .ok (.if_icmp .eq 9, 3) := by decide +kernel
theorem dL_goes_30 : decode cL_goes 30 = .ok (.iload 4, 2) := by decide +kernel
theorem dL_goes_32 : decode cL_goes 32 = .ok (.iconst 3, 1) := by decide +kernel
theorem dL_goes_33 : decode cL_goes 33 = .ok (.if_icmp .ne 7, 3) := by decide +kernel
theorem dL_goes_36 : decode cL_goes 36 = .ok (.iconst 1, 1) := by decide +kernel
theorem dL_goes_37 : decode cL_goes 37 = .ok (.goto 4, 3) := by decide +kernel
theorem dL_goes_40 : decode cL_goes 40 = .ok (.iconst 0, 1) := by decide +kernel
theorem dL_goes_41 : decode cL_goes 41 = .ok (.istore 5, 2) := by decide +kernel
theorem dL_goes_43 : decode cL_goes 43 = .ok (.iload 4, 2) := by decide +kernel
theorem dL_goes_45 : decode cL_goes 45 = .ok (.iconst 3, 1) := by decide +kernel
theorem dL_goes_46 : decode cL_goes 46 = .ok (.if_icmp .ne 7, 3) := by decide +kernel
theorem dL_goes_49 : decode cL_goes 49 = .ok (.iconst 0, 1) := by decide +kernel
theorem dL_goes_50 : decode cL_goes 50 = .ok (.goto 10, 3) := by decide +kernel
theorem dL_goes_53 : decode cL_goes 53 = .ok (.aload_n 0, 1) := by decide +kernel
theorem dL_goes_54 : decode cL_goes 54 = .ok (.iload 4, 2) := by decide +kernel
theorem dL_goes_56 : decode cL_goes 56 = .ok (.iconst 3, 1) := by decide +kernel
theorem dL_goes_57 : decode cL_goes 57 = .ok (.invokestatic 79, 3) := by decide +kernel
theorem dL_goes_60 : decode cL_goes 60 = .ok (.istore 6, 2) := by decide +kernel
theorem dL_goes_62 : decode cL_goes 62 = .ok (.aload_n 0, 1) := by decide +kernel
theorem dL_goes_63 : decode cL_goes 63 = .ok (.iconst 2, 1) := by decide +kernel
theorem dL_goes_64 : decode cL_goes 64 = .ok (.invokevirtual 76, 3) := by decide +kernel
theorem dL_goes_67 : decode cL_goes 67 = .ok (.istore 7, 2) := by decide +kernel
theorem dL_goes_69 : decode cL_goes 69 = .ok (.iload_n 1, 1) := by decide +kernel
theorem dL_goes_70 : decode cL_goes 70 = .ok (.iconst 4, 1) := by decide +kernel
theorem dL_goes_71 : decode cL_goes 71 = .ok (.if_icmp .ge 69, 3) := by decide +kernel
theorem dL_goes_74 : decode cL_goes 74 = .ok (.iload 5, 2) := by decide +kernel
theorem dL_goes_76 : decode cL_goes 76 = .ok (.ifCond .eq 7, 3) := by decide +kernel
theorem dL_goes_79 : decode cL_goes 79 = .ok (.iconst 0, 1) := by decide +kernel
theorem dL_goes_80 : decode cL_goes 80 = .ok (.goto 11, 3) := by decide +kernel
theorem dL_goes_83 : decode cL_goes 83 = .ok (.aload_n 0, 1) := by decide +kernel
theorem dL_goes_84 : decode cL_goes 84 = .ok (.iload_n 3, 1) := by decide +kernel
theorem dL_goes_85 : decode cL_goes 85 = .ok (.iload 4, 2) := by decide +kernel
theorem dL_goes_87 : decode cL_goes 87 = .ok (.iconst 2, 1) := by decide +kernel
theorem dL_goes_88 : decode cL_goes 88 = .ok (.invokestatic 84, 3) := by decide +kernel
theorem dL_goes_91 : decode cL_goes 91 = .ok (.istore 8, 2) := by decide +kernel
theorem dL_goes_93 : decode cL_goes 93 = .ok (.aload_n 0, 1) := by decide +kernel
theorem dL_goes_94 : decode cL_goes 94 = .ok (.iload_n 3, 1) := by decide +kernel
theorem dL_goes_95 : decode cL_goes 95 = .ok (.iload 4, 2) := by decide +kernel
theorem dL_goes_97 : decode cL_goes 97 = .ok (.invokestatic 126, 3) := by decide +kernel
theorem dL_goes_100 : decode cL_goes 100 = .ok (.iload 5, 2) := by decide +kernel
theorem dL_goes_102 : decode cL_goes 102 = .ok (.ifCond .eq 8, 3) := by decide +kernel
theorem dL_goes_105 : decode cL_goes 105 = .ok (.bipush (-101), 2) := by decide +kernel
theorem dL_goes_107 : decode cL_goes 107 = .ok (.goto 24, 3) := by decide +kernel
theorem dL_goes_110 : decode cL_goes 110 = .ok (.iload 6, 2) := by decide +kernel
theorem dL_goes_112 : decode cL_goes 112 = .ok (.ifCond .eq 10, 3) := by decide +kernel
theorem dL_goes_115 : decode cL_goes 115 = .ok (.iload 7, 2) := by decide +kernel
theorem dL_goes_117 : decode cL_goes 117 = .ok (.bipush 40, 2) := by decide +kernel
theorem dL_goes_119 : decode cL_goes 119 = .ok (.if_icmp .ne 8, 3) := by decide +kernel
theorem dL_goes_122 : decode cL_goes 122 = .ok (.bipush (-103), 2) := by decide +kernel
theorem dL_goes_124 : decode cL_goes 124 = .ok (.goto 7, 3) := by decide +kernel
theorem dL_goes_127 : decode cL_goes 127 = .ok (.iload 8, 2) := by decide +kernel
theorem dL_goes_129 : decode cL_goes 129 = .ok (.iconst 1, 1) := by decide +kernel
theorem dL_goes_130 : decode cL_goes 130 = .ok (.iadd, 1) := by decide +kernel

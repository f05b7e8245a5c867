theorem dX0_init_0 : decode cX0_init 0 = .ok (.aload_n 0, 1) := by decide +kernel
theorem dX0_init_1 : decode cX0_init 1 = .ok (.invokespecial 3, 3) := by decide +kernel
theorem dX0_init_4 : decode cX0_init 4 = .ok (.aload_n 0, 1) := by decide +kernel
theorem dX0_init_5 : decode cX0_init 5 = .ok (.iconst 3, 1) := by decide +kernel
theorem dX0_init_6 : decode cX0_init 6 = .ok (.newarray .int, 2) := by decide +kernel
theorem dX0_init_8 : decode cX0_init 8 = .ok (.dup, 1) := by decide +kernel
theorem dX0_init_9 : decode cX0_init 9 = .ok (.iconst 0, 1) := by decide +kernel
theorem dX0_init_10 : decode cX0_init 10 = .ok (.iconst 2, 1) := by decide +kernel
theorem dX0_init_11 : decode cX0_init 11 = .ok (.iastore, 1) := by decide +kernel
theorem dX0_init_12 : decode cX0_init 12 = .ok (.dup, 1) := by decide +kernel
theorem dX0_init_13 : decode cX0_init 13 = .ok (.iconst 1, 1) := by decide +kernel
theorem dX0_init_14 : decode cX0_init 14 = .ok (.iconst 0, 1) := by decide +kernel
theorem dX0_init_15 : decode cX0_init 15 = .ok (.iastore, 1) := by decide +kernel
theorem dX0_init_16 : decode cX0_init 16 = .ok (.dup, 1) := by decide +kernel
theorem dX0_init_17 : decode cX0_init 17 = .ok (.iconst 2, 1) := by decide +kernel
theorem dX0_init_18 : decode cX0_init 18 = .ok (.iconst 0, 1) := by decide +kernel
theorem dX0_init_19 : decode cX0_init 19 = .ok (.iastore, 1) := by decide +kernel
theorem dX0_init_20 : decode cX0_init 20 = .ok (.putfield 9, 3) := by decide +kernel
theorem dX0_init_23 : decode cX0_init 23 = .ok (.aload_n 0, 1) := by decide +kernel
theorem dX0_init_24 : decode cX0_init 24 = .ok (.iconst 3, 1) := by decide +kernel
theorem dX0_init_25 : decode cX0_init 25 = .ok (.newarray .int, 2) := by decide +kernel
theorem dX0_init_27 : decode cX0_init 27 = .ok (.dup, 1) := by decide +kernel
theorem dX0_init_28 : decode cX0_init 28 = .ok (.iconst 0, 1) := by decide +kernel
theorem dX0_init_29 : decode cX0_init 29 = .ok (.iconst 4, 1) := by decide +kernel
theorem dX0_init_30 : decode cX0_init 30 = .ok (.iastore, 1) := by decide +kernel
theorem dX0_init_31 : decode cX0_init 31 = .ok (.dup, 1) := by decide +kernel
theorem dX0_init_32 : decode cX0_init 32 = .ok (.iconst 1, 1) := by decide +kernel
theorem dX0_init_33 : decode cX0_init 33 = .ok (.iconst 4, 1) := by decide +kernel
theorem dX0_init_34 : decode cX0_init 34 = .ok (.iastore, 1) := by decide +kernel
theorem dX0_init_35 : decode cX0_init 35 = .ok (.dup, 1) := by decide +kernel
theorem dX0_init_36 : decode cX0_init 36 = .ok (.iconst 2, 1) := by decide +kernel
theorem dX0_init_37 : decode cX0_init 37 = .ok (.iconst 4, 1) := by decide +kernel
theorem dX0_init_38 : decode cX0_init 38 = .ok (.iastore, 1) := by decide +kernel
theorem dX0_init_39 : decode cX0_init 39 = .ok (.putfield 15, 3) := by decide +kernel
theorem dX0_init_42 : decode cX0_init 42 = .ok (.aload_n 0, 1) := by decide +kernel
theorem dX0_init_43 : decode cX0_init 43 = .ok (.iconst 3, 1) := by decide +kernel
theorem dX0_init_44 : decode cX0_init 44 = .ok (.newarray .int, 2) := by decide +kernel
theorem dX0_init_46 : decode cX0_init 46 = .ok (.putfield 18, 3) := by decide +kernel
theorem dX0_init_49 : decode cX0_init 49 = .ok (.aload_n 0, 1) := by decide +kernel
theorem dX0_init_50 : decode cX0_init 50 = .ok (.iconst 3, 1) := by decide +kernel
theorem dX0_init_51 : decode cX0_init 51 = .ok (.newarray .int, 2) := by decide +kernel
theorem dX0_init_53 : decode cX0_init 53 = .ok (.putfield 21, 3) := by decide +kernel
theorem dX0_init_56 : decode cX0_init 56 = .ok (.aload_n 0, 1) := by decide +kernel
theorem dX0_init_57 : decode cX0_init 57 = .ok (.iconst 3, 1) := by decide +kernel
theorem dX0_init_58 : decode cX0_init 58 = .ok (.newarray .int, 2) := by decide +kernel
theorem dX0_init_60 : decode cX0_init 60 = .ok (.putfield 24, 3) := by decide +kernel
theorem dX0_init_63 : decode cX0_init 63 = .ok (.aload_n 0, 1) := by decide +kernel
theorem dX0_init_64 : decode cX0_init 64 = .ok (.iconst 3, 1) := by decide +kernel
theorem dX0_init_65 : decode cX0_init 65 = .ok (.newarray .int, 2) := by decide +kernel
theorem dX0_init_67 : decode cX0_init 67 = .ok (.putfield 27, 3) := by decide +kernel
theorem dX0_init_70 : decode cX0_init 70 = .ok (.aload_n 0, 1) := by decide +kernel
theorem dX0_init_71 : decode cX0_init 71 = .ok (.bipush 12, 2) := by decide +kernel
theorem dX0_init_73 : decode cX0_init 73 = .ok (.newarray .int, 2) := by decide +kernel
theorem dX0_init_75 : decode cX0_init 75 = .ok (.putfield 30, 3) := by decide +kernel
theorem dX0_init_78 : decode cX0_init 78 = .ok (.aload_n 0, 1) := by decide +kernel
theorem dX0_init_79 : decode cX0_init 79 = .ok (.bipush 12, 2) := by decide +kernel
theorem dX0_init_81 : decode cX0_init 81 = .ok (.newarray .int, 2) := by decide +kernel
theorem dX0_init_83 : decode cX0_init 83 = .ok (.putfield 33, 3) := by decide +kernel
theorem dX0_init_86 : decode cX0_init 86 = .ok (.aload_n 0, 1) := by decide +kernel
theorem dX0_init_87 : decode cX0_init 87 = .ok (.bipush 12, 2) := by decide +kernel
theorem dX0_init_89 : decode cX0_init 89 = .ok (.newarray .int, 2) := by decide +kernel
theorem dX0_init_91 : decode cX0_init 91 = .ok (.putfield 36, 3) := by decide +kernel
theorem dX0_init_94 : decode cX0_init 94 = .ok (.aload_n 0, 1) := by decide +kernel
theorem dX0_init_95 : decode cX0_init 95 = .ok (.bipush 12, 2) := by decide +kernel
theorem dX0_init_97 : decode cX0_init 97 = .ok (.newarray .int, 2) := by decide +kernel
theorem dX0_init_99 : decode cX0_init 99 = .ok (.putfield 39, 3) := by decide +kernel
theorem dX0_init_102 : decode cX0_init 102 = .ok (.aload_n 0, 1) := by decide +kernel
theorem dX0_init_103 : decode cX0_init 103 = .ok (.bipush 12, 2) := by decide +kernel
theorem dX0_init_105 : decode cX0_init 105 = .ok (.newarray .int, 2) := by decide +kernel
theorem dX0_init_107 : decode cX0_init 107 = .ok (.putfield 42, 3) := by decide +kernel
theorem dX0_init_110 : decode cX0_init 110 = .ok (.aload_n 0, 1) := by decide +kernel
theorem dX0_init_111 : decode cX0_init 111 = .ok (.new 45, 3) := by decide +kernel
theorem dX0_init_114 : decode cX0_init 114 = .ok (.dup, 1) := by decide +kernel
theorem dX0_init_115 : decode cX0_init 115 = .ok (.invokespecial 47, 3) := by decide +kernel
theorem dX0_init_118 : decode cX0_init 118 = .ok (.putfield 48, 3) := by decide +kernel
theorem dX0_init_121 : decode cX0_init 121 = .ok (.return_, 1) := by decide +kernel
theorem dX0_copyFrom_0 : decode cX0_copyFrom 0 = .ok (.aload_n 0, 1) := by decide +kernel
theorem dX0_copyFrom_1 : decode cX0_copyFrom 1 = .ok (.aload_n 1, 1) := by decide +kernel
theorem dX0_copyFrom_2 : decode cX0_copyFrom 2 = .ok (.getfield 52, 3) := by decide +kernel
theorem dX0_copyFrom_5 : decode cX0_copyFrom 5 = .ok (.putfield 52, 3) := by decide +kernel
theorem dX0_copyFrom_8 : decode cX0_copyFrom 8 = .ok (.aload_n 0, 1) := by decide +kernel
theorem dX0_copyFrom_9 : decode cX0_copyFrom 9 = .ok (.aload_n 1, 1) := by decide +kernel
theorem dX0_copyFrom_10 : decode cX0_copyFrom 10 = .ok (.getfield 56, 3) := by decide +kernel
theorem dX0_copyFrom_13 : decode cX0_copyFrom 13 = .ok (.putfield 56, 3) := by decide +kernel
theorem dX0_copyFrom_16 : decode cX0_copyFrom 16 = .ok (.aload_n 1, 1) := by decide +kernel
theorem dX0_copyFrom_17 : decode cX0_copyFrom 17 = .ok (.getfield 9, 3) := by decide +kernel
theorem dX0_copyFrom_20 : decode cX0_copyFrom 20 = .ok (.iconst 0, 1) := by decide +kernel
theorem dX0_copyFrom_21 : decode cX0_copyFrom 21 = .ok (.aload_n 0, 1) := by decide +kernel
theorem dX0_copyFrom_22 : decode cX0_copyFrom 22 = .ok (.getfield 9, 3) := by decide +kernel
theorem dX0_copyFrom_25 : decode cX0_copyFrom 25 = .ok (.iconst 0, 1) := by decide +kernel
theorem dX0_copyFrom_26 : decode cX0_copyFrom 26 = .ok (.iconst 3, 1) := by decide +kernel
theorem dX0_copyFrom_27 : decode cX0_copyFrom 27 = .ok (.invokestatic 59, 3) := by decide +kernel
theorem dX0_copyFrom_30 : decode cX0_copyFrom 30 = .ok (.aload_n 1, 1) := by decide +kernel
theorem dX0_copyFrom_31 : decode cX0_copyFrom 31 = .ok (.getfield 15, 3) := by decide +kernel
theorem dX0_copyFrom_34 : decode cX0_copyFrom 34 = .ok (.iconst 0, 1) := by decide +kernel
theorem dX0_copyFrom_35 : decode cX0_copyFrom 35 = .ok (.aload_n 0, 1) := by decide +kernel
theorem dX0_copyFrom_36 : decode cX0_copyFrom 36 = .ok (.getfield 15, 3) := by decide +kernel
theorem dX0_copyFrom_39 : decode cX0_copyFrom 39 = .ok (.iconst 0, 1) := by decide +kernel
theorem dX0_copyFrom_40 : decode cX0_copyFrom 40 = .ok (.iconst 3, 1) := by decide +kernel
theorem dX0_copyFrom_41 : decode cX0_copyFrom 41 = .ok (.invokestatic 59, 3) := by decide +kernel
theorem dX0_copyFrom_44 : decode cX0_copyFrom 44 = .ok (.aload_n 1, 1) := by decide +kernel
theorem dX0_copyFrom_45 : decode cX0_copyFrom 45 = .ok (.getfield 18, 3) := by decide +kernel
theorem dX0_copyFrom_48 : decode cX0_copyFrom 48 = .ok (.iconst 0, 1) := by decide +kernel
theorem dX0_copyFrom_49 : decode cX0_copyFrom 49 = .ok (.aload_n 0, 1) := by decide +kernel
theorem dX0_copyFrom_50 : decode cX0_copyFrom 50 = .ok (.getfield 18, 3) := by decide +kernel
theorem dX0_copyFrom_53 : decode cX0_copyFrom 53 = .ok (.iconst 0, 1) := by decide +kernel
theorem dX0_copyFrom_54 : decode cX0_copyFrom 54 = .ok (.iconst 3, 1) := by decide +kernel
theorem dX0_copyFrom_55 : decode cX0_copyFrom 55 = .ok (.invokestatic 59, 3) := by decide +kernel
theorem dX0_copyFrom_58 : decode cX0_copyFrom 58 = .ok (.aload_n 1, 1) := by decide +kernel
theorem dX0_copyFrom_59 : decode cX0_copyFrom 59 = .ok (.getfield 21, 3) := by decide +kernel
theorem dX0_copyFrom_62 : decode cX0_copyFrom 62 = .ok (.iconst 0, 1) := by decide +kernel
theorem dX0_copyFrom_63 : decode cX0_copyFrom 63 = .ok (.aload_n 0, 1) := by decide +kernel
theorem dX0_copyFrom_64 : decode cX0_copyFrom 64 = .ok (.getfield 21, 3) := by decide +kernel
theorem dX0_copyFrom_67 : decode cX0_copyFrom 67 = .ok (.iconst 0, 1) := by decide +kernel
theorem dX0_copyFrom_68 : decode cX0_copyFrom 68 = .ok (.iconst 3, 1) := by decide +kernel
theorem dX0_copyFrom_69 : decode cX0_copyFrom 69 = .ok (.invokestatic 59, 3) := by decide +kernel
theorem dX0_copyFrom_72 : decode cX0_copyFrom 72 = .ok (.aload_n 1, 1) := by decide +kernel
theorem dX0_copyFrom_73 : decode cX0_copyFrom 73 = .ok (.getfield 24, 3) := by decide +kernel
theorem dX0_copyFrom_76 : decode cX0_copyFrom 76 = .ok (.iconst 0, 1) := by decide +kernel
theorem dX0_copyFrom_77 : decode cX0_copyFrom 77 = .ok (.aload_n 0, 1) := by decide +kernel
theorem dX0_copyFrom_78 : decode cX0_copyFrom 78 = .ok (.getfield 24, 3) := by decide +kernel
theorem dX0_copyFrom_81 : decode cX0_copyFrom 81 = .ok (.iconst 0, 1) := by decide +kernel
theorem dX0_copyFrom_82 : decode cX0_copyFrom 82 = .ok (.iconst 3, 1) := by decide +kernel
theorem dX0_copyFrom_83 : decode cX0_copyFrom 83 = .ok (.invokestatic 59, 3) := by decide +kernel
theorem dX0_copyFrom_86 : decode cX0_copyFrom 86 = .ok (.aload_n 1, 1) := by decide +kernel
theorem dX0_copyFrom_87 : decode cX0_copyFrom 87 = .ok (.getfield 27, 3) := by decide +kernel
theorem dX0_copyFrom_90 : decode cX0_copyFrom 90 = .ok (.iconst 0, 1) := by decide +kernel
theorem dX0_copyFrom_91 : decode cX0_copyFrom 91 = .ok (.aload_n 0, 1) := by decide +kernel
theorem dX0_copyFrom_92 : decode cX0_copyFrom 92 = .ok (.getfield 27, 3) := by decide +kernel
theorem dX0_copyFrom_95 : decode cX0_copyFrom 95 = .ok (.iconst 0, 1) := by decide +kernel
theorem dX0_copyFrom_96 : decode cX0_copyFrom 96 = .ok (.iconst 3, 1) := by decide +kernel
theorem dX0_copyFrom_97 : decode cX0_copyFrom 97 = .ok (.invokestatic 59, 3) := by decide +kernel
theorem dX0_copyFrom_100 : decode cX0_copyFrom 100 = .ok (.aload_n 1, 1) := by decide +kernel
theorem dX0_copyFrom_101 : decode cX0_copyFrom 101 = .ok (.getfield 30, 3) := by decide +kernel
theorem dX0_copyFrom_104 : decode cX0_copyFrom 104 = .ok (.iconst 0, 1) := by decide +kernel
theorem dX0_copyFrom_105 : decode cX0_copyFrom 105 = .ok (.aload_n 0, 1) := by decide +kernel
theorem dX0_copyFrom_106 : decode cX0_copyFrom 106 = .ok (.getfield 30, 3) := by decide +kernel
theorem dX0_copyFrom_109 : decode cX0_copyFrom 109 = .ok (.iconst 0, 1) := by decide +kernel
theorem dX0_copyFrom_110 : decode cX0_copyFrom 110 = .ok (.bipush 12, 2) := by decide +kernel
theorem dX0_copyFrom_112 : decode cX0_copyFrom 112 = .ok (.invokestatic 59, 3) := by decide +kernel
theorem dX0_copyFrom_115 : decode cX0_copyFrom 115 = .ok (.aload_n 1, 1) := by decide +kernel
theorem dX0_copyFrom_116 : decode cX0_copyFrom 116 = .ok (.getfield 33, 3) := by decide +kernel
theorem dX0_copyFrom_119 : decode cX0_copyFrom 119 = .ok (.iconst 0, 1) := by decide +kernel
theorem dX0_copyFrom_120 : decode cX0_copyFrom 120 = .ok (.aload_n 0, 1) := by decide +kernel
theorem dX0_copyFrom_121 : decode cX0_copyFrom 121 = .ok (.getfield 33, 3) := by decide +kernel
theorem dX0_copyFrom_124 : decode cX0_copyFrom 124 = .ok (.iconst 0, 1) := by decide +kernel
theorem dX0_copyFrom_125 : decode cX0_copyFrom 125 = .ok (.bipush 12, 2) := by decide +kernel
theorem dX0_copyFrom_127 : decode cX0_copyFrom 127 = .ok (.invokestatic 59, 3) := by decide +kernel
theorem dX0_copyFrom_130 : decode cX0_copyFrom 130 = .ok (.aload_n 1, 1) := by decide +kernel
theorem dX0_copyFrom_131 : decode cX0_copyFrom 131 = .ok (.getfield 36, 3) := by decide +kernel
theorem dX0_copyFrom_134 : decode cX0_copyFrom 134 = .ok (.iconst 0, 1) := by decide +kernel
theorem dX0_copyFrom_135 : decode cX0_copyFrom 135 = .ok (.aload_n 0, 1) := by decide +kernel
theorem dX0_copyFrom_136 : decode cX0_copyFrom 136 = .ok (.getfield 36, 3) := by decide +kernel
theorem dX0_copyFrom_139 : decode cX0_copyFrom 139 = .ok (.iconst 0, 1) := by decide +kernel
theorem dX0_copyFrom_140 : decode cX0_copyFrom 140 = .ok (.bipush 12, 2) := by decide +kernel
theorem dX0_copyFrom_142 : decode cX0_copyFrom 142 = .ok (.invokestatic 59, 3) := by decide +kernel
theorem dX0_copyFrom_145 : decode cX0_copyFrom 145 = .ok (.aload_n 1, 1) := by decide +kernel
theorem dX0_copyFrom_146 : decode cX0_copyFrom 146 = .ok (.getfield 39, 3) := by decide +kernel
theorem dX0_copyFrom_149 : decode cX0_copyFrom 149 = .ok (.iconst 0, 1) := by decide +kernel
theorem dX0_copyFrom_150 : decode cX0_copyFrom 150 = .ok (.aload_n 0, 1) := by decide +kernel
theorem dX0_copyFrom_151 : decode cX0_copyFrom 151 = .ok (.getfield 39, 3) := by decide +kernel
theorem dX0_copyFrom_154 : decode cX0_copyFrom 154 = .ok (.iconst 0, 1) := by decide +kernel
theorem dX0_copyFrom_155 : decode cX0_copyFrom 155 = .ok (.bipush 12, 2) := by decide +kernel
theorem dX0_copyFrom_157 : decode cX0_copyFrom 157 = .ok (.invokestatic 59, 3) := by decide +kernel
theorem dX0_copyFrom_160 : decode cX0_copyFrom 160 = .ok (.aload_n 1, 1) := by decide +kernel
theorem dX0_copyFrom_161 : decode cX0_copyFrom 161 = .ok (.getfield 42, 3) := by decide +kernel
theorem dX0_copyFrom_164 : decode cX0_copyFrom 164 = .ok (.iconst 0, 1) := by decide +kernel
theorem dX0_copyFrom_165 : decode cX0_copyFrom 165 = .ok (.aload_n 0, 1) := by decide +kernel
theorem dX0_copyFrom_166 : decode cX0_copyFrom 166 = .ok (.getfield 42, 3) := by decide +kernel
theorem dX0_copyFrom_169 : decode cX0_copyFrom 169 = .ok (.iconst 0, 1) := by decide +kernel
theorem dX0_copyFrom_170 : decode cX0_copyFrom 170 = .ok (.bipush 12, 2) := by decide +kernel
theorem dX0_copyFrom_172 : decode cX0_copyFrom 172 = .ok (.invokestatic 59, 3) := by decide +kernel
theorem dX0_copyFrom_175 : decode cX0_copyFrom 175 = .ok (.aload_n 0, 1) := by decide +kernel
theorem dX0_copyFrom_176 : decode cX0_copyFrom 176 = .ok (.getfield 48, 3) := by decide +kernel
theorem dX0_copyFrom_179 : decode cX0_copyFrom 179 = .ok (.aload_n 1, 1) := by decide +kernel
theorem dX0_copyFrom_180 : decode cX0_copyFrom 180 = .ok (.getfield 48, 3) := by decide +kernel
theorem dX0_copyFrom_183 : decode cX0_copyFrom 183 = .ok (.invokevirtual 65, 3) := by decide +kernel
theorem dX0_copyFrom_186 : decode cX0_copyFrom 186 = .ok (.return_, 1) := by decide +kernel
theorem dX0_out_0 : decode cX0_out 0 = .ok (.aload_n 0, 1) := by decide +kernel
theorem dX0_out_1 : decode cX0_out 1 = .ok (.getfield 30, 3) := by decide +kernel
theorem dX0_out_4 : decode cX0_out 4 = .ok (.iload_n 1, 1) := by decide +kernel
theorem dX0_out_5 : decode cX0_out 5 = .ok (.iaload, 1) := by decide +kernel
theorem dX0_out_6 : decode cX0_out 6 = .ok (.aload_n 0, 1) := by decide +kernel
theorem dX0_out_7 : decode cX0_out 7 = .ok (.getfield 33, 3) := by decide +kernel
theorem dX0_out_10 : decode cX0_out 10 = .ok (.iload_n 1, 1) := by decide +kernel
theorem dX0_out_11 : decode cX0_out 11 = .ok (.iaload, 1) := by decide +kernel
theorem dX0_out_12 : decode cX0_out 12 = .ok (.isub, 1) := by decide +kernel
theorem dX0_out_13 : decode cX0_out 13 = .ok (.ireturn, 1) := by decide +kernel
theorem dX0_outOfKind_0 : decode cX0_outOfKind 0 = .ok (.iconst 0, 1) := by decide +kernel
theorem dX0_outOfKind_1 : decode cX0_outOfKind 1 = .ok (.istore_n 2, 1) := by decide +kernel
theorem dX0_outOfKind_2 : decode cX0_outOfKind 2 = .ok (.iload_n 1, 1) := by decide +kernel
theorem dX0_outOfKind_3 : decode cX0_outOfKind 3 = .ok (.istore_n 3, 1) := by decide +kernel
theorem dX0_outOfKind_4 : decode cX0_outOfKind 4 = .ok (.iload_n 3, 1) := by decide +kernel
theorem dX0_outOfKind_5 : decode cX0_outOfKind 5 = .ok (.bipush 12, 2) := by decide +kernel
theorem dX0_outOfKind_7 : decode cX0_outOfKind 7 = .ok (.if_icmp .ge 25, 3) := by decide +kernel
theorem dX0_outOfKind_10 : decode cX0_outOfKind 10 = .ok (.iload_n 2, 1) := by decide +kernel
theorem dX0_outOfKind_11 : decode cX0_outOfKind 11 = .ok (.aload_n 0, 1) := by decide +kernel
theorem dX0_outOfKind_12 : decode cX0_outOfKind 12 = .ok (.getfield 30, 3) := by decide +kernel
theorem dX0_outOfKind_15 : decode cX0_outOfKind 15 = .ok (.iload_n 3, 1) := by decide +kernel
theorem dX0_outOfKind_16 : decode cX0_outOfKind 16 = .ok (.iaload, 1) := by decide +kernel
theorem dX0_outOfKind_17 : decode cX0_outOfKind 17 = .ok (.aload_n 0, 1) := by decide +kernel
theorem dX0_outOfKind_18 : decode cX0_outOfKind 18 = .ok (.getfield 33, 3) := by decide +kernel
theorem dX0_outOfKind_21 : decode cX0_outOfKind 21 = .ok (.iload_n 3, 1) := by decide +kernel
theorem dX0_outOfKind_22 : decode cX0_outOfKind 22 = .ok (.iaload, 1) := by decide +kernel
theorem dX0_outOfKind_23 : decode cX0_outOfKind 23 = .ok (.isub, 1) := by decide +kernel
theorem dX0_outOfKind_24 : decode cX0_outOfKind 24 = .ok (.iadd, 1) := by decide +kernel
theorem dX0_outOfKind_25 : decode cX0_outOfKind 25 = .ok (.istore_n 2, 1) := by decide +kernel
theorem dX0_outOfKind_26 : decode cX0_outOfKind 26 = .ok (.iinc 3 3, 3) := by decide +kernel
theorem dX0_outOfKind_29 : decode cX0_outOfKind 29 = .ok (.goto (-25), 3) := by decide +kernel
theorem dX0_outOfKind_32 : decode cX0_outOfKind 32 = .ok (.iload_n 2, 1) := by decide +kernel
theorem dX0_outOfKind_33 : decode cX0_outOfKind 33 = .ok (.ireturn, 1) := by decide +kernel
theorem dX0_freeBottles_0 : decode cX0_freeBottles 0 = .ok (.aload_n 0, 1) := by decide +kernel
theorem dX0_freeBottles_1 : decode cX0_freeBottles 1 = .ok (.getfield 15, 3) := by decide +kernel
theorem dX0_freeBottles_4 : decode cX0_freeBottles 4 = .ok (.iload_n 1, 1) := by decide +kernel
theorem dX0_freeBottles_5 : decode cX0_freeBottles 5 = .ok (.iaload, 1) := by decide +kernel
theorem dX0_freeBottles_6 : decode cX0_freeBottles 6 = .ok (.aload_n 0, 1) := by decide +kernel
theorem dX0_freeBottles_7 : decode cX0_freeBottles 7 = .ok (.getfield 18, 3) := by decide +kernel
theorem dX0_freeBottles_10 : decode cX0_freeBottles 10 = .ok (.iload_n 1, 1) := by decide +kernel
theorem dX0_freeBottles_11 : decode cX0_freeBottles 11 = .ok (.iaload, 1) := by decide +kernel
theorem dX0_freeBottles_12 : decode cX0_freeBottles 12 = .ok (.isub, 1) := by decide +kernel
theorem dX0_freeBottles_13 : decode cX0_freeBottles 13 = .ok (.aload_n 0, 1) := by decide +kernel
theorem dX0_freeBottles_14 : decode cX0_freeBottles 14 = .ok (.iload_n 1, 1) := by decide +kernel
theorem dX0_freeBottles_15 : decode cX0_freeBottles 15 = .ok (.invokevirtual 69, 3) := by decide +kernel
theorem dX0_freeBottles_18 : decode cX0_freeBottles 18 = .ok (.isub, 1) := by decide +kernel
theorem dX0_freeBottles_19 : decode cX0_freeBottles 19 = .ok (.ireturn, 1) := by decide +kernel
theorem dX0_corks_0 : decode cX0_corks 0 = .ok (.aload_n 0, 1) := by decide +kernel
theorem dX0_corks_1 : decode cX0_corks 1 = .ok (.getfield 36, 3) := by decide +kernel
theorem dX0_corks_4 : decode cX0_corks 4 = .ok (.iload_n 1, 1) := by decide +kernel
theorem dX0_corks_5 : decode cX0_corks 5 = .ok (.iaload, 1) := by decide +kernel
theorem dX0_corks_6 : decode cX0_corks 6 = .ok (.aload_n 0, 1) := by decide +kernel
theorem dX0_corks_7 : decode cX0_corks 7 = .ok (.getfield 39, 3) := by decide +kernel
theorem dX0_corks_10 : decode cX0_corks 10 = .ok (.iload_n 1, 1) := by decide +kernel
theorem dX0_corks_11 : decode cX0_corks 11 = .ok (.iaload, 1) := by decide +kernel
theorem dX0_corks_12 : decode cX0_corks 12 = .ok (.isub, 1) := by decide +kernel
theorem dX0_corks_13 : decode cX0_corks 13 = .ok (.ireturn, 1) := by decide +kernel
theorem dX0_canLend_0 : decode cX0_canLend 0 = .ok (.aload_n 0, 1) := by decide +kernel
theorem dX0_canLend_1 : decode cX0_canLend 1 = .ok (.iload_n 1, 1) := by decide +kernel
theorem dX0_canLend_2 : decode cX0_canLend 2 = .ok (.invokevirtual 73, 3) := by decide +kernel
theorem dX0_canLend_5 : decode cX0_canLend 5 = .ok (.ifCond .le 17, 3) := by decide +kernel
theorem dX0_canLend_8 : decode cX0_canLend 8 = .ok (.aload_n 0, 1) := by decide +kernel
theorem dX0_canLend_9 : decode cX0_canLend 9 = .ok (.getfield 48, 3) := by decide +kernel
theorem dX0_canLend_12 : decode cX0_canLend 12 = .ok (.invokevirtual 76, 3) := by decide +kernel
theorem dX0_canLend_15 : decode cX0_canLend 15 = .ok (.ifCond .eq 7, 3) := by decide +kernel
theorem dX0_canLend_18 : decode cX0_canLend 18 = .ok (.iconst 1, 1) := by decide +kernel
theorem dX0_canLend_19 : decode cX0_canLend 19 = .ok (.goto 4, 3) := by decide +kernel
theorem dX0_canLend_22 : decode cX0_canLend 22 = .ok (.iconst 0, 1) := by decide +kernel
theorem dX0_canLend_23 : decode cX0_canLend 23 = .ok (.ireturn, 1) := by decide +kernel
theorem dX0_canWait_0 : decode cX0_canWait 0 = .ok (.aload_n 0, 1) := by decide +kernel
theorem dX0_canWait_1 : decode cX0_canWait 1 = .ok (.getfield 42, 3) := by decide +kernel
theorem dX0_canWait_4 : decode cX0_canWait 4 = .ok (.iload_n 1, 1) := by decide +kernel
theorem dX0_canWait_5 : decode cX0_canWait 5 = .ok (.iaload, 1) := by decide +kernel
theorem dX0_canWait_6 : decode cX0_canWait 6 = .ok (.bipush 9, 2) := by decide +kernel
theorem dX0_canWait_8 : decode cX0_canWait 8 = .ok (.if_icmp .ge 7, 3) := by decide +kernel
theorem dX0_canWait_11 : decode cX0_canWait 11 = .ok (.iconst 1, 1) := by decide +kernel
theorem dX0_canWait_12 : decode cX0_canWait 12 = .ok (.goto 4, 3) := by decide +kernel
theorem dX0_canWait_15 : decode cX0_canWait 15 = .ok (.iconst 0, 1) := by decide +kernel
theorem dX0_canWait_16 : decode cX0_canWait 16 = .ok (.ireturn, 1) := by decide +kernel
theorem dX0_lendCork_0 : decode cX0_lendCork 0 = .ok (.aload_n 0, 1) := by decide +kernel
theorem dX0_lendCork_1 : decode cX0_lendCork 1 = .ok (.getfield 30, 3) := by decide +kernel
theorem dX0_lendCork_4 : decode cX0_lendCork 4 = .ok (.iload_n 1, 1) := by decide +kernel
theorem dX0_lendCork_5 : decode cX0_lendCork 5 = .ok (.dup2, 1) := by decide +kernel
theorem dX0_lendCork_6 : decode cX0_lendCork 6 = .ok (.iaload, 1) := by decide +kernel
theorem dX0_lendCork_7 : decode cX0_lendCork 7 = .ok (.iconst 1, 1) := by decide +kernel
theorem dX0_lendCork_8 : decode cX0_lendCork 8 = .ok (.iadd, 1) := by decide +kernel
theorem dX0_lendCork_9 : decode cX0_lendCork 9 = .ok (.iastore, 1) := by decide +kernel
theorem dX0_lendCork_10 : decode cX0_lendCork 10 = .ok (.aload_n 0, 1) := by decide +kernel
theorem dX0_lendCork_11 : decode cX0_lendCork 11 = .ok (.iconst 0, 1) := by decide +kernel
theorem dX0_lendCork_12 : decode cX0_lendCork 12 = .ok (.iload_n 1, 1) := by decide +kernel
theorem dX0_lendCork_13 : decode cX0_lendCork 13 = .ok (.aload_n 0, 1) := by decide +kernel
theorem dX0_lendCork_14 : decode cX0_lendCork 14 = .ok (.getfield 30, 3) := by decide +kernel
theorem dX0_lendCork_17 : decode cX0_lendCork 17 = .ok (.iload_n 1, 1) := by decide +kernel
theorem dX0_lendCork_18 : decode cX0_lendCork 18 = .ok (.iaload, 1) := by decide +kernel
theorem dX0_lendCork_19 : decode cX0_lendCork 19 = .ok (.invokevirtual 80, 3) := by decide +kernel
theorem dX0_lendCork_22 : decode cX0_lendCork 22 = .ok (.return_, 1) := by decide +kernel
theorem dX0_sendQuestion_0 : decode cX0_sendQuestion 0 = .ok (.aload_n 0, 1) := by decide +kernel
theorem dX0_sendQuestion_1 : decode cX0_sendQuestion 1 = .ok (.iconst 2, 1) := by decide +kernel
theorem dX0_sendQuestion_2 : decode cX0_sendQuestion 2 = .ok (.iload_n 1, 1) := by decide +kernel
theorem dX0_sendQuestion_3 : decode cX0_sendQuestion 3 = .ok (.aload_n 0, 1) := by decide +kernel
theorem dX0_sendQuestion_4 : decode cX0_sendQuestion 4 = .ok (.getfield 30, 3) := by decide +kernel
theorem dX0_sendQuestion_7 : decode cX0_sendQuestion 7 = .ok (.iload_n 1, 1) := by decide +kernel
theorem dX0_sendQuestion_8 : decode cX0_sendQuestion 8 = .ok (.iaload, 1) := by decide +kernel
theorem dX0_sendQuestion_9 : decode cX0_sendQuestion 9 = .ok (.invokevirtual 80, 3) := by decide +kernel
theorem dX0_sendQuestion_12 : decode cX0_sendQuestion 12 = .ok (.return_, 1) := by decide +kernel
theorem dX0_sendLetter_0 : decode cX0_sendLetter 0 = .ok (.aload_n 0, 1) := by decide +kernel
theorem dX0_sendLetter_1 : decode cX0_sendLetter 1 = .ok (.getfield 48, 3) := by decide +kernel
theorem dX0_sendLetter_4 : decode cX0_sendLetter 4 = .ok (.iload_n 1, 1) := by decide +kernel
theorem dX0_sendLetter_5 : decode cX0_sendLetter 5 = .ok (.iload_n 2, 1) := by decide +kernel
theorem dX0_sendLetter_6 : decode cX0_sendLetter 6 = .ok (.iload_n 3, 1) := by decide +kernel
theorem dX0_sendLetter_7 : decode cX0_sendLetter 7 = .ok (.aload_n 0, 1) := by decide +kernel
theorem dX0_sendLetter_8 : decode cX0_sendLetter 8 = .ok (.getfield 52, 3) := by decide +kernel
theorem dX0_sendLetter_11 : decode cX0_sendLetter 11 = .ok (.aload_n 0, 1) := by decide +kernel
theorem dX0_sendLetter_12 : decode cX0_sendLetter 12 = .ok (.getfield 9, 3) := by decide +kernel
theorem dX0_sendLetter_15 : decode cX0_sendLetter 15 = .ok (.iconst 0, 1) := by decide +kernel
theorem dX0_sendLetter_16 : decode cX0_sendLetter 16 = .ok (.iaload, 1) := by decide +kernel
theorem dX0_sendLetter_17 : decode cX0_sendLetter 17 = .ok (.iadd, 1) := by decide +kernel
theorem dX0_sendLetter_18 : decode cX0_sendLetter 18 = .ok (.aload_n 0, 1) := by decide +kernel
theorem dX0_sendLetter_19 : decode cX0_sendLetter 19 = .ok (.getfield 9, 3) := by decide +kernel
theorem dX0_sendLetter_22 : decode cX0_sendLetter 22 = .ok (.iconst 1, 1) := by decide +kernel
theorem dX0_sendLetter_23 : decode cX0_sendLetter 23 = .ok (.iaload, 1) := by decide +kernel
theorem dX0_sendLetter_24 : decode cX0_sendLetter 24 = .ok (.invokevirtual 84, 3) := by decide +kernel
theorem dX0_sendLetter_27 : decode cX0_sendLetter 27 = .ok (.return_, 1) := by decide +kernel
theorem dX0_emptyBottle_0 : decode cX0_emptyBottle 0 = .ok (.aload_n 0, 1) := by decide +kernel
theorem dX0_emptyBottle_1 : decode cX0_emptyBottle 1 = .ok (.getfield 18, 3) := by decide +kernel
theorem dX0_emptyBottle_4 : decode cX0_emptyBottle 4 = .ok (.iload_n 1, 1) := by decide +kernel
theorem dX0_emptyBottle_5 : decode cX0_emptyBottle 5 = .ok (.dup2, 1) := by decide +kernel
theorem dX0_emptyBottle_6 : decode cX0_emptyBottle 6 = .ok (.iaload, 1) := by decide +kernel
theorem dX0_emptyBottle_7 : decode cX0_emptyBottle 7 = .ok (.iconst 1, 1) := by decide +kernel
theorem dX0_emptyBottle_8 : decode cX0_emptyBottle 8 = .ok (.isub, 1) := by decide +kernel
theorem dX0_emptyBottle_9 : decode cX0_emptyBottle 9 = .ok (.iastore, 1) := by decide +kernel
theorem dX0_emptyBottle_10 : decode cX0_emptyBottle 10 = .ok (.aload_n 0, 1) := by decide +kernel
theorem dX0_emptyBottle_11 : decode cX0_emptyBottle 11 = .ok (.getfield 21, 3) := by decide +kernel
theorem dX0_emptyBottle_14 : decode cX0_emptyBottle 14 = .ok (.iload_n 1, 1) := by decide +kernel
theorem dX0_emptyBottle_15 : decode cX0_emptyBottle 15 = .ok (.dup2, 1) := by decide +kernel
theorem dX0_emptyBottle_16 : decode cX0_emptyBottle 16 = .ok (.iaload, 1) := by decide +kernel
theorem dX0_emptyBottle_17 : decode cX0_emptyBottle 17 = .ok (.iconst 1, 1) := by decide +kernel
theorem dX0_emptyBottle_18 : decode cX0_emptyBottle 18 = .ok (.iadd, 1) := by decide +kernel
theorem dX0_emptyBottle_19 : decode cX0_emptyBottle 19 = .ok (.iastore, 1) := by decide +kernel
theorem dX0_emptyBottle_20 : decode cX0_emptyBottle 20 = .ok (.return_, 1) := by decide +kernel
theorem dX0_letGoBy_0 : decode cX0_letGoBy 0 = .ok (.iconst 0, 1) := by decide +kernel
theorem dX0_letGoBy_1 : decode cX0_letGoBy 1 = .ok (.istore_n 2, 1) := by decide +kernel
theorem dX0_letGoBy_2 : decode cX0_letGoBy 2 = .ok (.iload_n 2, 1) := by decide +kernel
theorem dX0_letGoBy_3 : decode cX0_letGoBy 3 = .ok (.iload_n 1, 1) := by decide +kernel
theorem dX0_letGoBy_4 : decode cX0_letGoBy 4 = .ok (.if_icmp .ge 31, 3) := by decide +kernel
theorem dX0_letGoBy_7 : decode cX0_letGoBy 7 = .ok (.aload_n 0, 1) := by decide +kernel
theorem dX0_letGoBy_8 : decode cX0_letGoBy 8 = .ok (.dup, 1) := by decide +kernel
theorem dX0_letGoBy_9 : decode cX0_letGoBy 9 = .ok (.getfield 52, 3) := by decide +kernel
theorem dX0_letGoBy_12 : decode cX0_letGoBy 12 = .ok (.iconst 1, 1) := by decide +kernel
theorem dX0_letGoBy_13 : decode cX0_letGoBy 13 = .ok (.iadd, 1) := by decide +kernel
theorem dX0_letGoBy_14 : decode cX0_letGoBy 14 = .ok (.putfield 52, 3) := by decide +kernel
theorem dX0_letGoBy_17 : decode cX0_letGoBy 17 = .ok (.aload_n 0, 1) := by decide +kernel
theorem dX0_letGoBy_18 : decode cX0_letGoBy 18 = .ok (.invokevirtual 88, 3) := by decide +kernel
theorem dX0_letGoBy_21 : decode cX0_letGoBy 21 = .ok (.aload_n 0, 1) := by decide +kernel
theorem dX0_letGoBy_22 : decode cX0_letGoBy 22 = .ok (.invokevirtual 91, 3) := by decide +kernel
theorem dX0_letGoBy_25 : decode cX0_letGoBy 25 = .ok (.aload_n 0, 1) := by decide +kernel
theorem dX0_letGoBy_26 : decode cX0_letGoBy 26 = .ok (.invokevirtual 94, 3) := by decide +kernel
theorem dX0_letGoBy_29 : decode cX0_letGoBy 29 = .ok (.iinc 2 1, 3) := by decide +kernel
theorem dX0_letGoBy_32 : decode cX0_letGoBy 32 = .ok (.goto (-30), 3) := by decide +kernel
theorem dX0_letGoBy_35 : decode cX0_letGoBy 35 = .ok (.return_, 1) := by decide +kernel
theorem dX0_takeInLetters_0 : decode cX0_takeInLetters 0 = .ok (.aload_n 0, 1) := by decide +kernel
theorem dX0_takeInLetters_1 : decode cX0_takeInLetters 1 = .ok (.getfield 48, 3) := by decide +kernel
theorem dX0_takeInLetters_4 : decode cX0_takeInLetters 4 = .ok (.getfield 97, 3) := by decide +kernel
theorem dX0_takeInLetters_7 : decode cX0_takeInLetters 7 = .ok (.istore_n 1, 1) := by decide +kernel
theorem dX0_takeInLetters_8 : decode cX0_takeInLetters 8 = .ok (.iconst 0, 1) := by decide +kernel
theorem dX0_takeInLetters_9 : decode cX0_takeInLetters 9 = .ok (.istore_n 2, 1) := by decide +kernel
theorem dX0_takeInLetters_10 : decode cX0_takeInLetters 10 = .ok (.iconst 0, 1) := by decide +kernel
theorem dX0_takeInLetters_11 : decode cX0_takeInLetters 11 = .ok (.istore_n 3, 1) := by decide +kernel
theorem dX0_takeInLetters_12 : decode cX0_takeInLetters 12 = .ok (.iload_n 3, 1) := by decide +kernel
theorem dX0_takeInLetters_13 : decode cX0_takeInLetters 13 = .ok (.iload_n 1, 1) := by decide +kernel
theorem dX0_takeInLetters_14 : decode cX0_takeInLetters 14 = .ok (.if_icmp .ge 88, 3) := by decide +kernel
theorem dX0_takeInLetters_17 : decode cX0_takeInLetters 17 = .ok (.iload_n 2, 1) := by decide +kernel
theorem dX0_takeInLetters_18 : decode cX0_takeInLetters 18 = .ok (.bipush 40, 2) := by decide +kernel
theorem dX0_takeInLetters_20 : decode cX0_takeInLetters 20 = .ok (.if_icmp .ge 82, 3) := by decide +kernel
theorem dX0_takeInLetters_23 : decode cX0_takeInLetters 23 = .ok (.aload_n 0, 1) := by decide +kernel
theorem dX0_takeInLetters_24 : decode cX0_takeInLetters 24 = .ok (.getfield 48, 3) := by decide +kernel
theorem dX0_takeInLetters_27 : decode cX0_takeInLetters 27 = .ok (.getfield 100, 3) := by decide +kernel
theorem dX0_takeInLetters_30 : decode cX0_takeInLetters 30 = .ok (.iload_n 2, 1) := by decide +kernel
theorem dX0_takeInLetters_31 : decode cX0_takeInLetters 31 = .ok (.iaload, 1) := by decide +kernel
theorem dX0_takeInLetters_32 : decode cX0_takeInLetters 32 = .ok (.aload_n 0, 1) := by decide +kernel
theorem dX0_takeInLetters_33 : decode cX0_takeInLetters 33 = .ok (.getfield 52, 3) := by decide +kernel
theorem dX0_takeInLetters_36 : decode cX0_takeInLetters 36 = .ok (.if_icmp .ne 57, 3) := by decide +kernel
theorem dX0_takeInLetters_39 : decode cX0_takeInLetters 39 = .ok (.aload_n 0, 1) := by decide +kernel
theorem dX0_takeInLetters_40 : decode cX0_takeInLetters 40 = .ok (.getfield 48, 3) := by decide +kernel
theorem dX0_takeInLetters_43 : decode cX0_takeInLetters 43 = .ok (.getfield 103, 3) := by decide +kernel
theorem dX0_takeInLetters_46 : decode cX0_takeInLetters 46 = .ok (.iload_n 2, 1) := by decide +kernel
theorem dX0_takeInLetters_47 : decode cX0_takeInLetters 47 = .ok (.iaload, 1) := by decide +kernel
theorem dX0_takeInLetters_48 : decode cX0_takeInLetters 48 = .ok (.istore 4, 2) := by decide +kernel
theorem dX0_takeInLetters_50 : decode cX0_takeInLetters 50 = .ok (.aload_n 0, 1) := by decide +kernel
theorem dX0_takeInLetters_51 : decode cX0_takeInLetters 51 = .ok (.getfield 48, 3) := by decide +kernel
theorem dX0_takeInLetters_54 : decode cX0_takeInLetters 54 = .ok (.getfield 106, 3) := by decide +kernel
theorem dX0_takeInLetters_57 : decode cX0_takeInLetters 57 = .ok (.iload_n 2, 1) := by decide +kernel
theorem dX0_takeInLetters_58 : decode cX0_takeInLetters 58 = .ok (.iaload, 1) := by decide +kernel
theorem dX0_takeInLetters_59 : decode cX0_takeInLetters 59 = .ok (.istore 5, 2) := by decide +kernel
theorem dX0_takeInLetters_61 : decode cX0_takeInLetters 61 = .ok (.aload_n 0, 1) := by decide +kernel
theorem dX0_takeInLetters_62 : decode cX0_takeInLetters 62 = .ok (.getfield 48, 3) := by decide +kernel
theorem dX0_takeInLetters_65 : decode cX0_takeInLetters 65 = .ok (.getfield 109, 3) := by decide +kernel
theorem dX0_takeInLetters_68 : decode cX0_takeInLetters 68 = .ok (.iload_n 2, 1) := by decide +kernel
theorem dX0_takeInLetters_69 : decode cX0_takeInLetters 69 = .ok (.iaload, 1) := by decide +kernel
theorem dX0_takeInLetters_70 : decode cX0_takeInLetters 70 = .ok (.istore 6, 2) := by decide +kernel
theorem dX0_takeInLetters_72 : decode cX0_takeInLetters 72 = .ok (.aload_n 0, 1) := by decide +kernel
theorem dX0_takeInLetters_73 : decode cX0_takeInLetters 73 = .ok (.getfield 48, 3) := by decide +kernel
theorem dX0_takeInLetters_76 : decode cX0_takeInLetters 76 = .ok (.iload_n 2, 1) := by decide +kernel
theorem dX0_takeInLetters_77 : decode cX0_takeInLetters 77 = .ok (.invokevirtual 112, 3) := by decide +kernel
theorem dX0_takeInLetters_80 : decode cX0_takeInLetters 80 = .ok (.aload_n 0, 1) := by decide +kernel
theorem dX0_takeInLetters_81 : decode cX0_takeInLetters 81 = .ok (.iload 4, 2) := by decide +kernel
theorem dX0_takeInLetters_83 : decode cX0_takeInLetters 83 = .ok (.iload 5, 2) := by decide +kernel
theorem dX0_takeInLetters_85 : decode cX0_takeInLetters 85 = .ok (.iload 6, 2) := by decide +kernel
theorem dX0_takeInLetters_87 : decode cX0_takeInLetters 87 = .ok (.invokevirtual 116, 3) := by decide +kernel
theorem dX0_takeInLetters_90 : decode cX0_takeInLetters 90 = .ok (.goto 6, 3) := by decide +kernel
theorem dX0_takeInLetters_93 : decode cX0_takeInLetters 93 = .ok (.iinc 2 1, 3) := by decide +kernel
theorem dX0_takeInLetters_96 : decode cX0_takeInLetters 96 = .ok (.iinc 3 1, 3) := by decide +kernel
theorem dX0_takeInLetters_99 : decode cX0_takeInLetters 99 = .ok (.goto (-87), 3) := by decide +kernel
theorem dX0_takeInLetters_102 : decode cX0_takeInLetters 102 = .ok (.return_, 1) := by decide +kernel
theorem dX0_readLetter_0 : decode cX0_readLetter 0 = .ok (.iload_n 1, 1) := by decide +kernel
theorem dX0_readLetter_1 : decode cX0_readLetter 1 = .ok (.tableswitch 66 0 2 #[27, 57, 36], 27) := by decide +kernel
theorem dX0_readLetter_28 : decode cX0_readLetter 28 = .ok (.aload_n 0, 1) := by decide +kernel
theorem dX0_readLetter_29 : decode cX0_readLetter 29 = .ok (.iload_n 2, 1) := by decide +kernel
theorem dX0_readLetter_30 : decode cX0_readLetter 30 = .ok (.iload_n 3, 1) := by decide +kernel
theorem dX0_readLetter_31 : decode cX0_readLetter 31 = .ok (.invokevirtual 119, 3) := by decide +kernel
theorem dX0_readLetter_34 : decode cX0_readLetter 34 = .ok (.goto 39, 3) := by decide +kernel
theorem dX0_readLetter_37 : decode cX0_readLetter 37 = .ok (.aload_n 0, 1) := by decide +kernel
theorem dX0_readLetter_38 : decode cX0_readLetter 38 = .ok (.iload_n 2, 1) := by decide +kernel
theorem dX0_readLetter_39 : decode cX0_readLetter 39 = .ok (.iload_n 3, 1) := by decide +kernel
theorem dX0_readLetter_40 : decode cX0_readLetter 40 = .ok (.invokevirtual 119, 3) := by decide +kernel
theorem dX0_readLetter_43 : decode cX0_readLetter 43 = .ok (.aload_n 0, 1) := by decide +kernel
theorem dX0_readLetter_44 : decode cX0_readLetter 44 = .ok (.iconst 3, 1) := by decide +kernel
theorem dX0_readLetter_45 : decode cX0_readLetter 45 = .ok (.iload_n 2, 1) := by decide +kernel
theorem dX0_readLetter_46 : decode cX0_readLetter 46 = .ok (.aload_n 0, 1) := by decide +kernel
theorem dX0_readLetter_47 : decode cX0_readLetter 47 = .ok (.getfield 39, 3) := by decide +kernel
theorem dX0_readLetter_50 : decode cX0_readLetter 50 = .ok (.iload_n 2, 1) := by decide +kernel
theorem dX0_readLetter_51 : decode cX0_readLetter 51 = .ok (.iaload, 1) := by decide +kernel
theorem dX0_readLetter_52 : decode cX0_readLetter 52 = .ok (.invokevirtual 80, 3) := by decide +kernel
theorem dX0_readLetter_55 : decode cX0_readLetter 55 = .ok (.goto 18, 3) := by decide +kernel
theorem dX0_readLetter_58 : decode cX0_readLetter 58 = .ok (.aload_n 0, 1) := by decide +kernel
theorem dX0_readLetter_59 : decode cX0_readLetter 59 = .ok (.iload_n 2, 1) := by decide +kernel
theorem dX0_readLetter_60 : decode cX0_readLetter 60 = .ok (.iload_n 3, 1) := by decide +kernel
theorem dX0_readLetter_61 : decode cX0_readLetter 61 = .ok (.invokevirtual 123, 3) := by decide +kernel
theorem dX0_readLetter_64 : decode cX0_readLetter 64 = .ok (.goto 9, 3) := by decide +kernel
theorem dX0_readLetter_67 : decode cX0_readLetter 67 = .ok (.aload_n 0, 1) := by decide +kernel
theorem dX0_readLetter_68 : decode cX0_readLetter 68 = .ok (.iload_n 2, 1) := by decide +kernel
theorem dX0_readLetter_69 : decode cX0_readLetter 69 = .ok (.iload_n 3, 1) := by decide +kernel
theorem dX0_readLetter_70 : decode cX0_readLetter 70 = .ok (.invokevirtual 126, 3) := by decide +kernel
theorem dX0_readLetter_73 : decode cX0_readLetter 73 = .ok (.return_, 1) := by decide +kernel
theorem dX0_tellHouse_0 : decode cX0_tellHouse 0 = .ok (.aload_n 0, 1) := by decide +kernel
theorem dX0_tellHouse_1 : decode cX0_tellHouse 1 = .ok (.getfield 36, 3) := by decide +kernel
theorem dX0_tellHouse_4 : decode cX0_tellHouse 4 = .ok (.iload_n 1, 1) := by decide +kernel
theorem dX0_tellHouse_5 : decode cX0_tellHouse 5 = .ok (.aload_n 0, 1) := by decide +kernel
theorem dX0_tellHouse_6 : decode cX0_tellHouse 6 = .ok (.getfield 36, 3) := by decide +kernel
theorem dX0_tellHouse_9 : decode cX0_tellHouse 9 = .ok (.iload_n 1, 1) := by decide +kernel
theorem dX0_tellHouse_10 : decode cX0_tellHouse 10 = .ok (.iaload, 1) := by decide +kernel
theorem dX0_tellHouse_11 : decode cX0_tellHouse 11 = .ok (.iload_n 2, 1) := by decide +kernel
theorem dX0_tellHouse_12 : decode cX0_tellHouse 12 = .ok (.invokestatic 129, 3) := by decide +kernel
theorem dX0_tellHouse_15 : decode cX0_tellHouse 15 = .ok (.iastore, 1) := by decide +kernel
theorem dX0_tellHouse_16 : decode cX0_tellHouse 16 = .ok (.return_, 1) := by decide +kernel
theorem dX0_accountForPour_0 : decode cX0_accountForPour 0 = .ok (.iload_n 2, 1) := by decide +kernel
theorem dX0_accountForPour_1 : decode cX0_accountForPour 1 = .ok (.aload_n 0, 1) := by decide +kernel
theorem dX0_accountForPour_2 : decode cX0_accountForPour 2 = .ok (.getfield 33, 3) := by decide +kernel
theorem dX0_accountForPour_5 : decode cX0_accountForPour 5 = .ok (.iload_n 1, 1) := by decide +kernel
theorem dX0_accountForPour_6 : decode cX0_accountForPour 6 = .ok (.iaload, 1) := by decide +kernel
theorem dX0_accountForPour_7 : decode cX0_accountForPour 7 = .ok (.if_icmp .le 42, 3) := by decide +kernel
theorem dX0_accountForPour_10 : decode cX0_accountForPour 10 = .ok (.aload_n 0, 1) := by decide +kernel
theorem dX0_accountForPour_11 : decode cX0_accountForPour 11 = .ok (.iload_n 1, 1) := by decide +kernel
theorem dX0_accountForPour_12 : decode cX0_accountForPour 12 = .ok (.iload_n 2, 1) := by decide +kernel
theorem dX0_accountForPour_13 : decode cX0_accountForPour 13 = .ok (.iconst 1, 1) := by decide +kernel
theorem dX0_accountForPour_14 : decode cX0_accountForPour 14 = .ok (.isub, 1) := by decide +kernel
theorem dX0_accountForPour_15 : decode cX0_accountForPour 15 = .ok (.invokevirtual 126, 3) := by decide +kernel
theorem dX0_accountForPour_18 : decode cX0_accountForPour 18 = .ok (.iload_n 1, 1) := by decide +kernel
theorem dX0_accountForPour_19 : decode cX0_accountForPour 19 = .ok (.iconst 3, 1) := by decide +kernel
theorem dX0_accountForPour_20 : decode cX0_accountForPour 20 = .ok (.irem, 1) := by decide +kernel
theorem dX0_accountForPour_21 : decode cX0_accountForPour 21 = .ok (.istore_n 3, 1) := by decide +kernel
theorem dX0_accountForPour_22 : decode cX0_accountForPour 22 = .ok (.aload_n 0, 1) := by decide +kernel
theorem dX0_accountForPour_23 : decode cX0_accountForPour 23 = .ok (.getfield 24, 3) := by decide +kernel
theorem dX0_accountForPour_26 : decode cX0_accountForPour 26 = .ok (.iload_n 3, 1) := by decide +kernel
theorem dX0_accountForPour_27 : decode cX0_accountForPour 27 = .ok (.dup2, 1) := by decide +kernel
theorem dX0_accountForPour_28 : decode cX0_accountForPour 28 = .ok (.iaload, 1) := by decide +kernel
theorem dX0_accountForPour_29 : decode cX0_accountForPour 29 = .ok (.iconst 1, 1) := by decide +kernel
theorem dX0_accountForPour_30 : decode cX0_accountForPour 30 = .ok (.iadd, 1) := by decide +kernel
theorem dX0_accountForPour_31 : decode cX0_accountForPour 31 = .ok (.iastore, 1) := by decide +kernel
theorem dX0_accountForPour_32 : decode cX0_accountForPour 32 = .ok (.aload_n 0, 1) := by decide +kernel
theorem dX0_accountForPour_33 : decode cX0_accountForPour 33 = .ok (.getfield 18, 3) := by decide +kernel
theorem dX0_accountForPour_36 : decode cX0_accountForPour 36 = .ok (.iload_n 3, 1) := by decide +kernel
theorem dX0_accountForPour_37 : decode cX0_accountForPour 37 = .ok (.dup2, 1) := by decide +kernel
theorem dX0_accountForPour_38 : decode cX0_accountForPour 38 = .ok (.iaload, 1) := by decide +kernel
theorem dX0_accountForPour_39 : decode cX0_accountForPour 39 = .ok (.iconst 1, 1) := by decide +kernel
theorem dX0_accountForPour_40 : decode cX0_accountForPour 40 = .ok (.iadd, 1) := by decide +kernel
theorem dX0_accountForPour_41 : decode cX0_accountForPour 41 = .ok (.iastore, 1) := by decide +kernel
theorem dX0_accountForPour_42 : decode cX0_accountForPour 42 = .ok (.aload_n 0, 1) := by decide +kernel
theorem dX0_accountForPour_43 : decode cX0_accountForPour 43 = .ok (.getfield 33, 3) := by decide +kernel
theorem dX0_accountForPour_46 : decode cX0_accountForPour 46 = .ok (.iload_n 1, 1) := by decide +kernel
theorem dX0_accountForPour_47 : decode cX0_accountForPour 47 = .ok (.iload_n 2, 1) := by decide +kernel
theorem dX0_accountForPour_48 : decode cX0_accountForPour 48 = .ok (.iastore, 1) := by decide +kernel
theorem dX0_accountForPour_49 : decode cX0_accountForPour 49 = .ok (.return_, 1) := by decide +kernel
theorem dX0_accountForLost_0 : decode cX0_accountForLost 0 = .ok (.iload_n 2, 1) := by decide +kernel
theorem dX0_accountForLost_1 : decode cX0_accountForLost 1 = .ok (.aload_n 0, 1) := by decide +kernel
theorem dX0_accountForLost_2 : decode cX0_accountForLost 2 = .ok (.getfield 33, 3) := by decide +kernel
theorem dX0_accountForLost_5 : decode cX0_accountForLost 5 = .ok (.iload_n 1, 1) := by decide +kernel
theorem dX0_accountForLost_6 : decode cX0_accountForLost 6 = .ok (.iaload, 1) := by decide +kernel
theorem dX0_accountForLost_7 : decode cX0_accountForLost 7 = .ok (.if_icmp .le 29, 3) := by decide +kernel
theorem dX0_accountForLost_10 : decode cX0_accountForLost 10 = .ok (.aload_n 0, 1) := by decide +kernel
theorem dX0_accountForLost_11 : decode cX0_accountForLost 11 = .ok (.getfield 27, 3) := by decide +kernel
theorem dX0_accountForLost_14 : decode cX0_accountForLost 14 = .ok (.iload_n 1, 1) := by decide +kernel
theorem dX0_accountForLost_15 : decode cX0_accountForLost 15 = .ok (.iconst 3, 1) := by decide +kernel
theorem dX0_accountForLost_16 : decode cX0_accountForLost 16 = .ok (.irem, 1) := by decide +kernel
theorem dX0_accountForLost_17 : decode cX0_accountForLost 17 = .ok (.dup2, 1) := by decide +kernel
theorem dX0_accountForLost_18 : decode cX0_accountForLost 18 = .ok (.iaload, 1) := by decide +kernel
theorem dX0_accountForLost_19 : decode cX0_accountForLost 19 = .ok (.iload_n 2, 1) := by decide +kernel
theorem dX0_accountForLost_20 : decode cX0_accountForLost 20 = .ok (.aload_n 0, 1) := by decide +kernel
theorem dX0_accountForLost_21 : decode cX0_accountForLost 21 = .ok (.getfield 33, 3) := by decide +kernel
theorem dX0_accountForLost_24 : decode cX0_accountForLost 24 = .ok (.iload_n 1, 1) := by decide +kernel
theorem dX0_accountForLost_25 : decode cX0_accountForLost 25 = .ok (.iaload, 1) := by decide +kernel
theorem dX0_accountForLost_26 : decode cX0_accountForLost 26 = .ok (.isub, 1) := by decide +kernel
theorem dX0_accountForLost_27 : decode cX0_accountForLost 27 = .ok (.iadd, 1) := by decide +kernel
theorem dX0_accountForLost_28 : decode cX0_accountForLost 28 = .ok (.iastore, 1) := by decide +kernel
theorem dX0_accountForLost_29 : decode cX0_accountForLost 29 = .ok (.aload_n 0, 1) := by decide +kernel
theorem dX0_accountForLost_30 : decode cX0_accountForLost 30 = .ok (.getfield 33, 3) := by decide +kernel
theorem dX0_accountForLost_33 : decode cX0_accountForLost 33 = .ok (.iload_n 1, 1) := by decide +kernel
theorem dX0_accountForLost_34 : decode cX0_accountForLost 34 = .ok (.iload_n 2, 1) := by decide +kernel
theorem dX0_accountForLost_35 : decode cX0_accountForLost 35 = .ok (.iastore, 1) := by decide +kernel
theorem dX0_accountForLost_36 : decode cX0_accountForLost 36 = .ok (.return_, 1) := by decide +kernel
theorem dX0_letHousesPour_0 : decode cX0_letHousesPour 0 = .ok (.iconst 0, 1) := by decide +kernel
theorem dX0_letHousesPour_1 : decode cX0_letHousesPour 1 = .ok (.istore_n 1, 1) := by decide +kernel
theorem dX0_letHousesPour_2 : decode cX0_letHousesPour 2 = .ok (.iload_n 1, 1) := by decide +kernel
theorem dX0_letHousesPour_3 : decode cX0_letHousesPour 3 = .ok (.bipush 12, 2) := by decide +kernel
theorem dX0_letHousesPour_5 : decode cX0_letHousesPour 5 = .ok (.if_icmp .ge 49, 3) := by decide +kernel
theorem dX0_letHousesPour_8 : decode cX0_letHousesPour 8 = .ok (.aload_n 0, 1) := by decide +kernel
theorem dX0_letHousesPour_9 : decode cX0_letHousesPour 9 = .ok (.iload_n 1, 1) := by decide +kernel
theorem dX0_letHousesPour_10 : decode cX0_letHousesPour 10 = .ok (.invokevirtual 135, 3) := by decide +kernel
theorem dX0_letHousesPour_13 : decode cX0_letHousesPour 13 = .ok (.ifCond .ne 35, 3) := by decide +kernel
theorem dX0_letHousesPour_16 : decode cX0_letHousesPour 16 = .ok (.aload_n 0, 1) := by decide +kernel
theorem dX0_letHousesPour_17 : decode cX0_letHousesPour 17 = .ok (.getfield 42, 3) := by decide +kernel
theorem dX0_letHousesPour_20 : decode cX0_letHousesPour 20 = .ok (.iload_n 1, 1) := by decide +kernel
theorem dX0_letHousesPour_21 : decode cX0_letHousesPour 21 = .ok (.dup2, 1) := by decide +kernel
theorem dX0_letHousesPour_22 : decode cX0_letHousesPour 22 = .ok (.iaload, 1) := by decide +kernel
theorem dX0_letHousesPour_23 : decode cX0_letHousesPour 23 = .ok (.iconst 1, 1) := by decide +kernel
theorem dX0_letHousesPour_24 : decode cX0_letHousesPour 24 = .ok (.isub, 1) := by decide +kernel
theorem dX0_letHousesPour_25 : decode cX0_letHousesPour 25 = .ok (.iastore, 1) := by decide +kernel
theorem dX0_letHousesPour_26 : decode cX0_letHousesPour 26 = .ok (.aload_n 0, 1) := by decide +kernel
theorem dX0_letHousesPour_27 : decode cX0_letHousesPour 27 = .ok (.getfield 39, 3) := by decide +kernel
theorem dX0_letHousesPour_30 : decode cX0_letHousesPour 30 = .ok (.iload_n 1, 1) := by decide +kernel
theorem dX0_letHousesPour_31 : decode cX0_letHousesPour 31 = .ok (.dup2, 1) := by decide +kernel
theorem dX0_letHousesPour_32 : decode cX0_letHousesPour 32 = .ok (.iaload, 1) := by decide +kernel
theorem dX0_letHousesPour_33 : decode cX0_letHousesPour 33 = .ok (.iconst 1, 1) := by decide +kernel
theorem dX0_letHousesPour_34 : decode cX0_letHousesPour 34 = .ok (.iadd, 1) := by decide +kernel
theorem dX0_letHousesPour_35 : decode cX0_letHousesPour 35 = .ok (.iastore, 1) := by decide +kernel
theorem dX0_letHousesPour_36 : decode cX0_letHousesPour 36 = .ok (.aload_n 0, 1) := by decide +kernel
theorem dX0_letHousesPour_37 : decode cX0_letHousesPour 37 = .ok (.iconst 1, 1) := by decide +kernel
theorem dX0_letHousesPour_38 : decode cX0_letHousesPour 38 = .ok (.iload_n 1, 1) := by decide +kernel
theorem dX0_letHousesPour_39 : decode cX0_letHousesPour 39 = .ok (.aload_n 0, 1) := by decide +kernel
theorem dX0_letHousesPour_40 : decode cX0_letHousesPour 40 = .ok (.getfield 39, 3) := by decide +kernel
theorem dX0_letHousesPour_43 : decode cX0_letHousesPour 43 = .ok (.iload_n 1, 1) := by decide +kernel
theorem dX0_letHousesPour_44 : decode cX0_letHousesPour 44 = .ok (.iaload, 1) := by decide +kernel
theorem dX0_letHousesPour_45 : decode cX0_letHousesPour 45 = .ok (.invokevirtual 80, 3) := by decide +kernel
theorem dX0_letHousesPour_48 : decode cX0_letHousesPour 48 = .ok (.iinc 1 1, 3) := by decide +kernel
theorem dX0_letHousesPour_51 : decode cX0_letHousesPour 51 = .ok (.goto (-49), 3) := by decide +kernel
theorem dX0_letHousesPour_54 : decode cX0_letHousesPour 54 = .ok (.return_, 1) := by decide +kernel
theorem dX0_whyNoPour_0 : decode cX0_whyNoPour 0 = .ok (.aload_n 0, 1) := by decide +kernel
theorem dX0_whyNoPour_1 : decode cX0_whyNoPour 1 = .ok (.getfield 42, 3) := by decide +kernel
theorem dX0_whyNoPour_4 : decode cX0_whyNoPour 4 = .ok (.iload_n 1, 1) := by decide +kernel
theorem dX0_whyNoPour_5 : decode cX0_whyNoPour 5 = .ok (.iaload, 1) := by decide +kernel
theorem dX0_whyNoPour_6 : decode cX0_whyNoPour 6 = .ok (.ifCond .gt 5, 3) := by decide +kernel
theorem dX0_whyNoPour_9 : decode cX0_whyNoPour 9 = .ok (.iconst 1, 1) := by decide +kernel
theorem dX0_whyNoPour_10 : decode cX0_whyNoPour 10 = .ok (.ireturn, 1) := by decide +kernel
theorem dX0_whyNoPour_11 : decode cX0_whyNoPour 11 = .ok (.aload_n 0, 1) := by decide +kernel
theorem dX0_whyNoPour_12 : decode cX0_whyNoPour 12 = .ok (.iload_n 1, 1) := by decide +kernel
theorem dX0_whyNoPour_13 : decode cX0_whyNoPour 13 = .ok (.invokevirtual 138, 3) := by decide +kernel
theorem dX0_whyNoPour_16 : decode cX0_whyNoPour 16 = .ok (.ifCond .gt 17, 3) := by decide +kernel
theorem dX0_whyNoPour_19 : decode cX0_whyNoPour 19 = .ok (.aload_n 0, 1) := by decide +kernel
theorem dX0_whyNoPour_20 : decode cX0_whyNoPour 20 = .ok (.iload_n 1, 1) := by decide +kernel
theorem dX0_whyNoPour_21 : decode cX0_whyNoPour 21 = .ok (.invokevirtual 141, 3) := by decide +kernel
theorem dX0_whyNoPour_24 : decode cX0_whyNoPour 24 = .ok (.ifCond .gt 7, 3) := by decide +kernel
theorem dX0_whyNoPour_27 : decode cX0_whyNoPour 27 = .ok (.iconst 2, 1) := by decide +kernel
theorem dX0_whyNoPour_28 : decode cX0_whyNoPour 28 = .ok (.goto 4, 3) := by decide +kernel
theorem dX0_whyNoPour_31 : decode cX0_whyNoPour 31 = .ok (.iconst 3, 1) := by decide +kernel
theorem dX0_whyNoPour_32 : decode cX0_whyNoPour 32 = .ok (.ireturn, 1) := by decide +kernel
theorem dX0_whyNoPour_33 : decode cX0_whyNoPour 33 = .ok (.aload_n 0, 1) := by decide +kernel
theorem dX0_whyNoPour_34 : decode cX0_whyNoPour 34 = .ok (.getfield 48, 3) := by decide +kernel
theorem dX0_whyNoPour_37 : decode cX0_whyNoPour 37 = .ok (.invokevirtual 76, 3) := by decide +kernel
theorem dX0_whyNoPour_40 : decode cX0_whyNoPour 40 = .ok (.ifCond .eq 7, 3) := by decide +kernel
theorem dX0_whyNoPour_43 : decode cX0_whyNoPour 43 = .ok (.iconst 0, 1) := by decide +kernel
theorem dX0_whyNoPour_44 : decode cX0_whyNoPour 44 = .ok (.goto 4, 3) := by decide +kernel
theorem dX0_whyNoPour_47 : decode cX0_whyNoPour 47 = .ok (.iconst 4, 1) := by decide +kernel
theorem dX0_whyNoPour_48 : decode cX0_whyNoPour 48 = .ok (.ireturn, 1) := by decide +kernel
theorem dX0_lendByItself_0 : decode cX0_lendByItself 0 = .ok (.iconst 0, 1) := by decide +kernel
theorem dX0_lendByItself_1 : decode cX0_lendByItself 1 = .ok (.istore_n 1, 1) := by decide +kernel
theorem dX0_lendByItself_2 : decode cX0_lendByItself 2 = .ok (.iload_n 1, 1) := by decide +kernel
theorem dX0_lendByItself_3 : decode cX0_lendByItself 3 = .ok (.aload_n 0, 1) := by decide +kernel
theorem dX0_lendByItself_4 : decode cX0_lendByItself 4 = .ok (.getfield 56, 3) := by decide +kernel
theorem dX0_lendByItself_7 : decode cX0_lendByItself 7 = .ok (.iconst 3, 1) := by decide +kernel
theorem dX0_lendByItself_8 : decode cX0_lendByItself 8 = .ok (.imul, 1) := by decide +kernel
theorem dX0_lendByItself_9 : decode cX0_lendByItself 9 = .ok (.if_icmp .ge 44, 3) := by decide +kernel
theorem dX0_lendByItself_12 : decode cX0_lendByItself 12 = .ok (.iload_n 1, 1) := by decide +kernel
theorem dX0_lendByItself_13 : decode cX0_lendByItself 13 = .ok (.bipush 12, 2) := by decide +kernel
theorem dX0_lendByItself_15 : decode cX0_lendByItself 15 = .ok (.if_icmp .ge 38, 3) := by decide +kernel
theorem dX0_lendByItself_18 : decode cX0_lendByItself 18 = .ok (.aload_n 0, 1) := by decide +kernel
theorem dX0_lendByItself_19 : decode cX0_lendByItself 19 = .ok (.iload_n 1, 1) := by decide +kernel
theorem dX0_lendByItself_20 : decode cX0_lendByItself 20 = .ok (.invokevirtual 141, 3) := by decide +kernel
theorem dX0_lendByItself_23 : decode cX0_lendByItself 23 = .ok (.aload_n 0, 1) := by decide +kernel
theorem dX0_lendByItself_24 : decode cX0_lendByItself 24 = .ok (.getfield 9, 3) := by decide +kernel
theorem dX0_lendByItself_27 : decode cX0_lendByItself 27 = .ok (.iconst 2, 1) := by decide +kernel
theorem dX0_lendByItself_28 : decode cX0_lendByItself 28 = .ok (.iaload, 1) := by decide +kernel
theorem dX0_lendByItself_29 : decode cX0_lendByItself 29 = .ok (.if_icmp .ge 18, 3) := by decide +kernel
theorem dX0_lendByItself_32 : decode cX0_lendByItself 32 = .ok (.aload_n 0, 1) := by decide +kernel
theorem dX0_lendByItself_33 : decode cX0_lendByItself 33 = .ok (.iload_n 1, 1) := by decide +kernel
theorem dX0_lendByItself_34 : decode cX0_lendByItself 34 = .ok (.iconst 3, 1) := by decide +kernel
theorem dX0_lendByItself_35 : decode cX0_lendByItself 35 = .ok (.irem, 1) := by decide +kernel
theorem dX0_lendByItself_36 : decode cX0_lendByItself 36 = .ok (.invokevirtual 144, 3) := by decide +kernel
theorem dX0_lendByItself_39 : decode cX0_lendByItself 39 = .ok (.ifCond .eq 8, 3) := by decide +kernel
theorem dX0_lendByItself_42 : decode cX0_lendByItself 42 = .ok (.aload_n 0, 1) := by decide +kernel
theorem dX0_lendByItself_43 : decode cX0_lendByItself 43 = .ok (.iload_n 1, 1) := by decide +kernel
theorem dX0_lendByItself_44 : decode cX0_lendByItself 44 = .ok (.invokevirtual 148, 3) := by decide +kernel
theorem dX0_lendByItself_47 : decode cX0_lendByItself 47 = .ok (.iinc 1 1, 3) := by decide +kernel
theorem dX0_lendByItself_50 : decode cX0_lendByItself 50 = .ok (.goto (-48), 3) := by decide +kernel
theorem dX0_lendByItself_53 : decode cX0_lendByItself 53 = .ok (.return_, 1) := by decide +kernel
theorem dX0_needOf_0 : decode cX0_needOf 0 = .ok (.iconst 0, 1) := by decide +kernel
theorem dX0_needOf_1 : decode cX0_needOf 1 = .ok (.istore_n 2, 1) := by decide +kernel
theorem dX0_needOf_2 : decode cX0_needOf 2 = .ok (.iconst 0, 1) := by decide +kernel
theorem dX0_needOf_3 : decode cX0_needOf 3 = .ok (.istore_n 3, 1) := by decide +kernel
theorem dX0_needOf_4 : decode cX0_needOf 4 = .ok (.iload_n 3, 1) := by decide +kernel
theorem dX0_needOf_5 : decode cX0_needOf 5 = .ok (.iconst 3, 1) := by decide +kernel
theorem dX0_needOf_6 : decode cX0_needOf 6 = .ok (.if_icmp .ge 37, 3) := by decide +kernel
theorem dX0_needOf_9 : decode cX0_needOf 9 = .ok (.iload_n 1, 1) := by decide +kernel
theorem dX0_needOf_10 : decode cX0_needOf 10 = .ok (.iload_n 3, 1) := by decide +kernel
theorem dX0_needOf_11 : decode cX0_needOf 11 = .ok (.invokestatic 151, 3) := by decide +kernel
theorem dX0_needOf_14 : decode cX0_needOf 14 = .ok (.istore 4, 2) := by decide +kernel
theorem dX0_needOf_16 : decode cX0_needOf 16 = .ok (.iload_n 2, 1) := by decide +kernel
theorem dX0_needOf_17 : decode cX0_needOf 17 = .ok (.iconst 0, 1) := by decide +kernel
theorem dX0_needOf_18 : decode cX0_needOf 18 = .ok (.aload_n 0, 1) := by decide +kernel
theorem dX0_needOf_19 : decode cX0_needOf 19 = .ok (.getfield 42, 3) := by decide +kernel
theorem dX0_needOf_22 : decode cX0_needOf 22 = .ok (.iload 4, 2) := by decide +kernel
theorem dX0_needOf_24 : decode cX0_needOf 24 = .ok (.iaload, 1) := by decide +kernel
theorem dX0_needOf_25 : decode cX0_needOf 25 = .ok (.aload_n 0, 1) := by decide +kernel
theorem dX0_needOf_26 : decode cX0_needOf 26 = .ok (.iload 4, 2) := by decide +kernel
theorem dX0_needOf_28 : decode cX0_needOf 28 = .ok (.invokevirtual 138, 3) := by decide +kernel
theorem dX0_needOf_31 : decode cX0_needOf 31 = .ok (.isub, 1) := by decide +kernel
theorem dX0_needOf_32 : decode cX0_needOf 32 = .ok (.invokestatic 129, 3) := by decide +kernel
theorem dX0_needOf_35 : decode cX0_needOf 35 = .ok (.iadd, 1) := by decide +kernel
theorem dX0_needOf_36 : decode cX0_needOf 36 = .ok (.istore_n 2, 1) := by decide +kernel
theorem dX0_needOf_37 : decode cX0_needOf 37 = .ok (.iinc 3 1, 3) := by decide +kernel
theorem dX0_needOf_40 : decode cX0_needOf 40 = .ok (.goto (-36), 3) := by decide +kernel
theorem dX0_needOf_43 : decode cX0_needOf 43 = .ok (.iload_n 2, 1) := by decide +kernel
theorem dX0_needOf_44 : decode cX0_needOf 44 = .ok (.ireturn, 1) := by decide +kernel
theorem dX0_kindNumber_0 : decode cX0_kindNumber 0 = .ok (.iload_n 2, 1) := by decide +kernel
theorem dX0_kindNumber_1 : decode cX0_kindNumber 1 = .ok (.tableswitch 79 0 5 #[39, 46, 53, 59, 65, 72], 39) := by decide +kernel
theorem dX0_kindNumber_40 : decode cX0_kindNumber 40 = .ok (.aload_n 0, 1) := by decide +kernel
theorem dX0_kindNumber_41 : decode cX0_kindNumber 41 = .ok (.getfield 15, 3) := by decide +kernel
theorem dX0_kindNumber_44 : decode cX0_kindNumber 44 = .ok (.iload_n 1, 1) := by decide +kernel
theorem dX0_kindNumber_45 : decode cX0_kindNumber 45 = .ok (.iaload, 1) := by decide +kernel
theorem dX0_kindNumber_46 : decode cX0_kindNumber 46 = .ok (.ireturn, 1) := by decide +kernel
theorem dX0_kindNumber_47 : decode cX0_kindNumber 47 = .ok (.aload_n 0, 1) := by decide +kernel
theorem dX0_kindNumber_48 : decode cX0_kindNumber 48 = .ok (.getfield 18, 3) := by decide +kernel
theorem dX0_kindNumber_51 : decode cX0_kindNumber 51 = .ok (.iload_n 1, 1) := by decide +kernel
theorem dX0_kindNumber_52 : decode cX0_kindNumber 52 = .ok (.iaload, 1) := by decide +kernel
theorem dX0_kindNumber_53 : decode cX0_kindNumber 53 = .ok (.ireturn, 1) := by decide +kernel
theorem dX0_kindNumber_54 : decode cX0_kindNumber 54 = .ok (.aload_n 0, 1) := by decide +kernel
theorem dX0_kindNumber_55 : decode cX0_kindNumber 55 = .ok (.iload_n 1, 1) := by decide +kernel
theorem dX0_kindNumber_56 : decode cX0_kindNumber 56 = .ok (.invokevirtual 69, 3) := by decide +kernel
theorem dX0_kindNumber_59 : decode cX0_kindNumber 59 = .ok (.ireturn, 1) := by decide +kernel
theorem dX0_kindNumber_60 : decode cX0_kindNumber 60 = .ok (.aload_n 0, 1) := by decide +kernel
theorem dX0_kindNumber_61 : decode cX0_kindNumber 61 = .ok (.iload_n 1, 1) := by decide +kernel
theorem dX0_kindNumber_62 : decode cX0_kindNumber 62 = .ok (.invokevirtual 73, 3) := by decide +kernel
theorem dX0_kindNumber_65 : decode cX0_kindNumber 65 = .ok (.ireturn, 1) := by decide +kernel
theorem dX0_kindNumber_66 : decode cX0_kindNumber 66 = .ok (.aload_n 0, 1) := by decide +kernel
theorem dX0_kindNumber_67 : decode cX0_kindNumber 67 = .ok (.getfield 21, 3) := by decide +kernel
theorem dX0_kindNumber_70 : decode cX0_kindNumber 70 = .ok (.iload_n 1, 1) := by decide +kernel
theorem dX0_kindNumber_71 : decode cX0_kindNumber 71 = .ok (.iaload, 1) := by decide +kernel
theorem dX0_kindNumber_72 : decode cX0_kindNumber 72 = .ok (.ireturn, 1) := by decide +kernel
theorem dX0_kindNumber_73 : decode cX0_kindNumber 73 = .ok (.aload_n 0, 1) := by decide +kernel
theorem dX0_kindNumber_74 : decode cX0_kindNumber 74 = .ok (.getfield 24, 3) := by decide +kernel
theorem dX0_kindNumber_77 : decode cX0_kindNumber 77 = .ok (.iload_n 1, 1) := by decide +kernel
theorem dX0_kindNumber_78 : decode cX0_kindNumber 78 = .ok (.iaload, 1) := by decide +kernel
theorem dX0_kindNumber_79 : decode cX0_kindNumber 79 = .ok (.ireturn, 1) := by decide +kernel
theorem dX0_kindNumber_80 : decode cX0_kindNumber 80 = .ok (.aload_n 0, 1) := by decide +kernel
theorem dX0_kindNumber_81 : decode cX0_kindNumber 81 = .ok (.getfield 27, 3) := by decide +kernel
theorem dX0_kindNumber_84 : decode cX0_kindNumber 84 = .ok (.iload_n 1, 1) := by decide +kernel
theorem dX0_kindNumber_85 : decode cX0_kindNumber 85 = .ok (.iaload, 1) := by decide +kernel
theorem dX0_kindNumber_86 : decode cX0_kindNumber 86 = .ok (.ireturn, 1) := by decide +kernel
theorem dX0_placeNumber_0 : decode cX0_placeNumber 0 = .ok (.iload_n 2, 1) := by decide +kernel
theorem dX0_placeNumber_1 : decode cX0_placeNumber 1 = .ok (.tableswitch 118 0 8 #[51, 58, 65, 71, 78, 85, 91, 98, 104], 51) := by decide +kernel
theorem dX0_placeNumber_52 : decode cX0_placeNumber 52 = .ok (.aload_n 0, 1) := by decide +kernel
theorem dX0_placeNumber_53 : decode cX0_placeNumber 53 = .ok (.getfield 30, 3) := by decide +kernel
theorem dX0_placeNumber_56 : decode cX0_placeNumber 56 = .ok (.iload_n 1, 1) := by decide +kernel
theorem dX0_placeNumber_57 : decode cX0_placeNumber 57 = .ok (.iaload, 1) := by decide +kernel
theorem dX0_placeNumber_58 : decode cX0_placeNumber 58 = .ok (.ireturn, 1) := by decide +kernel
theorem dX0_placeNumber_59 : decode cX0_placeNumber 59 = .ok (.aload_n 0, 1) := by decide +kernel
theorem dX0_placeNumber_60 : decode cX0_placeNumber 60 = .ok (.getfield 33, 3) := by decide +kernel
theorem dX0_placeNumber_63 : decode cX0_placeNumber 63 = .ok (.iload_n 1, 1) := by decide +kernel
theorem dX0_placeNumber_64 : decode cX0_placeNumber 64 = .ok (.iaload, 1) := by decide +kernel
theorem dX0_placeNumber_65 : decode cX0_placeNumber 65 = .ok (.ireturn, 1) := by decide +kernel
theorem dX0_placeNumber_66 : decode cX0_placeNumber 66 = .ok (.aload_n 0, 1) := by decide +kernel
theorem dX0_placeNumber_67 : decode cX0_placeNumber 67 = .ok (.iload_n 1, 1) := by decide +kernel
theorem dX0_placeNumber_68 : decode cX0_placeNumber 68 = .ok (.invokevirtual 141, 3) := by decide +kernel
theorem dX0_placeNumber_71 : decode cX0_placeNumber 71 = .ok (.ireturn, 1) := by decide +kernel
theorem dX0_placeNumber_72 : decode cX0_placeNumber 72 = .ok (.aload_n 0, 1) := by decide +kernel
theorem dX0_placeNumber_73 : decode cX0_placeNumber 73 = .ok (.getfield 36, 3) := by decide +kernel
theorem dX0_placeNumber_76 : decode cX0_placeNumber 76 = .ok (.iload_n 1, 1) := by decide +kernel
theorem dX0_placeNumber_77 : decode cX0_placeNumber 77 = .ok (.iaload, 1) := by decide +kernel
theorem dX0_placeNumber_78 : decode cX0_placeNumber 78 = .ok (.ireturn, 1) := by decide +kernel
theorem dX0_placeNumber_79 : decode cX0_placeNumber 79 = .ok (.aload_n 0, 1) := by decide +kernel
theorem dX0_placeNumber_80 : decode cX0_placeNumber 80 = .ok (.getfield 39, 3) := by decide +kernel
theorem dX0_placeNumber_83 : decode cX0_placeNumber 83 = .ok (.iload_n 1, 1) := by decide +kernel
theorem dX0_placeNumber_84 : decode cX0_placeNumber 84 = .ok (.iaload, 1) := by decide +kernel
theorem dX0_placeNumber_85 : decode cX0_placeNumber 85 = .ok (.ireturn, 1) := by decide +kernel
theorem dX0_placeNumber_86 : decode cX0_placeNumber 86 = .ok (.aload_n 0, 1) := by decide +kernel
theorem dX0_placeNumber_87 : decode cX0_placeNumber 87 = .ok (.iload_n 1, 1) := by decide +kernel
theorem dX0_placeNumber_88 : decode cX0_placeNumber 88 = .ok (.invokevirtual 138, 3) := by decide +kernel
theorem dX0_placeNumber_91 : decode cX0_placeNumber 91 = .ok (.ireturn, 1) := by decide +kernel
theorem dX0_placeNumber_92 : decode cX0_placeNumber 92 = .ok (.aload_n 0, 1) := by decide +kernel
theorem dX0_placeNumber_93 : decode cX0_placeNumber 93 = .ok (.getfield 42, 3) := by decide +kernel
theorem dX0_placeNumber_96 : decode cX0_placeNumber 96 = .ok (.iload_n 1, 1) := by decide +kernel
theorem dX0_placeNumber_97 : decode cX0_placeNumber 97 = .ok (.iaload, 1) := by decide +kernel
theorem dX0_placeNumber_98 : decode cX0_placeNumber 98 = .ok (.ireturn, 1) := by decide +kernel
theorem dX0_placeNumber_99 : decode cX0_placeNumber 99 = .ok (.aload_n 0, 1) := by decide +kernel
theorem dX0_placeNumber_100 : decode cX0_placeNumber 100 = .ok (.iload_n 1, 1) := by decide +kernel
theorem dX0_placeNumber_101 : decode cX0_placeNumber 101 = .ok (.invokevirtual 135, 3) := by decide +kernel
theorem dX0_placeNumber_104 : decode cX0_placeNumber 104 = .ok (.ireturn, 1) := by decide +kernel
theorem dX0_placeNumber_105 : decode cX0_placeNumber 105 = .ok (.aload_n 0, 1) := by decide +kernel
theorem dX0_placeNumber_106 : decode cX0_placeNumber 106 = .ok (.getfield 30, 3) := by decide +kernel
theorem dX0_placeNumber_109 : decode cX0_placeNumber 109 = .ok (.iload_n 1, 1) := by decide +kernel
theorem dX0_placeNumber_110 : decode cX0_placeNumber 110 = .ok (.iaload, 1) := by decide +kernel
theorem dX0_placeNumber_111 : decode cX0_placeNumber 111 = .ok (.aload_n 0, 1) := by decide +kernel
theorem dX0_placeNumber_112 : decode cX0_placeNumber 112 = .ok (.getfield 36, 3) := by decide +kernel
theorem dX0_placeNumber_115 : decode cX0_placeNumber 115 = .ok (.iload_n 1, 1) := by decide +kernel
theorem dX0_placeNumber_116 : decode cX0_placeNumber 116 = .ok (.iaload, 1) := by decide +kernel
theorem dX0_placeNumber_117 : decode cX0_placeNumber 117 = .ok (.isub, 1) := by decide +kernel
theorem dX0_placeNumber_118 : decode cX0_placeNumber 118 = .ok (.ireturn, 1) := by decide +kernel
theorem dX0_placeNumber_119 : decode cX0_placeNumber 119 = .ok (.aload_n 0, 1) := by decide +kernel
theorem dX0_placeNumber_120 : decode cX0_placeNumber 120 = .ok (.getfield 39, 3) := by decide +kernel
theorem dX0_placeNumber_123 : decode cX0_placeNumber 123 = .ok (.iload_n 1, 1) := by decide +kernel
theorem dX0_placeNumber_124 : decode cX0_placeNumber 124 = .ok (.iaload, 1) := by decide +kernel
theorem dX0_placeNumber_125 : decode cX0_placeNumber 125 = .ok (.aload_n 0, 1) := by decide +kernel
theorem dX0_placeNumber_126 : decode cX0_placeNumber 126 = .ok (.getfield 33, 3) := by decide +kernel
theorem dX0_placeNumber_129 : decode cX0_placeNumber 129 = .ok (.iload_n 1, 1) := by decide +kernel
theorem dX0_placeNumber_130 : decode cX0_placeNumber 130 = .ok (.iaload, 1) := by decide +kernel
theorem dX0_placeNumber_131 : decode cX0_placeNumber 131 = .ok (.isub, 1) := by decide +kernel
theorem dX0_placeNumber_132 : decode cX0_placeNumber 132 = .ok (.ireturn, 1) := by decide +kernel
theorem dX1_init_0 : decode cX1_init 0 = .ok (.aload_n 0, 1) := by decide +kernel
theorem dX1_init_1 : decode cX1_init 1 = .ok (.invokespecial 3, 3) := by decide +kernel
theorem dX1_init_4 : decode cX1_init 4 = .ok (.aload_n 0, 1) := by decide +kernel
theorem dX1_init_5 : decode cX1_init 5 = .ok (.bipush 60, 2) := by decide +kernel
theorem dX1_init_7 : decode cX1_init 7 = .ok (.newarray .int, 2) := by decide +kernel
theorem dX1_init_9 : decode cX1_init 9 = .ok (.putfield 9, 3) := by decide +kernel
theorem dX1_init_12 : decode cX1_init 12 = .ok (.return_, 1) := by decide +kernel
theorem dX1_sign_0 : decode cX1_sign 0 = .ok (.iload_n 1, 1) := by decide +kernel
theorem dX1_sign_1 : decode cX1_sign 1 = .ok (.ifCond .lt 26, 3) := by decide +kernel
theorem dX1_sign_4 : decode cX1_sign 4 = .ok (.iload_n 1, 1) := by decide +kernel
theorem dX1_sign_5 : decode cX1_sign 5 = .ok (.aload_n 0, 1) := by decide +kernel
theorem dX1_sign_6 : decode cX1_sign 6 = .ok (.getfield 15, 3) := by decide +kernel
theorem dX1_sign_9 : decode cX1_sign 9 = .ok (.if_icmp .ge 18, 3) := by decide +kernel
theorem dX1_sign_12 : decode cX1_sign 12 = .ok (.iload_n 1, 1) := by decide +kernel
theorem dX1_sign_13 : decode cX1_sign 13 = .ok (.bipush 60, 2) := by decide +kernel
theorem dX1_sign_15 : decode cX1_sign 15 = .ok (.if_icmp .ge 12, 3) := by decide +kernel
theorem dX1_sign_18 : decode cX1_sign 18 = .ok (.aload_n 0, 1) := by decide +kernel
theorem dX1_sign_19 : decode cX1_sign 19 = .ok (.getfield 9, 3) := by decide +kernel
theorem dX1_sign_22 : decode cX1_sign 22 = .ok (.iload_n 1, 1) := by decide +kernel
theorem dX1_sign_23 : decode cX1_sign 23 = .ok (.iaload, 1) := by decide +kernel
theorem dX1_sign_24 : decode cX1_sign 24 = .ok (.goto 4, 3) := by decide +kernel
theorem dX1_sign_27 : decode cX1_sign 27 = .ok (.iconst (-1), 1) := by decide +kernel
theorem dX1_sign_28 : decode cX1_sign 28 = .ok (.ireturn, 1) := by decide +kernel
theorem dX1_digit_0 : decode cX1_digit 0 = .ok (.aload_n 0, 1) := by decide +kernel
theorem dX1_digit_1 : decode cX1_digit 1 = .ok (.iload_n 1, 1) := by decide +kernel
theorem dX1_digit_2 : decode cX1_digit 2 = .ok (.invokevirtual 19, 3) := by decide +kernel
theorem dX1_digit_5 : decode cX1_digit 5 = .ok (.istore_n 2, 1) := by decide +kernel
theorem dX1_digit_6 : decode cX1_digit 6 = .ok (.iload_n 2, 1) := by decide +kernel
theorem dX1_digit_7 : decode cX1_digit 7 = .ok (.bipush 48, 2) := by decide +kernel
theorem dX1_digit_9 : decode cX1_digit 9 = .ok (.if_icmp .lt 16, 3) := by decide +kernel
theorem dX1_digit_12 : decode cX1_digit 12 = .ok (.iload_n 2, 1) := by decide +kernel
theorem dX1_digit_13 : decode cX1_digit 13 = .ok (.bipush 57, 2) := by decide +kernel
theorem dX1_digit_15 : decode cX1_digit 15 = .ok (.if_icmp .gt 10, 3) := by decide +kernel
theorem dX1_digit_18 : decode cX1_digit 18 = .ok (.iload_n 2, 1) := by decide +kernel
theorem dX1_digit_19 : decode cX1_digit 19 = .ok (.bipush 48, 2) := by decide +kernel
theorem dX1_digit_21 : decode cX1_digit 21 = .ok (.isub, 1) := by decide +kernel
theorem dX1_digit_22 : decode cX1_digit 22 = .ok (.goto 4, 3) := by decide +kernel
theorem dX1_digit_25 : decode cX1_digit 25 = .ok (.iconst (-1), 1) := by decide +kernel
theorem dX1_digit_26 : decode cX1_digit 26 = .ok (.ireturn, 1) := by decide +kernel
theorem dX1_orderLength_0 : decode cX1_orderLength 0 = .ok (.aload_n 0, 1) := by decide +kernel
theorem dX1_orderLength_1 : decode cX1_orderLength 1 = .ok (.iload_n 1, 1) := by decide +kernel
theorem dX1_orderLength_2 : decode cX1_orderLength 2 = .ok (.invokevirtual 19, 3) := by decide +kernel
theorem dX1_orderLength_5 : decode cX1_orderLength 5 = .ok (.istore_n 2, 1) := by decide +kernel
theorem dX1_orderLength_6 : decode cX1_orderLength 6 = .ok (.iload_n 2, 1) := by decide +kernel
theorem dX1_orderLength_7 : decode cX1_orderLength 7 = .ok (.bipush 100, 2) := by decide +kernel
theorem dX1_orderLength_9 : decode cX1_orderLength 9 = .ok (.if_icmp .eq 9, 3) := by decide +kernel
theorem dX1_orderLength_12 : decode cX1_orderLength 12 = .ok (.iload_n 2, 1) := by decide +kernel
theorem dX1_orderLength_13 : decode cX1_orderLength 13 = .ok (.bipush 116, 2) := by decide +kernel
theorem dX1_orderLength_15 : decode cX1_orderLength 15 = .ok (.if_icmp .ne 7, 3) := by decide +kernel
theorem dX1_orderLength_18 : decode cX1_orderLength 18 = .ok (.iconst 2, 1) := by decide +kernel
theorem dX1_orderLength_19 : decode cX1_orderLength 19 = .ok (.goto 4, 3) := by decide +kernel
theorem dX1_orderLength_22 : decode cX1_orderLength 22 = .ok (.iconst 3, 1) := by decide +kernel
theorem dX1_orderLength_23 : decode cX1_orderLength 23 = .ok (.ireturn, 1) := by decide +kernel
theorem dX1_firstWrongSign_0 : decode cX1_firstWrongSign 0 = .ok (.iconst 0, 1) := by decide +kernel
theorem dX1_firstWrongSign_1 : decode cX1_firstWrongSign 1 = .ok (.istore_n 1, 1) := by decide +kernel
theorem dX1_firstWrongSign_2 : decode cX1_firstWrongSign 2 = .ok (.iconst 0, 1) := by decide +kernel
theorem dX1_firstWrongSign_3 : decode cX1_firstWrongSign 3 = .ok (.istore_n 2, 1) := by decide +kernel
theorem dX1_firstWrongSign_4 : decode cX1_firstWrongSign 4 = .ok (.iload_n 2, 1) := by decide +kernel
theorem dX1_firstWrongSign_5 : decode cX1_firstWrongSign 5 = .ok (.aload_n 0, 1) := by decide +kernel
theorem dX1_firstWrongSign_6 : decode cX1_firstWrongSign 6 = .ok (.getfield 15, 3) := by decide +kernel
theorem dX1_firstWrongSign_9 : decode cX1_firstWrongSign 9 = .ok (.if_icmp .ge 26, 3) := by decide +kernel
theorem dX1_firstWrongSign_12 : decode cX1_firstWrongSign 12 = .ok (.iload_n 1, 1) := by decide +kernel
theorem dX1_firstWrongSign_13 : decode cX1_firstWrongSign 13 = .ok (.aload_n 0, 1) := by decide +kernel
theorem dX1_firstWrongSign_14 : decode cX1_firstWrongSign 14 = .ok (.iload_n 2, 1) := by decide +kernel
theorem dX1_firstWrongSign_15 : decode cX1_firstWrongSign 15 = .ok (.invokevirtual 19, 3) := by decide +kernel
theorem dX1_firstWrongSign_18 : decode cX1_firstWrongSign 18 = .ok (.invokestatic 23, 3) := by decide +kernel
theorem dX1_firstWrongSign_21 : decode cX1_firstWrongSign 21 = .ok (.istore_n 1, 1) := by decide +kernel
theorem dX1_firstWrongSign_22 : decode cX1_firstWrongSign 22 = .ok (.iload_n 1, 1) := by decide +kernel
theorem dX1_firstWrongSign_23 : decode cX1_firstWrongSign 23 = .ok (.iconst (-1), 1) := by decide +kernel
theorem dX1_firstWrongSign_24 : decode cX1_firstWrongSign 24 = .ok (.if_icmp .ne 5, 3) := by decide +kernel
theorem dX1_firstWrongSign_27 : decode cX1_firstWrongSign 27 = .ok (.iload_n 2, 1) := by decide +kernel
theorem dX1_firstWrongSign_28 : decode cX1_firstWrongSign 28 = .ok (.ireturn, 1) := by decide +kernel
theorem dX1_firstWrongSign_29 : decode cX1_firstWrongSign 29 = .ok (.iinc 2 1, 3) := by decide +kernel
theorem dX1_firstWrongSign_32 : decode cX1_firstWrongSign 32 = .ok (.goto (-28), 3) := by decide +kernel
theorem dX1_firstWrongSign_35 : decode cX1_firstWrongSign 35 = .ok (.aload_n 0, 1) := by decide +kernel
theorem dX1_firstWrongSign_36 : decode cX1_firstWrongSign 36 = .ok (.getfield 15, 3) := by decide +kernel
theorem dX1_firstWrongSign_39 : decode cX1_firstWrongSign 39 = .ok (.ireturn, 1) := by decide +kernel
theorem dX1_isDay_0 : decode cX1_isDay 0 = .ok (.iconst 0, 1) := by decide +kernel
theorem dX1_isDay_1 : decode cX1_isDay 1 = .ok (.istore_n 1, 1) := by decide +kernel
theorem dX1_isDay_2 : decode cX1_isDay 2 = .ok (.iconst 0, 1) := by decide +kernel
theorem dX1_isDay_3 : decode cX1_isDay 3 = .ok (.istore_n 2, 1) := by decide +kernel
theorem dX1_isDay_4 : decode cX1_isDay 4 = .ok (.iload_n 2, 1) := by decide +kernel
theorem dX1_isDay_5 : decode cX1_isDay 5 = .ok (.aload_n 0, 1) := by decide +kernel
theorem dX1_isDay_6 : decode cX1_isDay 6 = .ok (.getfield 15, 3) := by decide +kernel
theorem dX1_isDay_9 : decode cX1_isDay 9 = .ok (.if_icmp .ge 19, 3) := by decide +kernel
theorem dX1_isDay_12 : decode cX1_isDay 12 = .ok (.iload_n 1, 1) := by decide +kernel
theorem dX1_isDay_13 : decode cX1_isDay 13 = .ok (.aload_n 0, 1) := by decide +kernel
theorem dX1_isDay_14 : decode cX1_isDay 14 = .ok (.iload_n 2, 1) := by decide +kernel
theorem dX1_isDay_15 : decode cX1_isDay 15 = .ok (.invokevirtual 19, 3) := by decide +kernel
theorem dX1_isDay_18 : decode cX1_isDay 18 = .ok (.invokestatic 23, 3) := by decide +kernel
theorem dX1_isDay_21 : decode cX1_isDay 21 = .ok (.istore_n 1, 1) := by decide +kernel
theorem dX1_isDay_22 : decode cX1_isDay 22 = .ok (.iinc 2 1, 3) := by decide +kernel
theorem dX1_isDay_25 : decode cX1_isDay 25 = .ok (.goto (-21), 3) := by decide +kernel
theorem dX1_isDay_28 : decode cX1_isDay 28 = .ok (.aload_n 0, 1) := by decide +kernel
theorem dX1_isDay_29 : decode cX1_isDay 29 = .ok (.getfield 15, 3) := by decide +kernel
theorem dX1_isDay_32 : decode cX1_isDay 32 = .ok (.ifCond .le 11, 3) := by decide +kernel
theorem dX1_isDay_35 : decode cX1_isDay 35 = .ok (.iload_n 1, 1) := by decide +kernel
theorem dX1_isDay_36 : decode cX1_isDay 36 = .ok (.ifCond .ne 7, 3) := by decide +kernel
theorem dX1_isDay_39 : decode cX1_isDay 39 = .ok (.iconst 1, 1) := by decide +kernel
theorem dX1_isDay_40 : decode cX1_isDay 40 = .ok (.goto 4, 3) := by decide +kernel
theorem dX1_isDay_43 : decode cX1_isDay 43 = .ok (.iconst 0, 1) := by decide +kernel
theorem dX1_isDay_44 : decode cX1_isDay 44 = .ok (.ireturn, 1) := by decide +kernel
theorem dX1_awaitedAfter_0 : decode cX1_awaitedAfter 0 = .ok (.iload_n 0, 1) := by decide +kernel
theorem dX1_awaitedAfter_1 : decode cX1_awaitedAfter 1 = .ok (.tableswitch 90 0 3 #[31, 36, 54, 72], 31) := by decide +kernel
theorem dX1_awaitedAfter_32 : decode cX1_awaitedAfter 32 = .ok (.iload_n 1, 1) := by decide +kernel
theorem dX1_awaitedAfter_33 : decode cX1_awaitedAfter 33 = .ok (.invokestatic 27, 3) := by decide +kernel
theorem dX1_awaitedAfter_36 : decode cX1_awaitedAfter 36 = .ok (.ireturn, 1) := by decide +kernel
theorem dX1_awaitedAfter_37 : decode cX1_awaitedAfter 37 = .ok (.iload_n 1, 1) := by decide +kernel
theorem dX1_awaitedAfter_38 : decode cX1_awaitedAfter 38 = .ok (.bipush 48, 2) := by decide +kernel
theorem dX1_awaitedAfter_40 : decode cX1_awaitedAfter 40 = .ok (.if_icmp .lt 13, 3) := by decide +kernel
theorem dX1_awaitedAfter_43 : decode cX1_awaitedAfter 43 = .ok (.iload_n 1, 1) := by decide +kernel
theorem dX1_awaitedAfter_44 : decode cX1_awaitedAfter 44 = .ok (.bipush 51, 2) := by decide +kernel
theorem dX1_awaitedAfter_46 : decode cX1_awaitedAfter 46 = .ok (.if_icmp .gt 7, 3) := by decide +kernel
theorem dX1_awaitedAfter_49 : decode cX1_awaitedAfter 49 = .ok (.iconst 2, 1) := by decide +kernel
theorem dX1_awaitedAfter_50 : decode cX1_awaitedAfter 50 = .ok (.goto 4, 3) := by decide +kernel
theorem dX1_awaitedAfter_53 : decode cX1_awaitedAfter 53 = .ok (.iconst (-1), 1) := by decide +kernel
theorem dX1_awaitedAfter_54 : decode cX1_awaitedAfter 54 = .ok (.ireturn, 1) := by decide +kernel
theorem dX1_awaitedAfter_55 : decode cX1_awaitedAfter 55 = .ok (.iload_n 1, 1) := by decide +kernel
theorem dX1_awaitedAfter_56 : decode cX1_awaitedAfter 56 = .ok (.bipush 48, 2) := by decide +kernel
theorem dX1_awaitedAfter_58 : decode cX1_awaitedAfter 58 = .ok (.if_icmp .lt 13, 3) := by decide +kernel
theorem dX1_awaitedAfter_61 : decode cX1_awaitedAfter 61 = .ok (.iload_n 1, 1) := by decide +kernel
theorem dX1_awaitedAfter_62 : decode cX1_awaitedAfter 62 = .ok (.bipush 50, 2) := by decide +kernel
theorem dX1_awaitedAfter_64 : decode cX1_awaitedAfter 64 = .ok (.if_icmp .gt 7, 3) := by decide +kernel
theorem dX1_awaitedAfter_67 : decode cX1_awaitedAfter 67 = .ok (.iconst 0, 1) := by decide +kernel
theorem dX1_awaitedAfter_68 : decode cX1_awaitedAfter 68 = .ok (.goto 4, 3) := by decide +kernel
theorem dX1_awaitedAfter_71 : decode cX1_awaitedAfter 71 = .ok (.iconst (-1), 1) := by decide +kernel
theorem dX1_awaitedAfter_72 : decode cX1_awaitedAfter 72 = .ok (.ireturn, 1) := by decide +kernel
theorem dX1_awaitedAfter_73 : decode cX1_awaitedAfter 73 = .ok (.iload_n 1, 1) := by decide +kernel
theorem dX1_awaitedAfter_74 : decode cX1_awaitedAfter 74 = .ok (.bipush 49, 2) := by decide +kernel
theorem dX1_awaitedAfter_76 : decode cX1_awaitedAfter 76 = .ok (.if_icmp .lt 13, 3) := by decide +kernel
theorem dX1_awaitedAfter_79 : decode cX1_awaitedAfter 79 = .ok (.iload_n 1, 1) := by decide +kernel
theorem dX1_awaitedAfter_80 : decode cX1_awaitedAfter 80 = .ok (.bipush 57, 2) := by decide +kernel
theorem dX1_awaitedAfter_82 : decode cX1_awaitedAfter 82 = .ok (.if_icmp .gt 7, 3) := by decide +kernel
theorem dX1_awaitedAfter_85 : decode cX1_awaitedAfter 85 = .ok (.iconst 0, 1) := by decide +kernel
theorem dX1_awaitedAfter_86 : decode cX1_awaitedAfter 86 = .ok (.goto 4, 3) := by decide +kernel
theorem dX1_awaitedAfter_89 : decode cX1_awaitedAfter 89 = .ok (.iconst (-1), 1) := by decide +kernel
theorem dX1_awaitedAfter_90 : decode cX1_awaitedAfter 90 = .ok (.ireturn, 1) := by decide +kernel
theorem dX1_awaitedAfter_91 : decode cX1_awaitedAfter 91 = .ok (.iconst (-1), 1) := by decide +kernel
theorem dX1_awaitedAfter_92 : decode cX1_awaitedAfter 92 = .ok (.ireturn, 1) := by decide +kernel
theorem dX1_awaitedInOrder_0 : decode cX1_awaitedInOrder 0 = .ok (.iload_n 0, 1) := by decide +kernel
theorem dX1_awaitedInOrder_1 : decode cX1_awaitedInOrder 1 = .ok (.lookupswitch 57 #[(100, 53), (108, 51), (113, 51), (116, 55), (119, 51)], 51) := by decide +kernel
theorem dX1_awaitedInOrder_52 : decode cX1_awaitedInOrder 52 = .ok (.iconst 1, 1) := by decide +kernel
theorem dX1_awaitedInOrder_53 : decode cX1_awaitedInOrder 53 = .ok (.ireturn, 1) := by decide +kernel
theorem dX1_awaitedInOrder_54 : decode cX1_awaitedInOrder 54 = .ok (.iconst 2, 1) := by decide +kernel
theorem dX1_awaitedInOrder_55 : decode cX1_awaitedInOrder 55 = .ok (.ireturn, 1) := by decide +kernel
theorem dX1_awaitedInOrder_56 : decode cX1_awaitedInOrder 56 = .ok (.iconst 3, 1) := by decide +kernel
theorem dX1_awaitedInOrder_57 : decode cX1_awaitedInOrder 57 = .ok (.ireturn, 1) := by decide +kernel
theorem dX1_awaitedInOrder_58 : decode cX1_awaitedInOrder 58 = .ok (.iconst (-1), 1) := by decide +kernel
theorem dX1_awaitedInOrder_59 : decode cX1_awaitedInOrder 59 = .ok (.ireturn, 1) := by decide +kernel
theorem dX2_init_0 : decode cX2_init 0 = .ok (.aload_n 0, 1) := by decide +kernel
theorem dX2_init_1 : decode cX2_init 1 = .ok (.invokespecial 3, 3) := by decide +kernel
theorem dX2_init_4 : decode cX2_init 4 = .ok (.aload_n 0, 1) := by decide +kernel
theorem dX2_init_5 : decode cX2_init 5 = .ok (.bipush 6, 2) := by decide +kernel
theorem dX2_init_7 : decode cX2_init 7 = .ok (.anewarray 9, 3) := by decide +kernel
theorem dX2_init_10 : decode cX2_init 10 = .ok (.putfield 11, 3) := by decide +kernel
theorem dX2_init_13 : decode cX2_init 13 = .ok (.iconst 0, 1) := by decide +kernel
theorem dX2_init_14 : decode cX2_init 14 = .ok (.istore_n 1, 1) := by decide +kernel
theorem dX2_init_15 : decode cX2_init 15 = .ok (.iload_n 1, 1) := by decide +kernel
theorem dX2_init_16 : decode cX2_init 16 = .ok (.bipush 6, 2) := by decide +kernel
theorem dX2_init_18 : decode cX2_init 18 = .ok (.if_icmp .ge 22, 3) := by decide +kernel
theorem dX2_init_21 : decode cX2_init 21 = .ok (.aload_n 0, 1) := by decide +kernel
theorem dX2_init_22 : decode cX2_init 22 = .ok (.getfield 11, 3) := by decide +kernel
theorem dX2_init_25 : decode cX2_init 25 = .ok (.iload_n 1, 1) := by decide +kernel
theorem dX2_init_26 : decode cX2_init 26 = .ok (.new 9, 3) := by decide +kernel
theorem dX2_init_29 : decode cX2_init 29 = .ok (.dup, 1) := by decide +kernel
theorem dX2_init_30 : decode cX2_init 30 = .ok (.invokespecial 17, 3) := by decide +kernel
theorem dX2_init_33 : decode cX2_init 33 = .ok (.aastore, 1) := by decide +kernel
theorem dX2_init_34 : decode cX2_init 34 = .ok (.iinc 1 1, 3) := by decide +kernel
theorem dX2_init_37 : decode cX2_init 37 = .ok (.goto (-22), 3) := by decide +kernel
theorem dX2_init_40 : decode cX2_init 40 = .ok (.return_, 1) := by decide +kernel
theorem dX2_push_0 : decode cX2_push 0 = .ok (.aload_n 0, 1) := by decide +kernel
theorem dX2_push_1 : decode cX2_push 1 = .ok (.getfield 18, 3) := by decide +kernel
theorem dX2_push_4 : decode cX2_push 4 = .ok (.bipush 6, 2) := by decide +kernel
theorem dX2_push_6 : decode cX2_push 6 = .ok (.if_icmp .lt 7, 3) := by decide +kernel
theorem dX2_push_9 : decode cX2_push 9 = .ok (.aload_n 0, 1) := by decide +kernel
theorem dX2_push_10 : decode cX2_push 10 = .ok (.invokevirtual 22, 3) := by decide +kernel
theorem dX2_push_13 : decode cX2_push 13 = .ok (.aload_n 0, 1) := by decide +kernel
theorem dX2_push_14 : decode cX2_push 14 = .ok (.getfield 11, 3) := by decide +kernel
theorem dX2_push_17 : decode cX2_push 17 = .ok (.aload_n 0, 1) := by decide +kernel
theorem dX2_push_18 : decode cX2_push 18 = .ok (.getfield 18, 3) := by decide +kernel
theorem dX2_push_21 : decode cX2_push 21 = .ok (.aaload, 1) := by decide +kernel
theorem dX2_push_22 : decode cX2_push 22 = .ok (.aload_n 1, 1) := by decide +kernel
theorem dX2_push_23 : decode cX2_push 23 = .ok (.invokevirtual 25, 3) := by decide +kernel
theorem dX2_push_26 : decode cX2_push 26 = .ok (.aload_n 0, 1) := by decide +kernel
theorem dX2_push_27 : decode cX2_push 27 = .ok (.dup, 1) := by decide +kernel
theorem dX2_push_28 : decode cX2_push 28 = .ok (.getfield 18, 3) := by decide +kernel
theorem dX2_push_31 : decode cX2_push 31 = .ok (.iconst 1, 1) := by decide +kernel
theorem dX2_push_32 : decode cX2_push 32 = .ok (.iadd, 1) := by decide +kernel
theorem dX2_push_33 : decode cX2_push 33 = .ok (.putfield 18, 3) := by decide +kernel
theorem dX2_push_36 : decode cX2_push 36 = .ok (.return_, 1) := by decide +kernel
theorem dX2_dropOldest_0 : decode cX2_dropOldest 0 = .ok (.aload_n 0, 1) := by decide +kernel
theorem dX2_dropOldest_1 : decode cX2_dropOldest 1 = .ok (.getfield 11, 3) := by decide +kernel
theorem dX2_dropOldest_4 : decode cX2_dropOldest 4 = .ok (.iconst 0, 1) := by decide +kernel
theorem dX2_dropOldest_5 : decode cX2_dropOldest 5 = .ok (.aaload, 1) := by decide +kernel
theorem dX2_dropOldest_6 : decode cX2_dropOldest 6 = .ok (.astore_n 1, 1) := by decide +kernel
theorem dX2_dropOldest_7 : decode cX2_dropOldest 7 = .ok (.iconst 1, 1) := by decide +kernel
theorem dX2_dropOldest_8 : decode cX2_dropOldest 8 = .ok (.istore_n 2, 1) := by decide +kernel
theorem dX2_dropOldest_9 : decode cX2_dropOldest 9 = .ok (.iload_n 2, 1) := by decide +kernel
theorem dX2_dropOldest_10 : decode cX2_dropOldest 10 = .ok (.bipush 6, 2) := by decide +kernel
theorem dX2_dropOldest_12 : decode cX2_dropOldest 12 = .ok (.if_icmp .ge 23, 3) := by decide +kernel
theorem dX2_dropOldest_15 : decode cX2_dropOldest 15 = .ok (.aload_n 0, 1) := by decide +kernel
theorem dX2_dropOldest_16 : decode cX2_dropOldest 16 = .ok (.getfield 11, 3) := by decide +kernel
theorem dX2_dropOldest_19 : decode cX2_dropOldest 19 = .ok (.iload_n 2, 1) := by decide +kernel
theorem dX2_dropOldest_20 : decode cX2_dropOldest 20 = .ok (.iconst 1, 1) := by decide +kernel
theorem dX2_dropOldest_21 : decode cX2_dropOldest 21 = .ok (.isub, 1) := by decide +kernel
theorem dX2_dropOldest_22 : decode cX2_dropOldest 22 = .ok (.aload_n 0, 1) := by decide +kernel
theorem dX2_dropOldest_23 : decode cX2_dropOldest 23 = .ok (.getfield 11, 3) := by decide +kernel
theorem dX2_dropOldest_26 : decode cX2_dropOldest 26 = .ok (.iload_n 2, 1) := by decide +kernel
theorem dX2_dropOldest_27 : decode cX2_dropOldest 27 = .ok (.aaload, 1) := by decide +kernel
theorem dX2_dropOldest_28 : decode cX2_dropOldest 28 = .ok (.aastore, 1) := by decide +kernel
theorem dX2_dropOldest_29 : decode cX2_dropOldest 29 = .ok (.iinc 2 1, 3) := by decide +kernel
theorem dX2_dropOldest_32 : decode cX2_dropOldest 32 = .ok (.goto (-23), 3) := by decide +kernel
theorem dX2_dropOldest_35 : decode cX2_dropOldest 35 = .ok (.aload_n 0, 1) := by decide +kernel
theorem dX2_dropOldest_36 : decode cX2_dropOldest 36 = .ok (.getfield 11, 3) := by decide +kernel
theorem dX2_dropOldest_39 : decode cX2_dropOldest 39 = .ok (.iconst 5, 1) := by decide +kernel
theorem dX2_dropOldest_40 : decode cX2_dropOldest 40 = .ok (.aload_n 1, 1) := by decide +kernel
theorem dX2_dropOldest_41 : decode cX2_dropOldest 41 = .ok (.aastore, 1) := by decide +kernel
theorem dX2_dropOldest_42 : decode cX2_dropOldest 42 = .ok (.aload_n 0, 1) := by decide +kernel
theorem dX2_dropOldest_43 : decode cX2_dropOldest 43 = .ok (.iconst 5, 1) := by decide +kernel
theorem dX2_dropOldest_44 : decode cX2_dropOldest 44 = .ok (.putfield 18, 3) := by decide +kernel
theorem dX2_dropOldest_47 : decode cX2_dropOldest 47 = .ok (.return_, 1) := by decide +kernel
theorem dX2_popInto_0 : decode cX2_popInto 0 = .ok (.aload_n 0, 1) := by decide +kernel
theorem dX2_popInto_1 : decode cX2_popInto 1 = .ok (.getfield 18, 3) := by decide +kernel
theorem dX2_popInto_4 : decode cX2_popInto 4 = .ok (.ifCond .le 35, 3) := by decide +kernel
theorem dX2_popInto_7 : decode cX2_popInto 7 = .ok (.aload_n 0, 1) := by decide +kernel
theorem dX2_popInto_8 : decode cX2_popInto 8 = .ok (.getfield 18, 3) := by decide +kernel
theorem dX2_popInto_11 : decode cX2_popInto 11 = .ok (.bipush 6, 2) := by decide +kernel
theorem dX2_popInto_13 : decode cX2_popInto 13 = .ok (.if_icmp .gt 26, 3) := by decide +kernel
theorem dX2_popInto_16 : decode cX2_popInto 16 = .ok (.aload_n 0, 1) := by decide +kernel
theorem dX2_popInto_17 : decode cX2_popInto 17 = .ok (.dup, 1) := by decide +kernel
theorem dX2_popInto_18 : decode cX2_popInto 18 = .ok (.getfield 18, 3) := by decide +kernel
theorem dX2_popInto_21 : decode cX2_popInto 21 = .ok (.iconst 1, 1) := by decide +kernel
theorem dX2_popInto_22 : decode cX2_popInto 22 = .ok (.isub, 1) := by decide +kernel
theorem dX2_popInto_23 : decode cX2_popInto 23 = .ok (.putfield 18, 3) := by decide +kernel
theorem dX2_popInto_26 : decode cX2_popInto 26 = .ok (.aload_n 1, 1) := by decide +kernel
theorem dX2_popInto_27 : decode cX2_popInto 27 = .ok (.aload_n 0, 1) := by decide +kernel
theorem dX2_popInto_28 : decode cX2_popInto 28 = .ok (.getfield 11, 3) := by decide +kernel
theorem dX2_popInto_31 : decode cX2_popInto 31 = .ok (.aload_n 0, 1) := by decide +kernel
theorem dX2_popInto_32 : decode cX2_popInto 32 = .ok (.getfield 18, 3) := by decide +kernel
theorem dX2_popInto_35 : decode cX2_popInto 35 = .ok (.aaload, 1) := by decide +kernel
theorem dX2_popInto_36 : decode cX2_popInto 36 = .ok (.invokevirtual 25, 3) := by decide +kernel
theorem dX2_popInto_39 : decode cX2_popInto 39 = .ok (.return_, 1) := by decide +kernel
theorem dX3_init_0 : decode cX3_init 0 = .ok (.aload_n 0, 1) := by decide +kernel
theorem dX3_init_1 : decode cX3_init 1 = .ok (.invokespecial 3, 3) := by decide +kernel
theorem dX3_init_4 : decode cX3_init 4 = .ok (.aload_n 0, 1) := by decide +kernel
theorem dX3_init_5 : decode cX3_init 5 = .ok (.bipush 40, 2) := by decide +kernel
theorem dX3_init_7 : decode cX3_init 7 = .ok (.newarray .int, 2) := by decide +kernel
theorem dX3_init_9 : decode cX3_init 9 = .ok (.putfield 9, 3) := by decide +kernel
theorem dX3_init_12 : decode cX3_init 12 = .ok (.aload_n 0, 1) := by decide +kernel
theorem dX3_init_13 : decode cX3_init 13 = .ok (.bipush 40, 2) := by decide +kernel
theorem dX3_init_15 : decode cX3_init 15 = .ok (.newarray .int, 2) := by decide +kernel
theorem dX3_init_17 : decode cX3_init 17 = .ok (.putfield 15, 3) := by decide +kernel
theorem dX3_init_20 : decode cX3_init 20 = .ok (.aload_n 0, 1) := by decide +kernel
theorem dX3_init_21 : decode cX3_init 21 = .ok (.bipush 40, 2) := by decide +kernel
theorem dX3_init_23 : decode cX3_init 23 = .ok (.newarray .int, 2) := by decide +kernel
theorem dX3_init_25 : decode cX3_init 25 = .ok (.putfield 18, 3) := by decide +kernel
theorem dX3_init_28 : decode cX3_init 28 = .ok (.aload_n 0, 1) := by decide +kernel
theorem dX3_init_29 : decode cX3_init 29 = .ok (.bipush 40, 2) := by decide +kernel
theorem dX3_init_31 : decode cX3_init 31 = .ok (.newarray .int, 2) := by decide +kernel
theorem dX3_init_33 : decode cX3_init 33 = .ok (.putfield 21, 3) := by decide +kernel
theorem dX3_init_36 : decode cX3_init 36 = .ok (.return_, 1) := by decide +kernel
theorem dX3_hasRoom_0 : decode cX3_hasRoom 0 = .ok (.aload_n 0, 1) := by decide +kernel
theorem dX3_hasRoom_1 : decode cX3_hasRoom 1 = .ok (.getfield 24, 3) := by decide +kernel
theorem dX3_hasRoom_4 : decode cX3_hasRoom 4 = .ok (.bipush 40, 2) := by decide +kernel
theorem dX3_hasRoom_6 : decode cX3_hasRoom 6 = .ok (.if_icmp .ge 7, 3) := by decide +kernel
theorem dX3_hasRoom_9 : decode cX3_hasRoom 9 = .ok (.iconst 1, 1) := by decide +kernel
theorem dX3_hasRoom_10 : decode cX3_hasRoom 10 = .ok (.goto 4, 3) := by decide +kernel
theorem dX3_hasRoom_13 : decode cX3_hasRoom 13 = .ok (.iconst 0, 1) := by decide +kernel
theorem dX3_hasRoom_14 : decode cX3_hasRoom 14 = .ok (.ireturn, 1) := by decide +kernel
theorem dX3_send_0 : decode cX3_send 0 = .ok (.aload_n 0, 1) := by decide +kernel
theorem dX3_send_1 : decode cX3_send 1 = .ok (.dup, 1) := by decide +kernel
theorem dX3_send_2 : decode cX3_send 2 = .ok (.getfield 28, 3) := by decide +kernel
theorem dX3_send_5 : decode cX3_send 5 = .ok (.iconst 1, 1) := by decide +kernel
theorem dX3_send_6 : decode cX3_send 6 = .ok (.iadd, 1) := by decide +kernel
theorem dX3_send_7 : decode cX3_send 7 = .ok (.putfield 28, 3) := by decide +kernel
theorem dX3_send_10 : decode cX3_send 10 = .ok (.iload 5, 2) := by decide +kernel
theorem dX3_send_12 : decode cX3_send 12 = .ok (.ifCond .le 26, 3) := by decide +kernel
theorem dX3_send_15 : decode cX3_send 15 = .ok (.aload_n 0, 1) := by decide +kernel
theorem dX3_send_16 : decode cX3_send 16 = .ok (.getfield 28, 3) := by decide +kernel
theorem dX3_send_19 : decode cX3_send 19 = .ok (.iload 5, 2) := by decide +kernel
theorem dX3_send_21 : decode cX3_send 21 = .ok (.irem, 1) := by decide +kernel
theorem dX3_send_22 : decode cX3_send 22 = .ok (.ifCond .ne 16, 3) := by decide +kernel
theorem dX3_send_25 : decode cX3_send 25 = .ok (.aload_n 0, 1) := by decide +kernel
theorem dX3_send_26 : decode cX3_send 26 = .ok (.dup, 1) := by decide +kernel
theorem dX3_send_27 : decode cX3_send 27 = .ok (.getfield 31, 3) := by decide +kernel
theorem dX3_send_30 : decode cX3_send 30 = .ok (.iconst 1, 1) := by decide +kernel
theorem dX3_send_31 : decode cX3_send 31 = .ok (.iadd, 1) := by decide +kernel
theorem dX3_send_32 : decode cX3_send 32 = .ok (.putfield 31, 3) := by decide +kernel
theorem dX3_send_35 : decode cX3_send 35 = .ok (.goto 63, 3) := by decide +kernel
theorem dX3_send_38 : decode cX3_send 38 = .ok (.aload_n 0, 1) := by decide +kernel
theorem dX3_send_39 : decode cX3_send 39 = .ok (.getfield 24, 3) := by decide +kernel
theorem dX3_send_42 : decode cX3_send 42 = .ok (.bipush 40, 2) := by decide +kernel
theorem dX3_send_44 : decode cX3_send 44 = .ok (.if_icmp .ge 54, 3) := by decide +kernel
theorem dX3_send_47 : decode cX3_send 47 = .ok (.aload_n 0, 1) := by decide +kernel
theorem dX3_send_48 : decode cX3_send 48 = .ok (.getfield 9, 3) := by decide +kernel
theorem dX3_send_51 : decode cX3_send 51 = .ok (.aload_n 0, 1) := by decide +kernel
theorem dX3_send_52 : decode cX3_send 52 = .ok (.getfield 24, 3) := by decide +kernel
theorem dX3_send_55 : decode cX3_send 55 = .ok (.iload_n 1, 1) := by decide +kernel
theorem dX3_send_56 : decode cX3_send 56 = .ok (.iastore, 1) := by decide +kernel
theorem dX3_send_57 : decode cX3_send 57 = .ok (.aload_n 0, 1) := by decide +kernel
theorem dX3_send_58 : decode cX3_send 58 = .ok (.getfield 15, 3) := by decide +kernel
theorem dX3_send_61 : decode cX3_send 61 = .ok (.aload_n 0, 1) := by decide +kernel
theorem dX3_send_62 : decode cX3_send 62 = .ok (.getfield 24, 3) := by decide +kernel
theorem dX3_send_65 : decode cX3_send 65 = .ok (.iload_n 2, 1) := by decide +kernel
theorem dX3_send_66 : decode cX3_send 66 = .ok (.iastore, 1) := by decide +kernel
theorem dX3_send_67 : decode cX3_send 67 = .ok (.aload_n 0, 1) := by decide +kernel
theorem dX3_send_68 : decode cX3_send 68 = .ok (.getfield 18, 3) := by decide +kernel
theorem dX3_send_71 : decode cX3_send 71 = .ok (.aload_n 0, 1) := by decide +kernel
theorem dX3_send_72 : decode cX3_send 72 = .ok (.getfield 24, 3) := by decide +kernel
theorem dX3_send_75 : decode cX3_send 75 = .ok (.iload_n 3, 1) := by decide +kernel
theorem dX3_send_76 : decode cX3_send 76 = .ok (.iastore, 1) := by decide +kernel
theorem dX3_send_77 : decode cX3_send 77 = .ok (.aload_n 0, 1) := by decide +kernel
theorem dX3_send_78 : decode cX3_send 78 = .ok (.getfield 21, 3) := by decide +kernel
theorem dX3_send_81 : decode cX3_send 81 = .ok (.aload_n 0, 1) := by decide +kernel
theorem dX3_send_82 : decode cX3_send 82 = .ok (.getfield 24, 3) := by decide +kernel
theorem dX3_send_85 : decode cX3_send 85 = .ok (.iload 4, 2) := by decide +kernel
theorem dX3_send_87 : decode cX3_send 87 = .ok (.iastore, 1) := by decide +kernel
theorem dX3_send_88 : decode cX3_send 88 = .ok (.aload_n 0, 1) := by decide +kernel
theorem dX3_send_89 : decode cX3_send 89 = .ok (.dup, 1) := by decide +kernel
theorem dX3_send_90 : decode cX3_send 90 = .ok (.getfield 24, 3) := by decide +kernel
theorem dX3_send_93 : decode cX3_send 93 = .ok (.iconst 1, 1) := by decide +kernel
theorem dX3_send_94 : decode cX3_send 94 = .ok (.iadd, 1) := by decide +kernel
theorem dX3_send_95 : decode cX3_send 95 = .ok (.putfield 24, 3) := by decide +kernel
theorem dX3_send_98 : decode cX3_send 98 = .ok (.return_, 1) := by decide +kernel
theorem dX3_remove_0 : decode cX3_remove 0 = .ok (.iload_n 1, 1) := by decide +kernel
theorem dX3_remove_1 : decode cX3_remove 1 = .ok (.ifCond .lt 11, 3) := by decide +kernel
theorem dX3_remove_4 : decode cX3_remove 4 = .ok (.iload_n 1, 1) := by decide +kernel
theorem dX3_remove_5 : decode cX3_remove 5 = .ok (.aload_n 0, 1) := by decide +kernel
theorem dX3_remove_6 : decode cX3_remove 6 = .ok (.getfield 24, 3) := by decide +kernel
theorem dX3_remove_9 : decode cX3_remove 9 = .ok (.if_icmp .lt 4, 3) := by decide +kernel
theorem dX3_remove_12 : decode cX3_remove 12 = .ok (.return_, 1) := by decide +kernel
theorem dX3_remove_13 : decode cX3_remove 13 = .ok (.aload_n 0, 1) := by decide +kernel
theorem dX3_remove_14 : decode cX3_remove 14 = .ok (.getfield 24, 3) := by decide +kernel
theorem dX3_remove_17 : decode cX3_remove 17 = .ok (.iload_n 1, 1) := by decide +kernel
theorem dX3_remove_18 : decode cX3_remove 18 = .ok (.isub, 1) := by decide +kernel
theorem dX3_remove_19 : decode cX3_remove 19 = .ok (.iconst 1, 1) := by decide +kernel
theorem dX3_remove_20 : decode cX3_remove 20 = .ok (.isub, 1) := by decide +kernel
theorem dX3_remove_21 : decode cX3_remove 21 = .ok (.istore_n 2, 1) := by decide +kernel
theorem dX3_remove_22 : decode cX3_remove 22 = .ok (.aload_n 0, 1) := by decide +kernel
theorem dX3_remove_23 : decode cX3_remove 23 = .ok (.getfield 9, 3) := by decide +kernel
theorem dX3_remove_26 : decode cX3_remove 26 = .ok (.iload_n 1, 1) := by decide +kernel
theorem dX3_remove_27 : decode cX3_remove 27 = .ok (.iconst 1, 1) := by decide +kernel
theorem dX3_remove_28 : decode cX3_remove 28 = .ok (.iadd, 1) := by decide +kernel
theorem dX3_remove_29 : decode cX3_remove 29 = .ok (.aload_n 0, 1) := by decide +kernel
theorem dX3_remove_30 : decode cX3_remove 30 = .ok (.getfield 9, 3) := by decide +kernel
theorem dX3_remove_33 : decode cX3_remove 33 = .ok (.iload_n 1, 1) := by decide +kernel
theorem dX3_remove_34 : decode cX3_remove 34 = .ok (.iload_n 2, 1) := by decide +kernel
theorem dX3_remove_35 : decode cX3_remove 35 = .ok (.invokestatic 34, 3) := by decide +kernel
theorem dX3_remove_38 : decode cX3_remove 38 = .ok (.aload_n 0, 1) := by decide +kernel
theorem dX3_remove_39 : decode cX3_remove 39 = .ok (.getfield 15, 3) := by decide +kernel
theorem dX3_remove_42 : decode cX3_remove 42 = .ok (.iload_n 1, 1) := by decide +kernel
theorem dX3_remove_43 : decode cX3_remove 43 = .ok (.iconst 1, 1) := by decide +kernel
theorem dX3_remove_44 : decode cX3_remove 44 = .ok (.iadd, 1) := by decide +kernel
theorem dX3_remove_45 : decode cX3_remove 45 = .ok (.aload_n 0, 1) := by decide +kernel
theorem dX3_remove_46 : decode cX3_remove 46 = .ok (.getfield 15, 3) := by decide +kernel
theorem dX3_remove_49 : decode cX3_remove 49 = .ok (.iload_n 1, 1) := by decide +kernel
theorem dX3_remove_50 : decode cX3_remove 50 = .ok (.iload_n 2, 1) := by decide +kernel
theorem dX3_remove_51 : decode cX3_remove 51 = .ok (.invokestatic 34, 3) := by decide +kernel
theorem dX3_remove_54 : decode cX3_remove 54 = .ok (.aload_n 0, 1) := by decide +kernel
theorem dX3_remove_55 : decode cX3_remove 55 = .ok (.getfield 18, 3) := by decide +kernel
theorem dX3_remove_58 : decode cX3_remove 58 = .ok (.iload_n 1, 1) := by decide +kernel
theorem dX3_remove_59 : decode cX3_remove 59 = .ok (.iconst 1, 1) := by decide +kernel
theorem dX3_remove_60 : decode cX3_remove 60 = .ok (.iadd, 1) := by decide +kernel
theorem dX3_remove_61 : decode cX3_remove 61 = .ok (.aload_n 0, 1) := by decide +kernel
theorem dX3_remove_62 : decode cX3_remove 62 = .ok (.getfield 18, 3) := by decide +kernel
theorem dX3_remove_65 : decode cX3_remove 65 = .ok (.iload_n 1, 1) := by decide +kernel
theorem dX3_remove_66 : decode cX3_remove 66 = .ok (.iload_n 2, 1) := by decide +kernel
theorem dX3_remove_67 : decode cX3_remove 67 = .ok (.invokestatic 34, 3) := by decide +kernel
theorem dX3_remove_70 : decode cX3_remove 70 = .ok (.aload_n 0, 1) := by decide +kernel
theorem dX3_remove_71 : decode cX3_remove 71 = .ok (.getfield 21, 3) := by decide +kernel
theorem dX3_remove_74 : decode cX3_remove 74 = .ok (.iload_n 1, 1) := by decide +kernel
theorem dX3_remove_75 : decode cX3_remove 75 = .ok (.iconst 1, 1) := by decide +kernel
theorem dX3_remove_76 : decode cX3_remove 76 = .ok (.iadd, 1) := by decide +kernel
theorem dX3_remove_77 : decode cX3_remove 77 = .ok (.aload_n 0, 1) := by decide +kernel
theorem dX3_remove_78 : decode cX3_remove 78 = .ok (.getfield 21, 3) := by decide +kernel
theorem dX3_remove_81 : decode cX3_remove 81 = .ok (.iload_n 1, 1) := by decide +kernel
theorem dX3_remove_82 : decode cX3_remove 82 = .ok (.iload_n 2, 1) := by decide +kernel
theorem dX3_remove_83 : decode cX3_remove 83 = .ok (.invokestatic 34, 3) := by decide +kernel
theorem dX3_remove_86 : decode cX3_remove 86 = .ok (.aload_n 0, 1) := by decide +kernel
theorem dX3_remove_87 : decode cX3_remove 87 = .ok (.dup, 1) := by decide +kernel
theorem dX3_remove_88 : decode cX3_remove 88 = .ok (.getfield 24, 3) := by decide +kernel
theorem dX3_remove_91 : decode cX3_remove 91 = .ok (.iconst 1, 1) := by decide +kernel
theorem dX3_remove_92 : decode cX3_remove 92 = .ok (.isub, 1) := by decide +kernel
theorem dX3_remove_93 : decode cX3_remove 93 = .ok (.putfield 24, 3) := by decide +kernel
theorem dX3_remove_96 : decode cX3_remove 96 = .ok (.return_, 1) := by decide +kernel
theorem dX3_letterNumber_0 : decode cX3_letterNumber 0 = .ok (.iload_n 1, 1) := by decide +kernel
theorem dX3_letterNumber_1 : decode cX3_letterNumber 1 = .ok (.ifCond .lt 11, 3) := by decide +kernel
theorem dX3_letterNumber_4 : decode cX3_letterNumber 4 = .ok (.iload_n 1, 1) := by decide +kernel
theorem dX3_letterNumber_5 : decode cX3_letterNumber 5 = .ok (.aload_n 0, 1) := by decide +kernel
theorem dX3_letterNumber_6 : decode cX3_letterNumber 6 = .ok (.getfield 24, 3) := by decide +kernel
theorem dX3_letterNumber_9 : decode cX3_letterNumber 9 = .ok (.if_icmp .lt 5, 3) := by decide +kernel
theorem dX3_letterNumber_12 : decode cX3_letterNumber 12 = .ok (.iconst (-1), 1) := by decide +kernel
theorem dX3_letterNumber_13 : decode cX3_letterNumber 13 = .ok (.ireturn, 1) := by decide +kernel
theorem dX3_letterNumber_14 : decode cX3_letterNumber 14 = .ok (.iload_n 2, 1) := by decide +kernel
theorem dX3_letterNumber_15 : decode cX3_letterNumber 15 = .ok (.tableswitch 61 0 3 #[29, 36, 45, 54], 29) := by decide +kernel
theorem dX3_letterNumber_44 : decode cX3_letterNumber 44 = .ok (.aload_n 0, 1) := by decide +kernel
theorem dX3_letterNumber_45 : decode cX3_letterNumber 45 = .ok (.getfield 9, 3) := by decide +kernel
theorem dX3_letterNumber_48 : decode cX3_letterNumber 48 = .ok (.iload_n 1, 1) := by decide +kernel
theorem dX3_letterNumber_49 : decode cX3_letterNumber 49 = .ok (.iaload, 1) := by decide +kernel
theorem dX3_letterNumber_50 : decode cX3_letterNumber 50 = .ok (.ireturn, 1) := by decide +kernel
theorem dX3_letterNumber_51 : decode cX3_letterNumber 51 = .ok (.aload_n 0, 1) := by decide +kernel
theorem dX3_letterNumber_52 : decode cX3_letterNumber 52 = .ok (.getfield 15, 3) := by decide +kernel
theorem dX3_letterNumber_55 : decode cX3_letterNumber 55 = .ok (.iload_n 1, 1) := by decide +kernel
theorem dX3_letterNumber_56 : decode cX3_letterNumber 56 = .ok (.iaload, 1) := by decide +kernel
theorem dX3_letterNumber_57 : decode cX3_letterNumber 57 = .ok (.iconst 3, 1) := by decide +kernel
theorem dX3_letterNumber_58 : decode cX3_letterNumber 58 = .ok (.idiv, 1) := by decide +kernel
theorem dX3_letterNumber_59 : decode cX3_letterNumber 59 = .ok (.ireturn, 1) := by decide +kernel
theorem dX3_letterNumber_60 : decode cX3_letterNumber 60 = .ok (.aload_n 0, 1) := by decide +kernel
theorem dX3_letterNumber_61 : decode cX3_letterNumber 61 = .ok (.getfield 15, 3) := by decide +kernel
theorem dX3_letterNumber_64 : decode cX3_letterNumber 64 = .ok (.iload_n 1, 1) := by decide +kernel
theorem dX3_letterNumber_65 : decode cX3_letterNumber 65 = .ok (.iaload, 1) := by decide +kernel
theorem dX3_letterNumber_66 : decode cX3_letterNumber 66 = .ok (.iconst 3, 1) := by decide +kernel
theorem dX3_letterNumber_67 : decode cX3_letterNumber 67 = .ok (.irem, 1) := by decide +kernel
theorem dX3_letterNumber_68 : decode cX3_letterNumber 68 = .ok (.ireturn, 1) := by decide +kernel
theorem dX3_letterNumber_69 : decode cX3_letterNumber 69 = .ok (.aload_n 0, 1) := by decide +kernel
theorem dX3_letterNumber_70 : decode cX3_letterNumber 70 = .ok (.getfield 18, 3) := by decide +kernel
theorem dX3_letterNumber_73 : decode cX3_letterNumber 73 = .ok (.iload_n 1, 1) := by decide +kernel
theorem dX3_letterNumber_74 : decode cX3_letterNumber 74 = .ok (.iaload, 1) := by decide +kernel
theorem dX3_letterNumber_75 : decode cX3_letterNumber 75 = .ok (.ireturn, 1) := by decide +kernel
theorem dX3_letterNumber_76 : decode cX3_letterNumber 76 = .ok (.aload_n 0, 1) := by decide +kernel
theorem dX3_letterNumber_77 : decode cX3_letterNumber 77 = .ok (.getfield 21, 3) := by decide +kernel
theorem dX3_letterNumber_80 : decode cX3_letterNumber 80 = .ok (.iload_n 1, 1) := by decide +kernel
theorem dX3_letterNumber_81 : decode cX3_letterNumber 81 = .ok (.iaload, 1) := by decide +kernel
theorem dX3_letterNumber_82 : decode cX3_letterNumber 82 = .ok (.ireturn, 1) := by decide +kernel
theorem dX3_copyFrom_0 : decode cX3_copyFrom 0 = .ok (.aload_n 0, 1) := by decide +kernel
theorem dX3_copyFrom_1 : decode cX3_copyFrom 1 = .ok (.aload_n 1, 1) := by decide +kernel
theorem dX3_copyFrom_2 : decode cX3_copyFrom 2 = .ok (.getfield 28, 3) := by decide +kernel
theorem dX3_copyFrom_5 : decode cX3_copyFrom 5 = .ok (.putfield 28, 3) := by decide +kernel
theorem dX3_copyFrom_8 : decode cX3_copyFrom 8 = .ok (.aload_n 0, 1) := by decide +kernel
theorem dX3_copyFrom_9 : decode cX3_copyFrom 9 = .ok (.aload_n 1, 1) := by decide +kernel
theorem dX3_copyFrom_10 : decode cX3_copyFrom 10 = .ok (.getfield 31, 3) := by decide +kernel
theorem dX3_copyFrom_13 : decode cX3_copyFrom 13 = .ok (.putfield 31, 3) := by decide +kernel
theorem dX3_copyFrom_16 : decode cX3_copyFrom 16 = .ok (.aload_n 0, 1) := by decide +kernel
theorem dX3_copyFrom_17 : decode cX3_copyFrom 17 = .ok (.aload_n 1, 1) := by decide +kernel
theorem dX3_copyFrom_18 : decode cX3_copyFrom 18 = .ok (.getfield 24, 3) := by decide +kernel
theorem dX3_copyFrom_21 : decode cX3_copyFrom 21 = .ok (.putfield 24, 3) := by decide +kernel
theorem dX3_copyFrom_24 : decode cX3_copyFrom 24 = .ok (.aload_n 1, 1) := by decide +kernel
theorem dX3_copyFrom_25 : decode cX3_copyFrom 25 = .ok (.getfield 9, 3) := by decide +kernel
theorem dX3_copyFrom_28 : decode cX3_copyFrom 28 = .ok (.iconst 0, 1) := by decide +kernel
theorem dX3_copyFrom_29 : decode cX3_copyFrom 29 = .ok (.aload_n 0, 1) := by decide +kernel
theorem dX3_copyFrom_30 : decode cX3_copyFrom 30 = .ok (.getfield 9, 3) := by decide +kernel
theorem dX3_copyFrom_33 : decode cX3_copyFrom 33 = .ok (.iconst 0, 1) := by decide +kernel
theorem dX3_copyFrom_34 : decode cX3_copyFrom 34 = .ok (.bipush 40, 2) := by decide +kernel
theorem dX3_copyFrom_36 : decode cX3_copyFrom 36 = .ok (.invokestatic 34, 3) := by decide +kernel
theorem dX3_copyFrom_39 : decode cX3_copyFrom 39 = .ok (.aload_n 1, 1) := by decide +kernel
theorem dX3_copyFrom_40 : decode cX3_copyFrom 40 = .ok (.getfield 15, 3) := by decide +kernel
theorem dX3_copyFrom_43 : decode cX3_copyFrom 43 = .ok (.iconst 0, 1) := by decide +kernel
theorem dX3_copyFrom_44 : decode cX3_copyFrom 44 = .ok (.aload_n 0, 1) := by decide +kernel
theorem dX3_copyFrom_45 : decode cX3_copyFrom 45 = .ok (.getfield 15, 3) := by decide +kernel
theorem dX3_copyFrom_48 : decode cX3_copyFrom 48 = .ok (.iconst 0, 1) := by decide +kernel
theorem dX3_copyFrom_49 : decode cX3_copyFrom 49 = .ok (.bipush 40, 2) := by decide +kernel
theorem dX3_copyFrom_51 : decode cX3_copyFrom 51 = .ok (.invokestatic 34, 3) := by decide +kernel
theorem dX3_copyFrom_54 : decode cX3_copyFrom 54 = .ok (.aload_n 1, 1) := by decide +kernel
theorem dX3_copyFrom_55 : decode cX3_copyFrom 55 = .ok (.getfield 18, 3) := by decide +kernel
theorem dX3_copyFrom_58 : decode cX3_copyFrom 58 = .ok (.iconst 0, 1) := by decide +kernel
theorem dX3_copyFrom_59 : decode cX3_copyFrom 59 = .ok (.aload_n 0, 1) := by decide +kernel
theorem dX3_copyFrom_60 : decode cX3_copyFrom 60 = .ok (.getfield 18, 3) := by decide +kernel
theorem dX3_copyFrom_63 : decode cX3_copyFrom 63 = .ok (.iconst 0, 1) := by decide +kernel
theorem dX3_copyFrom_64 : decode cX3_copyFrom 64 = .ok (.bipush 40, 2) := by decide +kernel
theorem dX3_copyFrom_66 : decode cX3_copyFrom 66 = .ok (.invokestatic 34, 3) := by decide +kernel
theorem dX3_copyFrom_69 : decode cX3_copyFrom 69 = .ok (.aload_n 1, 1) := by decide +kernel
theorem dX3_copyFrom_70 : decode cX3_copyFrom 70 = .ok (.getfield 21, 3) := by decide +kernel
theorem dX3_copyFrom_73 : decode cX3_copyFrom 73 = .ok (.iconst 0, 1) := by decide +kernel
theorem dX3_copyFrom_74 : decode cX3_copyFrom 74 = .ok (.aload_n 0, 1) := by decide +kernel
theorem dX3_copyFrom_75 : decode cX3_copyFrom 75 = .ok (.getfield 21, 3) := by decide +kernel
theorem dX3_copyFrom_78 : decode cX3_copyFrom 78 = .ok (.iconst 0, 1) := by decide +kernel
theorem dX3_copyFrom_79 : decode cX3_copyFrom 79 = .ok (.bipush 40, 2) := by decide +kernel
theorem dX3_copyFrom_81 : decode cX3_copyFrom 81 = .ok (.invokestatic 34, 3) := by decide +kernel
theorem dX3_copyFrom_84 : decode cX3_copyFrom 84 = .ok (.return_, 1) := by decide +kernel
theorem dX4_init_0 : decode cX4_init 0 = .ok (.aload_n 0, 1) := by decide +kernel
theorem dX4_init_1 : decode cX4_init 1 = .ok (.invokespecial 3, 3) := by decide +kernel
theorem dX4_init_4 : decode cX4_init 4 = .ok (.aload_n 0, 1) := by decide +kernel
theorem dX4_init_5 : decode cX4_init 5 = .ok (.new 9, 3) := by decide +kernel
theorem dX4_init_8 : decode cX4_init 8 = .ok (.dup, 1) := by decide +kernel
theorem dX4_init_9 : decode cX4_init 9 = .ok (.invokespecial 11, 3) := by decide +kernel
theorem dX4_init_12 : decode cX4_init 12 = .ok (.putfield 12, 3) := by decide +kernel
theorem dX4_init_15 : decode cX4_init 15 = .ok (.aload_n 0, 1) := by decide +kernel
theorem dX4_init_16 : decode cX4_init 16 = .ok (.new 9, 3) := by decide +kernel
theorem dX4_init_19 : decode cX4_init 19 = .ok (.dup, 1) := by decide +kernel
theorem dX4_init_20 : decode cX4_init 20 = .ok (.invokespecial 11, 3) := by decide +kernel
theorem dX4_init_23 : decode cX4_init 23 = .ok (.putfield 16, 3) := by decide +kernel
theorem dX4_init_26 : decode cX4_init 26 = .ok (.aload_n 0, 1) := by decide +kernel
theorem dX4_init_27 : decode cX4_init 27 = .ok (.iconst 2, 1) := by decide +kernel
theorem dX4_init_28 : decode cX4_init 28 = .ok (.anewarray 9, 3) := by decide +kernel
theorem dX4_init_31 : decode cX4_init 31 = .ok (.putfield 19, 3) := by decide +kernel
theorem dX4_init_34 : decode cX4_init 34 = .ok (.iconst 0, 1) := by decide +kernel
theorem dX4_init_35 : decode cX4_init 35 = .ok (.istore_n 1, 1) := by decide +kernel
theorem dX4_init_36 : decode cX4_init 36 = .ok (.iload_n 1, 1) := by decide +kernel
theorem dX4_init_37 : decode cX4_init 37 = .ok (.iconst 2, 1) := by decide +kernel
theorem dX4_init_38 : decode cX4_init 38 = .ok (.if_icmp .ge 22, 3) := by decide +kernel
theorem dX4_init_41 : decode cX4_init 41 = .ok (.aload_n 0, 1) := by decide +kernel
theorem dX4_init_42 : decode cX4_init 42 = .ok (.getfield 19, 3) := by decide +kernel
theorem dX4_init_45 : decode cX4_init 45 = .ok (.iload_n 1, 1) := by decide +kernel
theorem dX4_init_46 : decode cX4_init 46 = .ok (.new 9, 3) := by decide +kernel
theorem dX4_init_49 : decode cX4_init 49 = .ok (.dup, 1) := by decide +kernel
theorem dX4_init_50 : decode cX4_init 50 = .ok (.invokespecial 11, 3) := by decide +kernel
theorem dX4_init_53 : decode cX4_init 53 = .ok (.aastore, 1) := by decide +kernel
theorem dX4_init_54 : decode cX4_init 54 = .ok (.iinc 1 1, 3) := by decide +kernel
theorem dX4_init_57 : decode cX4_init 57 = .ok (.goto (-21), 3) := by decide +kernel
theorem dX4_init_60 : decode cX4_init 60 = .ok (.aload_n 0, 1) := by decide +kernel
theorem dX4_init_61 : decode cX4_init 61 = .ok (.iconst 2, 1) := by decide +kernel
theorem dX4_init_62 : decode cX4_init 62 = .ok (.newarray .boolean, 2) := by decide +kernel
theorem dX4_init_64 : decode cX4_init 64 = .ok (.putfield 23, 3) := by decide +kernel
theorem dX4_init_67 : decode cX4_init 67 = .ok (.aload_n 0, 1) := by decide +kernel
theorem dX4_init_68 : decode cX4_init 68 = .ok (.new 27, 3) := by decide +kernel
theorem dX4_init_71 : decode cX4_init 71 = .ok (.dup, 1) := by decide +kernel
theorem dX4_init_72 : decode cX4_init 72 = .ok (.invokespecial 29, 3) := by decide +kernel
theorem dX4_init_75 : decode cX4_init 75 = .ok (.putfield 30, 3) := by decide +kernel
theorem dX4_init_78 : decode cX4_init 78 = .ok (.aload_n 0, 1) := by decide +kernel
theorem dX4_init_79 : decode cX4_init 79 = .ok (.new 34, 3) := by decide +kernel
theorem dX4_init_82 : decode cX4_init 82 = .ok (.dup, 1) := by decide +kernel
theorem dX4_init_83 : decode cX4_init 83 = .ok (.invokespecial 36, 3) := by decide +kernel
theorem dX4_init_86 : decode cX4_init 86 = .ok (.putfield 37, 3) := by decide +kernel
theorem dX4_init_89 : decode cX4_init 89 = .ok (.return_, 1) := by decide +kernel
theorem dX4_house_0 : decode cX4_house 0 = .ok (.aload_n 0, 1) := by decide +kernel
theorem dX4_house_1 : decode cX4_house 1 = .ok (.getfield 12, 3) := by decide +kernel
theorem dX4_house_4 : decode cX4_house 4 = .ok (.getfield 41, 3) := by decide +kernel
theorem dX4_house_7 : decode cX4_house 7 = .ok (.iconst 4, 1) := by decide +kernel
theorem dX4_house_8 : decode cX4_house 8 = .ok (.if_icmp .lt 11, 3) := by decide +kernel
theorem dX4_house_11 : decode cX4_house 11 = .ok (.new 45, 3) := by decide +kernel
theorem dX4_house_14 : decode cX4_house 14 = .ok (.dup, 1) := by decide +kernel
theorem dX4_house_15 : decode cX4_house 15 = .ok (.invokespecial 47, 3) := by decide +kernel
theorem dX4_house_18 : decode cX4_house 18 = .ok (.athrow, 1) := by decide +kernel
theorem dX4_house_19 : decode cX4_house 19 = .ok (.aload_n 0, 1) := by decide +kernel
theorem dX4_house_20 : decode cX4_house 20 = .ok (.getfield 30, 3) := by decide +kernel
theorem dX4_house_23 : decode cX4_house 23 = .ok (.aload_n 0, 1) := by decide +kernel
theorem dX4_house_24 : decode cX4_house 24 = .ok (.getfield 12, 3) := by decide +kernel
theorem dX4_house_27 : decode cX4_house 27 = .ok (.invokevirtual 48, 3) := by decide +kernel
theorem dX4_house_30 : decode cX4_house 30 = .ok (.aload_n 0, 1) := by decide +kernel
theorem dX4_house_31 : decode cX4_house 31 = .ok (.getfield 12, 3) := by decide +kernel
theorem dX4_house_34 : decode cX4_house 34 = .ok (.dup, 1) := by decide +kernel
theorem dX4_house_35 : decode cX4_house 35 = .ok (.getfield 41, 3) := by decide +kernel
theorem dX4_house_38 : decode cX4_house 38 = .ok (.iconst 1, 1) := by decide +kernel
theorem dX4_house_39 : decode cX4_house 39 = .ok (.iadd, 1) := by decide +kernel
theorem dX4_house_40 : decode cX4_house 40 = .ok (.putfield 41, 3) := by decide +kernel
theorem dX4_house_43 : decode cX4_house 43 = .ok (.aload_n 0, 1) := by decide +kernel
theorem dX4_house_44 : decode cX4_house 44 = .ok (.getfield 12, 3) := by decide +kernel
theorem dX4_house_47 : decode cX4_house 47 = .ok (.getfield 41, 3) := by decide +kernel
theorem dX4_house_50 : decode cX4_house 50 = .ok (.iconst 1, 1) := by decide +kernel
theorem dX4_house_51 : decode cX4_house 51 = .ok (.isub, 1) := by decide +kernel
theorem dX4_house_52 : decode cX4_house 52 = .ok (.ireturn, 1) := by decide +kernel
theorem dX4_bottles_0 : decode cX4_bottles 0 = .ok (.iload_n 1, 1) := by decide +kernel
theorem dX4_bottles_1 : decode cX4_bottles 1 = .ok (.invokestatic 52, 3) := by decide +kernel
theorem dX4_bottles_4 : decode cX4_bottles 4 = .ok (.iload_n 2, 1) := by decide +kernel
theorem dX4_bottles_5 : decode cX4_bottles 5 = .ok (.ifCond .lt 9, 3) := by decide +kernel
theorem dX4_bottles_8 : decode cX4_bottles 8 = .ok (.iload_n 2, 1) := by decide +kernel
theorem dX4_bottles_9 : decode cX4_bottles 9 = .ok (.bipush 20, 2) := by decide +kernel
theorem dX4_bottles_11 : decode cX4_bottles 11 = .ok (.if_icmp .le 11, 3) := by decide +kernel
theorem dX4_bottles_14 : decode cX4_bottles 14 = .ok (.new 56, 3) := by decide +kernel
theorem dX4_bottles_17 : decode cX4_bottles 17 = .ok (.dup, 1) := by decide +kernel
theorem dX4_bottles_18 : decode cX4_bottles 18 = .ok (.invokespecial 58, 3) := by decide +kernel
theorem dX4_bottles_21 : decode cX4_bottles 21 = .ok (.athrow, 1) := by decide +kernel
theorem dX4_bottles_22 : decode cX4_bottles 22 = .ok (.iload_n 2, 1) := by decide +kernel
theorem dX4_bottles_23 : decode cX4_bottles 23 = .ok (.aload_n 0, 1) := by decide +kernel
theorem dX4_bottles_24 : decode cX4_bottles 24 = .ok (.getfield 12, 3) := by decide +kernel
theorem dX4_bottles_27 : decode cX4_bottles 27 = .ok (.getfield 59, 3) := by decide +kernel
theorem dX4_bottles_30 : decode cX4_bottles 30 = .ok (.iload_n 1, 1) := by decide +kernel
theorem dX4_bottles_31 : decode cX4_bottles 31 = .ok (.iaload, 1) := by decide +kernel
theorem dX4_bottles_32 : decode cX4_bottles 32 = .ok (.aload_n 0, 1) := by decide +kernel
theorem dX4_bottles_33 : decode cX4_bottles 33 = .ok (.getfield 12, 3) := by decide +kernel
theorem dX4_bottles_36 : decode cX4_bottles 36 = .ok (.iload_n 1, 1) := by decide +kernel
theorem dX4_bottles_37 : decode cX4_bottles 37 = .ok (.invokevirtual 63, 3) := by decide +kernel
theorem dX4_bottles_40 : decode cX4_bottles 40 = .ok (.iadd, 1) := by decide +kernel
theorem dX4_bottles_41 : decode cX4_bottles 41 = .ok (.if_icmp .ge 11, 3) := by decide +kernel
theorem dX4_bottles_44 : decode cX4_bottles 44 = .ok (.new 45, 3) := by decide +kernel
theorem dX4_bottles_47 : decode cX4_bottles 47 = .ok (.dup, 1) := by decide +kernel
theorem dX4_bottles_48 : decode cX4_bottles 48 = .ok (.invokespecial 47, 3) := by decide +kernel
theorem dX4_bottles_51 : decode cX4_bottles 51 = .ok (.athrow, 1) := by decide +kernel
theorem dX4_bottles_52 : decode cX4_bottles 52 = .ok (.aload_n 0, 1) := by decide +kernel
theorem dX4_bottles_53 : decode cX4_bottles 53 = .ok (.getfield 30, 3) := by decide +kernel
theorem dX4_bottles_56 : decode cX4_bottles 56 = .ok (.aload_n 0, 1) := by decide +kernel
theorem dX4_bottles_57 : decode cX4_bottles 57 = .ok (.getfield 12, 3) := by decide +kernel
theorem dX4_bottles_60 : decode cX4_bottles 60 = .ok (.invokevirtual 48, 3) := by decide +kernel
theorem dX4_bottles_63 : decode cX4_bottles 63 = .ok (.aload_n 0, 1) := by decide +kernel
theorem dX4_bottles_64 : decode cX4_bottles 64 = .ok (.getfield 12, 3) := by decide +kernel
theorem dX4_bottles_67 : decode cX4_bottles 67 = .ok (.getfield 67, 3) := by decide +kernel
theorem dX4_bottles_70 : decode cX4_bottles 70 = .ok (.iload_n 1, 1) := by decide +kernel
theorem dX4_bottles_71 : decode cX4_bottles 71 = .ok (.iaload, 1) := by decide +kernel
theorem dX4_bottles_72 : decode cX4_bottles 72 = .ok (.istore_n 3, 1) := by decide +kernel
theorem dX4_bottles_73 : decode cX4_bottles 73 = .ok (.aload_n 0, 1) := by decide +kernel
theorem dX4_bottles_74 : decode cX4_bottles 74 = .ok (.getfield 12, 3) := by decide +kernel
theorem dX4_bottles_77 : decode cX4_bottles 77 = .ok (.getfield 67, 3) := by decide +kernel
theorem dX4_bottles_80 : decode cX4_bottles 80 = .ok (.iload_n 1, 1) := by decide +kernel
theorem dX4_bottles_81 : decode cX4_bottles 81 = .ok (.iload_n 2, 1) := by decide +kernel
theorem dX4_bottles_82 : decode cX4_bottles 82 = .ok (.iastore, 1) := by decide +kernel
theorem dX4_bottles_83 : decode cX4_bottles 83 = .ok (.iload_n 3, 1) := by decide +kernel
theorem dX4_bottles_84 : decode cX4_bottles 84 = .ok (.ireturn, 1) := by decide +kernel
theorem dX4_lend_0 : decode cX4_lend 0 = .ok (.aload_n 0, 1) := by decide +kernel
theorem dX4_lend_1 : decode cX4_lend 1 = .ok (.iload_n 1, 1) := by decide +kernel
theorem dX4_lend_2 : decode cX4_lend 2 = .ok (.iload_n 2, 1) := by decide +kernel
theorem dX4_lend_3 : decode cX4_lend 3 = .ok (.invokevirtual 70, 3) := by decide +kernel
theorem dX4_lend_6 : decode cX4_lend 6 = .ok (.aload_n 0, 1) := by decide +kernel
theorem dX4_lend_7 : decode cX4_lend 7 = .ok (.getfield 12, 3) := by decide +kernel
theorem dX4_lend_10 : decode cX4_lend 10 = .ok (.iload_n 2, 1) := by decide +kernel
theorem dX4_lend_11 : decode cX4_lend 11 = .ok (.invokevirtual 74, 3) := by decide +kernel
theorem dX4_lend_14 : decode cX4_lend 14 = .ok (.ifCond .ne 11, 3) := by decide +kernel
theorem dX4_lend_17 : decode cX4_lend 17 = .ok (.new 45, 3) := by decide +kernel
theorem dX4_lend_20 : decode cX4_lend 20 = .ok (.dup, 1) := by decide +kernel
theorem dX4_lend_21 : decode cX4_lend 21 = .ok (.invokespecial 47, 3) := by decide +kernel
theorem dX4_lend_24 : decode cX4_lend 24 = .ok (.athrow, 1) := by decide +kernel
theorem dX4_lend_25 : decode cX4_lend 25 = .ok (.aload_n 0, 1) := by decide +kernel
theorem dX4_lend_26 : decode cX4_lend 26 = .ok (.getfield 30, 3) := by decide +kernel
theorem dX4_lend_29 : decode cX4_lend 29 = .ok (.aload_n 0, 1) := by decide +kernel
theorem dX4_lend_30 : decode cX4_lend 30 = .ok (.getfield 12, 3) := by decide +kernel
theorem dX4_lend_33 : decode cX4_lend 33 = .ok (.invokevirtual 48, 3) := by decide +kernel
theorem dX4_lend_36 : decode cX4_lend 36 = .ok (.aload_n 0, 1) := by decide +kernel
theorem dX4_lend_37 : decode cX4_lend 37 = .ok (.getfield 12, 3) := by decide +kernel
theorem dX4_lend_40 : decode cX4_lend 40 = .ok (.iload_n 1, 1) := by decide +kernel
theorem dX4_lend_41 : decode cX4_lend 41 = .ok (.iload_n 2, 1) := by decide +kernel
theorem dX4_lend_42 : decode cX4_lend 42 = .ok (.invokestatic 78, 3) := by decide +kernel
theorem dX4_lend_45 : decode cX4_lend 45 = .ok (.invokevirtual 82, 3) := by decide +kernel
theorem dX4_lend_48 : decode cX4_lend 48 = .ok (.aload_n 0, 1) := by decide +kernel
theorem dX4_lend_49 : decode cX4_lend 49 = .ok (.getfield 12, 3) := by decide +kernel
theorem dX4_lend_52 : decode cX4_lend 52 = .ok (.iload_n 1, 1) := by decide +kernel
theorem dX4_lend_53 : decode cX4_lend 53 = .ok (.iload_n 2, 1) := by decide +kernel
theorem dX4_lend_54 : decode cX4_lend 54 = .ok (.invokestatic 78, 3) := by decide +kernel
theorem dX4_lend_57 : decode cX4_lend 57 = .ok (.invokevirtual 85, 3) := by decide +kernel
theorem dX4_lend_60 : decode cX4_lend 60 = .ok (.ireturn, 1) := by decide +kernel
theorem dX4_ask_0 : decode cX4_ask 0 = .ok (.aload_n 0, 1) := by decide +kernel
theorem dX4_ask_1 : decode cX4_ask 1 = .ok (.iload_n 1, 1) := by decide +kernel
theorem dX4_ask_2 : decode cX4_ask 2 = .ok (.iload_n 2, 1) := by decide +kernel
theorem dX4_ask_3 : decode cX4_ask 3 = .ok (.invokevirtual 70, 3) := by decide +kernel
theorem dX4_ask_6 : decode cX4_ask 6 = .ok (.aload_n 0, 1) := by decide +kernel
theorem dX4_ask_7 : decode cX4_ask 7 = .ok (.getfield 12, 3) := by decide +kernel
theorem dX4_ask_10 : decode cX4_ask 10 = .ok (.getfield 88, 3) := by decide +kernel
theorem dX4_ask_13 : decode cX4_ask 13 = .ok (.invokevirtual 92, 3) := by decide +kernel
theorem dX4_ask_16 : decode cX4_ask 16 = .ok (.ifCond .ne 11, 3) := by decide +kernel
theorem dX4_ask_19 : decode cX4_ask 19 = .ok (.new 45, 3) := by decide +kernel
theorem dX4_ask_22 : decode cX4_ask 22 = .ok (.dup, 1) := by decide +kernel
theorem dX4_ask_23 : decode cX4_ask 23 = .ok (.invokespecial 47, 3) := by decide +kernel
theorem dX4_ask_26 : decode cX4_ask 26 = .ok (.athrow, 1) := by decide +kernel
theorem dX4_ask_27 : decode cX4_ask 27 = .ok (.aload_n 0, 1) := by decide +kernel
theorem dX4_ask_28 : decode cX4_ask 28 = .ok (.getfield 30, 3) := by decide +kernel
theorem dX4_ask_31 : decode cX4_ask 31 = .ok (.aload_n 0, 1) := by decide +kernel
theorem dX4_ask_32 : decode cX4_ask 32 = .ok (.getfield 12, 3) := by decide +kernel
theorem dX4_ask_35 : decode cX4_ask 35 = .ok (.invokevirtual 48, 3) := by decide +kernel
theorem dX4_ask_38 : decode cX4_ask 38 = .ok (.aload_n 0, 1) := by decide +kernel
theorem dX4_ask_39 : decode cX4_ask 39 = .ok (.getfield 12, 3) := by decide +kernel
theorem dX4_ask_42 : decode cX4_ask 42 = .ok (.iload_n 1, 1) := by decide +kernel
theorem dX4_ask_43 : decode cX4_ask 43 = .ok (.iload_n 2, 1) := by decide +kernel
theorem dX4_ask_44 : decode cX4_ask 44 = .ok (.invokestatic 78, 3) := by decide +kernel
theorem dX4_ask_47 : decode cX4_ask 47 = .ok (.invokevirtual 98, 3) := by decide +kernel
theorem dX4_ask_50 : decode cX4_ask 50 = .ok (.aload_n 0, 1) := by decide +kernel
theorem dX4_ask_51 : decode cX4_ask 51 = .ok (.getfield 12, 3) := by decide +kernel
theorem dX4_ask_54 : decode cX4_ask 54 = .ok (.getfield 88, 3) := by decide +kernel
theorem dX4_ask_57 : decode cX4_ask 57 = .ok (.getfield 101, 3) := by decide +kernel
theorem dX4_ask_60 : decode cX4_ask 60 = .ok (.ireturn, 1) := by decide +kernel
theorem dX4_want_0 : decode cX4_want 0 = .ok (.aload_n 0, 1) := by decide +kernel
theorem dX4_want_1 : decode cX4_want 1 = .ok (.iload_n 1, 1) := by decide +kernel
theorem dX4_want_2 : decode cX4_want 2 = .ok (.iload_n 2, 1) := by decide +kernel
theorem dX4_want_3 : decode cX4_want 3 = .ok (.invokevirtual 70, 3) := by decide +kernel
theorem dX4_want_6 : decode cX4_want 6 = .ok (.aload_n 0, 1) := by decide +kernel
theorem dX4_want_7 : decode cX4_want 7 = .ok (.getfield 12, 3) := by decide +kernel
theorem dX4_want_10 : decode cX4_want 10 = .ok (.iload_n 1, 1) := by decide +kernel
theorem dX4_want_11 : decode cX4_want 11 = .ok (.iload_n 2, 1) := by decide +kernel
theorem dX4_want_12 : decode cX4_want 12 = .ok (.invokestatic 78, 3) := by decide +kernel
theorem dX4_want_15 : decode cX4_want 15 = .ok (.invokevirtual 104, 3) := by decide +kernel
theorem dX4_want_18 : decode cX4_want 18 = .ok (.ifCond .ne 11, 3) := by decide +kernel
theorem dX4_want_21 : decode cX4_want 21 = .ok (.new 45, 3) := by decide +kernel
theorem dX4_want_24 : decode cX4_want 24 = .ok (.dup, 1) := by decide +kernel
theorem dX4_want_25 : decode cX4_want 25 = .ok (.invokespecial 47, 3) := by decide +kernel
theorem dX4_want_28 : decode cX4_want 28 = .ok (.athrow, 1) := by decide +kernel
theorem dX4_want_29 : decode cX4_want 29 = .ok (.aload_n 0, 1) := by decide +kernel
theorem dX4_want_30 : decode cX4_want 30 = .ok (.getfield 30, 3) := by decide +kernel
theorem dX4_want_33 : decode cX4_want 33 = .ok (.aload_n 0, 1) := by decide +kernel
theorem dX4_want_34 : decode cX4_want 34 = .ok (.getfield 12, 3) := by decide +kernel
theorem dX4_want_37 : decode cX4_want 37 = .ok (.invokevirtual 48, 3) := by decide +kernel
theorem dX4_want_40 : decode cX4_want 40 = .ok (.aload_n 0, 1) := by decide +kernel
theorem dX4_want_41 : decode cX4_want 41 = .ok (.getfield 12, 3) := by decide +kernel
theorem dX4_want_44 : decode cX4_want 44 = .ok (.getfield 107, 3) := by decide +kernel
theorem dX4_want_47 : decode cX4_want 47 = .ok (.iload_n 1, 1) := by decide +kernel
theorem dX4_want_48 : decode cX4_want 48 = .ok (.iload_n 2, 1) := by decide +kernel
theorem dX4_want_49 : decode cX4_want 49 = .ok (.invokestatic 78, 3) := by decide +kernel
theorem dX4_want_52 : decode cX4_want 52 = .ok (.dup2, 1) := by decide +kernel
theorem dX4_want_53 : decode cX4_want 53 = .ok (.iaload, 1) := by decide +kernel
theorem dX4_want_54 : decode cX4_want 54 = .ok (.iconst 1, 1) := by decide +kernel
theorem dX4_want_55 : decode cX4_want 55 = .ok (.iadd, 1) := by decide +kernel
theorem dX4_want_56 : decode cX4_want 56 = .ok (.iastore, 1) := by decide +kernel
theorem dX4_want_57 : decode cX4_want 57 = .ok (.aload_n 0, 1) := by decide +kernel
theorem dX4_want_58 : decode cX4_want 58 = .ok (.getfield 12, 3) := by decide +kernel
theorem dX4_want_61 : decode cX4_want 61 = .ok (.getfield 107, 3) := by decide +kernel
theorem dX4_want_64 : decode cX4_want 64 = .ok (.iload_n 1, 1) := by decide +kernel
theorem dX4_want_65 : decode cX4_want 65 = .ok (.iload_n 2, 1) := by decide +kernel
theorem dX4_want_66 : decode cX4_want 66 = .ok (.invokestatic 78, 3) := by decide +kernel
theorem dX4_want_69 : decode cX4_want 69 = .ok (.iaload, 1) := by decide +kernel
theorem dX4_want_70 : decode cX4_want 70 = .ok (.ireturn, 1) := by decide +kernel
theorem dX4_drink_0 : decode cX4_drink 0 = .ok (.iload_n 1, 1) := by decide +kernel
theorem dX4_drink_1 : decode cX4_drink 1 = .ok (.invokestatic 52, 3) := by decide +kernel
theorem dX4_drink_4 : decode cX4_drink 4 = .ok (.aload_n 0, 1) := by decide +kernel
theorem dX4_drink_5 : decode cX4_drink 5 = .ok (.getfield 12, 3) := by decide +kernel
theorem dX4_drink_8 : decode cX4_drink 8 = .ok (.getfield 59, 3) := by decide +kernel
theorem dX4_drink_11 : decode cX4_drink 11 = .ok (.iload_n 1, 1) := by decide +kernel
theorem dX4_drink_12 : decode cX4_drink 12 = .ok (.iaload, 1) := by decide +kernel
theorem dX4_drink_13 : decode cX4_drink 13 = .ok (.ifCond .gt 11, 3) := by decide +kernel
theorem dX4_drink_16 : decode cX4_drink 16 = .ok (.new 45, 3) := by decide +kernel
theorem dX4_drink_19 : decode cX4_drink 19 = .ok (.dup, 1) := by decide +kernel
theorem dX4_drink_20 : decode cX4_drink 20 = .ok (.invokespecial 47, 3) := by decide +kernel
theorem dX4_drink_23 : decode cX4_drink 23 = .ok (.athrow, 1) := by decide +kernel
theorem dX4_drink_24 : decode cX4_drink 24 = .ok (.aload_n 0, 1) := by decide +kernel
theorem dX4_drink_25 : decode cX4_drink 25 = .ok (.getfield 30, 3) := by decide +kernel
theorem dX4_drink_28 : decode cX4_drink 28 = .ok (.aload_n 0, 1) := by decide +kernel
theorem dX4_drink_29 : decode cX4_drink 29 = .ok (.getfield 12, 3) := by decide +kernel
theorem dX4_drink_32 : decode cX4_drink 32 = .ok (.invokevirtual 48, 3) := by decide +kernel
theorem dX4_drink_35 : decode cX4_drink 35 = .ok (.aload_n 0, 1) := by decide +kernel
theorem dX4_drink_36 : decode cX4_drink 36 = .ok (.getfield 12, 3) := by decide +kernel
theorem dX4_drink_39 : decode cX4_drink 39 = .ok (.iload_n 1, 1) := by decide +kernel
theorem dX4_drink_40 : decode cX4_drink 40 = .ok (.invokevirtual 110, 3) := by decide +kernel
theorem dX4_drink_43 : decode cX4_drink 43 = .ok (.aload_n 0, 1) := by decide +kernel
theorem dX4_drink_44 : decode cX4_drink 44 = .ok (.getfield 12, 3) := by decide +kernel
theorem dX4_drink_47 : decode cX4_drink 47 = .ok (.getfield 59, 3) := by decide +kernel
theorem dX4_drink_50 : decode cX4_drink 50 = .ok (.iload_n 1, 1) := by decide +kernel
theorem dX4_drink_51 : decode cX4_drink 51 = .ok (.iaload, 1) := by decide +kernel
theorem dX4_drink_52 : decode cX4_drink 52 = .ok (.ireturn, 1) := by decide +kernel
theorem dX4_pass_0 : decode cX4_pass 0 = .ok (.iload_n 1, 1) := by decide +kernel
theorem dX4_pass_1 : decode cX4_pass 1 = .ok (.invokestatic 113, 3) := by decide +kernel
theorem dX4_pass_4 : decode cX4_pass 4 = .ok (.aload_n 0, 1) := by decide +kernel
theorem dX4_pass_5 : decode cX4_pass 5 = .ok (.getfield 12, 3) := by decide +kernel
theorem dX4_pass_8 : decode cX4_pass 8 = .ok (.getfield 116, 3) := by decide +kernel
theorem dX4_pass_11 : decode cX4_pass 11 = .ok (.iload_n 1, 1) := by decide +kernel
theorem dX4_pass_12 : decode cX4_pass 12 = .ok (.iadd, 1) := by decide +kernel
theorem dX4_pass_13 : decode cX4_pass 13 = .ok (.sipush 9999, 3) := by decide +kernel
theorem dX4_pass_16 : decode cX4_pass 16 = .ok (.if_icmp .le 11, 3) := by decide +kernel
theorem dX4_pass_19 : decode cX4_pass 19 = .ok (.new 45, 3) := by decide +kernel
theorem dX4_pass_22 : decode cX4_pass 22 = .ok (.dup, 1) := by decide +kernel
theorem dX4_pass_23 : decode cX4_pass 23 = .ok (.invokespecial 47, 3) := by decide +kernel
theorem dX4_pass_26 : decode cX4_pass 26 = .ok (.athrow, 1) := by decide +kernel
theorem dX4_pass_27 : decode cX4_pass 27 = .ok (.aload_n 0, 1) := by decide +kernel
theorem dX4_pass_28 : decode cX4_pass 28 = .ok (.getfield 30, 3) := by decide +kernel
theorem dX4_pass_31 : decode cX4_pass 31 = .ok (.aload_n 0, 1) := by decide +kernel
theorem dX4_pass_32 : decode cX4_pass 32 = .ok (.getfield 12, 3) := by decide +kernel
theorem dX4_pass_35 : decode cX4_pass 35 = .ok (.invokevirtual 48, 3) := by decide +kernel
theorem dX4_pass_38 : decode cX4_pass 38 = .ok (.aload_n 0, 1) := by decide +kernel
theorem dX4_pass_39 : decode cX4_pass 39 = .ok (.getfield 12, 3) := by decide +kernel
theorem dX4_pass_42 : decode cX4_pass 42 = .ok (.getfield 119, 3) := by decide +kernel
theorem dX4_pass_45 : decode cX4_pass 45 = .ok (.invokestatic 122, 3) := by decide +kernel
theorem dX4_pass_48 : decode cX4_pass 48 = .ok (.istore_n 2, 1) := by decide +kernel
theorem dX4_pass_49 : decode cX4_pass 49 = .ok (.aload_n 0, 1) := by decide +kernel
theorem dX4_pass_50 : decode cX4_pass 50 = .ok (.getfield 12, 3) := by decide +kernel
theorem dX4_pass_53 : decode cX4_pass 53 = .ok (.iload_n 1, 1) := by decide +kernel
theorem dX4_pass_54 : decode cX4_pass 54 = .ok (.invokevirtual 126, 3) := by decide +kernel
theorem dX4_pass_57 : decode cX4_pass 57 = .ok (.aload_n 0, 1) := by decide +kernel
theorem dX4_pass_58 : decode cX4_pass 58 = .ok (.getfield 12, 3) := by decide +kernel
theorem dX4_pass_61 : decode cX4_pass 61 = .ok (.getfield 119, 3) := by decide +kernel
theorem dX4_pass_64 : decode cX4_pass 64 = .ok (.invokestatic 122, 3) := by decide +kernel
theorem dX4_pass_67 : decode cX4_pass 67 = .ok (.iload_n 2, 1) := by decide +kernel
theorem dX4_pass_68 : decode cX4_pass 68 = .ok (.isub, 1) := by decide +kernel
theorem dX4_pass_69 : decode cX4_pass 69 = .ok (.ireturn, 1) := by decide +kernel
theorem dX4_set_0 : decode cX4_set 0 = .ok (.iload_n 1, 1) := by decide +kernel
theorem dX4_set_1 : decode cX4_set 1 = .ok (.invokestatic 129, 3) := by decide +kernel
theorem dX4_set_4 : decode cX4_set 4 = .ok (.iload_n 2, 1) := by decide +kernel
theorem dX4_set_5 : decode cX4_set 5 = .ok (.getstatic 132, 3) := by decide +kernel
theorem dX4_set_8 : decode cX4_set 8 = .ok (.iload_n 1, 1) := by decide +kernel
theorem dX4_set_9 : decode cX4_set 9 = .ok (.iaload, 1) := by decide +kernel
theorem dX4_set_10 : decode cX4_set 10 = .ok (.if_icmp .lt 12, 3) := by decide +kernel
theorem dX4_set_13 : decode cX4_set 13 = .ok (.iload_n 2, 1) := by decide +kernel
theorem dX4_set_14 : decode cX4_set 14 = .ok (.getstatic 135, 3) := by decide +kernel
theorem dX4_set_17 : decode cX4_set 17 = .ok (.iload_n 1, 1) := by decide +kernel
theorem dX4_set_18 : decode cX4_set 18 = .ok (.iaload, 1) := by decide +kernel
theorem dX4_set_19 : decode cX4_set 19 = .ok (.if_icmp .le 11, 3) := by decide +kernel
theorem dX4_set_22 : decode cX4_set 22 = .ok (.new 56, 3) := by decide +kernel
theorem dX4_set_25 : decode cX4_set 25 = .ok (.dup, 1) := by decide +kernel
theorem dX4_set_26 : decode cX4_set 26 = .ok (.invokespecial 58, 3) := by decide +kernel
theorem dX4_set_29 : decode cX4_set 29 = .ok (.athrow, 1) := by decide +kernel
theorem dX4_set_30 : decode cX4_set 30 = .ok (.aload_n 0, 1) := by decide +kernel
theorem dX4_set_31 : decode cX4_set 31 = .ok (.getfield 30, 3) := by decide +kernel
theorem dX4_set_34 : decode cX4_set 34 = .ok (.aload_n 0, 1) := by decide +kernel
theorem dX4_set_35 : decode cX4_set 35 = .ok (.getfield 12, 3) := by decide +kernel
theorem dX4_set_38 : decode cX4_set 38 = .ok (.invokevirtual 48, 3) := by decide +kernel
theorem dX4_set_41 : decode cX4_set 41 = .ok (.aload_n 0, 1) := by decide +kernel
theorem dX4_set_42 : decode cX4_set 42 = .ok (.getfield 12, 3) := by decide +kernel
theorem dX4_set_45 : decode cX4_set 45 = .ok (.getfield 138, 3) := by decide +kernel
theorem dX4_set_48 : decode cX4_set 48 = .ok (.iload_n 1, 1) := by decide +kernel
theorem dX4_set_49 : decode cX4_set 49 = .ok (.iaload, 1) := by decide +kernel
theorem dX4_set_50 : decode cX4_set 50 = .ok (.istore_n 3, 1) := by decide +kernel
theorem dX4_set_51 : decode cX4_set 51 = .ok (.aload_n 0, 1) := by decide +kernel
theorem dX4_set_52 : decode cX4_set 52 = .ok (.getfield 12, 3) := by decide +kernel
theorem dX4_set_55 : decode cX4_set 55 = .ok (.getfield 138, 3) := by decide +kernel
theorem dX4_set_58 : decode cX4_set 58 = .ok (.iload_n 1, 1) := by decide +kernel
theorem dX4_set_59 : decode cX4_set 59 = .ok (.iload_n 2, 1) := by decide +kernel
theorem dX4_set_60 : decode cX4_set 60 = .ok (.iastore, 1) := by decide +kernel
theorem dX4_set_61 : decode cX4_set 61 = .ok (.iload_n 3, 1) := by decide +kernel
theorem dX4_set_62 : decode cX4_set 62 = .ok (.ireturn, 1) := by decide +kernel
theorem dX4_append_0 : decode cX4_append 0 = .ok (.iload_n 1, 1) := by decide +kernel
theorem dX4_append_1 : decode cX4_append 1 = .ok (.bipush 33, 2) := by decide +kernel
theorem dX4_append_3 : decode cX4_append 3 = .ok (.if_icmp .lt 9, 3) := by decide +kernel
theorem dX4_append_6 : decode cX4_append 6 = .ok (.iload_n 1, 1) := by decide +kernel
theorem dX4_append_7 : decode cX4_append 7 = .ok (.bipush 126, 2) := by decide +kernel
theorem dX4_append_9 : decode cX4_append 9 = .ok (.if_icmp .le 11, 3) := by decide +kernel
theorem dX4_append_12 : decode cX4_append 12 = .ok (.new 56, 3) := by decide +kernel
theorem dX4_append_15 : decode cX4_append 15 = .ok (.dup, 1) := by decide +kernel
theorem dX4_append_16 : decode cX4_append 16 = .ok (.invokespecial 58, 3) := by decide +kernel
theorem dX4_append_19 : decode cX4_append 19 = .ok (.athrow, 1) := by decide +kernel
theorem dX4_append_20 : decode cX4_append 20 = .ok (.aload_n 0, 1) := by decide +kernel
theorem dX4_append_21 : decode cX4_append 21 = .ok (.getfield 37, 3) := by decide +kernel
theorem dX4_append_24 : decode cX4_append 24 = .ok (.getfield 141, 3) := by decide +kernel
theorem dX4_append_27 : decode cX4_append 27 = .ok (.bipush 60, 2) := by decide +kernel
theorem dX4_append_29 : decode cX4_append 29 = .ok (.if_icmp .lt 11, 3) := by decide +kernel
theorem dX4_append_32 : decode cX4_append 32 = .ok (.new 45, 3) := by decide +kernel
theorem dX4_append_35 : decode cX4_append 35 = .ok (.dup, 1) := by decide +kernel
theorem dX4_append_36 : decode cX4_append 36 = .ok (.invokespecial 47, 3) := by decide +kernel
theorem dX4_append_39 : decode cX4_append 39 = .ok (.athrow, 1) := by decide +kernel
theorem dX4_append_40 : decode cX4_append 40 = .ok (.aload_n 0, 1) := by decide +kernel
theorem dX4_append_41 : decode cX4_append 41 = .ok (.getfield 37, 3) := by decide +kernel
theorem dX4_append_44 : decode cX4_append 44 = .ok (.getfield 144, 3) := by decide +kernel
theorem dX4_append_47 : decode cX4_append 47 = .ok (.aload_n 0, 1) := by decide +kernel
theorem dX4_append_48 : decode cX4_append 48 = .ok (.getfield 37, 3) := by decide +kernel
theorem dX4_append_51 : decode cX4_append 51 = .ok (.getfield 141, 3) := by decide +kernel
theorem dX4_append_54 : decode cX4_append 54 = .ok (.iload_n 1, 1) := by decide +kernel
theorem dX4_append_55 : decode cX4_append 55 = .ok (.iastore, 1) := by decide +kernel
theorem dX4_append_56 : decode cX4_append 56 = .ok (.aload_n 0, 1) := by decide +kernel
theorem dX4_append_57 : decode cX4_append 57 = .ok (.getfield 37, 3) := by decide +kernel
theorem dX4_append_60 : decode cX4_append 60 = .ok (.dup, 1) := by decide +kernel
theorem dX4_append_61 : decode cX4_append 61 = .ok (.getfield 141, 3) := by decide +kernel
theorem dX4_append_64 : decode cX4_append 64 = .ok (.iconst 1, 1) := by decide +kernel
theorem dX4_append_65 : decode cX4_append 65 = .ok (.iadd, 1) := by decide +kernel
theorem dX4_append_66 : decode cX4_append 66 = .ok (.putfield 141, 3) := by decide +kernel
theorem dX4_append_69 : decode cX4_append 69 = .ok (.aload_n 0, 1) := by decide +kernel
theorem dX4_append_70 : decode cX4_append 70 = .ok (.getfield 37, 3) := by decide +kernel
theorem dX4_append_73 : decode cX4_append 73 = .ok (.getfield 141, 3) := by decide +kernel
theorem dX4_append_76 : decode cX4_append 76 = .ok (.ireturn, 1) := by decide +kernel
theorem dX4_clearBuffer_0 : decode cX4_clearBuffer 0 = .ok (.aload_n 0, 1) := by decide +kernel
theorem dX4_clearBuffer_1 : decode cX4_clearBuffer 1 = .ok (.getfield 37, 3) := by decide +kernel
theorem dX4_clearBuffer_4 : decode cX4_clearBuffer 4 = .ok (.getfield 141, 3) := by decide +kernel
theorem dX4_clearBuffer_7 : decode cX4_clearBuffer 7 = .ok (.istore_n 1, 1) := by decide +kernel
theorem dX4_clearBuffer_8 : decode cX4_clearBuffer 8 = .ok (.aload_n 0, 1) := by decide +kernel
theorem dX4_clearBuffer_9 : decode cX4_clearBuffer 9 = .ok (.getfield 37, 3) := by decide +kernel
theorem dX4_clearBuffer_12 : decode cX4_clearBuffer 12 = .ok (.iconst 0, 1) := by decide +kernel
theorem dX4_clearBuffer_13 : decode cX4_clearBuffer 13 = .ok (.putfield 141, 3) := by decide +kernel
theorem dX4_clearBuffer_16 : decode cX4_clearBuffer 16 = .ok (.iload_n 1, 1) := by decide +kernel
theorem dX4_clearBuffer_17 : decode cX4_clearBuffer 17 = .ok (.ireturn, 1) := by decide +kernel
theorem dX4_firstError_0 : decode cX4_firstError 0 = .ok (.aload_n 0, 1) := by decide +kernel
theorem dX4_firstError_1 : decode cX4_firstError 1 = .ok (.getfield 37, 3) := by decide +kernel
theorem dX4_firstError_4 : decode cX4_firstError 4 = .ok (.invokevirtual 147, 3) := by decide +kernel
theorem dX4_firstError_7 : decode cX4_firstError 7 = .ok (.ireturn, 1) := by decide +kernel
theorem dX4_run_0 : decode cX4_run 0 = .ok (.aload_n 0, 1) := by decide +kernel
theorem dX4_run_1 : decode cX4_run 1 = .ok (.getfield 37, 3) := by decide +kernel
theorem dX4_run_4 : decode cX4_run 4 = .ok (.invokevirtual 151, 3) := by decide +kernel
theorem dX4_run_7 : decode cX4_run 7 = .ok (.ifCond .ne 11, 3) := by decide +kernel
theorem dX4_run_10 : decode cX4_run 10 = .ok (.new 56, 3) := by decide +kernel
theorem dX4_run_13 : decode cX4_run 13 = .ok (.dup, 1) := by decide +kernel
theorem dX4_run_14 : decode cX4_run 14 = .ok (.invokespecial 58, 3) := by decide +kernel
theorem dX4_run_17 : decode cX4_run 17 = .ok (.athrow, 1) := by decide +kernel
theorem dX4_run_18 : decode cX4_run 18 = .ok (.aload_n 0, 1) := by decide +kernel
theorem dX4_run_19 : decode cX4_run 19 = .ok (.getfield 30, 3) := by decide +kernel
theorem dX4_run_22 : decode cX4_run 22 = .ok (.aload_n 0, 1) := by decide +kernel
theorem dX4_run_23 : decode cX4_run 23 = .ok (.getfield 12, 3) := by decide +kernel
theorem dX4_run_26 : decode cX4_run 26 = .ok (.invokevirtual 48, 3) := by decide +kernel
theorem dX4_run_29 : decode cX4_run 29 = .ok (.iconst 0, 1) := by decide +kernel
theorem dX4_run_30 : decode cX4_run 30 = .ok (.istore_n 1, 1) := by decide +kernel
theorem dX4_run_31 : decode cX4_run 31 = .ok (.iconst 0, 1) := by decide +kernel
theorem dX4_run_32 : decode cX4_run 32 = .ok (.istore_n 2, 1) := by decide +kernel
theorem dX4_run_33 : decode cX4_run 33 = .ok (.iload_n 2, 1) := by decide +kernel
theorem dX4_run_34 : decode cX4_run 34 = .ok (.aload_n 0, 1) := by decide +kernel
theorem dX4_run_35 : decode cX4_run 35 = .ok (.getfield 37, 3) := by decide +kernel
theorem dX4_run_38 : decode cX4_run 38 = .ok (.getfield 141, 3) := by decide +kernel
theorem dX4_run_41 : decode cX4_run 41 = .ok (.if_icmp .ge 28, 3) := by decide +kernel
theorem dX4_run_44 : decode cX4_run 44 = .ok (.aload_n 0, 1) := by decide +kernel
theorem dX4_run_45 : decode cX4_run 45 = .ok (.iload_n 2, 1) := by decide +kernel
theorem dX4_run_46 : decode cX4_run 46 = .ok (.invokevirtual 154, 3) := by decide +kernel
theorem dX4_run_49 : decode cX4_run 49 = .ok (.ifCond .eq 20, 3) := by decide +kernel
theorem dX4_run_52 : decode cX4_run 52 = .ok (.iinc 1 1, 3) := by decide +kernel
theorem dX4_run_55 : decode cX4_run 55 = .ok (.iload_n 2, 1) := by decide +kernel
theorem dX4_run_56 : decode cX4_run 56 = .ok (.aload_n 0, 1) := by decide +kernel
theorem dX4_run_57 : decode cX4_run 57 = .ok (.getfield 37, 3) := by decide +kernel
theorem dX4_run_60 : decode cX4_run 60 = .ok (.iload_n 2, 1) := by decide +kernel
theorem dX4_run_61 : decode cX4_run 61 = .ok (.invokevirtual 157, 3) := by decide +kernel
theorem dX4_run_64 : decode cX4_run 64 = .ok (.iadd, 1) := by decide +kernel
theorem dX4_run_65 : decode cX4_run 65 = .ok (.istore_n 2, 1) := by decide +kernel
theorem dX4_run_66 : decode cX4_run 66 = .ok (.goto (-33), 3) := by decide +kernel
theorem dX4_run_69 : decode cX4_run 69 = .ok (.aload_n 0, 1) := by decide +kernel
theorem dX4_run_70 : decode cX4_run 70 = .ok (.getfield 37, 3) := by decide +kernel
theorem dX4_run_73 : decode cX4_run 73 = .ok (.iconst 0, 1) := by decide +kernel
theorem dX4_run_74 : decode cX4_run 74 = .ok (.putfield 141, 3) := by decide +kernel
theorem dX4_run_77 : decode cX4_run 77 = .ok (.iload_n 1, 1) := by decide +kernel
theorem dX4_run_78 : decode cX4_run 78 = .ok (.ireturn, 1) := by decide +kernel
theorem dX4_keep_0 : decode cX4_keep 0 = .ok (.iload_n 1, 1) := by decide +kernel
theorem dX4_keep_1 : decode cX4_keep 1 = .ok (.invokestatic 160, 3) := by decide +kernel
theorem dX4_keep_4 : decode cX4_keep 4 = .ok (.aload_n 0, 1) := by decide +kernel
theorem dX4_keep_5 : decode cX4_keep 5 = .ok (.getfield 19, 3) := by decide +kernel
theorem dX4_keep_8 : decode cX4_keep 8 = .ok (.iload_n 1, 1) := by decide +kernel
theorem dX4_keep_9 : decode cX4_keep 9 = .ok (.aaload, 1) := by decide +kernel
theorem dX4_keep_10 : decode cX4_keep 10 = .ok (.aload_n 0, 1) := by decide +kernel
theorem dX4_keep_11 : decode cX4_keep 11 = .ok (.getfield 12, 3) := by decide +kernel
theorem dX4_keep_14 : decode cX4_keep 14 = .ok (.invokevirtual 163, 3) := by decide +kernel
theorem dX4_keep_17 : decode cX4_keep 17 = .ok (.aload_n 0, 1) := by decide +kernel
theorem dX4_keep_18 : decode cX4_keep 18 = .ok (.getfield 23, 3) := by decide +kernel
theorem dX4_keep_21 : decode cX4_keep 21 = .ok (.iload_n 1, 1) := by decide +kernel
theorem dX4_keep_22 : decode cX4_keep 22 = .ok (.iconst 1, 1) := by decide +kernel
theorem dX4_keep_23 : decode cX4_keep 23 = .ok (.bastore, 1) := by decide +kernel
theorem dX4_keep_24 : decode cX4_keep 24 = .ok (.aload_n 0, 1) := by decide +kernel
theorem dX4_keep_25 : decode cX4_keep 25 = .ok (.getfield 12, 3) := by decide +kernel
theorem dX4_keep_28 : decode cX4_keep 28 = .ok (.getfield 116, 3) := by decide +kernel
theorem dX4_keep_31 : decode cX4_keep 31 = .ok (.ireturn, 1) := by decide +kernel
theorem dX4_goBack_0 : decode cX4_goBack 0 = .ok (.iload_n 1, 1) := by decide +kernel
theorem dX4_goBack_1 : decode cX4_goBack 1 = .ok (.invokestatic 160, 3) := by decide +kernel
theorem dX4_goBack_4 : decode cX4_goBack 4 = .ok (.aload_n 0, 1) := by decide +kernel
theorem dX4_goBack_5 : decode cX4_goBack 5 = .ok (.getfield 23, 3) := by decide +kernel
theorem dX4_goBack_8 : decode cX4_goBack 8 = .ok (.iload_n 1, 1) := by decide +kernel
theorem dX4_goBack_9 : decode cX4_goBack 9 = .ok (.baload, 1) := by decide +kernel
theorem dX4_goBack_10 : decode cX4_goBack 10 = .ok (.ifCond .ne 11, 3) := by decide +kernel
theorem dX4_goBack_13 : decode cX4_goBack 13 = .ok (.new 45, 3) := by decide +kernel
theorem dX4_goBack_16 : decode cX4_goBack 16 = .ok (.dup, 1) := by decide +kernel
theorem dX4_goBack_17 : decode cX4_goBack 17 = .ok (.invokespecial 47, 3) := by decide +kernel
theorem dX4_goBack_20 : decode cX4_goBack 20 = .ok (.athrow, 1) := by decide +kernel
theorem dX4_goBack_21 : decode cX4_goBack 21 = .ok (.aload_n 0, 1) := by decide +kernel
theorem dX4_goBack_22 : decode cX4_goBack 22 = .ok (.getfield 30, 3) := by decide +kernel
theorem dX4_goBack_25 : decode cX4_goBack 25 = .ok (.aload_n 0, 1) := by decide +kernel
theorem dX4_goBack_26 : decode cX4_goBack 26 = .ok (.getfield 12, 3) := by decide +kernel
theorem dX4_goBack_29 : decode cX4_goBack 29 = .ok (.invokevirtual 48, 3) := by decide +kernel
theorem dX4_goBack_32 : decode cX4_goBack 32 = .ok (.aload_n 0, 1) := by decide +kernel
theorem dX4_goBack_33 : decode cX4_goBack 33 = .ok (.getfield 12, 3) := by decide +kernel
theorem dX4_goBack_36 : decode cX4_goBack 36 = .ok (.aload_n 0, 1) := by decide +kernel
theorem dX4_goBack_37 : decode cX4_goBack 37 = .ok (.getfield 19, 3) := by decide +kernel
theorem dX4_goBack_40 : decode cX4_goBack 40 = .ok (.iload_n 1, 1) := by decide +kernel
theorem dX4_goBack_41 : decode cX4_goBack 41 = .ok (.aaload, 1) := by decide +kernel
theorem dX4_goBack_42 : decode cX4_goBack 42 = .ok (.invokevirtual 163, 3) := by decide +kernel
theorem dX4_goBack_45 : decode cX4_goBack 45 = .ok (.aload_n 0, 1) := by decide +kernel
theorem dX4_goBack_46 : decode cX4_goBack 46 = .ok (.getfield 12, 3) := by decide +kernel
theorem dX4_goBack_49 : decode cX4_goBack 49 = .ok (.getfield 116, 3) := by decide +kernel
theorem dX4_goBack_52 : decode cX4_goBack 52 = .ok (.ireturn, 1) := by decide +kernel
theorem dX4_undo_0 : decode cX4_undo 0 = .ok (.aload_n 0, 1) := by decide +kernel
theorem dX4_undo_1 : decode cX4_undo 1 = .ok (.getfield 30, 3) := by decide +kernel
theorem dX4_undo_4 : decode cX4_undo 4 = .ok (.getfield 166, 3) := by decide +kernel
theorem dX4_undo_7 : decode cX4_undo 7 = .ok (.ifCond .gt 11, 3) := by decide +kernel
theorem dX4_undo_10 : decode cX4_undo 10 = .ok (.new 45, 3) := by decide +kernel
theorem dX4_undo_13 : decode cX4_undo 13 = .ok (.dup, 1) := by decide +kernel
theorem dX4_undo_14 : decode cX4_undo 14 = .ok (.invokespecial 47, 3) := by decide +kernel
theorem dX4_undo_17 : decode cX4_undo 17 = .ok (.athrow, 1) := by decide +kernel
theorem dX4_undo_18 : decode cX4_undo 18 = .ok (.aload_n 0, 1) := by decide +kernel
theorem dX4_undo_19 : decode cX4_undo 19 = .ok (.getfield 30, 3) := by decide +kernel
theorem dX4_undo_22 : decode cX4_undo 22 = .ok (.aload_n 0, 1) := by decide +kernel
theorem dX4_undo_23 : decode cX4_undo 23 = .ok (.getfield 12, 3) := by decide +kernel
theorem dX4_undo_26 : decode cX4_undo 26 = .ok (.invokevirtual 169, 3) := by decide +kernel
theorem dX4_undo_29 : decode cX4_undo 29 = .ok (.aload_n 0, 1) := by decide +kernel
theorem dX4_undo_30 : decode cX4_undo 30 = .ok (.getfield 30, 3) := by decide +kernel
theorem dX4_undo_33 : decode cX4_undo 33 = .ok (.getfield 166, 3) := by decide +kernel
theorem dX4_undo_36 : decode cX4_undo 36 = .ok (.ireturn, 1) := by decide +kernel
theorem dX4_kind_0 : decode cX4_kind 0 = .ok (.iload_n 1, 1) := by decide +kernel
theorem dX4_kind_1 : decode cX4_kind 1 = .ok (.invokestatic 52, 3) := by decide +kernel
theorem dX4_kind_4 : decode cX4_kind 4 = .ok (.iload_n 2, 1) := by decide +kernel
theorem dX4_kind_5 : decode cX4_kind 5 = .ok (.bipush 7, 2) := by decide +kernel
theorem dX4_kind_7 : decode cX4_kind 7 = .ok (.invokestatic 172, 3) := by decide +kernel
theorem dX4_kind_10 : decode cX4_kind 10 = .ok (.aload_n 0, 1) := by decide +kernel
theorem dX4_kind_11 : decode cX4_kind 11 = .ok (.getfield 12, 3) := by decide +kernel
theorem dX4_kind_14 : decode cX4_kind 14 = .ok (.iload_n 1, 1) := by decide +kernel
theorem dX4_kind_15 : decode cX4_kind 15 = .ok (.iload_n 2, 1) := by decide +kernel
theorem dX4_kind_16 : decode cX4_kind 16 = .ok (.invokevirtual 175, 3) := by decide +kernel
theorem dX4_kind_19 : decode cX4_kind 19 = .ok (.ireturn, 1) := by decide +kernel
theorem dX4_houseOf_0 : decode cX4_houseOf 0 = .ok (.aload_n 0, 1) := by decide +kernel
theorem dX4_houseOf_1 : decode cX4_houseOf 1 = .ok (.iload_n 1, 1) := by decide +kernel
theorem dX4_houseOf_2 : decode cX4_houseOf 2 = .ok (.iload_n 2, 1) := by decide +kernel
theorem dX4_houseOf_3 : decode cX4_houseOf 3 = .ok (.invokevirtual 70, 3) := by decide +kernel
theorem dX4_houseOf_6 : decode cX4_houseOf 6 = .ok (.iload_n 3, 1) := by decide +kernel
theorem dX4_houseOf_7 : decode cX4_houseOf 7 = .ok (.bipush 10, 2) := by decide +kernel
theorem dX4_houseOf_9 : decode cX4_houseOf 9 = .ok (.invokestatic 172, 3) := by decide +kernel
theorem dX4_houseOf_12 : decode cX4_houseOf 12 = .ok (.aload_n 0, 1) := by decide +kernel
theorem dX4_houseOf_13 : decode cX4_houseOf 13 = .ok (.getfield 12, 3) := by decide +kernel
theorem dX4_houseOf_16 : decode cX4_houseOf 16 = .ok (.iload_n 1, 1) := by decide +kernel
theorem dX4_houseOf_17 : decode cX4_houseOf 17 = .ok (.iload_n 2, 1) := by decide +kernel
theorem dX4_houseOf_18 : decode cX4_houseOf 18 = .ok (.invokestatic 78, 3) := by decide +kernel
theorem dX4_houseOf_21 : decode cX4_houseOf 21 = .ok (.iload_n 3, 1) := by decide +kernel
theorem dX4_houseOf_22 : decode cX4_houseOf 22 = .ok (.invokevirtual 178, 3) := by decide +kernel
theorem dX4_houseOf_25 : decode cX4_houseOf 25 = .ok (.ireturn, 1) := by decide +kernel
theorem dX4_letter_0 : decode cX4_letter 0 = .ok (.iload_n 1, 1) := by decide +kernel
theorem dX4_letter_1 : decode cX4_letter 1 = .ok (.ifCond .ge 11, 3) := by decide +kernel
theorem dX4_letter_4 : decode cX4_letter 4 = .ok (.new 56, 3) := by decide +kernel
theorem dX4_letter_7 : decode cX4_letter 7 = .ok (.dup, 1) := by decide +kernel
theorem dX4_letter_8 : decode cX4_letter 8 = .ok (.invokespecial 58, 3) := by decide +kernel
theorem dX4_letter_11 : decode cX4_letter 11 = .ok (.athrow, 1) := by decide +kernel
theorem dX4_letter_12 : decode cX4_letter 12 = .ok (.iload_n 2, 1) := by decide +kernel
theorem dX4_letter_13 : decode cX4_letter 13 = .ok (.iconst 5, 1) := by decide +kernel
theorem dX4_letter_14 : decode cX4_letter 14 = .ok (.invokestatic 172, 3) := by decide +kernel
theorem dX4_letter_17 : decode cX4_letter 17 = .ok (.aload_n 0, 1) := by decide +kernel
theorem dX4_letter_18 : decode cX4_letter 18 = .ok (.getfield 12, 3) := by decide +kernel
theorem dX4_letter_21 : decode cX4_letter 21 = .ok (.getfield 88, 3) := by decide +kernel
theorem dX4_letter_24 : decode cX4_letter 24 = .ok (.iload_n 1, 1) := by decide +kernel
theorem dX4_letter_25 : decode cX4_letter 25 = .ok (.iload_n 2, 1) := by decide +kernel
theorem dX4_letter_26 : decode cX4_letter 26 = .ok (.invokevirtual 181, 3) := by decide +kernel
theorem dX4_letter_29 : decode cX4_letter 29 = .ok (.ireturn, 1) := by decide +kernel
theorem dX4_count_0 : decode cX4_count 0 = .ok (.iload_n 1, 1) := by decide +kernel
theorem dX4_count_1 : decode cX4_count 1 = .ok (.bipush 12, 2) := by decide +kernel
theorem dX4_count_3 : decode cX4_count 3 = .ok (.invokestatic 172, 3) := by decide +kernel
theorem dX4_count_6 : decode cX4_count 6 = .ok (.aload_n 0, 1) := by decide +kernel
theorem dX4_count_7 : decode cX4_count 7 = .ok (.iload_n 1, 1) := by decide +kernel
theorem dX4_count_8 : decode cX4_count 8 = .ok (.invokevirtual 184, 3) := by decide +kernel
theorem dX4_count_11 : decode cX4_count 11 = .ok (.ireturn, 1) := by decide +kernel
theorem dX4_setting_0 : decode cX4_setting 0 = .ok (.iload_n 1, 1) := by decide +kernel
theorem dX4_setting_1 : decode cX4_setting 1 = .ok (.invokestatic 129, 3) := by decide +kernel
theorem dX4_setting_4 : decode cX4_setting 4 = .ok (.aload_n 0, 1) := by decide +kernel
theorem dX4_setting_5 : decode cX4_setting 5 = .ok (.getfield 12, 3) := by decide +kernel
theorem dX4_setting_8 : decode cX4_setting 8 = .ok (.getfield 138, 3) := by decide +kernel
theorem dX4_setting_11 : decode cX4_setting 11 = .ok (.iload_n 1, 1) := by decide +kernel
theorem dX4_setting_12 : decode cX4_setting 12 = .ok (.iaload, 1) := by decide +kernel
theorem dX4_setting_13 : decode cX4_setting 13 = .ok (.ireturn, 1) := by decide +kernel
theorem dX4_ifPassed_0 : decode cX4_ifPassed 0 = .ok (.iload_n 1, 1) := by decide +kernel
theorem dX4_ifPassed_1 : decode cX4_ifPassed 1 = .ok (.invokestatic 113, 3) := by decide +kernel
theorem dX4_ifPassed_4 : decode cX4_ifPassed 4 = .ok (.iload_n 2, 1) := by decide +kernel
theorem dX4_ifPassed_5 : decode cX4_ifPassed 5 = .ok (.iconst 4, 1) := by decide +kernel
theorem dX4_ifPassed_6 : decode cX4_ifPassed 6 = .ok (.invokestatic 172, 3) := by decide +kernel
theorem dX4_ifPassed_9 : decode cX4_ifPassed 9 = .ok (.aload_n 0, 1) := by decide +kernel
theorem dX4_ifPassed_10 : decode cX4_ifPassed 10 = .ok (.iload_n 1, 1) := by decide +kernel
theorem dX4_ifPassed_11 : decode cX4_ifPassed 11 = .ok (.invokevirtual 187, 3) := by decide +kernel
theorem dX4_ifPassed_14 : decode cX4_ifPassed 14 = .ok (.aload_n 0, 1) := by decide +kernel
theorem dX4_ifPassed_15 : decode cX4_ifPassed 15 = .ok (.iload_n 2, 1) := by decide +kernel
theorem dX4_ifPassed_16 : decode cX4_ifPassed 16 = .ok (.invokevirtual 190, 3) := by decide +kernel
theorem dX4_ifPassed_19 : decode cX4_ifPassed 19 = .ok (.ireturn, 1) := by decide +kernel
theorem dX4_stillIn_0 : decode cX4_stillIn 0 = .ok (.aload_n 0, 1) := by decide +kernel
theorem dX4_stillIn_1 : decode cX4_stillIn 1 = .ok (.getfield 16, 3) := by decide +kernel
theorem dX4_stillIn_4 : decode cX4_stillIn 4 = .ok (.aload_n 0, 1) := by decide +kernel
theorem dX4_stillIn_5 : decode cX4_stillIn 5 = .ok (.getfield 12, 3) := by decide +kernel
theorem dX4_stillIn_8 : decode cX4_stillIn 8 = .ok (.invokevirtual 163, 3) := by decide +kernel
theorem dX4_stillIn_11 : decode cX4_stillIn 11 = .ok (.iconst 0, 1) := by decide +kernel
theorem dX4_stillIn_12 : decode cX4_stillIn 12 = .ok (.istore_n 1, 1) := by decide +kernel
theorem dX4_stillIn_13 : decode cX4_stillIn 13 = .ok (.iload_n 1, 1) := by decide +kernel
theorem dX4_stillIn_14 : decode cX4_stillIn 14 = .ok (.sipush 200, 3) := by decide +kernel
theorem dX4_stillIn_17 : decode cX4_stillIn 17 = .ok (.if_icmp .gt 32, 3) := by decide +kernel
theorem dX4_stillIn_20 : decode cX4_stillIn 20 = .ok (.aload_n 0, 1) := by decide +kernel
theorem dX4_stillIn_21 : decode cX4_stillIn 21 = .ok (.getfield 16, 3) := by decide +kernel
theorem dX4_stillIn_24 : decode cX4_stillIn 24 = .ok (.getfield 88, 3) := by decide +kernel
theorem dX4_stillIn_27 : decode cX4_stillIn 27 = .ok (.getfield 101, 3) := by decide +kernel
theorem dX4_stillIn_30 : decode cX4_stillIn 30 = .ok (.ifCond .ne 5, 3) := by decide +kernel
theorem dX4_stillIn_33 : decode cX4_stillIn 33 = .ok (.iload_n 1, 1) := by decide +kernel
theorem dX4_stillIn_34 : decode cX4_stillIn 34 = .ok (.ireturn, 1) := by decide +kernel
theorem dX4_stillIn_35 : decode cX4_stillIn 35 = .ok (.aload_n 0, 1) := by decide +kernel
theorem dX4_stillIn_36 : decode cX4_stillIn 36 = .ok (.getfield 16, 3) := by decide +kernel
theorem dX4_stillIn_39 : decode cX4_stillIn 39 = .ok (.iconst 1, 1) := by decide +kernel
theorem dX4_stillIn_40 : decode cX4_stillIn 40 = .ok (.invokevirtual 126, 3) := by decide +kernel
theorem dX4_stillIn_43 : decode cX4_stillIn 43 = .ok (.iinc 1 1, 3) := by decide +kernel
theorem dX4_stillIn_46 : decode cX4_stillIn 46 = .ok (.goto (-33), 3) := by decide +kernel
theorem dX4_stillIn_49 : decode cX4_stillIn 49 = .ok (.iconst (-1), 1) := by decide +kernel
theorem dX4_stillIn_50 : decode cX4_stillIn 50 = .ok (.ireturn, 1) := by decide +kernel
theorem dX4_hidden_0 : decode cX4_hidden 0 = .ok (.aload_n 0, 1) := by decide +kernel
theorem dX4_hidden_1 : decode cX4_hidden 1 = .ok (.getfield 12, 3) := by decide +kernel
theorem dX4_hidden_4 : decode cX4_hidden 4 = .ok (.getfield 119, 3) := by decide +kernel
theorem dX4_hidden_7 : decode cX4_hidden 7 = .ok (.invokestatic 122, 3) := by decide +kernel
theorem dX4_hidden_10 : decode cX4_hidden 10 = .ok (.aload_n 0, 1) := by decide +kernel
theorem dX4_hidden_11 : decode cX4_hidden 11 = .ok (.getfield 12, 3) := by decide +kernel
theorem dX4_hidden_14 : decode cX4_hidden 14 = .ok (.getfield 193, 3) := by decide +kernel
theorem dX4_hidden_17 : decode cX4_hidden 17 = .ok (.invokestatic 122, 3) := by decide +kernel
theorem dX4_hidden_20 : decode cX4_hidden 20 = .ok (.isub, 1) := by decide +kernel
theorem dX4_hidden_21 : decode cX4_hidden 21 = .ok (.ireturn, 1) := by decide +kernel
theorem dX4_neediest_0 : decode cX4_neediest 0 = .ok (.iconst (-1), 1) := by decide +kernel
theorem dX4_neediest_1 : decode cX4_neediest 1 = .ok (.istore_n 1, 1) := by decide +kernel
theorem dX4_neediest_2 : decode cX4_neediest 2 = .ok (.iconst 0, 1) := by decide +kernel
theorem dX4_neediest_3 : decode cX4_neediest 3 = .ok (.istore_n 2, 1) := by decide +kernel
theorem dX4_neediest_4 : decode cX4_neediest 4 = .ok (.iconst 0, 1) := by decide +kernel
theorem dX4_neediest_5 : decode cX4_neediest 5 = .ok (.istore_n 3, 1) := by decide +kernel
theorem dX4_neediest_6 : decode cX4_neediest 6 = .ok (.iload_n 3, 1) := by decide +kernel
theorem dX4_neediest_7 : decode cX4_neediest 7 = .ok (.aload_n 0, 1) := by decide +kernel
theorem dX4_neediest_8 : decode cX4_neediest 8 = .ok (.getfield 12, 3) := by decide +kernel
theorem dX4_neediest_11 : decode cX4_neediest 11 = .ok (.getfield 41, 3) := by decide +kernel
theorem dX4_neediest_14 : decode cX4_neediest 14 = .ok (.if_icmp .ge 35, 3) := by decide +kernel
theorem dX4_neediest_17 : decode cX4_neediest 17 = .ok (.iload_n 3, 1) := by decide +kernel
theorem dX4_neediest_18 : decode cX4_neediest 18 = .ok (.iconst 4, 1) := by decide +kernel
theorem dX4_neediest_19 : decode cX4_neediest 19 = .ok (.if_icmp .ge 30, 3) := by decide +kernel
theorem dX4_neediest_22 : decode cX4_neediest 22 = .ok (.aload_n 0, 1) := by decide +kernel
theorem dX4_neediest_23 : decode cX4_neediest 23 = .ok (.getfield 12, 3) := by decide +kernel
theorem dX4_neediest_26 : decode cX4_neediest 26 = .ok (.iload_n 3, 1) := by decide +kernel
theorem dX4_neediest_27 : decode cX4_neediest 27 = .ok (.invokevirtual 196, 3) := by decide +kernel
theorem dX4_neediest_30 : decode cX4_neediest 30 = .ok (.istore 4, 2) := by decide +kernel
theorem dX4_neediest_32 : decode cX4_neediest 32 = .ok (.iload 4, 2) := by decide +kernel
theorem dX4_neediest_34 : decode cX4_neediest 34 = .ok (.iload_n 2, 1) := by decide +kernel
theorem dX4_neediest_35 : decode cX4_neediest 35 = .ok (.if_icmp .le 8, 3) := by decide +kernel
theorem dX4_neediest_38 : decode cX4_neediest 38 = .ok (.iload 4, 2) := by decide +kernel
theorem dX4_neediest_40 : decode cX4_neediest 40 = .ok (.istore_n 2, 1) := by decide +kernel
theorem dX4_neediest_41 : decode cX4_neediest 41 = .ok (.iload_n 3, 1) := by decide +kernel
theorem dX4_neediest_42 : decode cX4_neediest 42 = .ok (.istore_n 1, 1) := by decide +kernel
theorem dX4_neediest_43 : decode cX4_neediest 43 = .ok (.iinc 3 1, 3) := by decide +kernel
theorem dX4_neediest_46 : decode cX4_neediest 46 = .ok (.goto (-40), 3) := by decide +kernel
theorem dX4_neediest_49 : decode cX4_neediest 49 = .ok (.iload_n 1, 1) := by decide +kernel
theorem dX4_neediest_50 : decode cX4_neediest 50 = .ok (.ireturn, 1) := by decide +kernel
theorem dX4_arrivedShare_0 : decode cX4_arrivedShare 0 = .ok (.aload_n 0, 1) := by decide +kernel
theorem dX4_arrivedShare_1 : decode cX4_arrivedShare 1 = .ok (.getfield 12, 3) := by decide +kernel
theorem dX4_arrivedShare_4 : decode cX4_arrivedShare 4 = .ok (.getfield 193, 3) := by decide +kernel
theorem dX4_arrivedShare_7 : decode cX4_arrivedShare 7 = .ok (.invokestatic 122, 3) := by decide +kernel
theorem dX4_arrivedShare_10 : decode cX4_arrivedShare 10 = .ok (.istore_n 1, 1) := by decide +kernel
theorem dX4_arrivedShare_11 : decode cX4_arrivedShare 11 = .ok (.iload_n 1, 1) := by decide +kernel
theorem dX4_arrivedShare_12 : decode cX4_arrivedShare 12 = .ok (.ifCond .gt 5, 3) := by decide +kernel
theorem dX4_arrivedShare_15 : decode cX4_arrivedShare 15 = .ok (.dconst 1, 1) := by decide +kernel
theorem dX4_arrivedShare_16 : decode cX4_arrivedShare 16 = .ok (.dreturn, 1) := by decide +kernel
theorem dX4_arrivedShare_17 : decode cX4_arrivedShare 17 = .ok (.aload_n 0, 1) := by decide +kernel
theorem dX4_arrivedShare_18 : decode cX4_arrivedShare 18 = .ok (.getfield 12, 3) := by decide +kernel
theorem dX4_arrivedShare_21 : decode cX4_arrivedShare 21 = .ok (.getfield 199, 3) := by decide +kernel
theorem dX4_arrivedShare_24 : decode cX4_arrivedShare 24 = .ok (.invokestatic 122, 3) := by decide +kernel
theorem dX4_arrivedShare_27 : decode cX4_arrivedShare 27 = .ok (.i2d, 1) := by decide +kernel
theorem dX4_arrivedShare_28 : decode cX4_arrivedShare 28 = .ok (.iload_n 1, 1) := by decide +kernel
theorem dX4_arrivedShare_29 : decode cX4_arrivedShare 29 = .ok (.i2d, 1) := by decide +kernel
theorem dX4_arrivedShare_30 : decode cX4_arrivedShare 30 = .ok (.ddiv, 1) := by decide +kernel
theorem dX4_arrivedShare_31 : decode cX4_arrivedShare 31 = .ok (.dreturn, 1) := by decide +kernel
theorem dX4_requireKind_0 : decode cX4_requireKind 0 = .ok (.iload_n 0, 1) := by decide +kernel
theorem dX4_requireKind_1 : decode cX4_requireKind 1 = .ok (.ifCond .lt 8, 3) := by decide +kernel
theorem dX4_requireKind_4 : decode cX4_requireKind 4 = .ok (.iload_n 0, 1) := by decide +kernel
theorem dX4_requireKind_5 : decode cX4_requireKind 5 = .ok (.iconst 3, 1) := by decide +kernel
theorem dX4_requireKind_6 : decode cX4_requireKind 6 = .ok (.if_icmp .lt 11, 3) := by decide +kernel
theorem dX4_requireKind_9 : decode cX4_requireKind 9 = .ok (.new 238, 3) := by decide +kernel
theorem dX4_requireKind_12 : decode cX4_requireKind 12 = .ok (.dup, 1) := by decide +kernel
theorem dX4_requireKind_13 : decode cX4_requireKind 13 = .ok (.invokespecial 240, 3) := by decide +kernel
theorem dX4_requireKind_16 : decode cX4_requireKind 16 = .ok (.athrow, 1) := by decide +kernel
theorem dX4_requireKind_17 : decode cX4_requireKind 17 = .ok (.return_, 1) := by decide +kernel
theorem dX4_requirePlace_0 : decode cX4_requirePlace 0 = .ok (.aload_n 0, 1) := by decide +kernel
theorem dX4_requirePlace_1 : decode cX4_requirePlace 1 = .ok (.iload_n 1, 1) := by decide +kernel
theorem dX4_requirePlace_2 : decode cX4_requirePlace 2 = .ok (.iload_n 2, 1) := by decide +kernel
theorem dX4_requirePlace_3 : decode cX4_requirePlace 3 = .ok (.invokevirtual 241, 3) := by decide +kernel
theorem dX4_requirePlace_6 : decode cX4_requirePlace 6 = .ok (.ifCond .ne 11, 3) := by decide +kernel
theorem dX4_requirePlace_9 : decode cX4_requirePlace 9 = .ok (.new 238, 3) := by decide +kernel
theorem dX4_requirePlace_12 : decode cX4_requirePlace 12 = .ok (.dup, 1) := by decide +kernel
theorem dX4_requirePlace_13 : decode cX4_requirePlace 13 = .ok (.invokespecial 240, 3) := by decide +kernel
theorem dX4_requirePlace_16 : decode cX4_requirePlace 16 = .ok (.athrow, 1) := by decide +kernel
theorem dX4_requirePlace_17 : decode cX4_requirePlace 17 = .ok (.return_, 1) := by decide +kernel
theorem dX4_requireSetting_0 : decode cX4_requireSetting 0 = .ok (.iload_n 0, 1) := by decide +kernel
theorem dX4_requireSetting_1 : decode cX4_requireSetting 1 = .ok (.ifCond .lt 8, 3) := by decide +kernel
theorem dX4_requireSetting_4 : decode cX4_requireSetting 4 = .ok (.iload_n 0, 1) := by decide +kernel
theorem dX4_requireSetting_5 : decode cX4_requireSetting 5 = .ok (.iconst 3, 1) := by decide +kernel
theorem dX4_requireSetting_6 : decode cX4_requireSetting 6 = .ok (.if_icmp .lt 11, 3) := by decide +kernel
theorem dX4_requireSetting_9 : decode cX4_requireSetting 9 = .ok (.new 238, 3) := by decide +kernel
theorem dX4_requireSetting_12 : decode cX4_requireSetting 12 = .ok (.dup, 1) := by decide +kernel
theorem dX4_requireSetting_13 : decode cX4_requireSetting 13 = .ok (.invokespecial 240, 3) := by decide +kernel
theorem dX4_requireSetting_16 : decode cX4_requireSetting 16 = .ok (.athrow, 1) := by decide +kernel
theorem dX4_requireSetting_17 : decode cX4_requireSetting 17 = .ok (.return_, 1) := by decide +kernel
theorem dX4_requireTicks_0 : decode cX4_requireTicks 0 = .ok (.iload_n 0, 1) := by decide +kernel
theorem dX4_requireTicks_1 : decode cX4_requireTicks 1 = .ok (.iconst 1, 1) := by decide +kernel
theorem dX4_requireTicks_2 : decode cX4_requireTicks 2 = .ok (.if_icmp .lt 9, 3) := by decide +kernel
theorem dX4_requireTicks_5 : decode cX4_requireTicks 5 = .ok (.iload_n 0, 1) := by decide +kernel
theorem dX4_requireTicks_6 : decode cX4_requireTicks 6 = .ok (.bipush 60, 2) := by decide +kernel
theorem dX4_requireTicks_8 : decode cX4_requireTicks 8 = .ok (.if_icmp .le 11, 3) := by decide +kernel
theorem dX4_requireTicks_11 : decode cX4_requireTicks 11 = .ok (.new 56, 3) := by decide +kernel
theorem dX4_requireTicks_14 : decode cX4_requireTicks 14 = .ok (.dup, 1) := by decide +kernel
theorem dX4_requireTicks_15 : decode cX4_requireTicks 15 = .ok (.invokespecial 58, 3) := by decide +kernel
theorem dX4_requireTicks_18 : decode cX4_requireTicks 18 = .ok (.athrow, 1) := by decide +kernel
theorem dX4_requireTicks_19 : decode cX4_requireTicks 19 = .ok (.return_, 1) := by decide +kernel
theorem dX4_requireSlot_0 : decode cX4_requireSlot 0 = .ok (.iload_n 0, 1) := by decide +kernel
theorem dX4_requireSlot_1 : decode cX4_requireSlot 1 = .ok (.ifCond .lt 8, 3) := by decide +kernel
theorem dX4_requireSlot_4 : decode cX4_requireSlot 4 = .ok (.iload_n 0, 1) := by decide +kernel
theorem dX4_requireSlot_5 : decode cX4_requireSlot 5 = .ok (.iconst 2, 1) := by decide +kernel
theorem dX4_requireSlot_6 : decode cX4_requireSlot 6 = .ok (.if_icmp .lt 11, 3) := by decide +kernel
theorem dX4_requireSlot_9 : decode cX4_requireSlot 9 = .ok (.new 56, 3) := by decide +kernel
theorem dX4_requireSlot_12 : decode cX4_requireSlot 12 = .ok (.dup, 1) := by decide +kernel
theorem dX4_requireSlot_13 : decode cX4_requireSlot 13 = .ok (.invokespecial 58, 3) := by decide +kernel
theorem dX4_requireSlot_16 : decode cX4_requireSlot 16 = .ok (.athrow, 1) := by decide +kernel
theorem dX4_requireSlot_17 : decode cX4_requireSlot 17 = .ok (.return_, 1) := by decide +kernel
theorem dX4_requireWhat_0 : decode cX4_requireWhat 0 = .ok (.iload_n 0, 1) := by decide +kernel
theorem dX4_requireWhat_1 : decode cX4_requireWhat 1 = .ok (.ifCond .lt 8, 3) := by decide +kernel
theorem dX4_requireWhat_4 : decode cX4_requireWhat 4 = .ok (.iload_n 0, 1) := by decide +kernel
theorem dX4_requireWhat_5 : decode cX4_requireWhat 5 = .ok (.iload_n 1, 1) := by decide +kernel
theorem dX4_requireWhat_6 : decode cX4_requireWhat 6 = .ok (.if_icmp .lt 11, 3) := by decide +kernel
theorem dX4_requireWhat_9 : decode cX4_requireWhat 9 = .ok (.new 56, 3) := by decide +kernel
theorem dX4_requireWhat_12 : decode cX4_requireWhat 12 = .ok (.dup, 1) := by decide +kernel
theorem dX4_requireWhat_13 : decode cX4_requireWhat 13 = .ok (.invokespecial 58, 3) := by decide +kernel
theorem dX4_requireWhat_16 : decode cX4_requireWhat 16 = .ok (.athrow, 1) := by decide +kernel
theorem dX4_requireWhat_17 : decode cX4_requireWhat 17 = .ok (.return_, 1) := by decide +kernel
theorem dX4_isPlace_0 : decode cX4_isPlace 0 = .ok (.iload_n 1, 1) := by decide +kernel
theorem dX4_isPlace_1 : decode cX4_isPlace 1 = .ok (.ifCond .lt 32, 3) := by decide +kernel
theorem dX4_isPlace_4 : decode cX4_isPlace 4 = .ok (.iload_n 1, 1) := by decide +kernel
theorem dX4_isPlace_5 : decode cX4_isPlace 5 = .ok (.aload_n 0, 1) := by decide +kernel
theorem dX4_isPlace_6 : decode cX4_isPlace 6 = .ok (.getfield 12, 3) := by decide +kernel
theorem dX4_isPlace_9 : decode cX4_isPlace 9 = .ok (.getfield 41, 3) := by decide +kernel
theorem dX4_isPlace_12 : decode cX4_isPlace 12 = .ok (.if_icmp .ge 21, 3) := by decide +kernel
theorem dX4_isPlace_15 : decode cX4_isPlace 15 = .ok (.iload_n 1, 1) := by decide +kernel
theorem dX4_isPlace_16 : decode cX4_isPlace 16 = .ok (.iconst 4, 1) := by decide +kernel
theorem dX4_isPlace_17 : decode cX4_isPlace 17 = .ok (.if_icmp .ge 16, 3) := by decide +kernel
theorem dX4_isPlace_20 : decode cX4_isPlace 20 = .ok (.iload_n 2, 1) := by decide +kernel
theorem dX4_isPlace_21 : decode cX4_isPlace 21 = .ok (.ifCond .lt 12, 3) := by decide +kernel
theorem dX4_isPlace_24 : decode cX4_isPlace 24 = .ok (.iload_n 2, 1) := by decide +kernel
theorem dX4_isPlace_25 : decode cX4_isPlace 25 = .ok (.iconst 3, 1) := by decide +kernel
theorem dX4_isPlace_26 : decode cX4_isPlace 26 = .ok (.if_icmp .ge 7, 3) := by decide +kernel
theorem dX4_isPlace_29 : decode cX4_isPlace 29 = .ok (.iconst 1, 1) := by decide +kernel
theorem dX4_isPlace_30 : decode cX4_isPlace 30 = .ok (.goto 4, 3) := by decide +kernel
theorem dX4_isPlace_33 : decode cX4_isPlace 33 = .ok (.iconst 0, 1) := by decide +kernel
theorem dX4_isPlace_34 : decode cX4_isPlace 34 = .ok (.ireturn, 1) := by decide +kernel
theorem dX4_placeOf_0 : decode cX4_placeOf 0 = .ok (.iload_n 0, 1) := by decide +kernel
theorem dX4_placeOf_1 : decode cX4_placeOf 1 = .ok (.iconst 3, 1) := by decide +kernel
theorem dX4_placeOf_2 : decode cX4_placeOf 2 = .ok (.imul, 1) := by decide +kernel
theorem dX4_placeOf_3 : decode cX4_placeOf 3 = .ok (.iload_n 1, 1) := by decide +kernel
theorem dX4_placeOf_4 : decode cX4_placeOf 4 = .ok (.iadd, 1) := by decide +kernel
theorem dX4_placeOf_5 : decode cX4_placeOf 5 = .ok (.ireturn, 1) := by decide +kernel
theorem dX4_doOrder_0 : decode cX4_doOrder 0 = .ok (.aload_n 0, 1) := by decide +kernel
theorem dX4_doOrder_1 : decode cX4_doOrder 1 = .ok (.getfield 37, 3) := by decide +kernel
theorem dX4_doOrder_4 : decode cX4_doOrder 4 = .ok (.iload_n 1, 1) := by decide +kernel
theorem dX4_doOrder_5 : decode cX4_doOrder 5 = .ok (.invokevirtual 245, 3) := by decide +kernel
theorem dX4_doOrder_8 : decode cX4_doOrder 8 = .ok (.istore_n 2, 1) := by decide +kernel
theorem dX4_doOrder_9 : decode cX4_doOrder 9 = .ok (.aload_n 0, 1) := by decide +kernel
theorem dX4_doOrder_10 : decode cX4_doOrder 10 = .ok (.getfield 37, 3) := by decide +kernel
theorem dX4_doOrder_13 : decode cX4_doOrder 13 = .ok (.iload_n 1, 1) := by decide +kernel
theorem dX4_doOrder_14 : decode cX4_doOrder 14 = .ok (.iconst 1, 1) := by decide +kernel
theorem dX4_doOrder_15 : decode cX4_doOrder 15 = .ok (.iadd, 1) := by decide +kernel
theorem dX4_doOrder_16 : decode cX4_doOrder 16 = .ok (.invokevirtual 248, 3) := by decide +kernel
theorem dX4_doOrder_19 : decode cX4_doOrder 19 = .ok (.istore_n 3, 1) := by decide +kernel
theorem dX4_doOrder_20 : decode cX4_doOrder 20 = .ok (.iload_n 2, 1) := by decide +kernel
theorem dX4_doOrder_21 : decode cX4_doOrder 21 = .ok (.bipush 116, 2) := by decide +kernel
theorem dX4_doOrder_23 : decode cX4_doOrder 23 = .ok (.if_icmp .ne 9, 3) := by decide +kernel
theorem dX4_doOrder_26 : decode cX4_doOrder 26 = .ok (.aload_n 0, 1) := by decide +kernel
theorem dX4_doOrder_27 : decode cX4_doOrder 27 = .ok (.iload_n 3, 1) := by decide +kernel
theorem dX4_doOrder_28 : decode cX4_doOrder 28 = .ok (.invokevirtual 251, 3) := by decide +kernel
theorem dX4_doOrder_31 : decode cX4_doOrder 31 = .ok (.ireturn, 1) := by decide +kernel
theorem dX4_doOrder_32 : decode cX4_doOrder 32 = .ok (.iload_n 2, 1) := by decide +kernel
theorem dX4_doOrder_33 : decode cX4_doOrder 33 = .ok (.bipush 100, 2) := by decide +kernel
theorem dX4_doOrder_35 : decode cX4_doOrder 35 = .ok (.if_icmp .ne 9, 3) := by decide +kernel
theorem dX4_doOrder_38 : decode cX4_doOrder 38 = .ok (.aload_n 0, 1) := by decide +kernel
theorem dX4_doOrder_39 : decode cX4_doOrder 39 = .ok (.iload_n 3, 1) := by decide +kernel
theorem dX4_doOrder_40 : decode cX4_doOrder 40 = .ok (.invokevirtual 254, 3) := by decide +kernel
theorem dX4_doOrder_43 : decode cX4_doOrder 43 = .ok (.ireturn, 1) := by decide +kernel
theorem dX4_doOrder_44 : decode cX4_doOrder 44 = .ok (.aload_n 0, 1) := by decide +kernel
theorem dX4_doOrder_45 : decode cX4_doOrder 45 = .ok (.getfield 37, 3) := by decide +kernel
theorem dX4_doOrder_48 : decode cX4_doOrder 48 = .ok (.iload_n 1, 1) := by decide +kernel
theorem dX4_doOrder_49 : decode cX4_doOrder 49 = .ok (.iconst 2, 1) := by decide +kernel
theorem dX4_doOrder_50 : decode cX4_doOrder 50 = .ok (.iadd, 1) := by decide +kernel
theorem dX4_doOrder_51 : decode cX4_doOrder 51 = .ok (.invokevirtual 248, 3) := by decide +kernel
theorem dX4_doOrder_54 : decode cX4_doOrder 54 = .ok (.istore 4, 2) := by decide +kernel
theorem dX4_doOrder_56 : decode cX4_doOrder 56 = .ok (.aload_n 0, 1) := by decide +kernel
theorem dX4_doOrder_57 : decode cX4_doOrder 57 = .ok (.iload_n 3, 1) := by decide +kernel
theorem dX4_doOrder_58 : decode cX4_doOrder 58 = .ok (.iload 4, 2) := by decide +kernel
theorem dX4_doOrder_60 : decode cX4_doOrder 60 = .ok (.invokevirtual 241, 3) := by decide +kernel
theorem dX4_doOrder_63 : decode cX4_doOrder 63 = .ok (.ifCond .ne 5, 3) := by decide +kernel
theorem dX4_doOrder_66 : decode cX4_doOrder 66 = .ok (.iconst 0, 1) := by decide +kernel
theorem dX4_doOrder_67 : decode cX4_doOrder 67 = .ok (.ireturn, 1) := by decide +kernel
theorem dX4_doOrder_68 : decode cX4_doOrder 68 = .ok (.iload_n 2, 1) := by decide +kernel
theorem dX4_doOrder_69 : decode cX4_doOrder 69 = .ok (.lookupswitch 70 #[(108, 35), (113, 48), (119, 59)], 35) := by decide +kernel
theorem dX4_doOrder_104 : decode cX4_doOrder 104 = .ok (.aload_n 0, 1) := by decide +kernel
theorem dX4_doOrder_105 : decode cX4_doOrder 105 = .ok (.iload_n 3, 1) := by decide +kernel
theorem dX4_doOrder_106 : decode cX4_doOrder 106 = .ok (.iload 4, 2) := by decide +kernel
theorem dX4_doOrder_108 : decode cX4_doOrder 108 = .ok (.invokestatic 78, 3) := by decide +kernel
theorem dX4_doOrder_111 : decode cX4_doOrder 111 = .ok (.iload 4, 2) := by decide +kernel
theorem dX4_doOrder_113 : decode cX4_doOrder 113 = .ok (.invokevirtual 257, 3) := by decide +kernel
theorem dX4_doOrder_116 : decode cX4_doOrder 116 = .ok (.ireturn, 1) := by decide +kernel
theorem dX4_doOrder_117 : decode cX4_doOrder 117 = .ok (.aload_n 0, 1) := by decide +kernel
theorem dX4_doOrder_118 : decode cX4_doOrder 118 = .ok (.iload_n 3, 1) := by decide +kernel
theorem dX4_doOrder_119 : decode cX4_doOrder 119 = .ok (.iload 4, 2) := by decide +kernel
theorem dX4_doOrder_121 : decode cX4_doOrder 121 = .ok (.invokestatic 78, 3) := by decide +kernel
theorem dX4_doOrder_124 : decode cX4_doOrder 124 = .ok (.invokevirtual 260, 3) := by decide +kernel
theorem dX4_doOrder_127 : decode cX4_doOrder 127 = .ok (.ireturn, 1) := by decide +kernel
theorem dX4_doOrder_128 : decode cX4_doOrder 128 = .ok (.aload_n 0, 1) := by decide +kernel
theorem dX4_doOrder_129 : decode cX4_doOrder 129 = .ok (.iload_n 3, 1) := by decide +kernel
theorem dX4_doOrder_130 : decode cX4_doOrder 130 = .ok (.iload 4, 2) := by decide +kernel
theorem dX4_doOrder_132 : decode cX4_doOrder 132 = .ok (.invokestatic 78, 3) := by decide +kernel
theorem dX4_doOrder_135 : decode cX4_doOrder 135 = .ok (.invokevirtual 263, 3) := by decide +kernel
theorem dX4_doOrder_138 : decode cX4_doOrder 138 = .ok (.ireturn, 1) := by decide +kernel
theorem dX4_doOrder_139 : decode cX4_doOrder 139 = .ok (.iconst 0, 1) := by decide +kernel
theorem dX4_doOrder_140 : decode cX4_doOrder 140 = .ok (.ireturn, 1) := by decide +kernel
theorem dX4_passInText_0 : decode cX4_passInText 0 = .ok (.iload_n 1, 1) := by decide +kernel
theorem dX4_passInText_1 : decode cX4_passInText 1 = .ok (.iconst 1, 1) := by decide +kernel
theorem dX4_passInText_2 : decode cX4_passInText 2 = .ok (.if_icmp .lt 18, 3) := by decide +kernel
theorem dX4_passInText_5 : decode cX4_passInText 5 = .ok (.aload_n 0, 1) := by decide +kernel
theorem dX4_passInText_6 : decode cX4_passInText 6 = .ok (.getfield 12, 3) := by decide +kernel
theorem dX4_passInText_9 : decode cX4_passInText 9 = .ok (.getfield 116, 3) := by decide +kernel
theorem dX4_passInText_12 : decode cX4_passInText 12 = .ok (.iload_n 1, 1) := by decide +kernel
theorem dX4_passInText_13 : decode cX4_passInText 13 = .ok (.iadd, 1) := by decide +kernel
theorem dX4_passInText_14 : decode cX4_passInText 14 = .ok (.sipush 9999, 3) := by decide +kernel
theorem dX4_passInText_17 : decode cX4_passInText 17 = .ok (.if_icmp .le 5, 3) := by decide +kernel
theorem dX4_passInText_20 : decode cX4_passInText 20 = .ok (.iconst 0, 1) := by decide +kernel
theorem dX4_passInText_21 : decode cX4_passInText 21 = .ok (.ireturn, 1) := by decide +kernel
theorem dX4_passInText_22 : decode cX4_passInText 22 = .ok (.aload_n 0, 1) := by decide +kernel
theorem dX4_passInText_23 : decode cX4_passInText 23 = .ok (.getfield 12, 3) := by decide +kernel
theorem dX4_passInText_26 : decode cX4_passInText 26 = .ok (.iload_n 1, 1) := by decide +kernel
theorem dX4_passInText_27 : decode cX4_passInText 27 = .ok (.invokevirtual 126, 3) := by decide +kernel
theorem dX4_passInText_30 : decode cX4_passInText 30 = .ok (.iconst 1, 1) := by decide +kernel
theorem dX4_passInText_31 : decode cX4_passInText 31 = .ok (.ireturn, 1) := by decide +kernel
theorem dX4_drinkInText_0 : decode cX4_drinkInText 0 = .ok (.iload_n 1, 1) := by decide +kernel
theorem dX4_drinkInText_1 : decode cX4_drinkInText 1 = .ok (.ifCond .lt 20, 3) := by decide +kernel
theorem dX4_drinkInText_4 : decode cX4_drinkInText 4 = .ok (.iload_n 1, 1) := by decide +kernel
theorem dX4_drinkInText_5 : decode cX4_drinkInText 5 = .ok (.iconst 3, 1) := by decide +kernel
theorem dX4_drinkInText_6 : decode cX4_drinkInText 6 = .ok (.if_icmp .ge 15, 3) := by decide +kernel
theorem dX4_drinkInText_9 : decode cX4_drinkInText 9 = .ok (.aload_n 0, 1) := by decide +kernel
theorem dX4_drinkInText_10 : decode cX4_drinkInText 10 = .ok (.getfield 12, 3) := by decide +kernel
theorem dX4_drinkInText_13 : decode cX4_drinkInText 13 = .ok (.getfield 59, 3) := by decide +kernel
theorem dX4_drinkInText_16 : decode cX4_drinkInText 16 = .ok (.iload_n 1, 1) := by decide +kernel
theorem dX4_drinkInText_17 : decode cX4_drinkInText 17 = .ok (.iaload, 1) := by decide +kernel
theorem dX4_drinkInText_18 : decode cX4_drinkInText 18 = .ok (.ifCond .gt 5, 3) := by decide +kernel
theorem dX4_drinkInText_21 : decode cX4_drinkInText 21 = .ok (.iconst 0, 1) := by decide +kernel
theorem dX4_drinkInText_22 : decode cX4_drinkInText 22 = .ok (.ireturn, 1) := by decide +kernel
theorem dX4_drinkInText_23 : decode cX4_drinkInText 23 = .ok (.aload_n 0, 1) := by decide +kernel
theorem dX4_drinkInText_24 : decode cX4_drinkInText 24 = .ok (.getfield 12, 3) := by decide +kernel
theorem dX4_drinkInText_27 : decode cX4_drinkInText 27 = .ok (.iload_n 1, 1) := by decide +kernel
theorem dX4_drinkInText_28 : decode cX4_drinkInText 28 = .ok (.invokevirtual 110, 3) := by decide +kernel
theorem dX4_drinkInText_31 : decode cX4_drinkInText 31 = .ok (.iconst 1, 1) := by decide +kernel
theorem dX4_drinkInText_32 : decode cX4_drinkInText 32 = .ok (.ireturn, 1) := by decide +kernel
theorem dX4_lendInText_0 : decode cX4_lendInText 0 = .ok (.aload_n 0, 1) := by decide +kernel
theorem dX4_lendInText_1 : decode cX4_lendInText 1 = .ok (.getfield 12, 3) := by decide +kernel
theorem dX4_lendInText_4 : decode cX4_lendInText 4 = .ok (.iload_n 2, 1) := by decide +kernel
theorem dX4_lendInText_5 : decode cX4_lendInText 5 = .ok (.invokevirtual 74, 3) := by decide +kernel
theorem dX4_lendInText_8 : decode cX4_lendInText 8 = .ok (.ifCond .ne 5, 3) := by decide +kernel
theorem dX4_lendInText_11 : decode cX4_lendInText 11 = .ok (.iconst 0, 1) := by decide +kernel
theorem dX4_lendInText_12 : decode cX4_lendInText 12 = .ok (.ireturn, 1) := by decide +kernel
theorem dX4_lendInText_13 : decode cX4_lendInText 13 = .ok (.aload_n 0, 1) := by decide +kernel
theorem dX4_lendInText_14 : decode cX4_lendInText 14 = .ok (.getfield 12, 3) := by decide +kernel
theorem dX4_lendInText_17 : decode cX4_lendInText 17 = .ok (.iload_n 1, 1) := by decide +kernel
theorem dX4_lendInText_18 : decode cX4_lendInText 18 = .ok (.invokevirtual 82, 3) := by decide +kernel
theorem dX4_lendInText_21 : decode cX4_lendInText 21 = .ok (.iconst 1, 1) := by decide +kernel
theorem dX4_lendInText_22 : decode cX4_lendInText 22 = .ok (.ireturn, 1) := by decide +kernel
theorem dX4_askInText_0 : decode cX4_askInText 0 = .ok (.aload_n 0, 1) := by decide +kernel
theorem dX4_askInText_1 : decode cX4_askInText 1 = .ok (.getfield 12, 3) := by decide +kernel
theorem dX4_askInText_4 : decode cX4_askInText 4 = .ok (.getfield 88, 3) := by decide +kernel
theorem dX4_askInText_7 : decode cX4_askInText 7 = .ok (.invokevirtual 92, 3) := by decide +kernel
theorem dX4_askInText_10 : decode cX4_askInText 10 = .ok (.ifCond .ne 5, 3) := by decide +kernel
theorem dX4_askInText_13 : decode cX4_askInText 13 = .ok (.iconst 0, 1) := by decide +kernel
theorem dX4_askInText_14 : decode cX4_askInText 14 = .ok (.ireturn, 1) := by decide +kernel
theorem dX4_askInText_15 : decode cX4_askInText 15 = .ok (.aload_n 0, 1) := by decide +kernel
theorem dX4_askInText_16 : decode cX4_askInText 16 = .ok (.getfield 12, 3) := by decide +kernel
theorem dX4_askInText_19 : decode cX4_askInText 19 = .ok (.iload_n 1, 1) := by decide +kernel
theorem dX4_askInText_20 : decode cX4_askInText 20 = .ok (.invokevirtual 98, 3) := by decide +kernel
theorem dX4_askInText_23 : decode cX4_askInText 23 = .ok (.iconst 1, 1) := by decide +kernel
theorem dX4_askInText_24 : decode cX4_askInText 24 = .ok (.ireturn, 1) := by decide +kernel
theorem dX4_wantInText_0 : decode cX4_wantInText 0 = .ok (.aload_n 0, 1) := by decide +kernel
theorem dX4_wantInText_1 : decode cX4_wantInText 1 = .ok (.getfield 12, 3) := by decide +kernel
theorem dX4_wantInText_4 : decode cX4_wantInText 4 = .ok (.iload_n 1, 1) := by decide +kernel
theorem dX4_wantInText_5 : decode cX4_wantInText 5 = .ok (.invokevirtual 104, 3) := by decide +kernel
theorem dX4_wantInText_8 : decode cX4_wantInText 8 = .ok (.ifCond .ne 5, 3) := by decide +kernel
theorem dX4_wantInText_11 : decode cX4_wantInText 11 = .ok (.iconst 0, 1) := by decide +kernel
theorem dX4_wantInText_12 : decode cX4_wantInText 12 = .ok (.ireturn, 1) := by decide +kernel
theorem dX4_wantInText_13 : decode cX4_wantInText 13 = .ok (.aload_n 0, 1) := by decide +kernel
theorem dX4_wantInText_14 : decode cX4_wantInText 14 = .ok (.getfield 12, 3) := by decide +kernel
theorem dX4_wantInText_17 : decode cX4_wantInText 17 = .ok (.getfield 107, 3) := by decide +kernel
theorem dX4_wantInText_20 : decode cX4_wantInText 20 = .ok (.iload_n 1, 1) := by decide +kernel
theorem dX4_wantInText_21 : decode cX4_wantInText 21 = .ok (.dup2, 1) := by decide +kernel
theorem dX4_wantInText_22 : decode cX4_wantInText 22 = .ok (.iaload, 1) := by decide +kernel
theorem dX4_wantInText_23 : decode cX4_wantInText 23 = .ok (.iconst 1, 1) := by decide +kernel
theorem dX4_wantInText_24 : decode cX4_wantInText 24 = .ok (.iadd, 1) := by decide +kernel
theorem dX4_wantInText_25 : decode cX4_wantInText 25 = .ok (.iastore, 1) := by decide +kernel
theorem dX4_wantInText_26 : decode cX4_wantInText 26 = .ok (.iconst 1, 1) := by decide +kernel
theorem dX4_wantInText_27 : decode cX4_wantInText 27 = .ok (.ireturn, 1) := by decide +kernel
theorem dX4_countNumber_0 : decode cX4_countNumber 0 = .ok (.iload_n 1, 1) := by decide +kernel
theorem dX4_countNumber_1 : decode cX4_countNumber 1 = .ok (.tableswitch 185 0 10 #[59, 67, 75, 86, 97, 108, 119, 130, 141, 152, 163], 59) := by decide +kernel
theorem dX4_countNumber_60 : decode cX4_countNumber 60 = .ok (.aload_n 0, 1) := by decide +kernel
theorem dX4_countNumber_61 : decode cX4_countNumber 61 = .ok (.getfield 12, 3) := by decide +kernel
theorem dX4_countNumber_64 : decode cX4_countNumber 64 = .ok (.getfield 116, 3) := by decide +kernel
theorem dX4_countNumber_67 : decode cX4_countNumber 67 = .ok (.ireturn, 1) := by decide +kernel
theorem dX4_countNumber_68 : decode cX4_countNumber 68 = .ok (.aload_n 0, 1) := by decide +kernel
theorem dX4_countNumber_69 : decode cX4_countNumber 69 = .ok (.getfield 12, 3) := by decide +kernel
theorem dX4_countNumber_72 : decode cX4_countNumber 72 = .ok (.getfield 41, 3) := by decide +kernel
theorem dX4_countNumber_75 : decode cX4_countNumber 75 = .ok (.ireturn, 1) := by decide +kernel
theorem dX4_countNumber_76 : decode cX4_countNumber 76 = .ok (.aload_n 0, 1) := by decide +kernel
theorem dX4_countNumber_77 : decode cX4_countNumber 77 = .ok (.getfield 12, 3) := by decide +kernel
theorem dX4_countNumber_80 : decode cX4_countNumber 80 = .ok (.getfield 88, 3) := by decide +kernel
theorem dX4_countNumber_83 : decode cX4_countNumber 83 = .ok (.getfield 101, 3) := by decide +kernel
theorem dX4_countNumber_86 : decode cX4_countNumber 86 = .ok (.ireturn, 1) := by decide +kernel
theorem dX4_countNumber_87 : decode cX4_countNumber 87 = .ok (.aload_n 0, 1) := by decide +kernel
theorem dX4_countNumber_88 : decode cX4_countNumber 88 = .ok (.getfield 12, 3) := by decide +kernel
theorem dX4_countNumber_91 : decode cX4_countNumber 91 = .ok (.getfield 88, 3) := by decide +kernel
theorem dX4_countNumber_94 : decode cX4_countNumber 94 = .ok (.getfield 266, 3) := by decide +kernel
theorem dX4_countNumber_97 : decode cX4_countNumber 97 = .ok (.ireturn, 1) := by decide +kernel
theorem dX4_countNumber_98 : decode cX4_countNumber 98 = .ok (.aload_n 0, 1) := by decide +kernel
theorem dX4_countNumber_99 : decode cX4_countNumber 99 = .ok (.getfield 12, 3) := by decide +kernel
theorem dX4_countNumber_102 : decode cX4_countNumber 102 = .ok (.getfield 88, 3) := by decide +kernel
theorem dX4_countNumber_105 : decode cX4_countNumber 105 = .ok (.getfield 269, 3) := by decide +kernel
theorem dX4_countNumber_108 : decode cX4_countNumber 108 = .ok (.ireturn, 1) := by decide +kernel
theorem dX4_countNumber_109 : decode cX4_countNumber 109 = .ok (.aload_n 0, 1) := by decide +kernel
theorem dX4_countNumber_110 : decode cX4_countNumber 110 = .ok (.getfield 12, 3) := by decide +kernel
theorem dX4_countNumber_113 : decode cX4_countNumber 113 = .ok (.getfield 119, 3) := by decide +kernel
theorem dX4_countNumber_116 : decode cX4_countNumber 116 = .ok (.invokestatic 122, 3) := by decide +kernel
theorem dX4_countNumber_119 : decode cX4_countNumber 119 = .ok (.ireturn, 1) := by decide +kernel
theorem dX4_countNumber_120 : decode cX4_countNumber 120 = .ok (.aload_n 0, 1) := by decide +kernel
theorem dX4_countNumber_121 : decode cX4_countNumber 121 = .ok (.getfield 12, 3) := by decide +kernel
theorem dX4_countNumber_124 : decode cX4_countNumber 124 = .ok (.getfield 199, 3) := by decide +kernel
theorem dX4_countNumber_127 : decode cX4_countNumber 127 = .ok (.invokestatic 122, 3) := by decide +kernel
theorem dX4_countNumber_130 : decode cX4_countNumber 130 = .ok (.ireturn, 1) := by decide +kernel
theorem dX4_countNumber_131 : decode cX4_countNumber 131 = .ok (.aload_n 0, 1) := by decide +kernel
theorem dX4_countNumber_132 : decode cX4_countNumber 132 = .ok (.getfield 12, 3) := by decide +kernel
theorem dX4_countNumber_135 : decode cX4_countNumber 135 = .ok (.getfield 272, 3) := by decide +kernel
theorem dX4_countNumber_138 : decode cX4_countNumber 138 = .ok (.invokestatic 122, 3) := by decide +kernel
theorem dX4_countNumber_141 : decode cX4_countNumber 141 = .ok (.ireturn, 1) := by decide +kernel
theorem dX4_countNumber_142 : decode cX4_countNumber 142 = .ok (.aload_n 0, 1) := by decide +kernel
theorem dX4_countNumber_143 : decode cX4_countNumber 143 = .ok (.getfield 12, 3) := by decide +kernel
theorem dX4_countNumber_146 : decode cX4_countNumber 146 = .ok (.getfield 107, 3) := by decide +kernel
theorem dX4_countNumber_149 : decode cX4_countNumber 149 = .ok (.invokestatic 122, 3) := by decide +kernel
theorem dX4_countNumber_152 : decode cX4_countNumber 152 = .ok (.ireturn, 1) := by decide +kernel
theorem dX4_countNumber_153 : decode cX4_countNumber 153 = .ok (.aload_n 0, 1) := by decide +kernel
theorem dX4_countNumber_154 : decode cX4_countNumber 154 = .ok (.getfield 12, 3) := by decide +kernel
theorem dX4_countNumber_157 : decode cX4_countNumber 157 = .ok (.getfield 59, 3) := by decide +kernel
theorem dX4_countNumber_160 : decode cX4_countNumber 160 = .ok (.invokestatic 122, 3) := by decide +kernel
theorem dX4_countNumber_163 : decode cX4_countNumber 163 = .ok (.ireturn, 1) := by decide +kernel
theorem dX4_countNumber_164 : decode cX4_countNumber 164 = .ok (.aload_n 0, 1) := by decide +kernel
theorem dX4_countNumber_165 : decode cX4_countNumber 165 = .ok (.getfield 12, 3) := by decide +kernel
theorem dX4_countNumber_168 : decode cX4_countNumber 168 = .ok (.getfield 275, 3) := by decide +kernel
theorem dX4_countNumber_171 : decode cX4_countNumber 171 = .ok (.invokestatic 122, 3) := by decide +kernel
theorem dX4_countNumber_174 : decode cX4_countNumber 174 = .ok (.aload_n 0, 1) := by decide +kernel
theorem dX4_countNumber_175 : decode cX4_countNumber 175 = .ok (.getfield 12, 3) := by decide +kernel
theorem dX4_countNumber_178 : decode cX4_countNumber 178 = .ok (.getfield 193, 3) := by decide +kernel
theorem dX4_countNumber_181 : decode cX4_countNumber 181 = .ok (.invokestatic 122, 3) := by decide +kernel
theorem dX4_countNumber_184 : decode cX4_countNumber 184 = .ok (.isub, 1) := by decide +kernel
theorem dX4_countNumber_185 : decode cX4_countNumber 185 = .ok (.ireturn, 1) := by decide +kernel
theorem dX4_countNumber_186 : decode cX4_countNumber 186 = .ok (.aload_n 0, 1) := by decide +kernel
theorem dX4_countNumber_187 : decode cX4_countNumber 187 = .ok (.getfield 30, 3) := by decide +kernel
theorem dX4_countNumber_190 : decode cX4_countNumber 190 = .ok (.getfield 166, 3) := by decide +kernel
theorem dX4_countNumber_193 : decode cX4_countNumber 193 = .ok (.ireturn, 1) := by decide +kernel
theorem dX4_lookAhead_0 : decode cX4_lookAhead 0 = .ok (.aload_n 0, 1) := by decide +kernel
theorem dX4_lookAhead_1 : decode cX4_lookAhead 1 = .ok (.getfield 16, 3) := by decide +kernel
theorem dX4_lookAhead_4 : decode cX4_lookAhead 4 = .ok (.aload_n 0, 1) := by decide +kernel
theorem dX4_lookAhead_5 : decode cX4_lookAhead 5 = .ok (.getfield 12, 3) := by decide +kernel
theorem dX4_lookAhead_8 : decode cX4_lookAhead 8 = .ok (.invokevirtual 163, 3) := by decide +kernel
theorem dX4_lookAhead_11 : decode cX4_lookAhead 11 = .ok (.aload_n 0, 1) := by decide +kernel
theorem dX4_lookAhead_12 : decode cX4_lookAhead 12 = .ok (.getfield 16, 3) := by decide +kernel
theorem dX4_lookAhead_15 : decode cX4_lookAhead 15 = .ok (.iload_n 1, 1) := by decide +kernel
theorem dX4_lookAhead_16 : decode cX4_lookAhead 16 = .ok (.invokevirtual 126, 3) := by decide +kernel
theorem dX4_lookAhead_19 : decode cX4_lookAhead 19 = .ok (.return_, 1) := by decide +kernel
theorem dX4_forecastNumber_0 : decode cX4_forecastNumber 0 = .ok (.iload_n 1, 1) := by decide +kernel
theorem dX4_forecastNumber_1 : decode cX4_forecastNumber 1 = .ok (.tableswitch 82 0 2 #[27, 49, 71], 27) := by decide +kernel
theorem dX4_forecastNumber_28 : decode cX4_forecastNumber 28 = .ok (.aload_n 0, 1) := by decide +kernel
theorem dX4_forecastNumber_29 : decode cX4_forecastNumber 29 = .ok (.getfield 16, 3) := by decide +kernel
theorem dX4_forecastNumber_32 : decode cX4_forecastNumber 32 = .ok (.getfield 119, 3) := by decide +kernel
theorem dX4_forecastNumber_35 : decode cX4_forecastNumber 35 = .ok (.invokestatic 122, 3) := by decide +kernel
theorem dX4_forecastNumber_38 : decode cX4_forecastNumber 38 = .ok (.aload_n 0, 1) := by decide +kernel
theorem dX4_forecastNumber_39 : decode cX4_forecastNumber 39 = .ok (.getfield 12, 3) := by decide +kernel
theorem dX4_forecastNumber_42 : decode cX4_forecastNumber 42 = .ok (.getfield 119, 3) := by decide +kernel
theorem dX4_forecastNumber_45 : decode cX4_forecastNumber 45 = .ok (.invokestatic 122, 3) := by decide +kernel
theorem dX4_forecastNumber_48 : decode cX4_forecastNumber 48 = .ok (.isub, 1) := by decide +kernel
theorem dX4_forecastNumber_49 : decode cX4_forecastNumber 49 = .ok (.ireturn, 1) := by decide +kernel
theorem dX4_forecastNumber_50 : decode cX4_forecastNumber 50 = .ok (.aload_n 0, 1) := by decide +kernel
theorem dX4_forecastNumber_51 : decode cX4_forecastNumber 51 = .ok (.getfield 16, 3) := by decide +kernel
theorem dX4_forecastNumber_54 : decode cX4_forecastNumber 54 = .ok (.getfield 199, 3) := by decide +kernel
theorem dX4_forecastNumber_57 : decode cX4_forecastNumber 57 = .ok (.invokestatic 122, 3) := by decide +kernel
theorem dX4_forecastNumber_60 : decode cX4_forecastNumber 60 = .ok (.aload_n 0, 1) := by decide +kernel
theorem dX4_forecastNumber_61 : decode cX4_forecastNumber 61 = .ok (.getfield 12, 3) := by decide +kernel
theorem dX4_forecastNumber_64 : decode cX4_forecastNumber 64 = .ok (.getfield 199, 3) := by decide +kernel
theorem dX4_forecastNumber_67 : decode cX4_forecastNumber 67 = .ok (.invokestatic 122, 3) := by decide +kernel
theorem dX4_forecastNumber_70 : decode cX4_forecastNumber 70 = .ok (.isub, 1) := by decide +kernel
theorem dX4_forecastNumber_71 : decode cX4_forecastNumber 71 = .ok (.ireturn, 1) := by decide +kernel
theorem dX4_forecastNumber_72 : decode cX4_forecastNumber 72 = .ok (.aload_n 0, 1) := by decide +kernel
theorem dX4_forecastNumber_73 : decode cX4_forecastNumber 73 = .ok (.getfield 16, 3) := by decide +kernel
theorem dX4_forecastNumber_76 : decode cX4_forecastNumber 76 = .ok (.getfield 107, 3) := by decide +kernel
theorem dX4_forecastNumber_79 : decode cX4_forecastNumber 79 = .ok (.invokestatic 122, 3) := by decide +kernel
theorem dX4_forecastNumber_82 : decode cX4_forecastNumber 82 = .ok (.ireturn, 1) := by decide +kernel
theorem dX4_forecastNumber_83 : decode cX4_forecastNumber 83 = .ok (.aload_n 0, 1) := by decide +kernel
theorem dX4_forecastNumber_84 : decode cX4_forecastNumber 84 = .ok (.getfield 16, 3) := by decide +kernel
theorem dX4_forecastNumber_87 : decode cX4_forecastNumber 87 = .ok (.getfield 88, 3) := by decide +kernel
theorem dX4_forecastNumber_90 : decode cX4_forecastNumber 90 = .ok (.getfield 269, 3) := by decide +kernel
theorem dX4_forecastNumber_93 : decode cX4_forecastNumber 93 = .ok (.aload_n 0, 1) := by decide +kernel
theorem dX4_forecastNumber_94 : decode cX4_forecastNumber 94 = .ok (.getfield 12, 3) := by decide +kernel
theorem dX4_forecastNumber_97 : decode cX4_forecastNumber 97 = .ok (.getfield 88, 3) := by decide +kernel
theorem dX4_forecastNumber_100 : decode cX4_forecastNumber 100 = .ok (.getfield 269, 3) := by decide +kernel
theorem dX4_forecastNumber_103 : decode cX4_forecastNumber 103 = .ok (.isub, 1) := by decide +kernel
theorem dX4_forecastNumber_104 : decode cX4_forecastNumber 104 = .ok (.ireturn, 1) := by decide +kernel
theorem dX4_total_0 : decode cX4_total 0 = .ok (.iconst 0, 1) := by decide +kernel
theorem dX4_total_1 : decode cX4_total 1 = .ok (.istore_n 1, 1) := by decide +kernel
theorem dX4_total_2 : decode cX4_total 2 = .ok (.aload_n 0, 1) := by decide +kernel
theorem dX4_total_3 : decode cX4_total 3 = .ok (.astore_n 2, 1) := by decide +kernel
theorem dX4_total_4 : decode cX4_total 4 = .ok (.aload_n 2, 1) := by decide +kernel
theorem dX4_total_5 : decode cX4_total 5 = .ok (.arraylength, 1) := by decide +kernel
theorem dX4_total_6 : decode cX4_total 6 = .ok (.istore_n 3, 1) := by decide +kernel
theorem dX4_total_7 : decode cX4_total 7 = .ok (.iconst 0, 1) := by decide +kernel
theorem dX4_total_8 : decode cX4_total 8 = .ok (.istore 4, 2) := by decide +kernel
theorem dX4_total_10 : decode cX4_total 10 = .ok (.iload 4, 2) := by decide +kernel
theorem dX4_total_12 : decode cX4_total 12 = .ok (.iload_n 3, 1) := by decide +kernel
theorem dX4_total_13 : decode cX4_total 13 = .ok (.if_icmp .ge 20, 3) := by decide +kernel
theorem dX4_total_16 : decode cX4_total 16 = .ok (.aload_n 2, 1) := by decide +kernel
theorem dX4_total_17 : decode cX4_total 17 = .ok (.iload 4, 2) := by decide +kernel
theorem dX4_total_19 : decode cX4_total 19 = .ok (.iaload, 1) := by decide +kernel
theorem dX4_total_20 : decode cX4_total 20 = .ok (.istore 5, 2) := by decide +kernel
theorem dX4_total_22 : decode cX4_total 22 = .ok (.iload_n 1, 1) := by decide +kernel
theorem dX4_total_23 : decode cX4_total 23 = .ok (.iload 5, 2) := by decide +kernel
theorem dX4_total_25 : decode cX4_total 25 = .ok (.iadd, 1) := by decide +kernel
theorem dX4_total_26 : decode cX4_total 26 = .ok (.istore_n 1, 1) := by decide +kernel
theorem dX4_total_27 : decode cX4_total 27 = .ok (.iinc 4 1, 3) := by decide +kernel
theorem dX4_total_30 : decode cX4_total 30 = .ok (.goto (-20), 3) := by decide +kernel
theorem dX4_total_33 : decode cX4_total 33 = .ok (.iload_n 1, 1) := by decide +kernel
theorem dX4_total_34 : decode cX4_total 34 = .ok (.ireturn, 1) := by decide +kernel
theorem dJ9_max_7cf53_0 : decode cJ9_max_7cf53 0 = .ok (.iload_n 0, 1) := by decide +kernel
theorem dJ9_max_7cf53_1 : decode cJ9_max_7cf53 1 = .ok (.iload_n 1, 1) := by decide +kernel
theorem dJ9_max_7cf53_2 : decode cJ9_max_7cf53 2 = .ok (.if_icmp .lt 7, 3) := by decide +kernel
theorem dJ9_max_7cf53_5 : decode cJ9_max_7cf53 5 = .ok (.iload_n 0, 1) := by decide +kernel
theorem dJ9_max_7cf53_6 : decode cJ9_max_7cf53 6 = .ok (.goto 4, 3) := by decide +kernel
theorem dJ9_max_7cf53_9 : decode cJ9_max_7cf53 9 = .ok (.iload_n 1, 1) := by decide +kernel
theorem dJ9_max_7cf53_10 : decode cJ9_max_7cf53 10 = .ok (.ireturn, 1) := by decide +kernel

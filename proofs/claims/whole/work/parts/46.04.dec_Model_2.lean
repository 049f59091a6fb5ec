theorem d_Model_list_147 : decode b_Model_list 147 = .ok (.iconst 1, 1) := by decide +kernel
theorem d_Model_list_148 : decode b_Model_list 148 = .ok (.iadd, 1) := by decide +kernel
theorem d_Model_list_149 : decode b_Model_list 149 = .ok (.putfield 85, 3) := by decide +kernel
theorem d_Model_list_152 : decode b_Model_list 152 = .ok (.iinc 4 1, 3) := by decide +kernel
theorem d_Model_list_155 : decode b_Model_list 155 = .ok (.goto (-135), 3) := by decide +kernel
theorem d_Model_list_158 : decode b_Model_list 158 = .ok (.iinc 3 1, 3) := by decide +kernel
theorem d_Model_list_161 : decode b_Model_list 161 = .ok (.goto (-149), 3) := by decide +kernel
theorem d_Model_list_164 : decode b_Model_list 164 = .ok (.return_, 1) := by decide +kernel
theorem d_Model_darkIn_0 : decode b_Model_darkIn 0 = .ok (.aload_n 0, 1) := by decide +kernel
theorem d_Model_darkIn_1 : decode b_Model_darkIn 1 = .ok (.getfield 26, 3) := by decide +kernel
theorem d_Model_darkIn_4 : decode b_Model_darkIn 4 = .ok (.iconst 4, 1) := by decide +kernel
theorem d_Model_darkIn_5 : decode b_Model_darkIn 5 = .ok (.iload_n 1, 1) := by decide +kernel
theorem d_Model_darkIn_6 : decode b_Model_darkIn 6 = .ok (.imul, 1) := by decide +kernel
theorem d_Model_darkIn_7 : decode b_Model_darkIn 7 = .ok (.iaload, 1) := by decide +kernel
theorem d_Model_darkIn_8 : decode b_Model_darkIn 8 = .ok (.istore 7, 2) := by decide +kernel
theorem d_Model_darkIn_10 : decode b_Model_darkIn 10 = .ok (.aload_n 0, 1) := by decide +kernel
theorem d_Model_darkIn_11 : decode b_Model_darkIn 11 = .ok (.getfield 26, 3) := by decide +kernel
theorem d_Model_darkIn_14 : decode b_Model_darkIn 14 = .ok (.iconst 4, 1) := by decide +kernel
theorem d_Model_darkIn_15 : decode b_Model_darkIn 15 = .ok (.iload_n 1, 1) := by decide +kernel
theorem d_Model_darkIn_16 : decode b_Model_darkIn 16 = .ok (.imul, 1) := by decide +kernel
theorem d_Model_darkIn_17 : decode b_Model_darkIn 17 = .ok (.iconst 1, 1) := by decide +kernel
theorem d_Model_darkIn_18 : decode b_Model_darkIn 18 = .ok (.iadd, 1) := by decide +kernel
theorem d_Model_darkIn_19 : decode b_Model_darkIn 19 = .ok (.iaload, 1) := by decide +kernel
theorem d_Model_darkIn_20 : decode b_Model_darkIn 20 = .ok (.istore 8, 2) := by decide +kernel
theorem d_Model_darkIn_22 : decode b_Model_darkIn 22 = .ok (.iload 7, 2) := by decide +kernel
theorem d_Model_darkIn_24 : decode b_Model_darkIn 24 = .ok (.aload_n 0, 1) := by decide +kernel
theorem d_Model_darkIn_25 : decode b_Model_darkIn 25 = .ok (.getfield 26, 3) := by decide +kernel
theorem d_Model_darkIn_28 : decode b_Model_darkIn 28 = .ok (.iconst 4, 1) := by decide +kernel
theorem d_Model_darkIn_29 : decode b_Model_darkIn 29 = .ok (.iload_n 1, 1) := by decide +kernel
theorem d_Model_darkIn_30 : decode b_Model_darkIn 30 = .ok (.imul, 1) := by decide +kernel
theorem d_Model_darkIn_31 : decode b_Model_darkIn 31 = .ok (.iconst 2, 1) := by decide +kernel
theorem d_Model_darkIn_32 : decode b_Model_darkIn 32 = .ok (.iadd, 1) := by decide +kernel
theorem d_Model_darkIn_33 : decode b_Model_darkIn 33 = .ok (.iaload, 1) := by decide +kernel
theorem d_Model_darkIn_34 : decode b_Model_darkIn 34 = .ok (.iadd, 1) := by decide +kernel
theorem d_Model_darkIn_35 : decode b_Model_darkIn 35 = .ok (.iconst 1, 1) := by decide +kernel
theorem d_Model_darkIn_36 : decode b_Model_darkIn 36 = .ok (.isub, 1) := by decide +kernel
theorem d_Model_darkIn_37 : decode b_Model_darkIn 37 = .ok (.istore 9, 2) := by decide +kernel
theorem d_Model_darkIn_39 : decode b_Model_darkIn 39 = .ok (.iload 5, 2) := by decide +kernel
theorem d_Model_darkIn_41 : decode b_Model_darkIn 41 = .ok (.iload 7, 2) := by decide +kernel
theorem d_Model_darkIn_43 : decode b_Model_darkIn 43 = .ok (.iload 8, 2) := by decide +kernel
theorem d_Model_darkIn_45 : decode b_Model_darkIn 45 = .ok (.iload 6, 2) := by decide +kernel
theorem d_Model_darkIn_47 : decode b_Model_darkIn 47 = .ok (.invokestatic 75, 3) := by decide +kernel
theorem d_Model_darkIn_50 : decode b_Model_darkIn 50 = .ok (.iload 5, 2) := by decide +kernel
theorem d_Model_darkIn_52 : decode b_Model_darkIn 52 = .ok (.iload 9, 2) := by decide +kernel
theorem d_Model_darkIn_54 : decode b_Model_darkIn 54 = .ok (.iload 8, 2) := by decide +kernel
theorem d_Model_darkIn_56 : decode b_Model_darkIn 56 = .ok (.iload 6, 2) := by decide +kernel
theorem d_Model_darkIn_58 : decode b_Model_darkIn 58 = .ok (.invokestatic 75, 3) := by decide +kernel
theorem d_Model_darkIn_61 : decode b_Model_darkIn 61 = .ok (.invokestatic 88, 3) := by decide +kernel
theorem d_Model_darkIn_64 : decode b_Model_darkIn 64 = .ok (.istore 10, 2) := by decide +kernel
theorem d_Model_darkIn_66 : decode b_Model_darkIn 66 = .ok (.iload 5, 2) := by decide +kernel
theorem d_Model_darkIn_68 : decode b_Model_darkIn 68 = .ok (.iload 7, 2) := by decide +kernel
theorem d_Model_darkIn_70 : decode b_Model_darkIn 70 = .ok (.iload 8, 2) := by decide +kernel
theorem d_Model_darkIn_72 : decode b_Model_darkIn 72 = .ok (.iload 6, 2) := by decide +kernel
theorem d_Model_darkIn_74 : decode b_Model_darkIn 74 = .ok (.invokestatic 78, 3) := by decide +kernel
theorem d_Model_darkIn_77 : decode b_Model_darkIn 77 = .ok (.iload 5, 2) := by decide +kernel
theorem d_Model_darkIn_79 : decode b_Model_darkIn 79 = .ok (.iload 9, 2) := by decide +kernel
theorem d_Model_darkIn_81 : decode b_Model_darkIn 81 = .ok (.iload 8, 2) := by decide +kernel
theorem d_Model_darkIn_83 : decode b_Model_darkIn 83 = .ok (.iload 6, 2) := by decide +kernel
theorem d_Model_darkIn_85 : decode b_Model_darkIn 85 = .ok (.invokestatic 78, 3) := by decide +kernel
theorem d_Model_darkIn_88 : decode b_Model_darkIn 88 = .ok (.invokestatic 88, 3) := by decide +kernel
theorem d_Model_darkIn_91 : decode b_Model_darkIn 91 = .ok (.istore 11, 2) := by decide +kernel
theorem d_Model_darkIn_93 : decode b_Model_darkIn 93 = .ok (.iload 6, 2) := by decide +kernel
theorem d_Model_darkIn_95 : decode b_Model_darkIn 95 = .ok (.iconst 2, 1) := by decide +kernel
theorem d_Model_darkIn_96 : decode b_Model_darkIn 96 = .ok (.irem, 1) := by decide +kernel
theorem d_Model_darkIn_97 : decode b_Model_darkIn 97 = .ok (.ifCond .ne 16, 3) := by decide +kernel
theorem d_Model_darkIn_100 : decode b_Model_darkIn 100 = .ok (.aload_n 0, 1) := by decide +kernel
theorem d_Model_darkIn_101 : decode b_Model_darkIn 101 = .ok (.getfield 26, 3) := by decide +kernel
theorem d_Model_darkIn_104 : decode b_Model_darkIn 104 = .ok (.iconst 4, 1) := by decide +kernel
theorem d_Model_darkIn_105 : decode b_Model_darkIn 105 = .ok (.iload_n 1, 1) := by decide +kernel
theorem d_Model_darkIn_106 : decode b_Model_darkIn 106 = .ok (.imul, 1) := by decide +kernel
theorem d_Model_darkIn_107 : decode b_Model_darkIn 107 = .ok (.iconst 2, 1) := by decide +kernel
theorem d_Model_darkIn_108 : decode b_Model_darkIn 108 = .ok (.iadd, 1) := by decide +kernel
theorem d_Model_darkIn_109 : decode b_Model_darkIn 109 = .ok (.iaload, 1) := by decide +kernel
theorem d_Model_darkIn_110 : decode b_Model_darkIn 110 = .ok (.goto 4, 3) := by decide +kernel
theorem d_Model_darkIn_113 : decode b_Model_darkIn 113 = .ok (.iconst 1, 1) := by decide +kernel
theorem d_Model_darkIn_114 : decode b_Model_darkIn 114 = .ok (.istore 12, 2) := by decide +kernel
theorem d_Model_darkIn_116 : decode b_Model_darkIn 116 = .ok (.iload 6, 2) := by decide +kernel
theorem d_Model_darkIn_118 : decode b_Model_darkIn 118 = .ok (.iconst 2, 1) := by decide +kernel
theorem d_Model_darkIn_119 : decode b_Model_darkIn 119 = .ok (.irem, 1) := by decide +kernel
theorem d_Model_darkIn_120 : decode b_Model_darkIn 120 = .ok (.ifCond .ne 7, 3) := by decide +kernel
theorem d_Model_darkIn_123 : decode b_Model_darkIn 123 = .ok (.iconst 1, 1) := by decide +kernel
theorem d_Model_darkIn_124 : decode b_Model_darkIn 124 = .ok (.goto 13, 3) := by decide +kernel
theorem d_Model_darkIn_127 : decode b_Model_darkIn 127 = .ok (.aload_n 0, 1) := by decide +kernel
theorem d_Model_darkIn_128 : decode b_Model_darkIn 128 = .ok (.getfield 26, 3) := by decide +kernel
theorem d_Model_darkIn_131 : decode b_Model_darkIn 131 = .ok (.iconst 4, 1) := by decide +kernel
theorem d_Model_darkIn_132 : decode b_Model_darkIn 132 = .ok (.iload_n 1, 1) := by decide +kernel
theorem d_Model_darkIn_133 : decode b_Model_darkIn 133 = .ok (.imul, 1) := by decide +kernel
theorem d_Model_darkIn_134 : decode b_Model_darkIn 134 = .ok (.iconst 2, 1) := by decide +kernel
theorem d_Model_darkIn_135 : decode b_Model_darkIn 135 = .ok (.iadd, 1) := by decide +kernel
theorem d_Model_darkIn_136 : decode b_Model_darkIn 136 = .ok (.iaload, 1) := by decide +kernel
theorem d_Model_darkIn_137 : decode b_Model_darkIn 137 = .ok (.istore 13, 2) := by decide +kernel
theorem d_Model_darkIn_139 : decode b_Model_darkIn 139 = .ok (.sipush 513, 3) := by decide +kernel
theorem d_Model_darkIn_142 : decode b_Model_darkIn 142 = .ok (.iload_n 3, 1) := by decide +kernel
theorem d_Model_darkIn_143 : decode b_Model_darkIn 143 = .ok (.iload 4, 2) := by decide +kernel
theorem d_Model_darkIn_145 : decode b_Model_darkIn 145 = .ok (.iload 11, 2) := by decide +kernel
theorem d_Model_darkIn_147 : decode b_Model_darkIn 147 = .ok (.imul, 1) := by decide +kernel
theorem d_Model_darkIn_148 : decode b_Model_darkIn 148 = .ok (.iadd, 1) := by decide +kernel
theorem d_Model_darkIn_149 : decode b_Model_darkIn 149 = .ok (.imul, 1) := by decide +kernel
theorem d_Model_darkIn_150 : decode b_Model_darkIn 150 = .ok (.iload_n 2, 1) := by decide +kernel
theorem d_Model_darkIn_151 : decode b_Model_darkIn 151 = .ok (.iadd, 1) := by decide +kernel
theorem d_Model_darkIn_152 : decode b_Model_darkIn 152 = .ok (.iload 4, 2) := by decide +kernel
theorem d_Model_darkIn_154 : decode b_Model_darkIn 154 = .ok (.iload 10, 2) := by decide +kernel
theorem d_Model_darkIn_156 : decode b_Model_darkIn 156 = .ok (.imul, 1) := by decide +kernel
theorem d_Model_darkIn_157 : decode b_Model_darkIn 157 = .ok (.iadd, 1) := by decide +kernel
theorem d_Model_darkIn_158 : decode b_Model_darkIn 158 = .ok (.istore 14, 2) := by decide +kernel
theorem d_Model_darkIn_160 : decode b_Model_darkIn 160 = .ok (.iload 14, 2) := by decide +kernel
theorem d_Model_darkIn_162 : decode b_Model_darkIn 162 = .ok (.sipush 513, 3) := by decide +kernel
theorem d_Model_darkIn_165 : decode b_Model_darkIn 165 = .ok (.iload 4, 2) := by decide +kernel
theorem d_Model_darkIn_167 : decode b_Model_darkIn 167 = .ok (.imul, 1) := by decide +kernel
theorem d_Model_darkIn_168 : decode b_Model_darkIn 168 = .ok (.iload 13, 2) := by decide +kernel
theorem d_Model_darkIn_170 : decode b_Model_darkIn 170 = .ok (.imul, 1) := by decide +kernel
theorem d_Model_darkIn_171 : decode b_Model_darkIn 171 = .ok (.iadd, 1) := by decide +kernel
theorem d_Model_darkIn_172 : decode b_Model_darkIn 172 = .ok (.istore 15, 2) := by decide +kernel
theorem d_Model_darkIn_174 : decode b_Model_darkIn 174 = .ok (.aload_n 0, 1) := by decide +kernel
theorem d_Model_darkIn_175 : decode b_Model_darkIn 175 = .ok (.getfield 22, 3) := by decide +kernel
theorem d_Model_darkIn_178 : decode b_Model_darkIn 178 = .ok (.iload 15, 2) := by decide +kernel
theorem d_Model_darkIn_180 : decode b_Model_darkIn 180 = .ok (.iload 4, 2) := by decide +kernel
theorem d_Model_darkIn_182 : decode b_Model_darkIn 182 = .ok (.iload 12, 2) := by decide +kernel
theorem d_Model_darkIn_184 : decode b_Model_darkIn 184 = .ok (.imul, 1) := by decide +kernel
theorem d_Model_darkIn_185 : decode b_Model_darkIn 185 = .ok (.iadd, 1) := by decide +kernel
theorem d_Model_darkIn_186 : decode b_Model_darkIn 186 = .ok (.iaload, 1) := by decide +kernel
theorem d_Model_darkIn_187 : decode b_Model_darkIn 187 = .ok (.aload_n 0, 1) := by decide +kernel
theorem d_Model_darkIn_188 : decode b_Model_darkIn 188 = .ok (.getfield 22, 3) := by decide +kernel
theorem d_Model_darkIn_191 : decode b_Model_darkIn 191 = .ok (.iload 15, 2) := by decide +kernel
theorem d_Model_darkIn_193 : decode b_Model_darkIn 193 = .ok (.iaload, 1) := by decide +kernel
theorem d_Model_darkIn_194 : decode b_Model_darkIn 194 = .ok (.isub, 1) := by decide +kernel
theorem d_Model_darkIn_195 : decode b_Model_darkIn 195 = .ok (.aload_n 0, 1) := by decide +kernel
theorem d_Model_darkIn_196 : decode b_Model_darkIn 196 = .ok (.getfield 22, 3) := by decide +kernel
theorem d_Model_darkIn_199 : decode b_Model_darkIn 199 = .ok (.iload 14, 2) := by decide +kernel
theorem d_Model_darkIn_201 : decode b_Model_darkIn 201 = .ok (.iload 4, 2) := by decide +kernel
theorem d_Model_darkIn_203 : decode b_Model_darkIn 203 = .ok (.iload 12, 2) := by decide +kernel
theorem d_Model_darkIn_205 : decode b_Model_darkIn 205 = .ok (.imul, 1) := by decide +kernel
theorem d_Model_darkIn_206 : decode b_Model_darkIn 206 = .ok (.iadd, 1) := by decide +kernel
theorem d_Model_darkIn_207 : decode b_Model_darkIn 207 = .ok (.iaload, 1) := by decide +kernel
theorem d_Model_darkIn_208 : decode b_Model_darkIn 208 = .ok (.isub, 1) := by decide +kernel
theorem d_Model_darkIn_209 : decode b_Model_darkIn 209 = .ok (.aload_n 0, 1) := by decide +kernel
theorem d_Model_darkIn_210 : decode b_Model_darkIn 210 = .ok (.getfield 22, 3) := by decide +kernel
theorem d_Model_darkIn_213 : decode b_Model_darkIn 213 = .ok (.iload 14, 2) := by decide +kernel
theorem d_Model_darkIn_215 : decode b_Model_darkIn 215 = .ok (.iaload, 1) := by decide +kernel
theorem d_Model_darkIn_216 : decode b_Model_darkIn 216 = .ok (.iadd, 1) := by decide +kernel
theorem d_Model_darkIn_217 : decode b_Model_darkIn 217 = .ok (.ireturn, 1) := by decide +kernel
theorem d_Model_least_0 : decode b_Model_least 0 = .ok (.iload_n 0, 1) := by decide +kernel
theorem d_Model_least_1 : decode b_Model_least 1 = .ok (.iload_n 1, 1) := by decide +kernel
theorem d_Model_least_2 : decode b_Model_least 2 = .ok (.if_icmp .ge 7, 3) := by decide +kernel
theorem d_Model_least_5 : decode b_Model_least 5 = .ok (.iload_n 0, 1) := by decide +kernel
theorem d_Model_least_6 : decode b_Model_least 6 = .ok (.goto 4, 3) := by decide +kernel
theorem d_Model_least_9 : decode b_Model_least 9 = .ok (.iload_n 1, 1) := by decide +kernel
theorem d_Model_least_10 : decode b_Model_least 10 = .ok (.ireturn, 1) := by decide +kernel
theorem d_Model_wrong_0 : decode b_Model_wrong 0 = .ok (.iload 4, 2) := by decide +kernel
theorem d_Model_wrong_2 : decode b_Model_wrong 2 = .ok (.invokestatic 59, 3) := by decide +kernel
theorem d_Model_wrong_5 : decode b_Model_wrong 5 = .ok (.istore 7, 2) := by decide +kernel
theorem d_Model_wrong_7 : decode b_Model_wrong 7 = .ok (.iconst 0, 1) := by decide +kernel
theorem d_Model_wrong_8 : decode b_Model_wrong 8 = .ok (.istore 8, 2) := by decide +kernel
theorem d_Model_wrong_10 : decode b_Model_wrong 10 = .ok (.iconst 0, 1) := by decide +kernel
theorem d_Model_wrong_11 : decode b_Model_wrong 11 = .ok (.istore 9, 2) := by decide +kernel
theorem d_Model_wrong_13 : decode b_Model_wrong 13 = .ok (.iload 9, 2) := by decide +kernel
theorem d_Model_wrong_15 : decode b_Model_wrong 15 = .ok (.aload_n 0, 1) := by decide +kernel
theorem d_Model_wrong_16 : decode b_Model_wrong 16 = .ok (.getfield 85, 3) := by decide +kernel
theorem d_Model_wrong_19 : decode b_Model_wrong 19 = .ok (.if_icmp .ge 74, 3) := by decide +kernel
theorem d_Model_wrong_22 : decode b_Model_wrong 22 = .ok (.iload 8, 2) := by decide +kernel
theorem d_Model_wrong_24 : decode b_Model_wrong 24 = .ok (.iload 6, 2) := by decide +kernel
theorem d_Model_wrong_26 : decode b_Model_wrong 26 = .ok (.if_icmp .gt 67, 3) := by decide +kernel
theorem d_Model_wrong_29 : decode b_Model_wrong 29 = .ok (.aload_n 0, 1) := by decide +kernel
theorem d_Model_wrong_30 : decode b_Model_wrong 30 = .ok (.iload 9, 2) := by decide +kernel
theorem d_Model_wrong_32 : decode b_Model_wrong 32 = .ok (.iload_n 1, 1) := by decide +kernel
theorem d_Model_wrong_33 : decode b_Model_wrong 33 = .ok (.iload_n 2, 1) := by decide +kernel
theorem d_Model_wrong_34 : decode b_Model_wrong 34 = .ok (.iload_n 3, 1) := by decide +kernel
theorem d_Model_wrong_35 : decode b_Model_wrong 35 = .ok (.iload 7, 2) := by decide +kernel
theorem d_Model_wrong_37 : decode b_Model_wrong 37 = .ok (.iload 5, 2) := by decide +kernel
theorem d_Model_wrong_39 : decode b_Model_wrong 39 = .ok (.invokevirtual 91, 3) := by decide +kernel
theorem d_Model_wrong_42 : decode b_Model_wrong 42 = .ok (.istore 10, 2) := by decide +kernel
theorem d_Model_wrong_44 : decode b_Model_wrong 44 = .ok (.iload 8, 2) := by decide +kernel
theorem d_Model_wrong_46 : decode b_Model_wrong 46 = .ok (.aload_n 0, 1) := by decide +kernel
theorem d_Model_wrong_47 : decode b_Model_wrong 47 = .ok (.getfield 26, 3) := by decide +kernel
theorem d_Model_wrong_50 : decode b_Model_wrong 50 = .ok (.iconst 4, 1) := by decide +kernel
theorem d_Model_wrong_51 : decode b_Model_wrong 51 = .ok (.iload 9, 2) := by decide +kernel
theorem d_Model_wrong_53 : decode b_Model_wrong 53 = .ok (.imul, 1) := by decide +kernel
theorem d_Model_wrong_54 : decode b_Model_wrong 54 = .ok (.iconst 3, 1) := by decide +kernel
theorem d_Model_wrong_55 : decode b_Model_wrong 55 = .ok (.iadd, 1) := by decide +kernel
theorem d_Model_wrong_56 : decode b_Model_wrong 56 = .ok (.iaload, 1) := by decide +kernel
theorem d_Model_wrong_57 : decode b_Model_wrong 57 = .ok (.iconst 1, 1) := by decide +kernel
theorem d_Model_wrong_58 : decode b_Model_wrong 58 = .ok (.if_icmp .ne 24, 3) := by decide +kernel
theorem d_Model_wrong_61 : decode b_Model_wrong 61 = .ok (.iload_n 3, 1) := by decide +kernel
theorem d_Model_wrong_62 : decode b_Model_wrong 62 = .ok (.iload_n 3, 1) := by decide +kernel
theorem d_Model_wrong_63 : decode b_Model_wrong 63 = .ok (.imul, 1) := by decide +kernel
theorem d_Model_wrong_64 : decode b_Model_wrong 64 = .ok (.aload_n 0, 1) := by decide +kernel
theorem d_Model_wrong_65 : decode b_Model_wrong 65 = .ok (.getfield 26, 3) := by decide +kernel
theorem d_Model_wrong_68 : decode b_Model_wrong 68 = .ok (.iconst 4, 1) := by decide +kernel
theorem d_Model_wrong_69 : decode b_Model_wrong 69 = .ok (.iload 9, 2) := by decide +kernel
theorem d_Model_wrong_71 : decode b_Model_wrong 71 = .ok (.imul, 1) := by decide +kernel
theorem d_Model_wrong_72 : decode b_Model_wrong 72 = .ok (.iconst 2, 1) := by decide +kernel
theorem d_Model_wrong_73 : decode b_Model_wrong 73 = .ok (.iadd, 1) := by decide +kernel
theorem d_Model_wrong_74 : decode b_Model_wrong 74 = .ok (.iaload, 1) := by decide +kernel
theorem d_Model_wrong_75 : decode b_Model_wrong 75 = .ok (.imul, 1) := by decide +kernel
theorem d_Model_wrong_76 : decode b_Model_wrong 76 = .ok (.iload 10, 2) := by decide +kernel
theorem d_Model_wrong_78 : decode b_Model_wrong 78 = .ok (.isub, 1) := by decide +kernel
theorem d_Model_wrong_79 : decode b_Model_wrong 79 = .ok (.goto 5, 3) := by decide +kernel
theorem d_Model_wrong_82 : decode b_Model_wrong 82 = .ok (.iload 10, 2) := by decide +kernel
theorem d_Model_wrong_84 : decode b_Model_wrong 84 = .ok (.iadd, 1) := by decide +kernel
theorem d_Model_wrong_85 : decode b_Model_wrong 85 = .ok (.istore 8, 2) := by decide +kernel
theorem d_Model_wrong_87 : decode b_Model_wrong 87 = .ok (.iinc 9 1, 3) := by decide +kernel
theorem d_Model_wrong_90 : decode b_Model_wrong 90 = .ok (.goto (-77), 3) := by decide +kernel
theorem d_Model_wrong_93 : decode b_Model_wrong 93 = .ok (.iload 8, 2) := by decide +kernel
theorem d_Model_wrong_95 : decode b_Model_wrong 95 = .ok (.ireturn, 1) := by decide +kernel
theorem d_Model_look_0 : decode b_Model_look 0 = .ok (.iload_n 1, 1) := by decide +kernel
theorem d_Model_look_1 : decode b_Model_look 1 = .ok (.iload_n 2, 1) := by decide +kernel
theorem d_Model_look_2 : decode b_Model_look 2 = .ok (.invokestatic 59, 3) := by decide +kernel
theorem d_Model_look_5 : decode b_Model_look 5 = .ok (.imul, 1) := by decide +kernel
theorem d_Model_look_6 : decode b_Model_look 6 = .ok (.istore 4, 2) := by decide +kernel
theorem d_Model_look_8 : decode b_Model_look 8 = .ok (.iconst 0, 1) := by decide +kernel
theorem d_Model_look_9 : decode b_Model_look 9 = .ok (.istore 5, 2) := by decide +kernel
theorem d_Model_look_11 : decode b_Model_look 11 = .ok (.aload_n 0, 1) := by decide +kernel
theorem d_Model_look_12 : decode b_Model_look 12 = .ok (.iconst 0, 1) := by decide +kernel
theorem d_Model_look_13 : decode b_Model_look 13 = .ok (.iload 5, 2) := by decide +kernel
theorem d_Model_look_15 : decode b_Model_look 15 = .ok (.iload 4, 2) := by decide +kernel
theorem d_Model_look_17 : decode b_Model_look 17 = .ok (.invokevirtual 67, 3) := by decide +kernel
theorem d_Model_look_20 : decode b_Model_look 20 = .ok (.ifCond .eq 93, 3) := by decide +kernel
theorem d_Model_look_23 : decode b_Model_look 23 = .ok (.iconst 0, 1) := by decide +kernel
theorem d_Model_look_24 : decode b_Model_look 24 = .ok (.istore 6, 2) := by decide +kernel
theorem d_Model_look_26 : decode b_Model_look 26 = .ok (.aload_n 0, 1) := by decide +kernel
theorem d_Model_look_27 : decode b_Model_look 27 = .ok (.iload 6, 2) := by decide +kernel
theorem d_Model_look_29 : decode b_Model_look 29 = .ok (.iload 5, 2) := by decide +kernel
theorem d_Model_look_31 : decode b_Model_look 31 = .ok (.iload 4, 2) := by decide +kernel
theorem d_Model_look_33 : decode b_Model_look 33 = .ok (.invokevirtual 67, 3) := by decide +kernel
theorem d_Model_look_36 : decode b_Model_look 36 = .ok (.ifCond .eq 71, 3) := by decide +kernel
theorem d_Model_look_39 : decode b_Model_look 39 = .ok (.iconst 0, 1) := by decide +kernel
theorem d_Model_look_40 : decode b_Model_look 40 = .ok (.istore 7, 2) := by decide +kernel
theorem d_Model_look_42 : decode b_Model_look 42 = .ok (.iload 7, 2) := by decide +kernel
theorem d_Model_look_44 : decode b_Model_look 44 = .ok (.iconst 4, 1) := by decide +kernel
theorem d_Model_look_45 : decode b_Model_look 45 = .ok (.if_icmp .ge 56, 3) := by decide +kernel
theorem d_Model_look_48 : decode b_Model_look 48 = .ok (.aload_n 0, 1) := by decide +kernel
theorem d_Model_look_49 : decode b_Model_look 49 = .ok (.iload 6, 2) := by decide +kernel
theorem d_Model_look_51 : decode b_Model_look 51 = .ok (.iload 5, 2) := by decide +kernel
theorem d_Model_look_53 : decode b_Model_look 53 = .ok (.iload_n 1, 1) := by decide +kernel
theorem d_Model_look_54 : decode b_Model_look 54 = .ok (.iload_n 2, 1) := by decide +kernel
theorem d_Model_look_55 : decode b_Model_look 55 = .ok (.iload 7, 2) := by decide +kernel
theorem d_Model_look_57 : decode b_Model_look 57 = .ok (.iload_n 3, 1) := by decide +kernel
theorem d_Model_look_58 : decode b_Model_look 58 = .ok (.invokevirtual 95, 3) := by decide +kernel
theorem d_Model_look_61 : decode b_Model_look 61 = .ok (.istore 8, 2) := by decide +kernel
theorem d_Model_look_63 : decode b_Model_look 63 = .ok (.iload 8, 2) := by decide +kernel
theorem d_Model_look_65 : decode b_Model_look 65 = .ok (.iload_n 3, 1) := by decide +kernel
theorem d_Model_look_66 : decode b_Model_look 66 = .ok (.if_icmp .gt 29, 3) := by decide +kernel
theorem d_Model_look_69 : decode b_Model_look 69 = .ok (.aload_n 0, 1) := by decide +kernel
theorem d_Model_look_70 : decode b_Model_look 70 = .ok (.getfield 38, 3) := by decide +kernel
theorem d_Model_look_73 : decode b_Model_look 73 = .ok (.sipush 300, 3) := by decide +kernel
theorem d_Model_look_76 : decode b_Model_look 76 = .ok (.if_icmp .ne 5, 3) := by decide +kernel
theorem d_Model_look_79 : decode b_Model_look 79 = .ok (.iconst 0, 1) := by decide +kernel
theorem d_Model_look_80 : decode b_Model_look 80 = .ok (.ireturn, 1) := by decide +kernel
theorem d_Model_look_81 : decode b_Model_look 81 = .ok (.aload_n 0, 1) := by decide +kernel
theorem d_Model_look_82 : decode b_Model_look 82 = .ok (.iload 6, 2) := by decide +kernel
theorem d_Model_look_84 : decode b_Model_look 84 = .ok (.iload 5, 2) := by decide +kernel
theorem d_Model_look_86 : decode b_Model_look 86 = .ok (.iload_n 1, 1) := by decide +kernel
theorem d_Model_look_87 : decode b_Model_look 87 = .ok (.iload_n 2, 1) := by decide +kernel
theorem d_Model_look_88 : decode b_Model_look 88 = .ok (.iload 7, 2) := by decide +kernel
theorem d_Model_look_90 : decode b_Model_look 90 = .ok (.iload 8, 2) := by decide +kernel
theorem d_Model_look_92 : decode b_Model_look 92 = .ok (.invokevirtual 98, 3) := by decide +kernel
theorem d_Model_look_95 : decode b_Model_look 95 = .ok (.iinc 7 1, 3) := by decide +kernel
theorem d_Model_look_98 : decode b_Model_look 98 = .ok (.goto (-56), 3) := by decide +kernel
theorem d_Model_look_101 : decode b_Model_look 101 = .ok (.iinc 6 1, 3) := by decide +kernel
theorem d_Model_look_104 : decode b_Model_look 104 = .ok (.goto (-78), 3) := by decide +kernel
theorem d_Model_look_107 : decode b_Model_look 107 = .ok (.iinc 5 1, 3) := by decide +kernel
theorem d_Model_look_110 : decode b_Model_look 110 = .ok (.goto (-99), 3) := by decide +kernel
theorem d_Model_look_113 : decode b_Model_look 113 = .ok (.iconst 1, 1) := by decide +kernel
theorem d_Model_look_114 : decode b_Model_look 114 = .ok (.ireturn, 1) := by decide +kernel
theorem d_Model_enter_0 : decode b_Model_enter 0 = .ok (.aload_n 0, 1) := by decide +kernel
theorem d_Model_enter_1 : decode b_Model_enter 1 = .ok (.getfield 29, 3) := by decide +kernel
theorem d_Model_enter_4 : decode b_Model_enter 4 = .ok (.bipush 6, 2) := by decide +kernel
theorem d_Model_enter_6 : decode b_Model_enter 6 = .ok (.aload_n 0, 1) := by decide +kernel
theorem d_Model_enter_7 : decode b_Model_enter 7 = .ok (.getfield 38, 3) := by decide +kernel
theorem d_Model_enter_10 : decode b_Model_enter 10 = .ok (.imul, 1) := by decide +kernel
theorem d_Model_enter_11 : decode b_Model_enter 11 = .ok (.iload_n 1, 1) := by decide +kernel
theorem d_Model_enter_12 : decode b_Model_enter 12 = .ok (.iastore, 1) := by decide +kernel
theorem d_Model_enter_13 : decode b_Model_enter 13 = .ok (.aload_n 0, 1) := by decide +kernel
theorem d_Model_enter_14 : decode b_Model_enter 14 = .ok (.getfield 29, 3) := by decide +kernel
theorem d_Model_enter_17 : decode b_Model_enter 17 = .ok (.bipush 6, 2) := by decide +kernel
theorem d_Model_enter_19 : decode b_Model_enter 19 = .ok (.aload_n 0, 1) := by decide +kernel
theorem d_Model_enter_20 : decode b_Model_enter 20 = .ok (.getfield 38, 3) := by decide +kernel
theorem d_Model_enter_23 : decode b_Model_enter 23 = .ok (.imul, 1) := by decide +kernel
theorem d_Model_enter_24 : decode b_Model_enter 24 = .ok (.iconst 1, 1) := by decide +kernel
theorem d_Model_enter_25 : decode b_Model_enter 25 = .ok (.iadd, 1) := by decide +kernel
theorem d_Model_enter_26 : decode b_Model_enter 26 = .ok (.iload_n 2, 1) := by decide +kernel
theorem d_Model_enter_27 : decode b_Model_enter 27 = .ok (.iastore, 1) := by decide +kernel
theorem d_Model_enter_28 : decode b_Model_enter 28 = .ok (.aload_n 0, 1) := by decide +kernel
theorem d_Model_enter_29 : decode b_Model_enter 29 = .ok (.getfield 29, 3) := by decide +kernel
theorem d_Model_enter_32 : decode b_Model_enter 32 = .ok (.bipush 6, 2) := by decide +kernel
theorem d_Model_enter_34 : decode b_Model_enter 34 = .ok (.aload_n 0, 1) := by decide +kernel
theorem d_Model_enter_35 : decode b_Model_enter 35 = .ok (.getfield 38, 3) := by decide +kernel
theorem d_Model_enter_38 : decode b_Model_enter 38 = .ok (.imul, 1) := by decide +kernel
theorem d_Model_enter_39 : decode b_Model_enter 39 = .ok (.iconst 2, 1) := by decide +kernel
theorem d_Model_enter_40 : decode b_Model_enter 40 = .ok (.iadd, 1) := by decide +kernel
theorem d_Model_enter_41 : decode b_Model_enter 41 = .ok (.iload_n 3, 1) := by decide +kernel
theorem d_Model_enter_42 : decode b_Model_enter 42 = .ok (.iastore, 1) := by decide +kernel
theorem d_Model_enter_43 : decode b_Model_enter 43 = .ok (.aload_n 0, 1) := by decide +kernel
theorem d_Model_enter_44 : decode b_Model_enter 44 = .ok (.getfield 29, 3) := by decide +kernel
theorem d_Model_enter_47 : decode b_Model_enter 47 = .ok (.bipush 6, 2) := by decide +kernel
theorem d_Model_enter_49 : decode b_Model_enter 49 = .ok (.aload_n 0, 1) := by decide +kernel
theorem d_Model_enter_50 : decode b_Model_enter 50 = .ok (.getfield 38, 3) := by decide +kernel
theorem d_Model_enter_53 : decode b_Model_enter 53 = .ok (.imul, 1) := by decide +kernel
theorem d_Model_enter_54 : decode b_Model_enter 54 = .ok (.iconst 3, 1) := by decide +kernel
theorem d_Model_enter_55 : decode b_Model_enter 55 = .ok (.iadd, 1) := by decide +kernel
theorem d_Model_enter_56 : decode b_Model_enter 56 = .ok (.iload 4, 2) := by decide +kernel
theorem d_Model_enter_58 : decode b_Model_enter 58 = .ok (.iastore, 1) := by decide +kernel
theorem d_Model_enter_59 : decode b_Model_enter 59 = .ok (.aload_n 0, 1) := by decide +kernel
theorem d_Model_enter_60 : decode b_Model_enter 60 = .ok (.getfield 29, 3) := by decide +kernel
theorem d_Model_enter_63 : decode b_Model_enter 63 = .ok (.bipush 6, 2) := by decide +kernel
theorem d_Model_enter_65 : decode b_Model_enter 65 = .ok (.aload_n 0, 1) := by decide +kernel
theorem d_Model_enter_66 : decode b_Model_enter 66 = .ok (.getfield 38, 3) := by decide +kernel
theorem d_Model_enter_69 : decode b_Model_enter 69 = .ok (.imul, 1) := by decide +kernel
theorem d_Model_enter_70 : decode b_Model_enter 70 = .ok (.iconst 4, 1) := by decide +kernel
theorem d_Model_enter_71 : decode b_Model_enter 71 = .ok (.iadd, 1) := by decide +kernel
theorem d_Model_enter_72 : decode b_Model_enter 72 = .ok (.iload 5, 2) := by decide +kernel
theorem d_Model_enter_74 : decode b_Model_enter 74 = .ok (.iastore, 1) := by decide +kernel
theorem d_Model_enter_75 : decode b_Model_enter 75 = .ok (.aload_n 0, 1) := by decide +kernel
theorem d_Model_enter_76 : decode b_Model_enter 76 = .ok (.getfield 29, 3) := by decide +kernel
theorem d_Model_enter_79 : decode b_Model_enter 79 = .ok (.bipush 6, 2) := by decide +kernel
theorem d_Model_enter_81 : decode b_Model_enter 81 = .ok (.aload_n 0, 1) := by decide +kernel
theorem d_Model_enter_82 : decode b_Model_enter 82 = .ok (.getfield 38, 3) := by decide +kernel
theorem d_Model_enter_85 : decode b_Model_enter 85 = .ok (.imul, 1) := by decide +kernel
theorem d_Model_enter_86 : decode b_Model_enter 86 = .ok (.iconst 5, 1) := by decide +kernel
theorem d_Model_enter_87 : decode b_Model_enter 87 = .ok (.iadd, 1) := by decide +kernel
theorem d_Model_enter_88 : decode b_Model_enter 88 = .ok (.iload 6, 2) := by decide +kernel
theorem d_Model_enter_90 : decode b_Model_enter 90 = .ok (.iastore, 1) := by decide +kernel
theorem d_Model_enter_91 : decode b_Model_enter 91 = .ok (.aload_n 0, 1) := by decide +kernel
theorem d_Model_enter_92 : decode b_Model_enter 92 = .ok (.dup, 1) := by decide +kernel
theorem d_Model_enter_93 : decode b_Model_enter 93 = .ok (.getfield 38, 3) := by decide +kernel
theorem d_Model_enter_96 : decode b_Model_enter 96 = .ok (.iconst 1, 1) := by decide +kernel
theorem d_Model_enter_97 : decode b_Model_enter 97 = .ok (.iadd, 1) := by decide +kernel
theorem d_Model_enter_98 : decode b_Model_enter 98 = .ok (.putfield 38, 3) := by decide +kernel
theorem d_Model_enter_101 : decode b_Model_enter 101 = .ok (.return_, 1) := by decide +kernel
theorem d_Model_isBefore_0 : decode b_Model_isBefore 0 = .ok (.aload_n 0, 1) := by decide +kernel
theorem d_Model_isBefore_1 : decode b_Model_isBefore 1 = .ok (.getfield 29, 3) := by decide +kernel
theorem d_Model_isBefore_4 : decode b_Model_isBefore 4 = .ok (.bipush 6, 2) := by decide +kernel
theorem d_Model_isBefore_6 : decode b_Model_isBefore 6 = .ok (.iload_n 1, 1) := by decide +kernel
theorem d_Model_isBefore_7 : decode b_Model_isBefore 7 = .ok (.imul, 1) := by decide +kernel
theorem d_Model_isBefore_8 : decode b_Model_isBefore 8 = .ok (.iconst 1, 1) := by decide +kernel
theorem d_Model_isBefore_9 : decode b_Model_isBefore 9 = .ok (.iadd, 1) := by decide +kernel
theorem d_Model_isBefore_10 : decode b_Model_isBefore 10 = .ok (.iaload, 1) := by decide +kernel
theorem d_Model_isBefore_11 : decode b_Model_isBefore 11 = .ok (.aload_n 0, 1) := by decide +kernel
theorem d_Model_isBefore_12 : decode b_Model_isBefore 12 = .ok (.getfield 29, 3) := by decide +kernel
theorem d_Model_isBefore_15 : decode b_Model_isBefore 15 = .ok (.bipush 6, 2) := by decide +kernel
theorem d_Model_isBefore_17 : decode b_Model_isBefore 17 = .ok (.iload_n 2, 1) := by decide +kernel
theorem d_Model_isBefore_18 : decode b_Model_isBefore 18 = .ok (.imul, 1) := by decide +kernel
theorem d_Model_isBefore_19 : decode b_Model_isBefore 19 = .ok (.iconst 1, 1) := by decide +kernel
theorem d_Model_isBefore_20 : decode b_Model_isBefore 20 = .ok (.iadd, 1) := by decide +kernel
theorem d_Model_isBefore_21 : decode b_Model_isBefore 21 = .ok (.iaload, 1) := by decide +kernel
theorem d_Model_isBefore_22 : decode b_Model_isBefore 22 = .ok (.isub, 1) := by decide +kernel
theorem d_Model_isBefore_23 : decode b_Model_isBefore 23 = .ok (.istore_n 3, 1) := by decide +kernel
theorem d_Model_isBefore_24 : decode b_Model_isBefore 24 = .ok (.iload_n 3, 1) := by decide +kernel
theorem d_Model_isBefore_25 : decode b_Model_isBefore 25 = .ok (.ifCond .ne 25, 3) := by decide +kernel
theorem d_Model_isBefore_28 : decode b_Model_isBefore 28 = .ok (.aload_n 0, 1) := by decide +kernel
theorem d_Model_isBefore_29 : decode b_Model_isBefore 29 = .ok (.getfield 29, 3) := by decide +kernel
theorem d_Model_isBefore_32 : decode b_Model_isBefore 32 = .ok (.bipush 6, 2) := by decide +kernel
theorem d_Model_isBefore_34 : decode b_Model_isBefore 34 = .ok (.iload_n 1, 1) := by decide +kernel
theorem d_Model_isBefore_35 : decode b_Model_isBefore 35 = .ok (.imul, 1) := by decide +kernel
theorem d_Model_isBefore_36 : decode b_Model_isBefore 36 = .ok (.iaload, 1) := by decide +kernel
theorem d_Model_isBefore_37 : decode b_Model_isBefore 37 = .ok (.aload_n 0, 1) := by decide +kernel
theorem d_Model_isBefore_38 : decode b_Model_isBefore 38 = .ok (.getfield 29, 3) := by decide +kernel
theorem d_Model_isBefore_41 : decode b_Model_isBefore 41 = .ok (.bipush 6, 2) := by decide +kernel
theorem d_Model_isBefore_43 : decode b_Model_isBefore 43 = .ok (.iload_n 2, 1) := by decide +kernel
theorem d_Model_isBefore_44 : decode b_Model_isBefore 44 = .ok (.imul, 1) := by decide +kernel
theorem d_Model_isBefore_45 : decode b_Model_isBefore 45 = .ok (.iaload, 1) := by decide +kernel
theorem d_Model_isBefore_46 : decode b_Model_isBefore 46 = .ok (.isub, 1) := by decide +kernel
theorem d_Model_isBefore_47 : decode b_Model_isBefore 47 = .ok (.goto 4, 3) := by decide +kernel
theorem d_Model_isBefore_50 : decode b_Model_isBefore 50 = .ok (.iload_n 3, 1) := by decide +kernel
theorem d_Model_isBefore_51 : decode b_Model_isBefore 51 = .ok (.istore_n 3, 1) := by decide +kernel
theorem d_Model_isBefore_52 : decode b_Model_isBefore 52 = .ok (.iconst 2, 1) := by decide +kernel
theorem d_Model_isBefore_53 : decode b_Model_isBefore 53 = .ok (.istore 4, 2) := by decide +kernel
theorem d_Model_isBefore_55 : decode b_Model_isBefore 55 = .ok (.iload 4, 2) := by decide +kernel
theorem d_Model_isBefore_57 : decode b_Model_isBefore 57 = .ok (.iconst 5, 1) := by decide +kernel
theorem d_Model_isBefore_58 : decode b_Model_isBefore 58 = .ok (.if_icmp .ge 43, 3) := by decide +kernel
theorem d_Model_isBefore_61 : decode b_Model_isBefore 61 = .ok (.iload_n 3, 1) := by decide +kernel
theorem d_Model_isBefore_62 : decode b_Model_isBefore 62 = .ok (.ifCond .ne 31, 3) := by decide +kernel
theorem d_Model_isBefore_65 : decode b_Model_isBefore 65 = .ok (.aload_n 0, 1) := by decide +kernel
theorem d_Model_isBefore_66 : decode b_Model_isBefore 66 = .ok (.getfield 29, 3) := by decide +kernel
theorem d_Model_isBefore_69 : decode b_Model_isBefore 69 = .ok (.bipush 6, 2) := by decide +kernel
theorem d_Model_isBefore_71 : decode b_Model_isBefore 71 = .ok (.iload_n 1, 1) := by decide +kernel
theorem d_Model_isBefore_72 : decode b_Model_isBefore 72 = .ok (.imul, 1) := by decide +kernel
theorem d_Model_isBefore_73 : decode b_Model_isBefore 73 = .ok (.iload 4, 2) := by decide +kernel
theorem d_Model_isBefore_75 : decode b_Model_isBefore 75 = .ok (.iadd, 1) := by decide +kernel
theorem d_Model_isBefore_76 : decode b_Model_isBefore 76 = .ok (.iaload, 1) := by decide +kernel
theorem d_Model_isBefore_77 : decode b_Model_isBefore 77 = .ok (.aload_n 0, 1) := by decide +kernel
theorem d_Model_isBefore_78 : decode b_Model_isBefore 78 = .ok (.getfield 29, 3) := by decide +kernel
theorem d_Model_isBefore_81 : decode b_Model_isBefore 81 = .ok (.bipush 6, 2) := by decide +kernel
theorem d_Model_isBefore_83 : decode b_Model_isBefore 83 = .ok (.iload_n 2, 1) := by decide +kernel
theorem d_Model_isBefore_84 : decode b_Model_isBefore 84 = .ok (.imul, 1) := by decide +kernel
theorem d_Model_isBefore_85 : decode b_Model_isBefore 85 = .ok (.iload 4, 2) := by decide +kernel
theorem d_Model_isBefore_87 : decode b_Model_isBefore 87 = .ok (.iadd, 1) := by decide +kernel
theorem d_Model_isBefore_88 : decode b_Model_isBefore 88 = .ok (.iaload, 1) := by decide +kernel
theorem d_Model_isBefore_89 : decode b_Model_isBefore 89 = .ok (.isub, 1) := by decide +kernel
theorem d_Model_isBefore_90 : decode b_Model_isBefore 90 = .ok (.goto 4, 3) := by decide +kernel
theorem d_Model_isBefore_93 : decode b_Model_isBefore 93 = .ok (.iload_n 3, 1) := by decide +kernel
theorem d_Model_isBefore_94 : decode b_Model_isBefore 94 = .ok (.istore_n 3, 1) := by decide +kernel
theorem d_Model_isBefore_95 : decode b_Model_isBefore 95 = .ok (.iinc 4 1, 3) := by decide +kernel
theorem d_Model_isBefore_98 : decode b_Model_isBefore 98 = .ok (.goto (-43), 3) := by decide +kernel
theorem d_Model_isBefore_101 : decode b_Model_isBefore 101 = .ok (.iload_n 3, 1) := by decide +kernel
theorem d_Model_isBefore_102 : decode b_Model_isBefore 102 = .ok (.ifCond .ge 7, 3) := by decide +kernel
theorem d_Model_isBefore_105 : decode b_Model_isBefore 105 = .ok (.iconst 1, 1) := by decide +kernel
theorem d_Model_isBefore_106 : decode b_Model_isBefore 106 = .ok (.goto 4, 3) := by decide +kernel
theorem d_Model_isBefore_109 : decode b_Model_isBefore 109 = .ok (.iconst 0, 1) := by decide +kernel
theorem d_Model_isBefore_110 : decode b_Model_isBefore 110 = .ok (.ireturn, 1) := by decide +kernel

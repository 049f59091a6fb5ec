theorem d_Model_modules_87 : decode b_Model_modules 87 = .ok (.iload 9, 2) := by decide +kernel
theorem d_Model_modules_89 : decode b_Model_modules 89 = .ok (.i2l, 1) := by decide +kernel
theorem d_Model_modules_90 : decode b_Model_modules 90 = .ok (.ladd, 1) := by decide +kernel
theorem d_Model_modules_91 : decode b_Model_modules 91 = .ok (.lstore 10, 2) := by decide +kernel
theorem d_Model_modules_93 : decode b_Model_modules 93 = .ok (.lload 10, 2) := by decide +kernel
theorem d_Model_modules_95 : decode b_Model_modules 95 = .ok (.lconst 0, 1) := by decide +kernel
theorem d_Model_modules_96 : decode b_Model_modules 96 = .ok (.lcmp, 1) := by decide +kernel
theorem d_Model_modules_97 : decode b_Model_modules 97 = .ok (.ifCond .lt 115, 3) := by decide +kernel
theorem d_Model_modules_100 : decode b_Model_modules 100 = .ok (.lload 10, 2) := by decide +kernel
theorem d_Model_modules_102 : decode b_Model_modules 102 = .ok (.iload 5, 2) := by decide +kernel
theorem d_Model_modules_104 : decode b_Model_modules 104 = .ok (.i2l, 1) := by decide +kernel
theorem d_Model_modules_105 : decode b_Model_modules 105 = .ok (.lcmp, 1) := by decide +kernel
theorem d_Model_modules_106 : decode b_Model_modules 106 = .ok (.ifCond .ge 106, 3) := by decide +kernel
theorem d_Model_modules_109 : decode b_Model_modules 109 = .ok (.iload_n 3, 1) := by decide +kernel
theorem d_Model_modules_110 : decode b_Model_modules 110 = .ok (.ifCond .lt 102, 3) := by decide +kernel
theorem d_Model_modules_113 : decode b_Model_modules 113 = .ok (.iload_n 3, 1) := by decide +kernel
theorem d_Model_modules_114 : decode b_Model_modules 114 = .ok (.iload 5, 2) := by decide +kernel
theorem d_Model_modules_116 : decode b_Model_modules 116 = .ok (.if_icmp .ge 96, 3) := by decide +kernel
theorem d_Model_modules_119 : decode b_Model_modules 119 = .ok (.aload_n 0, 1) := by decide +kernel
theorem d_Model_modules_120 : decode b_Model_modules 120 = .ok (.getfield 32, 3) := by decide +kernel
theorem d_Model_modules_123 : decode b_Model_modules 123 = .ok (.bipush 6, 2) := by decide +kernel
theorem d_Model_modules_125 : decode b_Model_modules 125 = .ok (.iload_n 1, 1) := by decide +kernel
theorem d_Model_modules_126 : decode b_Model_modules 126 = .ok (.imul, 1) := by decide +kernel
theorem d_Model_modules_127 : decode b_Model_modules 127 = .ok (.iaload, 1) := by decide +kernel
theorem d_Model_modules_128 : decode b_Model_modules 128 = .ok (.iload 4, 2) := by decide +kernel
theorem d_Model_modules_130 : decode b_Model_modules 130 = .ok (.iload 5, 2) := by decide +kernel
theorem d_Model_modules_132 : decode b_Model_modules 132 = .ok (.lload 10, 2) := by decide +kernel
theorem d_Model_modules_134 : decode b_Model_modules 134 = .ok (.l2i, 1) := by decide +kernel
theorem d_Model_modules_135 : decode b_Model_modules 135 = .ok (.iload_n 3, 1) := by decide +kernel
theorem d_Model_modules_136 : decode b_Model_modules 136 = .ok (.iload 6, 2) := by decide +kernel
theorem d_Model_modules_138 : decode b_Model_modules 138 = .ok (.invokestatic 75, 3) := by decide +kernel
theorem d_Model_modules_141 : decode b_Model_modules 141 = .ok (.imul, 1) := by decide +kernel
theorem d_Model_modules_142 : decode b_Model_modules 142 = .ok (.iadd, 1) := by decide +kernel
theorem d_Model_modules_143 : decode b_Model_modules 143 = .ok (.istore 12, 2) := by decide +kernel
theorem d_Model_modules_145 : decode b_Model_modules 145 = .ok (.aload_n 0, 1) := by decide +kernel
theorem d_Model_modules_146 : decode b_Model_modules 146 = .ok (.getfield 32, 3) := by decide +kernel
theorem d_Model_modules_149 : decode b_Model_modules 149 = .ok (.bipush 6, 2) := by decide +kernel
theorem d_Model_modules_151 : decode b_Model_modules 151 = .ok (.iload_n 1, 1) := by decide +kernel
theorem d_Model_modules_152 : decode b_Model_modules 152 = .ok (.imul, 1) := by decide +kernel
theorem d_Model_modules_153 : decode b_Model_modules 153 = .ok (.iconst 1, 1) := by decide +kernel
theorem d_Model_modules_154 : decode b_Model_modules 154 = .ok (.iadd, 1) := by decide +kernel
theorem d_Model_modules_155 : decode b_Model_modules 155 = .ok (.iaload, 1) := by decide +kernel
theorem d_Model_modules_156 : decode b_Model_modules 156 = .ok (.iload 4, 2) := by decide +kernel
theorem d_Model_modules_158 : decode b_Model_modules 158 = .ok (.iload 5, 2) := by decide +kernel
theorem d_Model_modules_160 : decode b_Model_modules 160 = .ok (.lload 10, 2) := by decide +kernel
theorem d_Model_modules_162 : decode b_Model_modules 162 = .ok (.l2i, 1) := by decide +kernel
theorem d_Model_modules_163 : decode b_Model_modules 163 = .ok (.iload_n 3, 1) := by decide +kernel
theorem d_Model_modules_164 : decode b_Model_modules 164 = .ok (.iload 6, 2) := by decide +kernel
theorem d_Model_modules_166 : decode b_Model_modules 166 = .ok (.invokestatic 78, 3) := by decide +kernel
theorem d_Model_modules_169 : decode b_Model_modules 169 = .ok (.imul, 1) := by decide +kernel
theorem d_Model_modules_170 : decode b_Model_modules 170 = .ok (.iadd, 1) := by decide +kernel
theorem d_Model_modules_171 : decode b_Model_modules 171 = .ok (.istore 13, 2) := by decide +kernel
theorem d_Model_modules_173 : decode b_Model_modules 173 = .ok (.aload_n 0, 1) := by decide +kernel
theorem d_Model_modules_174 : decode b_Model_modules 174 = .ok (.iload 12, 2) := by decide +kernel
theorem d_Model_modules_176 : decode b_Model_modules 176 = .ok (.iload 13, 2) := by decide +kernel
theorem d_Model_modules_178 : decode b_Model_modules 178 = .ok (.iload 4, 2) := by decide +kernel
theorem d_Model_modules_180 : decode b_Model_modules 180 = .ok (.iconst 0, 1) := by decide +kernel
theorem d_Model_modules_181 : decode b_Model_modules 181 = .ok (.iconst 0, 1) := by decide +kernel
theorem d_Model_modules_182 : decode b_Model_modules 182 = .ok (.invokevirtual 81, 3) := by decide +kernel
theorem d_Model_modules_185 : decode b_Model_modules 185 = .ok (.istore 14, 2) := by decide +kernel
theorem d_Model_modules_187 : decode b_Model_modules 187 = .ok (.lload 7, 2) := by decide +kernel
theorem d_Model_modules_189 : decode b_Model_modules 189 = .ok (.iconst 2, 1) := by decide +kernel
theorem d_Model_modules_190 : decode b_Model_modules 190 = .ok (.iload 14, 2) := by decide +kernel
theorem d_Model_modules_192 : decode b_Model_modules 192 = .ok (.imul, 1) := by decide +kernel
theorem d_Model_modules_193 : decode b_Model_modules 193 = .ok (.iload 4, 2) := by decide +kernel
theorem d_Model_modules_195 : decode b_Model_modules 195 = .ok (.iload 4, 2) := by decide +kernel
theorem d_Model_modules_197 : decode b_Model_modules 197 = .ok (.imul, 1) := by decide +kernel
theorem d_Model_modules_198 : decode b_Model_modules 198 = .ok (.if_icmp .le 10, 3) := by decide +kernel
theorem d_Model_modules_201 : decode b_Model_modules 201 = .ok (.lconst 1, 1) := by decide +kernel
theorem d_Model_modules_202 : decode b_Model_modules 202 = .ok (.iload 9, 2) := by decide +kernel
theorem d_Model_modules_204 : decode b_Model_modules 204 = .ok (.lshl, 1) := by decide +kernel
theorem d_Model_modules_205 : decode b_Model_modules 205 = .ok (.goto 4, 3) := by decide +kernel
theorem d_Model_modules_208 : decode b_Model_modules 208 = .ok (.lconst 0, 1) := by decide +kernel
theorem d_Model_modules_209 : decode b_Model_modules 209 = .ok (.lor, 1) := by decide +kernel
theorem d_Model_modules_210 : decode b_Model_modules 210 = .ok (.lstore 7, 2) := by decide +kernel
theorem d_Model_modules_212 : decode b_Model_modules 212 = .ok (.iinc 9 1, 3) := by decide +kernel
theorem d_Model_modules_215 : decode b_Model_modules 215 = .ok (.goto (-137), 3) := by decide +kernel
theorem d_Model_modules_218 : decode b_Model_modules 218 = .ok (.lload 7, 2) := by decide +kernel
theorem d_Model_modules_220 : decode b_Model_modules 220 = .ok (.lreturn, 1) := by decide +kernel

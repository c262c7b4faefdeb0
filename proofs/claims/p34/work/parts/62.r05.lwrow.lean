theorem dL_refusesAny_48 : decode cL_refusesAny 48 = .ok (.invokestatic 91, 3) := by decide +kernel
theorem dL_refusesAny_51 : decode cL_refusesAny 51 = .ok (.bipush (-11), 2) := by decide +kernel
theorem dL_refusesAny_53 : decode cL_refusesAny 53 = .ok (.if_icmp .ne 217, 3) := by decide +kernel
theorem dL_refusesAny_56 : decode cL_refusesAny 56 = .ok (.aload_n 0, 1) := by decide +kernel
theorem dL_refusesAny_57 : decode cL_refusesAny 57 = .ok (.iconst 4, 1) := by decide +kernel
theorem dL_refusesAny_58 : decode cL_refusesAny 58 = .ok (.iload_n 1, 1) := by decide +kernel
theorem dL_refusesAny_59 : decode cL_refusesAny 59 = .ok (.ifCond .ne 7, 3) := by decide +kernel
theorem dL_refusesAny_62 : decode cL_refusesAny 62 = .ok (.iconst 0, 1) := by decide +kernel
theorem dL_refusesAny_63 : decode cL_refusesAny 63 = .ok (.goto 5, 3) := by decide +kernel
theorem dL_refusesAny_66 : decode cL_refusesAny 66 = .ok (.bipush 101, 2) := by decide +kernel
theorem dL_refusesAny_68 : decode cL_refusesAny 68 = .ok (.iconst 0, 1) := by decide +kernel
theorem dL_refusesAny_69 : decode cL_refusesAny 69 = .ok (.invokestatic 91, 3) := by decide +kernel
theorem dL_refusesAny_72 : decode cL_refusesAny 72 = .ok (.bipush (-12), 2) := by decide +kernel
theorem dL_refusesAny_74 : decode cL_refusesAny 74 = .ok (.if_icmp .ne 196, 3) := by decide +kernel
theorem dL_refusesAny_77 : decode cL_refusesAny 77 = .ok (.aload_n 0, 1) := by decide +kernel
theorem dL_refusesAny_78 : decode cL_refusesAny 78 = .ok (.iconst 5, 1) := by decide +kernel
theorem dL_refusesAny_79 : decode cL_refusesAny 79 = .ok (.iload_n 1, 1) := by decide +kernel
theorem dL_refusesAny_80 : decode cL_refusesAny 80 = .ok (.ifCond .ne 7, 3) := by decide +kernel
theorem dL_refusesAny_83 : decode cL_refusesAny 83 = .ok (.iconst 0, 1) := by decide +kernel
theorem dL_refusesAny_84 : decode cL_refusesAny 84 = .ok (.goto 5, 3) := by decide +kernel
theorem dL_refusesAny_87 : decode cL_refusesAny 87 = .ok (.bipush 6, 2) := by decide +kernel
theorem dL_refusesAny_89 : decode cL_refusesAny 89 = .ok (.iconst 0, 1) := by decide +kernel
theorem dL_refusesAny_90 : decode cL_refusesAny 90 = .ok (.invokestatic 91, 3) := by decide +kernel
theorem dL_refusesAny_93 : decode cL_refusesAny 93 = .ok (.bipush (-12), 2) := by decide +kernel
theorem dL_refusesAny_95 : decode cL_refusesAny 95 = .ok (.if_icmp .ne 175, 3) := by decide +kernel
theorem dL_refusesAny_98 : decode cL_refusesAny 98 = .ok (.aload_n 0, 1) := by decide +kernel
theorem dL_refusesAny_99 : decode cL_refusesAny 99 = .ok (.bipush 6, 2) := by decide +kernel
theorem dL_refusesAny_101 : decode cL_refusesAny 101 = .ok (.iload_n 1, 1) := by decide +kernel
theorem dL_refusesAny_102 : decode cL_refusesAny 102 = .ok (.ifCond .ne 7, 3) := by decide +kernel
theorem dL_refusesAny_105 : decode cL_refusesAny 105 = .ok (.iconst (-1), 1) := by decide +kernel
theorem dL_refusesAny_106 : decode cL_refusesAny 106 = .ok (.goto 5, 3) := by decide +kernel
theorem dL_refusesAny_109 : decode cL_refusesAny 109 = .ok (.bipush 24, 2) := by decide +kernel
theorem dL_refusesAny_111 : decode cL_refusesAny 111 = .ok (.bipush 99, 2) := by decide +kernel
theorem dL_refusesAny_113 : decode cL_refusesAny 113 = .ok (.invokestatic 91, 3) := by decide +kernel
theorem dL_refusesAny_116 : decode cL_refusesAny 116 = .ok (.bipush (-11), 2) := by decide +kernel
theorem dL_refusesAny_118 : decode cL_refusesAny 118 = .ok (.if_icmp .ne 152, 3) := by decide +kernel
theorem dL_refusesAny_121 : decode cL_refusesAny 121 = .ok (.aload_n 0, 1) := by decide +kernel
theorem dL_refusesAny_122 : decode cL_refusesAny 122 = .ok (.bipush 6, 2) := by decide +kernel
theorem dL_refusesAny_124 : decode cL_refusesAny 124 = .ok (.iconst 0, 1) := by decide +kernel
theorem dL_refusesAny_125 : decode cL_refusesAny 125 = .ok (.iload_n 1, 1) := by decide +kernel
theorem dL_refusesAny_126 : decode cL_refusesAny 126 = .ok (.ifCond .ne 7, 3) := by decide +kernel
theorem dL_refusesAny_129 : decode cL_refusesAny 129 = .ok (.iconst (-1), 1) := by decide +kernel
theorem dL_refusesAny_130 : decode cL_refusesAny 130 = .ok (.goto 5, 3) := by decide +kernel
theorem dL_refusesAny_133 : decode cL_refusesAny 133 = .ok (.bipush 41, 2) := by decide +kernel
theorem dL_refusesAny_135 : decode cL_refusesAny 135 = .ok (.invokestatic 91, 3) := by decide +kernel
theorem dL_refusesAny_138 : decode cL_refusesAny 138 = .ok (.bipush (-12), 2) := by decide +kernel
theorem dL_refusesAny_140 : decode cL_refusesAny 140 = .ok (.if_icmp .ne 130, 3) := by decide +kernel
theorem dL_refusesAny_143 : decode cL_refusesAny 143 = .ok (.aload_n 0, 1) := by decide +kernel
theorem dL_refusesAny_144 : decode cL_refusesAny 144 = .ok (.bipush 7, 2) := by decide +kernel
theorem dL_refusesAny_146 : decode cL_refusesAny 146 = .ok (.iload_n 1, 1) := by decide +kernel
theorem dL_refusesAny_147 : decode cL_refusesAny 147 = .ok (.ifCond .ne 7, 3) := by decide +kernel
theorem dL_refusesAny_150 : decode cL_refusesAny 150 = .ok (.iconst (-1), 1) := by decide +kernel
theorem dL_refusesAny_151 : decode cL_refusesAny 151 = .ok (.goto 4, 3) := by decide +kernel
theorem dL_refusesAny_154 : decode cL_refusesAny 154 = .ok (.iconst 3, 1) := by decide +kernel
theorem dL_refusesAny_155 : decode cL_refusesAny 155 = .ok (.sipush 9999, 3) := by decide +kernel
theorem dL_refusesAny_158 : decode cL_refusesAny 158 = .ok (.invokestatic 91, 3) := by decide +kernel
theorem dL_refusesAny_161 : decode cL_refusesAny 161 = .ok (.bipush (-11), 2) := by decide +kernel
theorem dL_refusesAny_163 : decode cL_refusesAny 163 = .ok (.if_icmp .ne 107, 3) := by decide +kernel
theorem dL_refusesAny_166 : decode cL_refusesAny 166 = .ok (.aload_n 0, 1) := by decide +kernel
theorem dL_refusesAny_167 : decode cL_refusesAny 167 = .ok (.bipush 7, 2) := by decide +kernel
theorem dL_refusesAny_169 : decode cL_refusesAny 169 = .ok (.iconst 0, 1) := by decide +kernel
theorem dL_refusesAny_170 : decode cL_refusesAny 170 = .ok (.iload_n 1, 1) := by decide +kernel
theorem dL_refusesAny_171 : decode cL_refusesAny 171 = .ok (.ifCond .ne 8, 3) := by decide +kernel
theorem dL_refusesAny_174 : decode cL_refusesAny 174 = .ok (.bipush 49, 2) := by decide +kernel
theorem dL_refusesAny_176 : decode cL_refusesAny 176 = .ok (.goto 6, 3) := by decide +kernel
theorem dL_refusesAny_179 : decode cL_refusesAny 179 = .ok (.sipush 1000, 3) := by decide +kernel
theorem dL_refusesAny_182 : decode cL_refusesAny 182 = .ok (.invokestatic 91, 3) := by decide +kernel
theorem dL_refusesAny_185 : decode cL_refusesAny 185 = .ok (.bipush (-12), 2) := by decide +kernel
theorem dL_refusesAny_187 : decode cL_refusesAny 187 = .ok (.if_icmp .ne 83, 3) := by decide +kernel
theorem dL_refusesAny_190 : decode cL_refusesAny 190 = .ok (.aload_n 0, 1) := by decide +kernel
theorem dL_refusesAny_191 : decode cL_refusesAny 191 = .ok (.bipush 7, 2) := by decide +kernel
theorem dL_refusesAny_193 : decode cL_refusesAny 193 = .ok (.iconst 1, 1) := by decide +kernel
theorem dL_refusesAny_194 : decode cL_refusesAny 194 = .ok (.iload_n 1, 1) := by decide +kernel
theorem dL_refusesAny_195 : decode cL_refusesAny 195 = .ok (.ifCond .ne 7, 3) := by decide +kernel
theorem dL_refusesAny_198 : decode cL_refusesAny 198 = .ok (.iconst (-1), 1) := by decide +kernel
theorem dL_refusesAny_199 : decode cL_refusesAny 199 = .ok (.goto 5, 3) := by decide +kernel
theorem dL_refusesAny_202 : decode cL_refusesAny 202 = .ok (.bipush 81, 2) := by decide +kernel
theorem dL_refusesAny_204 : decode cL_refusesAny 204 = .ok (.invokestatic 91, 3) := by decide +kernel
theorem dL_refusesAny_207 : decode cL_refusesAny 207 = .ok (.bipush (-12), 2) := by decide +kernel
theorem dL_refusesAny_209 : decode cL_refusesAny 209 = .ok (.if_icmp .ne 61, 3) := by decide +kernel
theorem dL_refusesAny_212 : decode cL_refusesAny 212 = .ok (.aload_n 0, 1) := by decide +kernel
theorem dL_refusesAny_213 : decode cL_refusesAny 213 = .ok (.bipush 7, 2) := by decide +kernel
theorem dL_refusesAny_215 : decode cL_refusesAny 215 = .ok (.iconst 2, 1) := by decide +kernel
theorem dL_refusesAny_216 : decode cL_refusesAny 216 = .ok (.iload_n 1, 1) := by decide +kernel
theorem dL_refusesAny_217 : decode cL_refusesAny 217 = .ok (.ifCond .ne 7, 3) := by decide +kernel
theorem dL_refusesAny_220 : decode cL_refusesAny 220 = .ok (.iconst 0, 1) := by decide +kernel
theorem dL_refusesAny_221 : decode cL_refusesAny 221 = .ok (.goto 5, 3) := by decide +kernel
theorem dL_refusesAny_224 : decode cL_refusesAny 224 = .ok (.bipush 51, 2) := by decide +kernel
theorem dL_refusesAny_226 : decode cL_refusesAny 226 = .ok (.invokestatic 91, 3) := by decide +kernel
theorem dL_refusesAny_229 : decode cL_refusesAny 229 = .ok (.bipush (-12), 2) := by decide +kernel
theorem dL_refusesAny_231 : decode cL_refusesAny 231 = .ok (.if_icmp .ne 39, 3) := by decide +kernel
theorem dL_refusesAny_234 : decode cL_refusesAny 234 = .ok (.aload_n 0, 1) := by decide +kernel
theorem dL_refusesAny_235 : decode cL_refusesAny 235 = .ok (.bipush 8, 2) := by decide +kernel
theorem dL_refusesAny_237 : decode cL_refusesAny 237 = .ok (.iload_n 1, 1) := by decide +kernel

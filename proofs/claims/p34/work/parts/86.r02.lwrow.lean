theorem dL_texts_92 : decode cL_texts 92 = .ok (.aload_n 0, 1) := by decide +kernel
theorem dL_texts_93 : decode cL_texts 93 = .ok (.ldc2_w 163, 3) := by decide +kernel
theorem dL_texts_96 : decode cL_texts 96 = .ok (.lconst 0, 1) := by decide +kernel
theorem dL_texts_97 : decode cL_texts 97 = .ok (.iconst 1, 1) := by decide +kernel
theorem dL_texts_98 : decode cL_texts 98 = .ok (.invokestatic 147, 3) := by decide +kernel
theorem dL_texts_101 : decode cL_texts 101 = .ok (.ifCond .eq 15, 3) := by decide +kernel
theorem dL_texts_104 : decode cL_texts 104 = .ok (.aload_n 0, 1) := by decide +kernel
theorem dL_texts_105 : decode cL_texts 105 = .ok (.ldc2_w 165, 3) := by decide +kernel
theorem dL_texts_108 : decode cL_texts 108 = .ok (.lconst 0, 1) := by decide +kernel
theorem dL_texts_109 : decode cL_texts 109 = .ok (.iconst 2, 1) := by decide +kernel
theorem dL_texts_110 : decode cL_texts 110 = .ok (.invokestatic 147, 3) := by decide +kernel
theorem dL_texts_113 : decode cL_texts 113 = .ok (.ifCond .ne 5, 3) := by decide +kernel
theorem dL_texts_116 : decode cL_texts 116 = .ok (.iconst 0, 1) := by decide +kernel
theorem dL_texts_117 : decode cL_texts 117 = .ok (.ireturn, 1) := by decide +kernel
theorem dL_texts_118 : decode cL_texts 118 = .ok (.aload_n 0, 1) := by decide +kernel
theorem dL_texts_119 : decode cL_texts 119 = .ok (.ldc2_w 167, 3) := by decide +kernel
theorem dL_texts_122 : decode cL_texts 122 = .ok (.lconst 0, 1) := by decide +kernel
theorem dL_texts_123 : decode cL_texts 123 = .ok (.iconst 5, 1) := by decide +kernel
theorem dL_texts_124 : decode cL_texts 124 = .ok (.invokestatic 147, 3) := by decide +kernel
theorem dL_texts_127 : decode cL_texts 127 = .ok (.ifCond .eq 100, 3) := by decide +kernel
theorem dL_texts_130 : decode cL_texts 130 = .ok (.aload_n 0, 1) := by decide +kernel
theorem dL_texts_131 : decode cL_texts 131 = .ok (.ldc2_w 169, 3) := by decide +kernel
theorem dL_texts_134 : decode cL_texts 134 = .ok (.lconst 0, 1) := by decide +kernel
theorem dL_texts_135 : decode cL_texts 135 = .ok (.bipush 8, 2) := by decide +kernel
theorem dL_texts_137 : decode cL_texts 137 = .ok (.invokestatic 147, 3) := by decide +kernel
theorem dL_texts_140 : decode cL_texts 140 = .ok (.ifCond .eq 87, 3) := by decide +kernel
theorem dL_texts_143 : decode cL_texts 143 = .ok (.aload_n 0, 1) := by decide +kernel
theorem dL_texts_144 : decode cL_texts 144 = .ok (.ldc2_w 171, 3) := by decide +kernel
theorem dL_texts_147 : decode cL_texts 147 = .ok (.lconst 0, 1) := by decide +kernel
theorem dL_texts_148 : decode cL_texts 148 = .ok (.iconst 0, 1) := by decide +kernel
theorem dL_texts_149 : decode cL_texts 149 = .ok (.invokestatic 147, 3) := by decide +kernel
theorem dL_texts_152 : decode cL_texts 152 = .ok (.ifCond .eq 75, 3) := by decide +kernel
theorem dL_texts_155 : decode cL_texts 155 = .ok (.aload_n 0, 1) := by decide +kernel
theorem dL_texts_156 : decode cL_texts 156 = .ok (.ldc2_w 173, 3) := by decide +kernel
theorem dL_texts_159 : decode cL_texts 159 = .ok (.lconst 0, 1) := by decide +kernel
theorem dL_texts_160 : decode cL_texts 160 = .ok (.iconst 2, 1) := by decide +kernel
theorem dL_texts_161 : decode cL_texts 161 = .ok (.invokestatic 147, 3) := by decide +kernel
theorem dL_texts_164 : decode cL_texts 164 = .ok (.ifCond .eq 63, 3) := by decide +kernel
theorem dL_texts_167 : decode cL_texts 167 = .ok (.aload_n 0, 1) := by decide +kernel
theorem dL_texts_168 : decode cL_texts 168 = .ok (.ldc2_w 175, 3) := by decide +kernel
theorem dL_texts_171 : decode cL_texts 171 = .ok (.lconst 0, 1) := by decide +kernel
theorem dL_texts_172 : decode cL_texts 172 = .ok (.bipush 6, 2) := by decide +kernel
theorem dL_texts_174 : decode cL_texts 174 = .ok (.invokestatic 147, 3) := by decide +kernel
theorem dL_texts_177 : decode cL_texts 177 = .ok (.ifCond .eq 50, 3) := by decide +kernel
theorem dL_texts_180 : decode cL_texts 180 = .ok (.aload_n 0, 1) := by decide +kernel
theorem dL_texts_181 : decode cL_texts 181 = .ok (.ldc2_w 177, 3) := by decide +kernel
theorem dL_texts_184 : decode cL_texts 184 = .ok (.lconst 0, 1) := by decide +kernel
theorem dL_texts_185 : decode cL_texts 185 = .ok (.iconst 2, 1) := by decide +kernel
theorem dL_texts_186 : decode cL_texts 186 = .ok (.invokestatic 147, 3) := by decide +kernel
theorem dL_texts_189 : decode cL_texts 189 = .ok (.ifCond .eq 38, 3) := by decide +kernel
theorem dL_texts_192 : decode cL_texts 192 = .ok (.aload_n 0, 1) := by decide +kernel
theorem dL_texts_193 : decode cL_texts 193 = .ok (.ldc2_w 179, 3) := by decide +kernel
theorem dL_texts_196 : decode cL_texts 196 = .ok (.lconst 0, 1) := by decide +kernel
theorem dL_texts_197 : decode cL_texts 197 = .ok (.iconst 4, 1) := by decide +kernel
theorem dL_texts_198 : decode cL_texts 198 = .ok (.invokestatic 147, 3) := by decide +kernel
theorem dL_texts_201 : decode cL_texts 201 = .ok (.ifCond .eq 26, 3) := by decide +kernel
theorem dL_texts_204 : decode cL_texts 204 = .ok (.aload_n 0, 1) := by decide +kernel
theorem dL_texts_205 : decode cL_texts 205 = .ok (.lconst 0, 1) := by decide +kernel
theorem dL_texts_206 : decode cL_texts 206 = .ok (.lconst 0, 1) := by decide +kernel
theorem dL_texts_207 : decode cL_texts 207 = .ok (.iconst 0, 1) := by decide +kernel
theorem dL_texts_208 : decode cL_texts 208 = .ok (.invokestatic 147, 3) := by decide +kernel
theorem dL_texts_211 : decode cL_texts 211 = .ok (.ifCond .eq 16, 3) := by decide +kernel
theorem dL_texts_214 : decode cL_texts 214 = .ok (.aload_n 0, 1) := by decide +kernel
theorem dL_texts_215 : decode cL_texts 215 = .ok (.ldc2_w 181, 3) := by decide +kernel
theorem dL_texts_218 : decode cL_texts 218 = .ok (.lconst 0, 1) := by decide +kernel
theorem dL_texts_219 : decode cL_texts 219 = .ok (.bipush 8, 2) := by decide +kernel
theorem dL_texts_221 : decode cL_texts 221 = .ok (.invokestatic 147, 3) := by decide +kernel
theorem dL_texts_224 : decode cL_texts 224 = .ok (.ifCond .ne 5, 3) := by decide +kernel
theorem dL_texts_227 : decode cL_texts 227 = .ok (.iconst 0, 1) := by decide +kernel
theorem dL_texts_228 : decode cL_texts 228 = .ok (.ireturn, 1) := by decide +kernel
theorem dL_texts_229 : decode cL_texts 229 = .ok (.aload_n 0, 1) := by decide +kernel
theorem dL_texts_230 : decode cL_texts 230 = .ok (.invokevirtual 135, 3) := by decide +kernel
theorem dL_texts_233 : decode cL_texts 233 = .ok (.bipush 8, 2) := by decide +kernel
theorem dL_texts_235 : decode cL_texts 235 = .ok (.if_icmp .ne 204, 3) := by decide +kernel
theorem dL_texts_238 : decode cL_texts 238 = .ok (.aload_n 0, 1) := by decide +kernel
theorem dL_texts_239 : decode cL_texts 239 = .ok (.bipush 9, 2) := by decide +kernel
theorem dL_texts_241 : decode cL_texts 241 = .ok (.iconst 0, 1) := by decide +kernel
theorem dL_texts_242 : decode cL_texts 242 = .ok (.iconst 0, 1) := by decide +kernel
theorem dL_texts_243 : decode cL_texts 243 = .ok (.invokestatic 91, 3) := by decide +kernel
theorem dL_texts_246 : decode cL_texts 246 = .ok (.bipush (-12), 2) := by decide +kernel
theorem dL_texts_248 : decode cL_texts 248 = .ok (.if_icmp .ne 191, 3) := by decide +kernel
theorem dL_texts_251 : decode cL_texts 251 = .ok (.aload_n 0, 1) := by decide +kernel
theorem dL_texts_252 : decode cL_texts 252 = .ok (.ldc2_w 183, 3) := by decide +kernel

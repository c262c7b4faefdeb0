theorem dL_crossings_119 : decode cL_crossings 119 = .ok (.aload_n 0, 1) := by decide +kernel
theorem dL_crossings_120 : decode cL_crossings 120 = .ok (.invokevirtual 112, 3) := by decide +kernel
theorem dL_crossings_123 : decode cL_crossings 123 = .ok (.ifCond .ne 290, 3) := by decide +kernel
theorem dL_crossings_126 : decode cL_crossings 126 = .ok (.aload_n 0, 1) := by decide +kernel
theorem dL_crossings_127 : decode cL_crossings 127 = .ok (.invokevirtual 88, 3) := by decide +kernel
theorem dL_crossings_130 : decode cL_crossings 130 = .ok (.ifCond .ne 283, 3) := by decide +kernel
theorem dL_crossings_133 : decode cL_crossings 133 = .ok (.aload_n 0, 1) := by decide +kernel
theorem dL_crossings_134 : decode cL_crossings 134 = .ok (.iconst 0, 1) := by decide +kernel
theorem dL_crossings_135 : decode cL_crossings 135 = .ok (.invokevirtual 69, 3) := by decide +kernel
theorem dL_crossings_138 : decode cL_crossings 138 = .ok (.iconst (-1), 1) := by decide +kernel
theorem dL_crossings_139 : decode cL_crossings 139 = .ok (.if_icmp .ne 274, 3) := by decide +kernel
theorem dL_crossings_142 : decode cL_crossings 142 = .ok (.aload_n 0, 1) := by decide +kernel
theorem dL_crossings_143 : decode cL_crossings 143 = .ok (.iconst 0, 1) := by decide +kernel
theorem dL_crossings_144 : decode cL_crossings 144 = .ok (.invokevirtual 72, 3) := by decide +kernel
theorem dL_crossings_147 : decode cL_crossings 147 = .ok (.ifCond .ne 266, 3) := by decide +kernel
theorem dL_crossings_150 : decode cL_crossings 150 = .ok (.aload_n 0, 1) := by decide +kernel
theorem dL_crossings_151 : decode cL_crossings 151 = .ok (.iconst 1, 1) := by decide +kernel
theorem dL_crossings_152 : decode cL_crossings 152 = .ok (.invokevirtual 72, 3) := by decide +kernel
theorem dL_crossings_155 : decode cL_crossings 155 = .ok (.iconst (-1), 1) := by decide +kernel
theorem dL_crossings_156 : decode cL_crossings 156 = .ok (.if_icmp .ne 257, 3) := by decide +kernel
theorem dL_crossings_159 : decode cL_crossings 159 = .ok (.aload_n 0, 1) := by decide +kernel
theorem dL_crossings_160 : decode cL_crossings 160 = .ok (.invokevirtual 115, 3) := by decide +kernel
theorem dL_crossings_163 : decode cL_crossings 163 = .ok (.fconst 0, 1) := by decide +kernel
theorem dL_crossings_164 : decode cL_crossings 164 = .ok (.fcmp .l, 1) := by decide +kernel
theorem dL_crossings_165 : decode cL_crossings 165 = .ok (.ifCond .ne 248, 3) := by decide +kernel
theorem dL_crossings_168 : decode cL_crossings 168 = .ok (.aload_n 0, 1) := by decide +kernel
theorem dL_crossings_169 : decode cL_crossings 169 = .ok (.invokevirtual 119, 3) := by decide +kernel
theorem dL_crossings_172 : decode cL_crossings 172 = .ok (.dconst 1, 1) := by decide +kernel
theorem dL_crossings_173 : decode cL_crossings 173 = .ok (.dcmp .l, 1) := by decide +kernel
theorem dL_crossings_174 : decode cL_crossings 174 = .ok (.ifCond .ne 239, 3) := by decide +kernel
theorem dL_crossings_177 : decode cL_crossings 177 = .ok (.aload_n 0, 1) := by decide +kernel
theorem dL_crossings_178 : decode cL_crossings 178 = .ok (.invokestatic 123, 3) := by decide +kernel
theorem dL_crossings_181 : decode cL_crossings 181 = .ok (.ifCond .eq 232, 3) := by decide +kernel
theorem dL_crossings_184 : decode cL_crossings 184 = .ok (.aload_n 0, 1) := by decide +kernel
theorem dL_crossings_185 : decode cL_crossings 185 = .ok (.invokevirtual 23, 3) := by decide +kernel
theorem dL_crossings_188 : decode cL_crossings 188 = .ok (.iconst 1, 1) := by decide +kernel
theorem dL_crossings_189 : decode cL_crossings 189 = .ok (.if_icmp .ne 224, 3) := by decide +kernel
theorem dL_crossings_192 : decode cL_crossings 192 = .ok (.aload_n 0, 1) := by decide +kernel
theorem dL_crossings_193 : decode cL_crossings 193 = .ok (.iconst 1, 1) := by decide +kernel
theorem dL_crossings_194 : decode cL_crossings 194 = .ok (.invokevirtual 60, 3) := by decide +kernel
theorem dL_crossings_197 : decode cL_crossings 197 = .ok (.iconst 1, 1) := by decide +kernel
theorem dL_crossings_198 : decode cL_crossings 198 = .ok (.if_icmp .ne 215, 3) := by decide +kernel
theorem dL_crossings_201 : decode cL_crossings 201 = .ok (.aload_n 0, 1) := by decide +kernel
theorem dL_crossings_202 : decode cL_crossings 202 = .ok (.bipush 6, 2) := by decide +kernel
theorem dL_crossings_204 : decode cL_crossings 204 = .ok (.invokevirtual 60, 3) := by decide +kernel
theorem dL_crossings_207 : decode cL_crossings 207 = .ok (.sipush 220, 3) := by decide +kernel
theorem dL_crossings_210 : decode cL_crossings 210 = .ok (.if_icmp .ne 203, 3) := by decide +kernel
theorem dL_crossings_213 : decode cL_crossings 213 = .ok (.aload_n 0, 1) := by decide +kernel
theorem dL_crossings_214 : decode cL_crossings 214 = .ok (.iconst 5, 1) := by decide +kernel
theorem dL_crossings_215 : decode cL_crossings 215 = .ok (.invokevirtual 60, 3) := by decide +kernel
theorem dL_crossings_218 : decode cL_crossings 218 = .ok (.ifCond .ne 195, 3) := by decide +kernel
theorem dL_crossings_221 : decode cL_crossings 221 = .ok (.aload_n 0, 1) := by decide +kernel
theorem dL_crossings_222 : decode cL_crossings 222 = .ok (.iconst 3, 1) := by decide +kernel

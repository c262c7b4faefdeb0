theorem dL_limits_152 : decode cL_limits 152 = .ok (.if_icmp .ne 14, 3) := by decide +kernel
theorem dL_limits_155 : decode cL_limits 155 = .ok (.aload_n 0, 1) := by decide +kernel
theorem dL_limits_156 : decode cL_limits 156 = .ok (.iconst 2, 1) := by decide +kernel
theorem dL_limits_157 : decode cL_limits 157 = .ok (.iconst 1, 1) := by decide +kernel
theorem dL_limits_158 : decode cL_limits 158 = .ok (.invokevirtual 35, 3) := by decide +kernel
theorem dL_limits_161 : decode cL_limits 161 = .ok (.bipush 10, 2) := by decide +kernel
theorem dL_limits_163 : decode cL_limits 163 = .ok (.if_icmp .eq 5, 3) := by decide +kernel
theorem dL_limits_166 : decode cL_limits 166 = .ok (.iconst 0, 1) := by decide +kernel
theorem dL_limits_167 : decode cL_limits 167 = .ok (.ireturn, 1) := by decide +kernel
theorem dL_limits_168 : decode cL_limits 168 = .ok (.iconst 0, 1) := by decide +kernel
theorem dL_limits_169 : decode cL_limits 169 = .ok (.istore_n 1, 1) := by decide +kernel
theorem dL_limits_170 : decode cL_limits 170 = .ok (.iload_n 1, 1) := by decide +kernel
theorem dL_limits_171 : decode cL_limits 171 = .ok (.iconst 5, 1) := by decide +kernel
theorem dL_limits_172 : decode cL_limits 172 = .ok (.if_icmp .ge 21, 3) := by decide +kernel
theorem dL_limits_175 : decode cL_limits 175 = .ok (.aload_n 0, 1) := by decide +kernel
theorem dL_limits_176 : decode cL_limits 176 = .ok (.iload_n 1, 1) := by decide +kernel
theorem dL_limits_177 : decode cL_limits 177 = .ok (.bipush 10, 2) := by decide +kernel
theorem dL_limits_179 : decode cL_limits 179 = .ok (.invokevirtual 32, 3) := by decide +kernel
theorem dL_limits_182 : decode cL_limits 182 = .ok (.ifCond .ge 5, 3) := by decide +kernel
theorem dL_limits_185 : decode cL_limits 185 = .ok (.iconst 0, 1) := by decide +kernel
theorem dL_limits_186 : decode cL_limits 186 = .ok (.ireturn, 1) := by decide +kernel
theorem dL_limits_187 : decode cL_limits 187 = .ok (.iinc 1 1, 3) := by decide +kernel
theorem dL_limits_190 : decode cL_limits 190 = .ok (.goto (-20), 3) := by decide +kernel
theorem dL_limits_193 : decode cL_limits 193 = .ok (.aload_n 0, 1) := by decide +kernel
theorem dL_limits_194 : decode cL_limits 194 = .ok (.iconst 5, 1) := by decide +kernel
theorem dL_limits_195 : decode cL_limits 195 = .ok (.bipush 10, 2) := by decide +kernel
theorem dL_limits_197 : decode cL_limits 197 = .ok (.invokevirtual 32, 3) := by decide +kernel
theorem dL_limits_200 : decode cL_limits 200 = .ok (.ifCond .ne 164, 3) := by decide +kernel
theorem dL_limits_203 : decode cL_limits 203 = .ok (.aload_n 0, 1) := by decide +kernel
theorem dL_limits_204 : decode cL_limits 204 = .ok (.invokevirtual 85, 3) := by decide +kernel
theorem dL_limits_207 : decode cL_limits 207 = .ok (.iconst 4, 1) := by decide +kernel
theorem dL_limits_208 : decode cL_limits 208 = .ok (.if_icmp .ne 156, 3) := by decide +kernel
theorem dL_limits_211 : decode cL_limits 211 = .ok (.aload_n 0, 1) := by decide +kernel
theorem dL_limits_212 : decode cL_limits 212 = .ok (.invokevirtual 23, 3) := by decide +kernel
theorem dL_limits_215 : decode cL_limits 215 = .ok (.iconst 1, 1) := by decide +kernel
theorem dL_limits_216 : decode cL_limits 216 = .ok (.if_icmp .ne 148, 3) := by decide +kernel
theorem dL_limits_219 : decode cL_limits 219 = .ok (.aload_n 0, 1) := by decide +kernel
theorem dL_limits_220 : decode cL_limits 220 = .ok (.bipush 9, 2) := by decide +kernel
theorem dL_limits_222 : decode cL_limits 222 = .ok (.iconst 1, 1) := by decide +kernel
theorem dL_limits_223 : decode cL_limits 223 = .ok (.invokevirtual 50, 3) := by decide +kernel
theorem dL_limits_226 : decode cL_limits 226 = .ok (.bipush 40, 2) := by decide +kernel
theorem dL_limits_228 : decode cL_limits 228 = .ok (.if_icmp .ne 136, 3) := by decide +kernel
theorem dL_limits_231 : decode cL_limits 231 = .ok (.aload_n 0, 1) := by decide +kernel
theorem dL_limits_232 : decode cL_limits 232 = .ok (.bipush 9, 2) := by decide +kernel
theorem dL_limits_234 : decode cL_limits 234 = .ok (.iconst 0, 1) := by decide +kernel
theorem dL_limits_235 : decode cL_limits 235 = .ok (.invokevirtual 50, 3) := by decide +kernel
theorem dL_limits_238 : decode cL_limits 238 = .ok (.bipush 20, 2) := by decide +kernel
theorem dL_limits_240 : decode cL_limits 240 = .ok (.if_icmp .ne 124, 3) := by decide +kernel
theorem dL_limits_243 : decode cL_limits 243 = .ok (.aload_n 0, 1) := by decide +kernel
theorem dL_limits_244 : decode cL_limits 244 = .ok (.invokevirtual 23, 3) := by decide +kernel
theorem dL_limits_247 : decode cL_limits 247 = .ok (.iconst 1, 1) := by decide +kernel
theorem dL_limits_248 : decode cL_limits 248 = .ok (.if_icmp .ne 116, 3) := by decide +kernel
theorem dL_limits_251 : decode cL_limits 251 = .ok (.aload_n 0, 1) := by decide +kernel
theorem dL_limits_252 : decode cL_limits 252 = .ok (.invokevirtual 23, 3) := by decide +kernel
theorem dL_limits_255 : decode cL_limits 255 = .ok (.iconst 1, 1) := by decide +kernel
theorem dL_limits_256 : decode cL_limits 256 = .ok (.if_icmp .ne 108, 3) := by decide +kernel
theorem dL_limits_259 : decode cL_limits 259 = .ok (.aload_n 0, 1) := by decide +kernel
theorem dL_limits_260 : decode cL_limits 260 = .ok (.bipush 9, 2) := by decide +kernel
theorem dL_limits_262 : decode cL_limits 262 = .ok (.iconst 1, 1) := by decide +kernel
theorem dL_limits_263 : decode cL_limits 263 = .ok (.invokevirtual 50, 3) := by decide +kernel
theorem dL_limits_266 : decode cL_limits 266 = .ok (.bipush 20, 2) := by decide +kernel
theorem dL_limits_268 : decode cL_limits 268 = .ok (.if_icmp .ne 96, 3) := by decide +kernel
theorem dL_limits_271 : decode cL_limits 271 = .ok (.aload_n 0, 1) := by decide +kernel
theorem dL_limits_272 : decode cL_limits 272 = .ok (.iconst 5, 1) := by decide +kernel
theorem dL_limits_273 : decode cL_limits 273 = .ok (.invokevirtual 60, 3) := by decide +kernel
theorem dL_limits_276 : decode cL_limits 276 = .ok (.iconst 1, 1) := by decide +kernel
theorem dL_limits_277 : decode cL_limits 277 = .ok (.if_icmp .ne 87, 3) := by decide +kernel
theorem dL_limits_280 : decode cL_limits 280 = .ok (.aload_n 0, 1) := by decide +kernel

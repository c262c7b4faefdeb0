theorem dL_call_28 : decode cL_call 28 = .ok (.if_icmp .ne 10, 3) := by decide +kernel
theorem dL_call_31 : decode cL_call 31 = .ok (.aload_n 0, 1) := by decide +kernel
theorem dL_call_32 : decode cL_call 32 = .ok (.invokevirtual 19, 3) := by decide +kernel
theorem dL_call_35 : decode cL_call 35 = .ok (.goto 237, 3) := by decide +kernel
theorem dL_call_38 : decode cL_call 38 = .ok (.iload_n 1, 1) := by decide +kernel
theorem dL_call_39 : decode cL_call 39 = .ok (.iconst 3, 1) := by decide +kernel
theorem dL_call_40 : decode cL_call 40 = .ok (.if_icmp .ne 10, 3) := by decide +kernel
theorem dL_call_43 : decode cL_call 43 = .ok (.aload_n 0, 1) := by decide +kernel
theorem dL_call_44 : decode cL_call 44 = .ok (.invokevirtual 23, 3) := by decide +kernel
theorem dL_call_47 : decode cL_call 47 = .ok (.goto 225, 3) := by decide +kernel
theorem dL_call_50 : decode cL_call 50 = .ok (.iload_n 1, 1) := by decide +kernel
theorem dL_call_51 : decode cL_call 51 = .ok (.iconst 4, 1) := by decide +kernel
theorem dL_call_52 : decode cL_call 52 = .ok (.if_icmp .ne 11, 3) := by decide +kernel
theorem dL_call_55 : decode cL_call 55 = .ok (.aload_n 0, 1) := by decide +kernel
theorem dL_call_56 : decode cL_call 56 = .ok (.iload_n 2, 1) := by decide +kernel
theorem dL_call_57 : decode cL_call 57 = .ok (.invokevirtual 26, 3) := by decide +kernel
theorem dL_call_60 : decode cL_call 60 = .ok (.goto 212, 3) := by decide +kernel
theorem dL_call_63 : decode cL_call 63 = .ok (.iload_n 1, 1) := by decide +kernel
theorem dL_call_64 : decode cL_call 64 = .ok (.iconst 5, 1) := by decide +kernel
theorem dL_call_65 : decode cL_call 65 = .ok (.if_icmp .ne 11, 3) := by decide +kernel
theorem dL_call_68 : decode cL_call 68 = .ok (.aload_n 0, 1) := by decide +kernel
theorem dL_call_69 : decode cL_call 69 = .ok (.iload_n 2, 1) := by decide +kernel
theorem dL_call_70 : decode cL_call 70 = .ok (.invokevirtual 29, 3) := by decide +kernel
theorem dL_call_73 : decode cL_call 73 = .ok (.goto 199, 3) := by decide +kernel
theorem dL_call_76 : decode cL_call 76 = .ok (.iload_n 1, 1) := by decide +kernel
theorem dL_call_77 : decode cL_call 77 = .ok (.bipush 6, 2) := by decide +kernel
theorem dL_call_79 : decode cL_call 79 = .ok (.if_icmp .ne 12, 3) := by decide +kernel
theorem dL_call_82 : decode cL_call 82 = .ok (.aload_n 0, 1) := by decide +kernel
theorem dL_call_83 : decode cL_call 83 = .ok (.iload_n 2, 1) := by decide +kernel
theorem dL_call_84 : decode cL_call 84 = .ok (.iload_n 3, 1) := by decide +kernel
theorem dL_call_85 : decode cL_call 85 = .ok (.invokevirtual 32, 3) := by decide +kernel
theorem dL_call_88 : decode cL_call 88 = .ok (.goto 184, 3) := by decide +kernel
theorem dL_call_91 : decode cL_call 91 = .ok (.iload_n 1, 1) := by decide +kernel
theorem dL_call_92 : decode cL_call 92 = .ok (.bipush 7, 2) := by decide +kernel
theorem dL_call_94 : decode cL_call 94 = .ok (.if_icmp .ne 12, 3) := by decide +kernel
theorem dL_call_97 : decode cL_call 97 = .ok (.aload_n 0, 1) := by decide +kernel
theorem dL_call_98 : decode cL_call 98 = .ok (.iload_n 2, 1) := by decide +kernel
theorem dL_call_99 : decode cL_call 99 = .ok (.iload_n 3, 1) := by decide +kernel
theorem dL_call_100 : decode cL_call 100 = .ok (.invokevirtual 35, 3) := by decide +kernel
theorem dL_call_103 : decode cL_call 103 = .ok (.goto 169, 3) := by decide +kernel
theorem dL_call_106 : decode cL_call 106 = .ok (.iload_n 1, 1) := by decide +kernel
theorem dL_call_107 : decode cL_call 107 = .ok (.bipush 8, 2) := by decide +kernel
theorem dL_call_109 : decode cL_call 109 = .ok (.if_icmp .ne 11, 3) := by decide +kernel
theorem dL_call_112 : decode cL_call 112 = .ok (.aload_n 0, 1) := by decide +kernel
theorem dL_call_113 : decode cL_call 113 = .ok (.iload_n 2, 1) := by decide +kernel
theorem dL_call_114 : decode cL_call 114 = .ok (.invokevirtual 38, 3) := by decide +kernel
theorem dL_call_117 : decode cL_call 117 = .ok (.goto 155, 3) := by decide +kernel
theorem dL_call_120 : decode cL_call 120 = .ok (.iload_n 1, 1) := by decide +kernel
theorem dL_call_121 : decode cL_call 121 = .ok (.bipush 9, 2) := by decide +kernel
theorem dL_call_123 : decode cL_call 123 = .ok (.if_icmp .ne 10, 3) := by decide +kernel
theorem dL_call_126 : decode cL_call 126 = .ok (.aload_n 0, 1) := by decide +kernel
theorem dL_call_127 : decode cL_call 127 = .ok (.invokevirtual 41, 3) := by decide +kernel
theorem dL_call_130 : decode cL_call 130 = .ok (.goto 142, 3) := by decide +kernel
theorem dL_call_133 : decode cL_call 133 = .ok (.iload_n 1, 1) := by decide +kernel
theorem dL_call_134 : decode cL_call 134 = .ok (.bipush 10, 2) := by decide +kernel
theorem dL_call_136 : decode cL_call 136 = .ok (.if_icmp .ne 10, 3) := by decide +kernel
theorem dL_call_139 : decode cL_call 139 = .ok (.aload_n 0, 1) := by decide +kernel
theorem dL_call_140 : decode cL_call 140 = .ok (.invokevirtual 44, 3) := by decide +kernel
theorem dL_call_143 : decode cL_call 143 = .ok (.goto 129, 3) := by decide +kernel
theorem dL_call_146 : decode cL_call 146 = .ok (.iload_n 1, 1) := by decide +kernel
theorem dL_call_147 : decode cL_call 147 = .ok (.bipush 11, 2) := by decide +kernel
theorem dL_call_149 : decode cL_call 149 = .ok (.if_icmp .ne 10, 3) := by decide +kernel
theorem dL_call_152 : decode cL_call 152 = .ok (.aload_n 0, 1) := by decide +kernel
theorem dL_call_153 : decode cL_call 153 = .ok (.invokevirtual 47, 3) := by decide +kernel
theorem dL_call_156 : decode cL_call 156 = .ok (.goto 116, 3) := by decide +kernel
theorem dL_call_159 : decode cL_call 159 = .ok (.iload_n 1, 1) := by decide +kernel
theorem dL_call_160 : decode cL_call 160 = .ok (.bipush 12, 2) := by decide +kernel
theorem dL_call_162 : decode cL_call 162 = .ok (.if_icmp .ne 12, 3) := by decide +kernel
theorem dL_call_165 : decode cL_call 165 = .ok (.aload_n 0, 1) := by decide +kernel
theorem dL_call_166 : decode cL_call 166 = .ok (.iload_n 2, 1) := by decide +kernel
theorem dL_call_167 : decode cL_call 167 = .ok (.iload_n 3, 1) := by decide +kernel
theorem dL_call_168 : decode cL_call 168 = .ok (.invokevirtual 50, 3) := by decide +kernel
theorem dL_call_171 : decode cL_call 171 = .ok (.goto 101, 3) := by decide +kernel
theorem dL_call_174 : decode cL_call 174 = .ok (.iload_n 1, 1) := by decide +kernel
theorem dL_call_175 : decode cL_call 175 = .ok (.bipush 13, 2) := by decide +kernel
theorem dL_call_177 : decode cL_call 177 = .ok (.if_icmp .ne 12, 3) := by decide +kernel
theorem dL_call_180 : decode cL_call 180 = .ok (.aload_n 0, 1) := by decide +kernel
theorem dL_call_181 : decode cL_call 181 = .ok (.iload_n 2, 1) := by decide +kernel
theorem dL_call_182 : decode cL_call 182 = .ok (.iload_n 3, 1) := by decide +kernel
theorem dL_call_183 : decode cL_call 183 = .ok (.invokevirtual 53, 3) := by decide +kernel
theorem dL_call_186 : decode cL_call 186 = .ok (.goto 86, 3) := by decide +kernel
theorem dL_call_189 : decode cL_call 189 = .ok (.iload_n 1, 1) := by decide +kernel
theorem dL_call_190 : decode cL_call 190 = .ok (.bipush 14, 2) := by decide +kernel
theorem dL_call_192 : decode cL_call 192 = .ok (.if_icmp .ne 19, 3) := by decide +kernel
theorem dL_call_195 : decode cL_call 195 = .ok (.aload_n 0, 1) := by decide +kernel
theorem dL_call_196 : decode cL_call 196 = .ok (.iload_n 2, 1) := by decide +kernel
theorem dL_call_197 : decode cL_call 197 = .ok (.iload_n 3, 1) := by decide +kernel
theorem dL_call_198 : decode cL_call 198 = .ok (.bipush 10, 2) := by decide +kernel
theorem dL_call_200 : decode cL_call 200 = .ok (.idiv, 1) := by decide +kernel
theorem dL_call_201 : decode cL_call 201 = .ok (.iload_n 3, 1) := by decide +kernel
theorem dL_call_202 : decode cL_call 202 = .ok (.bipush 10, 2) := by decide +kernel
theorem dL_call_204 : decode cL_call 204 = .ok (.irem, 1) := by decide +kernel
theorem dL_call_205 : decode cL_call 205 = .ok (.invokevirtual 56, 3) := by decide +kernel
theorem dL_call_208 : decode cL_call 208 = .ok (.goto 64, 3) := by decide +kernel
theorem dL_call_211 : decode cL_call 211 = .ok (.iload_n 1, 1) := by decide +kernel
theorem dL_call_212 : decode cL_call 212 = .ok (.bipush 15, 2) := by decide +kernel
theorem dL_call_214 : decode cL_call 214 = .ok (.if_icmp .ne 11, 3) := by decide +kernel
theorem dL_call_217 : decode cL_call 217 = .ok (.aload_n 0, 1) := by decide +kernel
theorem dL_call_218 : decode cL_call 218 = .ok (.iload_n 2, 1) := by decide +kernel
theorem dL_call_219 : decode cL_call 219 = .ok (.invokevirtual 60, 3) := by decide +kernel
theorem dL_call_222 : decode cL_call 222 = .ok (.goto 50, 3) := by decide +kernel
theorem dL_call_225 : decode cL_call 225 = .ok (.iload_n 1, 1) := by decide +kernel
theorem dL_call_226 : decode cL_call 226 = .ok (.bipush 16, 2) := by decide +kernel
theorem dL_call_228 : decode cL_call 228 = .ok (.if_icmp .ne 11, 3) := by decide +kernel
theorem dL_call_231 : decode cL_call 231 = .ok (.aload_n 0, 1) := by decide +kernel
theorem dL_call_232 : decode cL_call 232 = .ok (.iload_n 2, 1) := by decide +kernel
theorem dL_call_233 : decode cL_call 233 = .ok (.invokevirtual 63, 3) := by decide +kernel
theorem dL_call_236 : decode cL_call 236 = .ok (.goto 36, 3) := by decide +kernel
theorem dL_call_239 : decode cL_call 239 = .ok (.iload_n 1, 1) := by decide +kernel
theorem dL_call_240 : decode cL_call 240 = .ok (.bipush 17, 2) := by decide +kernel
theorem dL_call_242 : decode cL_call 242 = .ok (.if_icmp .ne 11, 3) := by decide +kernel
theorem dL_call_245 : decode cL_call 245 = .ok (.aload_n 0, 1) := by decide +kernel
theorem dL_call_246 : decode cL_call 246 = .ok (.iload_n 2, 1) := by decide +kernel
theorem dL_call_247 : decode cL_call 247 = .ok (.invokevirtual 66, 3) := by decide +kernel
theorem dL_call_250 : decode cL_call 250 = .ok (.goto 22, 3) := by decide +kernel
theorem dL_call_253 : decode cL_call 253 = .ok (.iload_n 1, 1) := by decide +kernel
theorem dL_call_254 : decode cL_call 254 = .ok (.bipush 18, 2) := by decide +kernel
theorem dL_call_256 : decode cL_call 256 = .ok (.if_icmp .ne 11, 3) := by decide +kernel
theorem dL_call_259 : decode cL_call 259 = .ok (.aload_n 0, 1) := by decide +kernel
theorem dL_call_260 : decode cL_call 260 = .ok (.iload_n 2, 1) := by decide +kernel
theorem dL_call_261 : decode cL_call 261 = .ok (.invokevirtual 69, 3) := by decide +kernel
theorem dL_call_264 : decode cL_call 264 = .ok (.goto 8, 3) := by decide +kernel
theorem dL_call_267 : decode cL_call 267 = .ok (.aload_n 0, 1) := by decide +kernel
theorem dL_call_268 : decode cL_call 268 = .ok (.iload_n 2, 1) := by decide +kernel
theorem dL_call_269 : decode cL_call 269 = .ok (.invokevirtual 72, 3) := by decide +kernel
theorem dL_call_272 : decode cL_call 272 = .ok (.ireturn, 1) := by decide +kernel
theorem dL_call_273 : decode cL_call 273 = .ok (.astore 4, 2) := by decide +kernel
theorem dL_call_275 : decode cL_call 275 = .ok (.bipush (-11), 2) := by decide +kernel
theorem dL_call_277 : decode cL_call 277 = .ok (.ireturn, 1) := by decide +kernel
theorem dL_call_278 : decode cL_call 278 = .ok (.astore 4, 2) := by decide +kernel
theorem dL_call_280 : decode cL_call 280 = .ok (.bipush (-12), 2) := by decide +kernel
theorem dL_call_282 : decode cL_call 282 = .ok (.ireturn, 1) := by decide +kernel
theorem dL_call_283 : decode cL_call 283 = .ok (.astore 4, 2) := by decide +kernel
theorem dL_call_285 : decode cL_call 285 = .ok (.bipush (-13), 2) := by decide +kernel
theorem dL_call_287 : decode cL_call 287 = .ok (.ireturn, 1) := by decide +kernel
set_option maxRecDepth 20000 in
theorem ggL_seen_X5_count : GoodIn wsL_seen wsX5_count := goodIn_ca (goodIn_r _ [7, 8, 9, 10, 11, 12, 13, 14, 15, 16, 17, 18, 19, 20, 21, 22, 23, 24, 25, 26, 27, 28, 29, 30, 31, 32, 33, 34, 35, 36, 37, 38, 39, 40, 41, 42, 43, 44, 45, 46, 47, 48, 49, 50, 51, 52, 53, 54, 55, 56, 57, 58, 226, 227, 228, 229, 230, 231, 232, 233, 234, 235, 236, 237, 238, 239, 240, 241, 242, 243, 244, 245, 246, 247, 248, 249, 250, 251, 252, 253, 254, 255, 256] (by decide +kernel) (by decide +kernel)) (goodIn_sub (fun _ h => List.mem_cons_of_mem _ (List.mem_append_left _ (List.mem_append_right _ h))) (by decide +kernel))
set_option maxRecDepth 20000 in
theorem gL_seen_X5_count : GoodIn wsL_seen (wsV RL 60 RX5 yX5_count wsX5_count) := goodIn_app (goodIn_of _ (by decide +kernel)) ggL_seen_X5_count

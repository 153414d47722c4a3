theorem dX12_weeks_45 : decode cX12_weeks 45 = .ok (.aload_n 0, 1) := by decide +kernel
theorem dX12_weeks_46 : decode cX12_weeks 46 = .ok (.getfield 52, 3) := by decide +kernel
theorem dX12_weeks_49 : decode cX12_weeks 49 = .ok (.invokestatic 261, 3) := by decide +kernel
theorem dX12_weeks_52 : decode cX12_weeks 52 = .ok (.aload_n 0, 1) := by decide +kernel
theorem dX12_weeks_53 : decode cX12_weeks 53 = .ok (.getfield 129, 3) := by decide +kernel
theorem dX12_weeks_56 : decode cX12_weeks 56 = .ok (.istore 4, 2) := by decide +kernel
theorem dX12_weeks_58 : decode cX12_weeks 58 = .ok (.aload_n 0, 1) := by decide +kernel
theorem dX12_weeks_59 : decode cX12_weeks 59 = .ok (.getfield 123, 3) := by decide +kernel
theorem dX12_weeks_62 : decode cX12_weeks 62 = .ok (.istore 5, 2) := by decide +kernel
theorem dX12_weeks_64 : decode cX12_weeks 64 = .ok (.aload_n 0, 1) := by decide +kernel
theorem dX12_weeks_65 : decode cX12_weeks 65 = .ok (.iload_n 2, 1) := by decide +kernel
theorem dX12_weeks_66 : decode cX12_weeks 66 = .ok (.putfield 249, 3) := by decide +kernel
theorem dX12_weeks_69 : decode cX12_weeks 69 = .ok (.iconst 0, 1) := by decide +kernel
theorem dX12_weeks_70 : decode cX12_weeks 70 = .ok (.istore 6, 2) := by decide +kernel
theorem dX12_weeks_72 : decode cX12_weeks 72 = .ok (.iload 6, 2) := by decide +kernel
theorem dX12_weeks_74 : decode cX12_weeks 74 = .ok (.iload_n 1, 1) := by decide +kernel
theorem dX12_weeks_75 : decode cX12_weeks 75 = .ok (.if_icmp .ge 132, 3) := by decide +kernel
theorem dX12_weeks_78 : decode cX12_weeks 78 = .ok (.iconst 0, 1) := by decide +kernel
theorem dX12_weeks_79 : decode cX12_weeks 79 = .ok (.istore 7, 2) := by decide +kernel
theorem dX12_weeks_81 : decode cX12_weeks 81 = .ok (.iload 7, 2) := by decide +kernel
theorem dX12_weeks_83 : decode cX12_weeks 83 = .ok (.aload_n 0, 1) := by decide +kernel
theorem dX12_weeks_84 : decode cX12_weeks 84 = .ok (.getfield 126, 3) := by decide +kernel
theorem dX12_weeks_87 : decode cX12_weeks 87 = .ok (.if_icmp .ge 104, 3) := by decide +kernel
theorem dX12_weeks_90 : decode cX12_weeks 90 = .ok (.aload_n 0, 1) := by decide +kernel
theorem dX12_weeks_91 : decode cX12_weeks 91 = .ok (.iload 7, 2) := by decide +kernel
theorem dX12_weeks_93 : decode cX12_weeks 93 = .ok (.invokevirtual 265, 3) := by decide +kernel
theorem dX12_weeks_96 : decode cX12_weeks 96 = .ok (.istore 8, 2) := by decide +kernel
theorem dX12_weeks_98 : decode cX12_weeks 98 = .ok (.iload 8, 2) := by decide +kernel
theorem dX12_weeks_100 : decode cX12_weeks 100 = .ok (.iconst (-1), 1) := by decide +kernel
theorem dX12_weeks_101 : decode cX12_weeks 101 = .ok (.if_icmp .eq 84, 3) := by decide +kernel
theorem dX12_weeks_104 : decode cX12_weeks 104 = .ok (.aload_n 0, 1) := by decide +kernel
theorem dX12_weeks_105 : decode cX12_weeks 105 = .ok (.iconst 2, 1) := by decide +kernel
theorem dX12_weeks_106 : decode cX12_weeks 106 = .ok (.invokevirtual 268, 3) := by decide +kernel
theorem dX12_weeks_109 : decode cX12_weeks 109 = .ok (.ifCond .ne 76, 3) := by decide +kernel
theorem dX12_weeks_112 : decode cX12_weeks 112 = .ok (.aload_n 0, 1) := by decide +kernel
theorem dX12_weeks_113 : decode cX12_weeks 113 = .ok (.aload_n 0, 1) := by decide +kernel
theorem dX12_weeks_114 : decode cX12_weeks 114 = .ok (.getfield 126, 3) := by decide +kernel
theorem dX12_weeks_117 : decode cX12_weeks 117 = .ok (.invokevirtual 268, 3) := by decide +kernel
theorem dX12_weeks_120 : decode cX12_weeks 120 = .ok (.istore 9, 2) := by decide +kernel
theorem dX12_weeks_122 : decode cX12_weeks 122 = .ok (.aload_n 0, 1) := by decide +kernel
theorem dX12_weeks_123 : decode cX12_weeks 123 = .ok (.getfield 129, 3) := by decide +kernel
theorem dX12_weeks_126 : decode cX12_weeks 126 = .ok (.bipush 12, 2) := by decide +kernel
theorem dX12_weeks_128 : decode cX12_weeks 128 = .ok (.if_icmp .ge 57, 3) := by decide +kernel
theorem dX12_weeks_131 : decode cX12_weeks 131 = .ok (.iload 9, 2) := by decide +kernel
theorem dX12_weeks_133 : decode cX12_weeks 133 = .ok (.iload 7, 2) := by decide +kernel
theorem dX12_weeks_135 : decode cX12_weeks 135 = .ok (.if_icmp .eq 50, 3) := by decide +kernel
theorem dX12_weeks_138 : decode cX12_weeks 138 = .ok (.aload_n 0, 1) := by decide +kernel
theorem dX12_weeks_139 : decode cX12_weeks 139 = .ok (.iload 7, 2) := by decide +kernel
theorem dX12_weeks_141 : decode cX12_weeks 141 = .ok (.iload 9, 2) := by decide +kernel
theorem dX12_weeks_143 : decode cX12_weeks 143 = .ok (.aload_n 0, 1) := by decide +kernel
theorem dX12_weeks_144 : decode cX12_weeks 144 = .ok (.getfield 28, 3) := by decide +kernel
theorem dX12_weeks_147 : decode cX12_weeks 147 = .ok (.bipush 6, 2) := by decide +kernel
theorem dX12_weeks_149 : decode cX12_weeks 149 = .ok (.iload 8, 2) := by decide +kernel
theorem dX12_weeks_151 : decode cX12_weeks 151 = .ok (.imul, 1) := by decide +kernel
theorem dX12_weeks_152 : decode cX12_weeks 152 = .ok (.iconst 2, 1) := by decide +kernel
theorem dX12_weeks_153 : decode cX12_weeks 153 = .ok (.iadd, 1) := by decide +kernel
theorem dX12_weeks_154 : decode cX12_weeks 154 = .ok (.iaload, 1) := by decide +kernel
theorem dX12_weeks_155 : decode cX12_weeks 155 = .ok (.iload 8, 2) := by decide +kernel
theorem dX12_weeks_157 : decode cX12_weeks 157 = .ok (.invokevirtual 201, 3) := by decide +kernel
theorem dX12_weeks_160 : decode cX12_weeks 160 = .ok (.ifCond .eq 25, 3) := by decide +kernel
theorem dX12_weeks_163 : decode cX12_weeks 163 = .ok (.aload_n 0, 1) := by decide +kernel
theorem dX12_weeks_164 : decode cX12_weeks 164 = .ok (.iload 7, 2) := by decide +kernel
theorem dX12_weeks_166 : decode cX12_weeks 166 = .ok (.iload 9, 2) := by decide +kernel
theorem dX12_weeks_168 : decode cX12_weeks 168 = .ok (.aload_n 0, 1) := by decide +kernel
theorem dX12_weeks_169 : decode cX12_weeks 169 = .ok (.getfield 28, 3) := by decide +kernel
theorem dX12_weeks_172 : decode cX12_weeks 172 = .ok (.bipush 6, 2) := by decide +kernel
theorem dX12_weeks_174 : decode cX12_weeks 174 = .ok (.iload 8, 2) := by decide +kernel
theorem dX12_weeks_176 : decode cX12_weeks 176 = .ok (.imul, 1) := by decide +kernel
theorem dX12_weeks_177 : decode cX12_weeks 177 = .ok (.iconst 2, 1) := by decide +kernel
theorem dX12_weeks_178 : decode cX12_weeks 178 = .ok (.iadd, 1) := by decide +kernel
theorem dX12_weeks_179 : decode cX12_weeks 179 = .ok (.iaload, 1) := by decide +kernel
theorem dX12_weeks_180 : decode cX12_weeks 180 = .ok (.iload 8, 2) := by decide +kernel
theorem dX12_weeks_182 : decode cX12_weeks 182 = .ok (.invokevirtual 205, 3) := by decide +kernel
theorem dX12_weeks_185 : decode cX12_weeks 185 = .ok (.iinc 7 1, 3) := by decide +kernel
theorem dX12_weeks_188 : decode cX12_weeks 188 = .ok (.goto (-107), 3) := by decide +kernel
theorem dX12_weeks_191 : decode cX12_weeks 191 = .ok (.aload_n 0, 1) := by decide +kernel
theorem dX12_weeks_192 : decode cX12_weeks 192 = .ok (.dup, 1) := by decide +kernel
theorem dX12_weeks_193 : decode cX12_weeks 193 = .ok (.getfield 123, 3) := by decide +kernel
theorem dX12_weeks_196 : decode cX12_weeks 196 = .ok (.iconst 1, 1) := by decide +kernel
theorem dX12_weeks_197 : decode cX12_weeks 197 = .ok (.iadd, 1) := by decide +kernel
theorem dX12_weeks_198 : decode cX12_weeks 198 = .ok (.putfield 123, 3) := by decide +kernel
theorem dX12_weeks_201 : decode cX12_weeks 201 = .ok (.iinc 6 1, 3) := by decide +kernel
theorem dX12_weeks_204 : decode cX12_weeks 204 = .ok (.goto (-132), 3) := by decide +kernel
theorem dX12_weeks_207 : decode cX12_weeks 207 = .ok (.iload_n 3, 1) := by decide +kernel
theorem dX12_weeks_208 : decode cX12_weeks 208 = .ok (.ifCond .ne 10, 3) := by decide +kernel
theorem dX12_weeks_211 : decode cX12_weeks 211 = .ok (.aload_n 0, 1) := by decide +kernel
theorem dX12_weeks_212 : decode cX12_weeks 212 = .ok (.getfield 129, 3) := by decide +kernel
theorem dX12_weeks_215 : decode cX12_weeks 215 = .ok (.goto 31, 3) := by decide +kernel
theorem dX12_weeks_218 : decode cX12_weeks 218 = .ok (.iload_n 3, 1) := by decide +kernel
theorem dX12_weeks_219 : decode cX12_weeks 219 = .ok (.iconst 1, 1) := by decide +kernel
theorem dX12_weeks_220 : decode cX12_weeks 220 = .ok (.if_icmp .ne 10, 3) := by decide +kernel
theorem dX12_weeks_223 : decode cX12_weeks 223 = .ok (.aload_n 0, 1) := by decide +kernel
theorem dX12_weeks_224 : decode cX12_weeks 224 = .ok (.invokevirtual 271, 3) := by decide +kernel
theorem dX12_weeks_227 : decode cX12_weeks 227 = .ok (.goto 19, 3) := by decide +kernel
theorem dX12_weeks_230 : decode cX12_weeks 230 = .ok (.iload_n 3, 1) := by decide +kernel
theorem dX12_weeks_231 : decode cX12_weeks 231 = .ok (.iconst 2, 1) := by decide +kernel
theorem dX12_weeks_232 : decode cX12_weeks 232 = .ok (.if_icmp .ne 10, 3) := by decide +kernel
theorem dX12_weeks_235 : decode cX12_weeks 235 = .ok (.aload_n 0, 1) := by decide +kernel
theorem dX12_weeks_236 : decode cX12_weeks 236 = .ok (.invokevirtual 274, 3) := by decide +kernel
theorem dX12_weeks_239 : decode cX12_weeks 239 = .ok (.goto 7, 3) := by decide +kernel
theorem dX12_weeks_242 : decode cX12_weeks 242 = .ok (.aload_n 0, 1) := by decide +kernel
theorem dX12_weeks_243 : decode cX12_weeks 243 = .ok (.getfield 249, 3) := by decide +kernel
theorem dX12_weeks_246 : decode cX12_weeks 246 = .ok (.istore 6, 2) := by decide +kernel
theorem dX12_weeks_248 : decode cX12_weeks 248 = .ok (.aload_n 0, 1) := by decide +kernel
theorem dX12_weeks_249 : decode cX12_weeks 249 = .ok (.getfield 52, 3) := by decide +kernel
theorem dX12_weeks_252 : decode cX12_weeks 252 = .ok (.aload_n 0, 1) := by decide +kernel
theorem dX12_weeks_253 : decode cX12_weeks 253 = .ok (.getfield 28, 3) := by decide +kernel
theorem dX12_weeks_256 : decode cX12_weeks 256 = .ok (.invokestatic 261, 3) := by decide +kernel
theorem dX12_weeks_259 : decode cX12_weeks 259 = .ok (.aload_n 0, 1) := by decide +kernel
theorem dX12_weeks_260 : decode cX12_weeks 260 = .ok (.iload 4, 2) := by decide +kernel
theorem dX12_weeks_262 : decode cX12_weeks 262 = .ok (.putfield 129, 3) := by decide +kernel
theorem dX12_weeks_265 : decode cX12_weeks 265 = .ok (.aload_n 0, 1) := by decide +kernel
theorem dX12_weeks_266 : decode cX12_weeks 266 = .ok (.iload 5, 2) := by decide +kernel
theorem dX12_weeks_268 : decode cX12_weeks 268 = .ok (.putfield 123, 3) := by decide +kernel
theorem dX12_weeks_271 : decode cX12_weeks 271 = .ok (.iload 6, 2) := by decide +kernel
theorem dX12_weeks_273 : decode cX12_weeks 273 = .ok (.ireturn, 1) := by decide +kernel
theorem dL_law_0 : decode code 0 = .ok (.new 7, 3) := by decide +kernel
theorem dL_law_3 : decode code 3 = .ok (.dup, 1) := by decide +kernel
theorem dL_law_4 : decode code 4 = .ok (.invokespecial 9, 3) := by decide +kernel
theorem dL_law_7 : decode code 7 = .ok (.astore_n 1, 1) := by decide +kernel
theorem dL_law_8 : decode code 8 = .ok (.new 10, 3) := by decide +kernel
theorem dL_law_11 : decode code 11 = .ok (.dup, 1) := by decide +kernel
theorem dL_law_12 : decode code 12 = .ok (.invokespecial 12, 3) := by decide +kernel
theorem dL_law_15 : decode code 15 = .ok (.astore_n 2, 1) := by decide +kernel
theorem dL_law_16 : decode code 16 = .ok (.iconst 0, 1) := by decide +kernel
theorem dL_law_17 : decode code 17 = .ok (.istore_n 3, 1) := by decide +kernel
theorem dL_law_18 : decode code 18 = .ok (.iload_n 3, 1) := by decide +kernel
theorem dL_law_19 : decode code 19 = .ok (.aload_n 0, 1) := by decide +kernel
theorem dL_law_20 : decode code 20 = .ok (.arraylength, 1) := by decide +kernel
theorem dL_law_21 : decode code 21 = .ok (.iconst 5, 1) := by decide +kernel
theorem dL_law_22 : decode code 22 = .ok (.isub, 1) := by decide +kernel
theorem dL_law_23 : decode code 23 = .ok (.if_icmp .gt 814, 3) := by decide +kernel
theorem dL_law_26 : decode code 26 = .ok (.aload_n 0, 1) := by decide +kernel
theorem dL_law_27 : decode code 27 = .ok (.iload_n 3, 1) := by decide +kernel
theorem dL_law_28 : decode code 28 = .ok (.iaload, 1) := by decide +kernel
theorem dL_law_29 : decode code 29 = .ok (.bipush 31, 2) := by decide +kernel
theorem dL_law_31 : decode code 31 = .ok (.iand, 1) := by decide +kernel
theorem dL_law_32 : decode code 32 = .ok (.tableswitch 799 0 25 #[120, 143, 156, 169, 182, 215, 238, 271, 304, 357, 410, 443, 456, 499, 522, 555, 588, 621, 644, 657, 670, 693, 736, 749, 762, 785], 120) := by decide +kernel
theorem dL_law_152 : decode code 152 = .ok (.aload_n 1, 1) := by decide +kernel
theorem dL_law_153 : decode code 153 = .ok (.aload_n 0, 1) := by decide +kernel
theorem dL_law_154 : decode code 154 = .ok (.iload_n 3, 1) := by decide +kernel
theorem dL_law_155 : decode code 155 = .ok (.iconst 1, 1) := by decide +kernel
theorem dL_law_156 : decode code 156 = .ok (.iadd, 1) := by decide +kernel
theorem dL_law_157 : decode code 157 = .ok (.iaload, 1) := by decide +kernel
theorem dL_law_158 : decode code 158 = .ok (.invokevirtual 13, 3) := by decide +kernel
theorem dL_law_161 : decode code 161 = .ok (.aload_n 2, 1) := by decide +kernel
theorem dL_law_162 : decode code 162 = .ok (.aload_n 0, 1) := by decide +kernel
theorem dL_law_163 : decode code 163 = .ok (.iload_n 3, 1) := by decide +kernel
theorem dL_law_164 : decode code 164 = .ok (.iconst 1, 1) := by decide +kernel
theorem dL_law_165 : decode code 165 = .ok (.iadd, 1) := by decide +kernel
theorem dL_law_166 : decode code 166 = .ok (.iaload, 1) := by decide +kernel
theorem dL_law_167 : decode code 167 = .ok (.invokevirtual 17, 3) := by decide +kernel
theorem dL_law_170 : decode code 170 = .ok (.if_icmp .eq 661, 3) := by decide +kernel
theorem dL_law_173 : decode code 173 = .ok (.iconst 0, 1) := by decide +kernel
theorem dL_law_174 : decode code 174 = .ok (.ireturn, 1) := by decide +kernel
theorem dL_law_175 : decode code 175 = .ok (.aload_n 1, 1) := by decide +kernel
theorem dL_law_176 : decode code 176 = .ok (.invokevirtual 18, 3) := by decide +kernel
theorem dL_law_179 : decode code 179 = .ok (.aload_n 2, 1) := by decide +kernel
theorem dL_law_180 : decode code 180 = .ok (.invokevirtual 22, 3) := by decide +kernel
theorem dL_law_183 : decode code 183 = .ok (.if_icmp .eq 648, 3) := by decide +kernel
theorem dL_law_186 : decode code 186 = .ok (.iconst 0, 1) := by decide +kernel
theorem dL_law_187 : decode code 187 = .ok (.ireturn, 1) := by decide +kernel
theorem dL_law_188 : decode code 188 = .ok (.aload_n 1, 1) := by decide +kernel
theorem dL_law_189 : decode code 189 = .ok (.invokevirtual 23, 3) := by decide +kernel
theorem dL_law_192 : decode code 192 = .ok (.aload_n 2, 1) := by decide +kernel
theorem dL_law_193 : decode code 193 = .ok (.invokevirtual 26, 3) := by decide +kernel
theorem dL_law_196 : decode code 196 = .ok (.if_icmp .eq 635, 3) := by decide +kernel
theorem dL_law_199 : decode code 199 = .ok (.iconst 0, 1) := by decide +kernel
theorem dL_law_200 : decode code 200 = .ok (.ireturn, 1) := by decide +kernel
theorem dL_law_201 : decode code 201 = .ok (.aload_n 1, 1) := by decide +kernel
theorem dL_law_202 : decode code 202 = .ok (.invokevirtual 27, 3) := by decide +kernel
theorem dL_law_205 : decode code 205 = .ok (.aload_n 2, 1) := by decide +kernel
theorem dL_law_206 : decode code 206 = .ok (.invokevirtual 30, 3) := by decide +kernel
theorem dL_law_209 : decode code 209 = .ok (.if_icmp .eq 622, 3) := by decide +kernel
theorem dL_law_212 : decode code 212 = .ok (.iconst 0, 1) := by decide +kernel
theorem dL_law_213 : decode code 213 = .ok (.ireturn, 1) := by decide +kernel
theorem dL_law_214 : decode code 214 = .ok (.aload_n 1, 1) := by decide +kernel
theorem dL_law_215 : decode code 215 = .ok (.aload_n 0, 1) := by decide +kernel
theorem dL_law_216 : decode code 216 = .ok (.iload_n 3, 1) := by decide +kernel
theorem dL_law_217 : decode code 217 = .ok (.iconst 1, 1) := by decide +kernel
theorem dL_law_218 : decode code 218 = .ok (.iadd, 1) := by decide +kernel
theorem dL_law_219 : decode code 219 = .ok (.iaload, 1) := by decide +kernel
theorem dL_law_220 : decode code 220 = .ok (.aload_n 0, 1) := by decide +kernel
theorem dL_law_221 : decode code 221 = .ok (.iload_n 3, 1) := by decide +kernel
theorem dL_law_222 : decode code 222 = .ok (.iconst 2, 1) := by decide +kernel
theorem dL_law_223 : decode code 223 = .ok (.iadd, 1) := by decide +kernel
theorem dL_law_224 : decode code 224 = .ok (.iaload, 1) := by decide +kernel
theorem dL_law_225 : decode code 225 = .ok (.invokevirtual 31, 3) := by decide +kernel
theorem dL_law_228 : decode code 228 = .ok (.aload_n 2, 1) := by decide +kernel
theorem dL_law_229 : decode code 229 = .ok (.aload_n 0, 1) := by decide +kernel
theorem dL_law_230 : decode code 230 = .ok (.iload_n 3, 1) := by decide +kernel
theorem dL_law_231 : decode code 231 = .ok (.iconst 1, 1) := by decide +kernel
theorem dL_law_232 : decode code 232 = .ok (.iadd, 1) := by decide +kernel
theorem dL_law_233 : decode code 233 = .ok (.iaload, 1) := by decide +kernel
theorem dL_law_234 : decode code 234 = .ok (.aload_n 0, 1) := by decide +kernel
theorem dL_law_235 : decode code 235 = .ok (.iload_n 3, 1) := by decide +kernel
theorem dL_law_236 : decode code 236 = .ok (.iconst 2, 1) := by decide +kernel
theorem dL_law_237 : decode code 237 = .ok (.iadd, 1) := by decide +kernel
theorem dL_law_238 : decode code 238 = .ok (.iaload, 1) := by decide +kernel
theorem dL_law_239 : decode code 239 = .ok (.invokevirtual 35, 3) := by decide +kernel
theorem dL_law_242 : decode code 242 = .ok (.if_icmp .eq 589, 3) := by decide +kernel
theorem dL_law_245 : decode code 245 = .ok (.iconst 0, 1) := by decide +kernel
theorem dL_law_246 : decode code 246 = .ok (.ireturn, 1) := by decide +kernel
theorem dL_law_247 : decode code 247 = .ok (.aload_n 1, 1) := by decide +kernel
theorem dL_law_248 : decode code 248 = .ok (.aload_n 0, 1) := by decide +kernel
theorem dL_law_249 : decode code 249 = .ok (.iload_n 3, 1) := by decide +kernel
theorem dL_law_250 : decode code 250 = .ok (.iconst 1, 1) := by decide +kernel
theorem dL_law_251 : decode code 251 = .ok (.iadd, 1) := by decide +kernel
theorem dL_law_252 : decode code 252 = .ok (.iaload, 1) := by decide +kernel
theorem dL_law_253 : decode code 253 = .ok (.invokevirtual 36, 3) := by decide +kernel
theorem dL_law_256 : decode code 256 = .ok (.aload_n 2, 1) := by decide +kernel
theorem dL_law_257 : decode code 257 = .ok (.aload_n 0, 1) := by decide +kernel
theorem dL_law_258 : decode code 258 = .ok (.iload_n 3, 1) := by decide +kernel
theorem dL_law_259 : decode code 259 = .ok (.iconst 1, 1) := by decide +kernel
theorem dL_law_260 : decode code 260 = .ok (.iadd, 1) := by decide +kernel
theorem dL_law_261 : decode code 261 = .ok (.iaload, 1) := by decide +kernel
theorem dL_law_262 : decode code 262 = .ok (.invokevirtual 39, 3) := by decide +kernel
theorem dL_law_265 : decode code 265 = .ok (.if_icmp .eq 566, 3) := by decide +kernel
theorem dL_law_268 : decode code 268 = .ok (.iconst 0, 1) := by decide +kernel
theorem dL_law_269 : decode code 269 = .ok (.ireturn, 1) := by decide +kernel
theorem dL_law_270 : decode code 270 = .ok (.aload_n 1, 1) := by decide +kernel
theorem dL_law_271 : decode code 271 = .ok (.aload_n 0, 1) := by decide +kernel
theorem dL_law_272 : decode code 272 = .ok (.iload_n 3, 1) := by decide +kernel
theorem dL_law_273 : decode code 273 = .ok (.iconst 1, 1) := by decide +kernel
theorem dL_law_274 : decode code 274 = .ok (.iadd, 1) := by decide +kernel
theorem dL_law_275 : decode code 275 = .ok (.iaload, 1) := by decide +kernel
theorem dL_law_276 : decode code 276 = .ok (.aload_n 0, 1) := by decide +kernel
theorem dL_law_277 : decode code 277 = .ok (.iload_n 3, 1) := by decide +kernel
theorem dL_law_278 : decode code 278 = .ok (.iconst 2, 1) := by decide +kernel
theorem dL_law_279 : decode code 279 = .ok (.iadd, 1) := by decide +kernel
theorem dL_law_280 : decode code 280 = .ok (.iaload, 1) := by decide +kernel
theorem dL_law_281 : decode code 281 = .ok (.invokevirtual 40, 3) := by decide +kernel
theorem dL_law_284 : decode code 284 = .ok (.aload_n 2, 1) := by decide +kernel
theorem dL_law_285 : decode code 285 = .ok (.aload_n 0, 1) := by decide +kernel
theorem dL_law_286 : decode code 286 = .ok (.iload_n 3, 1) := by decide +kernel
theorem dL_law_287 : decode code 287 = .ok (.iconst 1, 1) := by decide +kernel
theorem dL_law_288 : decode code 288 = .ok (.iadd, 1) := by decide +kernel
theorem dL_law_289 : decode code 289 = .ok (.iaload, 1) := by decide +kernel
theorem dL_law_290 : decode code 290 = .ok (.aload_n 0, 1) := by decide +kernel
theorem dL_law_291 : decode code 291 = .ok (.iload_n 3, 1) := by decide +kernel
theorem dL_law_292 : decode code 292 = .ok (.iconst 2, 1) := by decide +kernel
theorem dL_law_293 : decode code 293 = .ok (.iadd, 1) := by decide +kernel
theorem dL_law_294 : decode code 294 = .ok (.iaload, 1) := by decide +kernel
theorem dL_law_295 : decode code 295 = .ok (.invokevirtual 43, 3) := by decide +kernel
theorem dL_law_298 : decode code 298 = .ok (.if_icmp .eq 533, 3) := by decide +kernel
theorem dL_law_301 : decode code 301 = .ok (.iconst 0, 1) := by decide +kernel
theorem dL_law_302 : decode code 302 = .ok (.ireturn, 1) := by decide +kernel
theorem dL_law_303 : decode code 303 = .ok (.aload_n 1, 1) := by decide +kernel
theorem dL_law_304 : decode code 304 = .ok (.aload_n 0, 1) := by decide +kernel
theorem dL_law_305 : decode code 305 = .ok (.iload_n 3, 1) := by decide +kernel
theorem dL_law_306 : decode code 306 = .ok (.iconst 1, 1) := by decide +kernel
theorem dL_law_307 : decode code 307 = .ok (.iadd, 1) := by decide +kernel
theorem dL_law_308 : decode code 308 = .ok (.iaload, 1) := by decide +kernel
theorem dL_law_309 : decode code 309 = .ok (.aload_n 0, 1) := by decide +kernel
theorem dL_law_310 : decode code 310 = .ok (.iload_n 3, 1) := by decide +kernel
theorem dL_law_311 : decode code 311 = .ok (.iconst 2, 1) := by decide +kernel
theorem dL_law_312 : decode code 312 = .ok (.iadd, 1) := by decide +kernel
theorem dL_law_313 : decode code 313 = .ok (.iaload, 1) := by decide +kernel
theorem dL_law_314 : decode code 314 = .ok (.invokevirtual 44, 3) := by decide +kernel
theorem dL_law_317 : decode code 317 = .ok (.aload_n 2, 1) := by decide +kernel
theorem dL_law_318 : decode code 318 = .ok (.aload_n 0, 1) := by decide +kernel
theorem dL_law_319 : decode code 319 = .ok (.iload_n 3, 1) := by decide +kernel
theorem dL_law_320 : decode code 320 = .ok (.iconst 1, 1) := by decide +kernel
theorem dL_law_321 : decode code 321 = .ok (.iadd, 1) := by decide +kernel
theorem dL_law_322 : decode code 322 = .ok (.iaload, 1) := by decide +kernel
theorem dL_law_323 : decode code 323 = .ok (.aload_n 0, 1) := by decide +kernel
theorem dL_law_324 : decode code 324 = .ok (.iload_n 3, 1) := by decide +kernel
theorem dL_law_325 : decode code 325 = .ok (.iconst 2, 1) := by decide +kernel
theorem dL_law_326 : decode code 326 = .ok (.iadd, 1) := by decide +kernel
theorem dL_law_327 : decode code 327 = .ok (.iaload, 1) := by decide +kernel
theorem dL_law_328 : decode code 328 = .ok (.invokevirtual 47, 3) := by decide +kernel
theorem dL_law_331 : decode code 331 = .ok (.if_icmp .eq 500, 3) := by decide +kernel
theorem dL_law_334 : decode code 334 = .ok (.iconst 0, 1) := by decide +kernel
theorem dL_law_335 : decode code 335 = .ok (.ireturn, 1) := by decide +kernel
theorem dL_law_336 : decode code 336 = .ok (.aload_n 1, 1) := by decide +kernel
theorem dL_law_337 : decode code 337 = .ok (.aload_n 0, 1) := by decide +kernel
theorem dL_law_338 : decode code 338 = .ok (.iload_n 3, 1) := by decide +kernel
theorem dL_law_339 : decode code 339 = .ok (.iconst 1, 1) := by decide +kernel
theorem dL_law_340 : decode code 340 = .ok (.iadd, 1) := by decide +kernel
theorem dL_law_341 : decode code 341 = .ok (.iaload, 1) := by decide +kernel
theorem dL_law_342 : decode code 342 = .ok (.aload_n 0, 1) := by decide +kernel
theorem dL_law_343 : decode code 343 = .ok (.iload_n 3, 1) := by decide +kernel
theorem dL_law_344 : decode code 344 = .ok (.iconst 2, 1) := by decide +kernel
theorem dL_law_345 : decode code 345 = .ok (.iadd, 1) := by decide +kernel
theorem dL_law_346 : decode code 346 = .ok (.iaload, 1) := by decide +kernel
theorem dL_law_347 : decode code 347 = .ok (.aload_n 0, 1) := by decide +kernel
theorem dL_law_348 : decode code 348 = .ok (.iload_n 3, 1) := by decide +kernel
theorem dL_law_349 : decode code 349 = .ok (.iconst 3, 1) := by decide +kernel
theorem dL_law_350 : decode code 350 = .ok (.iadd, 1) := by decide +kernel
theorem dL_law_351 : decode code 351 = .ok (.iaload, 1) := by decide +kernel
theorem dL_law_352 : decode code 352 = .ok (.aload_n 0, 1) := by decide +kernel
theorem dL_law_353 : decode code 353 = .ok (.iload_n 3, 1) := by decide +kernel
theorem dL_law_354 : decode code 354 = .ok (.iconst 4, 1) := by decide +kernel
theorem dL_law_355 : decode code 355 = .ok (.iadd, 1) := by decide +kernel
theorem dL_law_356 : decode code 356 = .ok (.iaload, 1) := by decide +kernel
theorem dL_law_357 : decode code 357 = .ok (.invokevirtual 48, 3) := by decide +kernel
theorem dL_law_360 : decode code 360 = .ok (.aload_n 2, 1) := by decide +kernel
theorem dL_law_361 : decode code 361 = .ok (.aload_n 0, 1) := by decide +kernel
theorem dL_law_362 : decode code 362 = .ok (.iload_n 3, 1) := by decide +kernel
theorem dL_law_363 : decode code 363 = .ok (.iconst 1, 1) := by decide +kernel
theorem dL_law_364 : decode code 364 = .ok (.iadd, 1) := by decide +kernel
theorem dL_law_365 : decode code 365 = .ok (.iaload, 1) := by decide +kernel
theorem dL_law_366 : decode code 366 = .ok (.aload_n 0, 1) := by decide +kernel
theorem dL_law_367 : decode code 367 = .ok (.iload_n 3, 1) := by decide +kernel
theorem dL_law_368 : decode code 368 = .ok (.iconst 2, 1) := by decide +kernel
theorem dL_law_369 : decode code 369 = .ok (.iadd, 1) := by decide +kernel
theorem dL_law_370 : decode code 370 = .ok (.iaload, 1) := by decide +kernel
theorem dL_law_371 : decode code 371 = .ok (.aload_n 0, 1) := by decide +kernel
theorem dL_law_372 : decode code 372 = .ok (.iload_n 3, 1) := by decide +kernel
theorem dL_law_373 : decode code 373 = .ok (.iconst 3, 1) := by decide +kernel
theorem dL_law_374 : decode code 374 = .ok (.iadd, 1) := by decide +kernel
theorem dL_law_375 : decode code 375 = .ok (.iaload, 1) := by decide +kernel
theorem dL_law_376 : decode code 376 = .ok (.aload_n 0, 1) := by decide +kernel
theorem dL_law_377 : decode code 377 = .ok (.iload_n 3, 1) := by decide +kernel
theorem dL_law_378 : decode code 378 = .ok (.iconst 4, 1) := by decide +kernel
theorem dL_law_379 : decode code 379 = .ok (.iadd, 1) := by decide +kernel
theorem dL_law_380 : decode code 380 = .ok (.iaload, 1) := by decide +kernel
theorem dL_law_381 : decode code 381 = .ok (.invokevirtual 52, 3) := by decide +kernel
theorem dL_law_384 : decode code 384 = .ok (.if_icmp .eq 447, 3) := by decide +kernel
theorem dL_law_387 : decode code 387 = .ok (.iconst 0, 1) := by decide +kernel
theorem dL_law_388 : decode code 388 = .ok (.ireturn, 1) := by decide +kernel
theorem dL_law_389 : decode code 389 = .ok (.aload_n 1, 1) := by decide +kernel
theorem dL_law_390 : decode code 390 = .ok (.aload_n 0, 1) := by decide +kernel
theorem dL_law_391 : decode code 391 = .ok (.iload_n 3, 1) := by decide +kernel
theorem dL_law_392 : decode code 392 = .ok (.iconst 1, 1) := by decide +kernel
theorem dL_law_393 : decode code 393 = .ok (.iadd, 1) := by decide +kernel
theorem dL_law_394 : decode code 394 = .ok (.iaload, 1) := by decide +kernel
theorem dL_law_395 : decode code 395 = .ok (.aload_n 0, 1) := by decide +kernel
theorem dL_law_396 : decode code 396 = .ok (.iload_n 3, 1) := by decide +kernel
theorem dL_law_397 : decode code 397 = .ok (.iconst 2, 1) := by decide +kernel
theorem dL_law_398 : decode code 398 = .ok (.iadd, 1) := by decide +kernel
theorem dL_law_399 : decode code 399 = .ok (.iaload, 1) := by decide +kernel
theorem dL_law_400 : decode code 400 = .ok (.aload_n 0, 1) := by decide +kernel
theorem dL_law_401 : decode code 401 = .ok (.iload_n 3, 1) := by decide +kernel
theorem dL_law_402 : decode code 402 = .ok (.iconst 3, 1) := by decide +kernel
theorem dL_law_403 : decode code 403 = .ok (.iadd, 1) := by decide +kernel
theorem dL_law_404 : decode code 404 = .ok (.iaload, 1) := by decide +kernel
theorem dL_law_405 : decode code 405 = .ok (.aload_n 0, 1) := by decide +kernel
theorem dL_law_406 : decode code 406 = .ok (.iload_n 3, 1) := by decide +kernel
theorem dL_law_407 : decode code 407 = .ok (.iconst 4, 1) := by decide +kernel
theorem dL_law_408 : decode code 408 = .ok (.iadd, 1) := by decide +kernel
theorem dL_law_409 : decode code 409 = .ok (.iaload, 1) := by decide +kernel
theorem dL_law_410 : decode code 410 = .ok (.invokevirtual 53, 3) := by decide +kernel
theorem dL_law_413 : decode code 413 = .ok (.aload_n 2, 1) := by decide +kernel
theorem dL_law_414 : decode code 414 = .ok (.aload_n 0, 1) := by decide +kernel
theorem dL_law_415 : decode code 415 = .ok (.iload_n 3, 1) := by decide +kernel
theorem dL_law_416 : decode code 416 = .ok (.iconst 1, 1) := by decide +kernel
theorem dL_law_417 : decode code 417 = .ok (.iadd, 1) := by decide +kernel
theorem dL_law_418 : decode code 418 = .ok (.iaload, 1) := by decide +kernel
theorem dL_law_419 : decode code 419 = .ok (.aload_n 0, 1) := by decide +kernel
theorem dL_law_420 : decode code 420 = .ok (.iload_n 3, 1) := by decide +kernel
theorem dL_law_421 : decode code 421 = .ok (.iconst 2, 1) := by decide +kernel
theorem dL_law_422 : decode code 422 = .ok (.iadd, 1) := by decide +kernel
theorem dL_law_423 : decode code 423 = .ok (.iaload, 1) := by decide +kernel
theorem dL_law_424 : decode code 424 = .ok (.aload_n 0, 1) := by decide +kernel
theorem dL_law_425 : decode code 425 = .ok (.iload_n 3, 1) := by decide +kernel
theorem dL_law_426 : decode code 426 = .ok (.iconst 3, 1) := by decide +kernel
theorem dL_law_427 : decode code 427 = .ok (.iadd, 1) := by decide +kernel
theorem dL_law_428 : decode code 428 = .ok (.iaload, 1) := by decide +kernel
theorem dL_law_429 : decode code 429 = .ok (.aload_n 0, 1) := by decide +kernel
theorem dL_law_430 : decode code 430 = .ok (.iload_n 3, 1) := by decide +kernel
theorem dL_law_431 : decode code 431 = .ok (.iconst 4, 1) := by decide +kernel
theorem dL_law_432 : decode code 432 = .ok (.iadd, 1) := by decide +kernel
theorem dL_law_433 : decode code 433 = .ok (.iaload, 1) := by decide +kernel
theorem dL_law_434 : decode code 434 = .ok (.invokevirtual 56, 3) := by decide +kernel
theorem dL_law_437 : decode code 437 = .ok (.if_icmp .eq 394, 3) := by decide +kernel
theorem dL_law_440 : decode code 440 = .ok (.iconst 0, 1) := by decide +kernel
theorem dL_law_441 : decode code 441 = .ok (.ireturn, 1) := by decide +kernel
theorem dL_law_442 : decode code 442 = .ok (.aload_n 1, 1) := by decide +kernel
theorem dL_law_443 : decode code 443 = .ok (.aload_n 0, 1) := by decide +kernel
theorem dL_law_444 : decode code 444 = .ok (.iload_n 3, 1) := by decide +kernel
theorem dL_law_445 : decode code 445 = .ok (.iconst 1, 1) := by decide +kernel
theorem dL_law_446 : decode code 446 = .ok (.iadd, 1) := by decide +kernel
theorem dL_law_447 : decode code 447 = .ok (.iaload, 1) := by decide +kernel
theorem dL_law_448 : decode code 448 = .ok (.aload_n 0, 1) := by decide +kernel
theorem dL_law_449 : decode code 449 = .ok (.iload_n 3, 1) := by decide +kernel
theorem dL_law_450 : decode code 450 = .ok (.iconst 2, 1) := by decide +kernel
theorem dL_law_451 : decode code 451 = .ok (.iadd, 1) := by decide +kernel
theorem dL_law_452 : decode code 452 = .ok (.iaload, 1) := by decide +kernel
theorem dL_law_453 : decode code 453 = .ok (.invokevirtual 57, 3) := by decide +kernel
theorem dL_law_456 : decode code 456 = .ok (.aload_n 2, 1) := by decide +kernel
theorem dL_law_457 : decode code 457 = .ok (.aload_n 0, 1) := by decide +kernel
theorem dL_law_458 : decode code 458 = .ok (.iload_n 3, 1) := by decide +kernel
theorem dL_law_459 : decode code 459 = .ok (.iconst 1, 1) := by decide +kernel
theorem dL_law_460 : decode code 460 = .ok (.iadd, 1) := by decide +kernel
theorem dL_law_461 : decode code 461 = .ok (.iaload, 1) := by decide +kernel
theorem dL_law_462 : decode code 462 = .ok (.aload_n 0, 1) := by decide +kernel
theorem dL_law_463 : decode code 463 = .ok (.iload_n 3, 1) := by decide +kernel
theorem dL_law_464 : decode code 464 = .ok (.iconst 2, 1) := by decide +kernel
theorem dL_law_465 : decode code 465 = .ok (.iadd, 1) := by decide +kernel
theorem dL_law_466 : decode code 466 = .ok (.iaload, 1) := by decide +kernel
theorem dL_law_467 : decode code 467 = .ok (.invokevirtual 60, 3) := by decide +kernel
theorem dL_law_470 : decode code 470 = .ok (.if_icmp .eq 361, 3) := by decide +kernel
theorem dL_law_473 : decode code 473 = .ok (.iconst 0, 1) := by decide +kernel
theorem dL_law_474 : decode code 474 = .ok (.ireturn, 1) := by decide +kernel
theorem dL_law_475 : decode code 475 = .ok (.aload_n 1, 1) := by decide +kernel
theorem dL_law_476 : decode code 476 = .ok (.invokevirtual 61, 3) := by decide +kernel
theorem dL_law_479 : decode code 479 = .ok (.aload_n 2, 1) := by decide +kernel
theorem dL_law_480 : decode code 480 = .ok (.invokevirtual 64, 3) := by decide +kernel
theorem dL_law_483 : decode code 483 = .ok (.if_icmp .eq 348, 3) := by decide +kernel
theorem dL_law_486 : decode code 486 = .ok (.iconst 0, 1) := by decide +kernel
theorem dL_law_487 : decode code 487 = .ok (.ireturn, 1) := by decide +kernel
theorem dL_law_488 : decode code 488 = .ok (.aload_n 1, 1) := by decide +kernel
theorem dL_law_489 : decode code 489 = .ok (.aload_n 0, 1) := by decide +kernel
theorem dL_law_490 : decode code 490 = .ok (.iload_n 3, 1) := by decide +kernel
theorem dL_law_491 : decode code 491 = .ok (.iconst 1, 1) := by decide +kernel
theorem dL_law_492 : decode code 492 = .ok (.iadd, 1) := by decide +kernel
theorem dL_law_493 : decode code 493 = .ok (.iaload, 1) := by decide +kernel
theorem dL_law_494 : decode code 494 = .ok (.aload_n 0, 1) := by decide +kernel
theorem dL_law_495 : decode code 495 = .ok (.iload_n 3, 1) := by decide +kernel
theorem dL_law_496 : decode code 496 = .ok (.iconst 2, 1) := by decide +kernel
theorem dL_law_497 : decode code 497 = .ok (.iadd, 1) := by decide +kernel
theorem dL_law_498 : decode code 498 = .ok (.iaload, 1) := by decide +kernel
theorem dL_law_499 : decode code 499 = .ok (.aload_n 0, 1) := by decide +kernel
theorem dL_law_500 : decode code 500 = .ok (.iload_n 3, 1) := by decide +kernel
theorem dL_law_501 : decode code 501 = .ok (.iconst 3, 1) := by decide +kernel
theorem dL_law_502 : decode code 502 = .ok (.iadd, 1) := by decide +kernel
theorem dL_law_503 : decode code 503 = .ok (.iaload, 1) := by decide +kernel
theorem dL_law_504 : decode code 504 = .ok (.invokevirtual 65, 3) := by decide +kernel
theorem dL_law_507 : decode code 507 = .ok (.aload_n 2, 1) := by decide +kernel
theorem dL_law_508 : decode code 508 = .ok (.aload_n 0, 1) := by decide +kernel
theorem dL_law_509 : decode code 509 = .ok (.iload_n 3, 1) := by decide +kernel
theorem dL_law_510 : decode code 510 = .ok (.iconst 1, 1) := by decide +kernel
theorem dL_law_511 : decode code 511 = .ok (.iadd, 1) := by decide +kernel
theorem dL_law_512 : decode code 512 = .ok (.iaload, 1) := by decide +kernel
theorem dL_law_513 : decode code 513 = .ok (.aload_n 0, 1) := by decide +kernel
theorem dL_law_514 : decode code 514 = .ok (.iload_n 3, 1) := by decide +kernel
theorem dL_law_515 : decode code 515 = .ok (.iconst 2, 1) := by decide +kernel
theorem dL_law_516 : decode code 516 = .ok (.iadd, 1) := by decide +kernel
theorem dL_law_517 : decode code 517 = .ok (.iaload, 1) := by decide +kernel
theorem dL_law_518 : decode code 518 = .ok (.aload_n 0, 1) := by decide +kernel
theorem dL_law_519 : decode code 519 = .ok (.iload_n 3, 1) := by decide +kernel
theorem dL_law_520 : decode code 520 = .ok (.iconst 3, 1) := by decide +kernel
theorem dL_law_521 : decode code 521 = .ok (.iadd, 1) := by decide +kernel
theorem dL_law_522 : decode code 522 = .ok (.iaload, 1) := by decide +kernel
theorem dL_law_523 : decode code 523 = .ok (.invokevirtual 69, 3) := by decide +kernel
theorem dL_law_526 : decode code 526 = .ok (.if_icmp .eq 305, 3) := by decide +kernel
theorem dL_law_529 : decode code 529 = .ok (.iconst 0, 1) := by decide +kernel
theorem dL_law_530 : decode code 530 = .ok (.ireturn, 1) := by decide +kernel
theorem dL_law_531 : decode code 531 = .ok (.aload_n 1, 1) := by decide +kernel
theorem dL_law_532 : decode code 532 = .ok (.aload_n 0, 1) := by decide +kernel
theorem dL_law_533 : decode code 533 = .ok (.iload_n 3, 1) := by decide +kernel
theorem dL_law_534 : decode code 534 = .ok (.iconst 1, 1) := by decide +kernel
theorem dL_law_535 : decode code 535 = .ok (.iadd, 1) := by decide +kernel
theorem dL_law_536 : decode code 536 = .ok (.iaload, 1) := by decide +kernel
theorem dL_law_537 : decode code 537 = .ok (.invokevirtual 70, 3) := by decide +kernel
theorem dL_law_540 : decode code 540 = .ok (.aload_n 2, 1) := by decide +kernel
theorem dL_law_541 : decode code 541 = .ok (.aload_n 0, 1) := by decide +kernel
theorem dL_law_542 : decode code 542 = .ok (.iload_n 3, 1) := by decide +kernel
theorem dL_law_543 : decode code 543 = .ok (.iconst 1, 1) := by decide +kernel
theorem dL_law_544 : decode code 544 = .ok (.iadd, 1) := by decide +kernel
theorem dL_law_545 : decode code 545 = .ok (.iaload, 1) := by decide +kernel
theorem dL_law_546 : decode code 546 = .ok (.invokevirtual 73, 3) := by decide +kernel
theorem dL_law_549 : decode code 549 = .ok (.if_icmp .eq 282, 3) := by decide +kernel
theorem dL_law_552 : decode code 552 = .ok (.iconst 0, 1) := by decide +kernel
theorem dL_law_553 : decode code 553 = .ok (.ireturn, 1) := by decide +kernel
theorem dL_law_554 : decode code 554 = .ok (.aload_n 1, 1) := by decide +kernel
theorem dL_law_555 : decode code 555 = .ok (.aload_n 0, 1) := by decide +kernel
theorem dL_law_556 : decode code 556 = .ok (.iload_n 3, 1) := by decide +kernel
theorem dL_law_557 : decode code 557 = .ok (.iconst 1, 1) := by decide +kernel
theorem dL_law_558 : decode code 558 = .ok (.iadd, 1) := by decide +kernel
theorem dL_law_559 : decode code 559 = .ok (.iaload, 1) := by decide +kernel
theorem dL_law_560 : decode code 560 = .ok (.aload_n 0, 1) := by decide +kernel
theorem dL_law_561 : decode code 561 = .ok (.iload_n 3, 1) := by decide +kernel
theorem dL_law_562 : decode code 562 = .ok (.iconst 2, 1) := by decide +kernel
theorem dL_law_563 : decode code 563 = .ok (.iadd, 1) := by decide +kernel
theorem dL_law_564 : decode code 564 = .ok (.iaload, 1) := by decide +kernel
theorem dL_law_565 : decode code 565 = .ok (.invokevirtual 74, 3) := by decide +kernel
theorem dL_law_568 : decode code 568 = .ok (.aload_n 2, 1) := by decide +kernel
theorem dL_law_569 : decode code 569 = .ok (.aload_n 0, 1) := by decide +kernel
theorem dL_law_570 : decode code 570 = .ok (.iload_n 3, 1) := by decide +kernel
theorem dL_law_571 : decode code 571 = .ok (.iconst 1, 1) := by decide +kernel
theorem dL_law_572 : decode code 572 = .ok (.iadd, 1) := by decide +kernel
theorem dL_law_573 : decode code 573 = .ok (.iaload, 1) := by decide +kernel
theorem dL_law_574 : decode code 574 = .ok (.aload_n 0, 1) := by decide +kernel
theorem dL_law_575 : decode code 575 = .ok (.iload_n 3, 1) := by decide +kernel
theorem dL_law_576 : decode code 576 = .ok (.iconst 2, 1) := by decide +kernel
theorem dL_law_577 : decode code 577 = .ok (.iadd, 1) := by decide +kernel
theorem dL_law_578 : decode code 578 = .ok (.iaload, 1) := by decide +kernel
theorem dL_law_579 : decode code 579 = .ok (.invokevirtual 77, 3) := by decide +kernel
theorem dL_law_582 : decode code 582 = .ok (.if_icmp .eq 249, 3) := by decide +kernel
theorem dL_law_585 : decode code 585 = .ok (.iconst 0, 1) := by decide +kernel
theorem dL_law_586 : decode code 586 = .ok (.ireturn, 1) := by decide +kernel
theorem dL_law_587 : decode code 587 = .ok (.aload_n 1, 1) := by decide +kernel
theorem dL_law_588 : decode code 588 = .ok (.aload_n 0, 1) := by decide +kernel
theorem dL_law_589 : decode code 589 = .ok (.iload_n 3, 1) := by decide +kernel
theorem dL_law_590 : decode code 590 = .ok (.iconst 1, 1) := by decide +kernel
theorem dL_law_591 : decode code 591 = .ok (.iadd, 1) := by decide +kernel
theorem dL_law_592 : decode code 592 = .ok (.iaload, 1) := by decide +kernel
theorem dL_law_593 : decode code 593 = .ok (.aload_n 0, 1) := by decide +kernel
theorem dL_law_594 : decode code 594 = .ok (.iload_n 3, 1) := by decide +kernel
theorem dL_law_595 : decode code 595 = .ok (.iconst 2, 1) := by decide +kernel
theorem dL_law_596 : decode code 596 = .ok (.iadd, 1) := by decide +kernel
theorem dL_law_597 : decode code 597 = .ok (.iaload, 1) := by decide +kernel
theorem dL_law_598 : decode code 598 = .ok (.invokevirtual 78, 3) := by decide +kernel
theorem dL_law_601 : decode code 601 = .ok (.aload_n 2, 1) := by decide +kernel
theorem dL_law_602 : decode code 602 = .ok (.aload_n 0, 1) := by decide +kernel
theorem dL_law_603 : decode code 603 = .ok (.iload_n 3, 1) := by decide +kernel
theorem dL_law_604 : decode code 604 = .ok (.iconst 1, 1) := by decide +kernel
theorem dL_law_605 : decode code 605 = .ok (.iadd, 1) := by decide +kernel
theorem dL_law_606 : decode code 606 = .ok (.iaload, 1) := by decide +kernel
theorem dL_law_607 : decode code 607 = .ok (.aload_n 0, 1) := by decide +kernel
theorem dL_law_608 : decode code 608 = .ok (.iload_n 3, 1) := by decide +kernel
theorem dL_law_609 : decode code 609 = .ok (.iconst 2, 1) := by decide +kernel
theorem dL_law_610 : decode code 610 = .ok (.iadd, 1) := by decide +kernel
theorem dL_law_611 : decode code 611 = .ok (.iaload, 1) := by decide +kernel
theorem dL_law_612 : decode code 612 = .ok (.invokevirtual 81, 3) := by decide +kernel
theorem dL_law_615 : decode code 615 = .ok (.if_icmp .eq 216, 3) := by decide +kernel
theorem dL_law_618 : decode code 618 = .ok (.iconst 0, 1) := by decide +kernel
theorem dL_law_619 : decode code 619 = .ok (.ireturn, 1) := by decide +kernel
theorem dL_law_620 : decode code 620 = .ok (.aload_n 1, 1) := by decide +kernel
theorem dL_law_621 : decode code 621 = .ok (.aload_n 0, 1) := by decide +kernel
theorem dL_law_622 : decode code 622 = .ok (.iload_n 3, 1) := by decide +kernel
theorem dL_law_623 : decode code 623 = .ok (.iconst 1, 1) := by decide +kernel
theorem dL_law_624 : decode code 624 = .ok (.iadd, 1) := by decide +kernel
theorem dL_law_625 : decode code 625 = .ok (.iaload, 1) := by decide +kernel
theorem dL_law_626 : decode code 626 = .ok (.aload_n 0, 1) := by decide +kernel
theorem dL_law_627 : decode code 627 = .ok (.iload_n 3, 1) := by decide +kernel
theorem dL_law_628 : decode code 628 = .ok (.iconst 2, 1) := by decide +kernel
theorem dL_law_629 : decode code 629 = .ok (.iadd, 1) := by decide +kernel
theorem dL_law_630 : decode code 630 = .ok (.iaload, 1) := by decide +kernel
theorem dL_law_631 : decode code 631 = .ok (.invokevirtual 82, 3) := by decide +kernel
theorem dL_law_634 : decode code 634 = .ok (.aload_n 2, 1) := by decide +kernel
theorem dL_law_635 : decode code 635 = .ok (.aload_n 0, 1) := by decide +kernel
theorem dL_law_636 : decode code 636 = .ok (.iload_n 3, 1) := by decide +kernel
theorem dL_law_637 : decode code 637 = .ok (.iconst 1, 1) := by decide +kernel
theorem dL_law_638 : decode code 638 = .ok (.iadd, 1) := by decide +kernel
theorem dL_law_639 : decode code 639 = .ok (.iaload, 1) := by decide +kernel
theorem dL_law_640 : decode code 640 = .ok (.aload_n 0, 1) := by decide +kernel
theorem dL_law_641 : decode code 641 = .ok (.iload_n 3, 1) := by decide +kernel
theorem dL_law_642 : decode code 642 = .ok (.iconst 2, 1) := by decide +kernel
theorem dL_law_643 : decode code 643 = .ok (.iadd, 1) := by decide +kernel
theorem dL_law_644 : decode code 644 = .ok (.iaload, 1) := by decide +kernel
theorem dL_law_645 : decode code 645 = .ok (.invokevirtual 85, 3) := by decide +kernel
theorem dL_law_648 : decode code 648 = .ok (.if_icmp .eq 183, 3) := by decide +kernel
theorem dL_law_651 : decode code 651 = .ok (.iconst 0, 1) := by decide +kernel
theorem dL_law_652 : decode code 652 = .ok (.ireturn, 1) := by decide +kernel
theorem dL_law_653 : decode code 653 = .ok (.aload_n 1, 1) := by decide +kernel
theorem dL_law_654 : decode code 654 = .ok (.aload_n 0, 1) := by decide +kernel
theorem dL_law_655 : decode code 655 = .ok (.iload_n 3, 1) := by decide +kernel
theorem dL_law_656 : decode code 656 = .ok (.iconst 1, 1) := by decide +kernel
theorem dL_law_657 : decode code 657 = .ok (.iadd, 1) := by decide +kernel
theorem dL_law_658 : decode code 658 = .ok (.iaload, 1) := by decide +kernel
theorem dL_law_659 : decode code 659 = .ok (.invokevirtual 86, 3) := by decide +kernel
theorem dL_law_662 : decode code 662 = .ok (.aload_n 2, 1) := by decide +kernel
theorem dL_law_663 : decode code 663 = .ok (.aload_n 0, 1) := by decide +kernel
theorem dL_law_664 : decode code 664 = .ok (.iload_n 3, 1) := by decide +kernel
theorem dL_law_665 : decode code 665 = .ok (.iconst 1, 1) := by decide +kernel
theorem dL_law_666 : decode code 666 = .ok (.iadd, 1) := by decide +kernel
theorem dL_law_667 : decode code 667 = .ok (.iaload, 1) := by decide +kernel
theorem dL_law_668 : decode code 668 = .ok (.invokevirtual 89, 3) := by decide +kernel
theorem dL_law_671 : decode code 671 = .ok (.if_icmp .eq 160, 3) := by decide +kernel
theorem dL_law_674 : decode code 674 = .ok (.iconst 0, 1) := by decide +kernel
theorem dL_law_675 : decode code 675 = .ok (.ireturn, 1) := by decide +kernel
theorem dL_law_676 : decode code 676 = .ok (.aload_n 1, 1) := by decide +kernel
theorem dL_law_677 : decode code 677 = .ok (.invokevirtual 90, 3) := by decide +kernel
theorem dL_law_680 : decode code 680 = .ok (.aload_n 2, 1) := by decide +kernel
theorem dL_law_681 : decode code 681 = .ok (.invokevirtual 93, 3) := by decide +kernel
theorem dL_law_684 : decode code 684 = .ok (.if_icmp .eq 147, 3) := by decide +kernel
theorem dL_law_687 : decode code 687 = .ok (.iconst 0, 1) := by decide +kernel
theorem dL_law_688 : decode code 688 = .ok (.ireturn, 1) := by decide +kernel
theorem dL_law_689 : decode code 689 = .ok (.aload_n 1, 1) := by decide +kernel
theorem dL_law_690 : decode code 690 = .ok (.invokevirtual 94, 3) := by decide +kernel
theorem dL_law_693 : decode code 693 = .ok (.aload_n 2, 1) := by decide +kernel
theorem dL_law_694 : decode code 694 = .ok (.invokevirtual 97, 3) := by decide +kernel
theorem dL_law_697 : decode code 697 = .ok (.if_icmp .eq 134, 3) := by decide +kernel
theorem dL_law_700 : decode code 700 = .ok (.iconst 0, 1) := by decide +kernel
theorem dL_law_701 : decode code 701 = .ok (.ireturn, 1) := by decide +kernel
theorem dL_law_702 : decode code 702 = .ok (.aload_n 1, 1) := by decide +kernel
theorem dL_law_703 : decode code 703 = .ok (.aload_n 0, 1) := by decide +kernel
theorem dL_law_704 : decode code 704 = .ok (.iload_n 3, 1) := by decide +kernel
theorem dL_law_705 : decode code 705 = .ok (.iconst 1, 1) := by decide +kernel
theorem dL_law_706 : decode code 706 = .ok (.iadd, 1) := by decide +kernel
theorem dL_law_707 : decode code 707 = .ok (.iaload, 1) := by decide +kernel
theorem dL_law_708 : decode code 708 = .ok (.invokevirtual 98, 3) := by decide +kernel
theorem dL_law_711 : decode code 711 = .ok (.aload_n 2, 1) := by decide +kernel
theorem dL_law_712 : decode code 712 = .ok (.aload_n 0, 1) := by decide +kernel
theorem dL_law_713 : decode code 713 = .ok (.iload_n 3, 1) := by decide +kernel
theorem dL_law_714 : decode code 714 = .ok (.iconst 1, 1) := by decide +kernel
theorem dL_law_715 : decode code 715 = .ok (.iadd, 1) := by decide +kernel
theorem dL_law_716 : decode code 716 = .ok (.iaload, 1) := by decide +kernel
theorem dL_law_717 : decode code 717 = .ok (.invokevirtual 101, 3) := by decide +kernel
theorem dL_law_720 : decode code 720 = .ok (.if_icmp .eq 111, 3) := by decide +kernel
theorem dL_law_723 : decode code 723 = .ok (.iconst 0, 1) := by decide +kernel
theorem dL_law_724 : decode code 724 = .ok (.ireturn, 1) := by decide +kernel
theorem dL_law_725 : decode code 725 = .ok (.aload_n 1, 1) := by decide +kernel
theorem dL_law_726 : decode code 726 = .ok (.aload_n 0, 1) := by decide +kernel
theorem dL_law_727 : decode code 727 = .ok (.iload_n 3, 1) := by decide +kernel
theorem dL_law_728 : decode code 728 = .ok (.iconst 1, 1) := by decide +kernel
theorem dL_law_729 : decode code 729 = .ok (.iadd, 1) := by decide +kernel
theorem dL_law_730 : decode code 730 = .ok (.iaload, 1) := by decide +kernel
theorem dL_law_731 : decode code 731 = .ok (.aload_n 0, 1) := by decide +kernel
theorem dL_law_732 : decode code 732 = .ok (.iload_n 3, 1) := by decide +kernel
theorem dL_law_733 : decode code 733 = .ok (.iconst 2, 1) := by decide +kernel
theorem dL_law_734 : decode code 734 = .ok (.iadd, 1) := by decide +kernel
theorem dL_law_735 : decode code 735 = .ok (.iaload, 1) := by decide +kernel
theorem dL_law_736 : decode code 736 = .ok (.aload_n 0, 1) := by decide +kernel
theorem dL_law_737 : decode code 737 = .ok (.iload_n 3, 1) := by decide +kernel
theorem dL_law_738 : decode code 738 = .ok (.iconst 3, 1) := by decide +kernel
theorem dL_law_739 : decode code 739 = .ok (.iadd, 1) := by decide +kernel
theorem dL_law_740 : decode code 740 = .ok (.iaload, 1) := by decide +kernel
theorem dL_law_741 : decode code 741 = .ok (.invokevirtual 102, 3) := by decide +kernel
theorem dL_law_744 : decode code 744 = .ok (.aload_n 2, 1) := by decide +kernel
theorem dL_law_745 : decode code 745 = .ok (.aload_n 0, 1) := by decide +kernel
theorem dL_law_746 : decode code 746 = .ok (.iload_n 3, 1) := by decide +kernel
theorem dL_law_747 : decode code 747 = .ok (.iconst 1, 1) := by decide +kernel
theorem dL_law_748 : decode code 748 = .ok (.iadd, 1) := by decide +kernel
theorem dL_law_749 : decode code 749 = .ok (.iaload, 1) := by decide +kernel
theorem dL_law_750 : decode code 750 = .ok (.aload_n 0, 1) := by decide +kernel
theorem dL_law_751 : decode code 751 = .ok (.iload_n 3, 1) := by decide +kernel
theorem dL_law_752 : decode code 752 = .ok (.iconst 2, 1) := by decide +kernel
theorem dL_law_753 : decode code 753 = .ok (.iadd, 1) := by decide +kernel
theorem dL_law_754 : decode code 754 = .ok (.iaload, 1) := by decide +kernel
theorem dL_law_755 : decode code 755 = .ok (.aload_n 0, 1) := by decide +kernel
theorem dL_law_756 : decode code 756 = .ok (.iload_n 3, 1) := by decide +kernel
theorem dL_law_757 : decode code 757 = .ok (.iconst 3, 1) := by decide +kernel
theorem dL_law_758 : decode code 758 = .ok (.iadd, 1) := by decide +kernel
theorem dL_law_759 : decode code 759 = .ok (.iaload, 1) := by decide +kernel
theorem dL_law_760 : decode code 760 = .ok (.invokevirtual 105, 3) := by decide +kernel
theorem dL_law_763 : decode code 763 = .ok (.if_icmp .eq 68, 3) := by decide +kernel
theorem dL_law_766 : decode code 766 = .ok (.iconst 0, 1) := by decide +kernel
theorem dL_law_767 : decode code 767 = .ok (.ireturn, 1) := by decide +kernel
theorem dL_law_768 : decode code 768 = .ok (.aload_n 1, 1) := by decide +kernel
theorem dL_law_769 : decode code 769 = .ok (.invokevirtual 106, 3) := by decide +kernel
theorem dL_law_772 : decode code 772 = .ok (.aload_n 2, 1) := by decide +kernel
theorem dL_law_773 : decode code 773 = .ok (.invokevirtual 109, 3) := by decide +kernel
theorem dL_law_776 : decode code 776 = .ok (.if_icmp .eq 55, 3) := by decide +kernel
theorem dL_law_779 : decode code 779 = .ok (.iconst 0, 1) := by decide +kernel
theorem dL_law_780 : decode code 780 = .ok (.ireturn, 1) := by decide +kernel
theorem dL_law_781 : decode code 781 = .ok (.aload_n 1, 1) := by decide +kernel
theorem dL_law_782 : decode code 782 = .ok (.invokevirtual 110, 3) := by decide +kernel
theorem dL_law_785 : decode code 785 = .ok (.aload_n 2, 1) := by decide +kernel
theorem dL_law_786 : decode code 786 = .ok (.invokevirtual 113, 3) := by decide +kernel
theorem dL_law_789 : decode code 789 = .ok (.if_icmp .eq 42, 3) := by decide +kernel
theorem dL_law_792 : decode code 792 = .ok (.iconst 0, 1) := by decide +kernel
theorem dL_law_793 : decode code 793 = .ok (.ireturn, 1) := by decide +kernel
theorem dL_law_794 : decode code 794 = .ok (.aload_n 1, 1) := by decide +kernel
theorem dL_law_795 : decode code 795 = .ok (.aload_n 0, 1) := by decide +kernel
theorem dL_law_796 : decode code 796 = .ok (.iload_n 3, 1) := by decide +kernel
theorem dL_law_797 : decode code 797 = .ok (.iconst 1, 1) := by decide +kernel
theorem dL_law_798 : decode code 798 = .ok (.iadd, 1) := by decide +kernel
theorem dL_law_799 : decode code 799 = .ok (.iaload, 1) := by decide +kernel
theorem dL_law_800 : decode code 800 = .ok (.invokevirtual 114, 3) := by decide +kernel
theorem dL_law_803 : decode code 803 = .ok (.aload_n 2, 1) := by decide +kernel
theorem dL_law_804 : decode code 804 = .ok (.aload_n 0, 1) := by decide +kernel
theorem dL_law_805 : decode code 805 = .ok (.iload_n 3, 1) := by decide +kernel
theorem dL_law_806 : decode code 806 = .ok (.iconst 1, 1) := by decide +kernel
theorem dL_law_807 : decode code 807 = .ok (.iadd, 1) := by decide +kernel
theorem dL_law_808 : decode code 808 = .ok (.iaload, 1) := by decide +kernel
theorem dL_law_809 : decode code 809 = .ok (.invokevirtual 117, 3) := by decide +kernel
theorem dL_law_812 : decode code 812 = .ok (.if_icmp .eq 19, 3) := by decide +kernel
theorem dL_law_815 : decode code 815 = .ok (.iconst 0, 1) := by decide +kernel
theorem dL_law_816 : decode code 816 = .ok (.ireturn, 1) := by decide +kernel
theorem dL_law_817 : decode code 817 = .ok (.aload_n 1, 1) := by decide +kernel
theorem dL_law_818 : decode code 818 = .ok (.invokevirtual 118, 3) := by decide +kernel
theorem dL_law_821 : decode code 821 = .ok (.aload_n 2, 1) := by decide +kernel
theorem dL_law_822 : decode code 822 = .ok (.invokevirtual 122, 3) := by decide +kernel
theorem dL_law_825 : decode code 825 = .ok (.lcmp, 1) := by decide +kernel
theorem dL_law_826 : decode code 826 = .ok (.ifCond .eq 5, 3) := by decide +kernel
theorem dL_law_829 : decode code 829 = .ok (.iconst 0, 1) := by decide +kernel
theorem dL_law_830 : decode code 830 = .ok (.ireturn, 1) := by decide +kernel
theorem dL_law_831 : decode code 831 = .ok (.iinc 3 5, 3) := by decide +kernel
theorem dL_law_834 : decode code 834 = .ok (.goto (-816), 3) := by decide +kernel
theorem dL_law_837 : decode code 837 = .ok (.iconst 1, 1) := by decide +kernel
theorem dL_law_838 : decode code 838 = .ok (.ireturn, 1) := by decide +kernel

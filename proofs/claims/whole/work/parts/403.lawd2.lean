theorem d_Law_law_218 : decode code 218 = .ok (.if_icmp .eq 473, 3) := by decide +kernel
theorem d_Law_law_221 : decode code 221 = .ok (.iconst 0, 1) := by decide +kernel
theorem d_Law_law_222 : decode code 222 = .ok (.ireturn, 1) := by decide +kernel
theorem d_Law_law_223 : decode code 223 = .ok (.aload_n 1, 1) := by decide +kernel
theorem d_Law_law_224 : decode code 224 = .ok (.aload_n 0, 1) := by decide +kernel
theorem d_Law_law_225 : decode code 225 = .ok (.iload_n 3, 1) := by decide +kernel
theorem d_Law_law_226 : decode code 226 = .ok (.iconst 1, 1) := by decide +kernel
theorem d_Law_law_227 : decode code 227 = .ok (.iadd, 1) := by decide +kernel
theorem d_Law_law_228 : decode code 228 = .ok (.iaload, 1) := by decide +kernel
theorem d_Law_law_229 : decode code 229 = .ok (.aload_n 0, 1) := by decide +kernel
theorem d_Law_law_230 : decode code 230 = .ok (.iload_n 3, 1) := by decide +kernel
theorem d_Law_law_231 : decode code 231 = .ok (.iconst 2, 1) := by decide +kernel
theorem d_Law_law_232 : decode code 232 = .ok (.iadd, 1) := by decide +kernel
theorem d_Law_law_233 : decode code 233 = .ok (.iaload, 1) := by decide +kernel
theorem d_Law_law_234 : decode code 234 = .ok (.invokevirtual 28, 3) := by decide +kernel
theorem d_Law_law_237 : decode code 237 = .ok (.aload_n 2, 1) := by decide +kernel
theorem d_Law_law_238 : decode code 238 = .ok (.aload_n 0, 1) := by decide +kernel
theorem d_Law_law_239 : decode code 239 = .ok (.iload_n 3, 1) := by decide +kernel
theorem d_Law_law_240 : decode code 240 = .ok (.iconst 1, 1) := by decide +kernel
theorem d_Law_law_241 : decode code 241 = .ok (.iadd, 1) := by decide +kernel
theorem d_Law_law_242 : decode code 242 = .ok (.iaload, 1) := by decide +kernel
theorem d_Law_law_243 : decode code 243 = .ok (.aload_n 0, 1) := by decide +kernel
theorem d_Law_law_244 : decode code 244 = .ok (.iload_n 3, 1) := by decide +kernel
theorem d_Law_law_245 : decode code 245 = .ok (.iconst 2, 1) := by decide +kernel
theorem d_Law_law_246 : decode code 246 = .ok (.iadd, 1) := by decide +kernel
theorem d_Law_law_247 : decode code 247 = .ok (.iaload, 1) := by decide +kernel
theorem d_Law_law_248 : decode code 248 = .ok (.invokevirtual 31, 3) := by decide +kernel
theorem d_Law_law_251 : decode code 251 = .ok (.if_icmp .eq 440, 3) := by decide +kernel
theorem d_Law_law_254 : decode code 254 = .ok (.iconst 0, 1) := by decide +kernel
theorem d_Law_law_255 : decode code 255 = .ok (.ireturn, 1) := by decide +kernel
theorem d_Law_law_256 : decode code 256 = .ok (.aload_n 1, 1) := by decide +kernel
theorem d_Law_law_257 : decode code 257 = .ok (.aload_n 0, 1) := by decide +kernel
theorem d_Law_law_258 : decode code 258 = .ok (.iload_n 3, 1) := by decide +kernel
theorem d_Law_law_259 : decode code 259 = .ok (.iconst 1, 1) := by decide +kernel
theorem d_Law_law_260 : decode code 260 = .ok (.iadd, 1) := by decide +kernel
theorem d_Law_law_261 : decode code 261 = .ok (.iaload, 1) := by decide +kernel
theorem d_Law_law_262 : decode code 262 = .ok (.aload_n 0, 1) := by decide +kernel
theorem d_Law_law_263 : decode code 263 = .ok (.iload_n 3, 1) := by decide +kernel
theorem d_Law_law_264 : decode code 264 = .ok (.iconst 2, 1) := by decide +kernel
theorem d_Law_law_265 : decode code 265 = .ok (.iadd, 1) := by decide +kernel
theorem d_Law_law_266 : decode code 266 = .ok (.iaload, 1) := by decide +kernel
theorem d_Law_law_267 : decode code 267 = .ok (.invokevirtual 32, 3) := by decide +kernel
theorem d_Law_law_270 : decode code 270 = .ok (.aload_n 2, 1) := by decide +kernel
theorem d_Law_law_271 : decode code 271 = .ok (.aload_n 0, 1) := by decide +kernel
theorem d_Law_law_272 : decode code 272 = .ok (.iload_n 3, 1) := by decide +kernel
theorem d_Law_law_273 : decode code 273 = .ok (.iconst 1, 1) := by decide +kernel
theorem d_Law_law_274 : decode code 274 = .ok (.iadd, 1) := by decide +kernel
theorem d_Law_law_275 : decode code 275 = .ok (.iaload, 1) := by decide +kernel
theorem d_Law_law_276 : decode code 276 = .ok (.aload_n 0, 1) := by decide +kernel
theorem d_Law_law_277 : decode code 277 = .ok (.iload_n 3, 1) := by decide +kernel

section LAW5601
theorem dL_201 : decode code 201 = .ok (.aload_n 3, 1) := by decide +kernel
theorem dL_202 : decode code 202 = .ok (.iconst 0, 1) := by decide +kernel
theorem dL_203 : decode code 203 = .ok (.laload, 1) := by decide +kernel
theorem dL_204 : decode code 204 = .ok (.iload 6, 2) := by decide +kernel
theorem dL_206 : decode code 206 = .ok (.i2l, 1) := by decide +kernel
theorem dL_207 : decode code 207 = .ok (.lcmp, 1) := by decide +kernel
theorem dL_208 : decode code 208 = .ok (.ifCond .eq 5, 3) := by decide +kernel
theorem dL_211 : decode code 211 = .ok (.iconst 0, 1) := by decide +kernel
theorem dL_212 : decode code 212 = .ok (.ireturn, 1) := by decide +kernel
theorem dL_213 : decode code 213 = .ok (.goto 1532, 3) := by decide +kernel
theorem dL_216 : decode code 216 = .ok (.aload_n 1, 1) := by decide +kernel
theorem dL_217 : decode code 217 = .ok (.aload_n 0, 1) := by decide +kernel
theorem dL_218 : decode code 218 = .ok (.iload 4, 2) := by decide +kernel
theorem dL_220 : decode code 220 = .ok (.iconst 1, 1) := by decide +kernel
theorem dL_221 : decode code 221 = .ok (.iadd, 1) := by decide +kernel
theorem dL_222 : decode code 222 = .ok (.iaload, 1) := by decide +kernel
theorem dL_223 : decode code 223 = .ok (.aload_n 0, 1) := by decide +kernel
theorem dL_224 : decode code 224 = .ok (.iload 4, 2) := by decide +kernel
theorem dL_226 : decode code 226 = .ok (.iconst 2, 1) := by decide +kernel
theorem dL_227 : decode code 227 = .ok (.iadd, 1) := by decide +kernel
theorem dL_228 : decode code 228 = .ok (.iaload, 1) := by decide +kernel
theorem dL_229 : decode code 229 = .ok (.aload_n 0, 1) := by decide +kernel
theorem dL_230 : decode code 230 = .ok (.iload 4, 2) := by decide +kernel
theorem dL_232 : decode code 232 = .ok (.iconst 3, 1) := by decide +kernel
theorem dL_233 : decode code 233 = .ok (.iadd, 1) := by decide +kernel
theorem dL_234 : decode code 234 = .ok (.iaload, 1) := by decide +kernel
theorem dL_235 : decode code 235 = .ok (.aload_n 3, 1) := by decide +kernel
theorem dL_236 : decode code 236 = .ok (.invokestatic 100, 3) := by decide +kernel
theorem dL_239 : decode code 239 = .ok (.istore 5, 2) := by decide +kernel
theorem dL_241 : decode code 241 = .ok (.aload_n 2, 1) := by decide +kernel
theorem dL_242 : decode code 242 = .ok (.aload_n 0, 1) := by decide +kernel
theorem dL_243 : decode code 243 = .ok (.iload 4, 2) := by decide +kernel
theorem dL_245 : decode code 245 = .ok (.iconst 1, 1) := by decide +kernel
theorem dL_246 : decode code 246 = .ok (.iadd, 1) := by decide +kernel
theorem dL_247 : decode code 247 = .ok (.iaload, 1) := by decide +kernel
theorem dL_248 : decode code 248 = .ok (.aload_n 0, 1) := by decide +kernel
theorem dL_249 : decode code 249 = .ok (.iload 4, 2) := by decide +kernel
theorem dL_251 : decode code 251 = .ok (.iconst 2, 1) := by decide +kernel
theorem dL_252 : decode code 252 = .ok (.iadd, 1) := by decide +kernel
theorem dL_253 : decode code 253 = .ok (.iaload, 1) := by decide +kernel
theorem dL_254 : decode code 254 = .ok (.aload_n 0, 1) := by decide +kernel
theorem dL_255 : decode code 255 = .ok (.iload 4, 2) := by decide +kernel
theorem dL_257 : decode code 257 = .ok (.iconst 3, 1) := by decide +kernel
theorem dL_258 : decode code 258 = .ok (.iadd, 1) := by decide +kernel
theorem dL_259 : decode code 259 = .ok (.iaload, 1) := by decide +kernel
theorem dL_260 : decode code 260 = .ok (.invokevirtual 103, 3) := by decide +kernel
theorem dL_263 : decode code 263 = .ok (.istore 6, 2) := by decide +kernel
theorem dL_265 : decode code 265 = .ok (.aload_n 2, 1) := by decide +kernel
theorem dL_266 : decode code 266 = .ok (.invokevirtual 96, 3) := by decide +kernel
theorem dL_269 : decode code 269 = .ok (.iload 5, 2) := by decide +kernel
theorem dL_271 : decode code 271 = .ok (.if_icmp .eq 5, 3) := by decide +kernel
theorem dL_274 : decode code 274 = .ok (.iconst 0, 1) := by decide +kernel
theorem dL_275 : decode code 275 = .ok (.ireturn, 1) := by decide +kernel
theorem dL_276 : decode code 276 = .ok (.iload 5, 2) := by decide +kernel
theorem dL_278 : decode code 278 = .ok (.ifCond .ne 15, 3) := by decide +kernel
theorem dL_281 : decode code 281 = .ok (.aload_n 3, 1) := by decide +kernel
theorem dL_282 : decode code 282 = .ok (.iconst 0, 1) := by decide +kernel
theorem dL_283 : decode code 283 = .ok (.laload, 1) := by decide +kernel
theorem dL_284 : decode code 284 = .ok (.iload 6, 2) := by decide +kernel
theorem dL_286 : decode code 286 = .ok (.i2l, 1) := by decide +kernel
end LAW5601

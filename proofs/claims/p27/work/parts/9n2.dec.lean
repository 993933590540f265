section DecB2
theorem dL_begins_208 : decode cL_begins 208 = .ok (.bipush 30, 2) := by decide +kernel
theorem dL_begins_210 : decode cL_begins 210 = .ok (.iload 4, 2) := by decide +kernel
theorem dL_begins_212 : decode cL_begins 212 = .ok (.imul, 1) := by decide +kernel
theorem dL_begins_213 : decode cL_begins 213 = .ok (.iadd, 1) := by decide +kernel
theorem dL_begins_214 : decode cL_begins 214 = .ok (.iconst 5, 1) := by decide +kernel
theorem dL_begins_215 : decode cL_begins 215 = .ok (.iload 6, 2) := by decide +kernel
theorem dL_begins_217 : decode cL_begins 217 = .ok (.imul, 1) := by decide +kernel
theorem dL_begins_218 : decode cL_begins 218 = .ok (.iadd, 1) := by decide +kernel
theorem dL_begins_219 : decode cL_begins 219 = .ok (.iload 8, 2) := by decide +kernel
theorem dL_begins_221 : decode cL_begins 221 = .ok (.iadd, 1) := by decide +kernel
theorem dL_begins_222 : decode cL_begins 222 = .ok (.sipush 256, 3) := by decide +kernel
theorem dL_begins_225 : decode cL_begins 225 = .ok (.invokestatic 22, 3) := by decide +kernel
theorem dL_begins_228 : decode cL_begins 228 = .ok (.invokevirtual 26, 3) := by decide +kernel
theorem dL_begins_231 : decode cL_begins 231 = .ok (.pop, 1) := by decide +kernel
theorem dL_begins_232 : decode cL_begins 232 = .ok (.iinc 8 1, 3) := by decide +kernel
theorem dL_begins_235 : decode cL_begins 235 = .ok (.goto (-77), 3) := by decide +kernel
theorem dL_begins_238 : decode cL_begins 238 = .ok (.aload_n 2, 1) := by decide +kernel
theorem dL_begins_239 : decode cL_begins 239 = .ok (.ldc 35, 2) := by decide +kernel
theorem dL_begins_241 : decode cL_begins 241 = .ok (.invokevirtual 32, 3) := by decide +kernel
theorem dL_begins_244 : decode cL_begins 244 = .ok (.pop, 1) := by decide +kernel
theorem dL_begins_245 : decode cL_begins 245 = .ok (.iinc 6 1, 3) := by decide +kernel
theorem dL_begins_248 : decode cL_begins 248 = .ok (.goto (-131), 3) := by decide +kernel
theorem dL_begins_251 : decode cL_begins 251 = .ok (.iload_n 3, 1) := by decide +kernel
theorem dL_begins_252 : decode cL_begins 252 = .ok (.iload 5, 2) := by decide +kernel
theorem dL_begins_254 : decode cL_begins 254 = .ok (.iadd, 1) := by decide +kernel
theorem dL_begins_255 : decode cL_begins 255 = .ok (.istore_n 3, 1) := by decide +kernel
theorem dL_begins_256 : decode cL_begins 256 = .ok (.iinc 4 1, 3) := by decide +kernel
theorem dL_begins_259 : decode cL_begins 259 = .ok (.goto (-164), 3) := by decide +kernel
theorem dL_begins_262 : decode cL_begins 262 = .ok (.aload_n 1, 1) := by decide +kernel
theorem dL_begins_263 : decode cL_begins 263 = .ok (.bipush 16, 2) := by decide +kernel
theorem dL_begins_265 : decode cL_begins 265 = .ok (.iconst 4, 1) := by decide +kernel
theorem dL_begins_266 : decode cL_begins 266 = .ok (.invokestatic 22, 3) := by decide +kernel
theorem dL_begins_269 : decode cL_begins 269 = .ok (.istore 4, 2) := by decide +kernel
theorem dL_begins_271 : decode cL_begins 271 = .ok (.iload 4, 2) := by decide +kernel
theorem dL_begins_273 : decode cL_begins 273 = .ok (.ifCond .le 41, 3) := by decide +kernel
theorem dL_begins_276 : decode cL_begins 276 = .ok (.aload_n 2, 1) := by decide +kernel
theorem dL_begins_277 : decode cL_begins 277 = .ok (.ldc 41, 2) := by decide +kernel
theorem dL_begins_279 : decode cL_begins 279 = .ok (.invokevirtual 32, 3) := by decide +kernel
theorem dL_begins_282 : decode cL_begins 282 = .ok (.bipush 7, 2) := by decide +kernel
theorem dL_begins_284 : decode cL_begins 284 = .ok (.iload 4, 2) := by decide +kernel
theorem dL_begins_286 : decode cL_begins 286 = .ok (.imul, 1) := by decide +kernel
theorem dL_begins_287 : decode cL_begins 287 = .ok (.aload_n 1, 1) := by decide +kernel
theorem dL_begins_288 : decode cL_begins 288 = .ok (.bipush 80, 2) := by decide +kernel
theorem dL_begins_290 : decode cL_begins 290 = .ok (.iload 4, 2) := by decide +kernel
theorem dL_begins_292 : decode cL_begins 292 = .ok (.iadd, 1) := by decide +kernel
theorem dL_begins_293 : decode cL_begins 293 = .ok (.bipush 7, 2) := by decide +kernel
theorem dL_begins_295 : decode cL_begins 295 = .ok (.invokestatic 22, 3) := by decide +kernel
theorem dL_begins_298 : decode cL_begins 298 = .ok (.iadd, 1) := by decide +kernel
theorem dL_begins_299 : decode cL_begins 299 = .ok (.invokevirtual 26, 3) := by decide +kernel
theorem dL_begins_302 : decode cL_begins 302 = .ok (.ldc 35, 2) := by decide +kernel
theorem dL_begins_304 : decode cL_begins 304 = .ok (.invokevirtual 32, 3) := by decide +kernel
theorem dL_begins_307 : decode cL_begins 307 = .ok (.pop, 1) := by decide +kernel
theorem dL_begins_308 : decode cL_begins 308 = .ok (.iinc 4 (-1), 3) := by decide +kernel
theorem dL_begins_311 : decode cL_begins 311 = .ok (.goto (-40), 3) := by decide +kernel
theorem dL_begins_314 : decode cL_begins 314 = .ok (.aload_n 2, 1) := by decide +kernel
theorem dL_begins_315 : decode cL_begins 315 = .ok (.invokevirtual 43, 3) := by decide +kernel
theorem dL_begins_318 : decode cL_begins 318 = .ok (.istore 4, 2) := by decide +kernel
theorem dL_begins_320 : decode cL_begins 320 = .ok (.iconst 0, 1) := by decide +kernel
theorem dL_begins_321 : decode cL_begins 321 = .ok (.istore 5, 2) := by decide +kernel
theorem dL_begins_323 : decode cL_begins 323 = .ok (.iload 5, 2) := by decide +kernel
end DecB2

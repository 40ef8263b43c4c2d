/-! THE LAW, WALKED -/
theorem lw_d0 : decode code 0 = .ok (.new 8, 3) := by decide +kernel
theorem lw_d3 : decode code 3 = .ok (.dup, 1) := by decide +kernel
theorem lw_d4 : decode code 4 = .ok (.invokespecial 50, 3) := by decide +kernel
theorem lw_d7 : decode code 7 = .ok (.astore_n 1, 1) := by decide +kernel
theorem lw_d8 : decode code 8 = .ok (.new 51, 3) := by decide +kernel
theorem lw_d11 : decode code 11 = .ok (.dup, 1) := by decide +kernel
theorem lw_d12 : decode code 12 = .ok (.invokespecial 53, 3) := by decide +kernel
theorem lw_d15 : decode code 15 = .ok (.astore_n 2, 1) := by decide +kernel
theorem lw_d16 : decode code 16 = .ok (.iconst 1, 1) := by decide +kernel
theorem lw_d17 : decode code 17 = .ok (.newarray .long, 2) := by decide +kernel
theorem lw_d19 : decode code 19 = .ok (.astore_n 3, 1) := by decide +kernel
theorem lw_d20 : decode code 20 = .ok (.iconst 0, 1) := by decide +kernel
theorem lw_d21 : decode code 21 = .ok (.istore 4, 2) := by decide +kernel
theorem lw_d23 : decode code 23 = .ok (.iload 4, 2) := by decide +kernel
theorem lw_d25 : decode code 25 = .ok (.aload_n 0, 1) := by decide +kernel
theorem lw_d26 : decode code 26 = .ok (.arraylength, 1) := by decide +kernel
theorem lw_d27 : decode code 27 = .ok (.bipush 6, 2) := by decide +kernel
theorem lw_d29 : decode code 29 = .ok (.isub, 1) := by decide +kernel
theorem lw_d30 : decode code 30 = .ok (.if_icmp .gt 435, 3) := by decide +kernel
theorem lw_d33 : decode code 33 = .ok (.aload_n 0, 1) := by decide +kernel
theorem lw_d34 : decode code 34 = .ok (.iload 4, 2) := by decide +kernel
theorem lw_d36 : decode code 36 = .ok (.iaload, 1) := by decide +kernel
theorem lw_d37 : decode code 37 = .ok (.bipush 15, 2) := by decide +kernel
theorem lw_d39 : decode code 39 = .ok (.iand, 1) := by decide +kernel
theorem lw_d40 : decode code 40 = .ok (.tableswitch 419 0 11 #[64, 137, 153, 169, 182, 210, 226, 254, 294, 350, 375, 391], 64) := by decide +kernel
theorem lw_d104 : decode code 104 = .ok (.aload_n 1, 1) := by decide +kernel
theorem lw_d105 : decode code 105 = .ok (.aload_n 0, 1) := by decide +kernel
theorem lw_d106 : decode code 106 = .ok (.iload 4, 2) := by decide +kernel
theorem lw_d108 : decode code 108 = .ok (.iconst 1, 1) := by decide +kernel
theorem lw_d109 : decode code 109 = .ok (.iadd, 1) := by decide +kernel
theorem lw_d110 : decode code 110 = .ok (.iaload, 1) := by decide +kernel
theorem lw_d111 : decode code 111 = .ok (.aload_n 0, 1) := by decide +kernel
theorem lw_d112 : decode code 112 = .ok (.iload 4, 2) := by decide +kernel
theorem lw_d114 : decode code 114 = .ok (.iconst 2, 1) := by decide +kernel
theorem lw_d115 : decode code 115 = .ok (.iadd, 1) := by decide +kernel
theorem lw_d116 : decode code 116 = .ok (.iaload, 1) := by decide +kernel
theorem lw_d117 : decode code 117 = .ok (.aload_n 0, 1) := by decide +kernel
theorem lw_d118 : decode code 118 = .ok (.iload 4, 2) := by decide +kernel
theorem lw_d120 : decode code 120 = .ok (.iconst 3, 1) := by decide +kernel
theorem lw_d121 : decode code 121 = .ok (.iadd, 1) := by decide +kernel
theorem lw_d122 : decode code 122 = .ok (.iaload, 1) := by decide +kernel
theorem lw_d123 : decode code 123 = .ok (.aload_n 0, 1) := by decide +kernel
theorem lw_d124 : decode code 124 = .ok (.iload 4, 2) := by decide +kernel
theorem lw_d126 : decode code 126 = .ok (.iconst 4, 1) := by decide +kernel
theorem lw_d127 : decode code 127 = .ok (.iadd, 1) := by decide +kernel
theorem lw_d128 : decode code 128 = .ok (.iaload, 1) := by decide +kernel
theorem lw_d129 : decode code 129 = .ok (.aload_n 0, 1) := by decide +kernel
theorem lw_d130 : decode code 130 = .ok (.iload 4, 2) := by decide +kernel
theorem lw_d132 : decode code 132 = .ok (.iconst 5, 1) := by decide +kernel
theorem lw_d133 : decode code 133 = .ok (.iadd, 1) := by decide +kernel
theorem lw_d134 : decode code 134 = .ok (.iaload, 1) := by decide +kernel
theorem lw_d135 : decode code 135 = .ok (.invokevirtual 54, 3) := by decide +kernel
theorem lw_d138 : decode code 138 = .ok (.pop, 1) := by decide +kernel
theorem lw_d139 : decode code 139 = .ok (.aload_n 2, 1) := by decide +kernel
theorem lw_d140 : decode code 140 = .ok (.aload_n 0, 1) := by decide +kernel
theorem lw_d141 : decode code 141 = .ok (.iload 4, 2) := by decide +kernel
theorem lw_d143 : decode code 143 = .ok (.iconst 1, 1) := by decide +kernel
theorem lw_d144 : decode code 144 = .ok (.iadd, 1) := by decide +kernel
theorem lw_d145 : decode code 145 = .ok (.iaload, 1) := by decide +kernel
theorem lw_d146 : decode code 146 = .ok (.aload_n 0, 1) := by decide +kernel
theorem lw_d147 : decode code 147 = .ok (.iload 4, 2) := by decide +kernel
theorem lw_d149 : decode code 149 = .ok (.iconst 2, 1) := by decide +kernel
theorem lw_d150 : decode code 150 = .ok (.iadd, 1) := by decide +kernel
theorem lw_d151 : decode code 151 = .ok (.iaload, 1) := by decide +kernel
theorem lw_d152 : decode code 152 = .ok (.aload_n 0, 1) := by decide +kernel
theorem lw_d153 : decode code 153 = .ok (.iload 4, 2) := by decide +kernel
theorem lw_d155 : decode code 155 = .ok (.iconst 3, 1) := by decide +kernel
theorem lw_d156 : decode code 156 = .ok (.iadd, 1) := by decide +kernel
theorem lw_d157 : decode code 157 = .ok (.iaload, 1) := by decide +kernel
theorem lw_d158 : decode code 158 = .ok (.aload_n 0, 1) := by decide +kernel
theorem lw_d159 : decode code 159 = .ok (.iload 4, 2) := by decide +kernel
theorem lw_d161 : decode code 161 = .ok (.iconst 4, 1) := by decide +kernel
theorem lw_d162 : decode code 162 = .ok (.iadd, 1) := by decide +kernel
theorem lw_d163 : decode code 163 = .ok (.iaload, 1) := by decide +kernel
theorem lw_d164 : decode code 164 = .ok (.aload_n 0, 1) := by decide +kernel
theorem lw_d165 : decode code 165 = .ok (.iload 4, 2) := by decide +kernel
theorem lw_d167 : decode code 167 = .ok (.iconst 5, 1) := by decide +kernel
theorem lw_d168 : decode code 168 = .ok (.iadd, 1) := by decide +kernel
theorem lw_d169 : decode code 169 = .ok (.iaload, 1) := by decide +kernel
theorem lw_d170 : decode code 170 = .ok (.invokevirtual 58, 3) := by decide +kernel
theorem lw_d173 : decode code 173 = .ok (.pop, 1) := by decide +kernel
theorem lw_d174 : decode code 174 = .ok (.goto 285, 3) := by decide +kernel
theorem lw_d177 : decode code 177 = .ok (.aload_n 1, 1) := by decide +kernel
theorem lw_d178 : decode code 178 = .ok (.aload_n 3, 1) := by decide +kernel
theorem lw_d179 : decode code 179 = .ok (.invokestatic 59, 3) := by decide +kernel
theorem lw_d182 : decode code 182 = .ok (.istore 5, 2) := by decide +kernel
theorem lw_d184 : decode code 184 = .ok (.aload_n 2, 1) := by decide +kernel
theorem lw_d185 : decode code 185 = .ok (.invokevirtual 64, 3) := by decide +kernel
theorem lw_d188 : decode code 188 = .ok (.istore 6, 2) := by decide +kernel
theorem lw_d190 : decode code 190 = .ok (.goto 269, 3) := by decide +kernel
theorem lw_d193 : decode code 193 = .ok (.aload_n 1, 1) := by decide +kernel
theorem lw_d194 : decode code 194 = .ok (.aload_n 3, 1) := by decide +kernel
theorem lw_d195 : decode code 195 = .ok (.invokestatic 65, 3) := by decide +kernel
theorem lw_d198 : decode code 198 = .ok (.istore 5, 2) := by decide +kernel
theorem lw_d200 : decode code 200 = .ok (.aload_n 2, 1) := by decide +kernel
theorem lw_d201 : decode code 201 = .ok (.invokevirtual 67, 3) := by decide +kernel
theorem lw_d204 : decode code 204 = .ok (.istore 6, 2) := by decide +kernel
theorem lw_d206 : decode code 206 = .ok (.goto 253, 3) := by decide +kernel
theorem lw_d209 : decode code 209 = .ok (.aload_n 1, 1) := by decide +kernel
theorem lw_d210 : decode code 210 = .ok (.invokevirtual 68, 3) := by decide +kernel
theorem lw_d213 : decode code 213 = .ok (.pop, 1) := by decide +kernel
theorem lw_d214 : decode code 214 = .ok (.aload_n 2, 1) := by decide +kernel
theorem lw_d215 : decode code 215 = .ok (.invokevirtual 71, 3) := by decide +kernel
theorem lw_d218 : decode code 218 = .ok (.pop, 1) := by decide +kernel
theorem lw_d219 : decode code 219 = .ok (.goto 240, 3) := by decide +kernel
theorem lw_d222 : decode code 222 = .ok (.aload_n 1, 1) := by decide +kernel
theorem lw_d223 : decode code 223 = .ok (.aload_n 0, 1) := by decide +kernel
theorem lw_d224 : decode code 224 = .ok (.iload 4, 2) := by decide +kernel
theorem lw_d226 : decode code 226 = .ok (.iconst 1, 1) := by decide +kernel
theorem lw_d227 : decode code 227 = .ok (.iadd, 1) := by decide +kernel
theorem lw_d228 : decode code 228 = .ok (.iaload, 1) := by decide +kernel
theorem lw_d229 : decode code 229 = .ok (.aload_n 3, 1) := by decide +kernel
theorem lw_d230 : decode code 230 = .ok (.invokestatic 72, 3) := by decide +kernel
theorem lw_d233 : decode code 233 = .ok (.istore 5, 2) := by decide +kernel
theorem lw_d235 : decode code 235 = .ok (.aload_n 2, 1) := by decide +kernel
theorem lw_d236 : decode code 236 = .ok (.aload_n 0, 1) := by decide +kernel
theorem lw_d237 : decode code 237 = .ok (.iload 4, 2) := by decide +kernel
theorem lw_d239 : decode code 239 = .ok (.iconst 1, 1) := by decide +kernel
theorem lw_d240 : decode code 240 = .ok (.iadd, 1) := by decide +kernel
theorem lw_d241 : decode code 241 = .ok (.iaload, 1) := by decide +kernel
theorem lw_d242 : decode code 242 = .ok (.invokevirtual 75, 3) := by decide +kernel
theorem lw_d245 : decode code 245 = .ok (.istore 6, 2) := by decide +kernel
theorem lw_d247 : decode code 247 = .ok (.goto 212, 3) := by decide +kernel
theorem lw_d250 : decode code 250 = .ok (.aload_n 1, 1) := by decide +kernel
theorem lw_d251 : decode code 251 = .ok (.aload_n 3, 1) := by decide +kernel
theorem lw_d252 : decode code 252 = .ok (.invokestatic 76, 3) := by decide +kernel
theorem lw_d255 : decode code 255 = .ok (.istore 5, 2) := by decide +kernel
theorem lw_d257 : decode code 257 = .ok (.aload_n 2, 1) := by decide +kernel
theorem lw_d258 : decode code 258 = .ok (.invokevirtual 78, 3) := by decide +kernel
theorem lw_d261 : decode code 261 = .ok (.istore 6, 2) := by decide +kernel
theorem lw_d263 : decode code 263 = .ok (.goto 196, 3) := by decide +kernel
theorem lw_d266 : decode code 266 = .ok (.aload_n 1, 1) := by decide +kernel
theorem lw_d267 : decode code 267 = .ok (.aload_n 0, 1) := by decide +kernel
theorem lw_d268 : decode code 268 = .ok (.iload 4, 2) := by decide +kernel
theorem lw_d270 : decode code 270 = .ok (.iconst 1, 1) := by decide +kernel
theorem lw_d271 : decode code 271 = .ok (.iadd, 1) := by decide +kernel
theorem lw_d272 : decode code 272 = .ok (.iaload, 1) := by decide +kernel
theorem lw_d273 : decode code 273 = .ok (.aload_n 3, 1) := by decide +kernel
theorem lw_d274 : decode code 274 = .ok (.invokestatic 79, 3) := by decide +kernel
theorem lw_d277 : decode code 277 = .ok (.istore 5, 2) := by decide +kernel
theorem lw_d279 : decode code 279 = .ok (.aload_n 2, 1) := by decide +kernel
theorem lw_d280 : decode code 280 = .ok (.aload_n 0, 1) := by decide +kernel
theorem lw_d281 : decode code 281 = .ok (.iload 4, 2) := by decide +kernel
theorem lw_d283 : decode code 283 = .ok (.iconst 1, 1) := by decide +kernel
theorem lw_d284 : decode code 284 = .ok (.iadd, 1) := by decide +kernel
theorem lw_d285 : decode code 285 = .ok (.iaload, 1) := by decide +kernel
theorem lw_d286 : decode code 286 = .ok (.invokevirtual 81, 3) := by decide +kernel
theorem lw_d289 : decode code 289 = .ok (.istore 6, 2) := by decide +kernel
theorem lw_d291 : decode code 291 = .ok (.goto 168, 3) := by decide +kernel
theorem lw_d294 : decode code 294 = .ok (.aload_n 1, 1) := by decide +kernel
theorem lw_d295 : decode code 295 = .ok (.aload_n 0, 1) := by decide +kernel
theorem lw_d296 : decode code 296 = .ok (.iload 4, 2) := by decide +kernel
theorem lw_d298 : decode code 298 = .ok (.iconst 1, 1) := by decide +kernel
theorem lw_d299 : decode code 299 = .ok (.iadd, 1) := by decide +kernel
theorem lw_d300 : decode code 300 = .ok (.iaload, 1) := by decide +kernel
theorem lw_d301 : decode code 301 = .ok (.aload_n 0, 1) := by decide +kernel
theorem lw_d302 : decode code 302 = .ok (.iload 4, 2) := by decide +kernel
theorem lw_d304 : decode code 304 = .ok (.iconst 2, 1) := by decide +kernel
theorem lw_d305 : decode code 305 = .ok (.iadd, 1) := by decide +kernel
theorem lw_d306 : decode code 306 = .ok (.iaload, 1) := by decide +kernel
theorem lw_d307 : decode code 307 = .ok (.aload_n 3, 1) := by decide +kernel
theorem lw_d308 : decode code 308 = .ok (.invokestatic 82, 3) := by decide +kernel
theorem lw_d311 : decode code 311 = .ok (.istore 5, 2) := by decide +kernel
theorem lw_d313 : decode code 313 = .ok (.aload_n 2, 1) := by decide +kernel
theorem lw_d314 : decode code 314 = .ok (.aload_n 0, 1) := by decide +kernel
theorem lw_d315 : decode code 315 = .ok (.iload 4, 2) := by decide +kernel
theorem lw_d317 : decode code 317 = .ok (.iconst 1, 1) := by decide +kernel
theorem lw_d318 : decode code 318 = .ok (.iadd, 1) := by decide +kernel
theorem lw_d319 : decode code 319 = .ok (.iaload, 1) := by decide +kernel
theorem lw_d320 : decode code 320 = .ok (.aload_n 0, 1) := by decide +kernel
theorem lw_d321 : decode code 321 = .ok (.iload 4, 2) := by decide +kernel
theorem lw_d323 : decode code 323 = .ok (.iconst 2, 1) := by decide +kernel
theorem lw_d324 : decode code 324 = .ok (.iadd, 1) := by decide +kernel
theorem lw_d325 : decode code 325 = .ok (.iaload, 1) := by decide +kernel
theorem lw_d326 : decode code 326 = .ok (.invokevirtual 85, 3) := by decide +kernel
theorem lw_d329 : decode code 329 = .ok (.istore 6, 2) := by decide +kernel
theorem lw_d331 : decode code 331 = .ok (.goto 128, 3) := by decide +kernel
theorem lw_d334 : decode code 334 = .ok (.aload_n 1, 1) := by decide +kernel
theorem lw_d335 : decode code 335 = .ok (.aload_n 0, 1) := by decide +kernel
theorem lw_d336 : decode code 336 = .ok (.iload 4, 2) := by decide +kernel
theorem lw_d338 : decode code 338 = .ok (.iconst 1, 1) := by decide +kernel
theorem lw_d339 : decode code 339 = .ok (.iadd, 1) := by decide +kernel
theorem lw_d340 : decode code 340 = .ok (.iaload, 1) := by decide +kernel
theorem lw_d341 : decode code 341 = .ok (.aload_n 3, 1) := by decide +kernel
theorem lw_d342 : decode code 342 = .ok (.invokestatic 86, 3) := by decide +kernel
theorem lw_d345 : decode code 345 = .ok (.istore 5, 2) := by decide +kernel
theorem lw_d347 : decode code 347 = .ok (.aload_n 2, 1) := by decide +kernel
theorem lw_d348 : decode code 348 = .ok (.aload_n 0, 1) := by decide +kernel
theorem lw_d349 : decode code 349 = .ok (.iload 4, 2) := by decide +kernel
theorem lw_d351 : decode code 351 = .ok (.iconst 1, 1) := by decide +kernel
theorem lw_d352 : decode code 352 = .ok (.iadd, 1) := by decide +kernel
theorem lw_d353 : decode code 353 = .ok (.iaload, 1) := by decide +kernel
theorem lw_d354 : decode code 354 = .ok (.invokevirtual 88, 3) := by decide +kernel
theorem lw_d357 : decode code 357 = .ok (.istore 6, 2) := by decide +kernel
theorem lw_d359 : decode code 359 = .ok (.aload_n 2, 1) := by decide +kernel
theorem lw_d360 : decode code 360 = .ok (.invokevirtual 89, 3) := by decide +kernel
theorem lw_d363 : decode code 363 = .ok (.iload 5, 2) := by decide +kernel
theorem lw_d365 : decode code 365 = .ok (.if_icmp .eq 5, 3) := by decide +kernel
theorem lw_d368 : decode code 368 = .ok (.iconst 0, 1) := by decide +kernel
theorem lw_d369 : decode code 369 = .ok (.ireturn, 1) := by decide +kernel
theorem lw_d370 : decode code 370 = .ok (.iload 5, 2) := by decide +kernel
theorem lw_d372 : decode code 372 = .ok (.ifCond .ne 15, 3) := by decide +kernel
theorem lw_d375 : decode code 375 = .ok (.aload_n 3, 1) := by decide +kernel
theorem lw_d376 : decode code 376 = .ok (.iconst 0, 1) := by decide +kernel
theorem lw_d377 : decode code 377 = .ok (.laload, 1) := by decide +kernel
theorem lw_d378 : decode code 378 = .ok (.iload 6, 2) := by decide +kernel
theorem lw_d380 : decode code 380 = .ok (.i2l, 1) := by decide +kernel
theorem lw_d381 : decode code 381 = .ok (.lcmp, 1) := by decide +kernel
theorem lw_d382 : decode code 382 = .ok (.ifCond .eq 5, 3) := by decide +kernel
theorem lw_d385 : decode code 385 = .ok (.iconst 0, 1) := by decide +kernel
theorem lw_d386 : decode code 386 = .ok (.ireturn, 1) := by decide +kernel
theorem lw_d387 : decode code 387 = .ok (.goto 72, 3) := by decide +kernel
theorem lw_d390 : decode code 390 = .ok (.aload_n 1, 1) := by decide +kernel
theorem lw_d391 : decode code 391 = .ok (.aload_n 0, 1) := by decide +kernel
theorem lw_d392 : decode code 392 = .ok (.iload 4, 2) := by decide +kernel
theorem lw_d394 : decode code 394 = .ok (.iconst 1, 1) := by decide +kernel
theorem lw_d395 : decode code 395 = .ok (.iadd, 1) := by decide +kernel
theorem lw_d396 : decode code 396 = .ok (.iaload, 1) := by decide +kernel
theorem lw_d397 : decode code 397 = .ok (.invokevirtual 92, 3) := by decide +kernel
theorem lw_d400 : decode code 400 = .ok (.pop, 1) := by decide +kernel
theorem lw_d401 : decode code 401 = .ok (.aload_n 2, 1) := by decide +kernel
theorem lw_d402 : decode code 402 = .ok (.aload_n 0, 1) := by decide +kernel
theorem lw_d403 : decode code 403 = .ok (.iload 4, 2) := by decide +kernel
theorem lw_d405 : decode code 405 = .ok (.iconst 1, 1) := by decide +kernel
theorem lw_d406 : decode code 406 = .ok (.iadd, 1) := by decide +kernel
theorem lw_d407 : decode code 407 = .ok (.iaload, 1) := by decide +kernel
theorem lw_d408 : decode code 408 = .ok (.invokevirtual 96, 3) := by decide +kernel
theorem lw_d411 : decode code 411 = .ok (.pop, 1) := by decide +kernel
theorem lw_d412 : decode code 412 = .ok (.goto 47, 3) := by decide +kernel
theorem lw_d415 : decode code 415 = .ok (.aload_n 1, 1) := by decide +kernel
theorem lw_d416 : decode code 416 = .ok (.aload_n 3, 1) := by decide +kernel
theorem lw_d417 : decode code 417 = .ok (.invokestatic 97, 3) := by decide +kernel
theorem lw_d420 : decode code 420 = .ok (.istore 5, 2) := by decide +kernel
theorem lw_d422 : decode code 422 = .ok (.aload_n 2, 1) := by decide +kernel
theorem lw_d423 : decode code 423 = .ok (.invokevirtual 99, 3) := by decide +kernel
theorem lw_d426 : decode code 426 = .ok (.istore 6, 2) := by decide +kernel
theorem lw_d428 : decode code 428 = .ok (.goto 31, 3) := by decide +kernel
theorem lw_d431 : decode code 431 = .ok (.aload_n 1, 1) := by decide +kernel
theorem lw_d432 : decode code 432 = .ok (.aload_n 0, 1) := by decide +kernel
theorem lw_d433 : decode code 433 = .ok (.iload 4, 2) := by decide +kernel
theorem lw_d435 : decode code 435 = .ok (.iconst 1, 1) := by decide +kernel
theorem lw_d436 : decode code 436 = .ok (.iadd, 1) := by decide +kernel
theorem lw_d437 : decode code 437 = .ok (.iaload, 1) := by decide +kernel
theorem lw_d438 : decode code 438 = .ok (.aload_n 3, 1) := by decide +kernel
theorem lw_d439 : decode code 439 = .ok (.invokestatic 100, 3) := by decide +kernel
theorem lw_d442 : decode code 442 = .ok (.istore 5, 2) := by decide +kernel
theorem lw_d444 : decode code 444 = .ok (.aload_n 2, 1) := by decide +kernel
theorem lw_d445 : decode code 445 = .ok (.aload_n 0, 1) := by decide +kernel
theorem lw_d446 : decode code 446 = .ok (.iload 4, 2) := by decide +kernel
theorem lw_d448 : decode code 448 = .ok (.iconst 1, 1) := by decide +kernel
theorem lw_d449 : decode code 449 = .ok (.iadd, 1) := by decide +kernel
theorem lw_d450 : decode code 450 = .ok (.iaload, 1) := by decide +kernel
theorem lw_d451 : decode code 451 = .ok (.invokevirtual 102, 3) := by decide +kernel
theorem lw_d454 : decode code 454 = .ok (.istore 6, 2) := by decide +kernel
theorem lw_d456 : decode code 456 = .ok (.goto 3, 3) := by decide +kernel
theorem lw_d459 : decode code 459 = .ok (.iinc 4 6, 3) := by decide +kernel
theorem lw_d462 : decode code 462 = .ok (.goto (-439), 3) := by decide +kernel
theorem lw_d465 : decode code 465 = .ok (.iconst 1, 1) := by decide +kernel
theorem lw_d466 : decode code 466 = .ok (.ireturn, 1) := by decide +kernel

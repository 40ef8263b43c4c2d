/-! THE LAW, WALKED -/
theorem lw_d0 : decode code 0 = .ok (.new 8, 3) := by decide +kernel
theorem lw_d3 : decode code 3 = .ok (.dup, 1) := by decide +kernel
theorem lw_d4 : decode code 4 = .ok (.invokespecial 50, 3) := by decide +kernel
theorem lw_d7 : decode code 7 = .ok (.astore_n 1, 1) := by decide +kernel
theorem lw_d8 : decode code 8 = .ok (.new 51, 3) := by decide +kernel
theorem lw_d11 : decode code 11 = .ok (.dup, 1) := by decide +kernel
theorem lw_d12 : decode code 12 = .ok (.invokespecial 53, 3) := by decide +kernel
theorem lw_d15 : decode code 15 = .ok (.astore_n 2, 1) := by decide +kernel
theorem lw_d16 : decode code 16 = .ok (.iconst 1, 1) := by decide +kernel
theorem lw_d17 : decode code 17 = .ok (.newarray .long, 2) := by decide +kernel
theorem lw_d19 : decode code 19 = .ok (.astore_n 3, 1) := by decide +kernel
theorem lw_d20 : decode code 20 = .ok (.iconst 0, 1) := by decide +kernel
theorem lw_d21 : decode code 21 = .ok (.istore 4, 2) := by decide +kernel
theorem lw_d23 : decode code 23 = .ok (.iload 4, 2) := by decide +kernel
theorem lw_d25 : decode code 25 = .ok (.aload_n 0, 1) := by decide +kernel
theorem lw_d26 : decode code 26 = .ok (.arraylength, 1) := by decide +kernel
theorem lw_d27 : decode code 27 = .ok (.bipush 6, 2) := by decide +kernel
theorem lw_d29 : decode code 29 = .ok (.isub, 1) := by decide +kernel
theorem lw_d30 : decode code 30 = .ok (.if_icmp .gt 659, 3) := by decide +kernel
theorem lw_d33 : decode code 33 = .ok (.aload_n 0, 1) := by decide +kernel
theorem lw_d34 : decode code 34 = .ok (.iload 4, 2) := by decide +kernel
theorem lw_d36 : decode code 36 = .ok (.iaload, 1) := by decide +kernel
theorem lw_d37 : decode code 37 = .ok (.bipush 15, 2) := by decide +kernel
theorem lw_d39 : decode code 39 = .ok (.iand, 1) := by decide +kernel
theorem lw_d40 : decode code 40 = .ok (.tableswitch 643 0 11 #[64, 137, 181, 225, 238, 294, 338, 394, 462, 518, 543, 587], 64) := by decide +kernel
theorem lw_d104 : decode code 104 = .ok (.aload_n 1, 1) := by decide +kernel
theorem lw_d105 : decode code 105 = .ok (.aload_n 0, 1) := by decide +kernel
theorem lw_d106 : decode code 106 = .ok (.iload 4, 2) := by decide +kernel
theorem lw_d108 : decode code 108 = .ok (.iconst 1, 1) := by decide +kernel
theorem lw_d109 : decode code 109 = .ok (.iadd, 1) := by decide +kernel
theorem lw_d110 : decode code 110 = .ok (.iaload, 1) := by decide +kernel
theorem lw_d111 : decode code 111 = .ok (.aload_n 0, 1) := by decide +kernel
theorem lw_d112 : decode code 112 = .ok (.iload 4, 2) := by decide +kernel
theorem lw_d114 : decode code 114 = .ok (.iconst 2, 1) := by decide +kernel
theorem lw_d115 : decode code 115 = .ok (.iadd, 1) := by decide +kernel
theorem lw_d116 : decode code 116 = .ok (.iaload, 1) := by decide +kernel
theorem lw_d117 : decode code 117 = .ok (.aload_n 0, 1) := by decide +kernel
theorem lw_d118 : decode code 118 = .ok (.iload 4, 2) := by decide +kernel
theorem lw_d120 : decode code 120 = .ok (.iconst 3, 1) := by decide +kernel
theorem lw_d121 : decode code 121 = .ok (.iadd, 1) := by decide +kernel
theorem lw_d122 : decode code 122 = .ok (.iaload, 1) := by decide +kernel
theorem lw_d123 : decode code 123 = .ok (.aload_n 0, 1) := by decide +kernel
theorem lw_d124 : decode code 124 = .ok (.iload 4, 2) := by decide +kernel
theorem lw_d126 : decode code 126 = .ok (.iconst 4, 1) := by decide +kernel
theorem lw_d127 : decode code 127 = .ok (.iadd, 1) := by decide +kernel
theorem lw_d128 : decode code 128 = .ok (.iaload, 1) := by decide +kernel
theorem lw_d129 : decode code 129 = .ok (.aload_n 0, 1) := by decide +kernel
theorem lw_d130 : decode code 130 = .ok (.iload 4, 2) := by decide +kernel
theorem lw_d132 : decode code 132 = .ok (.iconst 5, 1) := by decide +kernel
theorem lw_d133 : decode code 133 = .ok (.iadd, 1) := by decide +kernel
theorem lw_d134 : decode code 134 = .ok (.iaload, 1) := by decide +kernel
theorem lw_d135 : decode code 135 = .ok (.invokevirtual 54, 3) := by decide +kernel
theorem lw_d138 : decode code 138 = .ok (.aload_n 2, 1) := by decide +kernel
theorem lw_d139 : decode code 139 = .ok (.aload_n 0, 1) := by decide +kernel
theorem lw_d140 : decode code 140 = .ok (.iload 4, 2) := by decide +kernel
theorem lw_d142 : decode code 142 = .ok (.iconst 1, 1) := by decide +kernel
theorem lw_d143 : decode code 143 = .ok (.iadd, 1) := by decide +kernel
theorem lw_d144 : decode code 144 = .ok (.iaload, 1) := by decide +kernel
theorem lw_d145 : decode code 145 = .ok (.aload_n 0, 1) := by decide +kernel
theorem lw_d146 : decode code 146 = .ok (.iload 4, 2) := by decide +kernel
theorem lw_d148 : decode code 148 = .ok (.iconst 2, 1) := by decide +kernel
theorem lw_d149 : decode code 149 = .ok (.iadd, 1) := by decide +kernel
theorem lw_d150 : decode code 150 = .ok (.iaload, 1) := by decide +kernel
theorem lw_d151 : decode code 151 = .ok (.aload_n 0, 1) := by decide +kernel
theorem lw_d152 : decode code 152 = .ok (.iload 4, 2) := by decide +kernel
theorem lw_d154 : decode code 154 = .ok (.iconst 3, 1) := by decide +kernel
theorem lw_d155 : decode code 155 = .ok (.iadd, 1) := by decide +kernel
theorem lw_d156 : decode code 156 = .ok (.iaload, 1) := by decide +kernel
theorem lw_d157 : decode code 157 = .ok (.aload_n 0, 1) := by decide +kernel
theorem lw_d158 : decode code 158 = .ok (.iload 4, 2) := by decide +kernel
theorem lw_d160 : decode code 160 = .ok (.iconst 4, 1) := by decide +kernel
theorem lw_d161 : decode code 161 = .ok (.iadd, 1) := by decide +kernel
theorem lw_d162 : decode code 162 = .ok (.iaload, 1) := by decide +kernel
theorem lw_d163 : decode code 163 = .ok (.aload_n 0, 1) := by decide +kernel
theorem lw_d164 : decode code 164 = .ok (.iload 4, 2) := by decide +kernel
theorem lw_d166 : decode code 166 = .ok (.iconst 5, 1) := by decide +kernel
theorem lw_d167 : decode code 167 = .ok (.iadd, 1) := by decide +kernel
theorem lw_d168 : decode code 168 = .ok (.iaload, 1) := by decide +kernel
theorem lw_d169 : decode code 169 = .ok (.invokevirtual 58, 3) := by decide +kernel
theorem lw_d172 : decode code 172 = .ok (.if_icmp .eq 511, 3) := by decide +kernel
theorem lw_d175 : decode code 175 = .ok (.iconst 0, 1) := by decide +kernel
theorem lw_d176 : decode code 176 = .ok (.ireturn, 1) := by decide +kernel
theorem lw_d177 : decode code 177 = .ok (.aload_n 1, 1) := by decide +kernel
theorem lw_d178 : decode code 178 = .ok (.aload_n 3, 1) := by decide +kernel
theorem lw_d179 : decode code 179 = .ok (.invokestatic 59, 3) := by decide +kernel
theorem lw_d182 : decode code 182 = .ok (.istore 5, 2) := by decide +kernel
theorem lw_d184 : decode code 184 = .ok (.aload_n 2, 1) := by decide +kernel
theorem lw_d185 : decode code 185 = .ok (.invokevirtual 64, 3) := by decide +kernel
theorem lw_d188 : decode code 188 = .ok (.istore 6, 2) := by decide +kernel
theorem lw_d190 : decode code 190 = .ok (.aload_n 2, 1) := by decide +kernel
theorem lw_d191 : decode code 191 = .ok (.invokevirtual 65, 3) := by decide +kernel
theorem lw_d194 : decode code 194 = .ok (.iload 5, 2) := by decide +kernel
theorem lw_d196 : decode code 196 = .ok (.if_icmp .eq 5, 3) := by decide +kernel
theorem lw_d199 : decode code 199 = .ok (.iconst 0, 1) := by decide +kernel
theorem lw_d200 : decode code 200 = .ok (.ireturn, 1) := by decide +kernel
theorem lw_d201 : decode code 201 = .ok (.iload 5, 2) := by decide +kernel
theorem lw_d203 : decode code 203 = .ok (.ifCond .ne 15, 3) := by decide +kernel
theorem lw_d206 : decode code 206 = .ok (.aload_n 3, 1) := by decide +kernel
theorem lw_d207 : decode code 207 = .ok (.iconst 0, 1) := by decide +kernel
theorem lw_d208 : decode code 208 = .ok (.laload, 1) := by decide +kernel
theorem lw_d209 : decode code 209 = .ok (.iload 6, 2) := by decide +kernel
theorem lw_d211 : decode code 211 = .ok (.i2l, 1) := by decide +kernel
theorem lw_d212 : decode code 212 = .ok (.lcmp, 1) := by decide +kernel
theorem lw_d213 : decode code 213 = .ok (.ifCond .eq 5, 3) := by decide +kernel
theorem lw_d216 : decode code 216 = .ok (.iconst 0, 1) := by decide +kernel
theorem lw_d217 : decode code 217 = .ok (.ireturn, 1) := by decide +kernel
theorem lw_d218 : decode code 218 = .ok (.goto 465, 3) := by decide +kernel
theorem lw_d221 : decode code 221 = .ok (.aload_n 1, 1) := by decide +kernel
theorem lw_d222 : decode code 222 = .ok (.aload_n 3, 1) := by decide +kernel
theorem lw_d223 : decode code 223 = .ok (.invokestatic 68, 3) := by decide +kernel
theorem lw_d226 : decode code 226 = .ok (.istore 5, 2) := by decide +kernel
theorem lw_d228 : decode code 228 = .ok (.aload_n 2, 1) := by decide +kernel
theorem lw_d229 : decode code 229 = .ok (.invokevirtual 70, 3) := by decide +kernel
theorem lw_d232 : decode code 232 = .ok (.istore 6, 2) := by decide +kernel
theorem lw_d234 : decode code 234 = .ok (.aload_n 2, 1) := by decide +kernel
theorem lw_d235 : decode code 235 = .ok (.invokevirtual 65, 3) := by decide +kernel
theorem lw_d238 : decode code 238 = .ok (.iload 5, 2) := by decide +kernel
theorem lw_d240 : decode code 240 = .ok (.if_icmp .eq 5, 3) := by decide +kernel
theorem lw_d243 : decode code 243 = .ok (.iconst 0, 1) := by decide +kernel
theorem lw_d244 : decode code 244 = .ok (.ireturn, 1) := by decide +kernel
theorem lw_d245 : decode code 245 = .ok (.iload 5, 2) := by decide +kernel
theorem lw_d247 : decode code 247 = .ok (.ifCond .ne 15, 3) := by decide +kernel
theorem lw_d250 : decode code 250 = .ok (.aload_n 3, 1) := by decide +kernel
theorem lw_d251 : decode code 251 = .ok (.iconst 0, 1) := by decide +kernel
theorem lw_d252 : decode code 252 = .ok (.laload, 1) := by decide +kernel
theorem lw_d253 : decode code 253 = .ok (.iload 6, 2) := by decide +kernel
theorem lw_d255 : decode code 255 = .ok (.i2l, 1) := by decide +kernel
theorem lw_d256 : decode code 256 = .ok (.lcmp, 1) := by decide +kernel
theorem lw_d257 : decode code 257 = .ok (.ifCond .eq 5, 3) := by decide +kernel
theorem lw_d260 : decode code 260 = .ok (.iconst 0, 1) := by decide +kernel
theorem lw_d261 : decode code 261 = .ok (.ireturn, 1) := by decide +kernel
theorem lw_d262 : decode code 262 = .ok (.goto 421, 3) := by decide +kernel
theorem lw_d265 : decode code 265 = .ok (.aload_n 1, 1) := by decide +kernel
theorem lw_d266 : decode code 266 = .ok (.invokevirtual 71, 3) := by decide +kernel
theorem lw_d269 : decode code 269 = .ok (.aload_n 2, 1) := by decide +kernel
theorem lw_d270 : decode code 270 = .ok (.invokevirtual 74, 3) := by decide +kernel
theorem lw_d273 : decode code 273 = .ok (.if_icmp .eq 410, 3) := by decide +kernel
theorem lw_d276 : decode code 276 = .ok (.iconst 0, 1) := by decide +kernel
theorem lw_d277 : decode code 277 = .ok (.ireturn, 1) := by decide +kernel
theorem lw_d278 : decode code 278 = .ok (.aload_n 1, 1) := by decide +kernel
theorem lw_d279 : decode code 279 = .ok (.aload_n 0, 1) := by decide +kernel
theorem lw_d280 : decode code 280 = .ok (.iload 4, 2) := by decide +kernel
theorem lw_d282 : decode code 282 = .ok (.iconst 1, 1) := by decide +kernel
theorem lw_d283 : decode code 283 = .ok (.iadd, 1) := by decide +kernel
theorem lw_d284 : decode code 284 = .ok (.iaload, 1) := by decide +kernel
theorem lw_d285 : decode code 285 = .ok (.aload_n 3, 1) := by decide +kernel
theorem lw_d286 : decode code 286 = .ok (.invokestatic 75, 3) := by decide +kernel
theorem lw_d289 : decode code 289 = .ok (.istore 5, 2) := by decide +kernel
theorem lw_d291 : decode code 291 = .ok (.aload_n 2, 1) := by decide +kernel
theorem lw_d292 : decode code 292 = .ok (.aload_n 0, 1) := by decide +kernel
theorem lw_d293 : decode code 293 = .ok (.iload 4, 2) := by decide +kernel
theorem lw_d295 : decode code 295 = .ok (.iconst 1, 1) := by decide +kernel
theorem lw_d296 : decode code 296 = .ok (.iadd, 1) := by decide +kernel
theorem lw_d297 : decode code 297 = .ok (.iaload, 1) := by decide +kernel
theorem lw_d298 : decode code 298 = .ok (.invokevirtual 78, 3) := by decide +kernel
theorem lw_d301 : decode code 301 = .ok (.istore 6, 2) := by decide +kernel
theorem lw_d303 : decode code 303 = .ok (.aload_n 2, 1) := by decide +kernel
theorem lw_d304 : decode code 304 = .ok (.invokevirtual 65, 3) := by decide +kernel
theorem lw_d307 : decode code 307 = .ok (.iload 5, 2) := by decide +kernel
theorem lw_d309 : decode code 309 = .ok (.if_icmp .eq 5, 3) := by decide +kernel
theorem lw_d312 : decode code 312 = .ok (.iconst 0, 1) := by decide +kernel
theorem lw_d313 : decode code 313 = .ok (.ireturn, 1) := by decide +kernel
theorem lw_d314 : decode code 314 = .ok (.iload 5, 2) := by decide +kernel
theorem lw_d316 : decode code 316 = .ok (.ifCond .ne 15, 3) := by decide +kernel
theorem lw_d319 : decode code 319 = .ok (.aload_n 3, 1) := by decide +kernel
theorem lw_d320 : decode code 320 = .ok (.iconst 0, 1) := by decide +kernel
theorem lw_d321 : decode code 321 = .ok (.laload, 1) := by decide +kernel
theorem lw_d322 : decode code 322 = .ok (.iload 6, 2) := by decide +kernel
theorem lw_d324 : decode code 324 = .ok (.i2l, 1) := by decide +kernel
theorem lw_d325 : decode code 325 = .ok (.lcmp, 1) := by decide +kernel
theorem lw_d326 : decode code 326 = .ok (.ifCond .eq 5, 3) := by decide +kernel
theorem lw_d329 : decode code 329 = .ok (.iconst 0, 1) := by decide +kernel
theorem lw_d330 : decode code 330 = .ok (.ireturn, 1) := by decide +kernel
theorem lw_d331 : decode code 331 = .ok (.goto 352, 3) := by decide +kernel
theorem lw_d334 : decode code 334 = .ok (.aload_n 1, 1) := by decide +kernel
theorem lw_d335 : decode code 335 = .ok (.aload_n 3, 1) := by decide +kernel
theorem lw_d336 : decode code 336 = .ok (.invokestatic 79, 3) := by decide +kernel
theorem lw_d339 : decode code 339 = .ok (.istore 5, 2) := by decide +kernel
theorem lw_d341 : decode code 341 = .ok (.aload_n 2, 1) := by decide +kernel
theorem lw_d342 : decode code 342 = .ok (.invokevirtual 81, 3) := by decide +kernel
theorem lw_d345 : decode code 345 = .ok (.istore 6, 2) := by decide +kernel
theorem lw_d347 : decode code 347 = .ok (.aload_n 2, 1) := by decide +kernel
theorem lw_d348 : decode code 348 = .ok (.invokevirtual 65, 3) := by decide +kernel
theorem lw_d351 : decode code 351 = .ok (.iload 5, 2) := by decide +kernel
theorem lw_d353 : decode code 353 = .ok (.if_icmp .eq 5, 3) := by decide +kernel
theorem lw_d356 : decode code 356 = .ok (.iconst 0, 1) := by decide +kernel
theorem lw_d357 : decode code 357 = .ok (.ireturn, 1) := by decide +kernel
theorem lw_d358 : decode code 358 = .ok (.iload 5, 2) := by decide +kernel
theorem lw_d360 : decode code 360 = .ok (.ifCond .ne 15, 3) := by decide +kernel
theorem lw_d363 : decode code 363 = .ok (.aload_n 3, 1) := by decide +kernel
theorem lw_d364 : decode code 364 = .ok (.iconst 0, 1) := by decide +kernel
theorem lw_d365 : decode code 365 = .ok (.laload, 1) := by decide +kernel
theorem lw_d366 : decode code 366 = .ok (.iload 6, 2) := by decide +kernel
theorem lw_d368 : decode code 368 = .ok (.i2l, 1) := by decide +kernel
theorem lw_d369 : decode code 369 = .ok (.lcmp, 1) := by decide +kernel
theorem lw_d370 : decode code 370 = .ok (.ifCond .eq 5, 3) := by decide +kernel
theorem lw_d373 : decode code 373 = .ok (.iconst 0, 1) := by decide +kernel
theorem lw_d374 : decode code 374 = .ok (.ireturn, 1) := by decide +kernel
theorem lw_d375 : decode code 375 = .ok (.goto 308, 3) := by decide +kernel
theorem lw_d378 : decode code 378 = .ok (.aload_n 1, 1) := by decide +kernel
theorem lw_d379 : decode code 379 = .ok (.aload_n 0, 1) := by decide +kernel
theorem lw_d380 : decode code 380 = .ok (.iload 4, 2) := by decide +kernel
theorem lw_d382 : decode code 382 = .ok (.iconst 1, 1) := by decide +kernel
theorem lw_d383 : decode code 383 = .ok (.iadd, 1) := by decide +kernel
theorem lw_d384 : decode code 384 = .ok (.iaload, 1) := by decide +kernel
theorem lw_d385 : decode code 385 = .ok (.aload_n 3, 1) := by decide +kernel
theorem lw_d386 : decode code 386 = .ok (.invokestatic 82, 3) := by decide +kernel
theorem lw_d389 : decode code 389 = .ok (.istore 5, 2) := by decide +kernel
theorem lw_d391 : decode code 391 = .ok (.aload_n 2, 1) := by decide +kernel
theorem lw_d392 : decode code 392 = .ok (.aload_n 0, 1) := by decide +kernel
theorem lw_d393 : decode code 393 = .ok (.iload 4, 2) := by decide +kernel
theorem lw_d395 : decode code 395 = .ok (.iconst 1, 1) := by decide +kernel
theorem lw_d396 : decode code 396 = .ok (.iadd, 1) := by decide +kernel
theorem lw_d397 : decode code 397 = .ok (.iaload, 1) := by decide +kernel
theorem lw_d398 : decode code 398 = .ok (.invokevirtual 84, 3) := by decide +kernel
theorem lw_d401 : decode code 401 = .ok (.istore 6, 2) := by decide +kernel
theorem lw_d403 : decode code 403 = .ok (.aload_n 2, 1) := by decide +kernel
theorem lw_d404 : decode code 404 = .ok (.invokevirtual 65, 3) := by decide +kernel
theorem lw_d407 : decode code 407 = .ok (.iload 5, 2) := by decide +kernel
theorem lw_d409 : decode code 409 = .ok (.if_icmp .eq 5, 3) := by decide +kernel
theorem lw_d412 : decode code 412 = .ok (.iconst 0, 1) := by decide +kernel
theorem lw_d413 : decode code 413 = .ok (.ireturn, 1) := by decide +kernel
theorem lw_d414 : decode code 414 = .ok (.iload 5, 2) := by decide +kernel
theorem lw_d416 : decode code 416 = .ok (.ifCond .ne 15, 3) := by decide +kernel
theorem lw_d419 : decode code 419 = .ok (.aload_n 3, 1) := by decide +kernel
theorem lw_d420 : decode code 420 = .ok (.iconst 0, 1) := by decide +kernel
theorem lw_d421 : decode code 421 = .ok (.laload, 1) := by decide +kernel
theorem lw_d422 : decode code 422 = .ok (.iload 6, 2) := by decide +kernel
theorem lw_d424 : decode code 424 = .ok (.i2l, 1) := by decide +kernel
theorem lw_d425 : decode code 425 = .ok (.lcmp, 1) := by decide +kernel
theorem lw_d426 : decode code 426 = .ok (.ifCond .eq 5, 3) := by decide +kernel
theorem lw_d429 : decode code 429 = .ok (.iconst 0, 1) := by decide +kernel
theorem lw_d430 : decode code 430 = .ok (.ireturn, 1) := by decide +kernel
theorem lw_d431 : decode code 431 = .ok (.goto 252, 3) := by decide +kernel
theorem lw_d434 : decode code 434 = .ok (.aload_n 1, 1) := by decide +kernel
theorem lw_d435 : decode code 435 = .ok (.aload_n 0, 1) := by decide +kernel
theorem lw_d436 : decode code 436 = .ok (.iload 4, 2) := by decide +kernel
theorem lw_d438 : decode code 438 = .ok (.iconst 1, 1) := by decide +kernel
theorem lw_d439 : decode code 439 = .ok (.iadd, 1) := by decide +kernel
theorem lw_d440 : decode code 440 = .ok (.iaload, 1) := by decide +kernel
theorem lw_d441 : decode code 441 = .ok (.aload_n 0, 1) := by decide +kernel
theorem lw_d442 : decode code 442 = .ok (.iload 4, 2) := by decide +kernel
theorem lw_d444 : decode code 444 = .ok (.iconst 2, 1) := by decide +kernel
theorem lw_d445 : decode code 445 = .ok (.iadd, 1) := by decide +kernel
theorem lw_d446 : decode code 446 = .ok (.iaload, 1) := by decide +kernel
theorem lw_d447 : decode code 447 = .ok (.aload_n 3, 1) := by decide +kernel
theorem lw_d448 : decode code 448 = .ok (.invokestatic 85, 3) := by decide +kernel
theorem lw_d451 : decode code 451 = .ok (.istore 5, 2) := by decide +kernel
theorem lw_d453 : decode code 453 = .ok (.aload_n 2, 1) := by decide +kernel
theorem lw_d454 : decode code 454 = .ok (.aload_n 0, 1) := by decide +kernel
theorem lw_d455 : decode code 455 = .ok (.iload 4, 2) := by decide +kernel
theorem lw_d457 : decode code 457 = .ok (.iconst 1, 1) := by decide +kernel
theorem lw_d458 : decode code 458 = .ok (.iadd, 1) := by decide +kernel
theorem lw_d459 : decode code 459 = .ok (.iaload, 1) := by decide +kernel
theorem lw_d460 : decode code 460 = .ok (.aload_n 0, 1) := by decide +kernel
theorem lw_d461 : decode code 461 = .ok (.iload 4, 2) := by decide +kernel
theorem lw_d463 : decode code 463 = .ok (.iconst 2, 1) := by decide +kernel
theorem lw_d464 : decode code 464 = .ok (.iadd, 1) := by decide +kernel
theorem lw_d465 : decode code 465 = .ok (.iaload, 1) := by decide +kernel
theorem lw_d466 : decode code 466 = .ok (.invokevirtual 88, 3) := by decide +kernel
theorem lw_d469 : decode code 469 = .ok (.istore 6, 2) := by decide +kernel
theorem lw_d471 : decode code 471 = .ok (.aload_n 2, 1) := by decide +kernel
theorem lw_d472 : decode code 472 = .ok (.invokevirtual 65, 3) := by decide +kernel
theorem lw_d475 : decode code 475 = .ok (.iload 5, 2) := by decide +kernel
theorem lw_d477 : decode code 477 = .ok (.if_icmp .eq 5, 3) := by decide +kernel
theorem lw_d480 : decode code 480 = .ok (.iconst 0, 1) := by decide +kernel
theorem lw_d481 : decode code 481 = .ok (.ireturn, 1) := by decide +kernel
theorem lw_d482 : decode code 482 = .ok (.iload 5, 2) := by decide +kernel
theorem lw_d484 : decode code 484 = .ok (.ifCond .ne 15, 3) := by decide +kernel
theorem lw_d487 : decode code 487 = .ok (.aload_n 3, 1) := by decide +kernel
theorem lw_d488 : decode code 488 = .ok (.iconst 0, 1) := by decide +kernel
theorem lw_d489 : decode code 489 = .ok (.laload, 1) := by decide +kernel
theorem lw_d490 : decode code 490 = .ok (.iload 6, 2) := by decide +kernel
theorem lw_d492 : decode code 492 = .ok (.i2l, 1) := by decide +kernel
theorem lw_d493 : decode code 493 = .ok (.lcmp, 1) := by decide +kernel
theorem lw_d494 : decode code 494 = .ok (.ifCond .eq 5, 3) := by decide +kernel
theorem lw_d497 : decode code 497 = .ok (.iconst 0, 1) := by decide +kernel
theorem lw_d498 : decode code 498 = .ok (.ireturn, 1) := by decide +kernel
theorem lw_d499 : decode code 499 = .ok (.goto 184, 3) := by decide +kernel
theorem lw_d502 : decode code 502 = .ok (.aload_n 1, 1) := by decide +kernel
theorem lw_d503 : decode code 503 = .ok (.aload_n 0, 1) := by decide +kernel
theorem lw_d504 : decode code 504 = .ok (.iload 4, 2) := by decide +kernel
theorem lw_d506 : decode code 506 = .ok (.iconst 1, 1) := by decide +kernel
theorem lw_d507 : decode code 507 = .ok (.iadd, 1) := by decide +kernel
theorem lw_d508 : decode code 508 = .ok (.iaload, 1) := by decide +kernel
theorem lw_d509 : decode code 509 = .ok (.aload_n 3, 1) := by decide +kernel
theorem lw_d510 : decode code 510 = .ok (.invokestatic 89, 3) := by decide +kernel
theorem lw_d513 : decode code 513 = .ok (.istore 5, 2) := by decide +kernel
theorem lw_d515 : decode code 515 = .ok (.aload_n 2, 1) := by decide +kernel
theorem lw_d516 : decode code 516 = .ok (.aload_n 0, 1) := by decide +kernel
theorem lw_d517 : decode code 517 = .ok (.iload 4, 2) := by decide +kernel
theorem lw_d519 : decode code 519 = .ok (.iconst 1, 1) := by decide +kernel
theorem lw_d520 : decode code 520 = .ok (.iadd, 1) := by decide +kernel
theorem lw_d521 : decode code 521 = .ok (.iaload, 1) := by decide +kernel
theorem lw_d522 : decode code 522 = .ok (.invokevirtual 91, 3) := by decide +kernel
theorem lw_d525 : decode code 525 = .ok (.istore 6, 2) := by decide +kernel
theorem lw_d527 : decode code 527 = .ok (.aload_n 2, 1) := by decide +kernel
theorem lw_d528 : decode code 528 = .ok (.invokevirtual 65, 3) := by decide +kernel
theorem lw_d531 : decode code 531 = .ok (.iload 5, 2) := by decide +kernel
theorem lw_d533 : decode code 533 = .ok (.if_icmp .eq 5, 3) := by decide +kernel
theorem lw_d536 : decode code 536 = .ok (.iconst 0, 1) := by decide +kernel
theorem lw_d537 : decode code 537 = .ok (.ireturn, 1) := by decide +kernel
theorem lw_d538 : decode code 538 = .ok (.iload 5, 2) := by decide +kernel
theorem lw_d540 : decode code 540 = .ok (.ifCond .ne 15, 3) := by decide +kernel
theorem lw_d543 : decode code 543 = .ok (.aload_n 3, 1) := by decide +kernel
theorem lw_d544 : decode code 544 = .ok (.iconst 0, 1) := by decide +kernel
theorem lw_d545 : decode code 545 = .ok (.laload, 1) := by decide +kernel
theorem lw_d546 : decode code 546 = .ok (.iload 6, 2) := by decide +kernel
theorem lw_d548 : decode code 548 = .ok (.i2l, 1) := by decide +kernel
theorem lw_d549 : decode code 549 = .ok (.lcmp, 1) := by decide +kernel
theorem lw_d550 : decode code 550 = .ok (.ifCond .eq 5, 3) := by decide +kernel
theorem lw_d553 : decode code 553 = .ok (.iconst 0, 1) := by decide +kernel
theorem lw_d554 : decode code 554 = .ok (.ireturn, 1) := by decide +kernel
theorem lw_d555 : decode code 555 = .ok (.goto 128, 3) := by decide +kernel
theorem lw_d558 : decode code 558 = .ok (.aload_n 1, 1) := by decide +kernel
theorem lw_d559 : decode code 559 = .ok (.aload_n 0, 1) := by decide +kernel
theorem lw_d560 : decode code 560 = .ok (.iload 4, 2) := by decide +kernel
theorem lw_d562 : decode code 562 = .ok (.iconst 1, 1) := by decide +kernel
theorem lw_d563 : decode code 563 = .ok (.iadd, 1) := by decide +kernel
theorem lw_d564 : decode code 564 = .ok (.iaload, 1) := by decide +kernel
theorem lw_d565 : decode code 565 = .ok (.invokevirtual 92, 3) := by decide +kernel
theorem lw_d568 : decode code 568 = .ok (.aload_n 2, 1) := by decide +kernel
theorem lw_d569 : decode code 569 = .ok (.aload_n 0, 1) := by decide +kernel
theorem lw_d570 : decode code 570 = .ok (.iload 4, 2) := by decide +kernel
theorem lw_d572 : decode code 572 = .ok (.iconst 1, 1) := by decide +kernel
theorem lw_d573 : decode code 573 = .ok (.iadd, 1) := by decide +kernel
theorem lw_d574 : decode code 574 = .ok (.iaload, 1) := by decide +kernel
theorem lw_d575 : decode code 575 = .ok (.invokevirtual 96, 3) := by decide +kernel
theorem lw_d578 : decode code 578 = .ok (.if_icmp .eq 105, 3) := by decide +kernel
theorem lw_d581 : decode code 581 = .ok (.iconst 0, 1) := by decide +kernel
theorem lw_d582 : decode code 582 = .ok (.ireturn, 1) := by decide +kernel
theorem lw_d583 : decode code 583 = .ok (.aload_n 1, 1) := by decide +kernel
theorem lw_d584 : decode code 584 = .ok (.aload_n 3, 1) := by decide +kernel
theorem lw_d585 : decode code 585 = .ok (.invokestatic 97, 3) := by decide +kernel
theorem lw_d588 : decode code 588 = .ok (.istore 5, 2) := by decide +kernel
theorem lw_d590 : decode code 590 = .ok (.aload_n 2, 1) := by decide +kernel
theorem lw_d591 : decode code 591 = .ok (.invokevirtual 99, 3) := by decide +kernel
theorem lw_d594 : decode code 594 = .ok (.istore 6, 2) := by decide +kernel
theorem lw_d596 : decode code 596 = .ok (.aload_n 2, 1) := by decide +kernel
theorem lw_d597 : decode code 597 = .ok (.invokevirtual 65, 3) := by decide +kernel
theorem lw_d600 : decode code 600 = .ok (.iload 5, 2) := by decide +kernel
theorem lw_d602 : decode code 602 = .ok (.if_icmp .eq 5, 3) := by decide +kernel
theorem lw_d605 : decode code 605 = .ok (.iconst 0, 1) := by decide +kernel
theorem lw_d606 : decode code 606 = .ok (.ireturn, 1) := by decide +kernel
theorem lw_d607 : decode code 607 = .ok (.iload 5, 2) := by decide +kernel
theorem lw_d609 : decode code 609 = .ok (.ifCond .ne 15, 3) := by decide +kernel
theorem lw_d612 : decode code 612 = .ok (.aload_n 3, 1) := by decide +kernel
theorem lw_d613 : decode code 613 = .ok (.iconst 0, 1) := by decide +kernel
theorem lw_d614 : decode code 614 = .ok (.laload, 1) := by decide +kernel
theorem lw_d615 : decode code 615 = .ok (.iload 6, 2) := by decide +kernel
theorem lw_d617 : decode code 617 = .ok (.i2l, 1) := by decide +kernel
theorem lw_d618 : decode code 618 = .ok (.lcmp, 1) := by decide +kernel
theorem lw_d619 : decode code 619 = .ok (.ifCond .eq 5, 3) := by decide +kernel
theorem lw_d622 : decode code 622 = .ok (.iconst 0, 1) := by decide +kernel
theorem lw_d623 : decode code 623 = .ok (.ireturn, 1) := by decide +kernel
theorem lw_d624 : decode code 624 = .ok (.goto 59, 3) := by decide +kernel
theorem lw_d627 : decode code 627 = .ok (.aload_n 1, 1) := by decide +kernel
theorem lw_d628 : decode code 628 = .ok (.aload_n 0, 1) := by decide +kernel
theorem lw_d629 : decode code 629 = .ok (.iload 4, 2) := by decide +kernel
theorem lw_d631 : decode code 631 = .ok (.iconst 1, 1) := by decide +kernel
theorem lw_d632 : decode code 632 = .ok (.iadd, 1) := by decide +kernel
theorem lw_d633 : decode code 633 = .ok (.iaload, 1) := by decide +kernel
theorem lw_d634 : decode code 634 = .ok (.aload_n 3, 1) := by decide +kernel
theorem lw_d635 : decode code 635 = .ok (.invokestatic 100, 3) := by decide +kernel
theorem lw_d638 : decode code 638 = .ok (.istore 5, 2) := by decide +kernel
theorem lw_d640 : decode code 640 = .ok (.aload_n 2, 1) := by decide +kernel
theorem lw_d641 : decode code 641 = .ok (.aload_n 0, 1) := by decide +kernel
theorem lw_d642 : decode code 642 = .ok (.iload 4, 2) := by decide +kernel
theorem lw_d644 : decode code 644 = .ok (.iconst 1, 1) := by decide +kernel
theorem lw_d645 : decode code 645 = .ok (.iadd, 1) := by decide +kernel
theorem lw_d646 : decode code 646 = .ok (.iaload, 1) := by decide +kernel
theorem lw_d647 : decode code 647 = .ok (.invokevirtual 102, 3) := by decide +kernel
theorem lw_d650 : decode code 650 = .ok (.istore 6, 2) := by decide +kernel
theorem lw_d652 : decode code 652 = .ok (.aload_n 2, 1) := by decide +kernel
theorem lw_d653 : decode code 653 = .ok (.invokevirtual 65, 3) := by decide +kernel
theorem lw_d656 : decode code 656 = .ok (.iload 5, 2) := by decide +kernel
theorem lw_d658 : decode code 658 = .ok (.if_icmp .eq 5, 3) := by decide +kernel
theorem lw_d661 : decode code 661 = .ok (.iconst 0, 1) := by decide +kernel
theorem lw_d662 : decode code 662 = .ok (.ireturn, 1) := by decide +kernel
theorem lw_d663 : decode code 663 = .ok (.iload 5, 2) := by decide +kernel
theorem lw_d665 : decode code 665 = .ok (.ifCond .ne 15, 3) := by decide +kernel
theorem lw_d668 : decode code 668 = .ok (.aload_n 3, 1) := by decide +kernel
theorem lw_d669 : decode code 669 = .ok (.iconst 0, 1) := by decide +kernel
theorem lw_d670 : decode code 670 = .ok (.laload, 1) := by decide +kernel
theorem lw_d671 : decode code 671 = .ok (.iload 6, 2) := by decide +kernel
theorem lw_d673 : decode code 673 = .ok (.i2l, 1) := by decide +kernel
theorem lw_d674 : decode code 674 = .ok (.lcmp, 1) := by decide +kernel
theorem lw_d675 : decode code 675 = .ok (.ifCond .eq 5, 3) := by decide +kernel
theorem lw_d678 : decode code 678 = .ok (.iconst 0, 1) := by decide +kernel
theorem lw_d679 : decode code 679 = .ok (.ireturn, 1) := by decide +kernel
theorem lw_d680 : decode code 680 = .ok (.goto 3, 3) := by decide +kernel
theorem lw_d683 : decode code 683 = .ok (.iinc 4 6, 3) := by decide +kernel
theorem lw_d686 : decode code 686 = .ok (.goto (-663), 3) := by decide +kernel
theorem lw_d689 : decode code 689 = .ok (.iconst 1, 1) := by decide +kernel
theorem lw_d690 : decode code 690 = .ok (.ireturn, 1) := by decide +kernel

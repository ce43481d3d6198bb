theorem dL_law__0 : decode cL_law_ 0 = .ok (.new 8, 3) := by decide +kernel
theorem dL_law__3 : decode cL_law_ 3 = .ok (.dup, 1) := by decide +kernel
theorem dL_law__4 : decode cL_law_ 4 = .ok (.invokespecial 114, 3) := by decide +kernel
theorem dL_law__7 : decode cL_law_ 7 = .ok (.astore_n 1, 1) := by decide +kernel
theorem dL_law__8 : decode cL_law_ 8 = .ok (.new 115, 3) := by decide +kernel
theorem dL_law__11 : decode cL_law_ 11 = .ok (.dup, 1) := by decide +kernel
theorem dL_law__12 : decode cL_law_ 12 = .ok (.invokespecial 117, 3) := by decide +kernel
theorem dL_law__15 : decode cL_law_ 15 = .ok (.astore_n 2, 1) := by decide +kernel
theorem dL_law__16 : decode cL_law_ 16 = .ok (.iconst 1, 1) := by decide +kernel
theorem dL_law__17 : decode cL_law_ 17 = .ok (.newarray .long, 2) := by decide +kernel
theorem dL_law__19 : decode cL_law_ 19 = .ok (.astore_n 3, 1) := by decide +kernel
theorem dL_law__20 : decode cL_law_ 20 = .ok (.iconst 0, 1) := by decide +kernel
theorem dL_law__21 : decode cL_law_ 21 = .ok (.istore 4, 2) := by decide +kernel
theorem dL_law__23 : decode cL_law_ 23 = .ok (.iload 4, 2) := by decide +kernel
theorem dL_law__25 : decode cL_law_ 25 = .ok (.aload_n 0, 1) := by decide +kernel
theorem dL_law__26 : decode cL_law_ 26 = .ok (.arraylength, 1) := by decide +kernel
theorem dL_law__27 : decode cL_law_ 27 = .ok (.bipush 7, 2) := by decide +kernel
theorem dL_law__29 : decode cL_law_ 29 = .ok (.isub, 1) := by decide +kernel
theorem dL_law__30 : decode cL_law_ 30 = .ok (.if_icmp .gt 2547, 3) := by decide +kernel
theorem dL_law__33 : decode cL_law_ 33 = .ok (.aload_n 0, 1) := by decide +kernel
theorem dL_law__34 : decode cL_law_ 34 = .ok (.iload 4, 2) := by decide +kernel
theorem dL_law__36 : decode cL_law_ 36 = .ok (.iaload, 1) := by decide +kernel
theorem dL_law__37 : decode cL_law_ 37 = .ok (.bipush 63, 2) := by decide +kernel
theorem dL_law__39 : decode cL_law_ 39 = .ok (.iand, 1) := by decide +kernel
theorem dL_law__40 : decode cL_law_ 40 = .ok (.tableswitch 2531 0 35 #[160, 233, 289, 345, 358, 426, 494, 550, 642, 734, 814, 906, 974, 1030, 1086, 1142, 1210, 1278, 1346, 1426, 1482, 1550, 1618, 1736, 1828, 1936, 1992, 2048, 2116, 2196, 2264, 2344, 2412, 2480, 2493, 2506], 160) := by decide +kernel
theorem dL_law__200 : decode cL_law_ 200 = .ok (.aload_n 1, 1) := by decide +kernel
theorem dL_law__201 : decode cL_law_ 201 = .ok (.aload_n 0, 1) := by decide +kernel
theorem dL_law__202 : decode cL_law_ 202 = .ok (.iload 4, 2) := by decide +kernel
theorem dL_law__204 : decode cL_law_ 204 = .ok (.iconst 1, 1) := by decide +kernel
theorem dL_law__205 : decode cL_law_ 205 = .ok (.iadd, 1) := by decide +kernel
theorem dL_law__206 : decode cL_law_ 206 = .ok (.iaload, 1) := by decide +kernel
theorem dL_law__207 : decode cL_law_ 207 = .ok (.aload_n 0, 1) := by decide +kernel
theorem dL_law__208 : decode cL_law_ 208 = .ok (.iload 4, 2) := by decide +kernel
theorem dL_law__210 : decode cL_law_ 210 = .ok (.iconst 2, 1) := by decide +kernel
theorem dL_law__211 : decode cL_law_ 211 = .ok (.iadd, 1) := by decide +kernel
theorem dL_law__212 : decode cL_law_ 212 = .ok (.iaload, 1) := by decide +kernel
theorem dL_law__213 : decode cL_law_ 213 = .ok (.aload_n 0, 1) := by decide +kernel
theorem dL_law__214 : decode cL_law_ 214 = .ok (.iload 4, 2) := by decide +kernel
theorem dL_law__216 : decode cL_law_ 216 = .ok (.iconst 3, 1) := by decide +kernel
theorem dL_law__217 : decode cL_law_ 217 = .ok (.iadd, 1) := by decide +kernel
theorem dL_law__218 : decode cL_law_ 218 = .ok (.iaload, 1) := by decide +kernel
theorem dL_law__219 : decode cL_law_ 219 = .ok (.aload_n 0, 1) := by decide +kernel
theorem dL_law__220 : decode cL_law_ 220 = .ok (.iload 4, 2) := by decide +kernel
theorem dL_law__222 : decode cL_law_ 222 = .ok (.iconst 4, 1) := by decide +kernel
theorem dL_law__223 : decode cL_law_ 223 = .ok (.iadd, 1) := by decide +kernel
theorem dL_law__224 : decode cL_law_ 224 = .ok (.iaload, 1) := by decide +kernel
theorem dL_law__225 : decode cL_law_ 225 = .ok (.aload_n 0, 1) := by decide +kernel
theorem dL_law__226 : decode cL_law_ 226 = .ok (.iload 4, 2) := by decide +kernel
theorem dL_law__228 : decode cL_law_ 228 = .ok (.iconst 5, 1) := by decide +kernel
theorem dL_law__229 : decode cL_law_ 229 = .ok (.iadd, 1) := by decide +kernel
theorem dL_law__230 : decode cL_law_ 230 = .ok (.iaload, 1) := by decide +kernel
theorem dL_law__231 : decode cL_law_ 231 = .ok (.invokevirtual 118, 3) := by decide +kernel
theorem dL_law__234 : decode cL_law_ 234 = .ok (.aload_n 2, 1) := by decide +kernel
theorem dL_law__235 : decode cL_law_ 235 = .ok (.aload_n 0, 1) := by decide +kernel
theorem dL_law__236 : decode cL_law_ 236 = .ok (.iload 4, 2) := by decide +kernel
theorem dL_law__238 : decode cL_law_ 238 = .ok (.iconst 1, 1) := by decide +kernel
theorem dL_law__239 : decode cL_law_ 239 = .ok (.iadd, 1) := by decide +kernel
theorem dL_law__240 : decode cL_law_ 240 = .ok (.iaload, 1) := by decide +kernel
theorem dL_law__241 : decode cL_law_ 241 = .ok (.aload_n 0, 1) := by decide +kernel
theorem dL_law__242 : decode cL_law_ 242 = .ok (.iload 4, 2) := by decide +kernel
theorem dL_law__244 : decode cL_law_ 244 = .ok (.iconst 2, 1) := by decide +kernel
theorem dL_law__245 : decode cL_law_ 245 = .ok (.iadd, 1) := by decide +kernel
theorem dL_law__246 : decode cL_law_ 246 = .ok (.iaload, 1) := by decide +kernel
theorem dL_law__247 : decode cL_law_ 247 = .ok (.aload_n 0, 1) := by decide +kernel
theorem dL_law__248 : decode cL_law_ 248 = .ok (.iload 4, 2) := by decide +kernel
theorem dL_law__250 : decode cL_law_ 250 = .ok (.iconst 3, 1) := by decide +kernel
theorem dL_law__251 : decode cL_law_ 251 = .ok (.iadd, 1) := by decide +kernel
theorem dL_law__252 : decode cL_law_ 252 = .ok (.iaload, 1) := by decide +kernel
theorem dL_law__253 : decode cL_law_ 253 = .ok (.aload_n 0, 1) := by decide +kernel
theorem dL_law__254 : decode cL_law_ 254 = .ok (.iload 4, 2) := by decide +kernel
theorem dL_law__256 : decode cL_law_ 256 = .ok (.iconst 4, 1) := by decide +kernel
theorem dL_law__257 : decode cL_law_ 257 = .ok (.iadd, 1) := by decide +kernel
theorem dL_law__258 : decode cL_law_ 258 = .ok (.iaload, 1) := by decide +kernel
theorem dL_law__259 : decode cL_law_ 259 = .ok (.aload_n 0, 1) := by decide +kernel
theorem dL_law__260 : decode cL_law_ 260 = .ok (.iload 4, 2) := by decide +kernel
theorem dL_law__262 : decode cL_law_ 262 = .ok (.iconst 5, 1) := by decide +kernel
theorem dL_law__263 : decode cL_law_ 263 = .ok (.iadd, 1) := by decide +kernel
theorem dL_law__264 : decode cL_law_ 264 = .ok (.iaload, 1) := by decide +kernel
theorem dL_law__265 : decode cL_law_ 265 = .ok (.invokevirtual 122, 3) := by decide +kernel
theorem dL_law__268 : decode cL_law_ 268 = .ok (.if_icmp .eq 2303, 3) := by decide +kernel
theorem dL_law__271 : decode cL_law_ 271 = .ok (.iconst 0, 1) := by decide +kernel
theorem dL_law__272 : decode cL_law_ 272 = .ok (.ireturn, 1) := by decide +kernel
theorem dL_law__273 : decode cL_law_ 273 = .ok (.aload_n 1, 1) := by decide +kernel
theorem dL_law__274 : decode cL_law_ 274 = .ok (.aload_n 0, 1) := by decide +kernel
theorem dL_law__275 : decode cL_law_ 275 = .ok (.iload 4, 2) := by decide +kernel
theorem dL_law__277 : decode cL_law_ 277 = .ok (.iconst 1, 1) := by decide +kernel
theorem dL_law__278 : decode cL_law_ 278 = .ok (.iadd, 1) := by decide +kernel
theorem dL_law__279 : decode cL_law_ 279 = .ok (.iaload, 1) := by decide +kernel
theorem dL_law__280 : decode cL_law_ 280 = .ok (.aload_n 3, 1) := by decide +kernel
theorem dL_law__281 : decode cL_law_ 281 = .ok (.invokestatic 123, 3) := by decide +kernel
theorem dL_law__284 : decode cL_law_ 284 = .ok (.istore 5, 2) := by decide +kernel
theorem dL_law__286 : decode cL_law_ 286 = .ok (.aload_n 2, 1) := by decide +kernel
theorem dL_law__287 : decode cL_law_ 287 = .ok (.aload_n 0, 1) := by decide +kernel
theorem dL_law__288 : decode cL_law_ 288 = .ok (.iload 4, 2) := by decide +kernel
theorem dL_law__290 : decode cL_law_ 290 = .ok (.iconst 1, 1) := by decide +kernel
theorem dL_law__291 : decode cL_law_ 291 = .ok (.iadd, 1) := by decide +kernel
theorem dL_law__292 : decode cL_law_ 292 = .ok (.iaload, 1) := by decide +kernel
theorem dL_law__293 : decode cL_law_ 293 = .ok (.invokevirtual 128, 3) := by decide +kernel
theorem dL_law__296 : decode cL_law_ 296 = .ok (.istore 6, 2) := by decide +kernel
theorem dL_law__298 : decode cL_law_ 298 = .ok (.aload_n 2, 1) := by decide +kernel
theorem dL_law__299 : decode cL_law_ 299 = .ok (.invokevirtual 129, 3) := by decide +kernel
theorem dL_law__302 : decode cL_law_ 302 = .ok (.iload 5, 2) := by decide +kernel
theorem dL_law__304 : decode cL_law_ 304 = .ok (.if_icmp .eq 5, 3) := by decide +kernel
theorem dL_law__307 : decode cL_law_ 307 = .ok (.iconst 0, 1) := by decide +kernel
theorem dL_law__308 : decode cL_law_ 308 = .ok (.ireturn, 1) := by decide +kernel
theorem dL_law__309 : decode cL_law_ 309 = .ok (.iload 5, 2) := by decide +kernel
theorem dL_law__311 : decode cL_law_ 311 = .ok (.ifCond .ne 15, 3) := by decide +kernel
theorem dL_law__314 : decode cL_law_ 314 = .ok (.aload_n 3, 1) := by decide +kernel
theorem dL_law__315 : decode cL_law_ 315 = .ok (.iconst 0, 1) := by decide +kernel
theorem dL_law__316 : decode cL_law_ 316 = .ok (.laload, 1) := by decide +kernel
theorem dL_law__317 : decode cL_law_ 317 = .ok (.iload 6, 2) := by decide +kernel
theorem dL_law__319 : decode cL_law_ 319 = .ok (.i2l, 1) := by decide +kernel
theorem dL_law__320 : decode cL_law_ 320 = .ok (.lcmp, 1) := by decide +kernel
theorem dL_law__321 : decode cL_law_ 321 = .ok (.ifCond .eq 5, 3) := by decide +kernel
theorem dL_law__324 : decode cL_law_ 324 = .ok (.iconst 0, 1) := by decide +kernel
theorem dL_law__325 : decode cL_law_ 325 = .ok (.ireturn, 1) := by decide +kernel
theorem dL_law__326 : decode cL_law_ 326 = .ok (.goto 2245, 3) := by decide +kernel
theorem dL_law__329 : decode cL_law_ 329 = .ok (.aload_n 1, 1) := by decide +kernel
theorem dL_law__330 : decode cL_law_ 330 = .ok (.aload_n 0, 1) := by decide +kernel
theorem dL_law__331 : decode cL_law_ 331 = .ok (.iload 4, 2) := by decide +kernel
theorem dL_law__333 : decode cL_law_ 333 = .ok (.iconst 1, 1) := by decide +kernel
theorem dL_law__334 : decode cL_law_ 334 = .ok (.iadd, 1) := by decide +kernel
theorem dL_law__335 : decode cL_law_ 335 = .ok (.iaload, 1) := by decide +kernel
theorem dL_law__336 : decode cL_law_ 336 = .ok (.aload_n 3, 1) := by decide +kernel
theorem dL_law__337 : decode cL_law_ 337 = .ok (.invokestatic 133, 3) := by decide +kernel
theorem dL_law__340 : decode cL_law_ 340 = .ok (.istore 5, 2) := by decide +kernel
theorem dL_law__342 : decode cL_law_ 342 = .ok (.aload_n 2, 1) := by decide +kernel
theorem dL_law__343 : decode cL_law_ 343 = .ok (.aload_n 0, 1) := by decide +kernel
theorem dL_law__344 : decode cL_law_ 344 = .ok (.iload 4, 2) := by decide +kernel
theorem dL_law__346 : decode cL_law_ 346 = .ok (.iconst 1, 1) := by decide +kernel
theorem dL_law__347 : decode cL_law_ 347 = .ok (.iadd, 1) := by decide +kernel
theorem dL_law__348 : decode cL_law_ 348 = .ok (.iaload, 1) := by decide +kernel
theorem dL_law__349 : decode cL_law_ 349 = .ok (.invokevirtual 135, 3) := by decide +kernel
theorem dL_law__352 : decode cL_law_ 352 = .ok (.istore 6, 2) := by decide +kernel
theorem dL_law__354 : decode cL_law_ 354 = .ok (.aload_n 2, 1) := by decide +kernel
theorem dL_law__355 : decode cL_law_ 355 = .ok (.invokevirtual 129, 3) := by decide +kernel
theorem dL_law__358 : decode cL_law_ 358 = .ok (.iload 5, 2) := by decide +kernel
theorem dL_law__360 : decode cL_law_ 360 = .ok (.if_icmp .eq 5, 3) := by decide +kernel
theorem dL_law__363 : decode cL_law_ 363 = .ok (.iconst 0, 1) := by decide +kernel
theorem dL_law__364 : decode cL_law_ 364 = .ok (.ireturn, 1) := by decide +kernel
theorem dL_law__365 : decode cL_law_ 365 = .ok (.iload 5, 2) := by decide +kernel
theorem dL_law__367 : decode cL_law_ 367 = .ok (.ifCond .ne 15, 3) := by decide +kernel
theorem dL_law__370 : decode cL_law_ 370 = .ok (.aload_n 3, 1) := by decide +kernel
theorem dL_law__371 : decode cL_law_ 371 = .ok (.iconst 0, 1) := by decide +kernel
theorem dL_law__372 : decode cL_law_ 372 = .ok (.laload, 1) := by decide +kernel
theorem dL_law__373 : decode cL_law_ 373 = .ok (.iload 6, 2) := by decide +kernel
theorem dL_law__375 : decode cL_law_ 375 = .ok (.i2l, 1) := by decide +kernel
theorem dL_law__376 : decode cL_law_ 376 = .ok (.lcmp, 1) := by decide +kernel
theorem dL_law__377 : decode cL_law_ 377 = .ok (.ifCond .eq 5, 3) := by decide +kernel
theorem dL_law__380 : decode cL_law_ 380 = .ok (.iconst 0, 1) := by decide +kernel
theorem dL_law__381 : decode cL_law_ 381 = .ok (.ireturn, 1) := by decide +kernel
theorem dL_law__382 : decode cL_law_ 382 = .ok (.goto 2189, 3) := by decide +kernel
theorem dL_law__385 : decode cL_law_ 385 = .ok (.aload_n 1, 1) := by decide +kernel
theorem dL_law__386 : decode cL_law_ 386 = .ok (.invokevirtual 136, 3) := by decide +kernel
theorem dL_law__389 : decode cL_law_ 389 = .ok (.aload_n 2, 1) := by decide +kernel
theorem dL_law__390 : decode cL_law_ 390 = .ok (.invokevirtual 139, 3) := by decide +kernel
theorem dL_law__393 : decode cL_law_ 393 = .ok (.if_icmp .eq 2178, 3) := by decide +kernel
theorem dL_law__396 : decode cL_law_ 396 = .ok (.iconst 0, 1) := by decide +kernel
theorem dL_law__397 : decode cL_law_ 397 = .ok (.ireturn, 1) := by decide +kernel
theorem dL_law__398 : decode cL_law_ 398 = .ok (.aload_n 1, 1) := by decide +kernel
theorem dL_law__399 : decode cL_law_ 399 = .ok (.aload_n 0, 1) := by decide +kernel
theorem dL_law__400 : decode cL_law_ 400 = .ok (.iload 4, 2) := by decide +kernel
theorem dL_law__402 : decode cL_law_ 402 = .ok (.iconst 1, 1) := by decide +kernel
theorem dL_law__403 : decode cL_law_ 403 = .ok (.iadd, 1) := by decide +kernel
theorem dL_law__404 : decode cL_law_ 404 = .ok (.iaload, 1) := by decide +kernel
theorem dL_law__405 : decode cL_law_ 405 = .ok (.aload_n 0, 1) := by decide +kernel
theorem dL_law__406 : decode cL_law_ 406 = .ok (.iload 4, 2) := by decide +kernel
theorem dL_law__408 : decode cL_law_ 408 = .ok (.iconst 2, 1) := by decide +kernel
theorem dL_law__409 : decode cL_law_ 409 = .ok (.iadd, 1) := by decide +kernel
theorem dL_law__410 : decode cL_law_ 410 = .ok (.iaload, 1) := by decide +kernel
theorem dL_law__411 : decode cL_law_ 411 = .ok (.aload_n 3, 1) := by decide +kernel
theorem dL_law__412 : decode cL_law_ 412 = .ok (.invokestatic 140, 3) := by decide +kernel
theorem dL_law__415 : decode cL_law_ 415 = .ok (.istore 5, 2) := by decide +kernel
theorem dL_law__417 : decode cL_law_ 417 = .ok (.aload_n 2, 1) := by decide +kernel
theorem dL_law__418 : decode cL_law_ 418 = .ok (.aload_n 0, 1) := by decide +kernel
theorem dL_law__419 : decode cL_law_ 419 = .ok (.iload 4, 2) := by decide +kernel
theorem dL_law__421 : decode cL_law_ 421 = .ok (.iconst 1, 1) := by decide +kernel
theorem dL_law__422 : decode cL_law_ 422 = .ok (.iadd, 1) := by decide +kernel
theorem dL_law__423 : decode cL_law_ 423 = .ok (.iaload, 1) := by decide +kernel
theorem dL_law__424 : decode cL_law_ 424 = .ok (.aload_n 0, 1) := by decide +kernel
theorem dL_law__425 : decode cL_law_ 425 = .ok (.iload 4, 2) := by decide +kernel
theorem dL_law__427 : decode cL_law_ 427 = .ok (.iconst 2, 1) := by decide +kernel
theorem dL_law__428 : decode cL_law_ 428 = .ok (.iadd, 1) := by decide +kernel
theorem dL_law__429 : decode cL_law_ 429 = .ok (.iaload, 1) := by decide +kernel
theorem dL_law__430 : decode cL_law_ 430 = .ok (.invokevirtual 143, 3) := by decide +kernel
theorem dL_law__433 : decode cL_law_ 433 = .ok (.istore 6, 2) := by decide +kernel
theorem dL_law__435 : decode cL_law_ 435 = .ok (.aload_n 2, 1) := by decide +kernel
theorem dL_law__436 : decode cL_law_ 436 = .ok (.invokevirtual 129, 3) := by decide +kernel
theorem dL_law__439 : decode cL_law_ 439 = .ok (.iload 5, 2) := by decide +kernel
theorem dL_law__441 : decode cL_law_ 441 = .ok (.if_icmp .eq 5, 3) := by decide +kernel
theorem dL_law__444 : decode cL_law_ 444 = .ok (.iconst 0, 1) := by decide +kernel
theorem dL_law__445 : decode cL_law_ 445 = .ok (.ireturn, 1) := by decide +kernel
theorem dL_law__446 : decode cL_law_ 446 = .ok (.iload 5, 2) := by decide +kernel
theorem dL_law__448 : decode cL_law_ 448 = .ok (.ifCond .ne 15, 3) := by decide +kernel
theorem dL_law__451 : decode cL_law_ 451 = .ok (.aload_n 3, 1) := by decide +kernel
theorem dL_law__452 : decode cL_law_ 452 = .ok (.iconst 0, 1) := by decide +kernel
theorem dL_law__453 : decode cL_law_ 453 = .ok (.laload, 1) := by decide +kernel
theorem dL_law__454 : decode cL_law_ 454 = .ok (.iload 6, 2) := by decide +kernel
theorem dL_law__456 : decode cL_law_ 456 = .ok (.i2l, 1) := by decide +kernel
theorem dL_law__457 : decode cL_law_ 457 = .ok (.lcmp, 1) := by decide +kernel

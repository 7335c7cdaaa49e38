set_option maxRecDepth 20000 in
theorem ggL_changes_L_runs : GoodIn wsL_changes wsL_runs := goodIn_ca (goodIn_ca (goodIn_ca (goodIn_ca (goodIn_ca (goodIn_cut 60 (goodIn_r _ [465, 466, 338, 339, 325, 340, 341, 342, 343, 344, 345, 346, 347, 467, 468, 469, 470, 471, 472, 473, 474, 475, 476, 366, 477, 478, 479, 480, 327, 481, 482, 330, 483, 484, 485, 253, 486, 487, 488, 489, 320, 321, 322, 490, 456, 457, 458, 316, 335, 336, 491, 492, 6, 493, 11, 494, 495, 496, 15, 497] (by decide +kernel) (by decide +kernel)) (goodIn_cut 60 (goodIn_r _ [32, 33, 498, 499, 500, 501, 502, 503, 504, 505, 506, 507, 508, 509, 510, 511, 512, 225, 513, 514, 515, 516, 30, 31, 34, 35, 517, 518, 17, 519, 18, 520, 521, 522, 523, 524, 525, 526, 527, 528, 529, 530, 531, 532, 290, 50, 291, 533, 534, 535, 536, 537, 538, 539, 540, 541, 542, 543, 544, 545] (by decide +kernel) (by decide +kernel)) (goodIn_cut 60 (goodIn_r _ [546, 547, 548, 549, 550, 551, 552, 553, 554, 555, 556, 557, 53, 54, 55, 56, 57, 58, 59, 60, 61, 62, 63, 64, 65, 66, 67, 68, 69, 70, 558, 559, 560, 561, 562, 563, 564, 565, 566, 567, 568, 569, 570, 571, 572, 573, 574, 575, 576, 577, 578, 579, 19, 20, 21, 22, 23, 24, 83, 84] (by decide +kernel) (by decide +kernel)) (goodIn_cut 60 (goodIn_r _ [85, 86, 87, 88, 89, 90, 91, 92, 93, 94, 95, 96, 97, 98, 99, 100, 101, 102, 103, 104, 105, 106, 107, 108, 109, 121, 122, 123, 124, 137, 150, 151, 152, 201, 202, 203, 580, 581, 582, 583, 584, 585, 586, 183, 587, 588, 589, 590, 591, 592, 593, 594, 595, 596, 597, 598, 161, 599, 71, 72] (by decide +kernel) (by decide +kernel)) (goodIn_cut 60 (goodIn_r _ [73, 74, 110, 111, 112, 113, 125, 126, 127, 128, 129, 138, 139, 140, 141, 142, 49, 51, 153, 154, 155, 156, 162, 163, 164, 165, 166, 167, 168, 169, 170, 171, 172, 173, 174, 175, 176, 177, 178, 179, 180, 181, 182, 184, 185, 186, 187, 188, 189, 190, 191, 192, 193, 204, 205, 206, 207, 600, 601, 602] (by decide +kernel) (by decide +kernel)) (goodIn_cut 60 (goodIn_r _ [603, 604, 605, 606, 607, 608, 609, 610, 611, 612, 613, 298, 614, 615, 616, 617, 618, 619, 620, 621, 622, 40, 41, 42, 43, 44, 45, 46, 47, 48, 52, 663, 664, 665, 666, 634, 635, 636, 637, 638, 639, 640, 641, 642, 643, 644, 645, 667, 668, 669, 670, 671, 672, 673, 646, 647, 648, 649, 650, 651] (by decide +kernel) (by decide +kernel)) (goodIn_r _ [652, 653, 654, 655, 659, 660, 661, 662, 674, 675, 656, 657, 658] (by decide +kernel) (by decide +kernel)))))))) (goodIn_sub (fun _ h => List.mem_cons_of_mem _ (List.mem_append_left _ (List.mem_append_left _ (List.mem_append_right _ h)))) (by decide +kernel))) (goodIn_sub (fun _ h => List.mem_cons_of_mem _ (List.mem_append_right _ h)) (by decide +kernel))) (goodIn_sub (fun _ h => List.mem_cons_of_mem _ (List.mem_append_left _ (List.mem_append_left _ (List.mem_append_left _ (List.mem_append_right _ h))))) (by decide +kernel))) (goodIn_sub (fun _ h => List.mem_cons_of_mem _ (List.mem_append_left _ (List.mem_append_right _ h))) (by decide +kernel))) (goodIn_sub (fun _ h => List.mem_cons_of_mem _ (List.mem_append_left _ (List.mem_append_left _ (List.mem_append_left _ (List.mem_append_left _ (List.mem_append_left _ (List.mem_append_right _ h))))))) (by decide +kernel))
set_option maxRecDepth 20000 in
theorem gL_changes_L_runs : GoodIn wsL_changes (va_wsS RL 271 yL_runs wsL_runs) := goodIn_app (goodIn_of _ (by decide +kernel)) ggL_changes_L_runs
set_option maxRecDepth 20000 in
theorem ggL_changes_L_fail : GoodIn wsL_changes wsL_fail := goodIn_ca (goodIn_ca (goodIn_ca (goodIn_ca (goodIn_ca (goodIn_ca (goodIn_cut 60 (goodIn_r _ [625, 78, 626, 627, 628, 15, 629, 17, 18, 599, 580, 581, 21, 582, 94, 23, 24, 95, 96, 97, 55, 98, 67, 583, 584, 585, 586, 183, 103, 104, 105, 106, 107, 108, 109, 57, 587, 588, 589, 590, 62, 591, 592, 593, 594, 63, 68, 25, 26, 27, 28, 29, 30, 31, 32, 33, 34, 35, 36, 37] (by decide +kernel) (by decide +kernel)) (goodIn_cut 60 (goodIn_r _ [38, 39, 40, 41, 42, 43, 44, 45, 46, 47, 48, 49, 50, 51, 52, 53, 54, 56, 58, 59, 60, 61, 64, 65, 66, 69, 70, 600, 601, 602, 603, 604, 605, 606, 607, 608, 609, 610, 611, 612, 613, 298, 614, 615, 616, 617, 618, 619, 620, 621, 622, 185, 186, 187, 129, 111, 112, 113, 634, 635] (by decide +kernel) (by decide +kernel)) (goodIn_r _ [636, 637, 638, 639, 640, 641, 642, 643, 644, 645, 646, 647, 648, 649, 650, 651, 652, 653, 654, 655, 656, 657, 658, 674, 675] (by decide +kernel) (by decide +kernel)))) (goodIn_sub (fun _ h => List.mem_cons_of_mem _ (List.mem_append_right _ h)) (by decide +kernel))) (goodIn_sub (fun _ h => List.mem_cons_of_mem _ (List.mem_append_left _ (List.mem_append_left _ (List.mem_append_left _ (List.mem_append_left _ (List.mem_append_right _ h)))))) (by decide +kernel))) (goodIn_sub (fun _ h => List.mem_cons_of_mem _ (List.mem_append_left _ (List.mem_append_left _ (List.mem_append_left _ (List.mem_append_right _ h))))) (by decide +kernel))) (goodIn_sub (fun _ h => List.mem_cons_of_mem _ (List.mem_append_left _ (List.mem_append_left _ (List.mem_append_right _ h)))) (by decide +kernel))) (goodIn_sub (fun _ h => List.mem_cons_of_mem _ (List.mem_append_left _ (List.mem_append_right _ h))) (by decide +kernel))) (goodIn_sub (fun _ h => List.mem_cons_of_mem _ (List.mem_append_left _ (List.mem_append_left _ (List.mem_append_left _ (List.mem_append_left _ (List.mem_append_left _ (List.mem_append_right _ h))))))) (by decide +kernel))
set_option maxRecDepth 20000 in
theorem gL_changes_L_fail : GoodIn wsL_changes (va_wsS RL 275 yL_fail wsL_fail) := goodIn_app (goodIn_of _ (by decide +kernel)) ggL_changes_L_fail
theorem dL_changes_0 : decode cL_changes 0 = .ok (.iload_n 1, 1) := by decide +kernel
theorem dL_changes_1 : decode cL_changes 1 = .ok (.iconst 4, 1) := by decide +kernel
theorem dL_changes_2 : decode cL_changes 2 = .ok (.ishr, 1) := by decide +kernel
theorem dL_changes_3 : decode cL_changes 3 = .ok (.bipush 9, 2) := by decide +kernel
theorem dL_changes_5 : decode cL_changes 5 = .ok (.invokestatic 169, 3) := by decide +kernel
theorem dL_changes_8 : decode cL_changes 8 = .ok (.istore_n 2, 1) := by decide +kernel
theorem dL_changes_9 : decode cL_changes 9 = .ok (.iload_n 1, 1) := by decide +kernel
theorem dL_changes_10 : decode cL_changes 10 = .ok (.bipush 7, 2) := by decide +kernel
theorem dL_changes_12 : decode cL_changes 12 = .ok (.ishr, 1) := by decide +kernel
theorem dL_changes_13 : decode cL_changes 13 = .ok (.bipush 9, 2) := by decide +kernel
theorem dL_changes_15 : decode cL_changes 15 = .ok (.invokestatic 169, 3) := by decide +kernel
theorem dL_changes_18 : decode cL_changes 18 = .ok (.istore_n 3, 1) := by decide +kernel
theorem dL_changes_19 : decode cL_changes 19 = .ok (.iload_n 1, 1) := by decide +kernel
theorem dL_changes_20 : decode cL_changes 20 = .ok (.bipush 10, 2) := by decide +kernel
theorem dL_changes_22 : decode cL_changes 22 = .ok (.ishr, 1) := by decide +kernel
theorem dL_changes_23 : decode cL_changes 23 = .ok (.iload_n 1, 1) := by decide +kernel
theorem dL_changes_24 : decode cL_changes 24 = .ok (.bipush 9, 2) := by decide +kernel
theorem dL_changes_26 : decode cL_changes 26 = .ok (.ishr, 1) := by decide +kernel
theorem dL_changes_27 : decode cL_changes 27 = .ok (.iconst 3, 1) := by decide +kernel
theorem dL_changes_28 : decode cL_changes 28 = .ok (.iand, 1) := by decide +kernel
theorem dL_changes_29 : decode cL_changes 29 = .ok (.ifCond .ne 8, 3) := by decide +kernel
theorem dL_changes_32 : decode cL_changes 32 = .ok (.bipush 101, 2) := by decide +kernel
theorem dL_changes_34 : decode cL_changes 34 = .ok (.goto 5, 3) := by decide +kernel
theorem dL_changes_37 : decode cL_changes 37 = .ok (.bipush 30, 2) := by decide +kernel
theorem dL_changes_39 : decode cL_changes 39 = .ok (.invokestatic 169, 3) := by decide +kernel
theorem dL_changes_42 : decode cL_changes 42 = .ok (.istore 4, 2) := by decide +kernel
theorem dL_changes_44 : decode cL_changes 44 = .ok (.iload_n 1, 1) := by decide +kernel
theorem dL_changes_45 : decode cL_changes 45 = .ok (.bipush 24, 2) := by decide +kernel
theorem dL_changes_47 : decode cL_changes 47 = .ok (.invokestatic 169, 3) := by decide +kernel
theorem dL_changes_50 : decode cL_changes 50 = .ok (.tableswitch 324 0 18 #[90, 103, 103, 103, 103, 120, 120, 137, 137, 152, 152, 176, 189, 189, 205, 229, 229, 250, 250], 90) := by decide +kernel
theorem dL_changes_140 : decode cL_changes 140 = .ok (.aload_n 0, 1) := by decide +kernel
theorem dL_changes_141 : decode cL_changes 141 = .ok (.invokestatic 172, 3) := by decide +kernel
theorem dL_changes_144 : decode cL_changes 144 = .ok (.ifCond .lt 7, 3) := by decide +kernel
theorem dL_changes_147 : decode cL_changes 147 = .ok (.iconst 1, 1) := by decide +kernel
theorem dL_changes_148 : decode cL_changes 148 = .ok (.goto 4, 3) := by decide +kernel
theorem dL_changes_151 : decode cL_changes 151 = .ok (.iconst 0, 1) := by decide +kernel
theorem dL_changes_152 : decode cL_changes 152 = .ok (.ireturn, 1) := by decide +kernel
theorem dL_changes_153 : decode cL_changes 153 = .ok (.aload_n 0, 1) := by decide +kernel
theorem dL_changes_154 : decode cL_changes 154 = .ok (.iload_n 2, 1) := by decide +kernel
theorem dL_changes_155 : decode cL_changes 155 = .ok (.iload_n 3, 1) := by decide +kernel
theorem dL_changes_156 : decode cL_changes 156 = .ok (.iload 4, 2) := by decide +kernel
theorem dL_changes_158 : decode cL_changes 158 = .ok (.invokestatic 176, 3) := by decide +kernel
theorem dL_changes_161 : decode cL_changes 161 = .ok (.ifCond .lt 7, 3) := by decide +kernel
theorem dL_changes_164 : decode cL_changes 164 = .ok (.iconst 1, 1) := by decide +kernel
theorem dL_changes_165 : decode cL_changes 165 = .ok (.goto 4, 3) := by decide +kernel
theorem dL_changes_168 : decode cL_changes 168 = .ok (.iconst 0, 1) := by decide +kernel
theorem dL_changes_169 : decode cL_changes 169 = .ok (.ireturn, 1) := by decide +kernel
theorem dL_changes_170 : decode cL_changes 170 = .ok (.aload_n 0, 1) := by decide +kernel
theorem dL_changes_171 : decode cL_changes 171 = .ok (.iload_n 2, 1) := by decide +kernel
theorem dL_changes_172 : decode cL_changes 172 = .ok (.iload_n 3, 1) := by decide +kernel
theorem dL_changes_173 : decode cL_changes 173 = .ok (.iload 4, 2) := by decide +kernel
theorem dL_changes_175 : decode cL_changes 175 = .ok (.invokestatic 240, 3) := by decide +kernel
theorem dL_changes_178 : decode cL_changes 178 = .ok (.ifCond .lt 7, 3) := by decide +kernel
theorem dL_changes_181 : decode cL_changes 181 = .ok (.iconst 1, 1) := by decide +kernel
theorem dL_changes_182 : decode cL_changes 182 = .ok (.goto 4, 3) := by decide +kernel
theorem dL_changes_185 : decode cL_changes 185 = .ok (.iconst 0, 1) := by decide +kernel
theorem dL_changes_186 : decode cL_changes 186 = .ok (.ireturn, 1) := by decide +kernel
theorem dL_changes_187 : decode cL_changes 187 = .ok (.aload_n 0, 1) := by decide +kernel
theorem dL_changes_188 : decode cL_changes 188 = .ok (.iload_n 2, 1) := by decide +kernel
theorem dL_changes_189 : decode cL_changes 189 = .ok (.iload_n 3, 1) := by decide +kernel
theorem dL_changes_190 : decode cL_changes 190 = .ok (.invokestatic 242, 3) := by decide +kernel
theorem dL_changes_193 : decode cL_changes 193 = .ok (.ifCond .lt 7, 3) := by decide +kernel
theorem dL_changes_196 : decode cL_changes 196 = .ok (.iconst 1, 1) := by decide +kernel
theorem dL_changes_197 : decode cL_changes 197 = .ok (.goto 4, 3) := by decide +kernel
theorem dL_changes_200 : decode cL_changes 200 = .ok (.iconst 0, 1) := by decide +kernel
theorem dL_changes_201 : decode cL_changes 201 = .ok (.ireturn, 1) := by decide +kernel
theorem dL_changes_202 : decode cL_changes 202 = .ok (.aload_n 0, 1) := by decide +kernel
theorem dL_changes_203 : decode cL_changes 203 = .ok (.iload_n 2, 1) := by decide +kernel
theorem dL_changes_204 : decode cL_changes 204 = .ok (.iload_n 3, 1) := by decide +kernel
theorem dL_changes_205 : decode cL_changes 205 = .ok (.iload_n 1, 1) := by decide +kernel
theorem dL_changes_206 : decode cL_changes 206 = .ok (.bipush 11, 2) := by decide +kernel
theorem dL_changes_208 : decode cL_changes 208 = .ok (.ishr, 1) := by decide +kernel
theorem dL_changes_209 : decode cL_changes 209 = .ok (.bipush 9, 2) := by decide +kernel
theorem dL_changes_211 : decode cL_changes 211 = .ok (.invokestatic 169, 3) := by decide +kernel
theorem dL_changes_214 : decode cL_changes 214 = .ok (.invokestatic 244, 3) := by decide +kernel
theorem dL_changes_217 : decode cL_changes 217 = .ok (.ifCond .lt 7, 3) := by decide +kernel
theorem dL_changes_220 : decode cL_changes 220 = .ok (.iconst 1, 1) := by decide +kernel
theorem dL_changes_221 : decode cL_changes 221 = .ok (.goto 4, 3) := by decide +kernel
theorem dL_changes_224 : decode cL_changes 224 = .ok (.iconst 0, 1) := by decide +kernel
theorem dL_changes_225 : decode cL_changes 225 = .ok (.ireturn, 1) := by decide +kernel
theorem dL_changes_226 : decode cL_changes 226 = .ok (.aload_n 0, 1) := by decide +kernel
theorem dL_changes_227 : decode cL_changes 227 = .ok (.invokevirtual 246, 3) := by decide +kernel
theorem dL_changes_230 : decode cL_changes 230 = .ok (.ifCond .lt 7, 3) := by decide +kernel
theorem dL_changes_233 : decode cL_changes 233 = .ok (.iconst 1, 1) := by decide +kernel
theorem dL_changes_234 : decode cL_changes 234 = .ok (.goto 4, 3) := by decide +kernel
theorem dL_changes_237 : decode cL_changes 237 = .ok (.iconst 0, 1) := by decide +kernel
theorem dL_changes_238 : decode cL_changes 238 = .ok (.ireturn, 1) := by decide +kernel
theorem dL_changes_239 : decode cL_changes 239 = .ok (.aload_n 0, 1) := by decide +kernel
theorem dL_changes_240 : decode cL_changes 240 = .ok (.iload_n 2, 1) := by decide +kernel
theorem dL_changes_241 : decode cL_changes 241 = .ok (.iload 4, 2) := by decide +kernel
theorem dL_changes_243 : decode cL_changes 243 = .ok (.invokestatic 179, 3) := by decide +kernel
theorem dL_changes_246 : decode cL_changes 246 = .ok (.ifCond .lt 7, 3) := by decide +kernel
theorem dL_changes_249 : decode cL_changes 249 = .ok (.iconst 1, 1) := by decide +kernel
theorem dL_changes_250 : decode cL_changes 250 = .ok (.goto 4, 3) := by decide +kernel
theorem dL_changes_253 : decode cL_changes 253 = .ok (.iconst 0, 1) := by decide +kernel
theorem dL_changes_254 : decode cL_changes 254 = .ok (.ireturn, 1) := by decide +kernel
theorem dL_changes_255 : decode cL_changes 255 = .ok (.aload_n 0, 1) := by decide +kernel
theorem dL_changes_256 : decode cL_changes 256 = .ok (.iload_n 2, 1) := by decide +kernel
theorem dL_changes_257 : decode cL_changes 257 = .ok (.iload_n 1, 1) := by decide +kernel
theorem dL_changes_258 : decode cL_changes 258 = .ok (.bipush 8, 2) := by decide +kernel
theorem dL_changes_260 : decode cL_changes 260 = .ok (.ishr, 1) := by decide +kernel
theorem dL_changes_261 : decode cL_changes 261 = .ok (.sipush 510, 3) := by decide +kernel
theorem dL_changes_264 : decode cL_changes 264 = .ok (.invokestatic 169, 3) := by decide +kernel
theorem dL_changes_267 : decode cL_changes 267 = .ok (.invokestatic 249, 3) := by decide +kernel
theorem dL_changes_270 : decode cL_changes 270 = .ok (.ifCond .lt 7, 3) := by decide +kernel
theorem dL_changes_273 : decode cL_changes 273 = .ok (.iconst 1, 1) := by decide +kernel
theorem dL_changes_274 : decode cL_changes 274 = .ok (.goto 4, 3) := by decide +kernel
theorem dL_changes_277 : decode cL_changes 277 = .ok (.iconst 0, 1) := by decide +kernel
theorem dL_changes_278 : decode cL_changes 278 = .ok (.ireturn, 1) := by decide +kernel
theorem dL_changes_279 : decode cL_changes 279 = .ok (.aload_n 0, 1) := by decide +kernel
theorem dL_changes_280 : decode cL_changes 280 = .ok (.iload_n 1, 1) := by decide +kernel
theorem dL_changes_281 : decode cL_changes 281 = .ok (.iconst 4, 1) := by decide +kernel
theorem dL_changes_282 : decode cL_changes 282 = .ok (.ishr, 1) := by decide +kernel
theorem dL_changes_283 : decode cL_changes 283 = .ok (.bipush 93, 2) := by decide +kernel
theorem dL_changes_285 : decode cL_changes 285 = .ok (.invokestatic 169, 3) := by decide +kernel
theorem dL_changes_288 : decode cL_changes 288 = .ok (.invokestatic 174, 3) := by decide +kernel
theorem dL_changes_291 : decode cL_changes 291 = .ok (.ifCond .lt 7, 3) := by decide +kernel
theorem dL_changes_294 : decode cL_changes 294 = .ok (.iconst 1, 1) := by decide +kernel
theorem dL_changes_295 : decode cL_changes 295 = .ok (.goto 4, 3) := by decide +kernel
theorem dL_changes_298 : decode cL_changes 298 = .ok (.iconst 0, 1) := by decide +kernel
theorem dL_changes_299 : decode cL_changes 299 = .ok (.ireturn, 1) := by decide +kernel
theorem dL_changes_300 : decode cL_changes 300 = .ok (.aload_n 0, 1) := by decide +kernel
theorem dL_changes_301 : decode cL_changes 301 = .ok (.iload_n 1, 1) := by decide +kernel
theorem dL_changes_302 : decode cL_changes 302 = .ok (.bipush 6, 2) := by decide +kernel
theorem dL_changes_304 : decode cL_changes 304 = .ok (.ishr, 1) := by decide +kernel
theorem dL_changes_305 : decode cL_changes 305 = .ok (.iconst 1, 1) := by decide +kernel
theorem dL_changes_306 : decode cL_changes 306 = .ok (.iand, 1) := by decide +kernel
theorem dL_changes_307 : decode cL_changes 307 = .ok (.ifCond .ne 35, 3) := by decide +kernel
theorem dL_changes_310 : decode cL_changes 310 = .ok (.new 251, 3) := by decide +kernel
theorem dL_changes_313 : decode cL_changes 313 = .ok (.dup, 1) := by decide +kernel
theorem dL_changes_314 : decode cL_changes 314 = .ok (.invokespecial 253, 3) := by decide +kernel
theorem dL_changes_317 : decode cL_changes 317 = .ok (.ldc 254, 2) := by decide +kernel
theorem dL_changes_319 : decode cL_changes 319 = .ok (.invokevirtual 256, 3) := by decide +kernel
theorem dL_changes_322 : decode cL_changes 322 = .ok (.iload_n 2, 1) := by decide +kernel
theorem dL_changes_323 : decode cL_changes 323 = .ok (.invokevirtual 260, 3) := by decide +kernel
theorem dL_changes_326 : decode cL_changes 326 = .ok (.ldc_w 263, 3) := by decide +kernel
theorem dL_changes_329 : decode cL_changes 329 = .ok (.invokevirtual 256, 3) := by decide +kernel
theorem dL_changes_332 : decode cL_changes 332 = .ok (.iload_n 3, 1) := by decide +kernel
theorem dL_changes_333 : decode cL_changes 333 = .ok (.invokevirtual 260, 3) := by decide +kernel
theorem dL_changes_336 : decode cL_changes 336 = .ok (.invokevirtual 265, 3) := by decide +kernel
theorem dL_changes_339 : decode cL_changes 339 = .ok (.goto 23, 3) := by decide +kernel
theorem dL_changes_342 : decode cL_changes 342 = .ok (.new 251, 3) := by decide +kernel
theorem dL_changes_345 : decode cL_changes 345 = .ok (.dup, 1) := by decide +kernel
theorem dL_changes_346 : decode cL_changes 346 = .ok (.invokespecial 253, 3) := by decide +kernel
theorem dL_changes_349 : decode cL_changes 349 = .ok (.ldc_w 269, 3) := by decide +kernel
theorem dL_changes_352 : decode cL_changes 352 = .ok (.invokevirtual 256, 3) := by decide +kernel
theorem dL_changes_355 : decode cL_changes 355 = .ok (.iload_n 2, 1) := by decide +kernel
theorem dL_changes_356 : decode cL_changes 356 = .ok (.invokevirtual 260, 3) := by decide +kernel
theorem dL_changes_359 : decode cL_changes 359 = .ok (.invokevirtual 265, 3) := by decide +kernel
theorem dL_changes_362 : decode cL_changes 362 = .ok (.invokestatic 271, 3) := by decide +kernel
theorem dL_changes_365 : decode cL_changes 365 = .ok (.ifCond .lt 7, 3) := by decide +kernel
theorem dL_changes_368 : decode cL_changes 368 = .ok (.iconst 1, 1) := by decide +kernel
theorem dL_changes_369 : decode cL_changes 369 = .ok (.goto 4, 3) := by decide +kernel
theorem dL_changes_372 : decode cL_changes 372 = .ok (.iconst 0, 1) := by decide +kernel
theorem dL_changes_373 : decode cL_changes 373 = .ok (.ireturn, 1) := by decide +kernel
theorem dL_changes_374 : decode cL_changes 374 = .ok (.aload_n 0, 1) := by decide +kernel
theorem dL_changes_375 : decode cL_changes 375 = .ok (.iload_n 2, 1) := by decide +kernel
theorem dL_changes_376 : decode cL_changes 376 = .ok (.invokestatic 275, 3) := by decide +kernel
theorem dL_changes_379 : decode cL_changes 379 = .ok (.ifCond .lt 7, 3) := by decide +kernel
theorem dL_changes_382 : decode cL_changes 382 = .ok (.iconst 1, 1) := by decide +kernel
theorem dL_changes_383 : decode cL_changes 383 = .ok (.goto 4, 3) := by decide +kernel
theorem dL_changes_386 : decode cL_changes 386 = .ok (.iconst 0, 1) := by decide +kernel
theorem dL_changes_387 : decode cL_changes 387 = .ok (.ireturn, 1) := by decide +kernel

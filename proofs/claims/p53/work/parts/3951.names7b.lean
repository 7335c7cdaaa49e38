set_option maxRecDepth 20000 in
theorem ggL_asks_L_collateral : GoodIn wsL_asks wsL_collateral := goodIn_ca (goodIn_ca (goodIn_ca (goodIn_ca (goodIn_ca (goodIn_r _ [116, 117, 118, 119, 120, 5, 121, 7, 122, 123, 124, 125, 126, 127, 128, 129, 130, 23, 131, 25, 132, 133, 134, 135, 136, 137, 138, 139, 140, 141, 142, 143, 144, 145, 146, 478, 479, 480, 481, 482, 483, 484, 485, 486, 487, 488, 489, 490, 491, 492, 493, 494, 495, 496, 497, 498, 499] (by decide +kernel) (by decide +kernel)) (goodIn_sub (fun _ h => List.mem_cons_of_mem _ (List.mem_append_left _ (List.mem_append_left _ (List.mem_append_left _ (List.mem_append_left _ (List.mem_append_left _ (List.mem_append_right _ h))))))) (by decide +kernel))) (goodIn_sub (fun _ h => List.mem_cons_of_mem _ (List.mem_append_left _ (List.mem_append_left _ (List.mem_append_left _ (List.mem_append_left _ (List.mem_append_right _ h)))))) (by decide +kernel))) (goodIn_sub (fun _ h => List.mem_cons_of_mem _ (List.mem_append_left _ (List.mem_append_left _ (List.mem_append_left _ (List.mem_append_right _ h))))) (by decide +kernel))) (goodIn_sub (fun _ h => List.mem_cons_of_mem _ (List.mem_append_left _ (List.mem_append_left _ (List.mem_append_right _ h)))) (by decide +kernel))) (goodIn_sub (fun _ h => List.mem_cons_of_mem _ (List.mem_append_left _ (List.mem_append_right _ h))) (by decide +kernel))
set_option maxRecDepth 20000 in
theorem gL_asks_L_collateral : GoodIn wsL_asks (va_wsS RL 217 yL_collateral wsL_collateral) := goodIn_app (goodIn_of _ (by decide +kernel)) ggL_asks_L_collateral
set_option maxRecDepth 20000 in
theorem ggL_asks_L_cover : GoodIn wsL_asks wsL_cover := goodIn_ca (goodIn_ca (goodIn_ca (goodIn_ca (goodIn_ca (goodIn_r _ [149, 117, 150, 151, 152, 5, 153, 7, 122, 123, 124, 125, 126, 127, 128, 129, 130, 23, 131, 25, 132, 133, 134, 135, 136, 137, 138, 139, 140, 141, 142, 143, 144, 145, 146, 154, 155, 156, 157, 158, 159, 478, 479, 480, 481, 482, 483, 484, 485, 486, 487, 488, 489, 490, 491, 492, 493, 494, 495, 496, 497, 498, 499] (by decide +kernel) (by decide +kernel)) (goodIn_sub (fun _ h => List.mem_cons_of_mem _ (List.mem_append_left _ (List.mem_append_left _ (List.mem_append_left _ (List.mem_append_left _ (List.mem_append_right _ h)))))) (by decide +kernel))) (goodIn_sub (fun _ h => List.mem_cons_of_mem _ (List.mem_append_left _ (List.mem_append_left _ (List.mem_append_left _ (List.mem_append_right _ h))))) (by decide +kernel))) (goodIn_sub (fun _ h => List.mem_cons_of_mem _ (List.mem_append_left _ (List.mem_append_left _ (List.mem_append_right _ h)))) (by decide +kernel))) (goodIn_sub (fun _ h => List.mem_cons_of_mem _ (List.mem_append_left _ (List.mem_append_right _ h))) (by decide +kernel))) (goodIn_sub (fun _ h => List.mem_cons_of_mem _ (List.mem_append_left _ (List.mem_append_left _ (List.mem_append_left _ (List.mem_append_left _ (List.mem_append_left _ (List.mem_append_right _ h))))))) (by decide +kernel))
set_option maxRecDepth 20000 in
theorem gL_asks_L_cover : GoodIn wsL_asks (va_wsS RL 219 yL_cover wsL_cover) := goodIn_app (goodIn_of _ (by decide +kernel)) ggL_asks_L_cover
set_option maxRecDepth 20000 in
theorem ggL_asks_L_limit : GoodIn wsL_asks wsL_limit := goodIn_ca (goodIn_ca (goodIn_ca (goodIn_ca (goodIn_ca (goodIn_r _ [162, 117, 163, 164, 165, 5, 166, 7, 122, 123, 124, 125, 126, 127, 128, 129, 130, 23, 131, 25, 132, 133, 134, 135, 136, 137, 138, 139, 140, 141, 142, 143, 144, 145, 146, 478, 479, 480, 481, 482, 483, 484, 485, 486, 487, 488, 489, 490, 491, 492, 493, 494, 495, 496, 497, 498, 499] (by decide +kernel) (by decide +kernel)) (goodIn_sub (fun _ h => List.mem_cons_of_mem _ (List.mem_append_left _ (List.mem_append_left _ (List.mem_append_left _ (List.mem_append_left _ (List.mem_append_left _ (List.mem_append_right _ h))))))) (by decide +kernel))) (goodIn_sub (fun _ h => List.mem_cons_of_mem _ (List.mem_append_left _ (List.mem_append_left _ (List.mem_append_left _ (List.mem_append_left _ (List.mem_append_right _ h)))))) (by decide +kernel))) (goodIn_sub (fun _ h => List.mem_cons_of_mem _ (List.mem_append_left _ (List.mem_append_left _ (List.mem_append_left _ (List.mem_append_right _ h))))) (by decide +kernel))) (goodIn_sub (fun _ h => List.mem_cons_of_mem _ (List.mem_append_left _ (List.mem_append_left _ (List.mem_append_right _ h)))) (by decide +kernel))) (goodIn_sub (fun _ h => List.mem_cons_of_mem _ (List.mem_append_left _ (List.mem_append_right _ h))) (by decide +kernel))
set_option maxRecDepth 20000 in
theorem gL_asks_L_limit : GoodIn wsL_asks (va_wsS RL 221 yL_limit wsL_limit) := goodIn_app (goodIn_of _ (by decide +kernel)) ggL_asks_L_limit
set_option maxRecDepth 20000 in
theorem ggL_asks_L_byAccount : GoodIn wsL_asks wsL_byAccount := goodIn_ca (goodIn_ca (goodIn_ca (goodIn_ca (goodIn_ca (goodIn_r _ [169, 117, 170, 171, 172, 5, 173, 7, 122, 123, 124, 125, 126, 127, 128, 129, 130, 23, 131, 25, 132, 133, 134, 135, 136, 137, 138, 139, 140, 141, 142, 143, 144, 145, 146, 478, 479, 480, 481, 482, 483, 484, 485, 486, 487, 488, 489, 490, 491, 492, 493, 494, 495, 496, 497, 498, 499] (by decide +kernel) (by decide +kernel)) (goodIn_sub (fun _ h => List.mem_cons_of_mem _ (List.mem_append_left _ (List.mem_append_left _ (List.mem_append_left _ (List.mem_append_left _ (List.mem_append_left _ (List.mem_append_right _ h))))))) (by decide +kernel))) (goodIn_sub (fun _ h => List.mem_cons_of_mem _ (List.mem_append_left _ (List.mem_append_left _ (List.mem_append_left _ (List.mem_append_left _ (List.mem_append_right _ h)))))) (by decide +kernel))) (goodIn_sub (fun _ h => List.mem_cons_of_mem _ (List.mem_append_left _ (List.mem_append_left _ (List.mem_append_left _ (List.mem_append_right _ h))))) (by decide +kernel))) (goodIn_sub (fun _ h => List.mem_cons_of_mem _ (List.mem_append_left _ (List.mem_append_left _ (List.mem_append_right _ h)))) (by decide +kernel))) (goodIn_sub (fun _ h => List.mem_cons_of_mem _ (List.mem_append_left _ (List.mem_append_right _ h))) (by decide +kernel))
set_option maxRecDepth 20000 in
theorem gL_asks_L_byAccount : GoodIn wsL_asks (va_wsS RL 223 yL_byAccount wsL_byAccount) := goodIn_app (goodIn_of _ (by decide +kernel)) ggL_asks_L_byAccount
set_option maxRecDepth 20000 in
theorem ggL_asks_L_reachCount : GoodIn wsL_asks wsL_reachCount := goodIn_ca (goodIn_ca (goodIn_ca (goodIn_ca (goodIn_ca (goodIn_r _ [176, 117, 177, 178, 179, 5, 180, 7, 99, 122, 123, 124, 125, 126, 127, 128, 129, 130, 23, 131, 25, 132, 133, 134, 135, 136, 137, 138, 139, 140, 141, 142, 143, 144, 145, 146, 181, 182, 183, 103, 184, 105, 106, 107, 108, 109, 185, 186, 187, 188, 189, 110, 111, 112, 113, 190, 191, 192, 193, 194, 195, 196, 478, 479, 480, 481, 482, 483, 484, 485, 486, 487, 488, 489, 490, 491, 492, 493, 494, 495, 496, 497, 498, 499, 500, 501, 502, 503, 504] (by decide +kernel) (by decide +kernel)) (goodIn_sub (fun _ h => List.mem_cons_of_mem _ (List.mem_append_left _ (List.mem_append_left _ (List.mem_append_left _ (List.mem_append_left _ (List.mem_append_right _ h)))))) (by decide +kernel))) (goodIn_sub (fun _ h => List.mem_cons_of_mem _ (List.mem_append_left _ (List.mem_append_left _ (List.mem_append_left _ (List.mem_append_right _ h))))) (by decide +kernel))) (goodIn_sub (fun _ h => List.mem_cons_of_mem _ (List.mem_append_left _ (List.mem_append_left _ (List.mem_append_right _ h)))) (by decide +kernel))) (goodIn_sub (fun _ h => List.mem_cons_of_mem _ (List.mem_append_left _ (List.mem_append_right _ h))) (by decide +kernel))) (goodIn_sub (fun _ h => List.mem_cons_of_mem _ (List.mem_append_left _ (List.mem_append_left _ (List.mem_append_left _ (List.mem_append_left _ (List.mem_append_left _ (List.mem_append_right _ h))))))) (by decide +kernel))
set_option maxRecDepth 20000 in
theorem gL_asks_L_reachCount : GoodIn wsL_asks (va_wsS RL 226 yL_reachCount wsL_reachCount) := goodIn_app (goodIn_of _ (by decide +kernel)) ggL_asks_L_reachCount
set_option maxRecDepth 20000 in
theorem ggL_asks_L_byPosition : GoodIn wsL_asks wsL_byPosition := goodIn_ca (goodIn_ca (goodIn_r _ [199, 200, 201, 202, 203, 5, 204, 205, 206, 7, 207, 208, 209, 23, 210, 25, 211, 212, 213, 214, 215, 216, 217, 218, 219, 30, 31, 32, 33, 34, 35, 36, 37, 38, 39, 40, 41, 42, 43, 44, 45, 46, 220, 221, 192, 222, 478, 479, 480, 481, 482, 483, 484, 485, 486, 487, 488, 489, 490, 491, 492, 493, 494, 495, 496, 497, 498, 499] (by decide +kernel) (by decide +kernel)) (goodIn_sub (fun _ h => List.mem_cons_of_mem _ (List.mem_append_right _ h)) (by decide +kernel))) (goodIn_sub (fun _ h => List.mem_cons_of_mem _ (List.mem_append_left _ (List.mem_append_left _ (List.mem_append_left _ (List.mem_append_left _ (List.mem_append_left _ (List.mem_append_right _ h))))))) (by decide +kernel))
set_option maxRecDepth 20000 in
theorem gL_asks_L_byPosition : GoodIn wsL_asks (va_wsS RL 228 yL_byPosition wsL_byPosition) := goodIn_app (goodIn_of _ (by decide +kernel)) ggL_asks_L_byPosition
set_option maxRecDepth 20000 in
theorem ggL_asks_L_lossIf : GoodIn wsL_asks wsL_lossIf := goodIn_ca (goodIn_ca (goodIn_ca (goodIn_ca (goodIn_ca (goodIn_r _ [225, 117, 226, 227, 228, 5, 229, 7, 230, 231, 124, 232, 127, 126, 233, 128, 129, 130, 23, 131, 25, 234, 235, 236, 237, 43, 44, 45, 46, 38, 39, 40, 41, 42, 238, 239, 240, 241, 219, 242, 155, 156, 157, 158, 159, 132, 133, 134, 135, 136, 137, 138, 139, 140, 141, 142, 143, 144, 145, 146, 243, 478, 479, 480, 481, 482, 483, 484, 485, 486, 487, 488, 489, 490, 491, 492, 493, 494, 495, 496, 497, 498, 499] (by decide +kernel) (by decide +kernel)) (goodIn_sub (fun _ h => List.mem_cons_of_mem _ (List.mem_append_left _ (List.mem_append_left _ (List.mem_append_left _ (List.mem_append_left _ (List.mem_append_left _ (List.mem_append_right _ h))))))) (by decide +kernel))) (goodIn_sub (fun _ h => List.mem_cons_of_mem _ (List.mem_append_left _ (List.mem_append_left _ (List.mem_append_left _ (List.mem_append_left _ (List.mem_append_right _ h)))))) (by decide +kernel))) (goodIn_sub (fun _ h => List.mem_cons_of_mem _ (List.mem_append_left _ (List.mem_append_left _ (List.mem_append_left _ (List.mem_append_right _ h))))) (by decide +kernel))) (goodIn_sub (fun _ h => List.mem_cons_of_mem _ (List.mem_append_left _ (List.mem_append_left _ (List.mem_append_right _ h)))) (by decide +kernel))) (goodIn_sub (fun _ h => List.mem_cons_of_mem _ (List.mem_append_left _ (List.mem_append_right _ h))) (by decide +kernel))
set_option maxRecDepth 20000 in
theorem gL_asks_L_lossIf : GoodIn wsL_asks (va_wsS RL 231 yL_lossIf wsL_lossIf) := goodIn_app (goodIn_of _ (by decide +kernel)) ggL_asks_L_lossIf
set_option maxRecDepth 20000 in
theorem ggL_asks_L_writeDebts : GoodIn wsL_asks wsL_writeDebts := goodIn_ca (goodIn_ca (goodIn_ca (goodIn_ca (goodIn_ca (goodIn_cut 60 (goodIn_r _ [246, 117, 247, 248, 249, 5, 250, 7, 251, 122, 123, 124, 125, 126, 127, 128, 129, 130, 23, 131, 25, 132, 133, 134, 135, 136, 137, 138, 139, 140, 141, 142, 143, 144, 145, 146, 252, 253, 254, 255, 256, 257, 258, 259, 260, 261, 262, 263, 264, 265, 266, 267, 268, 269, 270, 271, 272, 273, 274, 275] (by decide +kernel) (by decide +kernel)) (goodIn_cut 60 (goodIn_r _ [276, 277, 278, 279, 280, 281, 282, 283, 284, 285, 286, 28, 287, 288, 289, 290, 291, 292, 293, 294, 295, 296, 297, 298, 299, 300, 301, 302, 303, 304, 305, 306, 307, 308, 309, 310, 311, 312, 313, 314, 315, 316, 317, 318, 319, 320, 321, 322, 323, 324, 325, 326, 327, 328, 329, 330, 331, 332, 333, 334] (by decide +kernel) (by decide +kernel)) (goodIn_cut 60 (goodIn_r _ [335, 336, 337, 338, 339, 340, 341, 342, 343, 344, 345, 192, 346, 347, 348, 349, 350, 351, 352, 353, 354, 355, 356, 357, 358, 359, 360, 361, 362, 363, 364, 365, 366, 367, 368, 369, 370, 371, 372, 373, 374, 375, 376, 377, 378, 379, 380, 381, 382, 383, 384, 385, 386, 387, 388, 389, 390, 391, 392, 393] (by decide +kernel) (by decide +kernel)) (goodIn_cut 60 (goodIn_r _ [394, 395, 396, 397, 398, 399, 400, 401, 402, 403, 404, 405, 406, 407, 408, 409, 410, 411, 412, 413, 414, 415, 416, 417, 418, 419, 420, 421, 422, 423, 424, 425, 426, 427, 428, 429, 430, 431, 39, 40, 41, 42, 432, 433, 434, 435, 436, 437, 438, 439, 478, 479, 480, 481, 482, 483, 484, 485, 486, 487] (by decide +kernel) (by decide +kernel)) (goodIn_r _ [488, 489, 490, 491, 492, 493, 494, 495, 496, 497, 498, 499, 505, 506, 507, 508, 509, 510, 511, 512, 513, 514, 515, 516, 517, 518, 519, 520] (by decide +kernel) (by decide +kernel)))))) (goodIn_sub (fun _ h => List.mem_cons_of_mem _ (List.mem_append_left _ (List.mem_append_left _ (List.mem_append_left _ (List.mem_append_left _ (List.mem_append_left _ (List.mem_append_right _ h))))))) (by decide +kernel))) (goodIn_sub (fun _ h => List.mem_cons_of_mem _ (List.mem_append_left _ (List.mem_append_left _ (List.mem_append_left _ (List.mem_append_left _ (List.mem_append_right _ h)))))) (by decide +kernel))) (goodIn_sub (fun _ h => List.mem_cons_of_mem _ (List.mem_append_left _ (List.mem_append_left _ (List.mem_append_left _ (List.mem_append_right _ h))))) (by decide +kernel))) (goodIn_sub (fun _ h => List.mem_cons_of_mem _ (List.mem_append_left _ (List.mem_append_left _ (List.mem_append_right _ h)))) (by decide +kernel))) (goodIn_sub (fun _ h => List.mem_cons_of_mem _ (List.mem_append_left _ (List.mem_append_right _ h))) (by decide +kernel))
set_option maxRecDepth 20000 in
theorem gL_asks_L_writeDebts : GoodIn wsL_asks (va_wsS RL 234 yL_writeDebts wsL_writeDebts) := goodIn_app (goodIn_of _ (by decide +kernel)) ggL_asks_L_writeDebts
set_option maxRecDepth 20000 in
theorem ggL_asks_L_outputChar : GoodIn wsL_asks wsL_outputChar := goodIn_ca (goodIn_r _ [442, 117, 443, 444, 445, 5, 446, 135, 136, 251, 432, 433, 434, 255, 435, 436, 437, 259, 438, 261, 439, 266, 447, 448, 449, 450, 451, 452, 453, 454, 274, 267, 455, 304, 28, 305, 456, 426, 364, 427, 366, 428, 429, 369, 430, 457, 458, 333, 459, 355, 379, 380, 359, 360, 361, 478, 479, 480, 481, 482, 483, 484, 485, 486, 487, 488, 489, 511, 512, 513, 514] (by decide +kernel) (by decide +kernel)) (goodIn_sub (fun _ h => List.mem_cons_of_mem _ (List.mem_append_left _ (List.mem_append_left _ (List.mem_append_left _ (List.mem_append_left _ (List.mem_append_right _ h)))))) (by decide +kernel))
set_option maxRecDepth 20000 in
theorem gL_asks_L_outputChar : GoodIn wsL_asks (va_wsS RL 162 yL_outputChar wsL_outputChar) := goodIn_app (goodIn_of _ (by decide +kernel)) ggL_asks_L_outputChar
set_option maxRecDepth 20000 in
theorem ggL_asks_L_largestDebtor : GoodIn wsL_asks wsL_largestDebtor := goodIn_ca (goodIn_ca (goodIn_r _ [462, 200, 463, 464, 465, 5, 466, 205, 206, 7, 467, 468, 469, 23, 470, 42, 478, 479, 480, 481, 482, 483, 484, 485, 486, 487, 488, 489, 490, 491, 492, 493, 494, 495, 496, 497, 498, 499] (by decide +kernel) (by decide +kernel)) (goodIn_sub (fun _ h => List.mem_cons_of_mem _ (List.mem_append_right _ h)) (by decide +kernel))) (goodIn_sub (fun _ h => List.mem_cons_of_mem _ (List.mem_append_left _ (List.mem_append_left _ (List.mem_append_left _ (List.mem_append_left _ (List.mem_append_left _ (List.mem_append_right _ h))))))) (by decide +kernel))
set_option maxRecDepth 20000 in
theorem gL_asks_L_largestDebtor : GoodIn wsL_asks (va_wsS RL 236 yL_largestDebtor wsL_largestDebtor) := goodIn_app (goodIn_of _ (by decide +kernel)) ggL_asks_L_largestDebtor
set_option maxRecDepth 20000 in
theorem ggL_asks_L_largestCreditor : GoodIn wsL_asks wsL_largestCreditor := goodIn_ca (goodIn_ca (goodIn_r _ [473, 200, 474, 475, 476, 5, 477, 205, 206, 7, 467, 468, 469, 23, 470, 42, 478, 479, 480, 481, 482, 483, 484, 485, 486, 487, 488, 489, 490, 491, 492, 493, 494, 495, 496, 497, 498, 499] (by decide +kernel) (by decide +kernel)) (goodIn_sub (fun _ h => List.mem_cons_of_mem _ (List.mem_append_right _ h)) (by decide +kernel))) (goodIn_sub (fun _ h => List.mem_cons_of_mem _ (List.mem_append_left _ (List.mem_append_left _ (List.mem_append_left _ (List.mem_append_left _ (List.mem_append_left _ (List.mem_append_right _ h))))))) (by decide +kernel))
set_option maxRecDepth 20000 in
theorem gL_asks_L_largestCreditor : GoodIn wsL_asks (va_wsS RL 238 yL_largestCreditor wsL_largestCreditor) := goodIn_app (goodIn_of _ (by decide +kernel)) ggL_asks_L_largestCreditor
theorem dL_asks_0 : decode cL_asks 0 = .ok (.aload_n 0, 1) := by decide +kernel
theorem dL_asks_1 : decode cL_asks 1 = .ok (.invokevirtual 182, 3) := by decide +kernel
theorem dL_asks_4 : decode cL_asks 4 = .ok (.istore_n 1, 1) := by decide +kernel
theorem dL_asks_5 : decode cL_asks 5 = .ok (.ldc2_w 185, 3) := by decide +kernel
theorem dL_asks_8 : decode cL_asks 8 = .ok (.aload_n 0, 1) := by decide +kernel
theorem dL_asks_9 : decode cL_asks 9 = .ok (.invokestatic 187, 3) := by decide +kernel
theorem dL_asks_12 : decode cL_asks 12 = .ok (.invokestatic 190, 3) := by decide +kernel
theorem dL_asks_15 : decode cL_asks 15 = .ok (.lmul, 1) := by decide +kernel
theorem dL_asks_16 : decode cL_asks 16 = .ok (.aload_n 0, 1) := by decide +kernel
theorem dL_asks_17 : decode cL_asks 17 = .ok (.invokestatic 196, 3) := by decide +kernel
theorem dL_asks_20 : decode cL_asks 20 = .ok (.invokestatic 199, 3) := by decide +kernel
theorem dL_asks_23 : decode cL_asks 23 = .ok (.i2l, 1) := by decide +kernel
theorem dL_asks_24 : decode cL_asks 24 = .ok (.ladd, 1) := by decide +kernel
theorem dL_asks_25 : decode cL_asks 25 = .ok (.lstore_n 2, 1) := by decide +kernel
theorem dL_asks_26 : decode cL_asks 26 = .ok (.ldc2_w 185, 3) := by decide +kernel
theorem dL_asks_29 : decode cL_asks 29 = .ok (.ldc2_w 185, 3) := by decide +kernel
theorem dL_asks_32 : decode cL_asks 32 = .ok (.ldc2_w 185, 3) := by decide +kernel
theorem dL_asks_35 : decode cL_asks 35 = .ok (.ldc2_w 185, 3) := by decide +kernel
theorem dL_asks_38 : decode cL_asks 38 = .ok (.ldc2_w 185, 3) := by decide +kernel
theorem dL_asks_41 : decode cL_asks 41 = .ok (.lload_n 2, 1) := by decide +kernel
theorem dL_asks_42 : decode cL_asks 42 = .ok (.lmul, 1) := by decide +kernel
theorem dL_asks_43 : decode cL_asks 43 = .ok (.iload_n 1, 1) := by decide +kernel
theorem dL_asks_44 : decode cL_asks 44 = .ok (.i2l, 1) := by decide +kernel
theorem dL_asks_45 : decode cL_asks 45 = .ok (.ladd, 1) := by decide +kernel
theorem dL_asks_46 : decode cL_asks 46 = .ok (.lmul, 1) := by decide +kernel
theorem dL_asks_47 : decode cL_asks 47 = .ok (.aload_n 0, 1) := by decide +kernel
theorem dL_asks_48 : decode cL_asks 48 = .ok (.invokevirtual 205, 3) := by decide +kernel
theorem dL_asks_51 : decode cL_asks 51 = .ok (.i2l, 1) := by decide +kernel
theorem dL_asks_52 : decode cL_asks 52 = .ok (.ladd, 1) := by decide +kernel
theorem dL_asks_53 : decode cL_asks 53 = .ok (.lmul, 1) := by decide +kernel
theorem dL_asks_54 : decode cL_asks 54 = .ok (.aload_n 0, 1) := by decide +kernel
theorem dL_asks_55 : decode cL_asks 55 = .ok (.invokevirtual 208, 3) := by decide +kernel
theorem dL_asks_58 : decode cL_asks 58 = .ok (.i2l, 1) := by decide +kernel
theorem dL_asks_59 : decode cL_asks 59 = .ok (.ladd, 1) := by decide +kernel
theorem dL_asks_60 : decode cL_asks 60 = .ok (.lmul, 1) := by decide +kernel
theorem dL_asks_61 : decode cL_asks 61 = .ok (.aload_n 0, 1) := by decide +kernel
theorem dL_asks_62 : decode cL_asks 62 = .ok (.invokevirtual 211, 3) := by decide +kernel
theorem dL_asks_65 : decode cL_asks 65 = .ok (.i2l, 1) := by decide +kernel
theorem dL_asks_66 : decode cL_asks 66 = .ok (.ladd, 1) := by decide +kernel
theorem dL_asks_67 : decode cL_asks 67 = .ok (.lmul, 1) := by decide +kernel
theorem dL_asks_68 : decode cL_asks 68 = .ok (.aload_n 0, 1) := by decide +kernel
theorem dL_asks_69 : decode cL_asks 69 = .ok (.invokevirtual 214, 3) := by decide +kernel
theorem dL_asks_72 : decode cL_asks 72 = .ok (.i2l, 1) := by decide +kernel
theorem dL_asks_73 : decode cL_asks 73 = .ok (.ladd, 1) := by decide +kernel
theorem dL_asks_74 : decode cL_asks 74 = .ok (.lstore_n 2, 1) := by decide +kernel
theorem dL_asks_75 : decode cL_asks 75 = .ok (.iconst 0, 1) := by decide +kernel
theorem dL_asks_76 : decode cL_asks 76 = .ok (.istore 4, 2) := by decide +kernel
theorem dL_asks_78 : decode cL_asks 78 = .ok (.iload 4, 2) := by decide +kernel
theorem dL_asks_80 : decode cL_asks 80 = .ok (.iload_n 1, 1) := by decide +kernel
theorem dL_asks_81 : decode cL_asks 81 = .ok (.if_icmp .ge 135, 3) := by decide +kernel
theorem dL_asks_84 : decode cL_asks 84 = .ok (.ldc2_w 185, 3) := by decide +kernel
theorem dL_asks_87 : decode cL_asks 87 = .ok (.ldc2_w 185, 3) := by decide +kernel
theorem dL_asks_90 : decode cL_asks 90 = .ok (.ldc2_w 185, 3) := by decide +kernel
theorem dL_asks_93 : decode cL_asks 93 = .ok (.ldc2_w 185, 3) := by decide +kernel
theorem dL_asks_96 : decode cL_asks 96 = .ok (.lload_n 2, 1) := by decide +kernel
theorem dL_asks_97 : decode cL_asks 97 = .ok (.lmul, 1) := by decide +kernel
theorem dL_asks_98 : decode cL_asks 98 = .ok (.aload_n 0, 1) := by decide +kernel
theorem dL_asks_99 : decode cL_asks 99 = .ok (.iload 4, 2) := by decide +kernel
theorem dL_asks_101 : decode cL_asks 101 = .ok (.invokestatic 217, 3) := by decide +kernel
theorem dL_asks_104 : decode cL_asks 104 = .ok (.i2l, 1) := by decide +kernel
theorem dL_asks_105 : decode cL_asks 105 = .ok (.ladd, 1) := by decide +kernel
theorem dL_asks_106 : decode cL_asks 106 = .ok (.lmul, 1) := by decide +kernel
theorem dL_asks_107 : decode cL_asks 107 = .ok (.aload_n 0, 1) := by decide +kernel
theorem dL_asks_108 : decode cL_asks 108 = .ok (.iload 4, 2) := by decide +kernel
theorem dL_asks_110 : decode cL_asks 110 = .ok (.invokestatic 219, 3) := by decide +kernel
theorem dL_asks_113 : decode cL_asks 113 = .ok (.i2l, 1) := by decide +kernel
theorem dL_asks_114 : decode cL_asks 114 = .ok (.ladd, 1) := by decide +kernel
theorem dL_asks_115 : decode cL_asks 115 = .ok (.lmul, 1) := by decide +kernel
theorem dL_asks_116 : decode cL_asks 116 = .ok (.aload_n 0, 1) := by decide +kernel
theorem dL_asks_117 : decode cL_asks 117 = .ok (.iload 4, 2) := by decide +kernel
theorem dL_asks_119 : decode cL_asks 119 = .ok (.invokestatic 221, 3) := by decide +kernel
theorem dL_asks_122 : decode cL_asks 122 = .ok (.i2l, 1) := by decide +kernel
theorem dL_asks_123 : decode cL_asks 123 = .ok (.ladd, 1) := by decide +kernel
theorem dL_asks_124 : decode cL_asks 124 = .ok (.lmul, 1) := by decide +kernel
theorem dL_asks_125 : decode cL_asks 125 = .ok (.aload_n 0, 1) := by decide +kernel
theorem dL_asks_126 : decode cL_asks 126 = .ok (.iload 4, 2) := by decide +kernel
theorem dL_asks_128 : decode cL_asks 128 = .ok (.invokestatic 223, 3) := by decide +kernel
theorem dL_asks_131 : decode cL_asks 131 = .ok (.i2l, 1) := by decide +kernel
theorem dL_asks_132 : decode cL_asks 132 = .ok (.ladd, 1) := by decide +kernel
theorem dL_asks_133 : decode cL_asks 133 = .ok (.lstore_n 2, 1) := by decide +kernel
theorem dL_asks_134 : decode cL_asks 134 = .ok (.ldc2_w 185, 3) := by decide +kernel
theorem dL_asks_137 : decode cL_asks 137 = .ok (.ldc2_w 185, 3) := by decide +kernel
theorem dL_asks_140 : decode cL_asks 140 = .ok (.ldc2_w 185, 3) := by decide +kernel
theorem dL_asks_143 : decode cL_asks 143 = .ok (.lload_n 2, 1) := by decide +kernel
theorem dL_asks_144 : decode cL_asks 144 = .ok (.lmul, 1) := by decide +kernel
theorem dL_asks_145 : decode cL_asks 145 = .ok (.aload_n 0, 1) := by decide +kernel
theorem dL_asks_146 : decode cL_asks 146 = .ok (.iload 4, 2) := by decide +kernel
theorem dL_asks_148 : decode cL_asks 148 = .ok (.invokestatic 226, 3) := by decide +kernel
theorem dL_asks_151 : decode cL_asks 151 = .ok (.i2l, 1) := by decide +kernel
theorem dL_asks_152 : decode cL_asks 152 = .ok (.ladd, 1) := by decide +kernel
theorem dL_asks_153 : decode cL_asks 153 = .ok (.lmul, 1) := by decide +kernel
theorem dL_asks_154 : decode cL_asks 154 = .ok (.aload_n 0, 1) := by decide +kernel
theorem dL_asks_155 : decode cL_asks 155 = .ok (.iload 4, 2) := by decide +kernel
theorem dL_asks_157 : decode cL_asks 157 = .ok (.invokestatic 228, 3) := by decide +kernel
theorem dL_asks_160 : decode cL_asks 160 = .ok (.i2l, 1) := by decide +kernel
theorem dL_asks_161 : decode cL_asks 161 = .ok (.ladd, 1) := by decide +kernel
theorem dL_asks_162 : decode cL_asks 162 = .ok (.lmul, 1) := by decide +kernel
theorem dL_asks_163 : decode cL_asks 163 = .ok (.aload_n 0, 1) := by decide +kernel
theorem dL_asks_164 : decode cL_asks 164 = .ok (.iload 4, 2) := by decide +kernel
theorem dL_asks_166 : decode cL_asks 166 = .ok (.invokestatic 231, 3) := by decide +kernel
theorem dL_asks_169 : decode cL_asks 169 = .ok (.i2l, 1) := by decide +kernel
theorem dL_asks_170 : decode cL_asks 170 = .ok (.ladd, 1) := by decide +kernel
theorem dL_asks_171 : decode cL_asks 171 = .ok (.lstore_n 2, 1) := by decide +kernel
theorem dL_asks_172 : decode cL_asks 172 = .ok (.aload_n 0, 1) := by decide +kernel
theorem dL_asks_173 : decode cL_asks 173 = .ok (.iload 4, 2) := by decide +kernel
theorem dL_asks_175 : decode cL_asks 175 = .ok (.invokestatic 234, 3) := by decide +kernel
theorem dL_asks_178 : decode cL_asks 178 = .ok (.istore 5, 2) := by decide +kernel
theorem dL_asks_180 : decode cL_asks 180 = .ok (.iconst 0, 1) := by decide +kernel
theorem dL_asks_181 : decode cL_asks 181 = .ok (.istore 6, 2) := by decide +kernel
theorem dL_asks_183 : decode cL_asks 183 = .ok (.iload 6, 2) := by decide +kernel
theorem dL_asks_185 : decode cL_asks 185 = .ok (.iload 5, 2) := by decide +kernel
theorem dL_asks_187 : decode cL_asks 187 = .ok (.if_icmp .ge 23, 3) := by decide +kernel
theorem dL_asks_190 : decode cL_asks 190 = .ok (.ldc2_w 185, 3) := by decide +kernel
theorem dL_asks_193 : decode cL_asks 193 = .ok (.lload_n 2, 1) := by decide +kernel
theorem dL_asks_194 : decode cL_asks 194 = .ok (.lmul, 1) := by decide +kernel
theorem dL_asks_195 : decode cL_asks 195 = .ok (.aload_n 0, 1) := by decide +kernel
theorem dL_asks_196 : decode cL_asks 196 = .ok (.iload 6, 2) := by decide +kernel
theorem dL_asks_198 : decode cL_asks 198 = .ok (.invokestatic 162, 3) := by decide +kernel
theorem dL_asks_201 : decode cL_asks 201 = .ok (.i2l, 1) := by decide +kernel
theorem dL_asks_202 : decode cL_asks 202 = .ok (.ladd, 1) := by decide +kernel
theorem dL_asks_203 : decode cL_asks 203 = .ok (.lstore_n 2, 1) := by decide +kernel
theorem dL_asks_204 : decode cL_asks 204 = .ok (.iinc 6 1, 3) := by decide +kernel
theorem dL_asks_207 : decode cL_asks 207 = .ok (.goto (-24), 3) := by decide +kernel
theorem dL_asks_210 : decode cL_asks 210 = .ok (.iinc 4 1, 3) := by decide +kernel
theorem dL_asks_213 : decode cL_asks 213 = .ok (.goto (-135), 3) := by decide +kernel
theorem dL_asks_216 : decode cL_asks 216 = .ok (.ldc2_w 185, 3) := by decide +kernel
theorem dL_asks_219 : decode cL_asks 219 = .ok (.ldc2_w 185, 3) := by decide +kernel
theorem dL_asks_222 : decode cL_asks 222 = .ok (.lload_n 2, 1) := by decide +kernel
theorem dL_asks_223 : decode cL_asks 223 = .ok (.lmul, 1) := by decide +kernel
theorem dL_asks_224 : decode cL_asks 224 = .ok (.aload_n 0, 1) := by decide +kernel
theorem dL_asks_225 : decode cL_asks 225 = .ok (.invokestatic 236, 3) := by decide +kernel
theorem dL_asks_228 : decode cL_asks 228 = .ok (.i2l, 1) := by decide +kernel
theorem dL_asks_229 : decode cL_asks 229 = .ok (.ladd, 1) := by decide +kernel
theorem dL_asks_230 : decode cL_asks 230 = .ok (.lmul, 1) := by decide +kernel
theorem dL_asks_231 : decode cL_asks 231 = .ok (.aload_n 0, 1) := by decide +kernel
theorem dL_asks_232 : decode cL_asks 232 = .ok (.invokestatic 238, 3) := by decide +kernel
theorem dL_asks_235 : decode cL_asks 235 = .ok (.i2l, 1) := by decide +kernel
theorem dL_asks_236 : decode cL_asks 236 = .ok (.ladd, 1) := by decide +kernel
theorem dL_asks_237 : decode cL_asks 237 = .ok (.lreturn, 1) := by decide +kernel
set_option maxRecDepth 20000 in
theorem ggL_changes_L_some : GoodIn wsL_changes wsL_some := goodIn_ca (goodIn_r _ [7] (by decide +kernel) (by decide +kernel)) (goodIn_sub (fun _ h => List.mem_cons_of_mem _ (List.mem_append_left _ (List.mem_append_left _ (List.mem_append_left _ (List.mem_append_left _ (List.mem_append_left _ (List.mem_append_right _ h))))))) (by decide +kernel))
set_option maxRecDepth 20000 in
theorem gL_changes_L_some : GoodIn wsL_changes (va_wsS RL 169 yL_some wsL_some) := goodIn_app (goodIn_of _ (by decide +kernel)) ggL_changes_L_some
set_option maxRecDepth 20000 in
theorem ggL_changes_L_addMember : GoodIn wsL_changes wsL_addMember := goodIn_ca (goodIn_ca (goodIn_ca (goodIn_ca (goodIn_ca (goodIn_r _ [10, 11, 12, 13, 14, 15, 16, 17, 18, 19, 20, 21, 22, 23, 24, 25, 26, 27, 28, 29, 30, 31, 32, 33, 34, 35, 36, 37, 38, 39, 40, 41, 42, 43, 44, 45, 46, 47, 48, 49, 50, 51, 52, 53, 54, 55, 56, 57, 58, 59, 60, 61, 62, 63, 64, 65, 66, 67, 68, 69, 70, 71, 72, 73, 74, 634, 635, 636, 637, 638, 639, 640, 641, 642, 643, 644, 645, 646, 647, 648, 649, 650, 651, 652, 653, 654, 655, 656, 657, 658] (by decide +kernel) (by decide +kernel)) (goodIn_sub (fun _ h => List.mem_cons_of_mem _ (List.mem_append_left _ (List.mem_append_left _ (List.mem_append_left _ (List.mem_append_left _ (List.mem_append_right _ h)))))) (by decide +kernel))) (goodIn_sub (fun _ h => List.mem_cons_of_mem _ (List.mem_append_left _ (List.mem_append_left _ (List.mem_append_left _ (List.mem_append_right _ h))))) (by decide +kernel))) (goodIn_sub (fun _ h => List.mem_cons_of_mem _ (List.mem_append_left _ (List.mem_append_left _ (List.mem_append_right _ h)))) (by decide +kernel))) (goodIn_sub (fun _ h => List.mem_cons_of_mem _ (List.mem_append_left _ (List.mem_append_right _ h))) (by decide +kernel))) (goodIn_sub (fun _ h => List.mem_cons_of_mem _ (List.mem_append_right _ h)) (by decide +kernel))
set_option maxRecDepth 20000 in
theorem gL_changes_L_addMember : GoodIn wsL_changes (va_wsS RL 172 yL_addMember wsL_addMember) := goodIn_app (goodIn_of _ (by decide +kernel)) ggL_changes_L_addMember
set_option maxRecDepth 20000 in
theorem ggL_changes_L_addDebt : GoodIn wsL_changes wsL_addDebt := goodIn_ca (goodIn_ca (goodIn_ca (goodIn_ca (goodIn_ca (goodIn_cut 60 (goodIn_r _ [77, 78, 79, 80, 81, 15, 82, 17, 18, 83, 84, 21, 85, 23, 24, 86, 87, 88, 89, 90, 91, 92, 93, 94, 95, 96, 97, 55, 98, 67, 99, 100, 101, 102, 103, 104, 105, 106, 107, 108, 109, 57, 25, 26, 27, 28, 29, 30, 31, 32, 33, 34, 35, 36, 37, 38, 39, 40, 41, 42] (by decide +kernel) (by decide +kernel)) (goodIn_r _ [43, 44, 45, 46, 47, 48, 49, 50, 51, 52, 53, 54, 56, 58, 59, 60, 61, 62, 63, 64, 65, 66, 68, 69, 70, 110, 111, 112, 113, 634, 635, 636, 637, 638, 639, 640, 641, 642, 643, 644, 645, 646, 647, 648, 649, 650, 651, 652, 653, 654, 655, 656, 657, 658] (by decide +kernel) (by decide +kernel))) (goodIn_sub (fun _ h => List.mem_cons_of_mem _ (List.mem_append_right _ h)) (by decide +kernel))) (goodIn_sub (fun _ h => List.mem_cons_of_mem _ (List.mem_append_left _ (List.mem_append_left _ (List.mem_append_left _ (List.mem_append_left _ (List.mem_append_right _ h)))))) (by decide +kernel))) (goodIn_sub (fun _ h => List.mem_cons_of_mem _ (List.mem_append_left _ (List.mem_append_left _ (List.mem_append_left _ (List.mem_append_right _ h))))) (by decide +kernel))) (goodIn_sub (fun _ h => List.mem_cons_of_mem _ (List.mem_append_left _ (List.mem_append_left _ (List.mem_append_right _ h)))) (by decide +kernel))) (goodIn_sub (fun _ h => List.mem_cons_of_mem _ (List.mem_append_left _ (List.mem_append_right _ h))) (by decide +kernel))
set_option maxRecDepth 20000 in
theorem gL_changes_L_addDebt : GoodIn wsL_changes (va_wsS RL 176 yL_addDebt wsL_addDebt) := goodIn_app (goodIn_of _ (by decide +kernel)) ggL_changes_L_addDebt
set_option maxRecDepth 20000 in
theorem ggL_changes_L_pay : GoodIn wsL_changes wsL_pay := goodIn_ca (goodIn_ca (goodIn_ca (goodIn_ca (goodIn_ca (goodIn_cut 60 (goodIn_r _ [116, 78, 117, 118, 119, 15, 120, 17, 18, 121, 122, 21, 123, 23, 24, 86, 87, 88, 89, 90, 91, 92, 93, 94, 95, 96, 97, 55, 98, 67, 99, 100, 101, 124, 107, 108, 109, 57, 25, 26, 27, 28, 29, 30, 31, 32, 33, 34, 35, 36, 37, 38, 39, 40, 41, 42, 43, 44, 45, 46] (by decide +kernel) (by decide +kernel)) (goodIn_r _ [47, 48, 49, 50, 51, 52, 53, 54, 56, 58, 59, 60, 61, 62, 63, 64, 65, 66, 68, 69, 70, 125, 126, 127, 128, 129, 111, 112, 113, 106, 634, 635, 636, 637, 638, 639, 640, 641, 642, 643, 644, 645, 646, 647, 648, 649, 650, 651, 652, 653, 654, 655, 656, 657, 658] (by decide +kernel) (by decide +kernel))) (goodIn_sub (fun _ h => List.mem_cons_of_mem _ (List.mem_append_right _ h)) (by decide +kernel))) (goodIn_sub (fun _ h => List.mem_cons_of_mem _ (List.mem_append_left _ (List.mem_append_left _ (List.mem_append_left _ (List.mem_append_left _ (List.mem_append_right _ h)))))) (by decide +kernel))) (goodIn_sub (fun _ h => List.mem_cons_of_mem _ (List.mem_append_left _ (List.mem_append_left _ (List.mem_append_left _ (List.mem_append_right _ h))))) (by decide +kernel))) (goodIn_sub (fun _ h => List.mem_cons_of_mem _ (List.mem_append_left _ (List.mem_append_left _ (List.mem_append_right _ h)))) (by decide +kernel))) (goodIn_sub (fun _ h => List.mem_cons_of_mem _ (List.mem_append_left _ (List.mem_append_right _ h))) (by decide +kernel))
set_option maxRecDepth 20000 in
theorem gL_changes_L_pay : GoodIn wsL_changes (va_wsS RL 240 yL_pay wsL_pay) := goodIn_app (goodIn_of _ (by decide +kernel)) ggL_changes_L_pay
set_option maxRecDepth 20000 in
theorem ggL_changes_L_netPair : GoodIn wsL_changes wsL_netPair := goodIn_ca (goodIn_ca (goodIn_ca (goodIn_ca (goodIn_ca (goodIn_cut 60 (goodIn_r _ [132, 78, 133, 134, 135, 15, 136, 17, 18, 137, 92, 21, 93, 94, 90, 23, 95, 96, 97, 55, 98, 67, 25, 26, 27, 28, 29, 30, 31, 32, 33, 34, 35, 36, 37, 38, 39, 40, 41, 42, 43, 44, 45, 46, 47, 48, 49, 50, 51, 52, 53, 54, 56, 57, 58, 59, 60, 61, 62, 63] (by decide +kernel) (by decide +kernel)) (goodIn_r _ [64, 65, 66, 68, 69, 70, 138, 139, 140, 141, 142, 106, 107, 108, 109, 129, 111, 112, 113, 634, 635, 636, 637, 638, 639, 640, 641, 642, 643, 644, 645, 646, 647, 648, 649, 650, 651, 652, 653, 654, 655, 656, 657, 658] (by decide +kernel) (by decide +kernel))) (goodIn_sub (fun _ h => List.mem_cons_of_mem _ (List.mem_append_left _ (List.mem_append_left _ (List.mem_append_left _ (List.mem_append_left _ (List.mem_append_right _ h)))))) (by decide +kernel))) (goodIn_sub (fun _ h => List.mem_cons_of_mem _ (List.mem_append_left _ (List.mem_append_left _ (List.mem_append_left _ (List.mem_append_right _ h))))) (by decide +kernel))) (goodIn_sub (fun _ h => List.mem_cons_of_mem _ (List.mem_append_left _ (List.mem_append_left _ (List.mem_append_right _ h)))) (by decide +kernel))) (goodIn_sub (fun _ h => List.mem_cons_of_mem _ (List.mem_append_left _ (List.mem_append_right _ h))) (by decide +kernel))) (goodIn_sub (fun _ h => List.mem_cons_of_mem _ (List.mem_append_right _ h)) (by decide +kernel))
set_option maxRecDepth 20000 in
theorem gL_changes_L_netPair : GoodIn wsL_changes (va_wsS RL 242 yL_netPair wsL_netPair) := goodIn_app (goodIn_of _ (by decide +kernel)) ggL_changes_L_netPair
set_option maxRecDepth 20000 in
theorem ggL_changes_L_netTriangle : GoodIn wsL_changes wsL_netTriangle := goodIn_ca (goodIn_ca (goodIn_ca (goodIn_ca (goodIn_ca (goodIn_cut 60 (goodIn_r _ [145, 78, 146, 147, 148, 15, 149, 17, 18, 150, 151, 21, 152, 94, 90, 23, 24, 95, 96, 97, 55, 98, 67, 124, 107, 108, 109, 57, 25, 26, 27, 28, 29, 30, 31, 32, 33, 34, 35, 36, 37, 38, 39, 40, 41, 42, 43, 44, 45, 46, 47, 48, 49, 50, 51, 52, 53, 54, 56, 58] (by decide +kernel) (by decide +kernel)) (goodIn_r _ [59, 60, 61, 62, 63, 64, 65, 66, 68, 69, 70, 153, 154, 155, 156, 142, 106, 129, 111, 112, 113, 634, 635, 636, 637, 638, 639, 640, 641, 642, 643, 644, 645, 646, 647, 648, 649, 650, 651, 652, 653, 654, 655, 656, 657, 658] (by decide +kernel) (by decide +kernel))) (goodIn_sub (fun _ h => List.mem_cons_of_mem _ (List.mem_append_right _ h)) (by decide +kernel))) (goodIn_sub (fun _ h => List.mem_cons_of_mem _ (List.mem_append_left _ (List.mem_append_left _ (List.mem_append_left _ (List.mem_append_left _ (List.mem_append_right _ h)))))) (by decide +kernel))) (goodIn_sub (fun _ h => List.mem_cons_of_mem _ (List.mem_append_left _ (List.mem_append_left _ (List.mem_append_left _ (List.mem_append_right _ h))))) (by decide +kernel))) (goodIn_sub (fun _ h => List.mem_cons_of_mem _ (List.mem_append_left _ (List.mem_append_left _ (List.mem_append_right _ h)))) (by decide +kernel))) (goodIn_sub (fun _ h => List.mem_cons_of_mem _ (List.mem_append_left _ (List.mem_append_right _ h))) (by decide +kernel))
set_option maxRecDepth 20000 in
theorem gL_changes_L_netTriangle : GoodIn wsL_changes (va_wsS RL 244 yL_netTriangle wsL_netTriangle) := goodIn_app (goodIn_of _ (by decide +kernel)) ggL_changes_L_netTriangle
set_option maxRecDepth 20000 in
theorem ggL_changes_X10_clearAll : GoodIn wsL_changes wsX10_clearAll := goodIn_ca (goodIn_cut 60 (goodIn_r _ [160, 18, 17, 161, 40, 41, 42, 43, 44, 45, 46, 47, 48, 49, 50, 51, 52, 53, 54, 55, 56, 57, 58, 59, 60, 61, 62, 63, 64, 65, 66, 67, 68, 69, 70, 162, 163, 164, 165, 166, 167, 168, 169, 170, 171, 172, 173, 174, 175, 176, 177, 178, 179, 180, 181, 182, 106, 107, 108, 109] (by decide +kernel) (by decide +kernel)) (goodIn_r _ [183, 103, 104, 105, 184, 185, 186, 187, 129, 111, 112, 113, 188, 189, 190, 191, 192, 193, 634, 635, 636, 637, 638, 639, 640, 641, 642, 643, 644, 645, 656, 657, 658, 646, 647, 648, 649, 650, 651, 652, 653, 654, 655, 659, 660, 661, 662] (by decide +kernel) (by decide +kernel))) (goodIn_sub (fun _ h => List.mem_cons_of_mem _ (List.mem_append_right _ h)) (by decide +kernel))
set_option maxRecDepth 20000 in
theorem gL_changes_X10_clearAll : GoodIn wsL_changes (wsV RL 246 RX10 yX10_clearAll wsX10_clearAll) := goodIn_app (goodIn_of _ (by decide +kernel)) ggL_changes_X10_clearAll
set_option maxRecDepth 20000 in
theorem ggL_changes_L_pledge : GoodIn wsL_changes wsL_pledge := goodIn_ca (goodIn_ca (goodIn_ca (goodIn_ca (goodIn_ca (goodIn_cut 60 (goodIn_r _ [196, 78, 197, 198, 199, 15, 200, 17, 18, 201, 202, 21, 203, 94, 90, 24, 23, 95, 96, 97, 55, 98, 67, 99, 100, 101, 25, 26, 27, 28, 29, 30, 31, 32, 33, 34, 35, 36, 37, 38, 39, 40, 41, 42, 43, 44, 45, 46, 47, 48, 49, 50, 51, 52, 53, 54, 56, 57, 58, 59] (by decide +kernel) (by decide +kernel)) (goodIn_r _ [60, 61, 62, 63, 64, 65, 66, 68, 69, 70, 204, 205, 206, 207, 634, 635, 636, 637, 638, 639, 640, 641, 642, 643, 644, 645, 646, 647, 648, 649, 650, 651, 652, 653, 654, 655, 656, 657, 658] (by decide +kernel) (by decide +kernel))) (goodIn_sub (fun _ h => List.mem_cons_of_mem _ (List.mem_append_right _ h)) (by decide +kernel))) (goodIn_sub (fun _ h => List.mem_cons_of_mem _ (List.mem_append_left _ (List.mem_append_left _ (List.mem_append_left _ (List.mem_append_left _ (List.mem_append_right _ h)))))) (by decide +kernel))) (goodIn_sub (fun _ h => List.mem_cons_of_mem _ (List.mem_append_left _ (List.mem_append_left _ (List.mem_append_left _ (List.mem_append_right _ h))))) (by decide +kernel))) (goodIn_sub (fun _ h => List.mem_cons_of_mem _ (List.mem_append_left _ (List.mem_append_left _ (List.mem_append_right _ h)))) (by decide +kernel))) (goodIn_sub (fun _ h => List.mem_cons_of_mem _ (List.mem_append_left _ (List.mem_append_right _ h))) (by decide +kernel))
set_option maxRecDepth 20000 in
theorem gL_changes_L_pledge : GoodIn wsL_changes (va_wsS RL 179 yL_pledge wsL_pledge) := goodIn_app (goodIn_of _ (by decide +kernel)) ggL_changes_L_pledge
set_option maxRecDepth 20000 in
theorem ggL_changes_L_setLimit : GoodIn wsL_changes wsL_setLimit := goodIn_ca (goodIn_ca (goodIn_ca (goodIn_ca (goodIn_ca (goodIn_cut 60 (goodIn_r _ [210, 78, 211, 212, 213, 15, 214, 17, 18, 215, 216, 21, 217, 94, 90, 24, 23, 95, 96, 97, 55, 98, 67, 102, 103, 104, 105, 106, 107, 108, 109, 57, 25, 26, 27, 28, 29, 30, 31, 32, 33, 34, 35, 36, 37, 38, 39, 40, 41, 42, 43, 44, 45, 46, 47, 48, 49, 50, 51, 52] (by decide +kernel) (by decide +kernel)) (goodIn_r _ [53, 54, 56, 58, 59, 60, 61, 62, 63, 64, 65, 66, 68, 69, 70, 218, 219, 220, 221, 634, 635, 636, 637, 638, 639, 640, 641, 642, 643, 644, 645, 646, 647, 648, 649, 650, 651, 652, 653, 654, 655, 656, 657, 658] (by decide +kernel) (by decide +kernel))) (goodIn_sub (fun _ h => List.mem_cons_of_mem _ (List.mem_append_right _ h)) (by decide +kernel))) (goodIn_sub (fun _ h => List.mem_cons_of_mem _ (List.mem_append_left _ (List.mem_append_left _ (List.mem_append_left _ (List.mem_append_left _ (List.mem_append_right _ h)))))) (by decide +kernel))) (goodIn_sub (fun _ h => List.mem_cons_of_mem _ (List.mem_append_left _ (List.mem_append_left _ (List.mem_append_left _ (List.mem_append_right _ h))))) (by decide +kernel))) (goodIn_sub (fun _ h => List.mem_cons_of_mem _ (List.mem_append_left _ (List.mem_append_left _ (List.mem_append_right _ h)))) (by decide +kernel))) (goodIn_sub (fun _ h => List.mem_cons_of_mem _ (List.mem_append_left _ (List.mem_append_right _ h))) (by decide +kernel))
set_option maxRecDepth 20000 in
theorem gL_changes_L_setLimit : GoodIn wsL_changes (va_wsS RL 249 yL_setLimit wsL_setLimit) := goodIn_app (goodIn_of _ (by decide +kernel)) ggL_changes_L_setLimit
set_option maxRecDepth 20000 in
theorem ggL_changes_L_setHaircut : GoodIn wsL_changes wsL_setHaircut := goodIn_ca (goodIn_ca (goodIn_ca (goodIn_ca (goodIn_ca (goodIn_r _ [224, 225, 226, 227, 228, 15, 229, 18, 17, 230, 231, 21, 232, 90, 23, 25, 26, 27, 28, 29, 30, 31, 32, 33, 34, 35, 36, 37, 38, 39, 40, 41, 42, 43, 44, 45, 46, 47, 48, 49, 50, 51, 52, 53, 54, 55, 56, 57, 58, 59, 60, 61, 62, 63, 64, 65, 66, 67, 68, 69, 70, 233, 234, 235, 236, 634, 635, 636, 637, 638, 639, 640, 641, 642, 643, 644, 645, 656, 657, 658, 646, 647, 648, 649, 650, 651, 652, 653, 654, 655] (by decide +kernel) (by decide +kernel)) (goodIn_sub (fun _ h => List.mem_cons_of_mem _ (List.mem_append_left _ (List.mem_append_left _ (List.mem_append_left _ (List.mem_append_left _ (List.mem_append_right _ h)))))) (by decide +kernel))) (goodIn_sub (fun _ h => List.mem_cons_of_mem _ (List.mem_append_left _ (List.mem_append_left _ (List.mem_append_left _ (List.mem_append_right _ h))))) (by decide +kernel))) (goodIn_sub (fun _ h => List.mem_cons_of_mem _ (List.mem_append_left _ (List.mem_append_left _ (List.mem_append_right _ h)))) (by decide +kernel))) (goodIn_sub (fun _ h => List.mem_cons_of_mem _ (List.mem_append_left _ (List.mem_append_right _ h))) (by decide +kernel))) (goodIn_sub (fun _ h => List.mem_cons_of_mem _ (List.mem_append_right _ h)) (by decide +kernel))
set_option maxRecDepth 20000 in
theorem gL_changes_L_setHaircut : GoodIn wsL_changes (va_wsS RL 174 yL_setHaircut wsL_setHaircut) := goodIn_app (goodIn_of _ (by decide +kernel)) ggL_changes_L_setHaircut
set_option maxRecDepth 20000 in
theorem ggL_changes_J4_init_da8c8 : GoodIn wsL_changes wsJ4_init_da8c8 := goodIn_r _ [239, 240, 241, 242, 243, 244, 245, 246, 247, 248, 249, 250, 251, 252, 253, 254, 255, 256, 257, 258, 630, 631, 632, 633] (by decide +kernel) (by decide +kernel)
set_option maxRecDepth 20000 in
theorem gL_changes_J4_init_da8c8 : GoodIn wsL_changes (wsJ4_init_da8c8) := ggL_changes_J4_init_da8c8
set_option maxRecDepth 20000 in
theorem ggL_changes_J4_append_15ec4 : GoodIn wsL_changes wsJ4_append_15ec4 := goodIn_cut 60 (goodIn_r _ [262, 263, 264, 265, 266, 242, 267, 268, 269, 270, 271, 272, 273, 249, 274, 275, 276, 277, 278, 250, 279, 280, 281, 282, 283, 284, 285, 286, 287, 288, 289, 290, 50, 291, 292, 293, 294, 295, 296, 297, 298, 299, 300, 301, 302, 303, 304, 305, 248, 306, 49, 51, 307, 59, 60, 61, 308, 309, 310, 311] (by decide +kernel) (by decide +kernel)) (goodIn_cut 60 (goodIn_r _ [312, 247, 313, 314, 253, 315, 316, 317, 318, 319, 320, 321, 322, 323, 324, 325, 326, 327, 328, 329, 330, 331, 332, 333, 334, 335, 336, 337, 338, 339, 340, 341, 342, 343, 344, 345, 346, 347, 348, 349, 350, 351, 352, 353, 354, 355, 356, 357, 358, 359, 360, 361, 362, 363, 251, 252, 254, 255, 256, 257] (by decide +kernel) (by decide +kernel)) (goodIn_r _ [258, 364, 365, 366, 367, 368, 369, 370, 371, 372, 373, 374, 375, 376, 377, 378, 379, 380, 381, 382, 383, 384, 385, 630, 631, 632, 633, 663, 664, 665, 666] (by decide +kernel) (by decide +kernel)))
set_option maxRecDepth 20000 in
theorem gL_changes_J4_append_15ec4 : GoodIn wsL_changes (wsV RL 256 RJ4 yJ4_append_15ec4 wsJ4_append_15ec4) := goodIn_app (goodIn_of _ (by decide +kernel)) ggL_changes_J4_append_15ec4
set_option maxRecDepth 20000 in
theorem ggL_changes_J4_append_bf812 : GoodIn wsL_changes wsJ4_append_bf812 := goodIn_cut 60 (goodIn_r _ [389, 390, 391, 265, 392, 242, 393, 268, 249, 394, 395, 396, 397, 274, 275, 276, 277, 278, 250, 279, 280, 281, 282, 283, 284, 285, 286, 287, 288, 289, 290, 50, 291, 292, 293, 294, 295, 296, 297, 298, 299, 300, 301, 302, 303, 304, 305, 248, 306, 49, 51, 307, 59, 60, 61, 308, 309, 310, 311, 312] (by decide +kernel) (by decide +kernel)) (goodIn_r _ [247, 398, 399, 400, 401, 402, 403, 404, 253, 405, 316, 317, 318, 319, 320, 321, 322, 323, 324, 325, 326, 327, 328, 329, 330, 331, 406, 407, 408, 409, 410, 332, 333, 334, 335, 336, 630, 631, 632, 633] (by decide +kernel) (by decide +kernel))
set_option maxRecDepth 20000 in
theorem gL_changes_J4_append_bf812 : GoodIn wsL_changes (wsV RL 260 RJ4 yJ4_append_bf812 wsJ4_append_bf812) := goodIn_app (goodIn_of _ (by decide +kernel)) ggL_changes_J4_append_bf812
set_option maxRecDepth 20000 in
theorem ggL_changes_J4_toString_0e30d : GoodIn wsL_changes wsJ4_toString_0e30d := goodIn_cut 60 (goodIn_r _ [414, 415, 416, 325, 417, 418, 419, 420, 421, 422, 423, 245, 246, 347, 341, 346, 424, 425, 426, 427, 428, 242, 429, 249, 430, 431, 432, 433, 434, 3, 435, 436, 265, 437, 438, 268, 439, 309, 310, 311, 312, 247, 250, 440, 441, 298, 442, 300, 301, 302, 303, 304, 305, 443, 444, 445, 248, 306, 49, 50] (by decide +kernel) (by decide +kernel)) (goodIn_r _ [51, 307, 59, 60, 61, 446, 447, 448, 449, 2, 450, 451, 253, 452, 453, 454, 455, 371, 372, 373, 320, 321, 322, 374, 375, 376, 327, 377, 378, 330, 379, 456, 457, 458, 316, 335, 336, 255, 256, 257, 258, 459, 460, 461, 462, 663, 664, 665, 666, 630, 631, 632, 633] (by decide +kernel) (by decide +kernel))
set_option maxRecDepth 20000 in
theorem gL_changes_J4_toString_0e30d : GoodIn wsL_changes (wsV RL 265 RJ4 yJ4_toString_0e30d wsJ4_toString_0e30d) := goodIn_app (goodIn_of _ (by decide +kernel)) ggL_changes_J4_toString_0e30d

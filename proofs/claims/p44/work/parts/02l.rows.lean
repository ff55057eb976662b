set_option maxRecDepth 100000 in
theorem ggL_law_X2_burnNights_wsX2_burnNights_r4 : GoodIn wsL_law wsX2_burnNights_r4 := goodIn_r _ [107, 108, 109, 43, 295, 296, 297, 298, 158, 159, 160, 161, 162, 299, 300, 301, 302, 44, 303, 304, 305, 306, 307, 308] (by decide +kernel) (by decide +kernel)
set_option maxRecDepth 100000 in
theorem ggL_law_X2_burnNights_wsX2_burnNights_r5 : GoodIn wsL_law wsX2_burnNights_r5 := goodIn_r _ [309, 310, 311, 37, 239, 240, 241, 242, 312, 236, 237, 238, 38, 313, 185, 186, 187] (by decide +kernel) (by decide +kernel)
set_option maxRecDepth 100000 in
theorem ggL_law_X2_burnNights_wsX20 : GoodIn wsL_law wsX20 := goodIn_r _ [517, 518, 519] (by decide +kernel) (by decide +kernel)
set_option maxRecDepth 100000 in
theorem ggL_law_X2_burnNights_wsX00 : GoodIn wsL_law wsX00 := goodIn_r _ [535, 536, 537, 538, 539, 540, 541, 542, 543, 544] (by decide +kernel) (by decide +kernel)
set_option maxRecDepth 100000 in
theorem ggL_law_X2_burnNights_wsX10 : GoodIn wsL_law wsX10 := goodIn_r _ [527, 528, 529, 530, 531, 532, 533, 534] (by decide +kernel) (by decide +kernel)
set_option maxRecDepth 100000 in
theorem ggL_law_X2_burnNights_h : GoodIn wsL_law [.code yX2_burnNights cX2_burnNights 2 (some .int)] := goodIn_r _ [260] (by decide +kernel) (by decide +kernel)
set_option maxRecDepth 20000 in
theorem ggL_law_X2_burnNights : GoodIn wsL_law wsX2_burnNights := goodIn_ca ((fun w h => (List.mem_cons.mp h).elim (fun e => ggL_law_X2_burnNights_h w (List.mem_singleton.mpr e)) (fun h => (fun w h => (List.mem_append.mp h).elim ((fun w h => (List.mem_append.mp h).elim ((fun w h => (List.mem_append.mp h).elim ((fun w h => (List.mem_append.mp h).elim (ggL_law_X2_burnNights_wsX2_burnNights_r1 w) ((fun w h => (List.mem_append.mp h).elim (ggL_law_X2_burnNights_wsX2_burnNights_r2 w) ((fun w h => (List.mem_append.mp h).elim (ggL_law_X2_burnNights_wsX2_burnNights_r3 w) ((fun w h => (List.mem_append.mp h).elim (ggL_law_X2_burnNights_wsX2_burnNights_r4 w) (ggL_law_X2_burnNights_wsX2_burnNights_r5 w)) w)) w)) w)) w) (ggL_law_X2_burnNights_wsX20 w)) w) (ggL_law_X2_burnNights_wsX00 w)) w) (ggL_law_X2_burnNights_wsX10 w)) w h))) (goodIn_sub (fun _ h => List.mem_append_left _ (List.mem_append_left _ (List.mem_append_right _ h))) (by decide +kernel))
set_option maxRecDepth 20000 in
theorem gL_law_X2_burnNights : GoodIn wsL_law (wsV RL 91 RX2 yX2_burnNights wsX2_burnNights) := goodIn_app (goodIn_of _ (by decide +kernel)) ggL_law_X2_burnNights
set_option maxRecDepth 20000 in
theorem ggL_law_X3_pass : GoodIn wsL_law wsX3_pass := goodIn_r _ [250, 66, 65, 63, 251, 64, 252, 192, 193, 194, 56, 195, 62, 196, 76, 77, 253, 222, 223, 224, 254, 164, 165, 166, 167, 255, 244, 245, 246, 256, 189, 190, 191, 520, 521, 522, 523, 524, 525, 526] (by decide +kernel) (by decide +kernel)
set_option maxRecDepth 20000 in
theorem gL_law_X3_pass : GoodIn wsL_law (wsV RL 88 RX3 yX3_pass wsX3_pass) := goodIn_app (goodIn_of _ (by decide +kernel)) ggL_law_X3_pass
set_option maxRecDepth 100000 in
theorem ggL_law_X3_isSame_wsX3_isSame_r1 : GoodIn wsL_law wsX3_isSame_r1 := goodIn_r _ [63, 64, 65, 66, 252, 167, 251, 255, 244, 245, 56, 246, 471, 390, 391, 2, 392, 23, 99, 100, 101, 102, 97, 98] (by decide +kernel) (by decide +kernel)
set_option maxRecDepth 100000 in
theorem ggL_law_X3_isSame_wsX3_isSame_r2 : GoodIn wsL_law wsX3_isSame_r2 := goodIn_r _ [103, 104, 105, 472, 369, 370, 371, 27, 106, 107, 108, 26, 109, 43, 473, 373, 374, 375, 474, 475, 476, 477, 478, 402] (by decide +kernel) (by decide +kernel)
set_option maxRecDepth 100000 in
theorem ggL_law_X3_isSame_wsX3_isSame_r3 : GoodIn wsL_law wsX3_isSame_r3 := goodIn_r _ [403, 404, 218, 219, 220, 479, 406, 407, 408, 346, 215, 216, 217, 47, 177, 178, 179, 180, 48, 181, 182, 183, 253, 222] (by decide +kernel) (by decide +kernel)
set_option maxRecDepth 100000 in
theorem ggL_law_X3_isSame_wsX3_isSame_r4 : GoodIn wsL_law wsX3_isSame_r4 := goodIn_r _ [223, 224, 480, 410, 411, 412, 347, 309, 310, 22, 311, 37, 239, 240, 241, 242, 34, 481, 414, 415, 416, 235, 236, 237] (by decide +kernel) (by decide +kernel)
set_option maxRecDepth 100000 in
theorem ggL_law_X3_isSame_wsX3_isSame_r5 : GoodIn wsL_law wsX3_isSame_r5 := goodIn_r _ [238, 38, 482, 418, 419, 420, 421, 304, 305, 306, 307, 5, 6, 7, 308, 312, 483, 365, 366, 367, 229, 230, 231, 232] (by decide +kernel) (by decide +kernel)
set_option maxRecDepth 100000 in
theorem ggL_law_X3_isSame_wsX3_isSame_r6 : GoodIn wsL_law wsX3_isSame_r6 := goodIn_r _ [233, 155, 156, 157, 484, 386, 387, 388, 485, 394, 395, 396, 486, 398, 399, 400, 487, 377, 378, 379, 488, 381, 382, 383] (by decide +kernel) (by decide +kernel)
set_option maxRecDepth 100000 in
theorem ggL_law_X3_isSame_wsX3_isSame_r7 : GoodIn wsL_law wsX3_isSame_r7 := goodIn_r _ [384, 332, 333, 334, 49, 46, 154, 294, 489, 490, 491, 492, 493, 427, 428, 429, 205, 206, 207, 208, 494, 353, 354, 355] (by decide +kernel) (by decide +kernel)
set_option maxRecDepth 100000 in
theorem ggL_law_X3_isSame_wsX3_isSame_r8 : GoodIn wsL_law wsX3_isSame_r8 := goodIn_r _ [495, 361, 362, 363, 496, 423, 424, 425, 497, 498, 499, 500, 323, 324, 325, 326, 501, 502, 503, 504, 505, 357, 358, 359] (by decide +kernel) (by decide +kernel)
set_option maxRecDepth 100000 in
theorem ggL_law_X3_isSame_wsX3_isSame_r9 : GoodIn wsL_law wsX3_isSame_r9 := goodIn_r _ [506, 444, 445, 446, 327, 328, 329, 330, 331, 507, 508, 509, 510, 511, 464, 465, 466, 512, 448, 449, 450, 335, 336, 337] (by decide +kernel) (by decide +kernel)
set_option maxRecDepth 100000 in
theorem ggL_law_X3_isSame_wsX3_isSame_r10 : GoodIn wsL_law wsX3_isSame_r10 := goodIn_r _ [338, 513, 514, 515, 516] (by decide +kernel) (by decide +kernel)
set_option maxRecDepth 100000 in
theorem ggL_law_X3_isSame_wsX30 : GoodIn wsL_law wsX30 := goodIn_r _ [520, 521, 522, 523, 524, 525, 526] (by decide +kernel) (by decide +kernel)
set_option maxRecDepth 100000 in
theorem ggL_law_X3_isSame_wsX20 : GoodIn wsL_law wsX20 := goodIn_r _ [517, 518, 519] (by decide +kernel) (by decide +kernel)
set_option maxRecDepth 100000 in
theorem ggL_law_X3_isSame_wsX10 : GoodIn wsL_law wsX10 := goodIn_r _ [527, 528, 529, 530, 531, 532, 533, 534] (by decide +kernel) (by decide +kernel)
set_option maxRecDepth 100000 in
theorem ggL_law_X3_isSame_wsX00 : GoodIn wsL_law wsX00 := goodIn_r _ [535, 536, 537, 538, 539, 540, 541, 542, 543, 544] (by decide +kernel) (by decide +kernel)
set_option maxRecDepth 100000 in
theorem ggL_law_X3_isSame_h : GoodIn wsL_law [.code yX3_isSame cX3_isSame 8 (some .boolean)] := goodIn_r _ [470] (by decide +kernel) (by decide +kernel)
set_option maxRecDepth 20000 in
theorem ggL_law_X3_isSame : GoodIn wsL_law wsX3_isSame := goodIn_ca ((fun w h => (List.mem_cons.mp h).elim (fun e => ggL_law_X3_isSame_h w (List.mem_singleton.mpr e)) (fun h => (fun w h => (List.mem_append.mp h).elim ((fun w h => (List.mem_append.mp h).elim ((fun w h => (List.mem_append.mp h).elim ((fun w h => (List.mem_append.mp h).elim ((fun w h => (List.mem_append.mp h).elim (ggL_law_X3_isSame_wsX3_isSame_r1 w) ((fun w h => (List.mem_append.mp h).elim (ggL_law_X3_isSame_wsX3_isSame_r2 w) ((fun w h => (List.mem_append.mp h).elim (ggL_law_X3_isSame_wsX3_isSame_r3 w) ((fun w h => (List.mem_append.mp h).elim (ggL_law_X3_isSame_wsX3_isSame_r4 w) ((fun w h => (List.mem_append.mp h).elim (ggL_law_X3_isSame_wsX3_isSame_r5 w) ((fun w h => (List.mem_append.mp h).elim (ggL_law_X3_isSame_wsX3_isSame_r6 w) ((fun w h => (List.mem_append.mp h).elim (ggL_law_X3_isSame_wsX3_isSame_r7 w) ((fun w h => (List.mem_append.mp h).elim (ggL_law_X3_isSame_wsX3_isSame_r8 w) ((fun w h => (List.mem_append.mp h).elim (ggL_law_X3_isSame_wsX3_isSame_r9 w) (ggL_law_X3_isSame_wsX3_isSame_r10 w)) w)) w)) w)) w)) w)) w)) w)) w)) w) (ggL_law_X3_isSame_wsX30 w)) w) (ggL_law_X3_isSame_wsX20 w)) w) (ggL_law_X3_isSame_wsX10 w)) w) (ggL_law_X3_isSame_wsX00 w)) w h))) (goodIn_sub (fun _ h => List.mem_append_right _ h) (by decide +kernel))
set_option maxRecDepth 20000 in
theorem gL_law_X3_isSame : GoodIn wsL_law (wsV RL 196 RX3 yX3_isSame wsX3_isSame) := goodIn_app (goodIn_of _ (by decide +kernel)) ggL_law_X3_isSame

set_option maxRecDepth 20000 in
theorem ggL_law_L_isRight_0 : GoodIn wsL_law [.code yL_isRight cL_isRight 12 (some .boolean)] := goodIn_r _ [478] (by decide +kernel) (by decide +kernel)
set_option maxRecDepth 20000 in
theorem ggL_law_L_isRight_1 : GoodIn wsL_law (wsL_isRight_r1) := goodIn_r _ [479, 135, 136, 137, 2, 138, 13, 139, 140, 141, 142, 17, 143, 33, 144, 145, 146, 147, 148, 149, 12, 150, 48, 151] (by decide +kernel) (by decide +kernel)
set_option maxRecDepth 20000 in
theorem ggL_law_L_isRight_2 : GoodIn wsL_law (wsL_isRight_r2) := goodIn_r _ [152, 153, 46, 154, 71, 73, 155, 156, 157, 28, 158, 62, 159, 160, 161, 162, 163, 52, 164, 53, 165, 166, 167, 168] (by decide +kernel) (by decide +kernel)
set_option maxRecDepth 20000 in
theorem ggL_law_L_isRight_3 : GoodIn wsL_law (wsL_isRight_r3) := goodIn_r _ [169, 170, 171, 172, 173, 61, 174, 175, 176, 177, 60, 204, 205, 206, 207, 208, 209, 187, 188, 189, 210, 211, 212, 213] (by decide +kernel) (by decide +kernel)
set_option maxRecDepth 20000 in
theorem ggL_law_L_isRight_4 : GoodIn wsL_law (wsL_isRight_r4) := goodIn_r _ [190, 480, 481, 482, 483, 21, 484, 485, 486, 487, 488, 489, 236, 490, 456, 69, 457, 419, 420, 421, 20, 422, 423, 424] (by decide +kernel) (by decide +kernel)
set_option maxRecDepth 20000 in
theorem ggL_law_L_isRight_5 : GoodIn wsL_law (wsL_isRight_r5) := goodIn_r _ [429, 430, 431, 432, 433, 434, 435, 436, 437, 438, 439, 440, 441, 442, 368, 369, 370, 443, 372, 373, 374, 375, 248, 249] (by decide +kernel) (by decide +kernel)
set_option maxRecDepth 20000 in
theorem ggL_law_L_isRight_6 : GoodIn wsL_law (wsL_isRight_r6) := goodIn_r _ [376, 68, 70, 242, 377, 197, 198, 199, 378, 379, 380, 444, 445, 446, 447, 239, 240, 241, 243, 244, 245, 246, 247, 491] (by decide +kernel) (by decide +kernel)
set_option maxRecDepth 20000 in
theorem ggL_law_L_isRight_7 : GoodIn wsL_law (wsL_isRight_r7) := goodIn_r _ [469, 470, 471, 492, 493, 494, 495, 496, 497, 498, 178, 179, 180, 181, 182, 183, 184, 185, 186, 191, 192, 193, 194, 47] (by decide +kernel) (by decide +kernel)
set_option maxRecDepth 20000 in
theorem ggL_law_L_isRight_8 : GoodIn wsL_law (wsL_isRight_r8) := goodIn_r _ [54, 39, 195, 196, 200, 201, 202, 203, 499, 500, 128, 501, 502, 503, 504, 505, 506, 507, 508, 509, 510, 511, 512, 214] (by decide +kernel) (by decide +kernel)
set_option maxRecDepth 20000 in
theorem ggL_law_L_isRight_9 : GoodIn wsL_law (wsL_isRight_r9) := goodIn_r _ [215, 216, 217, 218, 219, 220, 42, 221, 82, 222, 223, 224, 225, 226, 227, 228, 229, 230, 231, 513, 514, 515, 516, 517] (by decide +kernel) (by decide +kernel)
set_option maxRecDepth 20000 in
theorem ggL_law_L_isRight_10 : GoodIn wsL_law (wsL_isRight_r10) := goodIn_r _ [518, 519, 520, 29, 25, 409, 281, 282, 283, 284, 285, 286, 287, 288, 289, 290, 291, 292, 357, 358, 359, 24, 360, 361] (by decide +kernel) (by decide +kernel)
set_option maxRecDepth 20000 in
theorem ggL_law_L_isRight_11 : GoodIn wsL_law (wsL_isRight_r11) := goodIn_r _ [108, 362, 107, 363, 364, 365, 366, 367, 371, 381, 382, 383, 384, 106, 385, 336, 337, 338, 339, 340, 75, 76, 77, 386] (by decide +kernel) (by decide +kernel)
set_option maxRecDepth 20000 in
theorem ggL_law_L_isRight_12 : GoodIn wsL_law (wsL_isRight_r12) := goodIn_r _ [387] (by decide +kernel) (by decide +kernel)
set_option maxRecDepth 20000 in
theorem ggL_law_L_isRight_13 : GoodIn wsL_law (wsX100) := goodIn_r _ [595, 596, 597, 598, 599, 600] (by decide +kernel) (by decide +kernel)
set_option maxRecDepth 20000 in
theorem ggL_law_L_isRight_14 : GoodIn wsL_law (wsX60) := goodIn_r _ [601, 602, 603, 604, 605, 606, 607] (by decide +kernel) (by decide +kernel)
set_option maxRecDepth 20000 in
theorem ggL_law_L_isRight_15 : GoodIn wsL_law (wsX30) := goodIn_r _ [619, 620, 621, 622] (by decide +kernel) (by decide +kernel)
set_option maxRecDepth 20000 in
theorem ggL_law_L_isRight_16 : GoodIn wsL_law (wsX20) := goodIn_r _ [627, 628, 629] (by decide +kernel) (by decide +kernel)
set_option maxRecDepth 20000 in
theorem ggL_law_L_isRight_17 : GoodIn wsL_law (wsX10) := goodIn_r _ [608, 609, 610] (by decide +kernel) (by decide +kernel)
set_option maxRecDepth 20000 in
theorem ggL_law_L_isRight_18 : GoodIn wsL_law (wsX90) := goodIn_r _ [623, 624, 625, 626] (by decide +kernel) (by decide +kernel)
set_option maxRecDepth 20000 in
theorem ggL_law_L_isRight_19 : GoodIn wsL_law (wsX80) := goodIn_r _ [634, 635] (by decide +kernel) (by decide +kernel)
set_option maxRecDepth 20000 in
theorem ggL_law_L_isRight_20 : GoodIn wsL_law (wsX70) := goodIn_r _ [630, 631] (by decide +kernel) (by decide +kernel)
set_option maxRecDepth 20000 in
theorem ggL_law_L_isRight_21 : GoodIn wsL_law (wsX40) := goodIn_r _ [632, 633] (by decide +kernel) (by decide +kernel)
set_option maxRecDepth 20000 in
theorem ggL_law_L_isRight_22 : GoodIn wsL_law (wsX00) := goodIn_r _ [611, 612, 613, 614, 615] (by decide +kernel) (by decide +kernel)
set_option maxRecDepth 20000 in
theorem ggL_law_L_isRight_23 : GoodIn wsL_law (wsX50) := goodIn_r _ [616, 617, 618] (by decide +kernel) (by decide +kernel)
theorem ggL_law_L_isRight : GoodIn wsL_law wsL_isRight := goodIn_ca (a := []) ggL_law_L_isRight_0 (goodIn_app (goodIn_app (goodIn_app (goodIn_app (goodIn_app (goodIn_app (goodIn_app (goodIn_app (goodIn_app (goodIn_app (goodIn_app (goodIn_app ggL_law_L_isRight_1 (goodIn_app ggL_law_L_isRight_2 (goodIn_app ggL_law_L_isRight_3 (goodIn_app ggL_law_L_isRight_4 (goodIn_app ggL_law_L_isRight_5 (goodIn_app ggL_law_L_isRight_6 (goodIn_app ggL_law_L_isRight_7 (goodIn_app ggL_law_L_isRight_8 (goodIn_app ggL_law_L_isRight_9 (goodIn_app ggL_law_L_isRight_10 (goodIn_app ggL_law_L_isRight_11 ggL_law_L_isRight_12))))))))))) ggL_law_L_isRight_13) ggL_law_L_isRight_14) ggL_law_L_isRight_15) ggL_law_L_isRight_16) ggL_law_L_isRight_17) ggL_law_L_isRight_18) ggL_law_L_isRight_19) ggL_law_L_isRight_20) ggL_law_L_isRight_21) ggL_law_L_isRight_22) ggL_law_L_isRight_23)
set_option maxRecDepth 20000 in
theorem gL_law_L_isRight : GoodIn wsL_law (va_wsS RL 111 yL_isRight wsL_isRight) := goodIn_app (goodIn_of _ (by decide +kernel)) ggL_law_L_isRight

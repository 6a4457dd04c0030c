set_option maxRecDepth 20000 in
theorem ggL_law_L_act_0 : GoodIn wsL_law [.code yL_act cL_act 3 (some .int)] := goodIn_r _ [252] (by decide +kernel) (by decide +kernel)
set_option maxRecDepth 20000 in
theorem ggL_law_L_act_1 : GoodIn wsL_law (wsL_act_r1) := goodIn_r _ [253, 254, 128, 255, 256, 257, 258, 259, 2, 260, 146, 17, 13, 139, 183, 184, 185, 186, 187, 188, 189, 261, 262, 263] (by decide +kernel) (by decide +kernel)
set_option maxRecDepth 20000 in
theorem ggL_law_L_act_2 : GoodIn wsL_law (wsL_act_r2) := goodIn_r _ [264, 265, 266, 16, 267, 268, 269, 270, 248, 69, 249, 271, 272, 273, 274, 97, 275, 276, 277, 12, 278, 39, 43, 47] (by decide +kernel) (by decide +kernel)
set_option maxRecDepth 20000 in
theorem ggL_law_L_act_3 : GoodIn wsL_law (wsL_act_r3) := goodIn_r _ [48, 52, 53, 279, 280, 281, 282, 28, 283, 60, 61, 62, 169, 284, 285, 286, 46, 287, 73, 288, 289, 290, 291, 292] (by decide +kernel) (by decide +kernel)
set_option maxRecDepth 20000 in
theorem ggL_law_L_act_4 : GoodIn wsL_law (wsL_act_r4) := goodIn_r _ [293, 294, 295, 42, 296, 82, 222, 297, 298, 299, 300, 301, 302, 51, 303, 89, 304, 305, 190, 152, 153, 154, 71, 306] (by decide +kernel) (by decide +kernel)
set_option maxRecDepth 20000 in
theorem ggL_law_L_act_5 : GoodIn wsL_law (wsL_act_r5) := goodIn_r _ [307, 308, 309, 74, 75, 76, 77, 310, 311, 312, 313, 314, 315, 316, 317, 318, 319, 320, 321, 322, 155, 156, 157, 158] (by decide +kernel) (by decide +kernel)
set_option maxRecDepth 20000 in
theorem ggL_law_L_act_6 : GoodIn wsL_law (wsL_act_r6) := goodIn_r _ [159, 323, 324, 325, 326, 140, 327, 328, 329, 330, 331, 332, 333, 334, 335, 336, 337, 338, 339, 340, 341, 342, 343, 344] (by decide +kernel) (by decide +kernel)
set_option maxRecDepth 20000 in
theorem ggL_law_L_act_7 : GoodIn wsL_law (wsL_act_r7) := goodIn_r _ [210, 211, 212, 213, 345, 346, 347, 348, 349, 350, 351, 352, 208, 353, 354, 355, 356, 25, 147, 148, 149, 150, 151, 357] (by decide +kernel) (by decide +kernel)
set_option maxRecDepth 20000 in
theorem ggL_law_L_act_8 : GoodIn wsL_law (wsL_act_r8) := goodIn_r _ [358, 359, 24, 360, 361, 108, 362, 107, 363, 364, 365, 366, 367, 368, 369, 370, 371, 372, 373, 374, 375, 376, 68, 70] (by decide +kernel) (by decide +kernel)
set_option maxRecDepth 20000 in
theorem ggL_law_L_act_9 : GoodIn wsL_law (wsL_act_r9) := goodIn_r _ [242, 377, 197, 198, 199, 378, 379, 380, 381, 382, 383, 384, 106, 385, 386, 387, 388, 389, 390, 391, 392, 393, 394, 395] (by decide +kernel) (by decide +kernel)
set_option maxRecDepth 20000 in
theorem ggL_law_L_act_10 : GoodIn wsL_law (wsL_act_r10) := goodIn_r _ [91, 396, 397, 398, 399, 400, 401, 402, 403, 404, 405, 406, 407, 408, 409, 410, 411, 412, 413, 414, 415, 416, 417, 418] (by decide +kernel) (by decide +kernel)
set_option maxRecDepth 20000 in
theorem ggL_law_L_act_11 : GoodIn wsL_law (wsL_act_r11) := goodIn_r _ [231, 21, 236, 165, 166, 167, 168, 170, 171, 172, 173, 419, 420, 421, 20, 422, 423, 424, 425, 426, 427, 428, 429, 430] (by decide +kernel) (by decide +kernel)
set_option maxRecDepth 20000 in
theorem ggL_law_L_act_12 : GoodIn wsL_law (wsL_act_r12) := goodIn_r _ [431, 432, 433, 434, 435, 436, 437, 438, 439, 440, 441, 442, 443, 444, 445, 446, 447, 239, 240, 241, 243, 244, 245, 246] (by decide +kernel) (by decide +kernel)
set_option maxRecDepth 20000 in
theorem ggL_law_L_act_13 : GoodIn wsL_law (wsL_act_r13) := goodIn_r _ [247, 448, 449, 450, 451, 452, 453, 454, 455, 456, 457, 458, 459, 460, 461, 462, 463, 464, 465, 466, 467, 468, 469, 470] (by decide +kernel) (by decide +kernel)
set_option maxRecDepth 20000 in
theorem ggL_law_L_act_14 : GoodIn wsL_law (wsL_act_r14) := goodIn_r _ [471, 472, 473, 474, 475] (by decide +kernel) (by decide +kernel)
set_option maxRecDepth 20000 in
theorem ggL_law_L_act_15 : GoodIn wsL_law (wsX100) := goodIn_r _ [595, 596, 597, 598, 599, 600] (by decide +kernel) (by decide +kernel)
set_option maxRecDepth 20000 in
theorem ggL_law_L_act_16 : GoodIn wsL_law (wsX60) := goodIn_r _ [601, 602, 603, 604, 605, 606, 607] (by decide +kernel) (by decide +kernel)
set_option maxRecDepth 20000 in
theorem ggL_law_L_act_17 : GoodIn wsL_law (wsX30) := goodIn_r _ [619, 620, 621, 622] (by decide +kernel) (by decide +kernel)
set_option maxRecDepth 20000 in
theorem ggL_law_L_act_18 : GoodIn wsL_law (wsX10) := goodIn_r _ [608, 609, 610] (by decide +kernel) (by decide +kernel)
set_option maxRecDepth 20000 in
theorem ggL_law_L_act_19 : GoodIn wsL_law (wsX70) := goodIn_r _ [630, 631] (by decide +kernel) (by decide +kernel)
set_option maxRecDepth 20000 in
theorem ggL_law_L_act_20 : GoodIn wsL_law (wsX20) := goodIn_r _ [627, 628, 629] (by decide +kernel) (by decide +kernel)
set_option maxRecDepth 20000 in
theorem ggL_law_L_act_21 : GoodIn wsL_law (wsX40) := goodIn_r _ [632, 633] (by decide +kernel) (by decide +kernel)
set_option maxRecDepth 20000 in
theorem ggL_law_L_act_22 : GoodIn wsL_law (wsX50) := goodIn_r _ [616, 617, 618] (by decide +kernel) (by decide +kernel)
set_option maxRecDepth 20000 in
theorem ggL_law_L_act_23 : GoodIn wsL_law (wsX00) := goodIn_r _ [611, 612, 613, 614, 615] (by decide +kernel) (by decide +kernel)
theorem ggL_law_L_act : GoodIn wsL_law wsL_act := goodIn_ca (a := []) ggL_law_L_act_0 (goodIn_app (goodIn_app (goodIn_app (goodIn_app (goodIn_app (goodIn_app (goodIn_app (goodIn_app (goodIn_app (goodIn_app ggL_law_L_act_1 (goodIn_app ggL_law_L_act_2 (goodIn_app ggL_law_L_act_3 (goodIn_app ggL_law_L_act_4 (goodIn_app ggL_law_L_act_5 (goodIn_app ggL_law_L_act_6 (goodIn_app ggL_law_L_act_7 (goodIn_app ggL_law_L_act_8 (goodIn_app ggL_law_L_act_9 (goodIn_app ggL_law_L_act_10 (goodIn_app ggL_law_L_act_11 (goodIn_app ggL_law_L_act_12 (goodIn_app ggL_law_L_act_13 ggL_law_L_act_14))))))))))))) ggL_law_L_act_15) ggL_law_L_act_16) ggL_law_L_act_17) ggL_law_L_act_18) ggL_law_L_act_19) ggL_law_L_act_20) ggL_law_L_act_21) ggL_law_L_act_22) ggL_law_L_act_23)
set_option maxRecDepth 20000 in
theorem gL_law_L_act : GoodIn wsL_law (va_wsS RL 106 yL_act wsL_act) := goodIn_app (goodIn_of _ (by decide +kernel)) ggL_law_L_act

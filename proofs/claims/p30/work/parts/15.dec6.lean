set_option maxRecDepth 20000 in
theorem ggL_law_X10_undo : GoodIn wsL_law wsX10_undo := goodIn_r _ [524, 17, 143, 414, 13, 525, 526, 527, 16, 528, 268, 269, 529, 224, 198, 225, 271, 272, 273, 274, 97, 275, 276, 277, 12, 278, 39, 43, 47, 48, 52, 53, 279, 280, 281, 282, 28, 283, 60, 61, 62, 169, 284, 285, 286, 46, 287, 73, 288, 248, 69, 249, 289, 290, 291, 292, 293, 294, 295, 42, 296, 82, 222, 297, 298, 299, 300, 301, 302, 51, 303, 89, 304, 305, 595, 596, 597, 598, 599, 600, 608, 609, 610, 601, 602, 603, 604, 605, 606, 607, 619, 620, 621, 622, 630, 631, 627, 628, 629, 632, 633] (by decide +kernel) (by decide +kernel)
set_option maxRecDepth 20000 in
theorem gL_law_X10_undo : GoodIn wsL_law (wsV RL 115 RX10 yX10_undo wsX10_undo) := goodIn_app (goodIn_of _ (by decide +kernel)) ggL_law_X10_undo
set_option maxRecDepth 20000 in
theorem ggL_law_X10_count : GoodIn wsL_law wsX10_count := goodIn_r _ [138, 13, 139, 140, 141, 142, 17, 143, 33, 144, 145, 146, 147, 148, 149, 12, 150, 48, 151, 152, 153, 46, 154, 71, 73, 155, 156, 157, 28, 158, 62, 159, 160, 161, 162, 163, 52, 164, 53, 165, 166, 167, 168, 169, 170, 171, 172, 173, 61, 174, 175, 176, 177, 60, 595, 596, 597, 598, 599, 600, 601, 602, 603, 604, 605, 606, 607, 619, 620, 621, 622, 627, 628, 629, 608, 609, 610, 623, 624, 625, 626, 634, 635, 630, 631, 632, 633] (by decide +kernel) (by decide +kernel)
set_option maxRecDepth 20000 in
theorem gL_law_X10_count : GoodIn wsL_law (wsV RL 12 RX10 yX10_count wsX10_count) := goodIn_app (goodIn_of _ (by decide +kernel)) ggL_law_X10_count
set_option maxRecDepth 20000 in
theorem ggL_law_X10_would : GoodIn wsL_law wsX10_would := goodIn_r _ [483, 146, 13, 139, 21, 484, 485, 210, 211, 212, 2, 213, 140, 187, 188, 189, 486, 487, 488, 489, 236, 490, 456, 69, 457, 147, 148, 149, 12, 150, 48, 151, 152, 153, 46, 154, 71, 73, 419, 420, 421, 20, 422, 423, 424, 429, 430, 431, 432, 433, 434, 435, 436, 437, 438, 439, 440, 441, 442, 368, 369, 28, 370, 60, 159, 443, 372, 373, 374, 375, 248, 249, 376, 68, 70, 242, 156, 157, 158, 62, 377, 197, 198, 199, 378, 379, 380, 444, 445, 446, 447, 239, 240, 241, 243, 244, 245, 246, 247, 491, 469, 470, 471, 595, 596, 597, 598, 599, 600, 601, 602, 603, 604, 605, 606, 607, 611, 612, 613, 614, 615, 619, 620, 621, 622, 630, 631] (by decide +kernel) (by decide +kernel)
set_option maxRecDepth 20000 in
theorem gL_law_X10_would : GoodIn wsL_law (wsV RL 74 RX10 yX10_would wsX10_would) := goodIn_app (goodIn_of _ (by decide +kernel)) ggL_law_X10_would
set_option maxRecDepth 20000 in
theorem ggL_law_X10_scan_0 : GoodIn wsL_law [.code yX10_scan cX10_scan 4 (some .int)] := goodIn_r _ [418] (by decide +kernel) (by decide +kernel)
set_option maxRecDepth 20000 in
theorem ggL_law_X10_scan_1 : GoodIn wsL_law (wsX10_scan_r1) := goodIn_r _ [146, 13, 139, 140, 414, 327, 17, 231, 21, 236, 187, 188, 2, 189, 147, 148, 149, 12, 150, 48, 151, 152, 153, 46] (by decide +kernel) (by decide +kernel)
set_option maxRecDepth 20000 in
theorem ggL_law_X10_scan_2 : GoodIn wsL_law (wsX10_scan_r2) := goodIn_r _ [154, 71, 73, 165, 166, 167, 28, 168, 169, 170, 171, 172, 173, 61, 159, 264, 265, 266, 16, 267, 268, 269, 270, 248] (by decide +kernel) (by decide +kernel)
set_option maxRecDepth 20000 in
theorem ggL_law_X10_scan_3 : GoodIn wsL_law (wsX10_scan_r3) := goodIn_r _ [69, 249, 271, 272, 273, 274, 97, 275, 276, 277, 278, 39, 43, 47, 52, 53, 279, 280, 281, 282, 283, 60, 62, 284] (by decide +kernel) (by decide +kernel)
set_option maxRecDepth 20000 in
theorem ggL_law_X10_scan_4 : GoodIn wsL_law (wsX10_scan_r4) := goodIn_r _ [285, 286, 287, 288, 289, 290, 291, 292, 293, 294, 295, 42, 296, 82, 222, 297, 298, 299, 300, 301, 302, 51, 303, 89] (by decide +kernel) (by decide +kernel)
set_option maxRecDepth 20000 in
theorem ggL_law_X10_scan_5 : GoodIn wsL_law (wsX10_scan_r5) := goodIn_r _ [304, 305, 190, 419, 420, 421, 20, 422, 423, 424, 425, 426, 427, 428, 208, 429, 430, 431, 432, 433, 434, 435, 436, 437] (by decide +kernel) (by decide +kernel)
set_option maxRecDepth 20000 in
theorem ggL_law_X10_scan_6 : GoodIn wsL_law (wsX10_scan_r6) := goodIn_r _ [438, 439, 440, 441, 442, 368, 369, 370, 443, 372, 373, 374, 375, 376, 68, 70, 242, 156, 157, 158, 377, 197, 198, 199] (by decide +kernel) (by decide +kernel)
set_option maxRecDepth 20000 in
theorem ggL_law_X10_scan_7 : GoodIn wsL_law (wsX10_scan_r7) := goodIn_r _ [378, 379, 380, 444, 445, 446, 447, 239, 240, 241, 243, 244, 245, 246, 247, 448, 449, 450, 451, 452, 453, 454, 455, 456] (by decide +kernel) (by decide +kernel)
set_option maxRecDepth 20000 in
theorem ggL_law_X10_scan_8 : GoodIn wsL_law (wsX10_scan_r8) := goodIn_r _ [457, 458, 459, 460, 461, 462, 463, 464, 465, 466, 467, 75, 76, 77, 468, 469, 470, 471, 91, 472, 473, 474, 475, 393] (by decide +kernel) (by decide +kernel)
set_option maxRecDepth 20000 in
theorem ggL_law_X10_scan_9 : GoodIn wsL_law (wsX10_scan_r9) := goodIn_r _ [394, 395] (by decide +kernel) (by decide +kernel)
set_option maxRecDepth 20000 in
theorem ggL_law_X10_scan_10 : GoodIn wsL_law (wsX100) := goodIn_r _ [595, 596, 597, 598, 599, 600] (by decide +kernel) (by decide +kernel)
set_option maxRecDepth 20000 in
theorem ggL_law_X10_scan_11 : GoodIn wsL_law (wsX60) := goodIn_r _ [601, 602, 603, 604, 605, 606, 607] (by decide +kernel) (by decide +kernel)
set_option maxRecDepth 20000 in
theorem ggL_law_X10_scan_12 : GoodIn wsL_law (wsX30) := goodIn_r _ [619, 620, 621, 622] (by decide +kernel) (by decide +kernel)
set_option maxRecDepth 20000 in
theorem ggL_law_X10_scan_13 : GoodIn wsL_law (wsX70) := goodIn_r _ [630, 631] (by decide +kernel) (by decide +kernel)
set_option maxRecDepth 20000 in
theorem ggL_law_X10_scan_14 : GoodIn wsL_law (wsX10) := goodIn_r _ [608, 609, 610] (by decide +kernel) (by decide +kernel)
set_option maxRecDepth 20000 in
theorem ggL_law_X10_scan_15 : GoodIn wsL_law (wsX20) := goodIn_r _ [627, 628, 629] (by decide +kernel) (by decide +kernel)
set_option maxRecDepth 20000 in
theorem ggL_law_X10_scan_16 : GoodIn wsL_law (wsX40) := goodIn_r _ [632, 633] (by decide +kernel) (by decide +kernel)
set_option maxRecDepth 20000 in
theorem ggL_law_X10_scan_17 : GoodIn wsL_law (wsX00) := goodIn_r _ [611, 612, 613, 614, 615] (by decide +kernel) (by decide +kernel)
theorem ggL_law_X10_scan : GoodIn wsL_law wsX10_scan := goodIn_ca (a := []) ggL_law_X10_scan_0 (goodIn_app (goodIn_app (goodIn_app (goodIn_app (goodIn_app (goodIn_app (goodIn_app (goodIn_app (goodIn_app ggL_law_X10_scan_1 (goodIn_app ggL_law_X10_scan_2 (goodIn_app ggL_law_X10_scan_3 (goodIn_app ggL_law_X10_scan_4 (goodIn_app ggL_law_X10_scan_5 (goodIn_app ggL_law_X10_scan_6 (goodIn_app ggL_law_X10_scan_7 (goodIn_app ggL_law_X10_scan_8 ggL_law_X10_scan_9)))))))) ggL_law_X10_scan_10) ggL_law_X10_scan_11) ggL_law_X10_scan_12) ggL_law_X10_scan_13) ggL_law_X10_scan_14) ggL_law_X10_scan_15) ggL_law_X10_scan_16) ggL_law_X10_scan_17)
set_option maxRecDepth 20000 in
theorem gL_law_X10_scan : GoodIn wsL_law (wsV RL 71 RX10 yX10_scan wsX10_scan) := goodIn_app (goodIn_of _ (by decide +kernel)) ggL_law_X10_scan
set_option maxRecDepth 20000 in
theorem ggL_law_X10_sample : GoodIn wsL_law wsX10_sample := goodIn_r _ [217, 146, 13, 141, 142, 209, 187, 188, 2, 189, 218, 219, 220, 42, 221, 82, 222, 223, 224, 198, 225, 226, 152, 153, 46, 154, 71, 73, 595, 596, 597, 598, 599, 600, 601, 602, 603, 604, 605, 606, 607, 627, 628, 629, 630, 631] (by decide +kernel) (by decide +kernel)
set_option maxRecDepth 20000 in
theorem gL_law_X10_sample : GoodIn wsL_law (wsV RL 25 RX10 yX10_sample wsX10_sample) := goodIn_app (goodIn_of _ (by decide +kernel)) ggL_law_X10_sample
set_option maxRecDepth 20000 in
theorem ggL_law_X10_entry : GoodIn wsL_law wsX10_entry := goodIn_r _ [207, 146, 13, 139, 208, 209, 187, 188, 2, 189, 210, 211, 212, 213, 140, 190, 152, 153, 46, 154, 71, 73, 595, 596, 597, 598, 599, 600, 601, 602, 603, 604, 605, 606, 607, 619, 620, 621, 622, 630, 631] (by decide +kernel) (by decide +kernel)
set_option maxRecDepth 20000 in
theorem gL_law_X10_entry : GoodIn wsL_law (wsV RL 22 RX10 yX10_entry wsX10_entry) := goodIn_app (goodIn_of _ (by decide +kernel)) ggL_law_X10_entry
set_option maxRecDepth 20000 in
theorem ggL_law_X10_setSource : GoodIn wsL_law wsX10_setSource := goodIn_r _ [260, 146, 17, 13, 139, 183, 184, 185, 2, 186, 187, 188, 189, 261, 262, 263, 264, 265, 266, 16, 267, 268, 269, 270, 248, 69, 249, 271, 272, 273, 274, 97, 275, 276, 277, 12, 278, 39, 43, 47, 48, 52, 53, 279, 280, 281, 282, 28, 283, 60, 61, 62, 169, 284, 285, 286, 46, 287, 73, 288, 289, 290, 291, 292, 293, 294, 295, 42, 296, 82, 222, 297, 298, 299, 300, 301, 302, 51, 303, 89, 304, 305, 190, 152, 153, 154, 71, 306, 307, 308, 309, 74, 75, 76, 77, 595, 596, 597, 598, 599, 600, 601, 602, 603, 604, 605, 606, 607, 619, 620, 621, 622, 608, 609, 610, 630, 631, 627, 628, 629, 632, 633] (by decide +kernel) (by decide +kernel)
set_option maxRecDepth 20000 in
theorem gL_law_X10_setSource : GoodIn wsL_law (wsV RL 39 RX10 yX10_setSource wsX10_setSource) := goodIn_app (goodIn_of _ (by decide +kernel)) ggL_law_X10_setSource
set_option maxRecDepth 20000 in
theorem ggL_law_X10_set : GoodIn wsL_law wsX10_set := goodIn_r _ [318, 146, 17, 13, 139, 319, 320, 321, 2, 322, 187, 188, 189, 264, 265, 266, 16, 267, 268, 269, 270, 248, 69, 249, 271, 272, 273, 274, 97, 275, 276, 277, 12, 278, 39, 43, 47, 48, 52, 53, 279, 280, 281, 282, 28, 283, 60, 61, 62, 169, 284, 285, 286, 46, 287, 73, 288, 289, 290, 291, 292, 293, 294, 295, 42, 296, 82, 222, 297, 298, 299, 300, 301, 302, 51, 303, 89, 304, 305, 155, 156, 157, 158, 159, 152, 153, 154, 71, 314, 75, 76, 77, 595, 596, 597, 598, 599, 600, 601, 602, 603, 604, 605, 606, 607, 619, 620, 621, 622, 608, 609, 610, 630, 631, 627, 628, 629, 632, 633] (by decide +kernel) (by decide +kernel)
set_option maxRecDepth 20000 in
theorem gL_law_X10_set : GoodIn wsL_law (wsV RL 46 RX10 yX10_set wsX10_set) := goodIn_app (goodIn_of _ (by decide +kernel)) ggL_law_X10_set
set_option maxRecDepth 20000 in
theorem ggL_law_X10_addEntry : GoodIn wsL_law wsX10_addEntry := goodIn_r _ [326, 13, 139, 140, 146, 327, 17, 187, 188, 2, 189, 328, 329, 330, 264, 265, 266, 16, 267, 268, 269, 270, 248, 69, 249, 271, 272, 273, 274, 97, 275, 276, 277, 12, 278, 39, 43, 47, 48, 52, 53, 279, 280, 281, 282, 28, 283, 60, 61, 62, 169, 284, 285, 286, 46, 287, 73, 288, 289, 290, 291, 292, 293, 294, 295, 42, 296, 82, 222, 297, 298, 299, 300, 301, 302, 51, 303, 89, 304, 305, 331, 332, 333, 334, 335, 336, 337, 338, 71, 339, 152, 153, 154, 340, 75, 76, 77, 74, 595, 596, 597, 598, 599, 600, 601, 602, 603, 604, 605, 606, 607, 619, 620, 621, 622, 608, 609, 610, 630, 631, 627, 628, 629, 632, 633] (by decide +kernel) (by decide +kernel)
set_option maxRecDepth 20000 in
theorem gL_law_X10_addEntry : GoodIn wsL_law (wsV RL 49 RX10 yX10_addEntry wsX10_addEntry) := goodIn_app (goodIn_of _ (by decide +kernel)) ggL_law_X10_addEntry
set_option maxRecDepth 20000 in
theorem ggL_law_X10_pass : GoodIn wsL_law wsX10_pass := goodIn_r _ [391, 146, 13, 327, 17, 187, 188, 2, 189, 147, 148, 149, 12, 150, 48, 151, 152, 153, 46, 154, 71, 73, 264, 265, 266, 16, 267, 268, 269, 270, 248, 69, 249, 271, 272, 273, 274, 97, 275, 276, 277, 278, 39, 43, 47, 52, 53, 279, 280, 281, 282, 28, 283, 60, 61, 62, 169, 284, 285, 286, 287, 288, 289, 290, 291, 292, 293, 294, 295, 42, 296, 82, 222, 297, 298, 299, 300, 301, 302, 51, 303, 89, 304, 305, 392, 393, 394, 395, 91, 75, 76, 77, 595, 596, 597, 598, 599, 600, 601, 602, 603, 604, 605, 606, 607, 630, 631, 608, 609, 610, 619, 620, 621, 622, 627, 628, 629, 632, 633] (by decide +kernel) (by decide +kernel)
set_option maxRecDepth 20000 in
theorem gL_law_X10_pass : GoodIn wsL_law (wsV RL 62 RX10 yX10_pass wsX10_pass) := goodIn_app (goodIn_of _ (by decide +kernel)) ggL_law_X10_pass
set_option maxRecDepth 20000 in
theorem ggL_law_X10_load_0 : GoodIn wsL_law [.code yX10_load cX10_load 2 (some .int)] := goodIn_r _ [533] (by decide +kernel) (by decide +kernel)
set_option maxRecDepth 20000 in
theorem ggL_law_X10_load_1 : GoodIn wsL_law (wsX10_load_r1) := goodIn_r _ [33, 13, 139, 534, 535, 17, 536, 144, 145, 537, 538, 539, 32, 540, 119, 541, 542, 543, 281, 282, 28, 283, 60, 61] (by decide +kernel) (by decide +kernel)
set_option maxRecDepth 20000 in
theorem ggL_law_X10_load_2 : GoodIn wsL_law (wsX10_load_r2) := goodIn_r _ [62, 169, 284, 285, 286, 46, 287, 73, 288, 248, 69, 249, 289, 290, 291, 292, 544, 545, 546, 547, 548, 549, 550, 551] (by decide +kernel) (by decide +kernel)
set_option maxRecDepth 20000 in
theorem ggL_law_X10_load_3 : GoodIn wsL_law (wsX10_load_r3) := goodIn_r _ [117, 552, 553, 554, 116, 555, 556, 124, 557, 558, 559, 560, 561, 562, 563, 564, 565, 566, 567, 568, 569, 570, 571, 572] (by decide +kernel) (by decide +kernel)
set_option maxRecDepth 20000 in
theorem ggL_law_X10_load_4 : GoodIn wsL_law (wsX10_load_r4) := goodIn_r _ [573, 574, 575, 576, 577, 578, 579, 580, 581, 188, 2, 189, 582, 332, 333, 334, 335, 336, 337, 338, 71, 339, 152, 153] (by decide +kernel) (by decide +kernel)
set_option maxRecDepth 20000 in
theorem ggL_law_X10_load_5 : GoodIn wsL_law (wsX10_load_r5) := goodIn_r _ [154, 340, 75, 76, 77, 74, 583, 584, 585, 586, 587, 307, 308, 309, 588, 589, 590, 591, 592, 593, 594, 264, 265, 266] (by decide +kernel) (by decide +kernel)
set_option maxRecDepth 20000 in
theorem ggL_law_X10_load_6 : GoodIn wsL_law (wsX10_load_r6) := goodIn_r _ [16, 267, 268, 269, 270, 271, 272, 273, 274, 97, 275, 276, 277, 12, 278, 39, 43, 47, 48, 52, 53, 279, 280, 293] (by decide +kernel) (by decide +kernel)
set_option maxRecDepth 20000 in
theorem ggL_law_X10_load_7 : GoodIn wsL_law (wsX10_load_r7) := goodIn_r _ [294, 295, 42, 296, 82, 222, 297, 298, 299, 300, 301, 302, 51, 303, 89, 304, 305, 409] (by decide +kernel) (by decide +kernel)
set_option maxRecDepth 20000 in
theorem ggL_law_X10_load_8 : GoodIn wsL_law (wsX100) := goodIn_r _ [595, 596, 597, 598, 599, 600] (by decide +kernel) (by decide +kernel)
set_option maxRecDepth 20000 in
theorem ggL_law_X10_load_9 : GoodIn wsL_law (wsX60) := goodIn_r _ [601, 602, 603, 604, 605, 606, 607] (by decide +kernel) (by decide +kernel)
set_option maxRecDepth 20000 in
theorem ggL_law_X10_load_10 : GoodIn wsL_law (wsX90) := goodIn_r _ [623, 624, 625, 626] (by decide +kernel) (by decide +kernel)
set_option maxRecDepth 20000 in
theorem ggL_law_X10_load_11 : GoodIn wsL_law (wsX80) := goodIn_r _ [634, 635] (by decide +kernel) (by decide +kernel)
set_option maxRecDepth 20000 in
theorem ggL_law_X10_load_12 : GoodIn wsL_law (wsX30) := goodIn_r _ [619, 620, 621, 622] (by decide +kernel) (by decide +kernel)
set_option maxRecDepth 20000 in
theorem ggL_law_X10_load_13 : GoodIn wsL_law (wsX70) := goodIn_r _ [630, 631] (by decide +kernel) (by decide +kernel)
set_option maxRecDepth 20000 in
theorem ggL_law_X10_load_14 : GoodIn wsL_law (wsX10) := goodIn_r _ [608, 609, 610] (by decide +kernel) (by decide +kernel)
set_option maxRecDepth 20000 in
theorem ggL_law_X10_load_15 : GoodIn wsL_law (wsX20) := goodIn_r _ [627, 628, 629] (by decide +kernel) (by decide +kernel)
set_option maxRecDepth 20000 in
theorem ggL_law_X10_load_16 : GoodIn wsL_law (wsX40) := goodIn_r _ [632, 633] (by decide +kernel) (by decide +kernel)
theorem ggL_law_X10_load : GoodIn wsL_law wsX10_load := goodIn_ca (a := []) ggL_law_X10_load_0 (goodIn_app (goodIn_app (goodIn_app (goodIn_app (goodIn_app (goodIn_app (goodIn_app (goodIn_app (goodIn_app (goodIn_app ggL_law_X10_load_1 (goodIn_app ggL_law_X10_load_2 (goodIn_app ggL_law_X10_load_3 (goodIn_app ggL_law_X10_load_4 (goodIn_app ggL_law_X10_load_5 (goodIn_app ggL_law_X10_load_6 ggL_law_X10_load_7)))))) ggL_law_X10_load_8) ggL_law_X10_load_9) ggL_law_X10_load_10) ggL_law_X10_load_11) ggL_law_X10_load_12) ggL_law_X10_load_13) ggL_law_X10_load_14) ggL_law_X10_load_15) ggL_law_X10_load_16)
set_option maxRecDepth 20000 in
theorem gL_law_X10_load : GoodIn wsL_law (wsV RL 118 RX10 yX10_load wsX10_load) := goodIn_app (goodIn_of _ (by decide +kernel)) ggL_law_X10_load
set_option maxRecDepth 20000 in
theorem ggL_law_X10_held : GoodIn wsL_law wsX10_held := goodIn_r _ [235, 13, 236, 139, 237, 146, 238, 239, 240, 28, 241, 242, 156, 157, 158, 62, 159, 152, 153, 46, 154, 71, 73, 243, 2, 244, 245, 246, 247, 248, 69, 249, 595, 596, 597, 598, 599, 600, 601, 602, 603, 604, 605, 606, 607, 619, 620, 621, 622, 630, 631] (by decide +kernel) (by decide +kernel)
set_option maxRecDepth 20000 in
theorem gL_law_X10_held : GoodIn wsL_law (wsV RL 31 RX10 yX10_held wsX10_held) := goodIn_app (goodIn_of _ (by decide +kernel)) ggL_law_X10_held

set_option maxRecDepth 20000 in
theorem ggL_law_X6_drawn : GoodIn wsL_law wsX6_drawn := goodIn_r _ [399, 127, 382, 89, 182, 183, 184, 5, 185, 601, 602, 603, 604, 605, 606, 607, 608, 609, 610, 611, 612, 613, 614, 615, 616, 617, 618, 619, 620, 621, 622] (by decide +kernel) (by decide +kernel)
set_option maxRecDepth 20000 in
theorem gL_law_X6_drawn : GoodIn wsL_law (wsV RL 114 RX6 yX6_drawn wsX6_drawn) := goodIn_app (goodIn_of _ (by decide +kernel)) ggL_law_X6_drawn
set_option maxRecDepth 20000 in
theorem ggL_law_X5_waits : GoodIn wsL_law wsX5_waits := goodIn_r _ [403, 25, 21, 404, 405, 406, 24, 407, 71, 70, 408, 409, 410, 20, 411, 62, 275, 212, 213, 214, 64, 593, 594, 595, 596, 597, 598, 599, 600, 640, 641, 642, 633, 634, 635, 636, 637, 638, 639] (by decide +kernel) (by decide +kernel)
set_option maxRecDepth 20000 in
theorem gL_law_X5_waits : GoodIn wsL_law (wsV RL 115 RX5 yX5_waits wsX5_waits) := goodIn_app (goodIn_of _ (by decide +kernel)) ggL_law_X5_waits
set_option maxRecDepth 20000 in
theorem ggL_law_X6_waits : GoodIn wsL_law wsX6_waits := goodIn_r _ [415, 127, 382, 89, 416, 417, 418, 5, 419, 90, 223, 224, 225, 226, 91, 601, 602, 603, 604, 605, 606, 607, 608, 609, 610, 611, 612, 613, 614, 615, 616, 617, 618, 619, 620, 621, 622] (by decide +kernel) (by decide +kernel)
set_option maxRecDepth 20000 in
theorem gL_law_X6_waits : GoodIn wsL_law (wsV RL 118 RX6 yX6_waits wsX6_waits) := goodIn_app (goodIn_of _ (by decide +kernel)) ggL_law_X6_waits
set_option maxRecDepth 20000 in
theorem ggL_law_L_pulled : GoodIn wsL_law wsL_pulled := goodIn_ca (goodIn_r _ [422, 144, 423, 424, 425, 2, 426, 149, 150, 21, 151, 152, 153, 154, 35, 593, 594, 595, 596, 597, 598, 599, 600, 633, 634, 635, 636, 637, 638, 639] (by decide +kernel) (by decide +kernel)) (goodIn_sub (fun _ h => List.mem_append_left _ (List.mem_append_left _ (List.mem_append_right _ h))) (by decide +kernel))
set_option maxRecDepth 20000 in
theorem gL_law_L_pulled : GoodIn wsL_law (va_wsS RL 119 yL_pulled wsL_pulled) := goodIn_app (goodIn_of _ (by decide +kernel)) ggL_law_L_pulled
set_option maxRecDepth 20000 in
theorem ggL_law_X6_pulled : GoodIn wsL_law wsX6_pulled := goodIn_r _ [430, 127, 138, 129, 87, 182, 183, 184, 5, 185, 431, 432, 433, 434, 382, 89, 601, 602, 603, 604, 605, 606, 607, 608, 609, 610, 611, 612, 613, 614, 615, 616, 617, 618, 619, 620, 621, 622] (by decide +kernel) (by decide +kernel)
set_option maxRecDepth 20000 in
theorem gL_law_X6_pulled : GoodIn wsL_law (wsV RL 121 RX6 yX6_pulled wsX6_pulled) := goodIn_app (goodIn_of _ (by decide +kernel)) ggL_law_X6_pulled
set_option maxRecDepth 20000 in
theorem ggL_law_L_read : GoodIn wsL_law wsL_read := goodIn_ca (goodIn_r _ [437, 144, 438, 439, 440, 2, 441, 149, 150, 21, 36, 207, 208, 209, 20, 210, 66, 442, 288, 289, 290, 64, 155, 156, 157, 158, 34, 15, 159, 160, 161, 162, 163, 164, 17, 165, 49, 443, 444, 445, 446, 65, 593, 594, 595, 596, 597, 598, 599, 600, 633, 634, 635, 636, 637, 638, 639, 623, 624, 625, 626, 627, 628, 629, 630, 631, 632] (by decide +kernel) (by decide +kernel)) (goodIn_sub (fun _ h => List.mem_append_left _ (List.mem_append_left _ (List.mem_append_right _ h))) (by decide +kernel))
set_option maxRecDepth 20000 in
theorem gL_law_L_read : GoodIn wsL_law (va_wsS RL 122 yL_read wsL_read) := goodIn_app (goodIn_of _ (by decide +kernel)) ggL_law_L_read
set_option maxRecDepth 20000 in
theorem ggL_law_X6_read : GoodIn wsL_law wsX6_read := goodIn_r _ [450, 139, 90, 91, 92, 219, 220, 221, 5, 222, 127, 129, 182, 183, 184, 185, 186, 187, 188, 189, 128, 85, 190, 191, 192, 601, 602, 603, 604, 605, 606, 607, 608, 609, 610, 611, 612, 613, 614, 615, 616, 617, 618, 619, 620, 621, 622] (by decide +kernel) (by decide +kernel)
set_option maxRecDepth 20000 in
theorem gL_law_X6_read : GoodIn wsL_law (wsV RL 124 RX6 yX6_read wsX6_read) := goodIn_app (goodIn_of _ (by decide +kernel)) ggL_law_X6_read
set_option maxRecDepth 20000 in
theorem ggL_law_L_reading : GoodIn wsL_law wsL_reading := goodIn_ca (goodIn_r _ [453, 144, 454, 455, 456, 2, 457, 149, 150, 21, 207, 208, 209, 20, 210, 66, 251, 252, 253, 254, 34, 458, 277, 278, 279, 64, 280, 281, 109, 282, 283, 284, 285, 286, 65, 287, 288, 289, 290, 160, 161, 291, 292, 293, 294, 295, 296, 297, 593, 594, 595, 596, 597, 598, 599, 600, 633, 634, 635, 636, 637, 638, 639] (by decide +kernel) (by decide +kernel)) (goodIn_sub (fun _ h => List.mem_append_left _ (List.mem_append_left _ (List.mem_append_right _ h))) (by decide +kernel))
set_option maxRecDepth 20000 in
theorem gL_law_L_reading : GoodIn wsL_law (va_wsS RL 125 yL_reading wsL_reading) := goodIn_app (goodIn_of _ (by decide +kernel)) ggL_law_L_reading
set_option maxRecDepth 20000 in
theorem ggL_law_X6_reading : GoodIn wsL_law wsX6_reading := goodIn_r _ [462, 128, 219, 220, 221, 5, 222, 127, 129, 182, 183, 184, 185, 223, 224, 225, 226, 91, 324, 325, 326, 327, 92, 190, 191, 192, 601, 602, 603, 604, 605, 606, 607, 608, 609, 610, 611, 612, 613, 614, 615, 616, 617, 618, 619, 620, 621, 622] (by decide +kernel) (by decide +kernel)
set_option maxRecDepth 20000 in
theorem gL_law_X6_reading : GoodIn wsL_law (wsV RL 127 RX6 yX6_reading wsX6_reading) := goodIn_app (goodIn_of _ (by decide +kernel)) ggL_law_X6_reading
set_option maxRecDepth 20000 in
theorem ggL_law_L_risk : GoodIn wsL_law wsL_risk := goodIn_ca (goodIn_r _ [465, 144, 466, 467, 468, 2, 469, 149, 150, 29, 15, 21, 25, 251, 252, 253, 254, 34, 470, 471, 472, 473, 36, 474, 475, 476, 28, 477, 78, 79, 80, 76, 77, 478, 479, 480, 481, 482, 299, 300, 20, 301, 61, 160, 161, 483, 277, 278, 279, 64, 280, 281, 109, 282, 283, 284, 285, 286, 65, 287, 288, 289, 290, 291, 292, 293, 294, 295, 296, 297, 484, 485, 486, 487, 488, 489, 490, 405, 406, 24, 407, 71, 70, 408, 409, 410, 411, 62, 275, 212, 213, 214, 491, 492, 493, 17, 494, 495, 51, 496, 52, 497, 498, 499, 500, 501, 593, 594, 595, 596, 597, 598, 599, 600, 643, 644, 645, 646, 623, 624, 625, 626, 627, 628, 629, 630, 631, 632, 633, 634, 635, 636, 637, 638, 639, 640, 641, 642] (by decide +kernel) (by decide +kernel)) (goodIn_sub (fun _ h => List.mem_append_left _ (List.mem_append_left _ (List.mem_append_right _ h))) (by decide +kernel))
set_option maxRecDepth 20000 in
theorem gL_law_L_risk : GoodIn wsL_law (va_wsS RL 128 yL_risk wsL_risk) := goodIn_app (goodIn_of _ (by decide +kernel)) ggL_law_L_risk
set_option maxRecDepth 20000 in
theorem ggL_law_X6_risk : GoodIn wsL_law wsX6_risk := goodIn_r _ [505, 312, 313, 314, 5, 315, 127, 128, 182, 183, 184, 185, 506, 507, 508, 509, 510, 139, 356, 511, 382, 89, 512, 355, 513, 514, 515, 357, 358, 359, 360, 129, 85, 93, 94, 361, 316, 317, 318, 319, 320, 321, 322, 323, 90, 88, 223, 224, 225, 226, 91, 190, 191, 192, 324, 325, 326, 327, 92, 340, 341, 342, 343, 86, 416, 417, 418, 419, 516, 517, 518, 519, 520, 521, 522, 523, 524, 525, 526, 527, 528, 529, 530, 601, 602, 603, 604, 605, 606, 607, 608, 609, 610, 611, 612, 613, 614, 615, 616, 617, 618, 619, 620, 621, 622] (by decide +kernel) (by decide +kernel)
set_option maxRecDepth 20000 in
theorem gL_law_X6_risk : GoodIn wsL_law (wsV RL 130 RX6 yX6_risk wsX6_risk) := goodIn_app (goodIn_of _ (by decide +kernel)) ggL_law_X6_risk

set_option maxRecDepth 20000 in
theorem ggL_law_X5_seal : GoodIn wsL_law wsX5_seal := goodIn_r _ [230, 36, 21, 25, 231, 232, 233, 24, 234, 72, 593, 594, 595, 596, 597, 598, 599, 600, 633, 634, 635, 636, 637, 638, 639, 640, 641, 642] (by decide +kernel) (by decide +kernel)
set_option maxRecDepth 20000 in
theorem gL_law_X5_seal : GoodIn wsL_law (wsV RL 93 RX5 yX5_seal wsX5_seal) := goodIn_app (goodIn_of _ (by decide +kernel)) ggL_law_X5_seal
set_option maxRecDepth 20000 in
theorem ggL_law_X6_seal : GoodIn wsL_law wsX6_seal := goodIn_r _ [238, 127, 139, 129, 239, 601, 602, 603, 604, 605, 606, 607, 608, 609, 610, 611, 612, 613, 614, 615, 616, 617, 618, 619, 620, 621, 622] (by decide +kernel) (by decide +kernel)
set_option maxRecDepth 20000 in
theorem gL_law_X6_seal : GoodIn wsL_law (wsV RL 97 RX6 yX6_seal wsX6_seal) := goodIn_app (goodIn_of _ (by decide +kernel)) ggL_law_X6_seal
set_option maxRecDepth 20000 in
theorem ggL_law_L_votes : GoodIn wsL_law wsL_votes := goodIn_ca (goodIn_r _ [242, 144, 243, 244, 245, 2, 246, 149, 150, 247, 248, 249, 250, 15, 251, 252, 253, 254, 34, 255, 256, 257, 17, 258, 49, 259, 260, 261, 262, 33, 21, 263, 264, 265, 32, 266, 56, 267, 268, 269, 270, 271, 272, 273, 20, 274, 275, 212, 213, 214, 64, 276, 277, 278, 279, 280, 281, 109, 282, 283, 284, 285, 286, 65, 287, 288, 289, 290, 160, 161, 291, 292, 293, 294, 295, 296, 297, 298, 299, 300, 301, 61, 302, 171, 172, 173, 303, 116, 117, 118, 593, 594, 595, 596, 597, 598, 599, 600, 623, 624, 625, 626, 627, 628, 629, 630, 631, 632, 633, 634, 635, 636, 637, 638, 639, 647] (by decide +kernel) (by decide +kernel)) (goodIn_sub (fun _ h => List.mem_append_left _ (List.mem_append_left _ (List.mem_append_right _ h))) (by decide +kernel))
set_option maxRecDepth 20000 in
theorem gL_law_L_votes : GoodIn wsL_law (va_wsS RL 98 yL_votes wsL_votes) := goodIn_app (goodIn_of _ (by decide +kernel)) ggL_law_L_votes
set_option maxRecDepth 20000 in
theorem ggL_law_X6_votes : GoodIn wsL_law wsX6_votes := goodIn_r _ [307, 308, 309, 310, 5, 311, 85, 312, 313, 314, 315, 127, 128, 182, 183, 184, 185, 316, 317, 318, 319, 129, 320, 321, 322, 323, 90, 88, 223, 224, 225, 226, 91, 190, 191, 192, 324, 325, 326, 327, 92, 601, 602, 603, 604, 605, 606, 607, 608, 609, 610, 611, 612, 613, 614, 615, 616, 617, 618, 619, 620, 621, 622] (by decide +kernel) (by decide +kernel)
set_option maxRecDepth 20000 in
theorem gL_law_X6_votes : GoodIn wsL_law (wsV RL 101 RX6 yX6_votes wsX6_votes) := goodIn_app (goodIn_of _ (by decide +kernel)) ggL_law_X6_votes
set_option maxRecDepth 20000 in
theorem ggL_law_L_wins : GoodIn wsL_law wsL_wins := goodIn_ca (goodIn_r _ [330, 144, 331, 332, 333, 2, 334, 149, 150, 15, 247, 248, 249, 250, 251, 252, 253, 254, 34, 255, 256, 257, 17, 258, 49, 259, 260, 261, 262, 33, 21, 263, 264, 265, 32, 266, 56, 267, 268, 269, 270, 271, 272, 273, 20, 274, 275, 212, 213, 214, 64, 276, 277, 278, 279, 280, 281, 109, 282, 283, 284, 285, 286, 65, 287, 288, 289, 290, 160, 161, 291, 292, 293, 294, 295, 296, 297, 298, 299, 300, 301, 61, 302, 171, 172, 173, 335, 112, 113, 114, 50, 115, 116, 117, 118, 593, 594, 595, 596, 597, 598, 599, 600, 623, 624, 625, 626, 627, 628, 629, 630, 631, 632, 633, 634, 635, 636, 637, 638, 639, 647] (by decide +kernel) (by decide +kernel)) (goodIn_sub (fun _ h => List.mem_append_left _ (List.mem_append_left _ (List.mem_append_right _ h))) (by decide +kernel))
set_option maxRecDepth 20000 in
theorem gL_law_L_wins : GoodIn wsL_law (va_wsS RL 102 yL_wins wsL_wins) := goodIn_app (goodIn_of _ (by decide +kernel)) ggL_law_L_wins
set_option maxRecDepth 20000 in
theorem ggL_law_X6_wins : GoodIn wsL_law wsX6_wins := goodIn_r _ [339, 308, 309, 310, 5, 311, 85, 312, 313, 314, 315, 127, 128, 182, 183, 184, 185, 340, 341, 342, 343, 86, 316, 317, 318, 319, 129, 320, 321, 322, 323, 90, 88, 223, 224, 225, 226, 91, 190, 191, 192, 324, 325, 326, 327, 92, 601, 602, 603, 604, 605, 606, 607, 608, 609, 610, 611, 612, 613, 614, 615, 616, 617, 618, 619, 620, 621, 622] (by decide +kernel) (by decide +kernel)
set_option maxRecDepth 20000 in
theorem gL_law_X6_wins : GoodIn wsL_law (wsV RL 104 RX6 yX6_wins wsX6_wins) := goodIn_app (goodIn_of _ (by decide +kernel)) ggL_law_X6_wins
set_option maxRecDepth 20000 in
theorem ggL_law_L_about : GoodIn wsL_law wsL_about := goodIn_ca (goodIn_r _ [346, 144, 347, 348, 349, 2, 350, 149, 150, 15, 251, 252, 253, 254, 34, 593, 594, 595, 596, 597, 598, 599, 600, 623, 624, 625, 626, 627, 628, 629, 630, 631, 632] (by decide +kernel) (by decide +kernel)) (goodIn_sub (fun _ h => List.mem_append_left _ (List.mem_append_left _ (List.mem_append_right _ h))) (by decide +kernel))
set_option maxRecDepth 20000 in
theorem gL_law_L_about : GoodIn wsL_law (va_wsS RL 105 yL_about wsL_about) := goodIn_app (goodIn_of _ (by decide +kernel)) ggL_law_L_about
set_option maxRecDepth 20000 in
theorem ggL_law_X6_about : GoodIn wsL_law wsX6_about := goodIn_r _ [354, 355, 356, 85, 86, 312, 313, 314, 5, 315, 127, 128, 182, 183, 184, 185, 357, 358, 359, 360, 129, 93, 94, 361, 316, 317, 318, 319, 320, 321, 322, 323, 90, 88, 223, 224, 225, 226, 91, 190, 191, 192, 324, 325, 326, 327, 92, 340, 341, 342, 343, 601, 602, 603, 604, 605, 606, 607, 608, 609, 610, 611, 612, 613, 614, 615, 616, 617, 618, 619, 620, 621, 622] (by decide +kernel) (by decide +kernel)
set_option maxRecDepth 20000 in
theorem gL_law_X6_about : GoodIn wsL_law (wsV RL 107 RX6 yX6_about wsX6_about) := goodIn_app (goodIn_of _ (by decide +kernel)) ggL_law_X6_about
set_option maxRecDepth 20000 in
theorem ggL_law_L_draw : GoodIn wsL_law wsL_draw := goodIn_ca (goodIn_r _ [364, 365, 366, 367, 368, 2, 369, 370, 371, 36, 25, 21, 372, 373, 374, 24, 375, 71, 72, 376, 377, 70, 593, 594, 595, 596, 597, 598, 599, 600, 640, 641, 642, 633, 634, 635, 636, 637, 638, 639] (by decide +kernel) (by decide +kernel)) (goodIn_sub (fun _ h => List.mem_append_right _ h) (by decide +kernel))
set_option maxRecDepth 20000 in
theorem gL_law_L_draw : GoodIn wsL_law (va_wsS RL 108 yL_draw wsL_draw) := goodIn_app (goodIn_of _ (by decide +kernel)) ggL_law_L_draw
set_option maxRecDepth 20000 in
theorem ggL_law_X6_draw : GoodIn wsL_law wsX6_draw := goodIn_r _ [381, 127, 139, 382, 239, 383, 384, 89, 129, 182, 183, 184, 5, 185, 601, 602, 603, 604, 605, 606, 607, 608, 609, 610, 611, 612, 613, 614, 615, 616, 617, 618, 619, 620, 621, 622] (by decide +kernel) (by decide +kernel)
set_option maxRecDepth 20000 in
theorem gL_law_X6_draw : GoodIn wsL_law (wsV RL 111 RX6 yX6_draw wsX6_draw) := goodIn_app (goodIn_of _ (by decide +kernel)) ggL_law_X6_draw
set_option maxRecDepth 20000 in
theorem ggL_law_L_drawn : GoodIn wsL_law wsL_drawn := goodIn_ca (goodIn_r _ [387, 144, 388, 389, 390, 2, 391, 149, 150, 25, 392, 393, 394, 24, 395, 71, 593, 594, 595, 596, 597, 598, 599, 600, 640, 641, 642] (by decide +kernel) (by decide +kernel)) (goodIn_sub (fun _ h => List.mem_append_left _ (List.mem_append_left _ (List.mem_append_right _ h))) (by decide +kernel))
set_option maxRecDepth 20000 in
theorem gL_law_L_drawn : GoodIn wsL_law (va_wsS RL 112 yL_drawn wsL_drawn) := goodIn_app (goodIn_of _ (by decide +kernel)) ggL_law_L_drawn

set_option maxRecDepth 20000 in
theorem ggL_law_X5_init : GoodIn wsL_law wsX5_init := goodIn_r _ [10, 11, 12, 13, 14, 15, 16, 17, 18, 19, 20, 21, 22, 23, 24, 25, 26, 27, 28, 29, 30, 31, 32, 33, 34, 35, 36, 37, 38, 39, 40, 41, 42, 43, 44, 45, 46, 47, 48, 49, 50, 51, 52, 53, 54, 55, 56, 57, 58, 59, 60, 61, 62, 63, 64, 65, 66, 67, 68, 69, 70, 71, 72, 73, 74, 75, 76, 77, 78, 79, 80, 593, 594, 595, 596, 597, 598, 599, 600, 623, 624, 625, 626, 627, 628, 629, 630, 631, 632, 633, 634, 635, 636, 637, 638, 639, 640, 641, 642, 643, 644, 645, 646, 647] (by decide +kernel) (by decide +kernel)
set_option maxRecDepth 20000 in
theorem gL_law_X5_init : GoodIn wsL_law (wsX5_init) := ggL_law_X5_init
set_option maxRecDepth 20000 in
theorem ggL_law_X6_init : GoodIn wsL_law wsX6_init := goodIn_r _ [83, 84, 12, 13, 44, 85, 86, 87, 88, 89, 42, 90, 91, 92, 93, 94, 601, 602, 603, 604, 605, 606, 607, 608, 609, 610, 611, 612, 613, 614, 615, 616, 617, 618, 619, 620, 621, 622] (by decide +kernel) (by decide +kernel)
set_option maxRecDepth 20000 in
theorem gL_law_X6_init : GoodIn wsL_law (wsX6_init) := ggL_law_X6_init
set_option maxRecDepth 20000 in
theorem ggL_law_X5_race : GoodIn wsL_law wsX5_race := goodIn_r _ [98, 34, 21, 15, 99, 100, 101, 17, 102, 49, 50, 103, 104, 105, 106, 43, 41, 48, 47, 52, 107, 108, 109, 110, 111, 112, 113, 114, 115, 116, 117, 32, 118, 56, 119, 120, 121, 122, 45, 46, 593, 594, 595, 596, 597, 598, 599, 600, 633, 634, 635, 636, 637, 638, 639, 623, 624, 625, 626, 627, 628, 629, 630, 631, 632, 647] (by decide +kernel) (by decide +kernel)
set_option maxRecDepth 20000 in
theorem gL_law_X5_race : GoodIn wsL_law (wsV RL 69 RX5 yX5_race wsX5_race) := goodIn_app (goodIn_of _ (by decide +kernel)) ggL_law_X5_race
set_option maxRecDepth 20000 in
theorem ggL_law_X6_race : GoodIn wsL_law wsX6_race := goodIn_r _ [126, 127, 128, 129, 85, 86, 601, 602, 603, 604, 605, 606, 607, 608, 609, 610, 611, 612, 613, 614, 615, 616, 617, 618, 619, 620, 621, 622] (by decide +kernel) (by decide +kernel)
set_option maxRecDepth 20000 in
theorem gL_law_X6_race : GoodIn wsL_law (wsV RL 72 RX6 yX6_race wsX6_race) := goodIn_app (goodIn_of _ (by decide +kernel)) ggL_law_X6_race
set_option maxRecDepth 20000 in
theorem ggL_law_X5_box : GoodIn wsL_law wsX5_box := goodIn_r _ [133, 35, 36, 593, 594, 595, 596, 597, 598, 599, 600] (by decide +kernel) (by decide +kernel)
set_option maxRecDepth 20000 in
theorem gL_law_X5_box : GoodIn wsL_law (wsV RL 73 RX5 yX5_box wsX5_box) := goodIn_app (goodIn_of _ (by decide +kernel)) ggL_law_X5_box
set_option maxRecDepth 20000 in
theorem ggL_law_X6_box : GoodIn wsL_law wsX6_box := goodIn_r _ [137, 127, 138, 139, 601, 602, 603, 604, 605, 606, 607, 608, 609, 610, 611, 612, 613, 614, 615, 616, 617, 618, 619, 620, 621, 622] (by decide +kernel) (by decide +kernel)
set_option maxRecDepth 20000 in
theorem gL_law_X6_box : GoodIn wsL_law (wsV RL 77 RX6 yX6_box wsX6_box) := goodIn_app (goodIn_of _ (by decide +kernel)) ggL_law_X6_box
set_option maxRecDepth 20000 in
theorem ggL_law_L_paper : GoodIn wsL_law wsL_paper := goodIn_ca (goodIn_r _ [143, 144, 145, 146, 147, 2, 148, 149, 150, 21, 36, 34, 15, 151, 152, 153, 154, 35, 155, 156, 157, 158, 159, 160, 161, 162, 163, 164, 17, 165, 49, 166, 167, 168, 169, 41, 51, 170, 171, 172, 32, 173, 56, 103, 104, 105, 106, 43, 48, 47, 52, 107, 108, 109, 110, 111, 112, 113, 114, 50, 115, 116, 117, 118, 119, 120, 121, 122, 45, 46, 174, 175, 176, 20, 177, 60, 66, 61, 593, 594, 595, 596, 597, 598, 599, 600, 633, 634, 635, 636, 637, 638, 639, 623, 624, 625, 626, 627, 628, 629, 630, 631, 632, 647] (by decide +kernel) (by decide +kernel)) (goodIn_sub (fun _ h => List.mem_append_left _ (List.mem_append_left _ (List.mem_append_right _ h))) (by decide +kernel))
set_option maxRecDepth 20000 in
theorem gL_law_L_paper : GoodIn wsL_law (va_wsS RL 78 yL_paper wsL_paper) := goodIn_app (goodIn_of _ (by decide +kernel)) ggL_law_L_paper
set_option maxRecDepth 20000 in
theorem ggL_law_X6_paper : GoodIn wsL_law wsX6_paper := goodIn_r _ [181, 127, 138, 129, 139, 87, 88, 182, 183, 184, 5, 185, 186, 187, 188, 189, 128, 85, 190, 191, 192, 601, 602, 603, 604, 605, 606, 607, 608, 609, 610, 611, 612, 613, 614, 615, 616, 617, 618, 619, 620, 621, 622] (by decide +kernel) (by decide +kernel)
set_option maxRecDepth 20000 in
theorem gL_law_X6_paper : GoodIn wsL_law (wsV RL 83 RX6 yX6_paper wsX6_paper) := goodIn_app (goodIn_of _ (by decide +kernel)) ggL_law_X6_paper
set_option maxRecDepth 20000 in
theorem ggL_law_X6_thrown : GoodIn wsL_law wsX6_thrown := goodIn_r _ [196, 127, 601, 602, 603, 604, 605, 606, 607, 608, 609, 610, 611, 612, 613, 614, 615, 616, 617, 618, 619, 620, 621, 622] (by decide +kernel) (by decide +kernel)
set_option maxRecDepth 20000 in
theorem gL_law_X6_thrown : GoodIn wsL_law (wsV RL 84 RX6 yX6_thrown wsX6_thrown) := goodIn_app (goodIn_of _ (by decide +kernel)) ggL_law_X6_thrown
set_option maxRecDepth 20000 in
theorem ggL_law_L_lose : GoodIn wsL_law wsL_lose := goodIn_ca (goodIn_ca (goodIn_r _ [199, 144, 200, 201, 202, 203, 2, 204, 149, 150, 205, 206, 21, 207, 208, 209, 20, 210, 66, 211, 212, 213, 214, 64, 593, 594, 595, 596, 597, 598, 599, 600, 633, 634, 635, 636, 637, 638, 639] (by decide +kernel) (by decide +kernel)) (goodIn_sub (fun _ h => List.mem_append_left _ (List.mem_append_left _ (List.mem_append_right _ h))) (by decide +kernel))) (goodIn_sub (fun _ h => List.mem_append_left _ (List.mem_append_right _ h)) (by decide +kernel))
set_option maxRecDepth 20000 in
theorem gL_law_L_lose : GoodIn wsL_law (va_wsS RL 87 yL_lose wsL_lose) := goodIn_app (goodIn_of _ (by decide +kernel)) ggL_law_L_lose
set_option maxRecDepth 20000 in
theorem ggL_law_X6_lose : GoodIn wsL_law wsX6_lose := goodIn_r _ [218, 90, 219, 220, 221, 5, 222, 127, 129, 182, 183, 184, 185, 223, 224, 225, 226, 91, 601, 602, 603, 604, 605, 606, 607, 608, 609, 610, 611, 612, 613, 614, 615, 616, 617, 618, 619, 620, 621, 622] (by decide +kernel) (by decide +kernel)
set_option maxRecDepth 20000 in
theorem gL_law_X6_lose : GoodIn wsL_law (wsV RL 90 RX6 yX6_lose wsX6_lose) := goodIn_app (goodIn_of _ (by decide +kernel)) ggL_law_X6_lose

set_option maxRecDepth 20000 in
theorem ggL_paper_X5_paper : GoodIn wsL_paper wsX5_paper := goodIn_ca (goodIn_r _ [6, 7, 8, 9, 10, 11, 12, 13, 14, 15, 5, 16, 17, 18, 19, 20, 21, 22, 23, 24, 25, 26, 27, 28, 29, 30, 31, 32, 33, 34, 35, 36, 37, 38, 39, 40, 41, 42, 43, 44, 45, 46, 47, 48, 49, 50, 51, 52, 53, 54, 55, 56, 57, 58, 59, 60, 61, 62, 63, 64, 65, 66, 67, 68, 69, 70, 71, 72, 73, 74, 75, 76, 77, 78, 79, 80, 81, 82, 83, 84, 85, 86, 87, 88, 89, 90, 91, 92, 93, 94, 95, 96, 97, 98, 99, 100, 101, 102, 103] (by decide +kernel) (by decide +kernel)) (goodIn_sub (fun _ h => List.mem_cons_of_mem _ (List.mem_append_right _ h)) (by decide +kernel))
set_option maxRecDepth 20000 in
theorem gL_paper_X5_paper : GoodIn wsL_paper (wsV RL 7 RX5 yX5_paper wsX5_paper) := goodIn_app (goodIn_of _ (by decide +kernel)) ggL_paper_X5_paper
theorem dL_paper_0 : decode cL_paper 0 = .ok (.aload_n 3, 1) := by decide +kernel
theorem dL_paper_1 : decode cL_paper 1 = .ok (.iconst 0, 1) := by decide +kernel
theorem dL_paper_2 : decode cL_paper 2 = .ok (.aload_n 0, 1) := by decide +kernel
theorem dL_paper_3 : decode cL_paper 3 = .ok (.iload_n 1, 1) := by decide +kernel
theorem dL_paper_4 : decode cL_paper 4 = .ok (.iload_n 2, 1) := by decide +kernel
theorem dL_paper_5 : decode cL_paper 5 = .ok (.invokevirtual 7, 3) := by decide +kernel
theorem dL_paper_8 : decode cL_paper 8 = .ok (.i2l, 1) := by decide +kernel
theorem dL_paper_9 : decode cL_paper 9 = .ok (.lastore, 1) := by decide +kernel
theorem dL_paper_10 : decode cL_paper 10 = .ok (.goto 7, 3) := by decide +kernel
theorem dL_paper_13 : decode cL_paper 13 = .ok (.astore 4, 2) := by decide +kernel
theorem dL_paper_15 : decode cL_paper 15 = .ok (.iconst 1, 1) := by decide +kernel
theorem dL_paper_16 : decode cL_paper 16 = .ok (.ireturn, 1) := by decide +kernel
theorem dL_paper_17 : decode cL_paper 17 = .ok (.iconst 0, 1) := by decide +kernel
theorem dL_paper_18 : decode cL_paper 18 = .ok (.ireturn, 1) := by decide +kernel
set_option maxRecDepth 20000 in
theorem ggL_lose_X5_lose : GoodIn wsL_lose wsX5_lose := goodIn_ca (goodIn_ca (goodIn_r _ [7, 8, 9, 10, 11, 12, 13, 14, 15, 16, 17, 18, 19, 20, 21, 22, 23, 24, 25, 26, 27, 28, 29, 30, 31, 32, 33, 34, 35, 36, 37, 38] (by decide +kernel) (by decide +kernel)) (goodIn_sub (fun _ h => List.mem_cons_of_mem _ (List.mem_append_left _ (List.mem_append_right _ h))) (by decide +kernel))) (goodIn_sub (fun _ h => List.mem_cons_of_mem _ (List.mem_append_right _ h)) (by decide +kernel))
set_option maxRecDepth 20000 in
theorem gL_lose_X5_lose : GoodIn wsL_lose (wsV RL 15 RX5 yX5_lose wsX5_lose) := goodIn_app (goodIn_of _ (by decide +kernel)) ggL_lose_X5_lose
theorem dL_lose_0 : decode cL_lose 0 = .ok (.aload_n 3, 1) := by decide +kernel
theorem dL_lose_1 : decode cL_lose 1 = .ok (.iconst 0, 1) := by decide +kernel
theorem dL_lose_2 : decode cL_lose 2 = .ok (.aload_n 0, 1) := by decide +kernel
theorem dL_lose_3 : decode cL_lose 3 = .ok (.iload_n 1, 1) := by decide +kernel
theorem dL_lose_4 : decode cL_lose 4 = .ok (.iload_n 2, 1) := by decide +kernel
theorem dL_lose_5 : decode cL_lose 5 = .ok (.invokevirtual 15, 3) := by decide +kernel
theorem dL_lose_8 : decode cL_lose 8 = .ok (.ifCond .eq 7, 3) := by decide +kernel
theorem dL_lose_11 : decode cL_lose 11 = .ok (.lconst 1, 1) := by decide +kernel
theorem dL_lose_12 : decode cL_lose 12 = .ok (.goto 4, 3) := by decide +kernel
theorem dL_lose_15 : decode cL_lose 15 = .ok (.lconst 0, 1) := by decide +kernel
theorem dL_lose_16 : decode cL_lose 16 = .ok (.lastore, 1) := by decide +kernel
theorem dL_lose_17 : decode cL_lose 17 = .ok (.goto 11, 3) := by decide +kernel
theorem dL_lose_20 : decode cL_lose 20 = .ok (.astore 4, 2) := by decide +kernel
theorem dL_lose_22 : decode cL_lose 22 = .ok (.iconst 1, 1) := by decide +kernel
theorem dL_lose_23 : decode cL_lose 23 = .ok (.ireturn, 1) := by decide +kernel
theorem dL_lose_24 : decode cL_lose 24 = .ok (.astore 4, 2) := by decide +kernel
theorem dL_lose_26 : decode cL_lose 26 = .ok (.iconst 2, 1) := by decide +kernel
theorem dL_lose_27 : decode cL_lose 27 = .ok (.ireturn, 1) := by decide +kernel
theorem dL_lose_28 : decode cL_lose 28 = .ok (.iconst 0, 1) := by decide +kernel
theorem dL_lose_29 : decode cL_lose 29 = .ok (.ireturn, 1) := by decide +kernel
set_option maxRecDepth 20000 in
theorem ggL_votes_X5_votes : GoodIn wsL_votes wsX5_votes := goodIn_ca (goodIn_r _ [6, 7, 8, 9, 10, 11, 5, 12, 13, 14, 15, 16, 17, 18, 19, 20, 21, 22, 23, 24, 25, 26, 27, 28, 29, 30, 31, 32, 33, 34, 35, 36, 37, 38, 39, 40, 41, 42, 43, 44, 45, 46, 47, 48, 49, 50, 51, 52, 53, 54, 55, 56, 57, 58, 59, 60, 61, 62, 63, 64, 65, 66, 67, 68, 69, 70, 71, 72, 73, 74, 75, 76, 77, 78, 79, 80, 81, 82, 83, 84, 85, 86, 87, 88, 89, 90, 91, 92, 93, 94, 95, 96, 97, 98, 99, 100, 101, 102, 103, 104, 105, 106, 107, 108, 109, 110, 111, 112, 113, 114, 115] (by decide +kernel) (by decide +kernel)) (goodIn_sub (fun _ h => List.mem_cons_of_mem _ (List.mem_append_right _ h)) (by decide +kernel))
set_option maxRecDepth 20000 in
theorem gL_votes_X5_votes : GoodIn wsL_votes (wsV RL 21 RX5 yX5_votes wsX5_votes) := goodIn_app (goodIn_of _ (by decide +kernel)) ggL_votes_X5_votes
theorem dL_votes_0 : decode cL_votes 0 = .ok (.aload 4, 2) := by decide +kernel
theorem dL_votes_2 : decode cL_votes 2 = .ok (.iconst 0, 1) := by decide +kernel
theorem dL_votes_3 : decode cL_votes 3 = .ok (.aload_n 0, 1) := by decide +kernel
theorem dL_votes_4 : decode cL_votes 4 = .ok (.iload_n 1, 1) := by decide +kernel
theorem dL_votes_5 : decode cL_votes 5 = .ok (.iload_n 2, 1) := by decide +kernel
theorem dL_votes_6 : decode cL_votes 6 = .ok (.iload_n 3, 1) := by decide +kernel
theorem dL_votes_7 : decode cL_votes 7 = .ok (.invokevirtual 21, 3) := by decide +kernel
theorem dL_votes_10 : decode cL_votes 10 = .ok (.i2l, 1) := by decide +kernel
theorem dL_votes_11 : decode cL_votes 11 = .ok (.lastore, 1) := by decide +kernel
theorem dL_votes_12 : decode cL_votes 12 = .ok (.goto 7, 3) := by decide +kernel
theorem dL_votes_15 : decode cL_votes 15 = .ok (.astore 5, 2) := by decide +kernel
theorem dL_votes_17 : decode cL_votes 17 = .ok (.iconst 1, 1) := by decide +kernel
theorem dL_votes_18 : decode cL_votes 18 = .ok (.ireturn, 1) := by decide +kernel
theorem dL_votes_19 : decode cL_votes 19 = .ok (.iconst 0, 1) := by decide +kernel
theorem dL_votes_20 : decode cL_votes 20 = .ok (.ireturn, 1) := by decide +kernel
set_option maxRecDepth 20000 in
theorem ggL_wins_X5_wins : GoodIn wsL_wins wsX5_wins := goodIn_ca (goodIn_r _ [6, 7, 8, 9, 10, 11, 12, 5, 13, 14, 15, 16, 17, 18, 19, 20, 21, 22, 23, 24, 25, 26, 27, 28, 29, 30, 31, 32, 33, 34, 35, 36, 37, 38, 39, 40, 41, 42, 43, 44, 45, 46, 47, 48, 49, 50, 51, 52, 53, 54, 55, 56, 57, 58, 59, 60, 61, 62, 63, 64, 65, 66, 67, 68, 69, 70, 71, 72, 73, 74, 75, 76, 77, 78, 79, 80, 81, 82, 83, 84, 85, 86, 87, 88, 89, 90, 91, 92, 93, 94, 95, 96, 97, 98, 99, 100, 101, 102, 103, 104, 105, 106, 107, 108, 109, 110, 111, 112, 113, 114, 115, 116, 117, 118, 119, 120] (by decide +kernel) (by decide +kernel)) (goodIn_sub (fun _ h => List.mem_cons_of_mem _ (List.mem_append_right _ h)) (by decide +kernel))
set_option maxRecDepth 20000 in
theorem gL_wins_X5_wins : GoodIn wsL_wins (wsV RL 25 RX5 yX5_wins wsX5_wins) := goodIn_app (goodIn_of _ (by decide +kernel)) ggL_wins_X5_wins
theorem dL_wins_0 : decode cL_wins 0 = .ok (.aload 4, 2) := by decide +kernel
theorem dL_wins_2 : decode cL_wins 2 = .ok (.iconst 0, 1) := by decide +kernel
theorem dL_wins_3 : decode cL_wins 3 = .ok (.aload_n 0, 1) := by decide +kernel
theorem dL_wins_4 : decode cL_wins 4 = .ok (.iload_n 1, 1) := by decide +kernel
theorem dL_wins_5 : decode cL_wins 5 = .ok (.iload_n 2, 1) := by decide +kernel
theorem dL_wins_6 : decode cL_wins 6 = .ok (.iload_n 3, 1) := by decide +kernel
theorem dL_wins_7 : decode cL_wins 7 = .ok (.invokevirtual 25, 3) := by decide +kernel
theorem dL_wins_10 : decode cL_wins 10 = .ok (.ifCond .eq 7, 3) := by decide +kernel
theorem dL_wins_13 : decode cL_wins 13 = .ok (.lconst 1, 1) := by decide +kernel
theorem dL_wins_14 : decode cL_wins 14 = .ok (.goto 4, 3) := by decide +kernel
theorem dL_wins_17 : decode cL_wins 17 = .ok (.lconst 0, 1) := by decide +kernel
theorem dL_wins_18 : decode cL_wins 18 = .ok (.lastore, 1) := by decide +kernel
theorem dL_wins_19 : decode cL_wins 19 = .ok (.goto 7, 3) := by decide +kernel
theorem dL_wins_22 : decode cL_wins 22 = .ok (.astore 5, 2) := by decide +kernel
theorem dL_wins_24 : decode cL_wins 24 = .ok (.iconst 1, 1) := by decide +kernel
theorem dL_wins_25 : decode cL_wins 25 = .ok (.ireturn, 1) := by decide +kernel
theorem dL_wins_26 : decode cL_wins 26 = .ok (.iconst 0, 1) := by decide +kernel
theorem dL_wins_27 : decode cL_wins 27 = .ok (.ireturn, 1) := by decide +kernel
set_option maxRecDepth 20000 in
theorem ggL_about_X5_about : GoodIn wsL_about wsX5_about := goodIn_ca (goodIn_r _ [6, 7, 8, 9, 10, 11, 12, 5, 13, 14, 15, 16, 17, 18, 19, 20, 21, 22, 23, 24, 25, 26, 27, 28, 29, 30, 31, 32] (by decide +kernel) (by decide +kernel)) (goodIn_sub (fun _ h => List.mem_cons_of_mem _ (List.mem_append_right _ h)) (by decide +kernel))
set_option maxRecDepth 20000 in
theorem gL_about_X5_about : GoodIn wsL_about (wsV RL 29 RX5 yX5_about wsX5_about) := goodIn_app (goodIn_of _ (by decide +kernel)) ggL_about_X5_about
theorem dL_about_0 : decode cL_about 0 = .ok (.aload_n 3, 1) := by decide +kernel
theorem dL_about_1 : decode cL_about 1 = .ok (.iconst 0, 1) := by decide +kernel
theorem dL_about_2 : decode cL_about 2 = .ok (.aload_n 0, 1) := by decide +kernel
theorem dL_about_3 : decode cL_about 3 = .ok (.iload_n 1, 1) := by decide +kernel
theorem dL_about_4 : decode cL_about 4 = .ok (.iload_n 2, 1) := by decide +kernel
theorem dL_about_5 : decode cL_about 5 = .ok (.invokevirtual 29, 3) := by decide +kernel
theorem dL_about_8 : decode cL_about 8 = .ok (.i2l, 1) := by decide +kernel
theorem dL_about_9 : decode cL_about 9 = .ok (.lastore, 1) := by decide +kernel
theorem dL_about_10 : decode cL_about 10 = .ok (.goto 7, 3) := by decide +kernel
theorem dL_about_13 : decode cL_about 13 = .ok (.astore 4, 2) := by decide +kernel
theorem dL_about_15 : decode cL_about 15 = .ok (.iconst 1, 1) := by decide +kernel
theorem dL_about_16 : decode cL_about 16 = .ok (.ireturn, 1) := by decide +kernel
theorem dL_about_17 : decode cL_about 17 = .ok (.iconst 0, 1) := by decide +kernel
theorem dL_about_18 : decode cL_about 18 = .ok (.ireturn, 1) := by decide +kernel
set_option maxRecDepth 20000 in
theorem ggL_draw_X5_draw : GoodIn wsL_draw wsX5_draw := goodIn_ca (goodIn_r _ [6, 7, 8, 9, 10, 11, 12, 13, 14, 15, 16, 17, 18, 19, 20, 21, 22, 23, 24, 25, 26, 27, 28, 29, 30, 31, 32, 33, 34, 35, 36, 37, 38, 39] (by decide +kernel) (by decide +kernel)) (goodIn_sub (fun _ h => List.mem_cons_of_mem _ (List.mem_append_right _ h)) (by decide +kernel))
set_option maxRecDepth 20000 in
theorem gL_draw_X5_draw : GoodIn wsL_draw (wsV RL 32 RX5 yX5_draw wsX5_draw) := goodIn_app (goodIn_of _ (by decide +kernel)) ggL_draw_X5_draw
theorem dL_draw_0 : decode cL_draw 0 = .ok (.aload_n 2, 1) := by decide +kernel
theorem dL_draw_1 : decode cL_draw 1 = .ok (.iconst 0, 1) := by decide +kernel
theorem dL_draw_2 : decode cL_draw 2 = .ok (.aload_n 0, 1) := by decide +kernel
theorem dL_draw_3 : decode cL_draw 3 = .ok (.iload_n 1, 1) := by decide +kernel
theorem dL_draw_4 : decode cL_draw 4 = .ok (.invokevirtual 32, 3) := by decide +kernel
theorem dL_draw_7 : decode cL_draw 7 = .ok (.i2l, 1) := by decide +kernel
theorem dL_draw_8 : decode cL_draw 8 = .ok (.lastore, 1) := by decide +kernel
theorem dL_draw_9 : decode cL_draw 9 = .ok (.goto 6, 3) := by decide +kernel
theorem dL_draw_12 : decode cL_draw 12 = .ok (.astore_n 3, 1) := by decide +kernel
theorem dL_draw_13 : decode cL_draw 13 = .ok (.iconst 1, 1) := by decide +kernel
theorem dL_draw_14 : decode cL_draw 14 = .ok (.ireturn, 1) := by decide +kernel
theorem dL_draw_15 : decode cL_draw 15 = .ok (.iconst 0, 1) := by decide +kernel
theorem dL_draw_16 : decode cL_draw 16 = .ok (.ireturn, 1) := by decide +kernel
set_option maxRecDepth 20000 in
theorem ggL_drawn_X5_drawn : GoodIn wsL_drawn wsX5_drawn := goodIn_ca (goodIn_r _ [6, 7, 8, 9, 10, 11, 12, 13, 14, 15, 16, 17, 18, 19, 20, 21, 22, 23, 24, 25, 26] (by decide +kernel) (by decide +kernel)) (goodIn_sub (fun _ h => List.mem_cons_of_mem _ (List.mem_append_right _ h)) (by decide +kernel))
set_option maxRecDepth 20000 in
theorem gL_drawn_X5_drawn : GoodIn wsL_drawn (wsV RL 38 RX5 yX5_drawn wsX5_drawn) := goodIn_app (goodIn_of _ (by decide +kernel)) ggL_drawn_X5_drawn
theorem dL_drawn_0 : decode cL_drawn 0 = .ok (.aload_n 2, 1) := by decide +kernel
theorem dL_drawn_1 : decode cL_drawn 1 = .ok (.iconst 0, 1) := by decide +kernel
theorem dL_drawn_2 : decode cL_drawn 2 = .ok (.aload_n 0, 1) := by decide +kernel
theorem dL_drawn_3 : decode cL_drawn 3 = .ok (.iload_n 1, 1) := by decide +kernel
theorem dL_drawn_4 : decode cL_drawn 4 = .ok (.invokevirtual 38, 3) := by decide +kernel
theorem dL_drawn_7 : decode cL_drawn 7 = .ok (.i2l, 1) := by decide +kernel
theorem dL_drawn_8 : decode cL_drawn 8 = .ok (.lastore, 1) := by decide +kernel
theorem dL_drawn_9 : decode cL_drawn 9 = .ok (.goto 6, 3) := by decide +kernel
theorem dL_drawn_12 : decode cL_drawn 12 = .ok (.astore_n 3, 1) := by decide +kernel
theorem dL_drawn_13 : decode cL_drawn 13 = .ok (.iconst 1, 1) := by decide +kernel
theorem dL_drawn_14 : decode cL_drawn 14 = .ok (.ireturn, 1) := by decide +kernel
theorem dL_drawn_15 : decode cL_drawn 15 = .ok (.iconst 0, 1) := by decide +kernel
theorem dL_drawn_16 : decode cL_drawn 16 = .ok (.ireturn, 1) := by decide +kernel
set_option maxRecDepth 20000 in
theorem ggL_pulled_X5_pulled : GoodIn wsL_pulled wsX5_pulled := goodIn_ca (goodIn_r _ [6, 7, 8, 9, 10, 11, 12, 5, 13, 14, 15, 16, 17, 18, 19, 20, 21, 22, 23, 24, 25, 26, 27, 28, 29] (by decide +kernel) (by decide +kernel)) (goodIn_sub (fun _ h => List.mem_cons_of_mem _ (List.mem_append_right _ h)) (by decide +kernel))
set_option maxRecDepth 20000 in
theorem gL_pulled_X5_pulled : GoodIn wsL_pulled (wsV RL 41 RX5 yX5_pulled wsX5_pulled) := goodIn_app (goodIn_of _ (by decide +kernel)) ggL_pulled_X5_pulled
theorem dL_pulled_0 : decode cL_pulled 0 = .ok (.aload_n 2, 1) := by decide +kernel
theorem dL_pulled_1 : decode cL_pulled 1 = .ok (.iconst 0, 1) := by decide +kernel
theorem dL_pulled_2 : decode cL_pulled 2 = .ok (.aload_n 0, 1) := by decide +kernel
theorem dL_pulled_3 : decode cL_pulled 3 = .ok (.iload_n 1, 1) := by decide +kernel
theorem dL_pulled_4 : decode cL_pulled 4 = .ok (.invokevirtual 41, 3) := by decide +kernel
theorem dL_pulled_7 : decode cL_pulled 7 = .ok (.i2l, 1) := by decide +kernel
theorem dL_pulled_8 : decode cL_pulled 8 = .ok (.lastore, 1) := by decide +kernel
theorem dL_pulled_9 : decode cL_pulled 9 = .ok (.goto 6, 3) := by decide +kernel
theorem dL_pulled_12 : decode cL_pulled 12 = .ok (.astore_n 3, 1) := by decide +kernel
theorem dL_pulled_13 : decode cL_pulled 13 = .ok (.iconst 1, 1) := by decide +kernel
theorem dL_pulled_14 : decode cL_pulled 14 = .ok (.ireturn, 1) := by decide +kernel
theorem dL_pulled_15 : decode cL_pulled 15 = .ok (.iconst 0, 1) := by decide +kernel
theorem dL_pulled_16 : decode cL_pulled 16 = .ok (.ireturn, 1) := by decide +kernel
set_option maxRecDepth 20000 in
theorem ggL_read_X5_read : GoodIn wsL_read wsX5_read := goodIn_ca (goodIn_r _ [6, 7, 8, 9, 10, 11, 12, 13, 14, 15, 16, 17, 18, 19, 20, 21, 22, 23, 24, 5, 25, 26, 27, 28, 29, 30, 31, 32, 33, 34, 35, 36, 37, 38, 39, 40, 41, 42, 43, 44, 45, 46, 47, 48, 49, 50, 51, 52, 53, 54, 55, 56, 57, 58, 59, 60, 61, 62, 63, 64, 65, 66] (by decide +kernel) (by decide +kernel)) (goodIn_sub (fun _ h => List.mem_cons_of_mem _ (List.mem_append_right _ h)) (by decide +kernel))
set_option maxRecDepth 20000 in
theorem gL_read_X5_read : GoodIn wsL_read (wsV RL 44 RX5 yX5_read wsX5_read) := goodIn_app (goodIn_of _ (by decide +kernel)) ggL_read_X5_read
theorem dL_read_0 : decode cL_read 0 = .ok (.aload 4, 2) := by decide +kernel
theorem dL_read_2 : decode cL_read 2 = .ok (.iconst 0, 1) := by decide +kernel
theorem dL_read_3 : decode cL_read 3 = .ok (.aload_n 0, 1) := by decide +kernel
theorem dL_read_4 : decode cL_read 4 = .ok (.iload_n 1, 1) := by decide +kernel
theorem dL_read_5 : decode cL_read 5 = .ok (.iload_n 2, 1) := by decide +kernel
theorem dL_read_6 : decode cL_read 6 = .ok (.iload_n 3, 1) := by decide +kernel
theorem dL_read_7 : decode cL_read 7 = .ok (.invokevirtual 44, 3) := by decide +kernel
theorem dL_read_10 : decode cL_read 10 = .ok (.ifCond .eq 7, 3) := by decide +kernel
theorem dL_read_13 : decode cL_read 13 = .ok (.lconst 1, 1) := by decide +kernel
theorem dL_read_14 : decode cL_read 14 = .ok (.goto 4, 3) := by decide +kernel
theorem dL_read_17 : decode cL_read 17 = .ok (.lconst 0, 1) := by decide +kernel
theorem dL_read_18 : decode cL_read 18 = .ok (.lastore, 1) := by decide +kernel
theorem dL_read_19 : decode cL_read 19 = .ok (.goto 7, 3) := by decide +kernel
theorem dL_read_22 : decode cL_read 22 = .ok (.astore 5, 2) := by decide +kernel
theorem dL_read_24 : decode cL_read 24 = .ok (.iconst 1, 1) := by decide +kernel
theorem dL_read_25 : decode cL_read 25 = .ok (.ireturn, 1) := by decide +kernel
theorem dL_read_26 : decode cL_read 26 = .ok (.iconst 0, 1) := by decide +kernel
theorem dL_read_27 : decode cL_read 27 = .ok (.ireturn, 1) := by decide +kernel
set_option maxRecDepth 20000 in
theorem ggL_reading_X5_reading : GoodIn wsL_reading wsX5_reading := goodIn_ca (goodIn_r _ [6, 7, 8, 9, 10, 11, 12, 13, 14, 15, 16, 17, 18, 5, 19, 20, 21, 22, 23, 24, 25, 26, 27, 28, 29, 30, 31, 32, 33, 34, 35, 36, 37, 38, 39, 40, 41, 42, 43, 44, 45, 46, 47, 48, 49, 50, 51, 52, 53, 54, 55, 56, 57, 58, 59, 60, 61, 62] (by decide +kernel) (by decide +kernel)) (goodIn_sub (fun _ h => List.mem_cons_of_mem _ (List.mem_append_right _ h)) (by decide +kernel))
set_option maxRecDepth 20000 in
theorem gL_reading_X5_reading : GoodIn wsL_reading (wsV RL 47 RX5 yX5_reading wsX5_reading) := goodIn_app (goodIn_of _ (by decide +kernel)) ggL_reading_X5_reading
theorem dL_reading_0 : decode cL_reading 0 = .ok (.aload_n 3, 1) := by decide +kernel
theorem dL_reading_1 : decode cL_reading 1 = .ok (.iconst 0, 1) := by decide +kernel
theorem dL_reading_2 : decode cL_reading 2 = .ok (.aload_n 0, 1) := by decide +kernel
theorem dL_reading_3 : decode cL_reading 3 = .ok (.iload_n 1, 1) := by decide +kernel
theorem dL_reading_4 : decode cL_reading 4 = .ok (.iload_n 2, 1) := by decide +kernel
theorem dL_reading_5 : decode cL_reading 5 = .ok (.invokevirtual 47, 3) := by decide +kernel
theorem dL_reading_8 : decode cL_reading 8 = .ok (.i2l, 1) := by decide +kernel
theorem dL_reading_9 : decode cL_reading 9 = .ok (.lastore, 1) := by decide +kernel
theorem dL_reading_10 : decode cL_reading 10 = .ok (.goto 7, 3) := by decide +kernel
theorem dL_reading_13 : decode cL_reading 13 = .ok (.astore 4, 2) := by decide +kernel
theorem dL_reading_15 : decode cL_reading 15 = .ok (.iconst 1, 1) := by decide +kernel
theorem dL_reading_16 : decode cL_reading 16 = .ok (.ireturn, 1) := by decide +kernel
theorem dL_reading_17 : decode cL_reading 17 = .ok (.iconst 0, 1) := by decide +kernel
theorem dL_reading_18 : decode cL_reading 18 = .ok (.ireturn, 1) := by decide +kernel
set_option maxRecDepth 20000 in
theorem ggL_risk_X5_risk : GoodIn wsL_risk wsX5_risk := goodIn_ca (goodIn_r _ [6, 7, 8, 9, 10, 11, 12, 13, 14, 15, 5, 16, 17, 18, 19, 20, 21, 22, 23, 24, 25, 26, 27, 28, 29, 30, 31, 32, 33, 34, 35, 36, 37, 38, 39, 40, 41, 42, 43, 44, 45, 46, 47, 48, 49, 50, 51, 52, 53, 54, 55, 56, 57, 58, 59, 60, 61, 62, 63, 64, 65, 66, 67, 68, 69, 70, 71, 72, 73, 74, 75, 76, 77, 78, 79, 80, 81, 82, 83, 84, 85, 86, 87, 88, 89, 90, 91, 92, 93, 94, 95, 96, 97, 98, 99, 100, 101, 102, 103, 104, 105, 106, 107, 108, 109, 110, 111, 112, 113, 114, 115, 116, 117, 118, 119, 120, 121, 122, 123, 124, 125, 126, 127, 128, 129, 130, 131, 132, 133, 134, 135, 136, 137] (by decide +kernel) (by decide +kernel)) (goodIn_sub (fun _ h => List.mem_cons_of_mem _ (List.mem_append_right _ h)) (by decide +kernel))
set_option maxRecDepth 20000 in
theorem gL_risk_X5_risk : GoodIn wsL_risk (wsV RL 50 RX5 yX5_risk wsX5_risk) := goodIn_app (goodIn_of _ (by decide +kernel)) ggL_risk_X5_risk
theorem dL_risk_0 : decode cL_risk 0 = .ok (.aload_n 2, 1) := by decide +kernel
theorem dL_risk_1 : decode cL_risk 1 = .ok (.iconst 0, 1) := by decide +kernel
theorem dL_risk_2 : decode cL_risk 2 = .ok (.aload_n 0, 1) := by decide +kernel
theorem dL_risk_3 : decode cL_risk 3 = .ok (.iload_n 1, 1) := by decide +kernel
theorem dL_risk_4 : decode cL_risk 4 = .ok (.invokevirtual 50, 3) := by decide +kernel
theorem dL_risk_7 : decode cL_risk 7 = .ok (.i2l, 1) := by decide +kernel
theorem dL_risk_8 : decode cL_risk 8 = .ok (.lastore, 1) := by decide +kernel
theorem dL_risk_9 : decode cL_risk 9 = .ok (.goto 6, 3) := by decide +kernel
theorem dL_risk_12 : decode cL_risk 12 = .ok (.astore_n 3, 1) := by decide +kernel
theorem dL_risk_13 : decode cL_risk 13 = .ok (.iconst 1, 1) := by decide +kernel
theorem dL_risk_14 : decode cL_risk 14 = .ok (.ireturn, 1) := by decide +kernel
theorem dL_risk_15 : decode cL_risk 15 = .ok (.iconst 0, 1) := by decide +kernel
theorem dL_risk_16 : decode cL_risk 16 = .ok (.ireturn, 1) := by decide +kernel
set_option maxRecDepth 20000 in
theorem ggL_taken_X5_taken : GoodIn wsL_taken wsX5_taken := goodIn_ca (goodIn_r _ [6, 7, 8, 9, 10, 11, 12, 13, 14, 15, 5, 16, 17, 18, 19, 20, 21, 22, 23, 24, 25, 26, 27, 28, 29, 30, 31, 32, 33, 34, 35, 36, 37, 38, 39, 40, 41, 42, 43, 44, 45, 46, 47, 48, 49, 50, 51, 52, 53, 54, 55, 56, 57, 58, 59, 60, 61, 62, 63, 64, 65, 66, 67, 68, 69, 70, 71, 72, 73, 74, 75, 76, 77, 78, 79, 80, 81, 82, 83, 84, 85, 86, 87, 88, 89, 90, 91, 92, 93, 94, 95, 96, 97, 98, 99, 100, 101, 102, 103, 104, 105, 106, 107, 108, 109, 110, 111, 112, 113, 114, 115, 116, 117, 118, 119, 120, 121, 122, 123, 124, 125, 126, 127, 128, 129, 130, 131, 132, 133, 134, 135, 136, 137] (by decide +kernel) (by decide +kernel)) (goodIn_sub (fun _ h => List.mem_cons_of_mem _ (List.mem_append_right _ h)) (by decide +kernel))
set_option maxRecDepth 20000 in
theorem gL_taken_X5_taken : GoodIn wsL_taken (wsV RL 53 RX5 yX5_taken wsX5_taken) := goodIn_app (goodIn_of _ (by decide +kernel)) ggL_taken_X5_taken
theorem dL_taken_0 : decode cL_taken 0 = .ok (.aload_n 2, 1) := by decide +kernel
theorem dL_taken_1 : decode cL_taken 1 = .ok (.iconst 0, 1) := by decide +kernel
theorem dL_taken_2 : decode cL_taken 2 = .ok (.aload_n 0, 1) := by decide +kernel
theorem dL_taken_3 : decode cL_taken 3 = .ok (.iload_n 1, 1) := by decide +kernel
theorem dL_taken_4 : decode cL_taken 4 = .ok (.invokevirtual 53, 3) := by decide +kernel
theorem dL_taken_7 : decode cL_taken 7 = .ok (.i2l, 1) := by decide +kernel
theorem dL_taken_8 : decode cL_taken 8 = .ok (.lastore, 1) := by decide +kernel
theorem dL_taken_9 : decode cL_taken 9 = .ok (.goto 6, 3) := by decide +kernel
theorem dL_taken_12 : decode cL_taken 12 = .ok (.astore_n 3, 1) := by decide +kernel
theorem dL_taken_13 : decode cL_taken 13 = .ok (.iconst 1, 1) := by decide +kernel
theorem dL_taken_14 : decode cL_taken 14 = .ok (.ireturn, 1) := by decide +kernel
theorem dL_taken_15 : decode cL_taken 15 = .ok (.iconst 0, 1) := by decide +kernel
theorem dL_taken_16 : decode cL_taken 16 = .ok (.ireturn, 1) := by decide +kernel
set_option maxRecDepth 20000 in
theorem ggL_taint_X5_taint : GoodIn wsL_taint wsX5_taint := goodIn_ca (goodIn_r _ [6, 7, 8, 9, 10, 11, 12, 13, 14, 15, 5, 16, 17, 18, 19, 20, 21, 22, 23, 24, 25, 26, 27, 28, 29, 30, 31, 32, 33, 34, 35, 36, 37, 38, 39, 40, 41, 42, 43, 44, 45, 46, 47, 48, 49, 50, 51, 52, 53, 54, 55, 56, 57, 58, 59, 60, 61, 62, 63, 64, 65, 66, 67, 68, 69, 70, 71, 72, 73, 74, 75, 76, 77, 78, 79, 80, 81, 82, 83, 84, 85, 86, 87, 88, 89, 90, 91, 92, 93, 94, 95, 96, 97, 98, 99, 100, 101, 102, 103, 104, 105, 106, 107, 108, 109, 110, 111, 112, 113, 114, 115, 116, 117, 118, 119, 120] (by decide +kernel) (by decide +kernel)) (goodIn_sub (fun _ h => List.mem_cons_of_mem _ (List.mem_append_right _ h)) (by decide +kernel))
set_option maxRecDepth 20000 in
theorem gL_taint_X5_taint : GoodIn wsL_taint (wsV RL 56 RX5 yX5_taint wsX5_taint) := goodIn_app (goodIn_of _ (by decide +kernel)) ggL_taint_X5_taint
theorem dL_taint_0 : decode cL_taint 0 = .ok (.aload_n 3, 1) := by decide +kernel
theorem dL_taint_1 : decode cL_taint 1 = .ok (.iconst 0, 1) := by decide +kernel
theorem dL_taint_2 : decode cL_taint 2 = .ok (.aload_n 0, 1) := by decide +kernel
theorem dL_taint_3 : decode cL_taint 3 = .ok (.iload_n 1, 1) := by decide +kernel
theorem dL_taint_4 : decode cL_taint 4 = .ok (.iload_n 2, 1) := by decide +kernel
theorem dL_taint_5 : decode cL_taint 5 = .ok (.invokevirtual 56, 3) := by decide +kernel
theorem dL_taint_8 : decode cL_taint 8 = .ok (.i2l, 1) := by decide +kernel
theorem dL_taint_9 : decode cL_taint 9 = .ok (.lastore, 1) := by decide +kernel
theorem dL_taint_10 : decode cL_taint 10 = .ok (.goto 7, 3) := by decide +kernel
theorem dL_taint_13 : decode cL_taint 13 = .ok (.astore 4, 2) := by decide +kernel
theorem dL_taint_15 : decode cL_taint 15 = .ok (.iconst 1, 1) := by decide +kernel
theorem dL_taint_16 : decode cL_taint 16 = .ok (.ireturn, 1) := by decide +kernel
theorem dL_taint_17 : decode cL_taint 17 = .ok (.iconst 0, 1) := by decide +kernel
theorem dL_taint_18 : decode cL_taint 18 = .ok (.ireturn, 1) := by decide +kernel
set_option maxRecDepth 20000 in
theorem ggL_need_X5_need : GoodIn wsL_need wsX5_need := goodIn_ca (goodIn_ca (goodIn_r _ [7, 8, 9, 10, 11, 12, 13, 14, 15, 16, 17, 18, 19, 6, 20, 21, 22, 23, 24, 25, 26, 27, 28, 29, 30, 31, 32, 33, 34, 35, 36, 37, 38, 39, 40, 41, 42, 43, 44, 45, 46, 47, 48, 49, 50, 51, 52, 53, 54, 55, 56, 57, 58, 59, 60, 61, 62, 63, 64, 65, 66, 67, 68, 69, 70, 71, 72, 73, 74, 75, 76, 77, 78, 79, 80, 81, 82, 83, 84, 85, 86, 87, 88, 89, 90, 91, 92, 93, 94, 95, 96, 97, 98, 99, 100, 101, 102, 103, 104, 105, 106, 107, 108, 109, 110, 111, 112, 113, 114, 115, 116, 117, 118, 119, 120, 121, 122, 123, 124, 125, 126, 127, 128, 129, 130, 131, 132, 133, 134, 135, 136, 137, 138, 139, 140, 141, 142, 143, 144, 145, 146, 147] (by decide +kernel) (by decide +kernel)) (goodIn_sub (fun _ h => List.mem_cons_of_mem _ (List.mem_append_left _ (List.mem_append_right _ h))) (by decide +kernel))) (goodIn_sub (fun _ h => List.mem_cons_of_mem _ (List.mem_append_right _ h)) (by decide +kernel))
set_option maxRecDepth 20000 in
theorem gL_need_X5_need : GoodIn wsL_need (wsV RL 59 RX5 yX5_need wsX5_need) := goodIn_app (goodIn_of _ (by decide +kernel)) ggL_need_X5_need
theorem dL_need_0 : decode cL_need 0 = .ok (.aload_n 3, 1) := by decide +kernel
theorem dL_need_1 : decode cL_need 1 = .ok (.iconst 0, 1) := by decide +kernel
theorem dL_need_2 : decode cL_need 2 = .ok (.aload_n 0, 1) := by decide +kernel
theorem dL_need_3 : decode cL_need 3 = .ok (.iload_n 1, 1) := by decide +kernel
theorem dL_need_4 : decode cL_need 4 = .ok (.iload_n 2, 1) := by decide +kernel
theorem dL_need_5 : decode cL_need 5 = .ok (.invokevirtual 59, 3) := by decide +kernel
theorem dL_need_8 : decode cL_need 8 = .ok (.i2l, 1) := by decide +kernel
theorem dL_need_9 : decode cL_need 9 = .ok (.lastore, 1) := by decide +kernel
theorem dL_need_10 : decode cL_need 10 = .ok (.goto 11, 3) := by decide +kernel
theorem dL_need_13 : decode cL_need 13 = .ok (.astore 4, 2) := by decide +kernel
theorem dL_need_15 : decode cL_need 15 = .ok (.iconst 1, 1) := by decide +kernel
theorem dL_need_16 : decode cL_need 16 = .ok (.ireturn, 1) := by decide +kernel
theorem dL_need_17 : decode cL_need 17 = .ok (.astore 4, 2) := by decide +kernel
theorem dL_need_19 : decode cL_need 19 = .ok (.iconst 2, 1) := by decide +kernel
theorem dL_need_20 : decode cL_need 20 = .ok (.ireturn, 1) := by decide +kernel
theorem dL_need_21 : decode cL_need 21 = .ok (.iconst 0, 1) := by decide +kernel
theorem dL_need_22 : decode cL_need 22 = .ok (.ireturn, 1) := by decide +kernel
set_option maxRecDepth 20000 in
theorem ggL_count_X5_count : GoodIn wsL_count wsX5_count := goodIn_ca (goodIn_r _ [6, 7, 8, 9, 10, 11, 12, 13, 14, 15, 16, 17, 18, 19, 20, 21, 22, 23, 24, 25, 26, 27, 28, 29, 30, 31, 32, 33, 34, 35, 36, 37, 38, 39, 40, 41, 42, 43, 44, 45, 46, 47] (by decide +kernel) (by decide +kernel)) (goodIn_sub (fun _ h => List.mem_cons_of_mem _ (List.mem_append_right _ h)) (by decide +kernel))
set_option maxRecDepth 20000 in
theorem gL_count_X5_count : GoodIn wsL_count (wsV RL 62 RX5 yX5_count wsX5_count) := goodIn_app (goodIn_of _ (by decide +kernel)) ggL_count_X5_count
theorem dL_count_0 : decode cL_count 0 = .ok (.aload_n 2, 1) := by decide +kernel
theorem dL_count_1 : decode cL_count 1 = .ok (.iconst 0, 1) := by decide +kernel
theorem dL_count_2 : decode cL_count 2 = .ok (.aload_n 0, 1) := by decide +kernel
theorem dL_count_3 : decode cL_count 3 = .ok (.iload_n 1, 1) := by decide +kernel
theorem dL_count_4 : decode cL_count 4 = .ok (.invokevirtual 62, 3) := by decide +kernel
theorem dL_count_7 : decode cL_count 7 = .ok (.i2l, 1) := by decide +kernel
theorem dL_count_8 : decode cL_count 8 = .ok (.lastore, 1) := by decide +kernel
theorem dL_count_9 : decode cL_count 9 = .ok (.goto 6, 3) := by decide +kernel
theorem dL_count_12 : decode cL_count 12 = .ok (.astore_n 3, 1) := by decide +kernel
theorem dL_count_13 : decode cL_count 13 = .ok (.iconst 1, 1) := by decide +kernel
theorem dL_count_14 : decode cL_count 14 = .ok (.ireturn, 1) := by decide +kernel
theorem dL_count_15 : decode cL_count 15 = .ok (.iconst 0, 1) := by decide +kernel
theorem dL_count_16 : decode cL_count 16 = .ok (.ireturn, 1) := by decide +kernel

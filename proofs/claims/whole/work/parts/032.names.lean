theorem dX6_isRead_15 : decode cX6_isRead 15 = .ok (.iconst 3, 1) := by decide +kernel
theorem dX6_isRead_16 : decode cX6_isRead 16 = .ok (.iload_n 1, 1) := by decide +kernel
theorem dX6_isRead_17 : decode cX6_isRead 17 = .ok (.imul, 1) := by decide +kernel
theorem dX6_isRead_18 : decode cX6_isRead 18 = .ok (.iconst 1, 1) := by decide +kernel
theorem dX6_isRead_19 : decode cX6_isRead 19 = .ok (.iadd, 1) := by decide +kernel
theorem dX6_isRead_20 : decode cX6_isRead 20 = .ok (.baload, 1) := by decide +kernel
theorem dX6_isRead_21 : decode cX6_isRead 21 = .ok (.ifCond .ne 16, 3) := by decide +kernel
theorem dX6_isRead_24 : decode cX6_isRead 24 = .ok (.aload_n 0, 1) := by decide +kernel
theorem dX6_isRead_25 : decode cX6_isRead 25 = .ok (.getfield 29, 3) := by decide +kernel
theorem dX6_isRead_28 : decode cX6_isRead 28 = .ok (.iconst 3, 1) := by decide +kernel
theorem dX6_isRead_29 : decode cX6_isRead 29 = .ok (.iload_n 1, 1) := by decide +kernel
theorem dX6_isRead_30 : decode cX6_isRead 30 = .ok (.imul, 1) := by decide +kernel
theorem dX6_isRead_31 : decode cX6_isRead 31 = .ok (.iconst 2, 1) := by decide +kernel
theorem dX6_isRead_32 : decode cX6_isRead 32 = .ok (.iadd, 1) := by decide +kernel
theorem dX6_isRead_33 : decode cX6_isRead 33 = .ok (.baload, 1) := by decide +kernel
theorem dX6_isRead_34 : decode cX6_isRead 34 = .ok (.ifCond .eq 7, 3) := by decide +kernel
theorem dX6_isRead_37 : decode cX6_isRead 37 = .ok (.iconst 1, 1) := by decide +kernel
theorem dX6_isRead_38 : decode cX6_isRead 38 = .ok (.goto 4, 3) := by decide +kernel
theorem dX6_isRead_41 : decode cX6_isRead 41 = .ok (.iconst 0, 1) := by decide +kernel
theorem dX6_isRead_42 : decode cX6_isRead 42 = .ok (.ireturn, 1) := by decide +kernel
set_option maxRecDepth 20000 in
theorem ggX6_lose_X6_isPaper : GoodIn wsX6_lose wsX6_isPaper := goodIn_r _ [6, 7, 8, 9, 10, 11, 5, 12, 18, 19, 20, 21, 22, 23, 24, 25, 26, 27, 28, 29, 30, 31, 32, 33, 34, 35, 36, 37, 38, 39] (by decide +kernel) (by decide +kernel)
set_option maxRecDepth 20000 in
theorem gX6_lose_X6_isPaper : GoodIn wsX6_lose (wsV RX6 70 RX6 yX6_isPaper wsX6_isPaper) := goodIn_app (goodIn_of _ (by decide +kernel)) ggX6_lose_X6_isPaper
set_option maxRecDepth 20000 in
theorem ggX6_lose_X6_isRead : GoodIn wsX6_lose wsX6_isRead := goodIn_r _ [16, 17, 18, 19, 20, 21, 22, 23, 24, 25, 26, 27, 28, 29, 30, 31, 32, 33, 34, 35, 36, 37, 38, 39] (by decide +kernel) (by decide +kernel)
set_option maxRecDepth 20000 in
theorem gX6_lose_X6_isRead : GoodIn wsX6_lose (wsV RX6 73 RX6 yX6_isRead wsX6_isRead) := goodIn_app (goodIn_of _ (by decide +kernel)) ggX6_lose_X6_isRead
set_option maxRecDepth 20000 in
theorem ggX6_lose_X6_right : GoodIn wsX6_lose wsX6_right := goodIn_r _ [12, 7, 18, 19, 20, 21, 22, 23, 24, 25, 26, 27, 28, 29, 30, 31, 32, 33, 34, 35, 36, 37, 38, 39] (by decide +kernel) (by decide +kernel)
set_option maxRecDepth 20000 in
theorem gX6_lose_X6_right : GoodIn wsX6_lose (wsV RX6 62 RX6 yX6_right wsX6_right) := goodIn_app (goodIn_of _ (by decide +kernel)) ggX6_lose_X6_right
theorem dX6_lose_0 : decode cX6_lose 0 = .ok (.aload_n 0, 1) := by decide +kernel
theorem dX6_lose_1 : decode cX6_lose 1 = .ok (.iload_n 1, 1) := by decide +kernel
theorem dX6_lose_2 : decode cX6_lose 2 = .ok (.invokevirtual 70, 3) := by decide +kernel
theorem dX6_lose_5 : decode cX6_lose 5 = .ok (.ifCond .eq 24, 3) := by decide +kernel
theorem dX6_lose_8 : decode cX6_lose 8 = .ok (.aload_n 0, 1) := by decide +kernel
theorem dX6_lose_9 : decode cX6_lose 9 = .ok (.aload_n 0, 1) := by decide +kernel
theorem dX6_lose_10 : decode cX6_lose 10 = .ok (.iload_n 1, 1) := by decide +kernel
theorem dX6_lose_11 : decode cX6_lose 11 = .ok (.invokevirtual 73, 3) := by decide +kernel
theorem dX6_lose_14 : decode cX6_lose 14 = .ok (.ifCond .ne 7, 3) := by decide +kernel
theorem dX6_lose_17 : decode cX6_lose 17 = .ok (.iconst 1, 1) := by decide +kernel
theorem dX6_lose_18 : decode cX6_lose 18 = .ok (.goto 4, 3) := by decide +kernel
theorem dX6_lose_21 : decode cX6_lose 21 = .ok (.iconst 0, 1) := by decide +kernel
theorem dX6_lose_22 : decode cX6_lose 22 = .ok (.iconst 2, 1) := by decide +kernel
theorem dX6_lose_23 : decode cX6_lose 23 = .ok (.invokevirtual 62, 3) := by decide +kernel
theorem dX6_lose_26 : decode cX6_lose 26 = .ok (.ifCond .ne 5, 3) := by decide +kernel
theorem dX6_lose_29 : decode cX6_lose 29 = .ok (.iconst 0, 1) := by decide +kernel
theorem dX6_lose_30 : decode cX6_lose 30 = .ok (.ireturn, 1) := by decide +kernel
theorem dX6_lose_31 : decode cX6_lose 31 = .ok (.aload_n 0, 1) := by decide +kernel
theorem dX6_lose_32 : decode cX6_lose 32 = .ok (.getfield 25, 3) := by decide +kernel
theorem dX6_lose_35 : decode cX6_lose 35 = .ok (.iload_n 1, 1) := by decide +kernel
theorem dX6_lose_36 : decode cX6_lose 36 = .ok (.baload, 1) := by decide +kernel
theorem dX6_lose_37 : decode cX6_lose 37 = .ok (.istore_n 3, 1) := by decide +kernel
theorem dX6_lose_38 : decode cX6_lose 38 = .ok (.aload_n 0, 1) := by decide +kernel
theorem dX6_lose_39 : decode cX6_lose 39 = .ok (.getfield 25, 3) := by decide +kernel
theorem dX6_lose_42 : decode cX6_lose 42 = .ok (.iload_n 1, 1) := by decide +kernel
theorem dX6_lose_43 : decode cX6_lose 43 = .ok (.iload_n 2, 1) := by decide +kernel
theorem dX6_lose_44 : decode cX6_lose 44 = .ok (.bastore, 1) := by decide +kernel
theorem dX6_lose_45 : decode cX6_lose 45 = .ok (.iload_n 3, 1) := by decide +kernel
theorem dX6_lose_46 : decode cX6_lose 46 = .ok (.ireturn, 1) := by decide +kernel
theorem dX6_seal_0 : decode cX6_seal 0 = .ok (.aload_n 0, 1) := by decide +kernel
theorem dX6_seal_1 : decode cX6_seal 1 = .ok (.iconst 0, 1) := by decide +kernel
theorem dX6_seal_2 : decode cX6_seal 2 = .ok (.putfield 41, 3) := by decide +kernel
theorem dX6_seal_5 : decode cX6_seal 5 = .ok (.aload_n 0, 1) := by decide +kernel
theorem dX6_seal_6 : decode cX6_seal 6 = .ok (.getfield 54, 3) := by decide +kernel
theorem dX6_seal_9 : decode cX6_seal 9 = .ok (.ifCond .ne 10, 3) := by decide +kernel
theorem dX6_seal_12 : decode cX6_seal 12 = .ok (.aload_n 0, 1) := by decide +kernel
theorem dX6_seal_13 : decode cX6_seal 13 = .ok (.getfield 48, 3) := by decide +kernel
theorem dX6_seal_16 : decode cX6_seal 16 = .ok (.ifCond .ne 5, 3) := by decide +kernel
theorem dX6_seal_19 : decode cX6_seal 19 = .ok (.iconst 0, 1) := by decide +kernel
theorem dX6_seal_20 : decode cX6_seal 20 = .ok (.ireturn, 1) := by decide +kernel
theorem dX6_seal_21 : decode cX6_seal 21 = .ok (.aload_n 0, 1) := by decide +kernel
theorem dX6_seal_22 : decode cX6_seal 22 = .ok (.iconst 1, 1) := by decide +kernel
theorem dX6_seal_23 : decode cX6_seal 23 = .ok (.putfield 54, 3) := by decide +kernel
theorem dX6_seal_26 : decode cX6_seal 26 = .ok (.aload_n 0, 1) := by decide +kernel
theorem dX6_seal_27 : decode cX6_seal 27 = .ok (.lload_n 1, 1) := by decide +kernel
theorem dX6_seal_28 : decode cX6_seal 28 = .ok (.putfield 76, 3) := by decide +kernel
theorem dX6_seal_31 : decode cX6_seal 31 = .ok (.iconst 1, 1) := by decide +kernel
theorem dX6_seal_32 : decode cX6_seal 32 = .ok (.ireturn, 1) := by decide +kernel
set_option maxRecDepth 20000 in
theorem ggX6_isRace_X6_right : GoodIn wsX6_isRace wsX6_right := goodIn_r _ [7, 1, 8, 9, 10, 11, 12, 13, 14, 15, 16, 17, 18, 19, 20, 21, 22, 23, 24, 25, 26, 27, 28, 29] (by decide +kernel) (by decide +kernel)
set_option maxRecDepth 20000 in
theorem gX6_isRace_X6_right : GoodIn wsX6_isRace (wsV RX6 62 RX6 yX6_right wsX6_right) := goodIn_app (goodIn_of _ (by decide +kernel)) ggX6_isRace_X6_right
theorem dX6_isRace_0 : decode cX6_isRace 0 = .ok (.aload_n 0, 1) := by decide +kernel
theorem dX6_isRace_1 : decode cX6_isRace 1 = .ok (.iconst 0, 1) := by decide +kernel
theorem dX6_isRace_2 : decode cX6_isRace 2 = .ok (.putfield 41, 3) := by decide +kernel
theorem dX6_isRace_5 : decode cX6_isRace 5 = .ok (.aload_n 0, 1) := by decide +kernel
theorem dX6_isRace_6 : decode cX6_isRace 6 = .ok (.iload_n 1, 1) := by decide +kernel
theorem dX6_isRace_7 : decode cX6_isRace 7 = .ok (.ifCond .lt 15, 3) := by decide +kernel
theorem dX6_isRace_10 : decode cX6_isRace 10 = .ok (.iload_n 1, 1) := by decide +kernel
theorem dX6_isRace_11 : decode cX6_isRace 11 = .ok (.aload_n 0, 1) := by decide +kernel
theorem dX6_isRace_12 : decode cX6_isRace 12 = .ok (.getfield 45, 3) := by decide +kernel
theorem dX6_isRace_15 : decode cX6_isRace 15 = .ok (.if_icmp .ge 7, 3) := by decide +kernel
theorem dX6_isRace_18 : decode cX6_isRace 18 = .ok (.iconst 1, 1) := by decide +kernel
theorem dX6_isRace_19 : decode cX6_isRace 19 = .ok (.goto 4, 3) := by decide +kernel
theorem dX6_isRace_22 : decode cX6_isRace 22 = .ok (.iconst 0, 1) := by decide +kernel
theorem dX6_isRace_23 : decode cX6_isRace 23 = .ok (.iconst 1, 1) := by decide +kernel
theorem dX6_isRace_24 : decode cX6_isRace 24 = .ok (.invokevirtual 62, 3) := by decide +kernel
theorem dX6_isRace_27 : decode cX6_isRace 27 = .ok (.ireturn, 1) := by decide +kernel
set_option maxRecDepth 20000 in
theorem ggX6_says_X6_isRead : GoodIn wsX6_says wsX6_isRead := goodIn_r _ [7, 8, 17, 18, 19, 20, 21, 22, 23, 24, 25, 26, 27, 28, 29, 30, 31, 32, 33, 34, 35, 36, 37, 38] (by decide +kernel) (by decide +kernel)
set_option maxRecDepth 20000 in
theorem gX6_says_X6_isRead : GoodIn wsX6_says (wsV RX6 73 RX6 yX6_isRead wsX6_isRead) := goodIn_app (goodIn_of _ (by decide +kernel)) ggX6_says_X6_isRead
set_option maxRecDepth 20000 in
theorem ggX6_says_X6_of : GoodIn wsX6_says wsX6_of := goodIn_r _ [11] (by decide +kernel) (by decide +kernel)
set_option maxRecDepth 20000 in
theorem gX6_says_X6_of : GoodIn wsX6_says (va_wsS RX6 58 yX6_of wsX6_of) := goodIn_app (goodIn_of _ (by decide +kernel)) ggX6_says_X6_of
set_option maxRecDepth 20000 in
theorem ggX6_says_X6_readingOf : GoodIn wsX6_says wsX6_readingOf := goodIn_r _ [15, 8, 16, 9, 10, 6, 11, 17, 18, 19, 20, 21, 22, 23, 24, 25, 26, 27, 28, 29, 30, 31, 32, 33, 34, 35, 36, 37, 38] (by decide +kernel) (by decide +kernel)
set_option maxRecDepth 20000 in
theorem gX6_says_X6_readingOf : GoodIn wsX6_says (wsV RX6 80 RX6 yX6_readingOf wsX6_readingOf) := goodIn_app (goodIn_of _ (by decide +kernel)) ggX6_says_X6_readingOf
theorem dX6_says_0 : decode cX6_says 0 = .ok (.iload_n 3, 1) := by decide +kernel
theorem dX6_says_1 : decode cX6_says 1 = .ok (.ifCond .eq 20, 3) := by decide +kernel
theorem dX6_says_4 : decode cX6_says 4 = .ok (.aload_n 0, 1) := by decide +kernel
theorem dX6_says_5 : decode cX6_says 5 = .ok (.getfield 25, 3) := by decide +kernel
theorem dX6_says_8 : decode cX6_says 8 = .ok (.iload_n 1, 1) := by decide +kernel
theorem dX6_says_9 : decode cX6_says 9 = .ok (.baload, 1) := by decide +kernel
theorem dX6_says_10 : decode cX6_says 10 = .ok (.ifCond .ne 11, 3) := by decide +kernel
theorem dX6_says_13 : decode cX6_says 13 = .ok (.aload_n 0, 1) := by decide +kernel
theorem dX6_says_14 : decode cX6_says 14 = .ok (.iload_n 1, 1) := by decide +kernel
theorem dX6_says_15 : decode cX6_says 15 = .ok (.invokevirtual 73, 3) := by decide +kernel
theorem dX6_says_18 : decode cX6_says 18 = .ok (.ifCond .ne 16, 3) := by decide +kernel
theorem dX6_says_21 : decode cX6_says 21 = .ok (.aload_n 0, 1) := by decide +kernel
theorem dX6_says_22 : decode cX6_says 22 = .ok (.getfield 19, 3) := by decide +kernel
theorem dX6_says_25 : decode cX6_says 25 = .ok (.iload_n 1, 1) := by decide +kernel
theorem dX6_says_26 : decode cX6_says 26 = .ok (.iaload, 1) := by decide +kernel
theorem dX6_says_27 : decode cX6_says 27 = .ok (.iload_n 2, 1) := by decide +kernel
theorem dX6_says_28 : decode cX6_says 28 = .ok (.invokestatic 58, 3) := by decide +kernel
theorem dX6_says_31 : decode cX6_says 31 = .ok (.goto 9, 3) := by decide +kernel
theorem dX6_says_34 : decode cX6_says 34 = .ok (.aload_n 0, 1) := by decide +kernel
theorem dX6_says_35 : decode cX6_says 35 = .ok (.iload_n 1, 1) := by decide +kernel
theorem dX6_says_36 : decode cX6_says 36 = .ok (.iload_n 2, 1) := by decide +kernel
theorem dX6_says_37 : decode cX6_says 37 = .ok (.invokevirtual 80, 3) := by decide +kernel
theorem dX6_says_40 : decode cX6_says 40 = .ok (.ireturn, 1) := by decide +kernel
set_option maxRecDepth 20000 in
theorem ggX6_votesOf_X6_says : GoodIn wsX6_votesOf wsX6_says := goodIn_r _ [6, 7, 8, 9, 10, 11, 5, 12, 13, 14, 15, 16, 17, 18, 19, 20, 21, 22, 23, 24, 25, 26, 27, 28, 29, 30, 31, 32, 33, 34, 35, 36, 37, 38, 39, 40, 41, 42, 43] (by decide +kernel) (by decide +kernel)
set_option maxRecDepth 20000 in
theorem gX6_votesOf_X6_says : GoodIn wsX6_votesOf (wsV RX6 83 RX6 yX6_says wsX6_says) := goodIn_app (goodIn_of _ (by decide +kernel)) ggX6_votesOf_X6_says
theorem dX6_votesOf_0 : decode cX6_votesOf 0 = .ok (.iconst 0, 1) := by decide +kernel
theorem dX6_votesOf_1 : decode cX6_votesOf 1 = .ok (.istore 4, 2) := by decide +kernel
theorem dX6_votesOf_3 : decode cX6_votesOf 3 = .ok (.iconst 0, 1) := by decide +kernel
theorem dX6_votesOf_4 : decode cX6_votesOf 4 = .ok (.istore 5, 2) := by decide +kernel
theorem dX6_votesOf_6 : decode cX6_votesOf 6 = .ok (.iload 5, 2) := by decide +kernel
theorem dX6_votesOf_8 : decode cX6_votesOf 8 = .ok (.aload_n 0, 1) := by decide +kernel
theorem dX6_votesOf_9 : decode cX6_votesOf 9 = .ok (.getfield 48, 3) := by decide +kernel
theorem dX6_votesOf_12 : decode cX6_votesOf 12 = .ok (.if_icmp .ge 24, 3) := by decide +kernel
theorem dX6_votesOf_15 : decode cX6_votesOf 15 = .ok (.aload_n 0, 1) := by decide +kernel
theorem dX6_votesOf_16 : decode cX6_votesOf 16 = .ok (.iload 5, 2) := by decide +kernel
theorem dX6_votesOf_18 : decode cX6_votesOf 18 = .ok (.iload_n 1, 1) := by decide +kernel
theorem dX6_votesOf_19 : decode cX6_votesOf 19 = .ok (.iload_n 3, 1) := by decide +kernel
theorem dX6_votesOf_20 : decode cX6_votesOf 20 = .ok (.invokevirtual 83, 3) := by decide +kernel
theorem dX6_votesOf_23 : decode cX6_votesOf 23 = .ok (.iload_n 2, 1) := by decide +kernel
theorem dX6_votesOf_24 : decode cX6_votesOf 24 = .ok (.if_icmp .ne 6, 3) := by decide +kernel
theorem dX6_votesOf_27 : decode cX6_votesOf 27 = .ok (.iinc 4 1, 3) := by decide +kernel
theorem dX6_votesOf_30 : decode cX6_votesOf 30 = .ok (.iinc 5 1, 3) := by decide +kernel
theorem dX6_votesOf_33 : decode cX6_votesOf 33 = .ok (.goto (-27), 3) := by decide +kernel
theorem dX6_votesOf_36 : decode cX6_votesOf 36 = .ok (.iload 4, 2) := by decide +kernel
theorem dX6_votesOf_38 : decode cX6_votesOf 38 = .ok (.ireturn, 1) := by decide +kernel
set_option maxRecDepth 20000 in
theorem ggX6_winsBy_X6_votesOf : GoodIn wsX6_winsBy wsX6_votesOf := goodIn_r _ [7, 8, 9, 10, 11, 6, 12, 13, 14, 15, 16, 17, 18, 19, 20, 21, 22, 23, 24, 25, 26, 27, 28, 29, 30, 31, 32, 33, 34, 35, 36, 37, 38, 39, 40, 41, 42, 43, 44, 45, 46, 47, 48, 49] (by decide +kernel) (by decide +kernel)
set_option maxRecDepth 20000 in
theorem gX6_winsBy_X6_votesOf : GoodIn wsX6_winsBy (wsV RX6 87 RX6 yX6_votesOf wsX6_votesOf) := goodIn_app (goodIn_of _ (by decide +kernel)) ggX6_winsBy_X6_votesOf
theorem dX6_winsBy_0 : decode cX6_winsBy 0 = .ok (.aload_n 0, 1) := by decide +kernel
theorem dX6_winsBy_1 : decode cX6_winsBy 1 = .ok (.iload_n 1, 1) := by decide +kernel
theorem dX6_winsBy_2 : decode cX6_winsBy 2 = .ok (.iload_n 2, 1) := by decide +kernel
theorem dX6_winsBy_3 : decode cX6_winsBy 3 = .ok (.iload_n 3, 1) := by decide +kernel
theorem dX6_winsBy_4 : decode cX6_winsBy 4 = .ok (.invokevirtual 87, 3) := by decide +kernel
theorem dX6_winsBy_7 : decode cX6_winsBy 7 = .ok (.istore 4, 2) := by decide +kernel
theorem dX6_winsBy_9 : decode cX6_winsBy 9 = .ok (.iconst 0, 1) := by decide +kernel
theorem dX6_winsBy_10 : decode cX6_winsBy 10 = .ok (.istore 5, 2) := by decide +kernel
theorem dX6_winsBy_12 : decode cX6_winsBy 12 = .ok (.iconst 1, 1) := by decide +kernel
theorem dX6_winsBy_13 : decode cX6_winsBy 13 = .ok (.istore 6, 2) := by decide +kernel
theorem dX6_winsBy_15 : decode cX6_winsBy 15 = .ok (.iload 6, 2) := by decide +kernel
theorem dX6_winsBy_17 : decode cX6_winsBy 17 = .ok (.aload_n 0, 1) := by decide +kernel
theorem dX6_winsBy_18 : decode cX6_winsBy 18 = .ok (.getfield 7, 3) := by decide +kernel
theorem dX6_winsBy_21 : decode cX6_winsBy 21 = .ok (.iload_n 1, 1) := by decide +kernel
theorem dX6_winsBy_22 : decode cX6_winsBy 22 = .ok (.iaload, 1) := by decide +kernel
theorem dX6_winsBy_23 : decode cX6_winsBy 23 = .ok (.if_icmp .gt 52, 3) := by decide +kernel
theorem dX6_winsBy_26 : decode cX6_winsBy 26 = .ok (.iload 6, 2) := by decide +kernel
theorem dX6_winsBy_28 : decode cX6_winsBy 28 = .ok (.iload_n 2, 1) := by decide +kernel
theorem dX6_winsBy_29 : decode cX6_winsBy 29 = .ok (.if_icmp .ne 7, 3) := by decide +kernel
theorem dX6_winsBy_32 : decode cX6_winsBy 32 = .ok (.iconst 0, 1) := by decide +kernel
theorem dX6_winsBy_33 : decode cX6_winsBy 33 = .ok (.goto 11, 3) := by decide +kernel
theorem dX6_winsBy_36 : decode cX6_winsBy 36 = .ok (.aload_n 0, 1) := by decide +kernel
theorem dX6_winsBy_37 : decode cX6_winsBy 37 = .ok (.iload_n 1, 1) := by decide +kernel
theorem dX6_winsBy_38 : decode cX6_winsBy 38 = .ok (.iload 6, 2) := by decide +kernel
theorem dX6_winsBy_40 : decode cX6_winsBy 40 = .ok (.iload_n 3, 1) := by decide +kernel
theorem dX6_winsBy_41 : decode cX6_winsBy 41 = .ok (.invokevirtual 87, 3) := by decide +kernel
theorem dX6_winsBy_44 : decode cX6_winsBy 44 = .ok (.istore 7, 2) := by decide +kernel
theorem dX6_winsBy_46 : decode cX6_winsBy 46 = .ok (.iload 7, 2) := by decide +kernel
theorem dX6_winsBy_48 : decode cX6_winsBy 48 = .ok (.iload 4, 2) := by decide +kernel
theorem dX6_winsBy_50 : decode cX6_winsBy 50 = .ok (.if_icmp .gt 16, 3) := by decide +kernel
theorem dX6_winsBy_53 : decode cX6_winsBy 53 = .ok (.iload 7, 2) := by decide +kernel
theorem dX6_winsBy_55 : decode cX6_winsBy 55 = .ok (.iload 4, 2) := by decide +kernel
theorem dX6_winsBy_57 : decode cX6_winsBy 57 = .ok (.if_icmp .ne 12, 3) := by decide +kernel
theorem dX6_winsBy_60 : decode cX6_winsBy 60 = .ok (.iload 6, 2) := by decide +kernel
theorem dX6_winsBy_62 : decode cX6_winsBy 62 = .ok (.iload_n 2, 1) := by decide +kernel
theorem dX6_winsBy_63 : decode cX6_winsBy 63 = .ok (.if_icmp .ge 6, 3) := by decide +kernel
theorem dX6_winsBy_66 : decode cX6_winsBy 66 = .ok (.iinc 5 1, 3) := by decide +kernel
theorem dX6_winsBy_69 : decode cX6_winsBy 69 = .ok (.iinc 6 1, 3) := by decide +kernel
theorem dX6_winsBy_72 : decode cX6_winsBy 72 = .ok (.goto (-57), 3) := by decide +kernel
theorem dX6_winsBy_75 : decode cX6_winsBy 75 = .ok (.iload 5, 2) := by decide +kernel
theorem dX6_winsBy_77 : decode cX6_winsBy 77 = .ok (.aload_n 0, 1) := by decide +kernel
theorem dX6_winsBy_78 : decode cX6_winsBy 78 = .ok (.getfield 13, 3) := by decide +kernel
theorem dX6_winsBy_81 : decode cX6_winsBy 81 = .ok (.iload_n 1, 1) := by decide +kernel
theorem dX6_winsBy_82 : decode cX6_winsBy 82 = .ok (.iaload, 1) := by decide +kernel
theorem dX6_winsBy_83 : decode cX6_winsBy 83 = .ok (.if_icmp .ge 7, 3) := by decide +kernel
theorem dX6_winsBy_86 : decode cX6_winsBy 86 = .ok (.iconst 1, 1) := by decide +kernel
theorem dX6_winsBy_87 : decode cX6_winsBy 87 = .ok (.goto 4, 3) := by decide +kernel
theorem dX6_winsBy_90 : decode cX6_winsBy 90 = .ok (.iconst 0, 1) := by decide +kernel
theorem dX6_winsBy_91 : decode cX6_winsBy 91 = .ok (.ireturn, 1) := by decide +kernel
set_option maxRecDepth 20000 in
theorem ggX6_isAsked_X6_isRace : GoodIn wsX6_isAsked wsX6_isRace := goodIn_r _ [6, 7, 8, 9, 10, 11, 5, 12, 13, 14, 15, 16, 17, 18, 19, 20, 21, 22, 23, 24, 25, 26, 27, 28, 29, 30, 31, 32, 33, 34] (by decide +kernel) (by decide +kernel)
set_option maxRecDepth 20000 in
theorem gX6_isAsked_X6_isRace : GoodIn wsX6_isAsked (wsV RX6 90 RX6 yX6_isRace wsX6_isRace) := goodIn_app (goodIn_of _ (by decide +kernel)) ggX6_isAsked_X6_isRace
set_option maxRecDepth 20000 in
theorem ggX6_isAsked_X6_right : GoodIn wsX6_isAsked wsX6_right := goodIn_r _ [12, 7, 13, 14, 15, 16, 17, 18, 19, 20, 21, 22, 23, 24, 25, 26, 27, 28, 29, 30, 31, 32, 33, 34] (by decide +kernel) (by decide +kernel)
set_option maxRecDepth 20000 in
theorem gX6_isAsked_X6_right : GoodIn wsX6_isAsked (wsV RX6 62 RX6 yX6_right wsX6_right) := goodIn_app (goodIn_of _ (by decide +kernel)) ggX6_isAsked_X6_right
theorem dX6_isAsked_0 : decode cX6_isAsked 0 = .ok (.aload_n 0, 1) := by decide +kernel
theorem dX6_isAsked_1 : decode cX6_isAsked 1 = .ok (.iload_n 1, 1) := by decide +kernel
theorem dX6_isAsked_2 : decode cX6_isAsked 2 = .ok (.invokevirtual 90, 3) := by decide +kernel
theorem dX6_isAsked_5 : decode cX6_isAsked 5 = .ok (.ifCond .eq 44, 3) := by decide +kernel
theorem dX6_isAsked_8 : decode cX6_isAsked 8 = .ok (.aload_n 0, 1) := by decide +kernel
theorem dX6_isAsked_9 : decode cX6_isAsked 9 = .ok (.iload_n 2, 1) := by decide +kernel
theorem dX6_isAsked_10 : decode cX6_isAsked 10 = .ok (.iconst 1, 1) := by decide +kernel
theorem dX6_isAsked_11 : decode cX6_isAsked 11 = .ok (.if_icmp .lt 26, 3) := by decide +kernel
theorem dX6_isAsked_14 : decode cX6_isAsked 14 = .ok (.iload_n 2, 1) := by decide +kernel
theorem dX6_isAsked_15 : decode cX6_isAsked 15 = .ok (.aload_n 0, 1) := by decide +kernel
theorem dX6_isAsked_16 : decode cX6_isAsked 16 = .ok (.getfield 7, 3) := by decide +kernel
theorem dX6_isAsked_19 : decode cX6_isAsked 19 = .ok (.iload_n 1, 1) := by decide +kernel
theorem dX6_isAsked_20 : decode cX6_isAsked 20 = .ok (.iaload, 1) := by decide +kernel
theorem dX6_isAsked_21 : decode cX6_isAsked 21 = .ok (.if_icmp .gt 16, 3) := by decide +kernel
theorem dX6_isAsked_24 : decode cX6_isAsked 24 = .ok (.iload_n 3, 1) := by decide +kernel
theorem dX6_isAsked_25 : decode cX6_isAsked 25 = .ok (.ifCond .eq 8, 3) := by decide +kernel
theorem dX6_isAsked_28 : decode cX6_isAsked 28 = .ok (.iload_n 3, 1) := by decide +kernel
theorem dX6_isAsked_29 : decode cX6_isAsked 29 = .ok (.iconst 1, 1) := by decide +kernel
theorem dX6_isAsked_30 : decode cX6_isAsked 30 = .ok (.if_icmp .ne 7, 3) := by decide +kernel
theorem dX6_isAsked_33 : decode cX6_isAsked 33 = .ok (.iconst 1, 1) := by decide +kernel
theorem dX6_isAsked_34 : decode cX6_isAsked 34 = .ok (.goto 4, 3) := by decide +kernel
theorem dX6_isAsked_37 : decode cX6_isAsked 37 = .ok (.iconst 0, 1) := by decide +kernel
theorem dX6_isAsked_38 : decode cX6_isAsked 38 = .ok (.iconst 1, 1) := by decide +kernel
theorem dX6_isAsked_39 : decode cX6_isAsked 39 = .ok (.invokevirtual 62, 3) := by decide +kernel
theorem dX6_isAsked_42 : decode cX6_isAsked 42 = .ok (.ifCond .eq 7, 3) := by decide +kernel
theorem dX6_isAsked_45 : decode cX6_isAsked 45 = .ok (.iconst 1, 1) := by decide +kernel
theorem dX6_isAsked_46 : decode cX6_isAsked 46 = .ok (.goto 4, 3) := by decide +kernel
theorem dX6_isAsked_49 : decode cX6_isAsked 49 = .ok (.iconst 0, 1) := by decide +kernel
theorem dX6_isAsked_50 : decode cX6_isAsked 50 = .ok (.ireturn, 1) := by decide +kernel
set_option maxRecDepth 20000 in
theorem ggX6_votes_X6_isAsked : GoodIn wsX6_votes wsX6_isAsked := goodIn_r _ [5, 6, 7, 8, 9, 4, 10, 11, 12, 13, 14, 15, 16, 41, 42, 43, 44, 45, 46, 47, 48, 49, 50, 51, 52, 53, 54, 55, 56, 57, 58, 59, 60, 61, 62] (by decide +kernel) (by decide +kernel)
set_option maxRecDepth 20000 in
theorem gX6_votes_X6_isAsked : GoodIn wsX6_votes (wsV RX6 93 RX6 yX6_isAsked wsX6_isAsked) := goodIn_app (goodIn_of _ (by decide +kernel)) ggX6_votes_X6_isAsked
set_option maxRecDepth 20000 in
theorem ggX6_votes_X6_votesOf : GoodIn wsX6_votes wsX6_votesOf := goodIn_r _ [20, 21, 22, 23, 24, 4, 25, 26, 27, 28, 29, 30, 31, 32, 33, 34, 35, 36, 37, 38, 39, 40, 41, 42, 43, 44, 45, 46, 47, 48, 49, 50, 51, 52, 53, 54, 55, 56, 57, 58, 59, 60, 61, 62] (by decide +kernel) (by decide +kernel)
set_option maxRecDepth 20000 in
theorem gX6_votes_X6_votesOf : GoodIn wsX6_votes (wsV RX6 87 RX6 yX6_votesOf wsX6_votesOf) := goodIn_app (goodIn_of _ (by decide +kernel)) ggX6_votes_X6_votesOf
theorem dX6_votes_0 : decode cX6_votes 0 = .ok (.aload_n 0, 1) := by decide +kernel
theorem dX6_votes_1 : decode cX6_votes 1 = .ok (.iload_n 1, 1) := by decide +kernel
theorem dX6_votes_2 : decode cX6_votes 2 = .ok (.iload_n 2, 1) := by decide +kernel
theorem dX6_votes_3 : decode cX6_votes 3 = .ok (.iload_n 3, 1) := by decide +kernel
theorem dX6_votes_4 : decode cX6_votes 4 = .ok (.invokevirtual 93, 3) := by decide +kernel
theorem dX6_votes_7 : decode cX6_votes 7 = .ok (.ifCond .eq 13, 3) := by decide +kernel
theorem dX6_votes_10 : decode cX6_votes 10 = .ok (.aload_n 0, 1) := by decide +kernel
theorem dX6_votes_11 : decode cX6_votes 11 = .ok (.iload_n 1, 1) := by decide +kernel
theorem dX6_votes_12 : decode cX6_votes 12 = .ok (.iload_n 2, 1) := by decide +kernel
theorem dX6_votes_13 : decode cX6_votes 13 = .ok (.iload_n 3, 1) := by decide +kernel
theorem dX6_votes_14 : decode cX6_votes 14 = .ok (.invokevirtual 87, 3) := by decide +kernel
theorem dX6_votes_17 : decode cX6_votes 17 = .ok (.goto 4, 3) := by decide +kernel
theorem dX6_votes_20 : decode cX6_votes 20 = .ok (.iconst 0, 1) := by decide +kernel
theorem dX6_votes_21 : decode cX6_votes 21 = .ok (.ireturn, 1) := by decide +kernel
set_option maxRecDepth 20000 in
theorem ggX6_wins_X6_isAsked : GoodIn wsX6_wins wsX6_isAsked := goodIn_r _ [5, 6, 7, 8, 9, 4, 10, 11, 12, 13, 14, 15, 16, 46, 47, 48, 49, 50, 51, 52, 53, 54, 55, 56, 57, 58, 59, 60, 61, 62, 63, 64, 65, 66, 67] (by decide +kernel) (by decide +kernel)
set_option maxRecDepth 20000 in
theorem gX6_wins_X6_isAsked : GoodIn wsX6_wins (wsV RX6 93 RX6 yX6_isAsked wsX6_isAsked) := goodIn_app (goodIn_of _ (by decide +kernel)) ggX6_wins_X6_isAsked
set_option maxRecDepth 20000 in
theorem ggX6_wins_X6_winsBy : GoodIn wsX6_wins wsX6_winsBy := goodIn_r _ [20, 6, 21, 22, 23, 24, 4, 25, 26, 27, 28, 29, 30, 31, 32, 33, 34, 35, 36, 37, 38, 39, 40, 41, 42, 43, 44, 45, 46, 47, 48, 49, 50, 51, 52, 53, 54, 55, 56, 57, 58, 59, 60, 61, 62, 63, 64, 65, 66, 67] (by decide +kernel) (by decide +kernel)
set_option maxRecDepth 20000 in
theorem gX6_wins_X6_winsBy : GoodIn wsX6_wins (wsV RX6 97 RX6 yX6_winsBy wsX6_winsBy) := goodIn_app (goodIn_of _ (by decide +kernel)) ggX6_wins_X6_winsBy
theorem dX6_wins_0 : decode cX6_wins 0 = .ok (.aload_n 0, 1) := by decide +kernel
theorem dX6_wins_1 : decode cX6_wins 1 = .ok (.iload_n 1, 1) := by decide +kernel
theorem dX6_wins_2 : decode cX6_wins 2 = .ok (.iload_n 2, 1) := by decide +kernel
theorem dX6_wins_3 : decode cX6_wins 3 = .ok (.iload_n 3, 1) := by decide +kernel
theorem dX6_wins_4 : decode cX6_wins 4 = .ok (.invokevirtual 93, 3) := by decide +kernel
theorem dX6_wins_7 : decode cX6_wins 7 = .ok (.ifCond .eq 17, 3) := by decide +kernel
theorem dX6_wins_10 : decode cX6_wins 10 = .ok (.aload_n 0, 1) := by decide +kernel
theorem dX6_wins_11 : decode cX6_wins 11 = .ok (.iload_n 1, 1) := by decide +kernel
theorem dX6_wins_12 : decode cX6_wins 12 = .ok (.iload_n 2, 1) := by decide +kernel
theorem dX6_wins_13 : decode cX6_wins 13 = .ok (.iload_n 3, 1) := by decide +kernel
theorem dX6_wins_14 : decode cX6_wins 14 = .ok (.invokevirtual 97, 3) := by decide +kernel
theorem dX6_wins_17 : decode cX6_wins 17 = .ok (.ifCond .eq 7, 3) := by decide +kernel
theorem dX6_wins_20 : decode cX6_wins 20 = .ok (.iconst 1, 1) := by decide +kernel
theorem dX6_wins_21 : decode cX6_wins 21 = .ok (.goto 4, 3) := by decide +kernel
theorem dX6_wins_24 : decode cX6_wins 24 = .ok (.iconst 0, 1) := by decide +kernel
theorem dX6_wins_25 : decode cX6_wins 25 = .ok (.ireturn, 1) := by decide +kernel
set_option maxRecDepth 20000 in
theorem ggX6_knows_X6_votesOf : GoodIn wsX6_knows wsX6_votesOf := goodIn_r _ [12, 1, 13, 14, 15, 11, 16, 17, 18, 19, 20, 21, 22, 23, 24, 25, 26, 27, 28, 29, 30, 31, 37, 38, 39, 40, 41, 42, 43, 44, 45, 46, 47, 48, 49, 50, 51, 52, 53, 54, 55, 56, 57, 58] (by decide +kernel) (by decide +kernel)
set_option maxRecDepth 20000 in
theorem gX6_knows_X6_votesOf : GoodIn wsX6_knows (wsV RX6 87 RX6 yX6_votesOf wsX6_votesOf) := goodIn_app (goodIn_of _ (by decide +kernel)) ggX6_knows_X6_votesOf
set_option maxRecDepth 20000 in
theorem ggX6_knows_X6_winsBy : GoodIn wsX6_knows wsX6_winsBy := goodIn_r _ [35, 3, 36, 8, 9, 10, 11, 12, 1, 13, 14, 15, 16, 17, 18, 19, 20, 21, 22, 23, 24, 25, 26, 27, 28, 29, 30, 31, 37, 38, 39, 40, 41, 42, 43, 44, 45, 46, 47, 48, 49, 50, 51, 52, 53, 54, 55, 56, 57, 58] (by decide +kernel) (by decide +kernel)
set_option maxRecDepth 20000 in
theorem gX6_knows_X6_winsBy : GoodIn wsX6_knows (wsV RX6 97 RX6 yX6_winsBy wsX6_winsBy) := goodIn_app (goodIn_of _ (by decide +kernel)) ggX6_knows_X6_winsBy
theorem dX6_knows_0 : decode cX6_knows 0 = .ok (.aload_n 0, 1) := by decide +kernel
theorem dX6_knows_1 : decode cX6_knows 1 = .ok (.aload_n 0, 1) := by decide +kernel
theorem dX6_knows_2 : decode cX6_knows 2 = .ok (.getfield 48, 3) := by decide +kernel
theorem dX6_knows_5 : decode cX6_knows 5 = .ok (.aload_n 0, 1) := by decide +kernel
theorem dX6_knows_6 : decode cX6_knows 6 = .ok (.iload_n 1, 1) := by decide +kernel
theorem dX6_knows_7 : decode cX6_knows 7 = .ok (.bipush 7, 2) := by decide +kernel
theorem dX6_knows_9 : decode cX6_knows 9 = .ok (.iconst 0, 1) := by decide +kernel
theorem dX6_knows_10 : decode cX6_knows 10 = .ok (.invokevirtual 87, 3) := by decide +kernel
theorem dX6_knows_13 : decode cX6_knows 13 = .ok (.isub, 1) := by decide +kernel
theorem dX6_knows_14 : decode cX6_knows 14 = .ok (.putfield 100, 3) := by decide +kernel
theorem dX6_knows_17 : decode cX6_knows 17 = .ok (.iconst 1, 1) := by decide +kernel
theorem dX6_knows_18 : decode cX6_knows 18 = .ok (.istore_n 2, 1) := by decide +kernel
theorem dX6_knows_19 : decode cX6_knows 19 = .ok (.iload_n 2, 1) := by decide +kernel
theorem dX6_knows_20 : decode cX6_knows 20 = .ok (.aload_n 0, 1) := by decide +kernel
theorem dX6_knows_21 : decode cX6_knows 21 = .ok (.getfield 7, 3) := by decide +kernel
theorem dX6_knows_24 : decode cX6_knows 24 = .ok (.iload_n 1, 1) := by decide +kernel
theorem dX6_knows_25 : decode cX6_knows 25 = .ok (.iaload, 1) := by decide +kernel
theorem dX6_knows_26 : decode cX6_knows 26 = .ok (.if_icmp .gt 35, 3) := by decide +kernel
theorem dX6_knows_29 : decode cX6_knows 29 = .ok (.aload_n 0, 1) := by decide +kernel
theorem dX6_knows_30 : decode cX6_knows 30 = .ok (.getfield 35, 3) := by decide +kernel
theorem dX6_knows_33 : decode cX6_knows 33 = .ok (.iload_n 2, 1) := by decide +kernel
theorem dX6_knows_34 : decode cX6_knows 34 = .ok (.aload_n 0, 1) := by decide +kernel
theorem dX6_knows_35 : decode cX6_knows 35 = .ok (.iload_n 1, 1) := by decide +kernel
theorem dX6_knows_36 : decode cX6_knows 36 = .ok (.iload_n 2, 1) := by decide +kernel
theorem dX6_knows_37 : decode cX6_knows 37 = .ok (.iconst 0, 1) := by decide +kernel
theorem dX6_knows_38 : decode cX6_knows 38 = .ok (.invokevirtual 87, 3) := by decide +kernel
theorem dX6_knows_41 : decode cX6_knows 41 = .ok (.iastore, 1) := by decide +kernel
theorem dX6_knows_42 : decode cX6_knows 42 = .ok (.aload_n 0, 1) := by decide +kernel
theorem dX6_knows_43 : decode cX6_knows 43 = .ok (.getfield 38, 3) := by decide +kernel
theorem dX6_knows_46 : decode cX6_knows 46 = .ok (.iload_n 2, 1) := by decide +kernel
theorem dX6_knows_47 : decode cX6_knows 47 = .ok (.aload_n 0, 1) := by decide +kernel
theorem dX6_knows_48 : decode cX6_knows 48 = .ok (.iload_n 1, 1) := by decide +kernel
theorem dX6_knows_49 : decode cX6_knows 49 = .ok (.iload_n 2, 1) := by decide +kernel
theorem dX6_knows_50 : decode cX6_knows 50 = .ok (.iconst 0, 1) := by decide +kernel
theorem dX6_knows_51 : decode cX6_knows 51 = .ok (.invokevirtual 97, 3) := by decide +kernel
theorem dX6_knows_54 : decode cX6_knows 54 = .ok (.bastore, 1) := by decide +kernel
theorem dX6_knows_55 : decode cX6_knows 55 = .ok (.iinc 2 1, 3) := by decide +kernel
theorem dX6_knows_58 : decode cX6_knows 58 = .ok (.goto (-39), 3) := by decide +kernel
theorem dX6_knows_61 : decode cX6_knows 61 = .ok (.aload_n 0, 1) := by decide +kernel
theorem dX6_knows_62 : decode cX6_knows 62 = .ok (.ldc 103, 2) := by decide +kernel
theorem dX6_knows_64 : decode cX6_knows 64 = .ok (.putfield 104, 3) := by decide +kernel
theorem dX6_knows_67 : decode cX6_knows 67 = .ok (.iconst 1, 1) := by decide +kernel
theorem dX6_knows_68 : decode cX6_knows 68 = .ok (.istore_n 2, 1) := by decide +kernel
theorem dX6_knows_69 : decode cX6_knows 69 = .ok (.iload_n 2, 1) := by decide +kernel
theorem dX6_knows_70 : decode cX6_knows 70 = .ok (.aload_n 0, 1) := by decide +kernel
theorem dX6_knows_71 : decode cX6_knows 71 = .ok (.getfield 7, 3) := by decide +kernel
theorem dX6_knows_74 : decode cX6_knows 74 = .ok (.iload_n 1, 1) := by decide +kernel
theorem dX6_knows_75 : decode cX6_knows 75 = .ok (.iaload, 1) := by decide +kernel
theorem dX6_knows_76 : decode cX6_knows 76 = .ok (.if_icmp .gt 82, 3) := by decide +kernel
theorem dX6_knows_79 : decode cX6_knows 79 = .ok (.iconst 1, 1) := by decide +kernel
theorem dX6_knows_80 : decode cX6_knows 80 = .ok (.istore_n 3, 1) := by decide +kernel
theorem dX6_knows_81 : decode cX6_knows 81 = .ok (.iload_n 3, 1) := by decide +kernel
theorem dX6_knows_82 : decode cX6_knows 82 = .ok (.aload_n 0, 1) := by decide +kernel
theorem dX6_knows_83 : decode cX6_knows 83 = .ok (.getfield 7, 3) := by decide +kernel
theorem dX6_knows_86 : decode cX6_knows 86 = .ok (.iload_n 1, 1) := by decide +kernel
theorem dX6_knows_87 : decode cX6_knows 87 = .ok (.iaload, 1) := by decide +kernel
theorem dX6_knows_88 : decode cX6_knows 88 = .ok (.if_icmp .gt 64, 3) := by decide +kernel
theorem dX6_knows_91 : decode cX6_knows 91 = .ok (.aload_n 0, 1) := by decide +kernel
theorem dX6_knows_92 : decode cX6_knows 92 = .ok (.getfield 38, 3) := by decide +kernel
theorem dX6_knows_95 : decode cX6_knows 95 = .ok (.iload_n 2, 1) := by decide +kernel
theorem dX6_knows_96 : decode cX6_knows 96 = .ok (.baload, 1) := by decide +kernel
theorem dX6_knows_97 : decode cX6_knows 97 = .ok (.ifCond .eq 49, 3) := by decide +kernel
theorem dX6_knows_100 : decode cX6_knows 100 = .ok (.aload_n 0, 1) := by decide +kernel
theorem dX6_knows_101 : decode cX6_knows 101 = .ok (.getfield 38, 3) := by decide +kernel
theorem dX6_knows_104 : decode cX6_knows 104 = .ok (.iload_n 3, 1) := by decide +kernel
theorem dX6_knows_105 : decode cX6_knows 105 = .ok (.baload, 1) := by decide +kernel
theorem dX6_knows_106 : decode cX6_knows 106 = .ok (.ifCond .ne 40, 3) := by decide +kernel
theorem dX6_knows_109 : decode cX6_knows 109 = .ok (.aload_n 0, 1) := by decide +kernel
theorem dX6_knows_110 : decode cX6_knows 110 = .ok (.getfield 35, 3) := by decide +kernel
theorem dX6_knows_113 : decode cX6_knows 113 = .ok (.iload_n 2, 1) := by decide +kernel
theorem dX6_knows_114 : decode cX6_knows 114 = .ok (.iaload, 1) := by decide +kernel
theorem dX6_knows_115 : decode cX6_knows 115 = .ok (.aload_n 0, 1) := by decide +kernel
theorem dX6_knows_116 : decode cX6_knows 116 = .ok (.getfield 35, 3) := by decide +kernel
theorem dX6_knows_119 : decode cX6_knows 119 = .ok (.iload_n 3, 1) := by decide +kernel
theorem dX6_knows_120 : decode cX6_knows 120 = .ok (.iaload, 1) := by decide +kernel
theorem dX6_knows_121 : decode cX6_knows 121 = .ok (.isub, 1) := by decide +kernel
theorem dX6_knows_122 : decode cX6_knows 122 = .ok (.aload_n 0, 1) := by decide +kernel
theorem dX6_knows_123 : decode cX6_knows 123 = .ok (.getfield 104, 3) := by decide +kernel
theorem dX6_knows_126 : decode cX6_knows 126 = .ok (.if_icmp .ge 20, 3) := by decide +kernel
theorem dX6_knows_129 : decode cX6_knows 129 = .ok (.aload_n 0, 1) := by decide +kernel
theorem dX6_knows_130 : decode cX6_knows 130 = .ok (.aload_n 0, 1) := by decide +kernel
theorem dX6_knows_131 : decode cX6_knows 131 = .ok (.getfield 35, 3) := by decide +kernel
theorem dX6_knows_134 : decode cX6_knows 134 = .ok (.iload_n 2, 1) := by decide +kernel
theorem dX6_knows_135 : decode cX6_knows 135 = .ok (.iaload, 1) := by decide +kernel
theorem dX6_knows_136 : decode cX6_knows 136 = .ok (.aload_n 0, 1) := by decide +kernel
theorem dX6_knows_137 : decode cX6_knows 137 = .ok (.getfield 35, 3) := by decide +kernel
theorem dX6_knows_140 : decode cX6_knows 140 = .ok (.iload_n 3, 1) := by decide +kernel
theorem dX6_knows_141 : decode cX6_knows 141 = .ok (.iaload, 1) := by decide +kernel
theorem dX6_knows_142 : decode cX6_knows 142 = .ok (.isub, 1) := by decide +kernel
theorem dX6_knows_143 : decode cX6_knows 143 = .ok (.putfield 104, 3) := by decide +kernel
theorem dX6_knows_146 : decode cX6_knows 146 = .ok (.iinc 3 1, 3) := by decide +kernel
theorem dX6_knows_149 : decode cX6_knows 149 = .ok (.goto (-68), 3) := by decide +kernel
theorem dX6_knows_152 : decode cX6_knows 152 = .ok (.iinc 2 1, 3) := by decide +kernel
theorem dX6_knows_155 : decode cX6_knows 155 = .ok (.goto (-86), 3) := by decide +kernel
theorem dX6_knows_158 : decode cX6_knows 158 = .ok (.return_, 1) := by decide +kernel
set_option maxRecDepth 20000 in
theorem ggX6_about_X6_isRace : GoodIn wsX6_about wsX6_isRace := goodIn_r _ [9, 10, 11, 12, 13, 14, 8, 15, 51, 52, 53, 54, 55, 56, 57, 58, 59, 60, 61, 62, 63, 64, 65, 66, 67, 68, 69, 70, 71, 72] (by decide +kernel) (by decide +kernel)
set_option maxRecDepth 20000 in
theorem gX6_about_X6_isRace : GoodIn wsX6_about (wsV RX6 90 RX6 yX6_isRace wsX6_isRace) := goodIn_app (goodIn_of _ (by decide +kernel)) ggX6_about_X6_isRace
set_option maxRecDepth 20000 in
theorem ggX6_about_X6_right : GoodIn wsX6_about wsX6_right := goodIn_r _ [15, 10, 51, 52, 53, 54, 55, 56, 57, 58, 59, 60, 61, 62, 63, 64, 65, 66, 67, 68, 69, 70, 71, 72] (by decide +kernel) (by decide +kernel)
set_option maxRecDepth 20000 in
theorem gX6_about_X6_right : GoodIn wsX6_about (wsV RX6 62 RX6 yX6_right wsX6_right) := goodIn_app (goodIn_of _ (by decide +kernel)) ggX6_about_X6_right
set_option maxRecDepth 20000 in
theorem ggX6_about_X6_knows : GoodIn wsX6_about wsX6_knows := goodIn_r _ [19, 20, 1, 3, 21, 22, 23, 2, 24, 25, 26, 8, 27, 28, 29, 30, 31, 32, 33, 34, 35, 36, 37, 38, 39, 40, 41, 42, 43, 44, 45, 46, 47, 48, 49, 50, 4, 51, 52, 53, 54, 55, 56, 57, 58, 59, 60, 61, 62, 63, 64, 65, 66, 67, 68, 69, 70, 71, 72] (by decide +kernel) (by decide +kernel)
set_option maxRecDepth 20000 in
theorem gX6_about_X6_knows : GoodIn wsX6_about (wsV RX6 107 RX6 yX6_knows wsX6_knows) := goodIn_app (goodIn_of _ (by decide +kernel)) ggX6_about_X6_knows
theorem dX6_about_0 : decode cX6_about 0 = .ok (.aload_n 0, 1) := by decide +kernel
theorem dX6_about_1 : decode cX6_about 1 = .ok (.iload_n 1, 1) := by decide +kernel
theorem dX6_about_2 : decode cX6_about 2 = .ok (.invokevirtual 90, 3) := by decide +kernel
theorem dX6_about_5 : decode cX6_about 5 = .ok (.ifCond .eq 25, 3) := by decide +kernel
theorem dX6_about_8 : decode cX6_about 8 = .ok (.aload_n 0, 1) := by decide +kernel
theorem dX6_about_9 : decode cX6_about 9 = .ok (.iload_n 2, 1) := by decide +kernel
theorem dX6_about_10 : decode cX6_about 10 = .ok (.ifCond .lt 12, 3) := by decide +kernel
theorem dX6_about_13 : decode cX6_about 13 = .ok (.iload_n 2, 1) := by decide +kernel
theorem dX6_about_14 : decode cX6_about 14 = .ok (.iconst 3, 1) := by decide +kernel
theorem dX6_about_15 : decode cX6_about 15 = .ok (.if_icmp .gt 7, 3) := by decide +kernel
theorem dX6_about_18 : decode cX6_about 18 = .ok (.iconst 1, 1) := by decide +kernel
theorem dX6_about_19 : decode cX6_about 19 = .ok (.goto 4, 3) := by decide +kernel
theorem dX6_about_22 : decode cX6_about 22 = .ok (.iconst 0, 1) := by decide +kernel
theorem dX6_about_23 : decode cX6_about 23 = .ok (.iconst 1, 1) := by decide +kernel
theorem dX6_about_24 : decode cX6_about 24 = .ok (.invokevirtual 62, 3) := by decide +kernel
theorem dX6_about_27 : decode cX6_about 27 = .ok (.ifCond .ne 5, 3) := by decide +kernel
theorem dX6_about_30 : decode cX6_about 30 = .ok (.iconst 0, 1) := by decide +kernel
theorem dX6_about_31 : decode cX6_about 31 = .ok (.ireturn, 1) := by decide +kernel
theorem dX6_about_32 : decode cX6_about 32 = .ok (.aload_n 0, 1) := by decide +kernel
theorem dX6_about_33 : decode cX6_about 33 = .ok (.iload_n 1, 1) := by decide +kernel
theorem dX6_about_34 : decode cX6_about 34 = .ok (.invokevirtual 107, 3) := by decide +kernel
theorem dX6_about_37 : decode cX6_about 37 = .ok (.iload_n 2, 1) := by decide +kernel
theorem dX6_about_38 : decode cX6_about 38 = .ok (.ifCond .ne 10, 3) := by decide +kernel
theorem dX6_about_41 : decode cX6_about 41 = .ok (.aload_n 0, 1) := by decide +kernel
theorem dX6_about_42 : decode cX6_about 42 = .ok (.getfield 100, 3) := by decide +kernel
theorem dX6_about_45 : decode cX6_about 45 = .ok (.goto 35, 3) := by decide +kernel
theorem dX6_about_48 : decode cX6_about 48 = .ok (.iload_n 2, 1) := by decide +kernel
theorem dX6_about_49 : decode cX6_about 49 = .ok (.iconst 1, 1) := by decide +kernel
theorem dX6_about_50 : decode cX6_about 50 = .ok (.if_icmp .ne 10, 3) := by decide +kernel
theorem dX6_about_53 : decode cX6_about 53 = .ok (.aload_n 0, 1) := by decide +kernel
theorem dX6_about_54 : decode cX6_about 54 = .ok (.getfield 104, 3) := by decide +kernel
theorem dX6_about_57 : decode cX6_about 57 = .ok (.goto 23, 3) := by decide +kernel
theorem dX6_about_60 : decode cX6_about 60 = .ok (.iload_n 2, 1) := by decide +kernel
theorem dX6_about_61 : decode cX6_about 61 = .ok (.iconst 2, 1) := by decide +kernel
theorem dX6_about_62 : decode cX6_about 62 = .ok (.if_icmp .ne 12, 3) := by decide +kernel
theorem dX6_about_65 : decode cX6_about 65 = .ok (.aload_n 0, 1) := by decide +kernel
theorem dX6_about_66 : decode cX6_about 66 = .ok (.getfield 7, 3) := by decide +kernel
theorem dX6_about_69 : decode cX6_about 69 = .ok (.iload_n 1, 1) := by decide +kernel
theorem dX6_about_70 : decode cX6_about 70 = .ok (.iaload, 1) := by decide +kernel
theorem dX6_about_71 : decode cX6_about 71 = .ok (.goto 9, 3) := by decide +kernel
theorem dX6_about_74 : decode cX6_about 74 = .ok (.aload_n 0, 1) := by decide +kernel
theorem dX6_about_75 : decode cX6_about 75 = .ok (.getfield 13, 3) := by decide +kernel
theorem dX6_about_78 : decode cX6_about 78 = .ok (.iload_n 1, 1) := by decide +kernel
theorem dX6_about_79 : decode cX6_about 79 = .ok (.iaload, 1) := by decide +kernel
theorem dX6_about_80 : decode cX6_about 80 = .ok (.ireturn, 1) := by decide +kernel
set_option maxRecDepth 20000 in
theorem ggX6_draw_X6_right : GoodIn wsX6_draw wsX6_right := goodIn_r _ [13, 1, 14, 15, 16, 17, 18, 19, 20, 21, 22, 23, 24, 25, 26, 27, 28, 29, 30, 31, 32, 33, 34, 35] (by decide +kernel) (by decide +kernel)
set_option maxRecDepth 20000 in
theorem gX6_draw_X6_right : GoodIn wsX6_draw (wsV RX6 62 RX6 yX6_right wsX6_right) := goodIn_app (goodIn_of _ (by decide +kernel)) ggX6_draw_X6_right
theorem dX6_draw_0 : decode cX6_draw 0 = .ok (.aload_n 0, 1) := by decide +kernel
theorem dX6_draw_1 : decode cX6_draw 1 = .ok (.iconst 0, 1) := by decide +kernel
theorem dX6_draw_2 : decode cX6_draw 2 = .ok (.putfield 41, 3) := by decide +kernel
theorem dX6_draw_5 : decode cX6_draw 5 = .ok (.aload_n 0, 1) := by decide +kernel
theorem dX6_draw_6 : decode cX6_draw 6 = .ok (.iload_n 1, 1) := by decide +kernel
theorem dX6_draw_7 : decode cX6_draw 7 = .ok (.ifCond .lt 13, 3) := by decide +kernel
theorem dX6_draw_10 : decode cX6_draw 10 = .ok (.iload_n 1, 1) := by decide +kernel
theorem dX6_draw_11 : decode cX6_draw 11 = .ok (.bipush 100, 2) := by decide +kernel
theorem dX6_draw_13 : decode cX6_draw 13 = .ok (.if_icmp .gt 7, 3) := by decide +kernel
theorem dX6_draw_16 : decode cX6_draw 16 = .ok (.iconst 1, 1) := by decide +kernel
theorem dX6_draw_17 : decode cX6_draw 17 = .ok (.goto 4, 3) := by decide +kernel
theorem dX6_draw_20 : decode cX6_draw 20 = .ok (.iconst 0, 1) := by decide +kernel
theorem dX6_draw_21 : decode cX6_draw 21 = .ok (.iconst 1, 1) := by decide +kernel
theorem dX6_draw_22 : decode cX6_draw 22 = .ok (.invokevirtual 62, 3) := by decide +kernel
theorem dX6_draw_25 : decode cX6_draw 25 = .ok (.ifCond .ne 5, 3) := by decide +kernel
theorem dX6_draw_28 : decode cX6_draw 28 = .ok (.iconst 0, 1) := by decide +kernel
theorem dX6_draw_29 : decode cX6_draw 29 = .ok (.ireturn, 1) := by decide +kernel
theorem dX6_draw_30 : decode cX6_draw 30 = .ok (.aload_n 0, 1) := by decide +kernel
theorem dX6_draw_31 : decode cX6_draw 31 = .ok (.getfield 54, 3) := by decide +kernel
theorem dX6_draw_34 : decode cX6_draw 34 = .ok (.ifCond .eq 15, 3) := by decide +kernel
theorem dX6_draw_37 : decode cX6_draw 37 = .ok (.aload_n 0, 1) := by decide +kernel
theorem dX6_draw_38 : decode cX6_draw 38 = .ok (.getfield 111, 3) := by decide +kernel
theorem dX6_draw_41 : decode cX6_draw 41 = .ok (.iload_n 1, 1) := by decide +kernel
theorem dX6_draw_42 : decode cX6_draw 42 = .ok (.iadd, 1) := by decide +kernel
theorem dX6_draw_43 : decode cX6_draw 43 = .ok (.sipush 2000, 3) := by decide +kernel
theorem dX6_draw_46 : decode cX6_draw 46 = .ok (.if_icmp .le 5, 3) := by decide +kernel
theorem dX6_draw_49 : decode cX6_draw 49 = .ok (.iconst (-1), 1) := by decide +kernel
theorem dX6_draw_50 : decode cX6_draw 50 = .ok (.ireturn, 1) := by decide +kernel
theorem dX6_draw_51 : decode cX6_draw 51 = .ok (.iconst 0, 1) := by decide +kernel
theorem dX6_draw_52 : decode cX6_draw 52 = .ok (.istore_n 2, 1) := by decide +kernel
theorem dX6_draw_53 : decode cX6_draw 53 = .ok (.iload_n 2, 1) := by decide +kernel
theorem dX6_draw_54 : decode cX6_draw 54 = .ok (.iload_n 1, 1) := by decide +kernel
theorem dX6_draw_55 : decode cX6_draw 55 = .ok (.if_icmp .ge 58, 3) := by decide +kernel
theorem dX6_draw_58 : decode cX6_draw 58 = .ok (.aload_n 0, 1) := by decide +kernel
theorem dX6_draw_59 : decode cX6_draw 59 = .ok (.aload_n 0, 1) := by decide +kernel
theorem dX6_draw_60 : decode cX6_draw 60 = .ok (.getfield 76, 3) := by decide +kernel
theorem dX6_draw_63 : decode cX6_draw 63 = .ok (.ldc2_w 114, 3) := by decide +kernel
theorem dX6_draw_66 : decode cX6_draw 66 = .ok (.lmul, 1) := by decide +kernel
theorem dX6_draw_67 : decode cX6_draw 67 = .ok (.ldc2_w 116, 3) := by decide +kernel
theorem dX6_draw_70 : decode cX6_draw 70 = .ok (.ladd, 1) := by decide +kernel
theorem dX6_draw_71 : decode cX6_draw 71 = .ok (.putfield 76, 3) := by decide +kernel
theorem dX6_draw_74 : decode cX6_draw 74 = .ok (.aload_n 0, 1) := by decide +kernel
theorem dX6_draw_75 : decode cX6_draw 75 = .ok (.getfield 22, 3) := by decide +kernel
theorem dX6_draw_78 : decode cX6_draw 78 = .ok (.aload_n 0, 1) := by decide +kernel
theorem dX6_draw_79 : decode cX6_draw 79 = .ok (.getfield 111, 3) := by decide +kernel
theorem dX6_draw_82 : decode cX6_draw 82 = .ok (.aload_n 0, 1) := by decide +kernel
theorem dX6_draw_83 : decode cX6_draw 83 = .ok (.getfield 76, 3) := by decide +kernel
theorem dX6_draw_86 : decode cX6_draw 86 = .ok (.bipush 33, 2) := by decide +kernel
theorem dX6_draw_88 : decode cX6_draw 88 = .ok (.lushr, 1) := by decide +kernel
theorem dX6_draw_89 : decode cX6_draw 89 = .ok (.aload_n 0, 1) := by decide +kernel
theorem dX6_draw_90 : decode cX6_draw 90 = .ok (.getfield 48, 3) := by decide +kernel
theorem dX6_draw_93 : decode cX6_draw 93 = .ok (.i2l, 1) := by decide +kernel
theorem dX6_draw_94 : decode cX6_draw 94 = .ok (.lrem, 1) := by decide +kernel
theorem dX6_draw_95 : decode cX6_draw 95 = .ok (.l2i, 1) := by decide +kernel
theorem dX6_draw_96 : decode cX6_draw 96 = .ok (.iastore, 1) := by decide +kernel
theorem dX6_draw_97 : decode cX6_draw 97 = .ok (.aload_n 0, 1) := by decide +kernel
theorem dX6_draw_98 : decode cX6_draw 98 = .ok (.dup, 1) := by decide +kernel
theorem dX6_draw_99 : decode cX6_draw 99 = .ok (.getfield 111, 3) := by decide +kernel
theorem dX6_draw_102 : decode cX6_draw 102 = .ok (.iconst 1, 1) := by decide +kernel
theorem dX6_draw_103 : decode cX6_draw 103 = .ok (.iadd, 1) := by decide +kernel
theorem dX6_draw_104 : decode cX6_draw 104 = .ok (.putfield 111, 3) := by decide +kernel
theorem dX6_draw_107 : decode cX6_draw 107 = .ok (.iinc 2 1, 3) := by decide +kernel
theorem dX6_draw_110 : decode cX6_draw 110 = .ok (.goto (-57), 3) := by decide +kernel
theorem dX6_draw_113 : decode cX6_draw 113 = .ok (.aload_n 0, 1) := by decide +kernel
theorem dX6_draw_114 : decode cX6_draw 114 = .ok (.getfield 111, 3) := by decide +kernel
theorem dX6_draw_117 : decode cX6_draw 117 = .ok (.ireturn, 1) := by decide +kernel
set_option maxRecDepth 20000 in
theorem ggX6_drawn_X6_right : GoodIn wsX6_drawn wsX6_right := goodIn_r _ [8, 1, 9, 10, 11, 12, 13, 14, 15, 16, 17, 18, 19, 20, 21, 22, 23, 24, 25, 26, 27, 28, 29, 30] (by decide +kernel) (by decide +kernel)
set_option maxRecDepth 20000 in
theorem gX6_drawn_X6_right : GoodIn wsX6_drawn (wsV RX6 62 RX6 yX6_right wsX6_right) := goodIn_app (goodIn_of _ (by decide +kernel)) ggX6_drawn_X6_right
theorem dX6_drawn_0 : decode cX6_drawn 0 = .ok (.aload_n 0, 1) := by decide +kernel
theorem dX6_drawn_1 : decode cX6_drawn 1 = .ok (.iconst 0, 1) := by decide +kernel
theorem dX6_drawn_2 : decode cX6_drawn 2 = .ok (.putfield 41, 3) := by decide +kernel
theorem dX6_drawn_5 : decode cX6_drawn 5 = .ok (.aload_n 0, 1) := by decide +kernel
theorem dX6_drawn_6 : decode cX6_drawn 6 = .ok (.iload_n 1, 1) := by decide +kernel
theorem dX6_drawn_7 : decode cX6_drawn 7 = .ok (.ifCond .lt 15, 3) := by decide +kernel
theorem dX6_drawn_10 : decode cX6_drawn 10 = .ok (.iload_n 1, 1) := by decide +kernel
theorem dX6_drawn_11 : decode cX6_drawn 11 = .ok (.aload_n 0, 1) := by decide +kernel
theorem dX6_drawn_12 : decode cX6_drawn 12 = .ok (.getfield 111, 3) := by decide +kernel
theorem dX6_drawn_15 : decode cX6_drawn 15 = .ok (.if_icmp .ge 7, 3) := by decide +kernel
theorem dX6_drawn_18 : decode cX6_drawn 18 = .ok (.iconst 1, 1) := by decide +kernel
theorem dX6_drawn_19 : decode cX6_drawn 19 = .ok (.goto 4, 3) := by decide +kernel
theorem dX6_drawn_22 : decode cX6_drawn 22 = .ok (.iconst 0, 1) := by decide +kernel
theorem dX6_drawn_23 : decode cX6_drawn 23 = .ok (.iconst 1, 1) := by decide +kernel
theorem dX6_drawn_24 : decode cX6_drawn 24 = .ok (.invokevirtual 62, 3) := by decide +kernel
theorem dX6_drawn_27 : decode cX6_drawn 27 = .ok (.ifCond .eq 12, 3) := by decide +kernel
theorem dX6_drawn_30 : decode cX6_drawn 30 = .ok (.aload_n 0, 1) := by decide +kernel
theorem dX6_drawn_31 : decode cX6_drawn 31 = .ok (.getfield 22, 3) := by decide +kernel
theorem dX6_drawn_34 : decode cX6_drawn 34 = .ok (.iload_n 1, 1) := by decide +kernel
theorem dX6_drawn_35 : decode cX6_drawn 35 = .ok (.iaload, 1) := by decide +kernel
theorem dX6_drawn_36 : decode cX6_drawn 36 = .ok (.goto 4, 3) := by decide +kernel
theorem dX6_drawn_39 : decode cX6_drawn 39 = .ok (.iconst 0, 1) := by decide +kernel
theorem dX6_drawn_40 : decode cX6_drawn 40 = .ok (.ireturn, 1) := by decide +kernel
set_option maxRecDepth 20000 in
theorem ggX6_isKnown_X6_isRead : GoodIn wsX6_isKnown wsX6_isRead := goodIn_r _ [6, 7, 8, 9, 10, 11, 12, 13, 14, 15, 16, 17, 18, 19, 20, 21, 22, 23, 24, 25, 26, 27, 28, 29] (by decide +kernel) (by decide +kernel)
set_option maxRecDepth 20000 in
theorem gX6_isKnown_X6_isRead : GoodIn wsX6_isKnown (wsV RX6 73 RX6 yX6_isRead wsX6_isRead) := goodIn_app (goodIn_of _ (by decide +kernel)) ggX6_isKnown_X6_isRead
theorem dX6_isKnown_0 : decode cX6_isKnown 0 = .ok (.aload_n 0, 1) := by decide +kernel
theorem dX6_isKnown_1 : decode cX6_isKnown 1 = .ok (.getfield 25, 3) := by decide +kernel
theorem dX6_isKnown_4 : decode cX6_isKnown 4 = .ok (.iload_n 1, 1) := by decide +kernel
theorem dX6_isKnown_5 : decode cX6_isKnown 5 = .ok (.baload, 1) := by decide +kernel
theorem dX6_isKnown_6 : decode cX6_isKnown 6 = .ok (.ifCond .ne 11, 3) := by decide +kernel
theorem dX6_isKnown_9 : decode cX6_isKnown 9 = .ok (.aload_n 0, 1) := by decide +kernel
theorem dX6_isKnown_10 : decode cX6_isKnown 10 = .ok (.iload_n 1, 1) := by decide +kernel
theorem dX6_isKnown_11 : decode cX6_isKnown 11 = .ok (.invokevirtual 73, 3) := by decide +kernel
theorem dX6_isKnown_14 : decode cX6_isKnown 14 = .ok (.ifCond .eq 7, 3) := by decide +kernel
theorem dX6_isKnown_17 : decode cX6_isKnown 17 = .ok (.iconst 1, 1) := by decide +kernel
theorem dX6_isKnown_18 : decode cX6_isKnown 18 = .ok (.goto 4, 3) := by decide +kernel
theorem dX6_isKnown_21 : decode cX6_isKnown 21 = .ok (.iconst 0, 1) := by decide +kernel
theorem dX6_isKnown_22 : decode cX6_isKnown 22 = .ok (.ireturn, 1) := by decide +kernel
set_option maxRecDepth 20000 in
theorem ggX6_waits_X6_isKnown : GoodIn wsX6_waits wsX6_isKnown := goodIn_r _ [8, 9, 10, 11, 12, 7, 13, 14, 15, 16, 17, 18, 19, 20, 21, 22, 23, 24, 25, 26, 27, 28, 29, 30, 31, 32, 33, 34, 35, 36] (by decide +kernel) (by decide +kernel)
set_option maxRecDepth 20000 in
theorem gX6_waits_X6_isKnown : GoodIn wsX6_waits (wsV RX6 118 RX6 yX6_isKnown wsX6_isKnown) := goodIn_app (goodIn_of _ (by decide +kernel)) ggX6_waits_X6_isKnown
theorem dX6_waits_0 : decode cX6_waits 0 = .ok (.aload_n 0, 1) := by decide +kernel
theorem dX6_waits_1 : decode cX6_waits 1 = .ok (.iconst 0, 1) := by decide +kernel
theorem dX6_waits_2 : decode cX6_waits 2 = .ok (.putfield 41, 3) := by decide +kernel
theorem dX6_waits_5 : decode cX6_waits 5 = .ok (.iconst 0, 1) := by decide +kernel
theorem dX6_waits_6 : decode cX6_waits 6 = .ok (.istore_n 1, 1) := by decide +kernel
theorem dX6_waits_7 : decode cX6_waits 7 = .ok (.iload_n 1, 1) := by decide +kernel
theorem dX6_waits_8 : decode cX6_waits 8 = .ok (.aload_n 0, 1) := by decide +kernel
theorem dX6_waits_9 : decode cX6_waits 9 = .ok (.getfield 111, 3) := by decide +kernel
theorem dX6_waits_12 : decode cX6_waits 12 = .ok (.if_icmp .ge 24, 3) := by decide +kernel
theorem dX6_waits_15 : decode cX6_waits 15 = .ok (.aload_n 0, 1) := by decide +kernel
theorem dX6_waits_16 : decode cX6_waits 16 = .ok (.aload_n 0, 1) := by decide +kernel
theorem dX6_waits_17 : decode cX6_waits 17 = .ok (.getfield 22, 3) := by decide +kernel
theorem dX6_waits_20 : decode cX6_waits 20 = .ok (.iload_n 1, 1) := by decide +kernel
theorem dX6_waits_21 : decode cX6_waits 21 = .ok (.iaload, 1) := by decide +kernel
theorem dX6_waits_22 : decode cX6_waits 22 = .ok (.invokevirtual 118, 3) := by decide +kernel
theorem dX6_waits_25 : decode cX6_waits 25 = .ok (.ifCond .ne 5, 3) := by decide +kernel
theorem dX6_waits_28 : decode cX6_waits 28 = .ok (.iload_n 1, 1) := by decide +kernel
theorem dX6_waits_29 : decode cX6_waits 29 = .ok (.ireturn, 1) := by decide +kernel
theorem dX6_waits_30 : decode cX6_waits 30 = .ok (.iinc 1 1, 3) := by decide +kernel
theorem dX6_waits_33 : decode cX6_waits 33 = .ok (.goto (-26), 3) := by decide +kernel
theorem dX6_waits_36 : decode cX6_waits 36 = .ok (.iconst (-1), 1) := by decide +kernel
theorem dX6_waits_37 : decode cX6_waits 37 = .ok (.ireturn, 1) := by decide +kernel
theorem dX6_isDrawn_0 : decode cX6_isDrawn 0 = .ok (.iconst 0, 1) := by decide +kernel
theorem dX6_isDrawn_1 : decode cX6_isDrawn 1 = .ok (.istore_n 2, 1) := by decide +kernel
theorem dX6_isDrawn_2 : decode cX6_isDrawn 2 = .ok (.iload_n 2, 1) := by decide +kernel
theorem dX6_isDrawn_3 : decode cX6_isDrawn 3 = .ok (.aload_n 0, 1) := by decide +kernel
theorem dX6_isDrawn_4 : decode cX6_isDrawn 4 = .ok (.getfield 111, 3) := by decide +kernel
theorem dX6_isDrawn_7 : decode cX6_isDrawn 7 = .ok (.if_icmp .ge 21, 3) := by decide +kernel
theorem dX6_isDrawn_10 : decode cX6_isDrawn 10 = .ok (.aload_n 0, 1) := by decide +kernel
theorem dX6_isDrawn_11 : decode cX6_isDrawn 11 = .ok (.getfield 22, 3) := by decide +kernel
theorem dX6_isDrawn_14 : decode cX6_isDrawn 14 = .ok (.iload_n 2, 1) := by decide +kernel
theorem dX6_isDrawn_15 : decode cX6_isDrawn 15 = .ok (.iaload, 1) := by decide +kernel
theorem dX6_isDrawn_16 : decode cX6_isDrawn 16 = .ok (.iload_n 1, 1) := by decide +kernel
theorem dX6_isDrawn_17 : decode cX6_isDrawn 17 = .ok (.if_icmp .ne 5, 3) := by decide +kernel
theorem dX6_isDrawn_20 : decode cX6_isDrawn 20 = .ok (.iconst 1, 1) := by decide +kernel
theorem dX6_isDrawn_21 : decode cX6_isDrawn 21 = .ok (.ireturn, 1) := by decide +kernel
theorem dX6_isDrawn_22 : decode cX6_isDrawn 22 = .ok (.iinc 2 1, 3) := by decide +kernel
theorem dX6_isDrawn_25 : decode cX6_isDrawn 25 = .ok (.goto (-23), 3) := by decide +kernel
theorem dX6_isDrawn_28 : decode cX6_isDrawn 28 = .ok (.iconst 0, 1) := by decide +kernel
theorem dX6_isDrawn_29 : decode cX6_isDrawn 29 = .ok (.ireturn, 1) := by decide +kernel
set_option maxRecDepth 20000 in
theorem ggX6_pulled_X6_right : GoodIn wsX6_pulled wsX6_right := goodIn_r _ [9, 1, 16, 17, 18, 19, 20, 21, 22, 23, 24, 25, 26, 27, 28, 29, 30, 31, 32, 33, 34, 35, 36, 37] (by decide +kernel) (by decide +kernel)
set_option maxRecDepth 20000 in
theorem gX6_pulled_X6_right : GoodIn wsX6_pulled (wsV RX6 62 RX6 yX6_right wsX6_right) := goodIn_app (goodIn_of _ (by decide +kernel)) ggX6_pulled_X6_right
set_option maxRecDepth 20000 in
theorem ggX6_pulled_X6_isDrawn : GoodIn wsX6_pulled wsX6_isDrawn := goodIn_r _ [13, 14, 15, 16, 17, 18, 19, 20, 21, 22, 23, 24, 25, 26, 27, 28, 29, 30, 31, 32, 33, 34, 35, 36, 37] (by decide +kernel) (by decide +kernel)
set_option maxRecDepth 20000 in
theorem gX6_pulled_X6_isDrawn : GoodIn wsX6_pulled (wsV RX6 121 RX6 yX6_isDrawn wsX6_isDrawn) := goodIn_app (goodIn_of _ (by decide +kernel)) ggX6_pulled_X6_isDrawn
theorem dX6_pulled_0 : decode cX6_pulled 0 = .ok (.aload_n 0, 1) := by decide +kernel
theorem dX6_pulled_1 : decode cX6_pulled 1 = .ok (.iconst 0, 1) := by decide +kernel
theorem dX6_pulled_2 : decode cX6_pulled 2 = .ok (.putfield 41, 3) := by decide +kernel
theorem dX6_pulled_5 : decode cX6_pulled 5 = .ok (.aload_n 0, 1) := by decide +kernel
theorem dX6_pulled_6 : decode cX6_pulled 6 = .ok (.iload_n 1, 1) := by decide +kernel
theorem dX6_pulled_7 : decode cX6_pulled 7 = .ok (.iconst (-1), 1) := by decide +kernel
theorem dX6_pulled_8 : decode cX6_pulled 8 = .ok (.if_icmp .lt 15, 3) := by decide +kernel
theorem dX6_pulled_11 : decode cX6_pulled 11 = .ok (.iload_n 1, 1) := by decide +kernel
theorem dX6_pulled_12 : decode cX6_pulled 12 = .ok (.aload_n 0, 1) := by decide +kernel
theorem dX6_pulled_13 : decode cX6_pulled 13 = .ok (.getfield 51, 3) := by decide +kernel
theorem dX6_pulled_16 : decode cX6_pulled 16 = .ok (.if_icmp .ge 7, 3) := by decide +kernel
theorem dX6_pulled_19 : decode cX6_pulled 19 = .ok (.iconst 1, 1) := by decide +kernel
theorem dX6_pulled_20 : decode cX6_pulled 20 = .ok (.goto 4, 3) := by decide +kernel
theorem dX6_pulled_23 : decode cX6_pulled 23 = .ok (.iconst 0, 1) := by decide +kernel
theorem dX6_pulled_24 : decode cX6_pulled 24 = .ok (.iconst 1, 1) := by decide +kernel
theorem dX6_pulled_25 : decode cX6_pulled 25 = .ok (.invokevirtual 62, 3) := by decide +kernel
theorem dX6_pulled_28 : decode cX6_pulled 28 = .ok (.ifCond .ne 5, 3) := by decide +kernel
theorem dX6_pulled_31 : decode cX6_pulled 31 = .ok (.iconst 0, 1) := by decide +kernel
theorem dX6_pulled_32 : decode cX6_pulled 32 = .ok (.ireturn, 1) := by decide +kernel
theorem dX6_pulled_33 : decode cX6_pulled 33 = .ok (.iconst 0, 1) := by decide +kernel
theorem dX6_pulled_34 : decode cX6_pulled 34 = .ok (.istore_n 2, 1) := by decide +kernel
theorem dX6_pulled_35 : decode cX6_pulled 35 = .ok (.iconst 0, 1) := by decide +kernel
theorem dX6_pulled_36 : decode cX6_pulled 36 = .ok (.istore_n 3, 1) := by decide +kernel
theorem dX6_pulled_37 : decode cX6_pulled 37 = .ok (.iload_n 3, 1) := by decide +kernel
theorem dX6_pulled_38 : decode cX6_pulled 38 = .ok (.aload_n 0, 1) := by decide +kernel
theorem dX6_pulled_39 : decode cX6_pulled 39 = .ok (.getfield 48, 3) := by decide +kernel
theorem dX6_pulled_42 : decode cX6_pulled 42 = .ok (.if_icmp .ge 35, 3) := by decide +kernel
theorem dX6_pulled_45 : decode cX6_pulled 45 = .ok (.iload_n 1, 1) := by decide +kernel
theorem dX6_pulled_46 : decode cX6_pulled 46 = .ok (.iconst (-1), 1) := by decide +kernel
theorem dX6_pulled_47 : decode cX6_pulled 47 = .ok (.if_icmp .eq 13, 3) := by decide +kernel
theorem dX6_pulled_50 : decode cX6_pulled 50 = .ok (.aload_n 0, 1) := by decide +kernel
theorem dX6_pulled_51 : decode cX6_pulled 51 = .ok (.getfield 16, 3) := by decide +kernel
theorem dX6_pulled_54 : decode cX6_pulled 54 = .ok (.iload_n 3, 1) := by decide +kernel
theorem dX6_pulled_55 : decode cX6_pulled 55 = .ok (.iaload, 1) := by decide +kernel
theorem dX6_pulled_56 : decode cX6_pulled 56 = .ok (.iload_n 1, 1) := by decide +kernel
theorem dX6_pulled_57 : decode cX6_pulled 57 = .ok (.if_icmp .ne 14, 3) := by decide +kernel
theorem dX6_pulled_60 : decode cX6_pulled 60 = .ok (.aload_n 0, 1) := by decide +kernel
theorem dX6_pulled_61 : decode cX6_pulled 61 = .ok (.iload_n 3, 1) := by decide +kernel
theorem dX6_pulled_62 : decode cX6_pulled 62 = .ok (.invokevirtual 121, 3) := by decide +kernel
theorem dX6_pulled_65 : decode cX6_pulled 65 = .ok (.ifCond .eq 6, 3) := by decide +kernel
theorem dX6_pulled_68 : decode cX6_pulled 68 = .ok (.iinc 2 1, 3) := by decide +kernel
theorem dX6_pulled_71 : decode cX6_pulled 71 = .ok (.iinc 3 1, 3) := by decide +kernel
theorem dX6_pulled_74 : decode cX6_pulled 74 = .ok (.goto (-37), 3) := by decide +kernel
theorem dX6_pulled_77 : decode cX6_pulled 77 = .ok (.iload_n 2, 1) := by decide +kernel
theorem dX6_pulled_78 : decode cX6_pulled 78 = .ok (.ireturn, 1) := by decide +kernel
set_option maxRecDepth 20000 in
theorem ggX6_read_X6_isPaper : GoodIn wsX6_read wsX6_isPaper := goodIn_r _ [9, 10, 11, 12, 13, 14, 8, 15, 25, 26, 27, 28, 29, 30, 31, 32, 33, 34, 35, 36, 37, 38, 39, 40, 41, 42, 43, 44, 45, 46] (by decide +kernel) (by decide +kernel)
set_option maxRecDepth 20000 in
theorem gX6_read_X6_isPaper : GoodIn wsX6_read (wsV RX6 70 RX6 yX6_isPaper wsX6_isPaper) := goodIn_app (goodIn_of _ (by decide +kernel)) ggX6_read_X6_isPaper
set_option maxRecDepth 20000 in
theorem ggX6_read_X6_right : GoodIn wsX6_read wsX6_right := goodIn_r _ [15, 10, 25, 26, 27, 28, 29, 30, 31, 32, 33, 34, 35, 36, 37, 38, 39, 40, 41, 42, 43, 44, 45, 46] (by decide +kernel) (by decide +kernel)
set_option maxRecDepth 20000 in
theorem gX6_read_X6_right : GoodIn wsX6_read (wsV RX6 62 RX6 yX6_right wsX6_right) := goodIn_app (goodIn_of _ (by decide +kernel)) ggX6_read_X6_right
set_option maxRecDepth 20000 in
theorem ggX6_read_X6_isWord : GoodIn wsX6_read wsX6_isWord := goodIn_r _ [19, 20, 21, 22, 23, 8, 24, 25, 26, 27, 28, 29, 30, 31, 32, 33, 34, 35, 36, 37, 38, 39, 40, 41, 42, 43, 44, 45, 46] (by decide +kernel) (by decide +kernel)
set_option maxRecDepth 20000 in
theorem gX6_read_X6_isWord : GoodIn wsX6_read (wsV RX6 66 RX6 yX6_isWord wsX6_isWord) := goodIn_app (goodIn_of _ (by decide +kernel)) ggX6_read_X6_isWord
theorem dX6_read_0 : decode cX6_read 0 = .ok (.aload_n 0, 1) := by decide +kernel
theorem dX6_read_1 : decode cX6_read 1 = .ok (.iload_n 1, 1) := by decide +kernel
theorem dX6_read_2 : decode cX6_read 2 = .ok (.invokevirtual 70, 3) := by decide +kernel
theorem dX6_read_5 : decode cX6_read 5 = .ok (.ifCond .eq 25, 3) := by decide +kernel
theorem dX6_read_8 : decode cX6_read 8 = .ok (.aload_n 0, 1) := by decide +kernel
theorem dX6_read_9 : decode cX6_read 9 = .ok (.iload_n 2, 1) := by decide +kernel
theorem dX6_read_10 : decode cX6_read 10 = .ok (.ifCond .lt 12, 3) := by decide +kernel
theorem dX6_read_13 : decode cX6_read 13 = .ok (.iload_n 2, 1) := by decide +kernel
theorem dX6_read_14 : decode cX6_read 14 = .ok (.iconst 2, 1) := by decide +kernel
theorem dX6_read_15 : decode cX6_read 15 = .ok (.if_icmp .gt 7, 3) := by decide +kernel
theorem dX6_read_18 : decode cX6_read 18 = .ok (.iconst 1, 1) := by decide +kernel
theorem dX6_read_19 : decode cX6_read 19 = .ok (.goto 4, 3) := by decide +kernel
theorem dX6_read_22 : decode cX6_read 22 = .ok (.iconst 0, 1) := by decide +kernel
theorem dX6_read_23 : decode cX6_read 23 = .ok (.iconst 1, 1) := by decide +kernel
theorem dX6_read_24 : decode cX6_read 24 = .ok (.invokevirtual 62, 3) := by decide +kernel
theorem dX6_read_27 : decode cX6_read 27 = .ok (.ifCond .ne 5, 3) := by decide +kernel
theorem dX6_read_30 : decode cX6_read 30 = .ok (.iconst 0, 1) := by decide +kernel
theorem dX6_read_31 : decode cX6_read 31 = .ok (.ireturn, 1) := by decide +kernel
theorem dX6_read_32 : decode cX6_read 32 = .ok (.aload_n 0, 1) := by decide +kernel
theorem dX6_read_33 : decode cX6_read 33 = .ok (.getfield 54, 3) := by decide +kernel
theorem dX6_read_36 : decode cX6_read 36 = .ok (.ifCond .eq 33, 3) := by decide +kernel
theorem dX6_read_39 : decode cX6_read 39 = .ok (.aload_n 0, 1) := by decide +kernel
theorem dX6_read_40 : decode cX6_read 40 = .ok (.getfield 25, 3) := by decide +kernel
theorem dX6_read_43 : decode cX6_read 43 = .ok (.iload_n 1, 1) := by decide +kernel
theorem dX6_read_44 : decode cX6_read 44 = .ok (.baload, 1) := by decide +kernel
theorem dX6_read_45 : decode cX6_read 45 = .ok (.ifCond .ne 24, 3) := by decide +kernel
theorem dX6_read_48 : decode cX6_read 48 = .ok (.aload_n 0, 1) := by decide +kernel
theorem dX6_read_49 : decode cX6_read 49 = .ok (.getfield 29, 3) := by decide +kernel
theorem dX6_read_52 : decode cX6_read 52 = .ok (.iconst 3, 1) := by decide +kernel
theorem dX6_read_53 : decode cX6_read 53 = .ok (.iload_n 1, 1) := by decide +kernel
theorem dX6_read_54 : decode cX6_read 54 = .ok (.imul, 1) := by decide +kernel
theorem dX6_read_55 : decode cX6_read 55 = .ok (.iload_n 2, 1) := by decide +kernel
theorem dX6_read_56 : decode cX6_read 56 = .ok (.iadd, 1) := by decide +kernel
theorem dX6_read_57 : decode cX6_read 57 = .ok (.baload, 1) := by decide +kernel
theorem dX6_read_58 : decode cX6_read 58 = .ok (.ifCond .ne 11, 3) := by decide +kernel
theorem dX6_read_61 : decode cX6_read 61 = .ok (.aload_n 0, 1) := by decide +kernel
theorem dX6_read_62 : decode cX6_read 62 = .ok (.iload_n 3, 1) := by decide +kernel
theorem dX6_read_63 : decode cX6_read 63 = .ok (.invokevirtual 66, 3) := by decide +kernel
theorem dX6_read_66 : decode cX6_read 66 = .ok (.ifCond .ne 5, 3) := by decide +kernel
theorem dX6_read_69 : decode cX6_read 69 = .ok (.iconst 0, 1) := by decide +kernel
theorem dX6_read_70 : decode cX6_read 70 = .ok (.ireturn, 1) := by decide +kernel
theorem dX6_read_71 : decode cX6_read 71 = .ok (.aload_n 0, 1) := by decide +kernel
theorem dX6_read_72 : decode cX6_read 72 = .ok (.getfield 29, 3) := by decide +kernel
theorem dX6_read_75 : decode cX6_read 75 = .ok (.iconst 3, 1) := by decide +kernel
theorem dX6_read_76 : decode cX6_read 76 = .ok (.iload_n 1, 1) := by decide +kernel
theorem dX6_read_77 : decode cX6_read 77 = .ok (.imul, 1) := by decide +kernel
theorem dX6_read_78 : decode cX6_read 78 = .ok (.iload_n 2, 1) := by decide +kernel
theorem dX6_read_79 : decode cX6_read 79 = .ok (.iadd, 1) := by decide +kernel
theorem dX6_read_80 : decode cX6_read 80 = .ok (.iconst 1, 1) := by decide +kernel
theorem dX6_read_81 : decode cX6_read 81 = .ok (.bastore, 1) := by decide +kernel
theorem dX6_read_82 : decode cX6_read 82 = .ok (.aload_n 0, 1) := by decide +kernel
theorem dX6_read_83 : decode cX6_read 83 = .ok (.getfield 32, 3) := by decide +kernel
theorem dX6_read_86 : decode cX6_read 86 = .ok (.iconst 3, 1) := by decide +kernel
theorem dX6_read_87 : decode cX6_read 87 = .ok (.iload_n 1, 1) := by decide +kernel
theorem dX6_read_88 : decode cX6_read 88 = .ok (.imul, 1) := by decide +kernel
theorem dX6_read_89 : decode cX6_read 89 = .ok (.iload_n 2, 1) := by decide +kernel
theorem dX6_read_90 : decode cX6_read 90 = .ok (.iadd, 1) := by decide +kernel
theorem dX6_read_91 : decode cX6_read 91 = .ok (.iload_n 3, 1) := by decide +kernel
theorem dX6_read_92 : decode cX6_read 92 = .ok (.iastore, 1) := by decide +kernel
theorem dX6_read_93 : decode cX6_read 93 = .ok (.iconst 1, 1) := by decide +kernel
theorem dX6_read_94 : decode cX6_read 94 = .ok (.ireturn, 1) := by decide +kernel
set_option maxRecDepth 20000 in
theorem ggX6_readingOf_X6_of : GoodIn wsX6_readingOf wsX6_of := goodIn_r _ [6] (by decide +kernel) (by decide +kernel)
set_option maxRecDepth 20000 in
theorem gX6_readingOf_X6_of : GoodIn wsX6_readingOf (va_wsS RX6 58 yX6_of wsX6_of) := goodIn_app (goodIn_of _ (by decide +kernel)) ggX6_readingOf_X6_of
theorem dX6_readingOf_0 : decode cX6_readingOf 0 = .ok (.iconst 0, 1) := by decide +kernel
theorem dX6_readingOf_1 : decode cX6_readingOf 1 = .ok (.istore_n 3, 1) := by decide +kernel
theorem dX6_readingOf_2 : decode cX6_readingOf 2 = .ok (.iconst 0, 1) := by decide +kernel
theorem dX6_readingOf_3 : decode cX6_readingOf 3 = .ok (.istore 4, 2) := by decide +kernel
theorem dX6_readingOf_5 : decode cX6_readingOf 5 = .ok (.iconst (-1), 1) := by decide +kernel
theorem dX6_readingOf_6 : decode cX6_readingOf 6 = .ok (.istore 5, 2) := by decide +kernel
theorem dX6_readingOf_8 : decode cX6_readingOf 8 = .ok (.iconst 0, 1) := by decide +kernel
theorem dX6_readingOf_9 : decode cX6_readingOf 9 = .ok (.istore 6, 2) := by decide +kernel
theorem dX6_readingOf_11 : decode cX6_readingOf 11 = .ok (.iload 6, 2) := by decide +kernel
theorem dX6_readingOf_13 : decode cX6_readingOf 13 = .ok (.iconst 3, 1) := by decide +kernel
theorem dX6_readingOf_14 : decode cX6_readingOf 14 = .ok (.if_icmp .ge 100, 3) := by decide +kernel
theorem dX6_readingOf_17 : decode cX6_readingOf 17 = .ok (.aload_n 0, 1) := by decide +kernel
theorem dX6_readingOf_18 : decode cX6_readingOf 18 = .ok (.getfield 29, 3) := by decide +kernel
theorem dX6_readingOf_21 : decode cX6_readingOf 21 = .ok (.iconst 3, 1) := by decide +kernel
theorem dX6_readingOf_22 : decode cX6_readingOf 22 = .ok (.iload_n 1, 1) := by decide +kernel
theorem dX6_readingOf_23 : decode cX6_readingOf 23 = .ok (.imul, 1) := by decide +kernel
theorem dX6_readingOf_24 : decode cX6_readingOf 24 = .ok (.iload 6, 2) := by decide +kernel
theorem dX6_readingOf_26 : decode cX6_readingOf 26 = .ok (.iadd, 1) := by decide +kernel
theorem dX6_readingOf_27 : decode cX6_readingOf 27 = .ok (.baload, 1) := by decide +kernel
theorem dX6_readingOf_28 : decode cX6_readingOf 28 = .ok (.ifCond .ne 6, 3) := by decide +kernel
theorem dX6_readingOf_31 : decode cX6_readingOf 31 = .ok (.goto 77, 3) := by decide +kernel
theorem dX6_readingOf_34 : decode cX6_readingOf 34 = .ok (.iinc 3 1, 3) := by decide +kernel
theorem dX6_readingOf_37 : decode cX6_readingOf 37 = .ok (.aload_n 0, 1) := by decide +kernel
theorem dX6_readingOf_38 : decode cX6_readingOf 38 = .ok (.getfield 32, 3) := by decide +kernel
theorem dX6_readingOf_41 : decode cX6_readingOf 41 = .ok (.iconst 3, 1) := by decide +kernel
theorem dX6_readingOf_42 : decode cX6_readingOf 42 = .ok (.iload_n 1, 1) := by decide +kernel
theorem dX6_readingOf_43 : decode cX6_readingOf 43 = .ok (.imul, 1) := by decide +kernel
theorem dX6_readingOf_44 : decode cX6_readingOf 44 = .ok (.iload 6, 2) := by decide +kernel
theorem dX6_readingOf_46 : decode cX6_readingOf 46 = .ok (.iadd, 1) := by decide +kernel
theorem dX6_readingOf_47 : decode cX6_readingOf 47 = .ok (.iaload, 1) := by decide +kernel
theorem dX6_readingOf_48 : decode cX6_readingOf 48 = .ok (.iload_n 2, 1) := by decide +kernel
theorem dX6_readingOf_49 : decode cX6_readingOf 49 = .ok (.invokestatic 58, 3) := by decide +kernel
theorem dX6_readingOf_52 : decode cX6_readingOf 52 = .ok (.istore 4, 2) := by decide +kernel
theorem dX6_readingOf_54 : decode cX6_readingOf 54 = .ok (.iconst 0, 1) := by decide +kernel
theorem dX6_readingOf_55 : decode cX6_readingOf 55 = .ok (.istore 7, 2) := by decide +kernel
theorem dX6_readingOf_57 : decode cX6_readingOf 57 = .ok (.iload 7, 2) := by decide +kernel
theorem dX6_readingOf_59 : decode cX6_readingOf 59 = .ok (.iload 6, 2) := by decide +kernel
theorem dX6_readingOf_61 : decode cX6_readingOf 61 = .ok (.if_icmp .ge 47, 3) := by decide +kernel
theorem dX6_readingOf_64 : decode cX6_readingOf 64 = .ok (.aload_n 0, 1) := by decide +kernel
theorem dX6_readingOf_65 : decode cX6_readingOf 65 = .ok (.getfield 29, 3) := by decide +kernel
theorem dX6_readingOf_68 : decode cX6_readingOf 68 = .ok (.iconst 3, 1) := by decide +kernel
theorem dX6_readingOf_69 : decode cX6_readingOf 69 = .ok (.iload_n 1, 1) := by decide +kernel
theorem dX6_readingOf_70 : decode cX6_readingOf 70 = .ok (.imul, 1) := by decide +kernel
theorem dX6_readingOf_71 : decode cX6_readingOf 71 = .ok (.iload 7, 2) := by decide +kernel
theorem dX6_readingOf_73 : decode cX6_readingOf 73 = .ok (.iadd, 1) := by decide +kernel
theorem dX6_readingOf_74 : decode cX6_readingOf 74 = .ok (.baload, 1) := by decide +kernel
theorem dX6_readingOf_75 : decode cX6_readingOf 75 = .ok (.ifCond .eq 27, 3) := by decide +kernel
theorem dX6_readingOf_78 : decode cX6_readingOf 78 = .ok (.aload_n 0, 1) := by decide +kernel
theorem dX6_readingOf_79 : decode cX6_readingOf 79 = .ok (.getfield 32, 3) := by decide +kernel
theorem dX6_readingOf_82 : decode cX6_readingOf 82 = .ok (.iconst 3, 1) := by decide +kernel
theorem dX6_readingOf_83 : decode cX6_readingOf 83 = .ok (.iload_n 1, 1) := by decide +kernel
theorem dX6_readingOf_84 : decode cX6_readingOf 84 = .ok (.imul, 1) := by decide +kernel
theorem dX6_readingOf_85 : decode cX6_readingOf 85 = .ok (.iload 7, 2) := by decide +kernel
theorem dX6_readingOf_87 : decode cX6_readingOf 87 = .ok (.iadd, 1) := by decide +kernel
theorem dX6_readingOf_88 : decode cX6_readingOf 88 = .ok (.iaload, 1) := by decide +kernel
theorem dX6_readingOf_89 : decode cX6_readingOf 89 = .ok (.iload_n 2, 1) := by decide +kernel
theorem dX6_readingOf_90 : decode cX6_readingOf 90 = .ok (.invokestatic 58, 3) := by decide +kernel
theorem dX6_readingOf_93 : decode cX6_readingOf 93 = .ok (.iload 4, 2) := by decide +kernel
theorem dX6_readingOf_95 : decode cX6_readingOf 95 = .ok (.if_icmp .ne 7, 3) := by decide +kernel
theorem dX6_readingOf_98 : decode cX6_readingOf 98 = .ok (.iload 4, 2) := by decide +kernel
theorem dX6_readingOf_100 : decode cX6_readingOf 100 = .ok (.istore 5, 2) := by decide +kernel
theorem dX6_readingOf_102 : decode cX6_readingOf 102 = .ok (.iinc 7 1, 3) := by decide +kernel
theorem dX6_readingOf_105 : decode cX6_readingOf 105 = .ok (.goto (-48), 3) := by decide +kernel
theorem dX6_readingOf_108 : decode cX6_readingOf 108 = .ok (.iinc 6 1, 3) := by decide +kernel
theorem dX6_readingOf_111 : decode cX6_readingOf 111 = .ok (.goto (-100), 3) := by decide +kernel
theorem dX6_readingOf_114 : decode cX6_readingOf 114 = .ok (.iload_n 3, 1) := by decide +kernel
theorem dX6_readingOf_115 : decode cX6_readingOf 115 = .ok (.iconst 1, 1) := by decide +kernel
theorem dX6_readingOf_116 : decode cX6_readingOf 116 = .ok (.if_icmp .ne 8, 3) := by decide +kernel
theorem dX6_readingOf_119 : decode cX6_readingOf 119 = .ok (.iload 4, 2) := by decide +kernel
theorem dX6_readingOf_121 : decode cX6_readingOf 121 = .ok (.goto 15, 3) := by decide +kernel
theorem dX6_readingOf_124 : decode cX6_readingOf 124 = .ok (.iload 5, 2) := by decide +kernel
theorem dX6_readingOf_126 : decode cX6_readingOf 126 = .ok (.iconst (-1), 1) := by decide +kernel
theorem dX6_readingOf_127 : decode cX6_readingOf 127 = .ok (.if_icmp .ne 7, 3) := by decide +kernel
theorem dX6_readingOf_130 : decode cX6_readingOf 130 = .ok (.iconst 0, 1) := by decide +kernel
theorem dX6_readingOf_131 : decode cX6_readingOf 131 = .ok (.goto 5, 3) := by decide +kernel
theorem dX6_readingOf_134 : decode cX6_readingOf 134 = .ok (.iload 5, 2) := by decide +kernel
theorem dX6_readingOf_136 : decode cX6_readingOf 136 = .ok (.ireturn, 1) := by decide +kernel
set_option maxRecDepth 20000 in
theorem ggX6_reading_X6_isPaper : GoodIn wsX6_reading wsX6_isPaper := goodIn_r _ [6, 7, 8, 9, 10, 11, 5, 12, 26, 27, 28, 29, 30, 31, 32, 33, 34, 35, 36, 37, 38, 39, 40, 41, 42, 43, 44, 45, 46, 47] (by decide +kernel) (by decide +kernel)
set_option maxRecDepth 20000 in
theorem gX6_reading_X6_isPaper : GoodIn wsX6_reading (wsV RX6 70 RX6 yX6_isPaper wsX6_isPaper) := goodIn_app (goodIn_of _ (by decide +kernel)) ggX6_reading_X6_isPaper
set_option maxRecDepth 20000 in
theorem ggX6_reading_X6_right : GoodIn wsX6_reading wsX6_right := goodIn_r _ [12, 7, 26, 27, 28, 29, 30, 31, 32, 33, 34, 35, 36, 37, 38, 39, 40, 41, 42, 43, 44, 45, 46, 47] (by decide +kernel) (by decide +kernel)
set_option maxRecDepth 20000 in
theorem gX6_reading_X6_right : GoodIn wsX6_reading (wsV RX6 62 RX6 yX6_right wsX6_right) := goodIn_app (goodIn_of _ (by decide +kernel)) ggX6_reading_X6_right
set_option maxRecDepth 20000 in
theorem ggX6_reading_X6_isRead : GoodIn wsX6_reading wsX6_isRead := goodIn_r _ [16, 17, 26, 27, 28, 29, 30, 31, 32, 33, 34, 35, 36, 37, 38, 39, 40, 41, 42, 43, 44, 45, 46, 47] (by decide +kernel) (by decide +kernel)
set_option maxRecDepth 20000 in
theorem gX6_reading_X6_isRead : GoodIn wsX6_reading (wsV RX6 73 RX6 yX6_isRead wsX6_isRead) := goodIn_app (goodIn_of _ (by decide +kernel)) ggX6_reading_X6_isRead
set_option maxRecDepth 20000 in
theorem ggX6_reading_X6_readingOf : GoodIn wsX6_reading wsX6_readingOf := goodIn_r _ [21, 17, 22, 23, 24, 5, 25, 26, 27, 28, 29, 30, 31, 32, 33, 34, 35, 36, 37, 38, 39, 40, 41, 42, 43, 44, 45, 46, 47] (by decide +kernel) (by decide +kernel)
set_option maxRecDepth 20000 in
theorem gX6_reading_X6_readingOf : GoodIn wsX6_reading (wsV RX6 80 RX6 yX6_readingOf wsX6_readingOf) := goodIn_app (goodIn_of _ (by decide +kernel)) ggX6_reading_X6_readingOf
theorem dX6_reading_0 : decode cX6_reading 0 = .ok (.aload_n 0, 1) := by decide +kernel
theorem dX6_reading_1 : decode cX6_reading 1 = .ok (.iload_n 1, 1) := by decide +kernel
theorem dX6_reading_2 : decode cX6_reading 2 = .ok (.invokevirtual 70, 3) := by decide +kernel
theorem dX6_reading_5 : decode cX6_reading 5 = .ok (.ifCond .eq 28, 3) := by decide +kernel
theorem dX6_reading_8 : decode cX6_reading 8 = .ok (.aload_n 0, 1) := by decide +kernel
theorem dX6_reading_9 : decode cX6_reading 9 = .ok (.iload_n 2, 1) := by decide +kernel
theorem dX6_reading_10 : decode cX6_reading 10 = .ok (.ifCond .lt 15, 3) := by decide +kernel
theorem dX6_reading_13 : decode cX6_reading 13 = .ok (.iload_n 2, 1) := by decide +kernel
theorem dX6_reading_14 : decode cX6_reading 14 = .ok (.aload_n 0, 1) := by decide +kernel
theorem dX6_reading_15 : decode cX6_reading 15 = .ok (.getfield 45, 3) := by decide +kernel
theorem dX6_reading_18 : decode cX6_reading 18 = .ok (.if_icmp .ge 7, 3) := by decide +kernel
theorem dX6_reading_21 : decode cX6_reading 21 = .ok (.iconst 1, 1) := by decide +kernel
theorem dX6_reading_22 : decode cX6_reading 22 = .ok (.goto 4, 3) := by decide +kernel
theorem dX6_reading_25 : decode cX6_reading 25 = .ok (.iconst 0, 1) := by decide +kernel
theorem dX6_reading_26 : decode cX6_reading 26 = .ok (.iconst 1, 1) := by decide +kernel
theorem dX6_reading_27 : decode cX6_reading 27 = .ok (.invokevirtual 62, 3) := by decide +kernel
theorem dX6_reading_30 : decode cX6_reading 30 = .ok (.ifCond .ne 5, 3) := by decide +kernel
theorem dX6_reading_33 : decode cX6_reading 33 = .ok (.iconst 0, 1) := by decide +kernel
theorem dX6_reading_34 : decode cX6_reading 34 = .ok (.ireturn, 1) := by decide +kernel
theorem dX6_reading_35 : decode cX6_reading 35 = .ok (.aload_n 0, 1) := by decide +kernel
theorem dX6_reading_36 : decode cX6_reading 36 = .ok (.iload_n 1, 1) := by decide +kernel
theorem dX6_reading_37 : decode cX6_reading 37 = .ok (.invokevirtual 73, 3) := by decide +kernel
theorem dX6_reading_40 : decode cX6_reading 40 = .ok (.ifCond .eq 12, 3) := by decide +kernel
theorem dX6_reading_43 : decode cX6_reading 43 = .ok (.aload_n 0, 1) := by decide +kernel
theorem dX6_reading_44 : decode cX6_reading 44 = .ok (.iload_n 1, 1) := by decide +kernel
theorem dX6_reading_45 : decode cX6_reading 45 = .ok (.iload_n 2, 1) := by decide +kernel
theorem dX6_reading_46 : decode cX6_reading 46 = .ok (.invokevirtual 80, 3) := by decide +kernel
theorem dX6_reading_49 : decode cX6_reading 49 = .ok (.goto 4, 3) := by decide +kernel
theorem dX6_reading_52 : decode cX6_reading 52 = .ok (.iconst (-1), 1) := by decide +kernel
theorem dX6_reading_53 : decode cX6_reading 53 = .ok (.ireturn, 1) := by decide +kernel
theorem dX6_gives_0 : decode cX6_gives 0 = .ok (.iload_n 0, 1) := by decide +kernel
theorem dX6_gives_1 : decode cX6_gives 1 = .ok (.iload_n 1, 1) := by decide +kernel
theorem dX6_gives_2 : decode cX6_gives 2 = .ok (.if_icmp .ne 7, 3) := by decide +kernel
theorem dX6_gives_5 : decode cX6_gives 5 = .ok (.iconst 1, 1) := by decide +kernel
theorem dX6_gives_6 : decode cX6_gives 6 = .ok (.goto 4, 3) := by decide +kernel
theorem dX6_gives_9 : decode cX6_gives 9 = .ok (.iconst 0, 1) := by decide +kernel
theorem dX6_gives_10 : decode cX6_gives 10 = .ok (.iload_n 0, 1) := by decide +kernel
theorem dX6_gives_11 : decode cX6_gives 11 = .ok (.iload_n 2, 1) := by decide +kernel
theorem dX6_gives_12 : decode cX6_gives 12 = .ok (.if_icmp .ne 7, 3) := by decide +kernel
theorem dX6_gives_15 : decode cX6_gives 15 = .ok (.iconst 1, 1) := by decide +kernel
theorem dX6_gives_16 : decode cX6_gives 16 = .ok (.goto 4, 3) := by decide +kernel
theorem dX6_gives_19 : decode cX6_gives 19 = .ok (.iconst 0, 1) := by decide +kernel
theorem dX6_gives_20 : decode cX6_gives 20 = .ok (.isub, 1) := by decide +kernel
theorem dX6_gives_21 : decode cX6_gives 21 = .ok (.ireturn, 1) := by decide +kernel
set_option maxRecDepth 20000 in
theorem ggX6_isTaken_X6_of : GoodIn wsX6_isTaken wsX6_of := goodIn_r _ [6] (by decide +kernel) (by decide +kernel)
set_option maxRecDepth 20000 in
theorem gX6_isTaken_X6_of : GoodIn wsX6_isTaken (va_wsS RX6 58 yX6_of wsX6_of) := goodIn_app (goodIn_of _ (by decide +kernel)) ggX6_isTaken_X6_of
set_option maxRecDepth 20000 in
theorem ggX6_isTaken_X6_readingOf : GoodIn wsX6_isTaken wsX6_readingOf := goodIn_r _ [10, 11, 12, 3, 4, 5, 6, 13, 14, 15, 16, 17, 18, 19, 20, 21, 22, 23, 24, 25, 26, 27, 28, 29, 30, 31, 32, 33, 34] (by decide +kernel) (by decide +kernel)
set_option maxRecDepth 20000 in
theorem gX6_isTaken_X6_readingOf : GoodIn wsX6_isTaken (wsV RX6 80 RX6 yX6_readingOf wsX6_readingOf) := goodIn_app (goodIn_of _ (by decide +kernel)) ggX6_isTaken_X6_readingOf
theorem dX6_isTaken_0 : decode cX6_isTaken 0 = .ok (.aload_n 0, 1) := by decide +kernel
theorem dX6_isTaken_1 : decode cX6_isTaken 1 = .ok (.getfield 19, 3) := by decide +kernel
theorem dX6_isTaken_4 : decode cX6_isTaken 4 = .ok (.iload_n 1, 1) := by decide +kernel
theorem dX6_isTaken_5 : decode cX6_isTaken 5 = .ok (.iaload, 1) := by decide +kernel
theorem dX6_isTaken_6 : decode cX6_isTaken 6 = .ok (.iload_n 2, 1) := by decide +kernel
theorem dX6_isTaken_7 : decode cX6_isTaken 7 = .ok (.invokestatic 58, 3) := by decide +kernel
theorem dX6_isTaken_10 : decode cX6_isTaken 10 = .ok (.bipush 7, 2) := by decide +kernel
theorem dX6_isTaken_12 : decode cX6_isTaken 12 = .ok (.if_icmp .ne 23, 3) := by decide +kernel
theorem dX6_isTaken_15 : decode cX6_isTaken 15 = .ok (.aload_n 0, 1) := by decide +kernel
theorem dX6_isTaken_16 : decode cX6_isTaken 16 = .ok (.getfield 25, 3) := by decide +kernel
theorem dX6_isTaken_19 : decode cX6_isTaken 19 = .ok (.iload_n 1, 1) := by decide +kernel
theorem dX6_isTaken_20 : decode cX6_isTaken 20 = .ok (.baload, 1) := by decide +kernel
theorem dX6_isTaken_21 : decode cX6_isTaken 21 = .ok (.ifCond .ne 18, 3) := by decide +kernel
theorem dX6_isTaken_24 : decode cX6_isTaken 24 = .ok (.aload_n 0, 1) := by decide +kernel
theorem dX6_isTaken_25 : decode cX6_isTaken 25 = .ok (.iload_n 1, 1) := by decide +kernel
theorem dX6_isTaken_26 : decode cX6_isTaken 26 = .ok (.iload_n 2, 1) := by decide +kernel
theorem dX6_isTaken_27 : decode cX6_isTaken 27 = .ok (.invokevirtual 80, 3) := by decide +kernel
theorem dX6_isTaken_30 : decode cX6_isTaken 30 = .ok (.bipush 7, 2) := by decide +kernel
theorem dX6_isTaken_32 : decode cX6_isTaken 32 = .ok (.if_icmp .eq 7, 3) := by decide +kernel
theorem dX6_isTaken_35 : decode cX6_isTaken 35 = .ok (.iconst 1, 1) := by decide +kernel
theorem dX6_isTaken_36 : decode cX6_isTaken 36 = .ok (.goto 4, 3) := by decide +kernel
theorem dX6_isTaken_39 : decode cX6_isTaken 39 = .ok (.iconst 0, 1) := by decide +kernel
theorem dX6_isTaken_40 : decode cX6_isTaken 40 = .ok (.ireturn, 1) := by decide +kernel
set_option maxRecDepth 20000 in
theorem ggX6_taints_X6_of : GoodIn wsX6_taints wsX6_of := goodIn_r _ [11] (by decide +kernel) (by decide +kernel)
set_option maxRecDepth 20000 in
theorem gX6_taints_X6_of : GoodIn wsX6_taints (va_wsS RX6 58 yX6_of wsX6_of) := goodIn_app (goodIn_of _ (by decide +kernel)) ggX6_taints_X6_of
set_option maxRecDepth 20000 in
theorem ggX6_taints_X6_gives : GoodIn wsX6_taints wsX6_gives := goodIn_r _ [14] (by decide +kernel) (by decide +kernel)
set_option maxRecDepth 20000 in
theorem gX6_taints_X6_gives : GoodIn wsX6_taints (va_wsS RX6 127 yX6_gives wsX6_gives) := goodIn_app (goodIn_of _ (by decide +kernel)) ggX6_taints_X6_gives
set_option maxRecDepth 20000 in
theorem ggX6_taints_X6_readingOf : GoodIn wsX6_taints wsX6_readingOf := goodIn_r _ [18, 19, 20, 8, 9, 10, 11, 21, 22, 23, 24, 25, 26, 27, 28, 29, 30, 31, 32, 33, 34, 35, 36, 37, 38, 39, 40, 41, 42] (by decide +kernel) (by decide +kernel)
set_option maxRecDepth 20000 in
theorem gX6_taints_X6_readingOf : GoodIn wsX6_taints (wsV RX6 80 RX6 yX6_readingOf wsX6_readingOf) := goodIn_app (goodIn_of _ (by decide +kernel)) ggX6_taints_X6_readingOf
theorem dX6_taints_0 : decode cX6_taints 0 = .ok (.aload_n 0, 1) := by decide +kernel
theorem dX6_taints_1 : decode cX6_taints 1 = .ok (.iconst 0, 1) := by decide +kernel
theorem dX6_taints_2 : decode cX6_taints 2 = .ok (.putfield 124, 3) := by decide +kernel
theorem dX6_taints_5 : decode cX6_taints 5 = .ok (.iconst 1, 1) := by decide +kernel
theorem dX6_taints_6 : decode cX6_taints 6 = .ok (.istore_n 3, 1) := by decide +kernel
theorem dX6_taints_7 : decode cX6_taints 7 = .ok (.iload_n 3, 1) := by decide +kernel
theorem dX6_taints_8 : decode cX6_taints 8 = .ok (.aload_n 0, 1) := by decide +kernel
theorem dX6_taints_9 : decode cX6_taints 9 = .ok (.getfield 7, 3) := by decide +kernel
theorem dX6_taints_12 : decode cX6_taints 12 = .ok (.iload_n 2, 1) := by decide +kernel
theorem dX6_taints_13 : decode cX6_taints 13 = .ok (.iaload, 1) := by decide +kernel
theorem dX6_taints_14 : decode cX6_taints 14 = .ok (.if_icmp .gt 151, 3) := by decide +kernel
theorem dX6_taints_17 : decode cX6_taints 17 = .ok (.iconst 1, 1) := by decide +kernel
theorem dX6_taints_18 : decode cX6_taints 18 = .ok (.istore 4, 2) := by decide +kernel
theorem dX6_taints_20 : decode cX6_taints 20 = .ok (.iload 4, 2) := by decide +kernel
theorem dX6_taints_22 : decode cX6_taints 22 = .ok (.aload_n 0, 1) := by decide +kernel
theorem dX6_taints_23 : decode cX6_taints 23 = .ok (.getfield 7, 3) := by decide +kernel
theorem dX6_taints_26 : decode cX6_taints 26 = .ok (.iload_n 2, 1) := by decide +kernel
theorem dX6_taints_27 : decode cX6_taints 27 = .ok (.iaload, 1) := by decide +kernel
theorem dX6_taints_28 : decode cX6_taints 28 = .ok (.if_icmp .gt 131, 3) := by decide +kernel
theorem dX6_taints_31 : decode cX6_taints 31 = .ok (.aload_n 0, 1) := by decide +kernel
theorem dX6_taints_32 : decode cX6_taints 32 = .ok (.getfield 38, 3) := by decide +kernel
theorem dX6_taints_35 : decode cX6_taints 35 = .ok (.iload_n 3, 1) := by decide +kernel
theorem dX6_taints_36 : decode cX6_taints 36 = .ok (.baload, 1) := by decide +kernel
theorem dX6_taints_37 : decode cX6_taints 37 = .ok (.ifCond .eq 116, 3) := by decide +kernel
theorem dX6_taints_40 : decode cX6_taints 40 = .ok (.aload_n 0, 1) := by decide +kernel
theorem dX6_taints_41 : decode cX6_taints 41 = .ok (.getfield 38, 3) := by decide +kernel
theorem dX6_taints_44 : decode cX6_taints 44 = .ok (.iload 4, 2) := by decide +kernel
theorem dX6_taints_46 : decode cX6_taints 46 = .ok (.baload, 1) := by decide +kernel
theorem dX6_taints_47 : decode cX6_taints 47 = .ok (.ifCond .eq 6, 3) := by decide +kernel
theorem dX6_taints_50 : decode cX6_taints 50 = .ok (.goto 103, 3) := by decide +kernel
theorem dX6_taints_53 : decode cX6_taints 53 = .ok (.aload_n 0, 1) := by decide +kernel
theorem dX6_taints_54 : decode cX6_taints 54 = .ok (.getfield 19, 3) := by decide +kernel
theorem dX6_taints_57 : decode cX6_taints 57 = .ok (.iload_n 1, 1) := by decide +kernel
theorem dX6_taints_58 : decode cX6_taints 58 = .ok (.iaload, 1) := by decide +kernel
theorem dX6_taints_59 : decode cX6_taints 59 = .ok (.iload_n 2, 1) := by decide +kernel
theorem dX6_taints_60 : decode cX6_taints 60 = .ok (.invokestatic 58, 3) := by decide +kernel
theorem dX6_taints_63 : decode cX6_taints 63 = .ok (.iload_n 3, 1) := by decide +kernel
theorem dX6_taints_64 : decode cX6_taints 64 = .ok (.iload 4, 2) := by decide +kernel
theorem dX6_taints_66 : decode cX6_taints 66 = .ok (.invokestatic 127, 3) := by decide +kernel
theorem dX6_taints_69 : decode cX6_taints 69 = .ok (.aload_n 0, 1) := by decide +kernel
theorem dX6_taints_70 : decode cX6_taints 70 = .ok (.getfield 25, 3) := by decide +kernel
theorem dX6_taints_73 : decode cX6_taints 73 = .ok (.iload_n 1, 1) := by decide +kernel
theorem dX6_taints_74 : decode cX6_taints 74 = .ok (.baload, 1) := by decide +kernel
theorem dX6_taints_75 : decode cX6_taints 75 = .ok (.ifCond .eq 7, 3) := by decide +kernel
theorem dX6_taints_78 : decode cX6_taints 78 = .ok (.iconst 1, 1) := by decide +kernel
theorem dX6_taints_79 : decode cX6_taints 79 = .ok (.goto 16, 3) := by decide +kernel
theorem dX6_taints_82 : decode cX6_taints 82 = .ok (.aload_n 0, 1) := by decide +kernel
theorem dX6_taints_83 : decode cX6_taints 83 = .ok (.iload_n 1, 1) := by decide +kernel
theorem dX6_taints_84 : decode cX6_taints 84 = .ok (.iload_n 2, 1) := by decide +kernel
theorem dX6_taints_85 : decode cX6_taints 85 = .ok (.invokevirtual 80, 3) := by decide +kernel
theorem dX6_taints_88 : decode cX6_taints 88 = .ok (.iload_n 3, 1) := by decide +kernel
theorem dX6_taints_89 : decode cX6_taints 89 = .ok (.iload 4, 2) := by decide +kernel
theorem dX6_taints_91 : decode cX6_taints 91 = .ok (.invokestatic 127, 3) := by decide +kernel
theorem dX6_taints_94 : decode cX6_taints 94 = .ok (.ineg, 1) := by decide +kernel
theorem dX6_taints_95 : decode cX6_taints 95 = .ok (.iadd, 1) := by decide +kernel
theorem dX6_taints_96 : decode cX6_taints 96 = .ok (.istore 5, 2) := by decide +kernel
theorem dX6_taints_98 : decode cX6_taints 98 = .ok (.aload_n 0, 1) := by decide +kernel
theorem dX6_taints_99 : decode cX6_taints 99 = .ok (.getfield 35, 3) := by decide +kernel
theorem dX6_taints_102 : decode cX6_taints 102 = .ok (.iload_n 3, 1) := by decide +kernel
theorem dX6_taints_103 : decode cX6_taints 103 = .ok (.iaload, 1) := by decide +kernel
theorem dX6_taints_104 : decode cX6_taints 104 = .ok (.aload_n 0, 1) := by decide +kernel
theorem dX6_taints_105 : decode cX6_taints 105 = .ok (.getfield 35, 3) := by decide +kernel
theorem dX6_taints_108 : decode cX6_taints 108 = .ok (.iload 4, 2) := by decide +kernel
theorem dX6_taints_110 : decode cX6_taints 110 = .ok (.iaload, 1) := by decide +kernel
theorem dX6_taints_111 : decode cX6_taints 111 = .ok (.isub, 1) := by decide +kernel
theorem dX6_taints_112 : decode cX6_taints 112 = .ok (.istore 6, 2) := by decide +kernel
theorem dX6_taints_114 : decode cX6_taints 114 = .ok (.aload_n 0, 1) := by decide +kernel
theorem dX6_taints_115 : decode cX6_taints 115 = .ok (.getfield 124, 3) := by decide +kernel
theorem dX6_taints_118 : decode cX6_taints 118 = .ok (.ifCond .le 23, 3) := by decide +kernel
theorem dX6_taints_121 : decode cX6_taints 121 = .ok (.iload 5, 2) := by decide +kernel
theorem dX6_taints_123 : decode cX6_taints 123 = .ok (.aload_n 0, 1) := by decide +kernel
theorem dX6_taints_124 : decode cX6_taints 124 = .ok (.getfield 124, 3) := by decide +kernel
theorem dX6_taints_127 : decode cX6_taints 127 = .ok (.imul, 1) := by decide +kernel
theorem dX6_taints_128 : decode cX6_taints 128 = .ok (.aload_n 0, 1) := by decide +kernel
theorem dX6_taints_129 : decode cX6_taints 129 = .ok (.getfield 130, 3) := by decide +kernel
theorem dX6_taints_132 : decode cX6_taints 132 = .ok (.iload 6, 2) := by decide +kernel
theorem dX6_taints_134 : decode cX6_taints 134 = .ok (.imul, 1) := by decide +kernel
theorem dX6_taints_135 : decode cX6_taints 135 = .ok (.if_icmp .gt 6, 3) := by decide +kernel
theorem dX6_taints_138 : decode cX6_taints 138 = .ok (.goto 15, 3) := by decide +kernel
theorem dX6_taints_141 : decode cX6_taints 141 = .ok (.aload_n 0, 1) := by decide +kernel
theorem dX6_taints_142 : decode cX6_taints 142 = .ok (.iload 5, 2) := by decide +kernel
theorem dX6_taints_144 : decode cX6_taints 144 = .ok (.putfield 130, 3) := by decide +kernel
theorem dX6_taints_147 : decode cX6_taints 147 = .ok (.aload_n 0, 1) := by decide +kernel
theorem dX6_taints_148 : decode cX6_taints 148 = .ok (.iload 6, 2) := by decide +kernel
theorem dX6_taints_150 : decode cX6_taints 150 = .ok (.putfield 124, 3) := by decide +kernel
theorem dX6_taints_153 : decode cX6_taints 153 = .ok (.iinc 4 1, 3) := by decide +kernel
theorem dX6_taints_156 : decode cX6_taints 156 = .ok (.goto (-136), 3) := by decide +kernel
theorem dX6_taints_159 : decode cX6_taints 159 = .ok (.iinc 3 1, 3) := by decide +kernel
theorem dX6_taints_162 : decode cX6_taints 162 = .ok (.goto (-155), 3) := by decide +kernel
theorem dX6_taints_165 : decode cX6_taints 165 = .ok (.return_, 1) := by decide +kernel
theorem dX6_divides_0 : decode cX6_divides 0 = .ok (.lload_n 1, 1) := by decide +kernel
theorem dX6_divides_1 : decode cX6_divides 1 = .ok (.lload_n 3, 1) := by decide +kernel
theorem dX6_divides_2 : decode cX6_divides 2 = .ok (.ladd, 1) := by decide +kernel
theorem dX6_divides_3 : decode cX6_divides 3 = .ok (.lconst 1, 1) := by decide +kernel
theorem dX6_divides_4 : decode cX6_divides 4 = .ok (.lsub, 1) := by decide +kernel
theorem dX6_divides_5 : decode cX6_divides 5 = .ok (.lload_n 3, 1) := by decide +kernel
theorem dX6_divides_6 : decode cX6_divides 6 = .ok (.ldiv, 1) := by decide +kernel
theorem dX6_divides_7 : decode cX6_divides 7 = .ok (.lreturn, 1) := by decide +kernel
set_option maxRecDepth 20000 in
theorem ggX6_riskOf_X6_knows : GoodIn wsX6_riskOf wsX6_knows := goodIn_r _ [16, 17, 8, 18, 19, 20, 21, 3, 22, 23, 24, 15, 25, 26, 27, 28, 29, 30, 31, 32, 33, 34, 35, 36, 37, 38, 39, 40, 41, 42, 43, 44, 45, 46, 47, 48, 49, 69, 70, 71, 72, 73, 74, 75, 76, 77, 78, 79, 80, 81, 82, 83, 84, 85, 86, 87, 88, 89, 90] (by decide +kernel) (by decide +kernel)
set_option maxRecDepth 20000 in
theorem gX6_riskOf_X6_knows : GoodIn wsX6_riskOf (wsV RX6 107 RX6 yX6_knows wsX6_knows) := goodIn_app (goodIn_of _ (by decide +kernel)) ggX6_riskOf_X6_knows
set_option maxRecDepth 20000 in
theorem ggX6_riskOf_X6_isKnown : GoodIn wsX6_riskOf wsX6_isKnown := goodIn_r _ [53, 30, 32, 33, 34, 15, 35, 36, 69, 70, 71, 72, 73, 74, 75, 76, 77, 78, 79, 80, 81, 82, 83, 84, 85, 86, 87, 88, 89, 90] (by decide +kernel) (by decide +kernel)
set_option maxRecDepth 20000 in
theorem gX6_riskOf_X6_isKnown : GoodIn wsX6_riskOf (wsV RX6 118 RX6 yX6_isKnown wsX6_isKnown) := goodIn_app (goodIn_of _ (by decide +kernel)) ggX6_riskOf_X6_isKnown
set_option maxRecDepth 20000 in
theorem ggX6_riskOf_X6_isTaken : GoodIn wsX6_riskOf wsX6_isTaken := goodIn_r _ [57, 31, 30, 37, 38, 15, 39, 40, 41, 42, 43, 36, 44, 69, 70, 71, 72, 73, 74, 75, 76, 77, 78, 79, 80, 81, 82, 83, 84, 85, 86, 87, 88, 89, 90] (by decide +kernel) (by decide +kernel)
set_option maxRecDepth 20000 in
theorem gX6_riskOf_X6_isTaken : GoodIn wsX6_riskOf (wsV RX6 138 RX6 yX6_isTaken wsX6_isTaken) := goodIn_app (goodIn_of _ (by decide +kernel)) ggX6_riskOf_X6_isTaken
set_option maxRecDepth 20000 in
theorem ggX6_riskOf_X6_taints : GoodIn wsX6_riskOf wsX6_taints := goodIn_r _ [61, 10, 18, 20, 31, 30, 19, 11, 37, 38, 15, 39, 62, 63, 64, 40, 41, 42, 43, 36, 44, 69, 70, 71, 72, 73, 74, 75, 76, 77, 78, 79, 80, 81, 82, 83, 84, 85, 86, 87, 88, 89, 90] (by decide +kernel) (by decide +kernel)
set_option maxRecDepth 20000 in
theorem gX6_riskOf_X6_taints : GoodIn wsX6_riskOf (wsV RX6 142 RX6 yX6_taints wsX6_taints) := goodIn_app (goodIn_of _ (by decide +kernel)) ggX6_riskOf_X6_taints
set_option maxRecDepth 20000 in
theorem ggX6_riskOf_X6_divides : GoodIn wsX6_riskOf wsX6_divides := goodIn_r _ [68] (by decide +kernel) (by decide +kernel)
set_option maxRecDepth 20000 in
theorem gX6_riskOf_X6_divides : GoodIn wsX6_riskOf (wsV RX6 150 RX6 yX6_divides wsX6_divides) := goodIn_app (goodIn_of _ (by decide +kernel)) ggX6_riskOf_X6_divides
theorem dX6_riskOf_0 : decode cX6_riskOf 0 = .ok (.aload_n 0, 1) := by decide +kernel
theorem dX6_riskOf_1 : decode cX6_riskOf 1 = .ok (.iconst 0, 1) := by decide +kernel
theorem dX6_riskOf_2 : decode cX6_riskOf 2 = .ok (.putfield 133, 3) := by decide +kernel
theorem dX6_riskOf_5 : decode cX6_riskOf 5 = .ok (.aload_n 0, 1) := by decide +kernel
theorem dX6_riskOf_6 : decode cX6_riskOf 6 = .ok (.iload_n 1, 1) := by decide +kernel
theorem dX6_riskOf_7 : decode cX6_riskOf 7 = .ok (.invokevirtual 107, 3) := by decide +kernel
theorem dX6_riskOf_10 : decode cX6_riskOf 10 = .ok (.aload_n 0, 1) := by decide +kernel
theorem dX6_riskOf_11 : decode cX6_riskOf 11 = .ok (.getfield 54, 3) := by decide +kernel
theorem dX6_riskOf_14 : decode cX6_riskOf 14 = .ok (.ifCond .eq 10, 3) := by decide +kernel
theorem dX6_riskOf_17 : decode cX6_riskOf 17 = .ok (.aload_n 0, 1) := by decide +kernel
theorem dX6_riskOf_18 : decode cX6_riskOf 18 = .ok (.getfield 104, 3) := by decide +kernel
theorem dX6_riskOf_21 : decode cX6_riskOf 21 = .ok (.ifCond .ne 5, 3) := by decide +kernel
theorem dX6_riskOf_24 : decode cX6_riskOf 24 = .ok (.iconst (-1), 1) := by decide +kernel
theorem dX6_riskOf_25 : decode cX6_riskOf 25 = .ok (.ireturn, 1) := by decide +kernel
theorem dX6_riskOf_26 : decode cX6_riskOf 26 = .ok (.ldc2_w 136, 3) := by decide +kernel
theorem dX6_riskOf_29 : decode cX6_riskOf 29 = .ok (.lstore_n 2, 1) := by decide +kernel
theorem dX6_riskOf_30 : decode cX6_riskOf 30 = .ok (.iconst 0, 1) := by decide +kernel
theorem dX6_riskOf_31 : decode cX6_riskOf 31 = .ok (.istore 4, 2) := by decide +kernel
theorem dX6_riskOf_33 : decode cX6_riskOf 33 = .ok (.iload 4, 2) := by decide +kernel
theorem dX6_riskOf_35 : decode cX6_riskOf 35 = .ok (.aload_n 0, 1) := by decide +kernel
theorem dX6_riskOf_36 : decode cX6_riskOf 36 = .ok (.getfield 111, 3) := by decide +kernel
theorem dX6_riskOf_39 : decode cX6_riskOf 39 = .ok (.if_icmp .ge 153, 3) := by decide +kernel
theorem dX6_riskOf_42 : decode cX6_riskOf 42 = .ok (.aload_n 0, 1) := by decide +kernel
theorem dX6_riskOf_43 : decode cX6_riskOf 43 = .ok (.aload_n 0, 1) := by decide +kernel
theorem dX6_riskOf_44 : decode cX6_riskOf 44 = .ok (.getfield 22, 3) := by decide +kernel
theorem dX6_riskOf_47 : decode cX6_riskOf 47 = .ok (.iload 4, 2) := by decide +kernel
theorem dX6_riskOf_49 : decode cX6_riskOf 49 = .ok (.iaload, 1) := by decide +kernel
theorem dX6_riskOf_50 : decode cX6_riskOf 50 = .ok (.invokevirtual 118, 3) := by decide +kernel
theorem dX6_riskOf_53 : decode cX6_riskOf 53 = .ok (.ifCond .eq 139, 3) := by decide +kernel
theorem dX6_riskOf_56 : decode cX6_riskOf 56 = .ok (.aload_n 0, 1) := by decide +kernel
theorem dX6_riskOf_57 : decode cX6_riskOf 57 = .ok (.aload_n 0, 1) := by decide +kernel
theorem dX6_riskOf_58 : decode cX6_riskOf 58 = .ok (.getfield 22, 3) := by decide +kernel
theorem dX6_riskOf_61 : decode cX6_riskOf 61 = .ok (.iload 4, 2) := by decide +kernel
theorem dX6_riskOf_63 : decode cX6_riskOf 63 = .ok (.iaload, 1) := by decide +kernel
theorem dX6_riskOf_64 : decode cX6_riskOf 64 = .ok (.iload_n 1, 1) := by decide +kernel
theorem dX6_riskOf_65 : decode cX6_riskOf 65 = .ok (.invokevirtual 138, 3) := by decide +kernel
theorem dX6_riskOf_68 : decode cX6_riskOf 68 = .ok (.ifCond .ne 6, 3) := by decide +kernel
theorem dX6_riskOf_71 : decode cX6_riskOf 71 = .ok (.goto 115, 3) := by decide +kernel
theorem dX6_riskOf_74 : decode cX6_riskOf 74 = .ok (.aload_n 0, 1) := by decide +kernel
theorem dX6_riskOf_75 : decode cX6_riskOf 75 = .ok (.dup, 1) := by decide +kernel
theorem dX6_riskOf_76 : decode cX6_riskOf 76 = .ok (.getfield 133, 3) := by decide +kernel
theorem dX6_riskOf_79 : decode cX6_riskOf 79 = .ok (.iconst 1, 1) := by decide +kernel
theorem dX6_riskOf_80 : decode cX6_riskOf 80 = .ok (.iadd, 1) := by decide +kernel
theorem dX6_riskOf_81 : decode cX6_riskOf 81 = .ok (.putfield 133, 3) := by decide +kernel
theorem dX6_riskOf_84 : decode cX6_riskOf 84 = .ok (.aload_n 0, 1) := by decide +kernel
theorem dX6_riskOf_85 : decode cX6_riskOf 85 = .ok (.aload_n 0, 1) := by decide +kernel
theorem dX6_riskOf_86 : decode cX6_riskOf 86 = .ok (.getfield 22, 3) := by decide +kernel
theorem dX6_riskOf_89 : decode cX6_riskOf 89 = .ok (.iload 4, 2) := by decide +kernel
theorem dX6_riskOf_91 : decode cX6_riskOf 91 = .ok (.iaload, 1) := by decide +kernel
theorem dX6_riskOf_92 : decode cX6_riskOf 92 = .ok (.iload_n 1, 1) := by decide +kernel
theorem dX6_riskOf_93 : decode cX6_riskOf 93 = .ok (.invokevirtual 142, 3) := by decide +kernel
theorem dX6_riskOf_96 : decode cX6_riskOf 96 = .ok (.aload_n 0, 1) := by decide +kernel
theorem dX6_riskOf_97 : decode cX6_riskOf 97 = .ok (.lload_n 2, 1) := by decide +kernel
theorem dX6_riskOf_98 : decode cX6_riskOf 98 = .ok (.ldc2_w 146, 3) := by decide +kernel
theorem dX6_riskOf_101 : decode cX6_riskOf 101 = .ok (.aload_n 0, 1) := by decide +kernel
theorem dX6_riskOf_102 : decode cX6_riskOf 102 = .ok (.getfield 100, 3) := by decide +kernel
theorem dX6_riskOf_105 : decode cX6_riskOf 105 = .ok (.i2l, 1) := by decide +kernel
theorem dX6_riskOf_106 : decode cX6_riskOf 106 = .ok (.lmul, 1) := by decide +kernel
theorem dX6_riskOf_107 : decode cX6_riskOf 107 = .ok (.ldc2_w 148, 3) := by decide +kernel
theorem dX6_riskOf_110 : decode cX6_riskOf 110 = .ok (.aload_n 0, 1) := by decide +kernel
theorem dX6_riskOf_111 : decode cX6_riskOf 111 = .ok (.getfield 104, 3) := by decide +kernel
theorem dX6_riskOf_114 : decode cX6_riskOf 114 = .ok (.i2l, 1) := by decide +kernel
theorem dX6_riskOf_115 : decode cX6_riskOf 115 = .ok (.lmul, 1) := by decide +kernel
theorem dX6_riskOf_116 : decode cX6_riskOf 116 = .ok (.lsub, 1) := by decide +kernel
theorem dX6_riskOf_117 : decode cX6_riskOf 117 = .ok (.lmul, 1) := by decide +kernel
theorem dX6_riskOf_118 : decode cX6_riskOf 118 = .ok (.ldc2_w 146, 3) := by decide +kernel
theorem dX6_riskOf_121 : decode cX6_riskOf 121 = .ok (.lmul, 1) := by decide +kernel
theorem dX6_riskOf_122 : decode cX6_riskOf 122 = .ok (.aload_n 0, 1) := by decide +kernel
theorem dX6_riskOf_123 : decode cX6_riskOf 123 = .ok (.getfield 124, 3) := by decide +kernel
theorem dX6_riskOf_126 : decode cX6_riskOf 126 = .ok (.i2l, 1) := by decide +kernel
theorem dX6_riskOf_127 : decode cX6_riskOf 127 = .ok (.lmul, 1) := by decide +kernel
theorem dX6_riskOf_128 : decode cX6_riskOf 128 = .ok (.ldc2_w 146, 3) := by decide +kernel
theorem dX6_riskOf_131 : decode cX6_riskOf 131 = .ok (.aload_n 0, 1) := by decide +kernel
theorem dX6_riskOf_132 : decode cX6_riskOf 132 = .ok (.getfield 100, 3) := by decide +kernel
theorem dX6_riskOf_135 : decode cX6_riskOf 135 = .ok (.i2l, 1) := by decide +kernel
theorem dX6_riskOf_136 : decode cX6_riskOf 136 = .ok (.lmul, 1) := by decide +kernel
theorem dX6_riskOf_137 : decode cX6_riskOf 137 = .ok (.ldc2_w 146, 3) := by decide +kernel
theorem dX6_riskOf_140 : decode cX6_riskOf 140 = .ok (.aload_n 0, 1) := by decide +kernel
theorem dX6_riskOf_141 : decode cX6_riskOf 141 = .ok (.getfield 124, 3) := by decide +kernel
theorem dX6_riskOf_144 : decode cX6_riskOf 144 = .ok (.i2l, 1) := by decide +kernel
theorem dX6_riskOf_145 : decode cX6_riskOf 145 = .ok (.lmul, 1) := by decide +kernel
theorem dX6_riskOf_146 : decode cX6_riskOf 146 = .ok (.ldc2_w 148, 3) := by decide +kernel
theorem dX6_riskOf_149 : decode cX6_riskOf 149 = .ok (.aload_n 0, 1) := by decide +kernel
theorem dX6_riskOf_150 : decode cX6_riskOf 150 = .ok (.getfield 130, 3) := by decide +kernel
theorem dX6_riskOf_153 : decode cX6_riskOf 153 = .ok (.i2l, 1) := by decide +kernel
theorem dX6_riskOf_154 : decode cX6_riskOf 154 = .ok (.lmul, 1) := by decide +kernel
theorem dX6_riskOf_155 : decode cX6_riskOf 155 = .ok (.aload_n 0, 1) := by decide +kernel
theorem dX6_riskOf_156 : decode cX6_riskOf 156 = .ok (.getfield 104, 3) := by decide +kernel
theorem dX6_riskOf_159 : decode cX6_riskOf 159 = .ok (.i2l, 1) := by decide +kernel
theorem dX6_riskOf_160 : decode cX6_riskOf 160 = .ok (.lmul, 1) := by decide +kernel
theorem dX6_riskOf_161 : decode cX6_riskOf 161 = .ok (.lsub, 1) := by decide +kernel
theorem dX6_riskOf_162 : decode cX6_riskOf 162 = .ok (.lmul, 1) := by decide +kernel
theorem dX6_riskOf_163 : decode cX6_riskOf 163 = .ok (.invokevirtual 150, 3) := by decide +kernel
theorem dX6_riskOf_166 : decode cX6_riskOf 166 = .ok (.lstore 5, 2) := by decide +kernel
theorem dX6_riskOf_168 : decode cX6_riskOf 168 = .ok (.lload 5, 2) := by decide +kernel
theorem dX6_riskOf_170 : decode cX6_riskOf 170 = .ok (.ldc2_w 136, 3) := by decide +kernel
theorem dX6_riskOf_173 : decode cX6_riskOf 173 = .ok (.lcmp, 1) := by decide +kernel
theorem dX6_riskOf_174 : decode cX6_riskOf 174 = .ok (.ifCond .le 9, 3) := by decide +kernel
theorem dX6_riskOf_177 : decode cX6_riskOf 177 = .ok (.ldc2_w 136, 3) := by decide +kernel
theorem dX6_riskOf_180 : decode cX6_riskOf 180 = .ok (.goto 5, 3) := by decide +kernel
theorem dX6_riskOf_183 : decode cX6_riskOf 183 = .ok (.lload 5, 2) := by decide +kernel
theorem dX6_riskOf_185 : decode cX6_riskOf 185 = .ok (.lstore_n 2, 1) := by decide +kernel
theorem dX6_riskOf_186 : decode cX6_riskOf 186 = .ok (.iinc 4 1, 3) := by decide +kernel
theorem dX6_riskOf_189 : decode cX6_riskOf 189 = .ok (.goto (-156), 3) := by decide +kernel
theorem dX6_riskOf_192 : decode cX6_riskOf 192 = .ok (.lload_n 2, 1) := by decide +kernel
theorem dX6_riskOf_193 : decode cX6_riskOf 193 = .ok (.l2i, 1) := by decide +kernel
theorem dX6_riskOf_194 : decode cX6_riskOf 194 = .ok (.ireturn, 1) := by decide +kernel
set_option maxRecDepth 20000 in
theorem ggX6_risk_X6_isRace : GoodIn wsX6_risk wsX6_isRace := goodIn_r _ [5, 6, 7, 8, 9, 10, 4, 11, 83, 84, 85, 86, 87, 88, 89, 90, 91, 92, 93, 94, 95, 96, 97, 98, 99, 100, 101, 102, 103, 104] (by decide +kernel) (by decide +kernel)
set_option maxRecDepth 20000 in
theorem gX6_risk_X6_isRace : GoodIn wsX6_risk (wsV RX6 90 RX6 yX6_isRace wsX6_isRace) := goodIn_app (goodIn_of _ (by decide +kernel)) ggX6_risk_X6_isRace
set_option maxRecDepth 20000 in
theorem ggX6_risk_X6_riskOf : GoodIn wsX6_risk wsX6_riskOf := goodIn_r _ [15, 16, 17, 18, 19, 20, 21, 22, 23, 24, 25, 26, 27, 28, 29, 4, 30, 31, 32, 33, 34, 35, 36, 37, 38, 39, 40, 41, 42, 43, 44, 45, 46, 47, 48, 49, 50, 51, 52, 53, 54, 55, 56, 57, 58, 59, 60, 61, 62, 63, 64, 65, 66, 67, 68, 69, 70, 71, 72, 73, 74, 75, 76, 77, 78, 79, 80, 81, 82, 83, 84, 85, 86, 87, 88, 89, 90, 91, 92, 93, 94, 95, 96, 97, 98, 99, 100, 101, 102, 103, 104] (by decide +kernel) (by decide +kernel)
set_option maxRecDepth 20000 in
theorem gX6_risk_X6_riskOf : GoodIn wsX6_risk (wsV RX6 154 RX6 yX6_riskOf wsX6_riskOf) := goodIn_app (goodIn_of _ (by decide +kernel)) ggX6_risk_X6_riskOf
theorem dX6_risk_0 : decode cX6_risk 0 = .ok (.aload_n 0, 1) := by decide +kernel
theorem dX6_risk_1 : decode cX6_risk 1 = .ok (.iload_n 1, 1) := by decide +kernel
theorem dX6_risk_2 : decode cX6_risk 2 = .ok (.invokevirtual 90, 3) := by decide +kernel
theorem dX6_risk_5 : decode cX6_risk 5 = .ok (.ifCond .eq 11, 3) := by decide +kernel
theorem dX6_risk_8 : decode cX6_risk 8 = .ok (.aload_n 0, 1) := by decide +kernel
theorem dX6_risk_9 : decode cX6_risk 9 = .ok (.iload_n 1, 1) := by decide +kernel
theorem dX6_risk_10 : decode cX6_risk 10 = .ok (.invokevirtual 154, 3) := by decide +kernel
theorem dX6_risk_13 : decode cX6_risk 13 = .ok (.goto 4, 3) := by decide +kernel
theorem dX6_risk_16 : decode cX6_risk 16 = .ok (.iconst 0, 1) := by decide +kernel
theorem dX6_risk_17 : decode cX6_risk 17 = .ok (.ireturn, 1) := by decide +kernel
set_option maxRecDepth 20000 in
theorem ggX6_taken_X6_isRace : GoodIn wsX6_taken wsX6_isRace := goodIn_r _ [6, 7, 8, 9, 10, 11, 5, 12, 83, 84, 85, 86, 87, 88, 89, 90, 91, 92, 93, 94, 95, 96, 97, 98, 99, 100, 101, 102, 103, 104] (by decide +kernel) (by decide +kernel)
set_option maxRecDepth 20000 in
theorem gX6_taken_X6_isRace : GoodIn wsX6_taken (wsV RX6 90 RX6 yX6_isRace wsX6_isRace) := goodIn_app (goodIn_of _ (by decide +kernel)) ggX6_taken_X6_isRace
set_option maxRecDepth 20000 in
theorem ggX6_taken_X6_riskOf : GoodIn wsX6_taken wsX6_riskOf := goodIn_r _ [16, 1, 17, 18, 19, 20, 21, 22, 23, 24, 25, 26, 27, 28, 29, 5, 30, 31, 32, 33, 34, 35, 36, 37, 38, 39, 40, 41, 42, 43, 44, 45, 46, 47, 48, 49, 50, 51, 52, 53, 54, 55, 56, 57, 58, 59, 60, 61, 62, 63, 64, 65, 66, 67, 68, 69, 70, 71, 72, 73, 74, 75, 76, 77, 78, 79, 80, 81, 82, 83, 84, 85, 86, 87, 88, 89, 90, 91, 92, 93, 94, 95, 96, 97, 98, 99, 100, 101, 102, 103, 104] (by decide +kernel) (by decide +kernel)
set_option maxRecDepth 20000 in
theorem gX6_taken_X6_riskOf : GoodIn wsX6_taken (wsV RX6 154 RX6 yX6_riskOf wsX6_riskOf) := goodIn_app (goodIn_of _ (by decide +kernel)) ggX6_taken_X6_riskOf
theorem dX6_taken_0 : decode cX6_taken 0 = .ok (.aload_n 0, 1) := by decide +kernel
theorem dX6_taken_1 : decode cX6_taken 1 = .ok (.iload_n 1, 1) := by decide +kernel
theorem dX6_taken_2 : decode cX6_taken 2 = .ok (.invokevirtual 90, 3) := by decide +kernel
theorem dX6_taken_5 : decode cX6_taken 5 = .ok (.ifCond .ne 5, 3) := by decide +kernel
theorem dX6_taken_8 : decode cX6_taken 8 = .ok (.iconst 0, 1) := by decide +kernel
theorem dX6_taken_9 : decode cX6_taken 9 = .ok (.ireturn, 1) := by decide +kernel
theorem dX6_taken_10 : decode cX6_taken 10 = .ok (.aload_n 0, 1) := by decide +kernel
theorem dX6_taken_11 : decode cX6_taken 11 = .ok (.iload_n 1, 1) := by decide +kernel
theorem dX6_taken_12 : decode cX6_taken 12 = .ok (.invokevirtual 154, 3) := by decide +kernel
theorem dX6_taken_15 : decode cX6_taken 15 = .ok (.pop, 1) := by decide +kernel
theorem dX6_taken_16 : decode cX6_taken 16 = .ok (.aload_n 0, 1) := by decide +kernel
theorem dX6_taken_17 : decode cX6_taken 17 = .ok (.getfield 133, 3) := by decide +kernel
theorem dX6_taken_20 : decode cX6_taken 20 = .ok (.ireturn, 1) := by decide +kernel
set_option maxRecDepth 20000 in
theorem ggX6_taint_X6_isRace : GoodIn wsX6_taint wsX6_isRace := goodIn_r _ [8, 9, 10, 11, 12, 13, 7, 14, 83, 84, 85, 86, 87, 88, 89, 90, 91, 92, 93, 94, 95, 96, 97, 98, 99, 100, 101, 102, 103, 104] (by decide +kernel) (by decide +kernel)
set_option maxRecDepth 20000 in
theorem gX6_taint_X6_isRace : GoodIn wsX6_taint (wsV RX6 90 RX6 yX6_isRace wsX6_isRace) := goodIn_app (goodIn_of _ (by decide +kernel)) ggX6_taint_X6_isRace
set_option maxRecDepth 20000 in
theorem ggX6_taint_X6_right : GoodIn wsX6_taint wsX6_right := goodIn_r _ [14, 9, 83, 84, 85, 86, 87, 88, 89, 90, 91, 92, 93, 94, 95, 96, 97, 98, 99, 100, 101, 102, 103, 104] (by decide +kernel) (by decide +kernel)
set_option maxRecDepth 20000 in
theorem gX6_taint_X6_right : GoodIn wsX6_taint (wsV RX6 62 RX6 yX6_right wsX6_right) := goodIn_app (goodIn_of _ (by decide +kernel)) ggX6_taint_X6_right
set_option maxRecDepth 20000 in
theorem ggX6_taint_X6_riskOf : GoodIn wsX6_taint wsX6_riskOf := goodIn_r _ [18, 19, 20, 21, 22, 1, 2, 23, 24, 25, 26, 3, 27, 28, 29, 7, 30, 31, 32, 33, 34, 35, 36, 37, 38, 39, 40, 41, 42, 43, 44, 45, 46, 47, 48, 49, 50, 51, 52, 53, 54, 55, 56, 57, 58, 59, 60, 61, 62, 63, 64, 65, 66, 67, 68, 69, 70, 71, 72, 73, 74, 75, 76, 77, 78, 79, 80, 81, 82, 83, 84, 85, 86, 87, 88, 89, 90, 91, 92, 93, 94, 95, 96, 97, 98, 99, 100, 101, 102, 103, 104] (by decide +kernel) (by decide +kernel)
set_option maxRecDepth 20000 in
theorem gX6_taint_X6_riskOf : GoodIn wsX6_taint (wsV RX6 154 RX6 yX6_riskOf wsX6_riskOf) := goodIn_app (goodIn_of _ (by decide +kernel)) ggX6_taint_X6_riskOf
set_option maxRecDepth 20000 in
theorem ggX6_taint_X6_isTaken : GoodIn wsX6_taint wsX6_isTaken := goodIn_r _ [71, 45, 44, 51, 52, 7, 53, 54, 55, 56, 57, 50, 58, 83, 84, 85, 86, 87, 88, 89, 90, 91, 92, 93, 94, 95, 96, 97, 98, 99, 100, 101, 102, 103, 104] (by decide +kernel) (by decide +kernel)
set_option maxRecDepth 20000 in
theorem gX6_taint_X6_isTaken : GoodIn wsX6_taint (wsV RX6 138 RX6 yX6_isTaken wsX6_isTaken) := goodIn_app (goodIn_of _ (by decide +kernel)) ggX6_taint_X6_isTaken
set_option maxRecDepth 20000 in
theorem ggX6_taint_X6_isKnown : GoodIn wsX6_taint wsX6_isKnown := goodIn_r _ [67, 44, 46, 47, 48, 7, 49, 50, 83, 84, 85, 86, 87, 88, 89, 90, 91, 92, 93, 94, 95, 96, 97, 98, 99, 100, 101, 102, 103, 104] (by decide +kernel) (by decide +kernel)
set_option maxRecDepth 20000 in
theorem gX6_taint_X6_isKnown : GoodIn wsX6_taint (wsV RX6 118 RX6 yX6_isKnown wsX6_isKnown) := goodIn_app (goodIn_of _ (by decide +kernel)) ggX6_taint_X6_isKnown
set_option maxRecDepth 20000 in
theorem ggX6_taint_X6_taints : GoodIn wsX6_taint wsX6_taints := goodIn_r _ [75, 26, 32, 34, 45, 44, 33, 3, 51, 52, 7, 53, 76, 77, 78, 54, 55, 56, 57, 50, 58, 83, 84, 85, 86, 87, 88, 89, 90, 91, 92, 93, 94, 95, 96, 97, 98, 99, 100, 101, 102, 103, 104] (by decide +kernel) (by decide +kernel)
set_option maxRecDepth 20000 in
theorem gX6_taint_X6_taints : GoodIn wsX6_taint (wsV RX6 142 RX6 yX6_taints wsX6_taints) := goodIn_app (goodIn_of _ (by decide +kernel)) ggX6_taint_X6_taints
theorem dX6_taint_0 : decode cX6_taint 0 = .ok (.aload_n 0, 1) := by decide +kernel
theorem dX6_taint_1 : decode cX6_taint 1 = .ok (.iload_n 1, 1) := by decide +kernel
theorem dX6_taint_2 : decode cX6_taint 2 = .ok (.invokevirtual 90, 3) := by decide +kernel
theorem dX6_taint_5 : decode cX6_taint 5 = .ok (.ifCond .eq 28, 3) := by decide +kernel
theorem dX6_taint_8 : decode cX6_taint 8 = .ok (.aload_n 0, 1) := by decide +kernel
theorem dX6_taint_9 : decode cX6_taint 9 = .ok (.iload_n 2, 1) := by decide +kernel
theorem dX6_taint_10 : decode cX6_taint 10 = .ok (.ifCond .lt 15, 3) := by decide +kernel
theorem dX6_taint_13 : decode cX6_taint 13 = .ok (.iload_n 2, 1) := by decide +kernel
theorem dX6_taint_14 : decode cX6_taint 14 = .ok (.aload_n 0, 1) := by decide +kernel
theorem dX6_taint_15 : decode cX6_taint 15 = .ok (.getfield 111, 3) := by decide +kernel
theorem dX6_taint_18 : decode cX6_taint 18 = .ok (.if_icmp .ge 7, 3) := by decide +kernel
theorem dX6_taint_21 : decode cX6_taint 21 = .ok (.iconst 1, 1) := by decide +kernel
theorem dX6_taint_22 : decode cX6_taint 22 = .ok (.goto 4, 3) := by decide +kernel
theorem dX6_taint_25 : decode cX6_taint 25 = .ok (.iconst 0, 1) := by decide +kernel
theorem dX6_taint_26 : decode cX6_taint 26 = .ok (.iconst 1, 1) := by decide +kernel
theorem dX6_taint_27 : decode cX6_taint 27 = .ok (.invokevirtual 62, 3) := by decide +kernel
theorem dX6_taint_30 : decode cX6_taint 30 = .ok (.ifCond .ne 5, 3) := by decide +kernel
theorem dX6_taint_33 : decode cX6_taint 33 = .ok (.iconst 0, 1) := by decide +kernel
theorem dX6_taint_34 : decode cX6_taint 34 = .ok (.ireturn, 1) := by decide +kernel
theorem dX6_taint_35 : decode cX6_taint 35 = .ok (.aload_n 0, 1) := by decide +kernel
theorem dX6_taint_36 : decode cX6_taint 36 = .ok (.iload_n 1, 1) := by decide +kernel
theorem dX6_taint_37 : decode cX6_taint 37 = .ok (.invokevirtual 154, 3) := by decide +kernel
theorem dX6_taint_40 : decode cX6_taint 40 = .ok (.iconst (-1), 1) := by decide +kernel
theorem dX6_taint_41 : decode cX6_taint 41 = .ok (.if_icmp .eq 17, 3) := by decide +kernel
theorem dX6_taint_44 : decode cX6_taint 44 = .ok (.aload_n 0, 1) := by decide +kernel
theorem dX6_taint_45 : decode cX6_taint 45 = .ok (.aload_n 0, 1) := by decide +kernel
theorem dX6_taint_46 : decode cX6_taint 46 = .ok (.getfield 22, 3) := by decide +kernel
theorem dX6_taint_49 : decode cX6_taint 49 = .ok (.iload_n 2, 1) := by decide +kernel
theorem dX6_taint_50 : decode cX6_taint 50 = .ok (.iaload, 1) := by decide +kernel
theorem dX6_taint_51 : decode cX6_taint 51 = .ok (.iload_n 1, 1) := by decide +kernel
theorem dX6_taint_52 : decode cX6_taint 52 = .ok (.invokevirtual 138, 3) := by decide +kernel
theorem dX6_taint_55 : decode cX6_taint 55 = .ok (.ifCond .ne 6, 3) := by decide +kernel
theorem dX6_taint_58 : decode cX6_taint 58 = .ok (.bipush (-10), 2) := by decide +kernel
theorem dX6_taint_60 : decode cX6_taint 60 = .ok (.ireturn, 1) := by decide +kernel
theorem dX6_taint_61 : decode cX6_taint 61 = .ok (.iconst 1, 1) := by decide +kernel
theorem dX6_taint_62 : decode cX6_taint 62 = .ok (.istore_n 3, 1) := by decide +kernel
theorem dX6_taint_63 : decode cX6_taint 63 = .ok (.iconst 0, 1) := by decide +kernel
theorem dX6_taint_64 : decode cX6_taint 64 = .ok (.istore 4, 2) := by decide +kernel
theorem dX6_taint_66 : decode cX6_taint 66 = .ok (.iload 4, 2) := by decide +kernel
theorem dX6_taint_68 : decode cX6_taint 68 = .ok (.iload_n 2, 1) := by decide +kernel
theorem dX6_taint_69 : decode cX6_taint 69 = .ok (.if_icmp .gt 33, 3) := by decide +kernel
theorem dX6_taint_72 : decode cX6_taint 72 = .ok (.iload_n 3, 1) := by decide +kernel
theorem dX6_taint_73 : decode cX6_taint 73 = .ok (.ifCond .eq 21, 3) := by decide +kernel
theorem dX6_taint_76 : decode cX6_taint 76 = .ok (.aload_n 0, 1) := by decide +kernel
theorem dX6_taint_77 : decode cX6_taint 77 = .ok (.aload_n 0, 1) := by decide +kernel
theorem dX6_taint_78 : decode cX6_taint 78 = .ok (.getfield 22, 3) := by decide +kernel
theorem dX6_taint_81 : decode cX6_taint 81 = .ok (.iload 4, 2) := by decide +kernel
theorem dX6_taint_83 : decode cX6_taint 83 = .ok (.iaload, 1) := by decide +kernel
theorem dX6_taint_84 : decode cX6_taint 84 = .ok (.invokevirtual 118, 3) := by decide +kernel
theorem dX6_taint_87 : decode cX6_taint 87 = .ok (.ifCond .eq 7, 3) := by decide +kernel
theorem dX6_taint_90 : decode cX6_taint 90 = .ok (.iconst 1, 1) := by decide +kernel
theorem dX6_taint_91 : decode cX6_taint 91 = .ok (.goto 4, 3) := by decide +kernel
theorem dX6_taint_94 : decode cX6_taint 94 = .ok (.iconst 0, 1) := by decide +kernel
theorem dX6_taint_95 : decode cX6_taint 95 = .ok (.istore_n 3, 1) := by decide +kernel
theorem dX6_taint_96 : decode cX6_taint 96 = .ok (.iinc 4 1, 3) := by decide +kernel
theorem dX6_taint_99 : decode cX6_taint 99 = .ok (.goto (-33), 3) := by decide +kernel
theorem dX6_taint_102 : decode cX6_taint 102 = .ok (.iload_n 3, 1) := by decide +kernel
theorem dX6_taint_103 : decode cX6_taint 103 = .ok (.ifCond .ne 6, 3) := by decide +kernel
theorem dX6_taint_106 : decode cX6_taint 106 = .ok (.bipush (-10), 2) := by decide +kernel
theorem dX6_taint_108 : decode cX6_taint 108 = .ok (.ireturn, 1) := by decide +kernel
theorem dX6_taint_109 : decode cX6_taint 109 = .ok (.aload_n 0, 1) := by decide +kernel
theorem dX6_taint_110 : decode cX6_taint 110 = .ok (.aload_n 0, 1) := by decide +kernel
theorem dX6_taint_111 : decode cX6_taint 111 = .ok (.getfield 22, 3) := by decide +kernel
theorem dX6_taint_114 : decode cX6_taint 114 = .ok (.iload_n 2, 1) := by decide +kernel
theorem dX6_taint_115 : decode cX6_taint 115 = .ok (.iaload, 1) := by decide +kernel
theorem dX6_taint_116 : decode cX6_taint 116 = .ok (.iload_n 1, 1) := by decide +kernel
theorem dX6_taint_117 : decode cX6_taint 117 = .ok (.invokevirtual 142, 3) := by decide +kernel
theorem dX6_taint_120 : decode cX6_taint 120 = .ok (.aload_n 0, 1) := by decide +kernel
theorem dX6_taint_121 : decode cX6_taint 121 = .ok (.getfield 130, 3) := by decide +kernel
theorem dX6_taint_124 : decode cX6_taint 124 = .ok (.ireturn, 1) := by decide +kernel
set_option maxRecDepth 20000 in
theorem ggX6_need_X6_isRace : GoodIn wsX6_need wsX6_isRace := goodIn_r _ [12, 13, 14, 15, 16, 17, 11, 18, 85, 86, 87, 88, 89, 90, 91, 92, 93, 94, 95, 96, 97, 98, 99, 100, 101, 102, 103, 104, 105, 106] (by decide +kernel) (by decide +kernel)
set_option maxRecDepth 20000 in
theorem gX6_need_X6_isRace : GoodIn wsX6_need (wsV RX6 90 RX6 yX6_isRace wsX6_isRace) := goodIn_app (goodIn_of _ (by decide +kernel)) ggX6_need_X6_isRace
set_option maxRecDepth 20000 in
theorem ggX6_need_X6_right : GoodIn wsX6_need wsX6_right := goodIn_r _ [18, 13, 85, 86, 87, 88, 89, 90, 91, 92, 93, 94, 95, 96, 97, 98, 99, 100, 101, 102, 103, 104, 105, 106] (by decide +kernel) (by decide +kernel)
set_option maxRecDepth 20000 in
theorem gX6_need_X6_right : GoodIn wsX6_need (wsV RX6 62 RX6 yX6_right wsX6_right) := goodIn_app (goodIn_of _ (by decide +kernel)) ggX6_need_X6_right
set_option maxRecDepth 20000 in
theorem ggX6_need_X6_riskOf : GoodIn wsX6_need wsX6_riskOf := goodIn_r _ [22, 23, 24, 7, 25, 26, 27, 4, 5, 6, 28, 29, 30, 31, 32, 11, 33, 34, 35, 36, 37, 1, 38, 39, 40, 41, 42, 43, 44, 45, 46, 47, 48, 49, 50, 51, 52, 53, 54, 55, 56, 57, 58, 59, 60, 61, 62, 63, 64, 65, 66, 67, 68, 69, 70, 71, 72, 73, 74, 75, 76, 77, 78, 79, 80, 81, 82, 83, 84, 85, 86, 87, 88, 89, 90, 91, 92, 93, 94, 95, 96, 97, 98, 99, 100, 101, 102, 103, 104, 105, 106] (by decide +kernel) (by decide +kernel)
set_option maxRecDepth 20000 in
theorem gX6_need_X6_riskOf : GoodIn wsX6_need (wsV RX6 154 RX6 yX6_riskOf wsX6_riskOf) := goodIn_app (goodIn_of _ (by decide +kernel)) ggX6_need_X6_riskOf
set_option maxRecDepth 20000 in
theorem ggX6_need_X6_divides : GoodIn wsX6_need wsX6_divides := goodIn_r _ [84] (by decide +kernel) (by decide +kernel)
set_option maxRecDepth 20000 in
theorem gX6_need_X6_divides : GoodIn wsX6_need (wsV RX6 150 RX6 yX6_divides wsX6_divides) := goodIn_app (goodIn_of _ (by decide +kernel)) ggX6_need_X6_divides
theorem dX6_need_0 : decode cX6_need 0 = .ok (.aload_n 0, 1) := by decide +kernel
theorem dX6_need_1 : decode cX6_need 1 = .ok (.iload_n 1, 1) := by decide +kernel
theorem dX6_need_2 : decode cX6_need 2 = .ok (.invokevirtual 90, 3) := by decide +kernel
theorem dX6_need_5 : decode cX6_need 5 = .ok (.ifCond .eq 26, 3) := by decide +kernel
theorem dX6_need_8 : decode cX6_need 8 = .ok (.aload_n 0, 1) := by decide +kernel
theorem dX6_need_9 : decode cX6_need 9 = .ok (.iload_n 2, 1) := by decide +kernel
theorem dX6_need_10 : decode cX6_need 10 = .ok (.ifCond .lt 13, 3) := by decide +kernel
theorem dX6_need_13 : decode cX6_need 13 = .ok (.iload_n 2, 1) := by decide +kernel
theorem dX6_need_14 : decode cX6_need 14 = .ok (.ldc 103, 2) := by decide +kernel
theorem dX6_need_16 : decode cX6_need 16 = .ok (.if_icmp .gt 7, 3) := by decide +kernel
theorem dX6_need_19 : decode cX6_need 19 = .ok (.iconst 1, 1) := by decide +kernel
theorem dX6_need_20 : decode cX6_need 20 = .ok (.goto 4, 3) := by decide +kernel
theorem dX6_need_23 : decode cX6_need 23 = .ok (.iconst 0, 1) := by decide +kernel
theorem dX6_need_24 : decode cX6_need 24 = .ok (.iconst 2, 1) := by decide +kernel
theorem dX6_need_25 : decode cX6_need 25 = .ok (.invokevirtual 62, 3) := by decide +kernel
theorem dX6_need_28 : decode cX6_need 28 = .ok (.ifCond .ne 5, 3) := by decide +kernel
theorem dX6_need_31 : decode cX6_need 31 = .ok (.iconst 0, 1) := by decide +kernel
theorem dX6_need_32 : decode cX6_need 32 = .ok (.ireturn, 1) := by decide +kernel
theorem dX6_need_33 : decode cX6_need 33 = .ok (.aload_n 0, 1) := by decide +kernel
theorem dX6_need_34 : decode cX6_need 34 = .ok (.iload_n 1, 1) := by decide +kernel
theorem dX6_need_35 : decode cX6_need 35 = .ok (.invokevirtual 154, 3) := by decide +kernel
theorem dX6_need_38 : decode cX6_need 38 = .ok (.i2l, 1) := by decide +kernel
theorem dX6_need_39 : decode cX6_need 39 = .ok (.lstore_n 3, 1) := by decide +kernel
theorem dX6_need_40 : decode cX6_need 40 = .ok (.lload_n 3, 1) := by decide +kernel
theorem dX6_need_41 : decode cX6_need 41 = .ok (.ldc2_w 158, 3) := by decide +kernel
theorem dX6_need_44 : decode cX6_need 44 = .ok (.lcmp, 1) := by decide +kernel
theorem dX6_need_45 : decode cX6_need 45 = .ok (.ifCond .ne 5, 3) := by decide +kernel
theorem dX6_need_48 : decode cX6_need 48 = .ok (.iconst (-1), 1) := by decide +kernel
theorem dX6_need_49 : decode cX6_need 49 = .ok (.ireturn, 1) := by decide +kernel
theorem dX6_need_50 : decode cX6_need 50 = .ok (.iconst 0, 1) := by decide +kernel
theorem dX6_need_51 : decode cX6_need 51 = .ok (.istore 5, 2) := by decide +kernel
theorem dX6_need_53 : decode cX6_need 53 = .ok (.lload_n 3, 1) := by decide +kernel
theorem dX6_need_54 : decode cX6_need 54 = .ok (.iload_n 2, 1) := by decide +kernel
theorem dX6_need_55 : decode cX6_need 55 = .ok (.i2l, 1) := by decide +kernel
theorem dX6_need_56 : decode cX6_need 56 = .ok (.lcmp, 1) := by decide +kernel
theorem dX6_need_57 : decode cX6_need 57 = .ok (.ifCond .le 51, 3) := by decide +kernel
theorem dX6_need_60 : decode cX6_need 60 = .ok (.iload 5, 2) := by decide +kernel
theorem dX6_need_62 : decode cX6_need 62 = .ok (.ldc 160, 2) := by decide +kernel
theorem dX6_need_64 : decode cX6_need 64 = .ok (.if_icmp .gt 44, 3) := by decide +kernel
theorem dX6_need_67 : decode cX6_need 67 = .ok (.aload_n 0, 1) := by decide +kernel
theorem dX6_need_68 : decode cX6_need 68 = .ok (.lload_n 3, 1) := by decide +kernel
theorem dX6_need_69 : decode cX6_need 69 = .ok (.ldc2_w 146, 3) := by decide +kernel
theorem dX6_need_72 : decode cX6_need 72 = .ok (.aload_n 0, 1) := by decide +kernel
theorem dX6_need_73 : decode cX6_need 73 = .ok (.getfield 100, 3) := by decide +kernel
theorem dX6_need_76 : decode cX6_need 76 = .ok (.i2l, 1) := by decide +kernel
theorem dX6_need_77 : decode cX6_need 77 = .ok (.lmul, 1) := by decide +kernel
theorem dX6_need_78 : decode cX6_need 78 = .ok (.ldc2_w 148, 3) := by decide +kernel
theorem dX6_need_81 : decode cX6_need 81 = .ok (.aload_n 0, 1) := by decide +kernel
theorem dX6_need_82 : decode cX6_need 82 = .ok (.getfield 104, 3) := by decide +kernel
theorem dX6_need_85 : decode cX6_need 85 = .ok (.i2l, 1) := by decide +kernel
theorem dX6_need_86 : decode cX6_need 86 = .ok (.lmul, 1) := by decide +kernel
theorem dX6_need_87 : decode cX6_need 87 = .ok (.lsub, 1) := by decide +kernel
theorem dX6_need_88 : decode cX6_need 88 = .ok (.lmul, 1) := by decide +kernel
theorem dX6_need_89 : decode cX6_need 89 = .ok (.ldc2_w 146, 3) := by decide +kernel
theorem dX6_need_92 : decode cX6_need 92 = .ok (.aload_n 0, 1) := by decide +kernel
theorem dX6_need_93 : decode cX6_need 93 = .ok (.getfield 100, 3) := by decide +kernel
theorem dX6_need_96 : decode cX6_need 96 = .ok (.i2l, 1) := by decide +kernel
theorem dX6_need_97 : decode cX6_need 97 = .ok (.lmul, 1) := by decide +kernel
theorem dX6_need_98 : decode cX6_need 98 = .ok (.invokevirtual 150, 3) := by decide +kernel
theorem dX6_need_101 : decode cX6_need 101 = .ok (.lstore_n 3, 1) := by decide +kernel
theorem dX6_need_102 : decode cX6_need 102 = .ok (.iinc 5 1, 3) := by decide +kernel
theorem dX6_need_105 : decode cX6_need 105 = .ok (.goto (-52), 3) := by decide +kernel
theorem dX6_need_108 : decode cX6_need 108 = .ok (.iload 5, 2) := by decide +kernel
theorem dX6_need_110 : decode cX6_need 110 = .ok (.ldc 160, 2) := by decide +kernel
theorem dX6_need_112 : decode cX6_need 112 = .ok (.if_icmp .le 7, 3) := by decide +kernel
theorem dX6_need_115 : decode cX6_need 115 = .ok (.iconst (-1), 1) := by decide +kernel
theorem dX6_need_116 : decode cX6_need 116 = .ok (.goto 5, 3) := by decide +kernel
theorem dX6_need_119 : decode cX6_need 119 = .ok (.iload 5, 2) := by decide +kernel
theorem dX6_need_121 : decode cX6_need 121 = .ok (.ireturn, 1) := by decide +kernel
set_option maxRecDepth 20000 in
theorem ggX6_count_X6_right : GoodIn wsX6_count wsX6_right := goodIn_r _ [12, 1, 18, 19, 20, 21, 22, 23, 24, 25, 26, 27, 28, 29, 30, 31, 32, 33, 34, 35, 36, 37, 38, 39] (by decide +kernel) (by decide +kernel)
set_option maxRecDepth 20000 in
theorem gX6_count_X6_right : GoodIn wsX6_count (wsV RX6 62 RX6 yX6_right wsX6_right) := goodIn_app (goodIn_of _ (by decide +kernel)) ggX6_count_X6_right
set_option maxRecDepth 20000 in
theorem ggX6_count_X6_isRead : GoodIn wsX6_count wsX6_isRead := goodIn_r _ [16, 17, 18, 19, 20, 21, 22, 23, 24, 25, 26, 27, 28, 29, 30, 31, 32, 33, 34, 35, 36, 37, 38, 39] (by decide +kernel) (by decide +kernel)
set_option maxRecDepth 20000 in
theorem gX6_count_X6_isRead : GoodIn wsX6_count (wsV RX6 73 RX6 yX6_isRead wsX6_isRead) := goodIn_app (goodIn_of _ (by decide +kernel)) ggX6_count_X6_isRead
theorem dX6_count_0 : decode cX6_count 0 = .ok (.aload_n 0, 1) := by decide +kernel
theorem dX6_count_1 : decode cX6_count 1 = .ok (.iconst 0, 1) := by decide +kernel
theorem dX6_count_2 : decode cX6_count 2 = .ok (.putfield 41, 3) := by decide +kernel
theorem dX6_count_5 : decode cX6_count 5 = .ok (.aload_n 0, 1) := by decide +kernel
theorem dX6_count_6 : decode cX6_count 6 = .ok (.iload_n 1, 1) := by decide +kernel
theorem dX6_count_7 : decode cX6_count 7 = .ok (.ifCond .lt 13, 3) := by decide +kernel
theorem dX6_count_10 : decode cX6_count 10 = .ok (.iload_n 1, 1) := by decide +kernel
theorem dX6_count_11 : decode cX6_count 11 = .ok (.bipush 6, 2) := by decide +kernel
theorem dX6_count_13 : decode cX6_count 13 = .ok (.if_icmp .gt 7, 3) := by decide +kernel
theorem dX6_count_16 : decode cX6_count 16 = .ok (.iconst 1, 1) := by decide +kernel
theorem dX6_count_17 : decode cX6_count 17 = .ok (.goto 4, 3) := by decide +kernel
theorem dX6_count_20 : decode cX6_count 20 = .ok (.iconst 0, 1) := by decide +kernel
theorem dX6_count_21 : decode cX6_count 21 = .ok (.iconst 1, 1) := by decide +kernel
theorem dX6_count_22 : decode cX6_count 22 = .ok (.invokevirtual 62, 3) := by decide +kernel
theorem dX6_count_25 : decode cX6_count 25 = .ok (.ifCond .ne 5, 3) := by decide +kernel
theorem dX6_count_28 : decode cX6_count 28 = .ok (.iconst 0, 1) := by decide +kernel
theorem dX6_count_29 : decode cX6_count 29 = .ok (.ireturn, 1) := by decide +kernel
theorem dX6_count_30 : decode cX6_count 30 = .ok (.iconst 0, 1) := by decide +kernel
theorem dX6_count_31 : decode cX6_count 31 = .ok (.istore_n 2, 1) := by decide +kernel
theorem dX6_count_32 : decode cX6_count 32 = .ok (.iload_n 1, 1) := by decide +kernel
theorem dX6_count_33 : decode cX6_count 33 = .ok (.tableswitch 118 0 5 #[39, 44, 49, 54, 84, 89], 39) := by decide +kernel
theorem dX6_count_72 : decode cX6_count 72 = .ok (.aload_n 0, 1) := by decide +kernel
theorem dX6_count_73 : decode cX6_count 73 = .ok (.getfield 45, 3) := by decide +kernel
theorem dX6_count_76 : decode cX6_count 76 = .ok (.ireturn, 1) := by decide +kernel
theorem dX6_count_77 : decode cX6_count 77 = .ok (.aload_n 0, 1) := by decide +kernel
theorem dX6_count_78 : decode cX6_count 78 = .ok (.getfield 51, 3) := by decide +kernel
theorem dX6_count_81 : decode cX6_count 81 = .ok (.ireturn, 1) := by decide +kernel
theorem dX6_count_82 : decode cX6_count 82 = .ok (.aload_n 0, 1) := by decide +kernel
theorem dX6_count_83 : decode cX6_count 83 = .ok (.getfield 48, 3) := by decide +kernel
theorem dX6_count_86 : decode cX6_count 86 = .ok (.ireturn, 1) := by decide +kernel
theorem dX6_count_87 : decode cX6_count 87 = .ok (.iconst 0, 1) := by decide +kernel
theorem dX6_count_88 : decode cX6_count 88 = .ok (.istore_n 3, 1) := by decide +kernel
theorem dX6_count_89 : decode cX6_count 89 = .ok (.iload_n 3, 1) := by decide +kernel
theorem dX6_count_90 : decode cX6_count 90 = .ok (.aload_n 0, 1) := by decide +kernel
theorem dX6_count_91 : decode cX6_count 91 = .ok (.getfield 48, 3) := by decide +kernel
theorem dX6_count_94 : decode cX6_count 94 = .ok (.if_icmp .ge 21, 3) := by decide +kernel
theorem dX6_count_97 : decode cX6_count 97 = .ok (.aload_n 0, 1) := by decide +kernel
theorem dX6_count_98 : decode cX6_count 98 = .ok (.getfield 25, 3) := by decide +kernel
theorem dX6_count_101 : decode cX6_count 101 = .ok (.iload_n 3, 1) := by decide +kernel
theorem dX6_count_102 : decode cX6_count 102 = .ok (.baload, 1) := by decide +kernel
theorem dX6_count_103 : decode cX6_count 103 = .ok (.ifCond .eq 6, 3) := by decide +kernel
theorem dX6_count_106 : decode cX6_count 106 = .ok (.iinc 2 1, 3) := by decide +kernel
theorem dX6_count_109 : decode cX6_count 109 = .ok (.iinc 3 1, 3) := by decide +kernel
theorem dX6_count_112 : decode cX6_count 112 = .ok (.goto (-23), 3) := by decide +kernel
theorem dX6_count_115 : decode cX6_count 115 = .ok (.iload_n 2, 1) := by decide +kernel
theorem dX6_count_116 : decode cX6_count 116 = .ok (.ireturn, 1) := by decide +kernel
theorem dX6_count_117 : decode cX6_count 117 = .ok (.aload_n 0, 1) := by decide +kernel
theorem dX6_count_118 : decode cX6_count 118 = .ok (.getfield 111, 3) := by decide +kernel
theorem dX6_count_121 : decode cX6_count 121 = .ok (.ireturn, 1) := by decide +kernel
theorem dX6_count_122 : decode cX6_count 122 = .ok (.iconst 0, 1) := by decide +kernel
theorem dX6_count_123 : decode cX6_count 123 = .ok (.istore_n 3, 1) := by decide +kernel
theorem dX6_count_124 : decode cX6_count 124 = .ok (.iload_n 3, 1) := by decide +kernel
theorem dX6_count_125 : decode cX6_count 125 = .ok (.aload_n 0, 1) := by decide +kernel
theorem dX6_count_126 : decode cX6_count 126 = .ok (.getfield 48, 3) := by decide +kernel
theorem dX6_count_129 : decode cX6_count 129 = .ok (.if_icmp .ge 20, 3) := by decide +kernel
theorem dX6_count_132 : decode cX6_count 132 = .ok (.aload_n 0, 1) := by decide +kernel
theorem dX6_count_133 : decode cX6_count 133 = .ok (.iload_n 3, 1) := by decide +kernel
theorem dX6_count_134 : decode cX6_count 134 = .ok (.invokevirtual 73, 3) := by decide +kernel
theorem dX6_count_137 : decode cX6_count 137 = .ok (.ifCond .eq 6, 3) := by decide +kernel
theorem dX6_count_140 : decode cX6_count 140 = .ok (.iinc 2 1, 3) := by decide +kernel
theorem dX6_count_143 : decode cX6_count 143 = .ok (.iinc 3 1, 3) := by decide +kernel
theorem dX6_count_146 : decode cX6_count 146 = .ok (.goto (-22), 3) := by decide +kernel
theorem dX6_count_149 : decode cX6_count 149 = .ok (.iload_n 2, 1) := by decide +kernel
theorem dX6_count_150 : decode cX6_count 150 = .ok (.ireturn, 1) := by decide +kernel
theorem dX6_count_151 : decode cX6_count 151 = .ok (.aload_n 0, 1) := by decide +kernel
theorem dX6_count_152 : decode cX6_count 152 = .ok (.getfield 54, 3) := by decide +kernel
theorem dX6_count_155 : decode cX6_count 155 = .ok (.ifCond .eq 7, 3) := by decide +kernel
theorem dX6_count_158 : decode cX6_count 158 = .ok (.iconst 1, 1) := by decide +kernel
theorem dX6_count_159 : decode cX6_count 159 = .ok (.goto 4, 3) := by decide +kernel
theorem dX6_count_162 : decode cX6_count 162 = .ok (.iconst 0, 1) := by decide +kernel
theorem dX6_count_163 : decode cX6_count 163 = .ok (.ireturn, 1) := by decide +kernel
theorem dJ6_bitCount_0f7a4_0 : decode cJ6_bitCount_0f7a4 0 = .ok (.iload_n 0, 1) := by decide +kernel
theorem dJ6_bitCount_0f7a4_1 : decode cJ6_bitCount_0f7a4 1 = .ok (.iload_n 0, 1) := by decide +kernel
theorem dJ6_bitCount_0f7a4_2 : decode cJ6_bitCount_0f7a4 2 = .ok (.iconst 1, 1) := by decide +kernel
theorem dJ6_bitCount_0f7a4_3 : decode cJ6_bitCount_0f7a4 3 = .ok (.iushr, 1) := by decide +kernel
theorem dJ6_bitCount_0f7a4_4 : decode cJ6_bitCount_0f7a4 4 = .ok (.ldc_w 265, 3) := by decide +kernel
theorem dJ6_bitCount_0f7a4_7 : decode cJ6_bitCount_0f7a4 7 = .ok (.iand, 1) := by decide +kernel
theorem dJ6_bitCount_0f7a4_8 : decode cJ6_bitCount_0f7a4 8 = .ok (.isub, 1) := by decide +kernel
theorem dJ6_bitCount_0f7a4_9 : decode cJ6_bitCount_0f7a4 9 = .ok (.istore_n 0, 1) := by decide +kernel
theorem dJ6_bitCount_0f7a4_10 : decode cJ6_bitCount_0f7a4 10 = .ok (.iload_n 0, 1) := by decide +kernel
theorem dJ6_bitCount_0f7a4_11 : decode cJ6_bitCount_0f7a4 11 = .ok (.ldc_w 266, 3) := by decide +kernel
theorem dJ6_bitCount_0f7a4_14 : decode cJ6_bitCount_0f7a4 14 = .ok (.iand, 1) := by decide +kernel
theorem dJ6_bitCount_0f7a4_15 : decode cJ6_bitCount_0f7a4 15 = .ok (.iload_n 0, 1) := by decide +kernel
theorem dJ6_bitCount_0f7a4_16 : decode cJ6_bitCount_0f7a4 16 = .ok (.iconst 2, 1) := by decide +kernel
theorem dJ6_bitCount_0f7a4_17 : decode cJ6_bitCount_0f7a4 17 = .ok (.iushr, 1) := by decide +kernel
theorem dJ6_bitCount_0f7a4_18 : decode cJ6_bitCount_0f7a4 18 = .ok (.ldc_w 266, 3) := by decide +kernel
theorem dJ6_bitCount_0f7a4_21 : decode cJ6_bitCount_0f7a4 21 = .ok (.iand, 1) := by decide +kernel
theorem dJ6_bitCount_0f7a4_22 : decode cJ6_bitCount_0f7a4 22 = .ok (.iadd, 1) := by decide +kernel
theorem dJ6_bitCount_0f7a4_23 : decode cJ6_bitCount_0f7a4 23 = .ok (.istore_n 0, 1) := by decide +kernel
theorem dJ6_bitCount_0f7a4_24 : decode cJ6_bitCount_0f7a4 24 = .ok (.iload_n 0, 1) := by decide +kernel
theorem dJ6_bitCount_0f7a4_25 : decode cJ6_bitCount_0f7a4 25 = .ok (.iload_n 0, 1) := by decide +kernel
theorem dJ6_bitCount_0f7a4_26 : decode cJ6_bitCount_0f7a4 26 = .ok (.iconst 4, 1) := by decide +kernel
theorem dJ6_bitCount_0f7a4_27 : decode cJ6_bitCount_0f7a4 27 = .ok (.iushr, 1) := by decide +kernel
theorem dJ6_bitCount_0f7a4_28 : decode cJ6_bitCount_0f7a4 28 = .ok (.iadd, 1) := by decide +kernel
theorem dJ6_bitCount_0f7a4_29 : decode cJ6_bitCount_0f7a4 29 = .ok (.ldc_w 267, 3) := by decide +kernel
theorem dJ6_bitCount_0f7a4_32 : decode cJ6_bitCount_0f7a4 32 = .ok (.iand, 1) := by decide +kernel
theorem dJ6_bitCount_0f7a4_33 : decode cJ6_bitCount_0f7a4 33 = .ok (.istore_n 0, 1) := by decide +kernel
theorem dJ6_bitCount_0f7a4_34 : decode cJ6_bitCount_0f7a4 34 = .ok (.iload_n 0, 1) := by decide +kernel
theorem dJ6_bitCount_0f7a4_35 : decode cJ6_bitCount_0f7a4 35 = .ok (.iload_n 0, 1) := by decide +kernel
theorem dJ6_bitCount_0f7a4_36 : decode cJ6_bitCount_0f7a4 36 = .ok (.bipush 8, 2) := by decide +kernel
theorem dJ6_bitCount_0f7a4_38 : decode cJ6_bitCount_0f7a4 38 = .ok (.iushr, 1) := by decide +kernel
theorem dJ6_bitCount_0f7a4_39 : decode cJ6_bitCount_0f7a4 39 = .ok (.iadd, 1) := by decide +kernel
theorem dJ6_bitCount_0f7a4_40 : decode cJ6_bitCount_0f7a4 40 = .ok (.istore_n 0, 1) := by decide +kernel
theorem dJ6_bitCount_0f7a4_41 : decode cJ6_bitCount_0f7a4 41 = .ok (.iload_n 0, 1) := by decide +kernel
theorem dJ6_bitCount_0f7a4_42 : decode cJ6_bitCount_0f7a4 42 = .ok (.iload_n 0, 1) := by decide +kernel
theorem dJ6_bitCount_0f7a4_43 : decode cJ6_bitCount_0f7a4 43 = .ok (.bipush 16, 2) := by decide +kernel
theorem dJ6_bitCount_0f7a4_45 : decode cJ6_bitCount_0f7a4 45 = .ok (.iushr, 1) := by decide +kernel
theorem dJ6_bitCount_0f7a4_46 : decode cJ6_bitCount_0f7a4 46 = .ok (.iadd, 1) := by decide +kernel
theorem dJ6_bitCount_0f7a4_47 : decode cJ6_bitCount_0f7a4 47 = .ok (.istore_n 0, 1) := by decide +kernel
theorem dJ6_bitCount_0f7a4_48 : decode cJ6_bitCount_0f7a4 48 = .ok (.iload_n 0, 1) := by decide +kernel
theorem dJ6_bitCount_0f7a4_49 : decode cJ6_bitCount_0f7a4 49 = .ok (.bipush 63, 2) := by decide +kernel
theorem dJ6_bitCount_0f7a4_51 : decode cJ6_bitCount_0f7a4 51 = .ok (.iand, 1) := by decide +kernel
theorem dJ6_bitCount_0f7a4_52 : decode cJ6_bitCount_0f7a4 52 = .ok (.ireturn, 1) := by decide +kernel
theorem dJ9_max_7cf53_0 : decode cJ9_max_7cf53 0 = .ok (.iload_n 0, 1) := by decide +kernel
theorem dJ9_max_7cf53_1 : decode cJ9_max_7cf53 1 = .ok (.iload_n 1, 1) := by decide +kernel
theorem dJ9_max_7cf53_2 : decode cJ9_max_7cf53 2 = .ok (.if_icmp .lt 7, 3) := by decide +kernel
theorem dJ9_max_7cf53_5 : decode cJ9_max_7cf53 5 = .ok (.iload_n 0, 1) := by decide +kernel
theorem dJ9_max_7cf53_6 : decode cJ9_max_7cf53 6 = .ok (.goto 4, 3) := by decide +kernel
theorem dJ9_max_7cf53_9 : decode cJ9_max_7cf53 9 = .ok (.iload_n 1, 1) := by decide +kernel
theorem dJ9_max_7cf53_10 : decode cJ9_max_7cf53 10 = .ok (.ireturn, 1) := by decide +kernel
theorem dJ9_min_7cf53_0 : decode cJ9_min_7cf53 0 = .ok (.iload_n 0, 1) := by decide +kernel
theorem dJ9_min_7cf53_1 : decode cJ9_min_7cf53 1 = .ok (.iload_n 1, 1) := by decide +kernel
theorem dJ9_min_7cf53_2 : decode cJ9_min_7cf53 2 = .ok (.if_icmp .gt 7, 3) := by decide +kernel
theorem dJ9_min_7cf53_5 : decode cJ9_min_7cf53 5 = .ok (.iload_n 0, 1) := by decide +kernel
theorem dJ9_min_7cf53_6 : decode cJ9_min_7cf53 6 = .ok (.goto 4, 3) := by decide +kernel
theorem dJ9_min_7cf53_9 : decode cJ9_min_7cf53 9 = .ok (.iload_n 1, 1) := by decide +kernel

theorem dX4_follow_0 : decode cX4_follow 0 = .ok (.iconst 0, 1) := by decide +kernel
theorem dX4_follow_1 : decode cX4_follow 1 = .ok (.istore 5, 2) := by decide +kernel
theorem dX4_follow_3 : decode cX4_follow 3 = .ok (.iload 5, 2) := by decide +kernel
theorem dX4_follow_5 : decode cX4_follow 5 = .ok (.aload_n 3, 1) := by decide +kernel
theorem dX4_follow_6 : decode cX4_follow 6 = .ok (.getfield 26, 3) := by decide +kernel
theorem dX4_follow_9 : decode cX4_follow 9 = .ok (.if_icmp .ge 18, 3) := by decide +kernel
theorem dX4_follow_12 : decode cX4_follow 12 = .ok (.aload_n 0, 1) := by decide +kernel
theorem dX4_follow_13 : decode cX4_follow 13 = .ok (.iload 5, 2) := by decide +kernel
theorem dX4_follow_15 : decode cX4_follow 15 = .ok (.iload_n 1, 1) := by decide +kernel
theorem dX4_follow_16 : decode cX4_follow 16 = .ok (.aload_n 2, 1) := by decide +kernel
theorem dX4_follow_17 : decode cX4_follow 17 = .ok (.aload_n 3, 1) := by decide +kernel
theorem dX4_follow_18 : decode cX4_follow 18 = .ok (.invokevirtual 31, 3) := by decide +kernel
theorem dX4_follow_21 : decode cX4_follow 21 = .ok (.iinc 5 1, 3) := by decide +kernel
theorem dX4_follow_24 : decode cX4_follow 24 = .ok (.goto (-21), 3) := by decide +kernel
theorem dX4_follow_27 : decode cX4_follow 27 = .ok (.aload_n 0, 1) := by decide +kernel
theorem dX4_follow_28 : decode cX4_follow 28 = .ok (.ldc 18, 2) := by decide +kernel
theorem dX4_follow_30 : decode cX4_follow 30 = .ok (.putfield 19, 3) := by decide +kernel
theorem dX4_follow_33 : decode cX4_follow 33 = .ok (.aload_n 0, 1) := by decide +kernel
theorem dX4_follow_34 : decode cX4_follow 34 = .ok (.iconst 0, 1) := by decide +kernel
theorem dX4_follow_35 : decode cX4_follow 35 = .ok (.putfield 23, 3) := by decide +kernel
theorem dX4_follow_38 : decode cX4_follow 38 = .ok (.aload 4, 2) := by decide +kernel
theorem dX4_follow_40 : decode cX4_follow 40 = .ok (.aload_n 3, 1) := by decide +kernel
theorem dX4_follow_41 : decode cX4_follow 41 = .ok (.invokevirtual 35, 3) := by decide +kernel
theorem dX4_follow_44 : decode cX4_follow 44 = .ok (.istore 5, 2) := by decide +kernel
theorem dX4_follow_46 : decode cX4_follow 46 = .ok (.iconst 0, 1) := by decide +kernel
theorem dX4_follow_47 : decode cX4_follow 47 = .ok (.istore 6, 2) := by decide +kernel
theorem dX4_follow_49 : decode cX4_follow 49 = .ok (.iload 6, 2) := by decide +kernel
theorem dX4_follow_51 : decode cX4_follow 51 = .ok (.iload 5, 2) := by decide +kernel
theorem dX4_follow_53 : decode cX4_follow 53 = .ok (.if_icmp .ge 67, 3) := by decide +kernel
theorem dX4_follow_56 : decode cX4_follow 56 = .ok (.aload 4, 2) := by decide +kernel
theorem dX4_follow_58 : decode cX4_follow 58 = .ok (.getfield 41, 3) := by decide +kernel
theorem dX4_follow_61 : decode cX4_follow 61 = .ok (.iload 6, 2) := by decide +kernel
theorem dX4_follow_63 : decode cX4_follow 63 = .ok (.iaload, 1) := by decide +kernel
theorem dX4_follow_64 : decode cX4_follow 64 = .ok (.istore 7, 2) := by decide +kernel
theorem dX4_follow_66 : decode cX4_follow 66 = .ok (.aload_n 0, 1) := by decide +kernel
theorem dX4_follow_67 : decode cX4_follow 67 = .ok (.getfield 9, 3) := by decide +kernel
theorem dX4_follow_70 : decode cX4_follow 70 = .ok (.iload 7, 2) := by decide +kernel
theorem dX4_follow_72 : decode cX4_follow 72 = .ok (.iaload, 1) := by decide +kernel
theorem dX4_follow_73 : decode cX4_follow 73 = .ok (.bipush (-10), 2) := by decide +kernel
theorem dX4_follow_75 : decode cX4_follow 75 = .ok (.if_icmp .eq 39, 3) := by decide +kernel
theorem dX4_follow_78 : decode cX4_follow 78 = .ok (.aload_n 0, 1) := by decide +kernel
theorem dX4_follow_79 : decode cX4_follow 79 = .ok (.aload_n 2, 1) := by decide +kernel
theorem dX4_follow_80 : decode cX4_follow 80 = .ok (.aload_n 0, 1) := by decide +kernel
theorem dX4_follow_81 : decode cX4_follow 81 = .ok (.getfield 19, 3) := by decide +kernel
theorem dX4_follow_84 : decode cX4_follow 84 = .ok (.aload_n 0, 1) := by decide +kernel
theorem dX4_follow_85 : decode cX4_follow 85 = .ok (.getfield 9, 3) := by decide +kernel
theorem dX4_follow_88 : decode cX4_follow 88 = .ok (.iload 7, 2) := by decide +kernel
theorem dX4_follow_90 : decode cX4_follow 90 = .ok (.iaload, 1) := by decide +kernel
theorem dX4_follow_91 : decode cX4_follow 91 = .ok (.aload_n 0, 1) := by decide +kernel
theorem dX4_follow_92 : decode cX4_follow 92 = .ok (.getfield 15, 3) := by decide +kernel
theorem dX4_follow_95 : decode cX4_follow 95 = .ok (.iload 7, 2) := by decide +kernel
theorem dX4_follow_97 : decode cX4_follow 97 = .ok (.iaload, 1) := by decide +kernel
theorem dX4_follow_98 : decode cX4_follow 98 = .ok (.invokevirtual 44, 3) := by decide +kernel
theorem dX4_follow_101 : decode cX4_follow 101 = .ok (.putfield 19, 3) := by decide +kernel
theorem dX4_follow_104 : decode cX4_follow 104 = .ok (.aload_n 0, 1) := by decide +kernel
theorem dX4_follow_105 : decode cX4_follow 105 = .ok (.dup, 1) := by decide +kernel
theorem dX4_follow_106 : decode cX4_follow 106 = .ok (.getfield 23, 3) := by decide +kernel
theorem dX4_follow_109 : decode cX4_follow 109 = .ok (.iconst 1, 1) := by decide +kernel
theorem dX4_follow_110 : decode cX4_follow 110 = .ok (.iadd, 1) := by decide +kernel
theorem dX4_follow_111 : decode cX4_follow 111 = .ok (.putfield 23, 3) := by decide +kernel
theorem dX4_follow_114 : decode cX4_follow 114 = .ok (.iinc 6 1, 3) := by decide +kernel
theorem dX4_follow_117 : decode cX4_follow 117 = .ok (.goto (-68), 3) := by decide +kernel
theorem dX4_follow_120 : decode cX4_follow 120 = .ok (.return_, 1) := by decide +kernel
set_option maxRecDepth 20000 in
theorem ggX4_weigh_X1_wordMark : GoodIn wsX4_weigh wsX1_wordMark := goodIn_r _ [7, 8, 9, 10, 11, 44, 45, 46, 47, 48, 49, 50] (by decide +kernel) (by decide +kernel)
set_option maxRecDepth 20000 in
theorem gX4_weigh_X1_wordMark : GoodIn wsX4_weigh (wsV RX4 50 RX1 yX1_wordMark wsX1_wordMark) := goodIn_app (goodIn_of _ (by decide +kernel)) ggX4_weigh_X1_wordMark
set_option maxRecDepth 20000 in
theorem ggX4_weigh_X1_handsMark : GoodIn wsX4_weigh wsX1_handsMark := goodIn_r _ [15, 16, 17, 18, 19, 20, 21, 22, 23, 6, 24, 25, 26, 27, 28, 29, 9, 10, 11, 30, 31, 32, 33, 34, 35, 36, 44, 45, 46, 47, 48, 49, 50] (by decide +kernel) (by decide +kernel)
set_option maxRecDepth 20000 in
theorem gX4_weigh_X1_handsMark : GoodIn wsX4_weigh (wsV RX4 54 RX1 yX1_handsMark wsX1_handsMark) := goodIn_app (goodIn_of _ (by decide +kernel)) ggX4_weigh_X1_handsMark
set_option maxRecDepth 20000 in
theorem ggX4_weigh_X4_isTaken : GoodIn wsX4_weigh wsX4_isTaken := goodIn_r _ [40] (by decide +kernel) (by decide +kernel)
set_option maxRecDepth 20000 in
theorem gX4_weigh_X4_isTaken : GoodIn wsX4_weigh (va_wsS RX4 61 yX4_isTaken wsX4_isTaken) := goodIn_app (goodIn_of _ (by decide +kernel)) ggX4_weigh_X4_isTaken
set_option maxRecDepth 20000 in
theorem ggX4_weigh_X4_lead : GoodIn wsX4_weigh wsX4_lead := goodIn_r _ [43] (by decide +kernel) (by decide +kernel)
set_option maxRecDepth 20000 in
theorem gX4_weigh_X4_lead : GoodIn wsX4_weigh (va_wsS RX4 77 yX4_lead wsX4_lead) := goodIn_app (goodIn_of _ (by decide +kernel)) ggX4_weigh_X4_lead
theorem dX4_weigh_0 : decode cX4_weigh 0 = .ok (.aload 4, 2) := by decide +kernel
theorem dX4_weigh_2 : decode cX4_weigh 2 = .ok (.iload_n 1, 1) := by decide +kernel
theorem dX4_weigh_3 : decode cX4_weigh 3 = .ok (.iload_n 2, 1) := by decide +kernel
theorem dX4_weigh_4 : decode cX4_weigh 4 = .ok (.invokevirtual 50, 3) := by decide +kernel
theorem dX4_weigh_7 : decode cX4_weigh 7 = .ok (.istore 5, 2) := by decide +kernel
theorem dX4_weigh_9 : decode cX4_weigh 9 = .ok (.aload 4, 2) := by decide +kernel
theorem dX4_weigh_11 : decode cX4_weigh 11 = .ok (.iload_n 1, 1) := by decide +kernel
theorem dX4_weigh_12 : decode cX4_weigh 12 = .ok (.iload_n 2, 1) := by decide +kernel
theorem dX4_weigh_13 : decode cX4_weigh 13 = .ok (.invokevirtual 54, 3) := by decide +kernel
theorem dX4_weigh_16 : decode cX4_weigh 16 = .ok (.istore 6, 2) := by decide +kernel
theorem dX4_weigh_18 : decode cX4_weigh 18 = .ok (.aload 4, 2) := by decide +kernel
theorem dX4_weigh_20 : decode cX4_weigh 20 = .ok (.getfield 57, 3) := by decide +kernel
theorem dX4_weigh_23 : decode cX4_weigh 23 = .ok (.iload_n 1, 1) := by decide +kernel
theorem dX4_weigh_24 : decode cX4_weigh 24 = .ok (.baload, 1) := by decide +kernel
theorem dX4_weigh_25 : decode cX4_weigh 25 = .ok (.istore 7, 2) := by decide +kernel
theorem dX4_weigh_27 : decode cX4_weigh 27 = .ok (.aload_n 0, 1) := by decide +kernel
theorem dX4_weigh_28 : decode cX4_weigh 28 = .ok (.getfield 9, 3) := by decide +kernel
theorem dX4_weigh_31 : decode cX4_weigh 31 = .ok (.iload_n 1, 1) := by decide +kernel
theorem dX4_weigh_32 : decode cX4_weigh 32 = .ok (.bipush (-10), 2) := by decide +kernel
theorem dX4_weigh_34 : decode cX4_weigh 34 = .ok (.iastore, 1) := by decide +kernel
theorem dX4_weigh_35 : decode cX4_weigh 35 = .ok (.aload_n 0, 1) := by decide +kernel
theorem dX4_weigh_36 : decode cX4_weigh 36 = .ok (.getfield 15, 3) := by decide +kernel
theorem dX4_weigh_39 : decode cX4_weigh 39 = .ok (.iload_n 1, 1) := by decide +kernel
theorem dX4_weigh_40 : decode cX4_weigh 40 = .ok (.iconst 1, 1) := by decide +kernel
theorem dX4_weigh_41 : decode cX4_weigh 41 = .ok (.iastore, 1) := by decide +kernel
theorem dX4_weigh_42 : decode cX4_weigh 42 = .ok (.iload 5, 2) := by decide +kernel
theorem dX4_weigh_44 : decode cX4_weigh 44 = .ok (.iload 6, 2) := by decide +kernel
theorem dX4_weigh_46 : decode cX4_weigh 46 = .ok (.iload 7, 2) := by decide +kernel
theorem dX4_weigh_48 : decode cX4_weigh 48 = .ok (.invokestatic 61, 3) := by decide +kernel
theorem dX4_weigh_51 : decode cX4_weigh 51 = .ok (.ifCond .ne 4, 3) := by decide +kernel
theorem dX4_weigh_54 : decode cX4_weigh 54 = .ok (.return_, 1) := by decide +kernel
theorem dX4_weigh_55 : decode cX4_weigh 55 = .ok (.iconst 0, 1) := by decide +kernel
theorem dX4_weigh_56 : decode cX4_weigh 56 = .ok (.istore 8, 2) := by decide +kernel
theorem dX4_weigh_58 : decode cX4_weigh 58 = .ok (.iload 8, 2) := by decide +kernel
theorem dX4_weigh_60 : decode cX4_weigh 60 = .ok (.aload_n 3, 1) := by decide +kernel
theorem dX4_weigh_61 : decode cX4_weigh 61 = .ok (.getfield 65, 3) := by decide +kernel
theorem dX4_weigh_64 : decode cX4_weigh 64 = .ok (.if_icmp .ge 117, 3) := by decide +kernel
theorem dX4_weigh_67 : decode cX4_weigh 67 = .ok (.aload_n 3, 1) := by decide +kernel
theorem dX4_weigh_68 : decode cX4_weigh 68 = .ok (.getfield 68, 3) := by decide +kernel
theorem dX4_weigh_71 : decode cX4_weigh 71 = .ok (.iload 8, 2) := by decide +kernel
theorem dX4_weigh_73 : decode cX4_weigh 73 = .ok (.iaload, 1) := by decide +kernel
theorem dX4_weigh_74 : decode cX4_weigh 74 = .ok (.istore 9, 2) := by decide +kernel
theorem dX4_weigh_76 : decode cX4_weigh 76 = .ok (.iload 5, 2) := by decide +kernel
theorem dX4_weigh_78 : decode cX4_weigh 78 = .ok (.aload_n 3, 1) := by decide +kernel
theorem dX4_weigh_79 : decode cX4_weigh 79 = .ok (.getfield 71, 3) := by decide +kernel
theorem dX4_weigh_82 : decode cX4_weigh 82 = .ok (.iload 8, 2) := by decide +kernel
theorem dX4_weigh_84 : decode cX4_weigh 84 = .ok (.iaload, 1) := by decide +kernel
theorem dX4_weigh_85 : decode cX4_weigh 85 = .ok (.aload_n 3, 1) := by decide +kernel
theorem dX4_weigh_86 : decode cX4_weigh 86 = .ok (.getfield 74, 3) := by decide +kernel
theorem dX4_weigh_89 : decode cX4_weigh 89 = .ok (.iload 8, 2) := by decide +kernel
theorem dX4_weigh_91 : decode cX4_weigh 91 = .ok (.iaload, 1) := by decide +kernel
theorem dX4_weigh_92 : decode cX4_weigh 92 = .ok (.invokestatic 77, 3) := by decide +kernel
theorem dX4_weigh_95 : decode cX4_weigh 95 = .ok (.istore 10, 2) := by decide +kernel
theorem dX4_weigh_97 : decode cX4_weigh 97 = .ok (.iload 7, 2) := by decide +kernel
theorem dX4_weigh_99 : decode cX4_weigh 99 = .ok (.ifCond .eq 10, 3) := by decide +kernel
theorem dX4_weigh_102 : decode cX4_weigh 102 = .ok (.iload 10, 2) := by decide +kernel
theorem dX4_weigh_104 : decode cX4_weigh 104 = .ok (.iconst 1, 1) := by decide +kernel
theorem dX4_weigh_105 : decode cX4_weigh 105 = .ok (.iadd, 1) := by decide +kernel
theorem dX4_weigh_106 : decode cX4_weigh 106 = .ok (.goto 25, 3) := by decide +kernel
theorem dX4_weigh_109 : decode cX4_weigh 109 = .ok (.iload 10, 2) := by decide +kernel
theorem dX4_weigh_111 : decode cX4_weigh 111 = .ok (.iload 6, 2) := by decide +kernel
theorem dX4_weigh_113 : decode cX4_weigh 113 = .ok (.aload_n 3, 1) := by decide +kernel
theorem dX4_weigh_114 : decode cX4_weigh 114 = .ok (.getfield 71, 3) := by decide +kernel
theorem dX4_weigh_117 : decode cX4_weigh 117 = .ok (.iload 8, 2) := by decide +kernel
theorem dX4_weigh_119 : decode cX4_weigh 119 = .ok (.iaload, 1) := by decide +kernel
theorem dX4_weigh_120 : decode cX4_weigh 120 = .ok (.aload_n 3, 1) := by decide +kernel
theorem dX4_weigh_121 : decode cX4_weigh 121 = .ok (.getfield 74, 3) := by decide +kernel
theorem dX4_weigh_124 : decode cX4_weigh 124 = .ok (.iload 8, 2) := by decide +kernel
theorem dX4_weigh_126 : decode cX4_weigh 126 = .ok (.iaload, 1) := by decide +kernel
theorem dX4_weigh_127 : decode cX4_weigh 127 = .ok (.invokestatic 77, 3) := by decide +kernel
theorem dX4_weigh_130 : decode cX4_weigh 130 = .ok (.isub, 1) := by decide +kernel
theorem dX4_weigh_131 : decode cX4_weigh 131 = .ok (.istore 11, 2) := by decide +kernel
theorem dX4_weigh_133 : decode cX4_weigh 133 = .ok (.iload 8, 2) := by decide +kernel
theorem dX4_weigh_135 : decode cX4_weigh 135 = .ok (.ifCond .eq 24, 3) := by decide +kernel
theorem dX4_weigh_138 : decode cX4_weigh 138 = .ok (.iload 11, 2) := by decide +kernel
theorem dX4_weigh_140 : decode cX4_weigh 140 = .ok (.aload_n 0, 1) := by decide +kernel
theorem dX4_weigh_141 : decode cX4_weigh 141 = .ok (.getfield 15, 3) := by decide +kernel
theorem dX4_weigh_144 : decode cX4_weigh 144 = .ok (.iload_n 1, 1) := by decide +kernel
theorem dX4_weigh_145 : decode cX4_weigh 145 = .ok (.iaload, 1) := by decide +kernel
theorem dX4_weigh_146 : decode cX4_weigh 146 = .ok (.imul, 1) := by decide +kernel
theorem dX4_weigh_147 : decode cX4_weigh 147 = .ok (.aload_n 0, 1) := by decide +kernel
theorem dX4_weigh_148 : decode cX4_weigh 148 = .ok (.getfield 9, 3) := by decide +kernel
theorem dX4_weigh_151 : decode cX4_weigh 151 = .ok (.iload_n 1, 1) := by decide +kernel
theorem dX4_weigh_152 : decode cX4_weigh 152 = .ok (.iaload, 1) := by decide +kernel
theorem dX4_weigh_153 : decode cX4_weigh 153 = .ok (.iload 9, 2) := by decide +kernel
theorem dX4_weigh_155 : decode cX4_weigh 155 = .ok (.imul, 1) := by decide +kernel
theorem dX4_weigh_156 : decode cX4_weigh 156 = .ok (.if_icmp .le 19, 3) := by decide +kernel
theorem dX4_weigh_159 : decode cX4_weigh 159 = .ok (.aload_n 0, 1) := by decide +kernel
theorem dX4_weigh_160 : decode cX4_weigh 160 = .ok (.getfield 9, 3) := by decide +kernel
theorem dX4_weigh_163 : decode cX4_weigh 163 = .ok (.iload_n 1, 1) := by decide +kernel
theorem dX4_weigh_164 : decode cX4_weigh 164 = .ok (.iload 11, 2) := by decide +kernel
theorem dX4_weigh_166 : decode cX4_weigh 166 = .ok (.iastore, 1) := by decide +kernel
theorem dX4_weigh_167 : decode cX4_weigh 167 = .ok (.aload_n 0, 1) := by decide +kernel
theorem dX4_weigh_168 : decode cX4_weigh 168 = .ok (.getfield 15, 3) := by decide +kernel
theorem dX4_weigh_171 : decode cX4_weigh 171 = .ok (.iload_n 1, 1) := by decide +kernel
theorem dX4_weigh_172 : decode cX4_weigh 172 = .ok (.iload 9, 2) := by decide +kernel
theorem dX4_weigh_174 : decode cX4_weigh 174 = .ok (.iastore, 1) := by decide +kernel
theorem dX4_weigh_175 : decode cX4_weigh 175 = .ok (.iinc 8 1, 3) := by decide +kernel
theorem dX4_weigh_178 : decode cX4_weigh 178 = .ok (.goto (-120), 3) := by decide +kernel
theorem dX4_weigh_181 : decode cX4_weigh 181 = .ok (.return_, 1) := by decide +kernel
theorem dX4_isTaken_0 : decode cX4_isTaken 0 = .ok (.iload_n 2, 1) := by decide +kernel
theorem dX4_isTaken_1 : decode cX4_isTaken 1 = .ok (.ifCond .eq 15, 3) := by decide +kernel
theorem dX4_isTaken_4 : decode cX4_isTaken 4 = .ok (.iload_n 0, 1) := by decide +kernel
theorem dX4_isTaken_5 : decode cX4_isTaken 5 = .ok (.bipush 7, 2) := by decide +kernel
theorem dX4_isTaken_7 : decode cX4_isTaken 7 = .ok (.if_icmp .eq 7, 3) := by decide +kernel
theorem dX4_isTaken_10 : decode cX4_isTaken 10 = .ok (.iconst 1, 1) := by decide +kernel
theorem dX4_isTaken_11 : decode cX4_isTaken 11 = .ok (.goto 4, 3) := by decide +kernel
theorem dX4_isTaken_14 : decode cX4_isTaken 14 = .ok (.iconst 0, 1) := by decide +kernel
theorem dX4_isTaken_15 : decode cX4_isTaken 15 = .ok (.ireturn, 1) := by decide +kernel
theorem dX4_isTaken_16 : decode cX4_isTaken 16 = .ok (.iload_n 1, 1) := by decide +kernel
theorem dX4_isTaken_17 : decode cX4_isTaken 17 = .ok (.iconst (-1), 1) := by decide +kernel
theorem dX4_isTaken_18 : decode cX4_isTaken 18 = .ok (.if_icmp .ne 5, 3) := by decide +kernel
theorem dX4_isTaken_21 : decode cX4_isTaken 21 = .ok (.iconst 0, 1) := by decide +kernel
theorem dX4_isTaken_22 : decode cX4_isTaken 22 = .ok (.ireturn, 1) := by decide +kernel
theorem dX4_isTaken_23 : decode cX4_isTaken 23 = .ok (.iload_n 0, 1) := by decide +kernel
theorem dX4_isTaken_24 : decode cX4_isTaken 24 = .ok (.bipush 7, 2) := by decide +kernel
theorem dX4_isTaken_26 : decode cX4_isTaken 26 = .ok (.if_icmp .ne 9, 3) := by decide +kernel
theorem dX4_isTaken_29 : decode cX4_isTaken 29 = .ok (.iload_n 1, 1) := by decide +kernel
theorem dX4_isTaken_30 : decode cX4_isTaken 30 = .ok (.bipush 7, 2) := by decide +kernel
theorem dX4_isTaken_32 : decode cX4_isTaken 32 = .ok (.if_icmp .eq 7, 3) := by decide +kernel
theorem dX4_isTaken_35 : decode cX4_isTaken 35 = .ok (.iconst 1, 1) := by decide +kernel
theorem dX4_isTaken_36 : decode cX4_isTaken 36 = .ok (.goto 4, 3) := by decide +kernel
theorem dX4_isTaken_39 : decode cX4_isTaken 39 = .ok (.iconst 0, 1) := by decide +kernel
theorem dX4_isTaken_40 : decode cX4_isTaken 40 = .ok (.ireturn, 1) := by decide +kernel
theorem dX4_lead_0 : decode cX4_lead 0 = .ok (.iload_n 0, 1) := by decide +kernel
theorem dX4_lead_1 : decode cX4_lead 1 = .ok (.iload_n 1, 1) := by decide +kernel
theorem dX4_lead_2 : decode cX4_lead 2 = .ok (.if_icmp .ne 5, 3) := by decide +kernel
theorem dX4_lead_5 : decode cX4_lead 5 = .ok (.iconst 1, 1) := by decide +kernel
theorem dX4_lead_6 : decode cX4_lead 6 = .ok (.ireturn, 1) := by decide +kernel
theorem dX4_lead_7 : decode cX4_lead 7 = .ok (.iload_n 0, 1) := by decide +kernel
theorem dX4_lead_8 : decode cX4_lead 8 = .ok (.iload_n 2, 1) := by decide +kernel
theorem dX4_lead_9 : decode cX4_lead 9 = .ok (.if_icmp .ne 7, 3) := by decide +kernel
theorem dX4_lead_12 : decode cX4_lead 12 = .ok (.iconst (-1), 1) := by decide +kernel
theorem dX4_lead_13 : decode cX4_lead 13 = .ok (.goto 4, 3) := by decide +kernel
theorem dX4_lead_16 : decode cX4_lead 16 = .ok (.iconst 0, 1) := by decide +kernel
theorem dX4_lead_17 : decode cX4_lead 17 = .ok (.ireturn, 1) := by decide +kernel
set_option maxRecDepth 20000 in
theorem ggX5_init_X2_init : GoodIn wsX5_init wsX2_init := goodIn_r _ [28, 29, 2, 3, 30, 21, 22, 31, 32, 33, 34, 35, 36, 37, 38, 39, 40, 41, 42, 43, 44, 45, 46, 103, 79, 80, 81, 82, 83, 84, 85, 86, 87, 88] (by decide +kernel) (by decide +kernel)
set_option maxRecDepth 20000 in
theorem gX5_init_X2_init_n15 : GoodIn wsX5_init (wsX2_init) := ggX5_init_X2_init
set_option maxRecDepth 20000 in
theorem ggX5_init_X1_init : GoodIn wsX5_init wsX1_init := goodIn_r _ [48, 49, 2, 3, 34, 50, 51, 32, 52, 53, 54, 55, 56, 89, 90, 91, 92, 93, 94, 95] (by decide +kernel) (by decide +kernel)
set_option maxRecDepth 20000 in
theorem gX5_init_X1_init_n18 : GoodIn wsX5_init (wsX1_init) := ggX5_init_X1_init
set_option maxRecDepth 20000 in
theorem ggX5_init_X0_init : GoodIn wsX5_init wsX0_init := goodIn_r _ [58, 59, 2, 3, 34, 60, 61, 62, 96, 97, 98] (by decide +kernel) (by decide +kernel)
set_option maxRecDepth 20000 in
theorem gX5_init_X0_init_n25 : GoodIn wsX5_init (wsX0_init) := ggX5_init_X0_init
set_option maxRecDepth 20000 in
theorem ggX5_init_X4_init : GoodIn wsX5_init wsX4_init := goodIn_r _ [64, 65, 2, 3, 34, 66, 67, 68, 69, 70, 99, 100, 101, 102] (by decide +kernel) (by decide +kernel)
set_option maxRecDepth 20000 in
theorem gX5_init_X4_init_n32 : GoodIn wsX5_init (wsX4_init) := ggX5_init_X4_init
set_option maxRecDepth 20000 in
theorem ggX5_init_X3_init : GoodIn wsX5_init wsX3_init := goodIn_r _ [44, 45, 2, 3, 34, 46, 103] (by decide +kernel) (by decide +kernel)
set_option maxRecDepth 20000 in
theorem gX5_init_X3_init_n39 : GoodIn wsX5_init (wsX3_init) := ggX5_init_X3_init
theorem dX5_init_0 : decode cX5_init 0 = .ok (.aload_n 0, 1) := by decide +kernel
theorem dX5_init_1 : decode cX5_init 1 = .ok (.invokespecial 3, 3) := by decide +kernel
theorem dX5_init_4 : decode cX5_init 4 = .ok (.aload_n 0, 1) := by decide +kernel
theorem dX5_init_5 : decode cX5_init 5 = .ok (.iconst 5, 1) := by decide +kernel
theorem dX5_init_6 : decode cX5_init 6 = .ok (.anewarray 9, 3) := by decide +kernel
theorem dX5_init_9 : decode cX5_init 9 = .ok (.putfield 11, 3) := by decide +kernel
theorem dX5_init_12 : decode cX5_init 12 = .ok (.iconst 0, 1) := by decide +kernel
theorem dX5_init_13 : decode cX5_init 13 = .ok (.istore_n 1, 1) := by decide +kernel
theorem dX5_init_14 : decode cX5_init 14 = .ok (.iload_n 1, 1) := by decide +kernel
theorem dX5_init_15 : decode cX5_init 15 = .ok (.iconst 5, 1) := by decide +kernel
theorem dX5_init_16 : decode cX5_init 16 = .ok (.if_icmp .ge 22, 3) := by decide +kernel
theorem dX5_init_19 : decode cX5_init 19 = .ok (.aload_n 0, 1) := by decide +kernel
theorem dX5_init_20 : decode cX5_init 20 = .ok (.getfield 11, 3) := by decide +kernel
theorem dX5_init_23 : decode cX5_init 23 = .ok (.iload_n 1, 1) := by decide +kernel
theorem dX5_init_24 : decode cX5_init 24 = .ok (.new 9, 3) := by decide +kernel
theorem dX5_init_27 : decode cX5_init 27 = .ok (.dup, 1) := by decide +kernel
theorem dX5_init_28 : decode cX5_init 28 = .ok (.invokespecial 15, 3) := by decide +kernel
theorem dX5_init_31 : decode cX5_init 31 = .ok (.aastore, 1) := by decide +kernel
theorem dX5_init_32 : decode cX5_init 32 = .ok (.iinc 1 1, 3) := by decide +kernel
theorem dX5_init_35 : decode cX5_init 35 = .ok (.goto (-21), 3) := by decide +kernel
theorem dX5_init_38 : decode cX5_init 38 = .ok (.aload_n 0, 1) := by decide +kernel
theorem dX5_init_39 : decode cX5_init 39 = .ok (.new 16, 3) := by decide +kernel
theorem dX5_init_42 : decode cX5_init 42 = .ok (.dup, 1) := by decide +kernel
theorem dX5_init_43 : decode cX5_init 43 = .ok (.invokespecial 18, 3) := by decide +kernel
theorem dX5_init_46 : decode cX5_init 46 = .ok (.putfield 19, 3) := by decide +kernel
theorem dX5_init_49 : decode cX5_init 49 = .ok (.aload_n 0, 1) := by decide +kernel
theorem dX5_init_50 : decode cX5_init 50 = .ok (.new 23, 3) := by decide +kernel
theorem dX5_init_53 : decode cX5_init 53 = .ok (.dup, 1) := by decide +kernel
theorem dX5_init_54 : decode cX5_init 54 = .ok (.invokespecial 25, 3) := by decide +kernel
theorem dX5_init_57 : decode cX5_init 57 = .ok (.putfield 26, 3) := by decide +kernel
theorem dX5_init_60 : decode cX5_init 60 = .ok (.aload_n 0, 1) := by decide +kernel
theorem dX5_init_61 : decode cX5_init 61 = .ok (.new 30, 3) := by decide +kernel
theorem dX5_init_64 : decode cX5_init 64 = .ok (.dup, 1) := by decide +kernel
theorem dX5_init_65 : decode cX5_init 65 = .ok (.invokespecial 32, 3) := by decide +kernel
theorem dX5_init_68 : decode cX5_init 68 = .ok (.putfield 33, 3) := by decide +kernel
theorem dX5_init_71 : decode cX5_init 71 = .ok (.aload_n 0, 1) := by decide +kernel
theorem dX5_init_72 : decode cX5_init 72 = .ok (.new 37, 3) := by decide +kernel
theorem dX5_init_75 : decode cX5_init 75 = .ok (.dup, 1) := by decide +kernel
theorem dX5_init_76 : decode cX5_init 76 = .ok (.invokespecial 39, 3) := by decide +kernel
theorem dX5_init_79 : decode cX5_init 79 = .ok (.putfield 40, 3) := by decide +kernel
theorem dX5_init_82 : decode cX5_init 82 = .ok (.aload_n 0, 1) := by decide +kernel
theorem dX5_init_83 : decode cX5_init 83 = .ok (.iconst 0, 1) := by decide +kernel
theorem dX5_init_84 : decode cX5_init 84 = .ok (.putfield 44, 3) := by decide +kernel
theorem dX5_init_87 : decode cX5_init 87 = .ok (.aload_n 0, 1) := by decide +kernel
theorem dX5_init_88 : decode cX5_init 88 = .ok (.iconst 0, 1) := by decide +kernel
theorem dX5_init_89 : decode cX5_init 89 = .ok (.putfield 48, 3) := by decide +kernel
theorem dX5_init_92 : decode cX5_init 92 = .ok (.aload_n 0, 1) := by decide +kernel
theorem dX5_init_93 : decode cX5_init 93 = .ok (.iconst 0, 1) := by decide +kernel
theorem dX5_init_94 : decode cX5_init 94 = .ok (.putfield 51, 3) := by decide +kernel
theorem dX5_init_97 : decode cX5_init 97 = .ok (.return_, 1) := by decide +kernel
set_option maxRecDepth 20000 in
theorem ggX5_race_X2_open : GoodIn wsX5_race wsX2_open := goodIn_r _ [8, 9, 10, 11, 12, 13, 7, 14, 15, 16, 17, 18, 19, 20, 21, 22, 23, 24, 25, 26, 27, 28, 29, 30, 31, 32, 33, 34, 35, 36, 37, 38, 39, 55, 56, 57, 58, 59, 60, 61, 62, 63, 64, 65] (by decide +kernel) (by decide +kernel)
set_option maxRecDepth 20000 in
theorem gX5_race_X2_open : GoodIn wsX5_race (wsV RX5 58 RX2 yX2_open wsX2_open) := goodIn_app (goodIn_of _ (by decide +kernel)) ggX5_race_X2_open
theorem dX5_race_0 : decode cX5_race 0 = .ok (.aload_n 0, 1) := by decide +kernel
theorem dX5_race_1 : decode cX5_race 1 = .ok (.getfield 44, 3) := by decide +kernel
theorem dX5_race_4 : decode cX5_race 4 = .ok (.iconst 5, 1) := by decide +kernel
theorem dX5_race_5 : decode cX5_race 5 = .ok (.if_icmp .ge 13, 3) := by decide +kernel
theorem dX5_race_8 : decode cX5_race 8 = .ok (.aload_n 0, 1) := by decide +kernel
theorem dX5_race_9 : decode cX5_race 9 = .ok (.getfield 19, 3) := by decide +kernel
theorem dX5_race_12 : decode cX5_race 12 = .ok (.getfield 55, 3) := by decide +kernel
theorem dX5_race_15 : decode cX5_race 15 = .ok (.ifCond .le 5, 3) := by decide +kernel
theorem dX5_race_18 : decode cX5_race 18 = .ok (.iconst (-1), 1) := by decide +kernel
theorem dX5_race_19 : decode cX5_race 19 = .ok (.ireturn, 1) := by decide +kernel
theorem dX5_race_20 : decode cX5_race 20 = .ok (.iload_n 1, 1) := by decide +kernel
theorem dX5_race_21 : decode cX5_race 21 = .ok (.iconst 2, 1) := by decide +kernel
theorem dX5_race_22 : decode cX5_race 22 = .ok (.if_icmp .lt 9, 3) := by decide +kernel
theorem dX5_race_25 : decode cX5_race 25 = .ok (.iload_n 1, 1) := by decide +kernel
theorem dX5_race_26 : decode cX5_race 26 = .ok (.bipush 6, 2) := by decide +kernel
theorem dX5_race_28 : decode cX5_race 28 = .ok (.if_icmp .le 5, 3) := by decide +kernel
theorem dX5_race_31 : decode cX5_race 31 = .ok (.iconst (-1), 1) := by decide +kernel
theorem dX5_race_32 : decode cX5_race 32 = .ok (.ireturn, 1) := by decide +kernel
theorem dX5_race_33 : decode cX5_race 33 = .ok (.iload_n 2, 1) := by decide +kernel
theorem dX5_race_34 : decode cX5_race 34 = .ok (.iconst 1, 1) := by decide +kernel
theorem dX5_race_35 : decode cX5_race 35 = .ok (.if_icmp .lt 8, 3) := by decide +kernel
theorem dX5_race_38 : decode cX5_race 38 = .ok (.iload_n 2, 1) := by decide +kernel
theorem dX5_race_39 : decode cX5_race 39 = .ok (.iload_n 1, 1) := by decide +kernel
theorem dX5_race_40 : decode cX5_race 40 = .ok (.if_icmp .lt 5, 3) := by decide +kernel
theorem dX5_race_43 : decode cX5_race 43 = .ok (.iconst (-1), 1) := by decide +kernel
theorem dX5_race_44 : decode cX5_race 44 = .ok (.ireturn, 1) := by decide +kernel
theorem dX5_race_45 : decode cX5_race 45 = .ok (.aload_n 0, 1) := by decide +kernel
theorem dX5_race_46 : decode cX5_race 46 = .ok (.getfield 11, 3) := by decide +kernel
theorem dX5_race_49 : decode cX5_race 49 = .ok (.aload_n 0, 1) := by decide +kernel
theorem dX5_race_50 : decode cX5_race 50 = .ok (.getfield 44, 3) := by decide +kernel
theorem dX5_race_53 : decode cX5_race 53 = .ok (.aaload, 1) := by decide +kernel
theorem dX5_race_54 : decode cX5_race 54 = .ok (.iload_n 1, 1) := by decide +kernel
theorem dX5_race_55 : decode cX5_race 55 = .ok (.iload_n 2, 1) := by decide +kernel
theorem dX5_race_56 : decode cX5_race 56 = .ok (.invokevirtual 58, 3) := by decide +kernel
theorem dX5_race_59 : decode cX5_race 59 = .ok (.aload_n 0, 1) := by decide +kernel
theorem dX5_race_60 : decode cX5_race 60 = .ok (.dup, 1) := by decide +kernel
theorem dX5_race_61 : decode cX5_race 61 = .ok (.getfield 44, 3) := by decide +kernel
theorem dX5_race_64 : decode cX5_race 64 = .ok (.iconst 1, 1) := by decide +kernel
theorem dX5_race_65 : decode cX5_race 65 = .ok (.iadd, 1) := by decide +kernel
theorem dX5_race_66 : decode cX5_race 66 = .ok (.putfield 44, 3) := by decide +kernel
theorem dX5_race_69 : decode cX5_race 69 = .ok (.aload_n 0, 1) := by decide +kernel
theorem dX5_race_70 : decode cX5_race 70 = .ok (.getfield 44, 3) := by decide +kernel
theorem dX5_race_73 : decode cX5_race 73 = .ok (.iconst 1, 1) := by decide +kernel
theorem dX5_race_74 : decode cX5_race 74 = .ok (.isub, 1) := by decide +kernel
theorem dX5_race_75 : decode cX5_race 75 = .ok (.ireturn, 1) := by decide +kernel
theorem dX5_box_0 : decode cX5_box 0 = .ok (.aload_n 0, 1) := by decide +kernel
theorem dX5_box_1 : decode cX5_box 1 = .ok (.getfield 48, 3) := by decide +kernel
theorem dX5_box_4 : decode cX5_box 4 = .ok (.bipush 10, 2) := by decide +kernel
theorem dX5_box_6 : decode cX5_box 6 = .ok (.if_icmp .ge 10, 3) := by decide +kernel
theorem dX5_box_9 : decode cX5_box 9 = .ok (.aload_n 0, 1) := by decide +kernel
theorem dX5_box_10 : decode cX5_box 10 = .ok (.getfield 51, 3) := by decide +kernel
theorem dX5_box_13 : decode cX5_box 13 = .ok (.ifCond .eq 5, 3) := by decide +kernel
theorem dX5_box_16 : decode cX5_box 16 = .ok (.iconst (-1), 1) := by decide +kernel
theorem dX5_box_17 : decode cX5_box 17 = .ok (.ireturn, 1) := by decide +kernel
theorem dX5_box_18 : decode cX5_box 18 = .ok (.aload_n 0, 1) := by decide +kernel
theorem dX5_box_19 : decode cX5_box 19 = .ok (.dup, 1) := by decide +kernel
theorem dX5_box_20 : decode cX5_box 20 = .ok (.getfield 48, 3) := by decide +kernel
theorem dX5_box_23 : decode cX5_box 23 = .ok (.iconst 1, 1) := by decide +kernel
theorem dX5_box_24 : decode cX5_box 24 = .ok (.iadd, 1) := by decide +kernel
theorem dX5_box_25 : decode cX5_box 25 = .ok (.putfield 48, 3) := by decide +kernel
theorem dX5_box_28 : decode cX5_box 28 = .ok (.aload_n 0, 1) := by decide +kernel
theorem dX5_box_29 : decode cX5_box 29 = .ok (.getfield 48, 3) := by decide +kernel
theorem dX5_box_32 : decode cX5_box 32 = .ok (.iconst 1, 1) := by decide +kernel
theorem dX5_box_33 : decode cX5_box 33 = .ok (.isub, 1) := by decide +kernel
theorem dX5_box_34 : decode cX5_box 34 = .ok (.ireturn, 1) := by decide +kernel
set_option maxRecDepth 20000 in
theorem ggX5_paper_X5_hasBox : GoodIn wsX5_paper wsX5_hasBox := goodIn_r _ [11, 12, 73, 74, 75, 76, 77, 78, 79, 80] (by decide +kernel) (by decide +kernel)
set_option maxRecDepth 20000 in
theorem gX5_paper_X5_hasBox : GoodIn wsX5_paper (wsV RX5 62 RX5 yX5_hasBox wsX5_hasBox) := goodIn_app (goodIn_of _ (by decide +kernel)) ggX5_paper_X5_hasBox
set_option maxRecDepth 20000 in
theorem ggX5_paper_X5_isPossible : GoodIn wsX5_paper wsX5_isPossible := goodIn_r _ [16, 5, 6, 17, 18, 10, 19, 20, 21, 22, 23, 24, 25, 73, 74, 75, 76, 77, 78, 79, 80, 88, 89, 90, 91, 92, 93, 94, 95, 96, 97] (by decide +kernel) (by decide +kernel)
set_option maxRecDepth 20000 in
theorem gX5_paper_X5_isPossible : GoodIn wsX5_paper (wsV RX5 73 RX5 yX5_isPossible wsX5_isPossible) := goodIn_app (goodIn_of _ (by decide +kernel)) ggX5_paper_X5_isPossible
set_option maxRecDepth 20000 in
theorem ggX5_paper_X5_markOf : GoodIn wsX5_paper wsX5_markOf := goodIn_r _ [19] (by decide +kernel) (by decide +kernel)
set_option maxRecDepth 20000 in
theorem gX5_paper_X5_markOf : GoodIn wsX5_paper (va_wsS RX5 76 yX5_markOf wsX5_markOf) := goodIn_app (goodIn_of _ (by decide +kernel)) ggX5_paper_X5_markOf
set_option maxRecDepth 20000 in
theorem ggX5_paper_X2_addWord : GoodIn wsX5_paper wsX2_addWord := goodIn_r _ [29, 30, 31, 32, 33, 34, 35, 36, 37, 38, 39, 40, 23, 41, 25, 42, 43, 44, 45, 46, 47, 48, 49, 50, 51, 52, 53, 54, 55, 56, 57, 58, 59, 60, 61, 62, 63, 64, 88, 89, 90, 91, 92, 93, 94, 95, 96, 97, 98] (by decide +kernel) (by decide +kernel)
set_option maxRecDepth 20000 in
theorem gX5_paper_X2_addWord : GoodIn wsX5_paper (wsV RX5 80 RX2 yX2_addWord wsX2_addWord) := goodIn_app (goodIn_of _ (by decide +kernel)) ggX5_paper_X2_addWord
set_option maxRecDepth 20000 in
theorem ggX5_paper_X1_add : GoodIn wsX5_paper wsX1_add := goodIn_r _ [69, 70, 71, 72, 81, 82, 83, 84, 85, 86, 87] (by decide +kernel) (by decide +kernel)
set_option maxRecDepth 20000 in
theorem gX5_paper_X1_add : GoodIn wsX5_paper (wsV RX5 84 RX1 yX1_add wsX1_add) := goodIn_app (goodIn_of _ (by decide +kernel)) ggX5_paper_X1_add
theorem dX5_paper_0 : decode cX5_paper 0 = .ok (.aload_n 0, 1) := by decide +kernel
theorem dX5_paper_1 : decode cX5_paper 1 = .ok (.iload_n 1, 1) := by decide +kernel
theorem dX5_paper_2 : decode cX5_paper 2 = .ok (.invokevirtual 62, 3) := by decide +kernel
theorem dX5_paper_5 : decode cX5_paper 5 = .ok (.ifCond .ne 13, 3) := by decide +kernel
theorem dX5_paper_8 : decode cX5_paper 8 = .ok (.new 66, 3) := by decide +kernel
theorem dX5_paper_11 : decode cX5_paper 11 = .ok (.dup, 1) := by decide +kernel
theorem dX5_paper_12 : decode cX5_paper 12 = .ok (.ldc 68, 2) := by decide +kernel
theorem dX5_paper_14 : decode cX5_paper 14 = .ok (.invokespecial 70, 3) := by decide +kernel
theorem dX5_paper_17 : decode cX5_paper 17 = .ok (.athrow, 1) := by decide +kernel
theorem dX5_paper_18 : decode cX5_paper 18 = .ok (.aload_n 0, 1) := by decide +kernel
theorem dX5_paper_19 : decode cX5_paper 19 = .ok (.getfield 19, 3) := by decide +kernel
theorem dX5_paper_22 : decode cX5_paper 22 = .ok (.getfield 55, 3) := by decide +kernel
theorem dX5_paper_25 : decode cX5_paper 25 = .ok (.sipush 300, 3) := by decide +kernel
theorem dX5_paper_28 : decode cX5_paper 28 = .ok (.if_icmp .ge 18, 3) := by decide +kernel
theorem dX5_paper_31 : decode cX5_paper 31 = .ok (.aload_n 0, 1) := by decide +kernel
theorem dX5_paper_32 : decode cX5_paper 32 = .ok (.getfield 51, 3) := by decide +kernel
theorem dX5_paper_35 : decode cX5_paper 35 = .ok (.ifCond .ne 11, 3) := by decide +kernel
theorem dX5_paper_38 : decode cX5_paper 38 = .ok (.aload_n 0, 1) := by decide +kernel
theorem dX5_paper_39 : decode cX5_paper 39 = .ok (.iload_n 2, 1) := by decide +kernel
theorem dX5_paper_40 : decode cX5_paper 40 = .ok (.invokevirtual 73, 3) := by decide +kernel
theorem dX5_paper_43 : decode cX5_paper 43 = .ok (.ifCond .ne 5, 3) := by decide +kernel
theorem dX5_paper_46 : decode cX5_paper 46 = .ok (.iconst (-1), 1) := by decide +kernel
theorem dX5_paper_47 : decode cX5_paper 47 = .ok (.ireturn, 1) := by decide +kernel
theorem dX5_paper_48 : decode cX5_paper 48 = .ok (.iconst 0, 1) := by decide +kernel
theorem dX5_paper_49 : decode cX5_paper 49 = .ok (.istore_n 3, 1) := by decide +kernel
theorem dX5_paper_50 : decode cX5_paper 50 = .ok (.iload_n 3, 1) := by decide +kernel
theorem dX5_paper_51 : decode cX5_paper 51 = .ok (.aload_n 0, 1) := by decide +kernel
theorem dX5_paper_52 : decode cX5_paper 52 = .ok (.getfield 44, 3) := by decide +kernel
theorem dX5_paper_55 : decode cX5_paper 55 = .ok (.if_icmp .ge 23, 3) := by decide +kernel
theorem dX5_paper_58 : decode cX5_paper 58 = .ok (.aload_n 0, 1) := by decide +kernel
theorem dX5_paper_59 : decode cX5_paper 59 = .ok (.getfield 11, 3) := by decide +kernel
theorem dX5_paper_62 : decode cX5_paper 62 = .ok (.iload_n 3, 1) := by decide +kernel
theorem dX5_paper_63 : decode cX5_paper 63 = .ok (.aaload, 1) := by decide +kernel
theorem dX5_paper_64 : decode cX5_paper 64 = .ok (.iload_n 2, 1) := by decide +kernel
theorem dX5_paper_65 : decode cX5_paper 65 = .ok (.iload_n 3, 1) := by decide +kernel
theorem dX5_paper_66 : decode cX5_paper 66 = .ok (.invokestatic 76, 3) := by decide +kernel
theorem dX5_paper_69 : decode cX5_paper 69 = .ok (.invokevirtual 80, 3) := by decide +kernel
theorem dX5_paper_72 : decode cX5_paper 72 = .ok (.iinc 3 1, 3) := by decide +kernel
theorem dX5_paper_75 : decode cX5_paper 75 = .ok (.goto (-25), 3) := by decide +kernel
theorem dX5_paper_78 : decode cX5_paper 78 = .ok (.aload_n 0, 1) := by decide +kernel
theorem dX5_paper_79 : decode cX5_paper 79 = .ok (.getfield 19, 3) := by decide +kernel
theorem dX5_paper_82 : decode cX5_paper 82 = .ok (.iload_n 1, 1) := by decide +kernel
theorem dX5_paper_83 : decode cX5_paper 83 = .ok (.iload_n 2, 1) := by decide +kernel
theorem dX5_paper_84 : decode cX5_paper 84 = .ok (.invokevirtual 84, 3) := by decide +kernel
theorem dX5_paper_87 : decode cX5_paper 87 = .ok (.ireturn, 1) := by decide +kernel
set_option maxRecDepth 20000 in
theorem ggX5_lose_X1_has : GoodIn wsX5_lose wsX1_has := goodIn_r _ [10, 11, 25, 26, 27, 28, 29, 30, 31] (by decide +kernel) (by decide +kernel)
set_option maxRecDepth 20000 in
theorem gX5_lose_X1_has : GoodIn wsX5_lose (wsV RX5 87 RX1 yX1_has wsX1_has) := goodIn_app (goodIn_of _ (by decide +kernel)) ggX5_lose_X1_has
set_option maxRecDepth 20000 in
theorem ggX5_lose_X1_isReadByHand : GoodIn wsX5_lose wsX1_isReadByHand := goodIn_r _ [15, 16, 25, 26, 27, 28, 29, 30, 31] (by decide +kernel) (by decide +kernel)
set_option maxRecDepth 20000 in
theorem gX5_lose_X1_isReadByHand : GoodIn wsX5_lose (wsV RX5 92 RX1 yX1_isReadByHand wsX1_isReadByHand) := goodIn_app (goodIn_of _ (by decide +kernel)) ggX5_lose_X1_isReadByHand
theorem dX5_lose_0 : decode cX5_lose 0 = .ok (.aload_n 0, 1) := by decide +kernel
theorem dX5_lose_1 : decode cX5_lose 1 = .ok (.getfield 19, 3) := by decide +kernel
theorem dX5_lose_4 : decode cX5_lose 4 = .ok (.iload_n 1, 1) := by decide +kernel
theorem dX5_lose_5 : decode cX5_lose 5 = .ok (.invokevirtual 87, 3) := by decide +kernel
theorem dX5_lose_8 : decode cX5_lose 8 = .ok (.ifCond .ne 13, 3) := by decide +kernel
theorem dX5_lose_11 : decode cX5_lose 11 = .ok (.new 66, 3) := by decide +kernel
theorem dX5_lose_14 : decode cX5_lose 14 = .ok (.dup, 1) := by decide +kernel
theorem dX5_lose_15 : decode cX5_lose 15 = .ok (.ldc 90, 2) := by decide +kernel
theorem dX5_lose_17 : decode cX5_lose 17 = .ok (.invokespecial 70, 3) := by decide +kernel
theorem dX5_lose_20 : decode cX5_lose 20 = .ok (.athrow, 1) := by decide +kernel
theorem dX5_lose_21 : decode cX5_lose 21 = .ok (.aload_n 0, 1) := by decide +kernel
theorem dX5_lose_22 : decode cX5_lose 22 = .ok (.getfield 19, 3) := by decide +kernel
theorem dX5_lose_25 : decode cX5_lose 25 = .ok (.iload_n 1, 1) := by decide +kernel
theorem dX5_lose_26 : decode cX5_lose 26 = .ok (.invokevirtual 92, 3) := by decide +kernel
theorem dX5_lose_29 : decode cX5_lose 29 = .ok (.ifCond .eq 13, 3) := by decide +kernel
theorem dX5_lose_32 : decode cX5_lose 32 = .ok (.new 95, 3) := by decide +kernel
theorem dX5_lose_35 : decode cX5_lose 35 = .ok (.dup, 1) := by decide +kernel
theorem dX5_lose_36 : decode cX5_lose 36 = .ok (.ldc 97, 2) := by decide +kernel
theorem dX5_lose_38 : decode cX5_lose 38 = .ok (.invokespecial 99, 3) := by decide +kernel
theorem dX5_lose_41 : decode cX5_lose 41 = .ok (.athrow, 1) := by decide +kernel
theorem dX5_lose_42 : decode cX5_lose 42 = .ok (.aload_n 0, 1) := by decide +kernel
theorem dX5_lose_43 : decode cX5_lose 43 = .ok (.getfield 19, 3) := by decide +kernel
theorem dX5_lose_46 : decode cX5_lose 46 = .ok (.getfield 100, 3) := by decide +kernel
theorem dX5_lose_49 : decode cX5_lose 49 = .ok (.iload_n 1, 1) := by decide +kernel
theorem dX5_lose_50 : decode cX5_lose 50 = .ok (.baload, 1) := by decide +kernel
theorem dX5_lose_51 : decode cX5_lose 51 = .ok (.istore_n 3, 1) := by decide +kernel
theorem dX5_lose_52 : decode cX5_lose 52 = .ok (.aload_n 0, 1) := by decide +kernel
theorem dX5_lose_53 : decode cX5_lose 53 = .ok (.getfield 19, 3) := by decide +kernel
theorem dX5_lose_56 : decode cX5_lose 56 = .ok (.getfield 100, 3) := by decide +kernel
theorem dX5_lose_59 : decode cX5_lose 59 = .ok (.iload_n 1, 1) := by decide +kernel
theorem dX5_lose_60 : decode cX5_lose 60 = .ok (.iload_n 2, 1) := by decide +kernel
theorem dX5_lose_61 : decode cX5_lose 61 = .ok (.bastore, 1) := by decide +kernel
theorem dX5_lose_62 : decode cX5_lose 62 = .ok (.iload_n 3, 1) := by decide +kernel
theorem dX5_lose_63 : decode cX5_lose 63 = .ok (.ireturn, 1) := by decide +kernel
set_option maxRecDepth 20000 in
theorem ggX5_seal_X0_begin : GoodIn wsX5_seal wsX0_begin := goodIn_r _ [8, 9, 25, 26, 27] (by decide +kernel) (by decide +kernel)
set_option maxRecDepth 20000 in
theorem gX5_seal_X0_begin : GoodIn wsX5_seal (wsV RX5 104 RX0 yX0_begin wsX0_begin) := goodIn_app (goodIn_of _ (by decide +kernel)) ggX5_seal_X0_begin
theorem dX5_seal_0 : decode cX5_seal 0 = .ok (.aload_n 0, 1) := by decide +kernel
theorem dX5_seal_1 : decode cX5_seal 1 = .ok (.getfield 51, 3) := by decide +kernel
theorem dX5_seal_4 : decode cX5_seal 4 = .ok (.ifCond .ne 13, 3) := by decide +kernel
theorem dX5_seal_7 : decode cX5_seal 7 = .ok (.aload_n 0, 1) := by decide +kernel
theorem dX5_seal_8 : decode cX5_seal 8 = .ok (.getfield 19, 3) := by decide +kernel
theorem dX5_seal_11 : decode cX5_seal 11 = .ok (.getfield 55, 3) := by decide +kernel
theorem dX5_seal_14 : decode cX5_seal 14 = .ok (.ifCond .ne 5, 3) := by decide +kernel
theorem dX5_seal_17 : decode cX5_seal 17 = .ok (.iconst 0, 1) := by decide +kernel
theorem dX5_seal_18 : decode cX5_seal 18 = .ok (.ireturn, 1) := by decide +kernel
theorem dX5_seal_19 : decode cX5_seal 19 = .ok (.aload_n 0, 1) := by decide +kernel
theorem dX5_seal_20 : decode cX5_seal 20 = .ok (.iconst 1, 1) := by decide +kernel
theorem dX5_seal_21 : decode cX5_seal 21 = .ok (.putfield 51, 3) := by decide +kernel
theorem dX5_seal_24 : decode cX5_seal 24 = .ok (.aload_n 0, 1) := by decide +kernel
theorem dX5_seal_25 : decode cX5_seal 25 = .ok (.getfield 26, 3) := by decide +kernel
theorem dX5_seal_28 : decode cX5_seal 28 = .ok (.lload_n 1, 1) := by decide +kernel
theorem dX5_seal_29 : decode cX5_seal 29 = .ok (.invokevirtual 104, 3) := by decide +kernel
theorem dX5_seal_32 : decode cX5_seal 32 = .ok (.iconst 1, 1) := by decide +kernel
theorem dX5_seal_33 : decode cX5_seal 33 = .ok (.ireturn, 1) := by decide +kernel
set_option maxRecDepth 20000 in
theorem ggX5_votes_X5_canTally : GoodIn wsX5_votes wsX5_canTally := goodIn_r _ [7, 8, 9, 10, 11, 6, 12, 13, 14, 15, 16, 17, 18, 19, 85, 86, 87, 88, 89, 90, 91, 92, 93, 94, 95, 96, 97, 98, 99, 100, 101, 102] (by decide +kernel) (by decide +kernel)
set_option maxRecDepth 20000 in
theorem gX5_votes_X5_canTally : GoodIn wsX5_votes (wsV RX5 108 RX5 yX5_canTally wsX5_canTally) := goodIn_app (goodIn_of _ (by decide +kernel)) ggX5_votes_X5_canTally
set_option maxRecDepth 20000 in
theorem ggX5_votes_X5_tallyOf : GoodIn wsX5_votes wsX5_tallyOf := goodIn_r _ [23, 8, 24, 25, 26, 27, 28, 29, 30, 31, 32, 33, 34, 35, 36, 37, 38, 39, 40, 41, 42, 43, 44, 45, 46, 47, 48, 49, 50, 51, 52, 53, 54, 55, 56, 57, 58, 59, 60, 61, 62, 63, 6, 64, 65, 66, 67, 68, 69, 70, 71, 72, 73, 74, 75, 76, 77, 78, 79, 80, 85, 86, 87, 88, 89, 90, 91, 92, 93, 94, 95, 96, 97, 98, 99, 100, 101, 102, 103, 104, 105, 106, 107, 108, 109, 110] (by decide +kernel) (by decide +kernel)
set_option maxRecDepth 20000 in
theorem gX5_votes_X5_tallyOf : GoodIn wsX5_votes (wsV RX5 114 RX5 yX5_tallyOf wsX5_tallyOf) := goodIn_app (goodIn_of _ (by decide +kernel)) ggX5_votes_X5_tallyOf
set_option maxRecDepth 20000 in
theorem ggX5_votes_X3_papersWith : GoodIn wsX5_votes wsX3_papersWith := goodIn_r _ [84, 31, 110] (by decide +kernel) (by decide +kernel)
set_option maxRecDepth 20000 in
theorem gX5_votes_X3_papersWith : GoodIn wsX5_votes (wsV RX5 118 RX3 yX3_papersWith wsX3_papersWith) := goodIn_app (goodIn_of _ (by decide +kernel)) ggX5_votes_X3_papersWith
theorem dX5_votes_0 : decode cX5_votes 0 = .ok (.aload_n 0, 1) := by decide +kernel
theorem dX5_votes_1 : decode cX5_votes 1 = .ok (.iload_n 1, 1) := by decide +kernel
theorem dX5_votes_2 : decode cX5_votes 2 = .ok (.iload_n 2, 1) := by decide +kernel
theorem dX5_votes_3 : decode cX5_votes 3 = .ok (.iload_n 3, 1) := by decide +kernel
theorem dX5_votes_4 : decode cX5_votes 4 = .ok (.invokevirtual 108, 3) := by decide +kernel
theorem dX5_votes_7 : decode cX5_votes 7 = .ok (.ifCond .ne 13, 3) := by decide +kernel
theorem dX5_votes_10 : decode cX5_votes 10 = .ok (.new 66, 3) := by decide +kernel
theorem dX5_votes_13 : decode cX5_votes 13 = .ok (.dup, 1) := by decide +kernel
theorem dX5_votes_14 : decode cX5_votes 14 = .ok (.ldc 112, 2) := by decide +kernel
theorem dX5_votes_16 : decode cX5_votes 16 = .ok (.invokespecial 70, 3) := by decide +kernel
theorem dX5_votes_19 : decode cX5_votes 19 = .ok (.athrow, 1) := by decide +kernel
theorem dX5_votes_20 : decode cX5_votes 20 = .ok (.aload_n 0, 1) := by decide +kernel
theorem dX5_votes_21 : decode cX5_votes 21 = .ok (.iload_n 1, 1) := by decide +kernel
theorem dX5_votes_22 : decode cX5_votes 22 = .ok (.iload_n 3, 1) := by decide +kernel
theorem dX5_votes_23 : decode cX5_votes 23 = .ok (.invokevirtual 114, 3) := by decide +kernel
theorem dX5_votes_26 : decode cX5_votes 26 = .ok (.iload_n 2, 1) := by decide +kernel
theorem dX5_votes_27 : decode cX5_votes 27 = .ok (.invokevirtual 118, 3) := by decide +kernel
theorem dX5_votes_30 : decode cX5_votes 30 = .ok (.ireturn, 1) := by decide +kernel
set_option maxRecDepth 20000 in
theorem ggX5_wins_X5_canTally : GoodIn wsX5_wins wsX5_canTally := goodIn_r _ [8, 3, 9, 10, 11, 7, 12, 13, 14, 15, 16, 17, 18, 19, 90, 91, 92, 93, 94, 95, 96, 97, 98, 99, 100, 101, 102, 103, 104, 105, 106, 107] (by decide +kernel) (by decide +kernel)
set_option maxRecDepth 20000 in
theorem gX5_wins_X5_canTally : GoodIn wsX5_wins (wsV RX5 108 RX5 yX5_canTally wsX5_canTally) := goodIn_app (goodIn_of _ (by decide +kernel)) ggX5_wins_X5_canTally
set_option maxRecDepth 20000 in
theorem ggX5_wins_X5_tallyOf : GoodIn wsX5_wins wsX5_tallyOf := goodIn_r _ [23, 3, 24, 25, 26, 27, 28, 29, 30, 31, 32, 33, 34, 35, 36, 37, 38, 39, 40, 41, 42, 43, 44, 45, 46, 47, 48, 49, 50, 51, 52, 53, 54, 55, 56, 57, 58, 59, 60, 61, 62, 63, 7, 64, 65, 66, 67, 68, 69, 70, 71, 72, 73, 74, 75, 76, 77, 78, 79, 80, 90, 91, 92, 93, 94, 95, 96, 97, 98, 99, 100, 101, 102, 103, 104, 105, 106, 107, 108, 109, 110, 111, 112, 113, 114, 115] (by decide +kernel) (by decide +kernel)
set_option maxRecDepth 20000 in
theorem gX5_wins_X5_tallyOf : GoodIn wsX5_wins (wsV RX5 114 RX5 yX5_tallyOf wsX5_tallyOf) := goodIn_app (goodIn_of _ (by decide +kernel)) ggX5_wins_X5_tallyOf
set_option maxRecDepth 20000 in
theorem ggX5_wins_X2_isWinner : GoodIn wsX5_wins wsX2_isWinner := goodIn_r _ [84, 19, 85, 86, 87, 88, 29, 89, 31, 98, 99, 100, 101, 102, 103, 104, 105, 106, 107, 115] (by decide +kernel) (by decide +kernel)
set_option maxRecDepth 20000 in
theorem gX5_wins_X2_isWinner : GoodIn wsX5_wins (wsV RX5 122 RX2 yX2_isWinner wsX2_isWinner) := goodIn_app (goodIn_of _ (by decide +kernel)) ggX5_wins_X2_isWinner
theorem dX5_wins_0 : decode cX5_wins 0 = .ok (.aload_n 0, 1) := by decide +kernel
theorem dX5_wins_1 : decode cX5_wins 1 = .ok (.iload_n 1, 1) := by decide +kernel
theorem dX5_wins_2 : decode cX5_wins 2 = .ok (.iload_n 2, 1) := by decide +kernel
theorem dX5_wins_3 : decode cX5_wins 3 = .ok (.iload_n 3, 1) := by decide +kernel
theorem dX5_wins_4 : decode cX5_wins 4 = .ok (.invokevirtual 108, 3) := by decide +kernel
theorem dX5_wins_7 : decode cX5_wins 7 = .ok (.ifCond .ne 13, 3) := by decide +kernel
theorem dX5_wins_10 : decode cX5_wins 10 = .ok (.new 66, 3) := by decide +kernel
theorem dX5_wins_13 : decode cX5_wins 13 = .ok (.dup, 1) := by decide +kernel
theorem dX5_wins_14 : decode cX5_wins 14 = .ok (.ldc 112, 2) := by decide +kernel
theorem dX5_wins_16 : decode cX5_wins 16 = .ok (.invokespecial 70, 3) := by decide +kernel
theorem dX5_wins_19 : decode cX5_wins 19 = .ok (.athrow, 1) := by decide +kernel
theorem dX5_wins_20 : decode cX5_wins 20 = .ok (.aload_n 0, 1) := by decide +kernel
theorem dX5_wins_21 : decode cX5_wins 21 = .ok (.getfield 11, 3) := by decide +kernel
theorem dX5_wins_24 : decode cX5_wins 24 = .ok (.iload_n 1, 1) := by decide +kernel
theorem dX5_wins_25 : decode cX5_wins 25 = .ok (.aaload, 1) := by decide +kernel
theorem dX5_wins_26 : decode cX5_wins 26 = .ok (.iload_n 2, 1) := by decide +kernel
theorem dX5_wins_27 : decode cX5_wins 27 = .ok (.aload_n 0, 1) := by decide +kernel
theorem dX5_wins_28 : decode cX5_wins 28 = .ok (.iload_n 1, 1) := by decide +kernel
theorem dX5_wins_29 : decode cX5_wins 29 = .ok (.iload_n 3, 1) := by decide +kernel
theorem dX5_wins_30 : decode cX5_wins 30 = .ok (.invokevirtual 114, 3) := by decide +kernel
theorem dX5_wins_33 : decode cX5_wins 33 = .ok (.invokevirtual 122, 3) := by decide +kernel
theorem dX5_wins_36 : decode cX5_wins 36 = .ok (.ireturn, 1) := by decide +kernel
set_option maxRecDepth 20000 in
theorem ggX5_about_X5_hasRace : GoodIn wsX5_about wsX5_hasRace := goodIn_r _ [8, 9, 10, 11, 12, 13, 14, 15, 16, 17] (by decide +kernel) (by decide +kernel)
set_option maxRecDepth 20000 in
theorem gX5_about_X5_hasRace : GoodIn wsX5_about (wsV RX5 126 RX5 yX5_hasRace wsX5_hasRace) := goodIn_app (goodIn_of _ (by decide +kernel)) ggX5_about_X5_hasRace
theorem dX5_about_0 : decode cX5_about 0 = .ok (.aload_n 0, 1) := by decide +kernel
theorem dX5_about_1 : decode cX5_about 1 = .ok (.iload_n 1, 1) := by decide +kernel
theorem dX5_about_2 : decode cX5_about 2 = .ok (.invokevirtual 126, 3) := by decide +kernel
theorem dX5_about_5 : decode cX5_about 5 = .ok (.ifCond .ne 13, 3) := by decide +kernel
theorem dX5_about_8 : decode cX5_about 8 = .ok (.new 66, 3) := by decide +kernel
theorem dX5_about_11 : decode cX5_about 11 = .ok (.dup, 1) := by decide +kernel
theorem dX5_about_12 : decode cX5_about 12 = .ok (.ldc 129, 2) := by decide +kernel
theorem dX5_about_14 : decode cX5_about 14 = .ok (.invokespecial 70, 3) := by decide +kernel
theorem dX5_about_17 : decode cX5_about 17 = .ok (.athrow, 1) := by decide +kernel
theorem dX5_about_18 : decode cX5_about 18 = .ok (.iload_n 2, 1) := by decide +kernel
theorem dX5_about_19 : decode cX5_about 19 = .ok (.tableswitch 69 0 3 #[29, 39, 49, 59], 29) := by decide +kernel
theorem dX5_about_48 : decode cX5_about 48 = .ok (.aload_n 0, 1) := by decide +kernel
theorem dX5_about_49 : decode cX5_about 49 = .ok (.getfield 11, 3) := by decide +kernel
theorem dX5_about_52 : decode cX5_about 52 = .ok (.iload_n 1, 1) := by decide +kernel
theorem dX5_about_53 : decode cX5_about 53 = .ok (.aaload, 1) := by decide +kernel
theorem dX5_about_54 : decode cX5_about 54 = .ok (.getfield 131, 3) := by decide +kernel
theorem dX5_about_57 : decode cX5_about 57 = .ok (.ireturn, 1) := by decide +kernel
theorem dX5_about_58 : decode cX5_about 58 = .ok (.aload_n 0, 1) := by decide +kernel
theorem dX5_about_59 : decode cX5_about 59 = .ok (.getfield 11, 3) := by decide +kernel
theorem dX5_about_62 : decode cX5_about 62 = .ok (.iload_n 1, 1) := by decide +kernel
theorem dX5_about_63 : decode cX5_about 63 = .ok (.aaload, 1) := by decide +kernel
theorem dX5_about_64 : decode cX5_about 64 = .ok (.getfield 132, 3) := by decide +kernel
theorem dX5_about_67 : decode cX5_about 67 = .ok (.ireturn, 1) := by decide +kernel
theorem dX5_about_68 : decode cX5_about 68 = .ok (.aload_n 0, 1) := by decide +kernel
theorem dX5_about_69 : decode cX5_about 69 = .ok (.getfield 11, 3) := by decide +kernel
theorem dX5_about_72 : decode cX5_about 72 = .ok (.iload_n 1, 1) := by decide +kernel
theorem dX5_about_73 : decode cX5_about 73 = .ok (.aaload, 1) := by decide +kernel
theorem dX5_about_74 : decode cX5_about 74 = .ok (.getfield 135, 3) := by decide +kernel
theorem dX5_about_77 : decode cX5_about 77 = .ok (.ireturn, 1) := by decide +kernel
theorem dX5_about_78 : decode cX5_about 78 = .ok (.aload_n 0, 1) := by decide +kernel
theorem dX5_about_79 : decode cX5_about 79 = .ok (.getfield 11, 3) := by decide +kernel
theorem dX5_about_82 : decode cX5_about 82 = .ok (.iload_n 1, 1) := by decide +kernel
theorem dX5_about_83 : decode cX5_about 83 = .ok (.aaload, 1) := by decide +kernel
theorem dX5_about_84 : decode cX5_about 84 = .ok (.getfield 138, 3) := by decide +kernel
theorem dX5_about_87 : decode cX5_about 87 = .ok (.ireturn, 1) := by decide +kernel
theorem dX5_about_88 : decode cX5_about 88 = .ok (.new 66, 3) := by decide +kernel
theorem dX5_about_91 : decode cX5_about 91 = .ok (.dup, 1) := by decide +kernel
theorem dX5_about_92 : decode cX5_about 92 = .ok (.ldc 141, 2) := by decide +kernel
theorem dX5_about_94 : decode cX5_about 94 = .ok (.invokespecial 70, 3) := by decide +kernel
theorem dX5_about_97 : decode cX5_about 97 = .ok (.athrow, 1) := by decide +kernel
set_option maxRecDepth 20000 in
theorem ggX5_draw_X0_addOne : GoodIn wsX5_draw wsX0_addOne := goodIn_r _ [10, 11, 12, 13, 14, 15, 24, 25, 26] (by decide +kernel) (by decide +kernel)
set_option maxRecDepth 20000 in
theorem gX5_draw_X0_addOne : GoodIn wsX5_draw (wsV RX5 152 RX0 yX0_addOne wsX0_addOne) := goodIn_app (goodIn_of _ (by decide +kernel)) ggX5_draw_X0_addOne
theorem dX5_draw_0 : decode cX5_draw 0 = .ok (.iload_n 1, 1) := by decide +kernel
theorem dX5_draw_1 : decode cX5_draw 1 = .ok (.ifCond .lt 9, 3) := by decide +kernel
theorem dX5_draw_4 : decode cX5_draw 4 = .ok (.iload_n 1, 1) := by decide +kernel
theorem dX5_draw_5 : decode cX5_draw 5 = .ok (.bipush 100, 2) := by decide +kernel
theorem dX5_draw_7 : decode cX5_draw 7 = .ok (.if_icmp .le 13, 3) := by decide +kernel
theorem dX5_draw_10 : decode cX5_draw 10 = .ok (.new 143, 3) := by decide +kernel
theorem dX5_draw_13 : decode cX5_draw 13 = .ok (.dup, 1) := by decide +kernel
theorem dX5_draw_14 : decode cX5_draw 14 = .ok (.ldc 145, 2) := by decide +kernel
theorem dX5_draw_16 : decode cX5_draw 16 = .ok (.invokespecial 147, 3) := by decide +kernel
theorem dX5_draw_19 : decode cX5_draw 19 = .ok (.athrow, 1) := by decide +kernel
theorem dX5_draw_20 : decode cX5_draw 20 = .ok (.aload_n 0, 1) := by decide +kernel
theorem dX5_draw_21 : decode cX5_draw 21 = .ok (.getfield 51, 3) := by decide +kernel
theorem dX5_draw_24 : decode cX5_draw 24 = .ok (.ifCond .eq 18, 3) := by decide +kernel
theorem dX5_draw_27 : decode cX5_draw 27 = .ok (.aload_n 0, 1) := by decide +kernel
theorem dX5_draw_28 : decode cX5_draw 28 = .ok (.getfield 26, 3) := by decide +kernel
theorem dX5_draw_31 : decode cX5_draw 31 = .ok (.getfield 148, 3) := by decide +kernel
theorem dX5_draw_34 : decode cX5_draw 34 = .ok (.iload_n 1, 1) := by decide +kernel
theorem dX5_draw_35 : decode cX5_draw 35 = .ok (.iadd, 1) := by decide +kernel
theorem dX5_draw_36 : decode cX5_draw 36 = .ok (.sipush 2000, 3) := by decide +kernel
theorem dX5_draw_39 : decode cX5_draw 39 = .ok (.if_icmp .le 5, 3) := by decide +kernel
theorem dX5_draw_42 : decode cX5_draw 42 = .ok (.iconst (-1), 1) := by decide +kernel
theorem dX5_draw_43 : decode cX5_draw 43 = .ok (.ireturn, 1) := by decide +kernel
theorem dX5_draw_44 : decode cX5_draw 44 = .ok (.iconst 0, 1) := by decide +kernel
theorem dX5_draw_45 : decode cX5_draw 45 = .ok (.istore_n 2, 1) := by decide +kernel
theorem dX5_draw_46 : decode cX5_draw 46 = .ok (.iload_n 2, 1) := by decide +kernel
theorem dX5_draw_47 : decode cX5_draw 47 = .ok (.iload_n 1, 1) := by decide +kernel
theorem dX5_draw_48 : decode cX5_draw 48 = .ok (.if_icmp .ge 32, 3) := by decide +kernel
theorem dX5_draw_51 : decode cX5_draw 51 = .ok (.aload_n 0, 1) := by decide +kernel
theorem dX5_draw_52 : decode cX5_draw 52 = .ok (.getfield 19, 3) := by decide +kernel
theorem dX5_draw_55 : decode cX5_draw 55 = .ok (.getfield 149, 3) := by decide +kernel
theorem dX5_draw_58 : decode cX5_draw 58 = .ok (.aload_n 0, 1) := by decide +kernel
theorem dX5_draw_59 : decode cX5_draw 59 = .ok (.getfield 26, 3) := by decide +kernel
theorem dX5_draw_62 : decode cX5_draw 62 = .ok (.aload_n 0, 1) := by decide +kernel
theorem dX5_draw_63 : decode cX5_draw 63 = .ok (.getfield 19, 3) := by decide +kernel
theorem dX5_draw_66 : decode cX5_draw 66 = .ok (.getfield 55, 3) := by decide +kernel
theorem dX5_draw_69 : decode cX5_draw 69 = .ok (.invokevirtual 152, 3) := by decide +kernel
theorem dX5_draw_72 : decode cX5_draw 72 = .ok (.iconst 1, 1) := by decide +kernel
theorem dX5_draw_73 : decode cX5_draw 73 = .ok (.bastore, 1) := by decide +kernel
theorem dX5_draw_74 : decode cX5_draw 74 = .ok (.iinc 2 1, 3) := by decide +kernel
theorem dX5_draw_77 : decode cX5_draw 77 = .ok (.goto (-31), 3) := by decide +kernel
theorem dX5_draw_80 : decode cX5_draw 80 = .ok (.aload_n 0, 1) := by decide +kernel
theorem dX5_draw_81 : decode cX5_draw 81 = .ok (.getfield 26, 3) := by decide +kernel
theorem dX5_draw_84 : decode cX5_draw 84 = .ok (.getfield 148, 3) := by decide +kernel
theorem dX5_draw_87 : decode cX5_draw 87 = .ok (.ireturn, 1) := by decide +kernel
set_option maxRecDepth 20000 in
theorem ggX5_drawn_X0_has : GoodIn wsX5_drawn wsX0_has := goodIn_r _ [8, 9, 18, 19, 20] (by decide +kernel) (by decide +kernel)
set_option maxRecDepth 20000 in
theorem gX5_drawn_X0_has : GoodIn wsX5_drawn (wsV RX5 155 RX0 yX0_has wsX0_has) := goodIn_app (goodIn_of _ (by decide +kernel)) ggX5_drawn_X0_has
theorem dX5_drawn_0 : decode cX5_drawn 0 = .ok (.aload_n 0, 1) := by decide +kernel
theorem dX5_drawn_1 : decode cX5_drawn 1 = .ok (.getfield 26, 3) := by decide +kernel
theorem dX5_drawn_4 : decode cX5_drawn 4 = .ok (.iload_n 1, 1) := by decide +kernel
theorem dX5_drawn_5 : decode cX5_drawn 5 = .ok (.invokevirtual 155, 3) := by decide +kernel
theorem dX5_drawn_8 : decode cX5_drawn 8 = .ok (.ifCond .ne 13, 3) := by decide +kernel
theorem dX5_drawn_11 : decode cX5_drawn 11 = .ok (.new 66, 3) := by decide +kernel
theorem dX5_drawn_14 : decode cX5_drawn 14 = .ok (.dup, 1) := by decide +kernel
theorem dX5_drawn_15 : decode cX5_drawn 15 = .ok (.ldc 156, 2) := by decide +kernel
theorem dX5_drawn_17 : decode cX5_drawn 17 = .ok (.invokespecial 70, 3) := by decide +kernel
theorem dX5_drawn_20 : decode cX5_drawn 20 = .ok (.athrow, 1) := by decide +kernel
theorem dX5_drawn_21 : decode cX5_drawn 21 = .ok (.aload_n 0, 1) := by decide +kernel
theorem dX5_drawn_22 : decode cX5_drawn 22 = .ok (.getfield 26, 3) := by decide +kernel
theorem dX5_drawn_25 : decode cX5_drawn 25 = .ok (.getfield 158, 3) := by decide +kernel
theorem dX5_drawn_28 : decode cX5_drawn 28 = .ok (.iload_n 1, 1) := by decide +kernel
theorem dX5_drawn_29 : decode cX5_drawn 29 = .ok (.iaload, 1) := by decide +kernel
theorem dX5_drawn_30 : decode cX5_drawn 30 = .ok (.ireturn, 1) := by decide +kernel
set_option maxRecDepth 20000 in
theorem ggX5_waits_X0_settled : GoodIn wsX5_waits wsX0_settled := goodIn_r _ [7, 8, 9, 10, 11, 12, 13, 14, 15, 16, 17, 18, 19, 20, 29, 30, 31, 32, 33, 34, 35, 36, 37, 38] (by decide +kernel) (by decide +kernel)
set_option maxRecDepth 20000 in
theorem gX5_waits_X0_settled : GoodIn wsX5_waits (wsV RX5 162 RX0 yX0_settled wsX0_settled) := goodIn_app (goodIn_of _ (by decide +kernel)) ggX5_waits_X0_settled
theorem dX5_waits_0 : decode cX5_waits 0 = .ok (.aload_n 0, 1) := by decide +kernel
theorem dX5_waits_1 : decode cX5_waits 1 = .ok (.getfield 26, 3) := by decide +kernel
theorem dX5_waits_4 : decode cX5_waits 4 = .ok (.aload_n 0, 1) := by decide +kernel
theorem dX5_waits_5 : decode cX5_waits 5 = .ok (.getfield 19, 3) := by decide +kernel
theorem dX5_waits_8 : decode cX5_waits 8 = .ok (.invokevirtual 162, 3) := by decide +kernel
theorem dX5_waits_11 : decode cX5_waits 11 = .ok (.istore_n 1, 1) := by decide +kernel
theorem dX5_waits_12 : decode cX5_waits 12 = .ok (.iload_n 1, 1) := by decide +kernel
theorem dX5_waits_13 : decode cX5_waits 13 = .ok (.aload_n 0, 1) := by decide +kernel
theorem dX5_waits_14 : decode cX5_waits 14 = .ok (.getfield 26, 3) := by decide +kernel
theorem dX5_waits_17 : decode cX5_waits 17 = .ok (.getfield 148, 3) := by decide +kernel
theorem dX5_waits_20 : decode cX5_waits 20 = .ok (.if_icmp .ge 7, 3) := by decide +kernel
theorem dX5_waits_23 : decode cX5_waits 23 = .ok (.iload_n 1, 1) := by decide +kernel
theorem dX5_waits_24 : decode cX5_waits 24 = .ok (.goto 4, 3) := by decide +kernel
theorem dX5_waits_27 : decode cX5_waits 27 = .ok (.iconst (-1), 1) := by decide +kernel
theorem dX5_waits_28 : decode cX5_waits 28 = .ok (.ireturn, 1) := by decide +kernel
set_option maxRecDepth 20000 in
theorem ggX5_pulled_X5_hasBox : GoodIn wsX5_pulled wsX5_hasBox := goodIn_r _ [8, 9, 10, 11, 12, 13, 14, 15, 16, 17] (by decide +kernel) (by decide +kernel)
set_option maxRecDepth 20000 in
theorem gX5_pulled_X5_hasBox : GoodIn wsX5_pulled (wsV RX5 62 RX5 yX5_hasBox wsX5_hasBox) := goodIn_app (goodIn_of _ (by decide +kernel)) ggX5_pulled_X5_hasBox
theorem dX5_pulled_0 : decode cX5_pulled 0 = .ok (.iload_n 1, 1) := by decide +kernel
theorem dX5_pulled_1 : decode cX5_pulled 1 = .ok (.iconst (-1), 1) := by decide +kernel
theorem dX5_pulled_2 : decode cX5_pulled 2 = .ok (.if_icmp .eq 21, 3) := by decide +kernel
theorem dX5_pulled_5 : decode cX5_pulled 5 = .ok (.aload_n 0, 1) := by decide +kernel
theorem dX5_pulled_6 : decode cX5_pulled 6 = .ok (.iload_n 1, 1) := by decide +kernel
theorem dX5_pulled_7 : decode cX5_pulled 7 = .ok (.invokevirtual 62, 3) := by decide +kernel
theorem dX5_pulled_10 : decode cX5_pulled 10 = .ok (.ifCond .ne 13, 3) := by decide +kernel
theorem dX5_pulled_13 : decode cX5_pulled 13 = .ok (.new 66, 3) := by decide +kernel
theorem dX5_pulled_16 : decode cX5_pulled 16 = .ok (.dup, 1) := by decide +kernel
theorem dX5_pulled_17 : decode cX5_pulled 17 = .ok (.ldc 68, 2) := by decide +kernel
theorem dX5_pulled_19 : decode cX5_pulled 19 = .ok (.invokespecial 70, 3) := by decide +kernel
theorem dX5_pulled_22 : decode cX5_pulled 22 = .ok (.athrow, 1) := by decide +kernel
theorem dX5_pulled_23 : decode cX5_pulled 23 = .ok (.iconst 0, 1) := by decide +kernel
theorem dX5_pulled_24 : decode cX5_pulled 24 = .ok (.istore_n 2, 1) := by decide +kernel
theorem dX5_pulled_25 : decode cX5_pulled 25 = .ok (.iconst 0, 1) := by decide +kernel
theorem dX5_pulled_26 : decode cX5_pulled 26 = .ok (.istore_n 3, 1) := by decide +kernel
theorem dX5_pulled_27 : decode cX5_pulled 27 = .ok (.iload_n 3, 1) := by decide +kernel
theorem dX5_pulled_28 : decode cX5_pulled 28 = .ok (.aload_n 0, 1) := by decide +kernel
theorem dX5_pulled_29 : decode cX5_pulled 29 = .ok (.getfield 19, 3) := by decide +kernel
theorem dX5_pulled_32 : decode cX5_pulled 32 = .ok (.getfield 55, 3) := by decide +kernel
theorem dX5_pulled_35 : decode cX5_pulled 35 = .ok (.if_icmp .ge 42, 3) := by decide +kernel
theorem dX5_pulled_38 : decode cX5_pulled 38 = .ok (.aload_n 0, 1) := by decide +kernel
theorem dX5_pulled_39 : decode cX5_pulled 39 = .ok (.getfield 19, 3) := by decide +kernel
theorem dX5_pulled_42 : decode cX5_pulled 42 = .ok (.getfield 149, 3) := by decide +kernel
theorem dX5_pulled_45 : decode cX5_pulled 45 = .ok (.iload_n 3, 1) := by decide +kernel
theorem dX5_pulled_46 : decode cX5_pulled 46 = .ok (.baload, 1) := by decide +kernel
theorem dX5_pulled_47 : decode cX5_pulled 47 = .ok (.ifCond .eq 24, 3) := by decide +kernel
theorem dX5_pulled_50 : decode cX5_pulled 50 = .ok (.iload_n 1, 1) := by decide +kernel
theorem dX5_pulled_51 : decode cX5_pulled 51 = .ok (.iconst (-1), 1) := by decide +kernel
theorem dX5_pulled_52 : decode cX5_pulled 52 = .ok (.if_icmp .eq 16, 3) := by decide +kernel
theorem dX5_pulled_55 : decode cX5_pulled 55 = .ok (.aload_n 0, 1) := by decide +kernel
theorem dX5_pulled_56 : decode cX5_pulled 56 = .ok (.getfield 19, 3) := by decide +kernel
theorem dX5_pulled_59 : decode cX5_pulled 59 = .ok (.getfield 166, 3) := by decide +kernel
theorem dX5_pulled_62 : decode cX5_pulled 62 = .ok (.iload_n 3, 1) := by decide +kernel
theorem dX5_pulled_63 : decode cX5_pulled 63 = .ok (.iaload, 1) := by decide +kernel
theorem dX5_pulled_64 : decode cX5_pulled 64 = .ok (.iload_n 1, 1) := by decide +kernel
theorem dX5_pulled_65 : decode cX5_pulled 65 = .ok (.if_icmp .ne 6, 3) := by decide +kernel
theorem dX5_pulled_68 : decode cX5_pulled 68 = .ok (.iinc 2 1, 3) := by decide +kernel
theorem dX5_pulled_71 : decode cX5_pulled 71 = .ok (.iinc 3 1, 3) := by decide +kernel
theorem dX5_pulled_74 : decode cX5_pulled 74 = .ok (.goto (-47), 3) := by decide +kernel
theorem dX5_pulled_77 : decode cX5_pulled 77 = .ok (.iload_n 2, 1) := by decide +kernel
theorem dX5_pulled_78 : decode cX5_pulled 78 = .ok (.ireturn, 1) := by decide +kernel
set_option maxRecDepth 20000 in
theorem ggX5_read_X1_has : GoodIn wsX5_read wsX1_has := goodIn_r _ [9, 10, 45, 46, 47, 48, 49, 50, 51] (by decide +kernel) (by decide +kernel)
set_option maxRecDepth 20000 in
theorem gX5_read_X1_has : GoodIn wsX5_read (wsV RX5 87 RX1 yX1_has wsX1_has) := goodIn_app (goodIn_of _ (by decide +kernel)) ggX5_read_X1_has
set_option maxRecDepth 20000 in
theorem ggX5_read_X1_isReadBy : GoodIn wsX5_read wsX1_isReadBy := goodIn_r _ [14, 15, 45, 46, 47, 48, 49, 50, 51] (by decide +kernel) (by decide +kernel)
set_option maxRecDepth 20000 in
theorem gX5_read_X1_isReadBy : GoodIn wsX5_read (wsV RX5 171 RX1 yX1_isReadBy wsX1_isReadBy) := goodIn_app (goodIn_of _ (by decide +kernel)) ggX5_read_X1_isReadBy
set_option maxRecDepth 20000 in
theorem ggX5_read_X5_isPossible : GoodIn wsX5_read wsX5_isPossible := goodIn_r _ [20, 21, 22, 23, 24, 19, 25, 26, 27, 28, 29, 30, 31, 37, 38, 39, 40, 41, 42, 43, 44, 52, 53, 54, 55, 56, 57, 58, 59, 60, 61] (by decide +kernel) (by decide +kernel)
set_option maxRecDepth 20000 in
theorem gX5_read_X5_isPossible : GoodIn wsX5_read (wsV RX5 73 RX5 yX5_isPossible wsX5_isPossible) := goodIn_app (goodIn_of _ (by decide +kernel)) ggX5_read_X5_isPossible
set_option maxRecDepth 20000 in
theorem ggX5_read_X1_keepHandWord : GoodIn wsX5_read wsX1_keepHandWord := goodIn_r _ [35, 36, 15, 45, 46, 47, 48, 49, 50, 51] (by decide +kernel) (by decide +kernel)
set_option maxRecDepth 20000 in
theorem gX5_read_X1_keepHandWord : GoodIn wsX5_read (wsV RX5 175 RX1 yX1_keepHandWord wsX1_keepHandWord) := goodIn_app (goodIn_of _ (by decide +kernel)) ggX5_read_X1_keepHandWord
theorem dX5_read_0 : decode cX5_read 0 = .ok (.aload_n 0, 1) := by decide +kernel
theorem dX5_read_1 : decode cX5_read 1 = .ok (.getfield 19, 3) := by decide +kernel
theorem dX5_read_4 : decode cX5_read 4 = .ok (.iload_n 1, 1) := by decide +kernel
theorem dX5_read_5 : decode cX5_read 5 = .ok (.invokevirtual 87, 3) := by decide +kernel
theorem dX5_read_8 : decode cX5_read 8 = .ok (.ifCond .ne 13, 3) := by decide +kernel
theorem dX5_read_11 : decode cX5_read 11 = .ok (.new 66, 3) := by decide +kernel
theorem dX5_read_14 : decode cX5_read 14 = .ok (.dup, 1) := by decide +kernel
theorem dX5_read_15 : decode cX5_read 15 = .ok (.ldc 90, 2) := by decide +kernel
theorem dX5_read_17 : decode cX5_read 17 = .ok (.invokespecial 70, 3) := by decide +kernel
theorem dX5_read_20 : decode cX5_read 20 = .ok (.athrow, 1) := by decide +kernel
theorem dX5_read_21 : decode cX5_read 21 = .ok (.iload_n 2, 1) := by decide +kernel
theorem dX5_read_22 : decode cX5_read 22 = .ok (.ifCond .lt 8, 3) := by decide +kernel
theorem dX5_read_25 : decode cX5_read 25 = .ok (.iload_n 2, 1) := by decide +kernel
theorem dX5_read_26 : decode cX5_read 26 = .ok (.iconst 3, 1) := by decide +kernel
theorem dX5_read_27 : decode cX5_read 27 = .ok (.if_icmp .lt 13, 3) := by decide +kernel
theorem dX5_read_30 : decode cX5_read 30 = .ok (.new 66, 3) := by decide +kernel
theorem dX5_read_33 : decode cX5_read 33 = .ok (.dup, 1) := by decide +kernel
theorem dX5_read_34 : decode cX5_read 34 = .ok (.ldc 169, 2) := by decide +kernel
theorem dX5_read_36 : decode cX5_read 36 = .ok (.invokespecial 70, 3) := by decide +kernel
theorem dX5_read_39 : decode cX5_read 39 = .ok (.athrow, 1) := by decide +kernel
theorem dX5_read_40 : decode cX5_read 40 = .ok (.aload_n 0, 1) := by decide +kernel
theorem dX5_read_41 : decode cX5_read 41 = .ok (.getfield 51, 3) := by decide +kernel
theorem dX5_read_44 : decode cX5_read 44 = .ok (.ifCond .eq 35, 3) := by decide +kernel
theorem dX5_read_47 : decode cX5_read 47 = .ok (.aload_n 0, 1) := by decide +kernel
theorem dX5_read_48 : decode cX5_read 48 = .ok (.getfield 19, 3) := by decide +kernel
theorem dX5_read_51 : decode cX5_read 51 = .ok (.getfield 100, 3) := by decide +kernel
theorem dX5_read_54 : decode cX5_read 54 = .ok (.iload_n 1, 1) := by decide +kernel
theorem dX5_read_55 : decode cX5_read 55 = .ok (.baload, 1) := by decide +kernel
theorem dX5_read_56 : decode cX5_read 56 = .ok (.ifCond .ne 23, 3) := by decide +kernel
theorem dX5_read_59 : decode cX5_read 59 = .ok (.aload_n 0, 1) := by decide +kernel
theorem dX5_read_60 : decode cX5_read 60 = .ok (.getfield 19, 3) := by decide +kernel
theorem dX5_read_63 : decode cX5_read 63 = .ok (.iload_n 1, 1) := by decide +kernel
theorem dX5_read_64 : decode cX5_read 64 = .ok (.iload_n 2, 1) := by decide +kernel
theorem dX5_read_65 : decode cX5_read 65 = .ok (.invokevirtual 171, 3) := by decide +kernel
theorem dX5_read_68 : decode cX5_read 68 = .ok (.ifCond .ne 11, 3) := by decide +kernel
theorem dX5_read_71 : decode cX5_read 71 = .ok (.aload_n 0, 1) := by decide +kernel
theorem dX5_read_72 : decode cX5_read 72 = .ok (.iload_n 3, 1) := by decide +kernel
theorem dX5_read_73 : decode cX5_read 73 = .ok (.invokevirtual 73, 3) := by decide +kernel
theorem dX5_read_76 : decode cX5_read 76 = .ok (.ifCond .ne 5, 3) := by decide +kernel
theorem dX5_read_79 : decode cX5_read 79 = .ok (.iconst 0, 1) := by decide +kernel
theorem dX5_read_80 : decode cX5_read 80 = .ok (.ireturn, 1) := by decide +kernel
theorem dX5_read_81 : decode cX5_read 81 = .ok (.aload_n 0, 1) := by decide +kernel
theorem dX5_read_82 : decode cX5_read 82 = .ok (.getfield 19, 3) := by decide +kernel
theorem dX5_read_85 : decode cX5_read 85 = .ok (.iload_n 1, 1) := by decide +kernel
theorem dX5_read_86 : decode cX5_read 86 = .ok (.iload_n 2, 1) := by decide +kernel
theorem dX5_read_87 : decode cX5_read 87 = .ok (.iload_n 3, 1) := by decide +kernel
theorem dX5_read_88 : decode cX5_read 88 = .ok (.invokevirtual 175, 3) := by decide +kernel
theorem dX5_read_91 : decode cX5_read 91 = .ok (.iconst 1, 1) := by decide +kernel
theorem dX5_read_92 : decode cX5_read 92 = .ok (.ireturn, 1) := by decide +kernel
set_option maxRecDepth 20000 in
theorem ggX5_reading_X1_has : GoodIn wsX5_reading wsX1_has := goodIn_r _ [8, 9, 51, 52, 53, 54, 55, 56, 57] (by decide +kernel) (by decide +kernel)
set_option maxRecDepth 20000 in
theorem gX5_reading_X1_has : GoodIn wsX5_reading (wsV RX5 87 RX1 yX1_has wsX1_has) := goodIn_app (goodIn_of _ (by decide +kernel)) ggX5_reading_X1_has
set_option maxRecDepth 20000 in
theorem ggX5_reading_X5_hasRace : GoodIn wsX5_reading wsX5_hasRace := goodIn_r _ [14, 15, 43, 44, 45, 46, 47, 48, 49, 50] (by decide +kernel) (by decide +kernel)
set_option maxRecDepth 20000 in
theorem gX5_reading_X5_hasRace : GoodIn wsX5_reading (wsV RX5 126 RX5 yX5_hasRace wsX5_hasRace) := goodIn_app (goodIn_of _ (by decide +kernel)) ggX5_reading_X5_hasRace
set_option maxRecDepth 20000 in
theorem ggX5_reading_X1_handsMark : GoodIn wsX5_reading wsX1_handsMark := goodIn_r _ [19, 20, 21, 22, 23, 24, 25, 26, 27, 7, 28, 29, 30, 31, 32, 33, 34, 13, 35, 36, 37, 38, 39, 40, 41, 42, 51, 52, 53, 54, 55, 56, 57] (by decide +kernel) (by decide +kernel)
set_option maxRecDepth 20000 in
theorem gX5_reading_X1_handsMark : GoodIn wsX5_reading (wsV RX5 179 RX1 yX1_handsMark wsX1_handsMark) := goodIn_app (goodIn_of _ (by decide +kernel)) ggX5_reading_X1_handsMark
theorem dX5_reading_0 : decode cX5_reading 0 = .ok (.aload_n 0, 1) := by decide +kernel
theorem dX5_reading_1 : decode cX5_reading 1 = .ok (.getfield 19, 3) := by decide +kernel
theorem dX5_reading_4 : decode cX5_reading 4 = .ok (.iload_n 1, 1) := by decide +kernel
theorem dX5_reading_5 : decode cX5_reading 5 = .ok (.invokevirtual 87, 3) := by decide +kernel
theorem dX5_reading_8 : decode cX5_reading 8 = .ok (.ifCond .ne 13, 3) := by decide +kernel
theorem dX5_reading_11 : decode cX5_reading 11 = .ok (.new 66, 3) := by decide +kernel
theorem dX5_reading_14 : decode cX5_reading 14 = .ok (.dup, 1) := by decide +kernel
theorem dX5_reading_15 : decode cX5_reading 15 = .ok (.ldc 90, 2) := by decide +kernel
theorem dX5_reading_17 : decode cX5_reading 17 = .ok (.invokespecial 70, 3) := by decide +kernel
theorem dX5_reading_20 : decode cX5_reading 20 = .ok (.athrow, 1) := by decide +kernel
theorem dX5_reading_21 : decode cX5_reading 21 = .ok (.aload_n 0, 1) := by decide +kernel
theorem dX5_reading_22 : decode cX5_reading 22 = .ok (.iload_n 2, 1) := by decide +kernel
theorem dX5_reading_23 : decode cX5_reading 23 = .ok (.invokevirtual 126, 3) := by decide +kernel
theorem dX5_reading_26 : decode cX5_reading 26 = .ok (.ifCond .ne 13, 3) := by decide +kernel
theorem dX5_reading_29 : decode cX5_reading 29 = .ok (.new 66, 3) := by decide +kernel
theorem dX5_reading_32 : decode cX5_reading 32 = .ok (.dup, 1) := by decide +kernel
theorem dX5_reading_33 : decode cX5_reading 33 = .ok (.ldc 129, 2) := by decide +kernel
theorem dX5_reading_35 : decode cX5_reading 35 = .ok (.invokespecial 70, 3) := by decide +kernel
theorem dX5_reading_38 : decode cX5_reading 38 = .ok (.athrow, 1) := by decide +kernel
theorem dX5_reading_39 : decode cX5_reading 39 = .ok (.aload_n 0, 1) := by decide +kernel
theorem dX5_reading_40 : decode cX5_reading 40 = .ok (.getfield 19, 3) := by decide +kernel
theorem dX5_reading_43 : decode cX5_reading 43 = .ok (.iload_n 1, 1) := by decide +kernel
theorem dX5_reading_44 : decode cX5_reading 44 = .ok (.iload_n 2, 1) := by decide +kernel
theorem dX5_reading_45 : decode cX5_reading 45 = .ok (.invokevirtual 179, 3) := by decide +kernel
theorem dX5_reading_48 : decode cX5_reading 48 = .ok (.ireturn, 1) := by decide +kernel
set_option maxRecDepth 20000 in
theorem ggX5_risk_X5_hasRace : GoodIn wsX5_risk wsX5_hasRace := goodIn_r _ [11, 12, 101, 102, 103, 104, 105, 106, 107, 108] (by decide +kernel) (by decide +kernel)
set_option maxRecDepth 20000 in
theorem gX5_risk_X5_hasRace : GoodIn wsX5_risk (wsV RX5 126 RX5 yX5_hasRace wsX5_hasRace) := goodIn_app (goodIn_of _ (by decide +kernel)) ggX5_risk_X5_hasRace
set_option maxRecDepth 20000 in
theorem ggX5_risk_X5_hasRisk : GoodIn wsX5_risk wsX5_hasRisk := goodIn_r _ [16, 17, 4, 101, 102, 103, 104, 105, 106, 107, 108, 113, 114, 115, 116, 117, 118, 119, 120, 121, 122] (by decide +kernel) (by decide +kernel)
set_option maxRecDepth 20000 in
theorem gX5_risk_X5_hasRisk : GoodIn wsX5_risk (wsV RX5 182 RX5 yX5_hasRisk wsX5_hasRisk) := goodIn_app (goodIn_of _ (by decide +kernel)) ggX5_risk_X5_hasRisk
set_option maxRecDepth 20000 in
theorem ggX5_risk_X4_follow : GoodIn wsX5_risk wsX4_follow := goodIn_r _ [22, 23, 24, 25, 26, 27, 28, 29, 30, 21, 31, 32, 33, 34, 35, 36, 37, 38, 10, 39, 40, 41, 42, 43, 44, 45, 46, 47, 48, 49, 50, 51, 52, 53, 54, 55, 56, 57, 58, 59, 60, 61, 62, 63, 64, 65, 66, 67, 68, 69, 70, 71, 72, 73, 74, 75, 76, 77, 78, 79, 80, 81, 82, 83, 84, 85, 86, 87, 88, 89, 90, 91, 92, 93, 94, 95, 96, 97, 98, 99, 100, 123, 124, 125, 126, 127, 128, 129, 109, 110, 111, 112, 130, 131, 132, 113, 114, 115, 116, 117, 118, 119, 120, 121, 122] (by decide +kernel) (by decide +kernel)
set_option maxRecDepth 20000 in
theorem gX5_risk_X4_follow : GoodIn wsX5_risk (wsV RX5 185 RX4 yX4_follow wsX4_follow) := goodIn_app (goodIn_of _ (by decide +kernel)) ggX5_risk_X4_follow
theorem dX5_risk_0 : decode cX5_risk 0 = .ok (.aload_n 0, 1) := by decide +kernel
theorem dX5_risk_1 : decode cX5_risk 1 = .ok (.iload_n 1, 1) := by decide +kernel
theorem dX5_risk_2 : decode cX5_risk 2 = .ok (.invokevirtual 126, 3) := by decide +kernel
theorem dX5_risk_5 : decode cX5_risk 5 = .ok (.ifCond .ne 13, 3) := by decide +kernel
theorem dX5_risk_8 : decode cX5_risk 8 = .ok (.new 66, 3) := by decide +kernel
theorem dX5_risk_11 : decode cX5_risk 11 = .ok (.dup, 1) := by decide +kernel
theorem dX5_risk_12 : decode cX5_risk 12 = .ok (.ldc 129, 2) := by decide +kernel
theorem dX5_risk_14 : decode cX5_risk 14 = .ok (.invokespecial 70, 3) := by decide +kernel
theorem dX5_risk_17 : decode cX5_risk 17 = .ok (.athrow, 1) := by decide +kernel
theorem dX5_risk_18 : decode cX5_risk 18 = .ok (.aload_n 0, 1) := by decide +kernel
theorem dX5_risk_19 : decode cX5_risk 19 = .ok (.iload_n 1, 1) := by decide +kernel
theorem dX5_risk_20 : decode cX5_risk 20 = .ok (.invokevirtual 182, 3) := by decide +kernel
theorem dX5_risk_23 : decode cX5_risk 23 = .ok (.ifCond .ne 5, 3) := by decide +kernel
theorem dX5_risk_26 : decode cX5_risk 26 = .ok (.iconst (-1), 1) := by decide +kernel
theorem dX5_risk_27 : decode cX5_risk 27 = .ok (.ireturn, 1) := by decide +kernel
theorem dX5_risk_28 : decode cX5_risk 28 = .ok (.aload_n 0, 1) := by decide +kernel
theorem dX5_risk_29 : decode cX5_risk 29 = .ok (.getfield 33, 3) := by decide +kernel
theorem dX5_risk_32 : decode cX5_risk 32 = .ok (.iload_n 1, 1) := by decide +kernel
theorem dX5_risk_33 : decode cX5_risk 33 = .ok (.aload_n 0, 1) := by decide +kernel
theorem dX5_risk_34 : decode cX5_risk 34 = .ok (.getfield 11, 3) := by decide +kernel
theorem dX5_risk_37 : decode cX5_risk 37 = .ok (.iload_n 1, 1) := by decide +kernel
theorem dX5_risk_38 : decode cX5_risk 38 = .ok (.aaload, 1) := by decide +kernel
theorem dX5_risk_39 : decode cX5_risk 39 = .ok (.aload_n 0, 1) := by decide +kernel
theorem dX5_risk_40 : decode cX5_risk 40 = .ok (.getfield 19, 3) := by decide +kernel
theorem dX5_risk_43 : decode cX5_risk 43 = .ok (.aload_n 0, 1) := by decide +kernel
theorem dX5_risk_44 : decode cX5_risk 44 = .ok (.getfield 26, 3) := by decide +kernel
theorem dX5_risk_47 : decode cX5_risk 47 = .ok (.invokevirtual 185, 3) := by decide +kernel
theorem dX5_risk_50 : decode cX5_risk 50 = .ok (.aload_n 0, 1) := by decide +kernel
theorem dX5_risk_51 : decode cX5_risk 51 = .ok (.getfield 33, 3) := by decide +kernel
theorem dX5_risk_54 : decode cX5_risk 54 = .ok (.getfield 189, 3) := by decide +kernel
theorem dX5_risk_57 : decode cX5_risk 57 = .ok (.ireturn, 1) := by decide +kernel
set_option maxRecDepth 20000 in
theorem ggX5_taken_X5_hasRace : GoodIn wsX5_taken wsX5_hasRace := goodIn_r _ [11, 12, 101, 102, 103, 104, 105, 106, 107, 108] (by decide +kernel) (by decide +kernel)
set_option maxRecDepth 20000 in
theorem gX5_taken_X5_hasRace : GoodIn wsX5_taken (wsV RX5 126 RX5 yX5_hasRace wsX5_hasRace) := goodIn_app (goodIn_of _ (by decide +kernel)) ggX5_taken_X5_hasRace
set_option maxRecDepth 20000 in
theorem ggX5_taken_X5_hasRisk : GoodIn wsX5_taken wsX5_hasRisk := goodIn_r _ [16, 17, 4, 101, 102, 103, 104, 105, 106, 107, 108, 113, 114, 115, 116, 117, 118, 119, 120, 121, 122] (by decide +kernel) (by decide +kernel)
set_option maxRecDepth 20000 in
theorem gX5_taken_X5_hasRisk : GoodIn wsX5_taken (wsV RX5 182 RX5 yX5_hasRisk wsX5_hasRisk) := goodIn_app (goodIn_of _ (by decide +kernel)) ggX5_taken_X5_hasRisk
set_option maxRecDepth 20000 in
theorem ggX5_taken_X4_follow : GoodIn wsX5_taken wsX4_follow := goodIn_r _ [22, 23, 24, 25, 26, 27, 28, 29, 30, 21, 31, 32, 33, 34, 35, 36, 37, 38, 10, 39, 40, 41, 42, 43, 44, 45, 46, 47, 48, 49, 50, 51, 52, 53, 54, 55, 56, 57, 58, 59, 60, 61, 62, 63, 64, 65, 66, 67, 68, 69, 70, 71, 72, 73, 74, 75, 76, 77, 78, 79, 80, 81, 82, 83, 84, 85, 86, 87, 88, 89, 90, 91, 92, 93, 94, 95, 96, 97, 98, 99, 100, 123, 124, 125, 126, 127, 128, 129, 109, 110, 111, 112, 130, 131, 132, 113, 114, 115, 116, 117, 118, 119, 120, 121, 122] (by decide +kernel) (by decide +kernel)
set_option maxRecDepth 20000 in
theorem gX5_taken_X4_follow : GoodIn wsX5_taken (wsV RX5 185 RX4 yX4_follow wsX4_follow) := goodIn_app (goodIn_of _ (by decide +kernel)) ggX5_taken_X4_follow
theorem dX5_taken_0 : decode cX5_taken 0 = .ok (.aload_n 0, 1) := by decide +kernel
theorem dX5_taken_1 : decode cX5_taken 1 = .ok (.iload_n 1, 1) := by decide +kernel
theorem dX5_taken_2 : decode cX5_taken 2 = .ok (.invokevirtual 126, 3) := by decide +kernel
theorem dX5_taken_5 : decode cX5_taken 5 = .ok (.ifCond .ne 13, 3) := by decide +kernel
theorem dX5_taken_8 : decode cX5_taken 8 = .ok (.new 66, 3) := by decide +kernel
theorem dX5_taken_11 : decode cX5_taken 11 = .ok (.dup, 1) := by decide +kernel
theorem dX5_taken_12 : decode cX5_taken 12 = .ok (.ldc 129, 2) := by decide +kernel
theorem dX5_taken_14 : decode cX5_taken 14 = .ok (.invokespecial 70, 3) := by decide +kernel
theorem dX5_taken_17 : decode cX5_taken 17 = .ok (.athrow, 1) := by decide +kernel
theorem dX5_taken_18 : decode cX5_taken 18 = .ok (.aload_n 0, 1) := by decide +kernel
theorem dX5_taken_19 : decode cX5_taken 19 = .ok (.iload_n 1, 1) := by decide +kernel
theorem dX5_taken_20 : decode cX5_taken 20 = .ok (.invokevirtual 182, 3) := by decide +kernel
theorem dX5_taken_23 : decode cX5_taken 23 = .ok (.ifCond .ne 5, 3) := by decide +kernel
theorem dX5_taken_26 : decode cX5_taken 26 = .ok (.iconst 0, 1) := by decide +kernel
theorem dX5_taken_27 : decode cX5_taken 27 = .ok (.ireturn, 1) := by decide +kernel
theorem dX5_taken_28 : decode cX5_taken 28 = .ok (.aload_n 0, 1) := by decide +kernel
theorem dX5_taken_29 : decode cX5_taken 29 = .ok (.getfield 33, 3) := by decide +kernel
theorem dX5_taken_32 : decode cX5_taken 32 = .ok (.iload_n 1, 1) := by decide +kernel
theorem dX5_taken_33 : decode cX5_taken 33 = .ok (.aload_n 0, 1) := by decide +kernel
theorem dX5_taken_34 : decode cX5_taken 34 = .ok (.getfield 11, 3) := by decide +kernel
theorem dX5_taken_37 : decode cX5_taken 37 = .ok (.iload_n 1, 1) := by decide +kernel
theorem dX5_taken_38 : decode cX5_taken 38 = .ok (.aaload, 1) := by decide +kernel
theorem dX5_taken_39 : decode cX5_taken 39 = .ok (.aload_n 0, 1) := by decide +kernel
theorem dX5_taken_40 : decode cX5_taken 40 = .ok (.getfield 19, 3) := by decide +kernel
theorem dX5_taken_43 : decode cX5_taken 43 = .ok (.aload_n 0, 1) := by decide +kernel
theorem dX5_taken_44 : decode cX5_taken 44 = .ok (.getfield 26, 3) := by decide +kernel
theorem dX5_taken_47 : decode cX5_taken 47 = .ok (.invokevirtual 185, 3) := by decide +kernel
theorem dX5_taken_50 : decode cX5_taken 50 = .ok (.aload_n 0, 1) := by decide +kernel
theorem dX5_taken_51 : decode cX5_taken 51 = .ok (.getfield 33, 3) := by decide +kernel
theorem dX5_taken_54 : decode cX5_taken 54 = .ok (.getfield 192, 3) := by decide +kernel
theorem dX5_taken_57 : decode cX5_taken 57 = .ok (.ireturn, 1) := by decide +kernel
set_option maxRecDepth 20000 in
theorem ggX5_taint_X5_hasRace : GoodIn wsX5_taint wsX5_hasRace := goodIn_r _ [11, 12, 84, 85, 86, 87, 88, 89, 90, 91] (by decide +kernel) (by decide +kernel)
set_option maxRecDepth 20000 in
theorem gX5_taint_X5_hasRace : GoodIn wsX5_taint (wsV RX5 126 RX5 yX5_hasRace wsX5_hasRace) := goodIn_app (goodIn_of _ (by decide +kernel)) ggX5_taint_X5_hasRace
set_option maxRecDepth 20000 in
theorem ggX5_taint_X0_has : GoodIn wsX5_taint wsX0_has := goodIn_r _ [17, 18, 92, 93, 94] (by decide +kernel) (by decide +kernel)
set_option maxRecDepth 20000 in
theorem gX5_taint_X0_has : GoodIn wsX5_taint (wsV RX5 155 RX0 yX0_has wsX0_has) := goodIn_app (goodIn_of _ (by decide +kernel)) ggX5_taint_X0_has
set_option maxRecDepth 20000 in
theorem ggX5_taint_X5_hasRisk : GoodIn wsX5_taint wsX5_hasRisk := goodIn_r _ [22, 23, 6, 84, 85, 86, 87, 88, 89, 90, 91, 99, 100, 101, 102, 103, 104, 105, 106, 107, 108] (by decide +kernel) (by decide +kernel)
set_option maxRecDepth 20000 in
theorem gX5_taint_X5_hasRisk : GoodIn wsX5_taint (wsV RX5 182 RX5 yX5_hasRisk wsX5_hasRisk) := goodIn_app (goodIn_of _ (by decide +kernel)) ggX5_taint_X5_hasRisk
set_option maxRecDepth 20000 in
theorem ggX5_taint_X0_settled : GoodIn wsX5_taint wsX0_settled := goodIn_r _ [27, 18, 28, 29, 30, 31, 32, 33, 34, 35, 36, 37, 38, 39, 92, 93, 94, 109, 110, 111, 112, 113, 114, 115] (by decide +kernel) (by decide +kernel)
set_option maxRecDepth 20000 in
theorem gX5_taint_X0_settled : GoodIn wsX5_taint (wsV RX5 162 RX0 yX0_settled wsX0_settled) := goodIn_app (goodIn_of _ (by decide +kernel)) ggX5_taint_X0_settled
set_option maxRecDepth 20000 in
theorem ggX5_taint_X4_weigh : GoodIn wsX5_taint wsX4_weigh := goodIn_r _ [44, 45, 46, 47, 48, 49, 32, 50, 51, 52, 10, 53, 54, 55, 56, 57, 39, 58, 59, 60, 61, 62, 63, 64, 65, 66, 67, 68, 69, 70, 71, 72, 73, 74, 75, 76, 77, 78, 79, 43, 80, 81, 82, 83, 109, 110, 111, 112, 113, 114, 115, 95, 96, 97, 98, 99, 100, 101, 102, 103, 104, 105, 106, 107, 108] (by decide +kernel) (by decide +kernel)
set_option maxRecDepth 20000 in
theorem gX5_taint_X4_weigh : GoodIn wsX5_taint (wsV RX5 195 RX4 yX4_weigh wsX4_weigh) := goodIn_app (goodIn_of _ (by decide +kernel)) ggX5_taint_X4_weigh
theorem dX5_taint_0 : decode cX5_taint 0 = .ok (.aload_n 0, 1) := by decide +kernel
theorem dX5_taint_1 : decode cX5_taint 1 = .ok (.iload_n 1, 1) := by decide +kernel
theorem dX5_taint_2 : decode cX5_taint 2 = .ok (.invokevirtual 126, 3) := by decide +kernel
theorem dX5_taint_5 : decode cX5_taint 5 = .ok (.ifCond .ne 13, 3) := by decide +kernel
theorem dX5_taint_8 : decode cX5_taint 8 = .ok (.new 66, 3) := by decide +kernel
theorem dX5_taint_11 : decode cX5_taint 11 = .ok (.dup, 1) := by decide +kernel
theorem dX5_taint_12 : decode cX5_taint 12 = .ok (.ldc 129, 2) := by decide +kernel
theorem dX5_taint_14 : decode cX5_taint 14 = .ok (.invokespecial 70, 3) := by decide +kernel
theorem dX5_taint_17 : decode cX5_taint 17 = .ok (.athrow, 1) := by decide +kernel
theorem dX5_taint_18 : decode cX5_taint 18 = .ok (.aload_n 0, 1) := by decide +kernel
theorem dX5_taint_19 : decode cX5_taint 19 = .ok (.getfield 26, 3) := by decide +kernel
theorem dX5_taint_22 : decode cX5_taint 22 = .ok (.iload_n 2, 1) := by decide +kernel
theorem dX5_taint_23 : decode cX5_taint 23 = .ok (.invokevirtual 155, 3) := by decide +kernel
theorem dX5_taint_26 : decode cX5_taint 26 = .ok (.ifCond .ne 13, 3) := by decide +kernel
theorem dX5_taint_29 : decode cX5_taint 29 = .ok (.new 66, 3) := by decide +kernel
theorem dX5_taint_32 : decode cX5_taint 32 = .ok (.dup, 1) := by decide +kernel
theorem dX5_taint_33 : decode cX5_taint 33 = .ok (.ldc 156, 2) := by decide +kernel
theorem dX5_taint_35 : decode cX5_taint 35 = .ok (.invokespecial 70, 3) := by decide +kernel
theorem dX5_taint_38 : decode cX5_taint 38 = .ok (.athrow, 1) := by decide +kernel
theorem dX5_taint_39 : decode cX5_taint 39 = .ok (.aload_n 0, 1) := by decide +kernel
theorem dX5_taint_40 : decode cX5_taint 40 = .ok (.iload_n 1, 1) := by decide +kernel
theorem dX5_taint_41 : decode cX5_taint 41 = .ok (.invokevirtual 182, 3) := by decide +kernel
theorem dX5_taint_44 : decode cX5_taint 44 = .ok (.ifCond .eq 18, 3) := by decide +kernel
theorem dX5_taint_47 : decode cX5_taint 47 = .ok (.iload_n 2, 1) := by decide +kernel
theorem dX5_taint_48 : decode cX5_taint 48 = .ok (.aload_n 0, 1) := by decide +kernel
theorem dX5_taint_49 : decode cX5_taint 49 = .ok (.getfield 26, 3) := by decide +kernel
theorem dX5_taint_52 : decode cX5_taint 52 = .ok (.aload_n 0, 1) := by decide +kernel
theorem dX5_taint_53 : decode cX5_taint 53 = .ok (.getfield 19, 3) := by decide +kernel
theorem dX5_taint_56 : decode cX5_taint 56 = .ok (.invokevirtual 162, 3) := by decide +kernel
theorem dX5_taint_59 : decode cX5_taint 59 = .ok (.if_icmp .lt 6, 3) := by decide +kernel
theorem dX5_taint_62 : decode cX5_taint 62 = .ok (.bipush (-10), 2) := by decide +kernel
theorem dX5_taint_64 : decode cX5_taint 64 = .ok (.ireturn, 1) := by decide +kernel
theorem dX5_taint_65 : decode cX5_taint 65 = .ok (.aload_n 0, 1) := by decide +kernel
theorem dX5_taint_66 : decode cX5_taint 66 = .ok (.getfield 26, 3) := by decide +kernel
theorem dX5_taint_69 : decode cX5_taint 69 = .ok (.getfield 158, 3) := by decide +kernel
theorem dX5_taint_72 : decode cX5_taint 72 = .ok (.iload_n 2, 1) := by decide +kernel
theorem dX5_taint_73 : decode cX5_taint 73 = .ok (.iaload, 1) := by decide +kernel
theorem dX5_taint_74 : decode cX5_taint 74 = .ok (.istore_n 3, 1) := by decide +kernel
theorem dX5_taint_75 : decode cX5_taint 75 = .ok (.aload_n 0, 1) := by decide +kernel
theorem dX5_taint_76 : decode cX5_taint 76 = .ok (.getfield 33, 3) := by decide +kernel
theorem dX5_taint_79 : decode cX5_taint 79 = .ok (.iload_n 3, 1) := by decide +kernel
theorem dX5_taint_80 : decode cX5_taint 80 = .ok (.iload_n 1, 1) := by decide +kernel
theorem dX5_taint_81 : decode cX5_taint 81 = .ok (.aload_n 0, 1) := by decide +kernel
theorem dX5_taint_82 : decode cX5_taint 82 = .ok (.getfield 11, 3) := by decide +kernel
theorem dX5_taint_85 : decode cX5_taint 85 = .ok (.iload_n 1, 1) := by decide +kernel
theorem dX5_taint_86 : decode cX5_taint 86 = .ok (.aaload, 1) := by decide +kernel
theorem dX5_taint_87 : decode cX5_taint 87 = .ok (.aload_n 0, 1) := by decide +kernel
theorem dX5_taint_88 : decode cX5_taint 88 = .ok (.getfield 19, 3) := by decide +kernel
theorem dX5_taint_91 : decode cX5_taint 91 = .ok (.invokevirtual 195, 3) := by decide +kernel
theorem dX5_taint_94 : decode cX5_taint 94 = .ok (.aload_n 0, 1) := by decide +kernel
theorem dX5_taint_95 : decode cX5_taint 95 = .ok (.getfield 33, 3) := by decide +kernel
theorem dX5_taint_98 : decode cX5_taint 98 = .ok (.getfield 199, 3) := by decide +kernel
theorem dX5_taint_101 : decode cX5_taint 101 = .ok (.iload_n 3, 1) := by decide +kernel
theorem dX5_taint_102 : decode cX5_taint 102 = .ok (.iaload, 1) := by decide +kernel
theorem dX5_taint_103 : decode cX5_taint 103 = .ok (.ireturn, 1) := by decide +kernel
set_option maxRecDepth 20000 in
theorem ggX5_need_X5_hasRace : GoodIn wsX5_need wsX5_hasRace := goodIn_r _ [14, 15, 110, 111, 112, 113, 114, 115, 116, 117] (by decide +kernel) (by decide +kernel)
set_option maxRecDepth 20000 in
theorem gX5_need_X5_hasRace : GoodIn wsX5_need (wsV RX5 126 RX5 yX5_hasRace wsX5_hasRace) := goodIn_app (goodIn_of _ (by decide +kernel)) ggX5_need_X5_hasRace
set_option maxRecDepth 20000 in
theorem ggX5_need_X5_hasRisk : GoodIn wsX5_need wsX5_hasRisk := goodIn_r _ [19, 20, 7, 110, 111, 112, 113, 114, 115, 116, 117, 122, 123, 124, 125, 126, 127, 128, 129, 130, 131] (by decide +kernel) (by decide +kernel)
set_option maxRecDepth 20000 in
theorem gX5_need_X5_hasRisk : GoodIn wsX5_need (wsV RX5 182 RX5 yX5_hasRisk wsX5_hasRisk) := goodIn_app (goodIn_of _ (by decide +kernel)) ggX5_need_X5_hasRisk
set_option maxRecDepth 20000 in
theorem ggX5_need_X4_follow : GoodIn wsX5_need wsX4_follow := goodIn_r _ [25, 26, 27, 28, 29, 30, 31, 32, 33, 24, 34, 35, 36, 37, 38, 39, 40, 41, 13, 42, 43, 44, 45, 46, 47, 48, 49, 50, 51, 52, 53, 54, 55, 56, 57, 58, 59, 60, 61, 62, 63, 64, 65, 66, 67, 68, 69, 70, 71, 72, 73, 74, 75, 76, 77, 78, 79, 80, 81, 82, 83, 84, 85, 86, 87, 88, 89, 90, 91, 92, 93, 94, 95, 96, 97, 98, 99, 100, 101, 102, 103, 132, 133, 134, 135, 136, 137, 138, 118, 119, 120, 121, 139, 140, 141, 122, 123, 124, 125, 126, 127, 128, 129, 130, 131] (by decide +kernel) (by decide +kernel)
set_option maxRecDepth 20000 in
theorem gX5_need_X4_follow : GoodIn wsX5_need (wsV RX5 185 RX4 yX4_follow wsX4_follow) := goodIn_app (goodIn_of _ (by decide +kernel)) ggX5_need_X4_follow
set_option maxRecDepth 20000 in
theorem ggX5_need_X2_cleanDrawsUntil : GoodIn wsX5_need wsX2_cleanDrawsUntil := goodIn_r _ [107, 108, 98, 109, 91, 92, 93, 94, 95, 96, 97, 99, 100, 101, 102, 50, 103, 122, 123, 124, 125, 126, 127, 128, 129, 130, 131] (by decide +kernel) (by decide +kernel)
set_option maxRecDepth 20000 in
theorem gX5_need_X2_cleanDrawsUntil : GoodIn wsX5_need (wsV RX5 205 RX2 yX2_cleanDrawsUntil wsX2_cleanDrawsUntil) := goodIn_app (goodIn_of _ (by decide +kernel)) ggX5_need_X2_cleanDrawsUntil
theorem dX5_need_0 : decode cX5_need 0 = .ok (.aload_n 0, 1) := by decide +kernel
theorem dX5_need_1 : decode cX5_need 1 = .ok (.iload_n 1, 1) := by decide +kernel
theorem dX5_need_2 : decode cX5_need 2 = .ok (.invokevirtual 126, 3) := by decide +kernel
theorem dX5_need_5 : decode cX5_need 5 = .ok (.ifCond .ne 13, 3) := by decide +kernel
theorem dX5_need_8 : decode cX5_need 8 = .ok (.new 66, 3) := by decide +kernel
theorem dX5_need_11 : decode cX5_need 11 = .ok (.dup, 1) := by decide +kernel
theorem dX5_need_12 : decode cX5_need 12 = .ok (.ldc 129, 2) := by decide +kernel
theorem dX5_need_14 : decode cX5_need 14 = .ok (.invokespecial 70, 3) := by decide +kernel
theorem dX5_need_17 : decode cX5_need 17 = .ok (.athrow, 1) := by decide +kernel
theorem dX5_need_18 : decode cX5_need 18 = .ok (.iload_n 2, 1) := by decide +kernel
theorem dX5_need_19 : decode cX5_need 19 = .ok (.ifCond .lt 9, 3) := by decide +kernel
theorem dX5_need_22 : decode cX5_need 22 = .ok (.iload_n 2, 1) := by decide +kernel
theorem dX5_need_23 : decode cX5_need 23 = .ok (.ldc 202, 2) := by decide +kernel
theorem dX5_need_25 : decode cX5_need 25 = .ok (.if_icmp .le 13, 3) := by decide +kernel
theorem dX5_need_28 : decode cX5_need 28 = .ok (.new 143, 3) := by decide +kernel
theorem dX5_need_31 : decode cX5_need 31 = .ok (.dup, 1) := by decide +kernel
theorem dX5_need_32 : decode cX5_need 32 = .ok (.ldc 203, 2) := by decide +kernel
theorem dX5_need_34 : decode cX5_need 34 = .ok (.invokespecial 147, 3) := by decide +kernel
theorem dX5_need_37 : decode cX5_need 37 = .ok (.athrow, 1) := by decide +kernel
theorem dX5_need_38 : decode cX5_need 38 = .ok (.aload_n 0, 1) := by decide +kernel
theorem dX5_need_39 : decode cX5_need 39 = .ok (.iload_n 1, 1) := by decide +kernel
theorem dX5_need_40 : decode cX5_need 40 = .ok (.invokevirtual 182, 3) := by decide +kernel
theorem dX5_need_43 : decode cX5_need 43 = .ok (.ifCond .ne 5, 3) := by decide +kernel
theorem dX5_need_46 : decode cX5_need 46 = .ok (.iconst (-1), 1) := by decide +kernel
theorem dX5_need_47 : decode cX5_need 47 = .ok (.ireturn, 1) := by decide +kernel
theorem dX5_need_48 : decode cX5_need 48 = .ok (.aload_n 0, 1) := by decide +kernel
theorem dX5_need_49 : decode cX5_need 49 = .ok (.getfield 33, 3) := by decide +kernel
theorem dX5_need_52 : decode cX5_need 52 = .ok (.iload_n 1, 1) := by decide +kernel
theorem dX5_need_53 : decode cX5_need 53 = .ok (.aload_n 0, 1) := by decide +kernel
theorem dX5_need_54 : decode cX5_need 54 = .ok (.getfield 11, 3) := by decide +kernel
theorem dX5_need_57 : decode cX5_need 57 = .ok (.iload_n 1, 1) := by decide +kernel
theorem dX5_need_58 : decode cX5_need 58 = .ok (.aaload, 1) := by decide +kernel
theorem dX5_need_59 : decode cX5_need 59 = .ok (.aload_n 0, 1) := by decide +kernel
theorem dX5_need_60 : decode cX5_need 60 = .ok (.getfield 19, 3) := by decide +kernel
theorem dX5_need_63 : decode cX5_need 63 = .ok (.aload_n 0, 1) := by decide +kernel
theorem dX5_need_64 : decode cX5_need 64 = .ok (.getfield 26, 3) := by decide +kernel
theorem dX5_need_67 : decode cX5_need 67 = .ok (.invokevirtual 185, 3) := by decide +kernel
theorem dX5_need_70 : decode cX5_need 70 = .ok (.aload_n 0, 1) := by decide +kernel
theorem dX5_need_71 : decode cX5_need 71 = .ok (.getfield 11, 3) := by decide +kernel
theorem dX5_need_74 : decode cX5_need 74 = .ok (.iload_n 1, 1) := by decide +kernel
theorem dX5_need_75 : decode cX5_need 75 = .ok (.aaload, 1) := by decide +kernel
theorem dX5_need_76 : decode cX5_need 76 = .ok (.iload_n 2, 1) := by decide +kernel
theorem dX5_need_77 : decode cX5_need 77 = .ok (.aload_n 0, 1) := by decide +kernel
theorem dX5_need_78 : decode cX5_need 78 = .ok (.getfield 33, 3) := by decide +kernel
theorem dX5_need_81 : decode cX5_need 81 = .ok (.getfield 189, 3) := by decide +kernel
theorem dX5_need_84 : decode cX5_need 84 = .ok (.invokevirtual 205, 3) := by decide +kernel
theorem dX5_need_87 : decode cX5_need 87 = .ok (.ireturn, 1) := by decide +kernel
set_option maxRecDepth 20000 in
theorem ggX5_count_X1_lostOnes : GoodIn wsX5_count wsX1_lostOnes := goodIn_r _ [12, 13, 14, 32, 33, 34, 35, 36, 37, 38] (by decide +kernel) (by decide +kernel)
set_option maxRecDepth 20000 in
theorem gX5_count_X1_lostOnes : GoodIn wsX5_count (wsV RX5 208 RX1 yX1_lostOnes wsX1_lostOnes) := goodIn_app (goodIn_of _ (by decide +kernel)) ggX5_count_X1_lostOnes
set_option maxRecDepth 20000 in
theorem ggX5_count_X1_readOnes : GoodIn wsX5_count wsX1_readOnes := goodIn_r _ [18, 13, 19, 20, 21, 11, 22, 23, 32, 33, 34, 35, 36, 37, 38] (by decide +kernel) (by decide +kernel)
set_option maxRecDepth 20000 in
theorem gX5_count_X1_readOnes : GoodIn wsX5_count (wsV RX5 212 RX1 yX1_readOnes wsX1_readOnes) := goodIn_app (goodIn_of _ (by decide +kernel)) ggX5_count_X1_readOnes
theorem dX5_count_0 : decode cX5_count 0 = .ok (.iload_n 1, 1) := by decide +kernel
theorem dX5_count_1 : decode cX5_count 1 = .ok (.tableswitch 98 0 6 #[43, 48, 53, 61, 69, 77, 85], 43) := by decide +kernel
theorem dX5_count_44 : decode cX5_count 44 = .ok (.aload_n 0, 1) := by decide +kernel
theorem dX5_count_45 : decode cX5_count 45 = .ok (.getfield 44, 3) := by decide +kernel
theorem dX5_count_48 : decode cX5_count 48 = .ok (.ireturn, 1) := by decide +kernel
theorem dX5_count_49 : decode cX5_count 49 = .ok (.aload_n 0, 1) := by decide +kernel
theorem dX5_count_50 : decode cX5_count 50 = .ok (.getfield 48, 3) := by decide +kernel
theorem dX5_count_53 : decode cX5_count 53 = .ok (.ireturn, 1) := by decide +kernel
theorem dX5_count_54 : decode cX5_count 54 = .ok (.aload_n 0, 1) := by decide +kernel
theorem dX5_count_55 : decode cX5_count 55 = .ok (.getfield 19, 3) := by decide +kernel
theorem dX5_count_58 : decode cX5_count 58 = .ok (.getfield 55, 3) := by decide +kernel
theorem dX5_count_61 : decode cX5_count 61 = .ok (.ireturn, 1) := by decide +kernel
theorem dX5_count_62 : decode cX5_count 62 = .ok (.aload_n 0, 1) := by decide +kernel
theorem dX5_count_63 : decode cX5_count 63 = .ok (.getfield 19, 3) := by decide +kernel
theorem dX5_count_66 : decode cX5_count 66 = .ok (.invokevirtual 208, 3) := by decide +kernel
theorem dX5_count_69 : decode cX5_count 69 = .ok (.ireturn, 1) := by decide +kernel
theorem dX5_count_70 : decode cX5_count 70 = .ok (.aload_n 0, 1) := by decide +kernel
theorem dX5_count_71 : decode cX5_count 71 = .ok (.getfield 26, 3) := by decide +kernel
theorem dX5_count_74 : decode cX5_count 74 = .ok (.getfield 148, 3) := by decide +kernel
theorem dX5_count_77 : decode cX5_count 77 = .ok (.ireturn, 1) := by decide +kernel
theorem dX5_count_78 : decode cX5_count 78 = .ok (.aload_n 0, 1) := by decide +kernel
theorem dX5_count_79 : decode cX5_count 79 = .ok (.getfield 19, 3) := by decide +kernel
theorem dX5_count_82 : decode cX5_count 82 = .ok (.invokevirtual 212, 3) := by decide +kernel
theorem dX5_count_85 : decode cX5_count 85 = .ok (.ireturn, 1) := by decide +kernel
theorem dX5_count_86 : decode cX5_count 86 = .ok (.aload_n 0, 1) := by decide +kernel
theorem dX5_count_87 : decode cX5_count 87 = .ok (.getfield 51, 3) := by decide +kernel
theorem dX5_count_90 : decode cX5_count 90 = .ok (.ifCond .eq 7, 3) := by decide +kernel
theorem dX5_count_93 : decode cX5_count 93 = .ok (.iconst 1, 1) := by decide +kernel
theorem dX5_count_94 : decode cX5_count 94 = .ok (.goto 4, 3) := by decide +kernel
theorem dX5_count_97 : decode cX5_count 97 = .ok (.iconst 0, 1) := by decide +kernel
theorem dX5_count_98 : decode cX5_count 98 = .ok (.ireturn, 1) := by decide +kernel
theorem dX5_count_99 : decode cX5_count 99 = .ok (.new 66, 3) := by decide +kernel
theorem dX5_count_102 : decode cX5_count 102 = .ok (.dup, 1) := by decide +kernel
theorem dX5_count_103 : decode cX5_count 103 = .ok (.ldc 215, 2) := by decide +kernel
theorem dX5_count_105 : decode cX5_count 105 = .ok (.invokespecial 70, 3) := by decide +kernel
theorem dX5_count_108 : decode cX5_count 108 = .ok (.athrow, 1) := by decide +kernel
theorem dX5_hasRace_0 : decode cX5_hasRace 0 = .ok (.iload_n 1, 1) := by decide +kernel
theorem dX5_hasRace_1 : decode cX5_hasRace 1 = .ok (.ifCond .lt 15, 3) := by decide +kernel
theorem dX5_hasRace_4 : decode cX5_hasRace 4 = .ok (.iload_n 1, 1) := by decide +kernel
theorem dX5_hasRace_5 : decode cX5_hasRace 5 = .ok (.aload_n 0, 1) := by decide +kernel
theorem dX5_hasRace_6 : decode cX5_hasRace 6 = .ok (.getfield 44, 3) := by decide +kernel
theorem dX5_hasRace_9 : decode cX5_hasRace 9 = .ok (.if_icmp .ge 7, 3) := by decide +kernel
theorem dX5_hasRace_12 : decode cX5_hasRace 12 = .ok (.iconst 1, 1) := by decide +kernel
theorem dX5_hasRace_13 : decode cX5_hasRace 13 = .ok (.goto 4, 3) := by decide +kernel
theorem dX5_hasRace_16 : decode cX5_hasRace 16 = .ok (.iconst 0, 1) := by decide +kernel
theorem dX5_hasRace_17 : decode cX5_hasRace 17 = .ok (.ireturn, 1) := by decide +kernel
theorem dX5_hasBox_0 : decode cX5_hasBox 0 = .ok (.iload_n 1, 1) := by decide +kernel
theorem dX5_hasBox_1 : decode cX5_hasBox 1 = .ok (.ifCond .lt 15, 3) := by decide +kernel
theorem dX5_hasBox_4 : decode cX5_hasBox 4 = .ok (.iload_n 1, 1) := by decide +kernel
theorem dX5_hasBox_5 : decode cX5_hasBox 5 = .ok (.aload_n 0, 1) := by decide +kernel
theorem dX5_hasBox_6 : decode cX5_hasBox 6 = .ok (.getfield 48, 3) := by decide +kernel
theorem dX5_hasBox_9 : decode cX5_hasBox 9 = .ok (.if_icmp .ge 7, 3) := by decide +kernel
theorem dX5_hasBox_12 : decode cX5_hasBox 12 = .ok (.iconst 1, 1) := by decide +kernel
theorem dX5_hasBox_13 : decode cX5_hasBox 13 = .ok (.goto 4, 3) := by decide +kernel
theorem dX5_hasBox_16 : decode cX5_hasBox 16 = .ok (.iconst 0, 1) := by decide +kernel
theorem dX5_hasBox_17 : decode cX5_hasBox 17 = .ok (.ireturn, 1) := by decide +kernel
set_option maxRecDepth 20000 in
theorem ggX5_canTally_X5_hasRace : GoodIn wsX5_canTally wsX5_hasRace := goodIn_r _ [6, 7, 14, 15, 16, 17, 18, 19, 20, 21] (by decide +kernel) (by decide +kernel)
set_option maxRecDepth 20000 in
theorem gX5_canTally_X5_hasRace : GoodIn wsX5_canTally (wsV RX5 126 RX5 yX5_hasRace wsX5_hasRace) := goodIn_app (goodIn_of _ (by decide +kernel)) ggX5_canTally_X5_hasRace
set_option maxRecDepth 20000 in
theorem ggX5_canTally_X2_hasCandidate : GoodIn wsX5_canTally wsX2_hasCandidate := goodIn_r _ [12, 13, 22, 23, 24, 25, 26, 27, 28, 29, 30, 31] (by decide +kernel) (by decide +kernel)
set_option maxRecDepth 20000 in
theorem gX5_canTally_X2_hasCandidate : GoodIn wsX5_canTally (wsV RX5 217 RX2 yX2_hasCandidate wsX2_hasCandidate) := goodIn_app (goodIn_of _ (by decide +kernel)) ggX5_canTally_X2_hasCandidate
theorem dX5_canTally_0 : decode cX5_canTally 0 = .ok (.aload_n 0, 1) := by decide +kernel
theorem dX5_canTally_1 : decode cX5_canTally 1 = .ok (.iload_n 1, 1) := by decide +kernel
theorem dX5_canTally_2 : decode cX5_canTally 2 = .ok (.invokevirtual 126, 3) := by decide +kernel
theorem dX5_canTally_5 : decode cX5_canTally 5 = .ok (.ifCond .eq 29, 3) := by decide +kernel
theorem dX5_canTally_8 : decode cX5_canTally 8 = .ok (.aload_n 0, 1) := by decide +kernel
theorem dX5_canTally_9 : decode cX5_canTally 9 = .ok (.getfield 11, 3) := by decide +kernel
theorem dX5_canTally_12 : decode cX5_canTally 12 = .ok (.iload_n 1, 1) := by decide +kernel
theorem dX5_canTally_13 : decode cX5_canTally 13 = .ok (.aaload, 1) := by decide +kernel
theorem dX5_canTally_14 : decode cX5_canTally 14 = .ok (.iload_n 2, 1) := by decide +kernel
theorem dX5_canTally_15 : decode cX5_canTally 15 = .ok (.invokevirtual 217, 3) := by decide +kernel
theorem dX5_canTally_18 : decode cX5_canTally 18 = .ok (.ifCond .eq 16, 3) := by decide +kernel
theorem dX5_canTally_21 : decode cX5_canTally 21 = .ok (.iload_n 3, 1) := by decide +kernel
theorem dX5_canTally_22 : decode cX5_canTally 22 = .ok (.ifCond .eq 8, 3) := by decide +kernel
theorem dX5_canTally_25 : decode cX5_canTally 25 = .ok (.iload_n 3, 1) := by decide +kernel
theorem dX5_canTally_26 : decode cX5_canTally 26 = .ok (.iconst 1, 1) := by decide +kernel
theorem dX5_canTally_27 : decode cX5_canTally 27 = .ok (.if_icmp .ne 7, 3) := by decide +kernel
theorem dX5_canTally_30 : decode cX5_canTally 30 = .ok (.iconst 1, 1) := by decide +kernel
theorem dX5_canTally_31 : decode cX5_canTally 31 = .ok (.goto 4, 3) := by decide +kernel
theorem dX5_canTally_34 : decode cX5_canTally 34 = .ok (.iconst 0, 1) := by decide +kernel
theorem dX5_canTally_35 : decode cX5_canTally 35 = .ok (.ireturn, 1) := by decide +kernel
theorem dX5_hasRisk_0 : decode cX5_hasRisk 0 = .ok (.aload_n 0, 1) := by decide +kernel
theorem dX5_hasRisk_1 : decode cX5_hasRisk 1 = .ok (.getfield 51, 3) := by decide +kernel
theorem dX5_hasRisk_4 : decode cX5_hasRisk 4 = .ok (.ifCond .eq 19, 3) := by decide +kernel
theorem dX5_hasRisk_7 : decode cX5_hasRisk 7 = .ok (.aload_n 0, 1) := by decide +kernel
theorem dX5_hasRisk_8 : decode cX5_hasRisk 8 = .ok (.getfield 11, 3) := by decide +kernel
theorem dX5_hasRisk_11 : decode cX5_hasRisk 11 = .ok (.iload_n 1, 1) := by decide +kernel
theorem dX5_hasRisk_12 : decode cX5_hasRisk 12 = .ok (.aaload, 1) := by decide +kernel
theorem dX5_hasRisk_13 : decode cX5_hasRisk 13 = .ok (.getfield 132, 3) := by decide +kernel
theorem dX5_hasRisk_16 : decode cX5_hasRisk 16 = .ok (.ifCond .le 7, 3) := by decide +kernel
theorem dX5_hasRisk_19 : decode cX5_hasRisk 19 = .ok (.iconst 1, 1) := by decide +kernel
theorem dX5_hasRisk_20 : decode cX5_hasRisk 20 = .ok (.goto 4, 3) := by decide +kernel
theorem dX5_hasRisk_23 : decode cX5_hasRisk 23 = .ok (.iconst 0, 1) := by decide +kernel
theorem dX5_hasRisk_24 : decode cX5_hasRisk 24 = .ok (.ireturn, 1) := by decide +kernel
set_option maxRecDepth 20000 in
theorem ggX5_isPossible_X5_markOf : GoodIn wsX5_isPossible wsX5_markOf := goodIn_r _ [6] (by decide +kernel) (by decide +kernel)
set_option maxRecDepth 20000 in
theorem gX5_isPossible_X5_markOf : GoodIn wsX5_isPossible (va_wsS RX5 76 yX5_markOf wsX5_markOf) := goodIn_app (goodIn_of _ (by decide +kernel)) ggX5_isPossible_X5_markOf
set_option maxRecDepth 20000 in
theorem ggX5_isPossible_X2_allows : GoodIn wsX5_isPossible wsX2_allows := goodIn_r _ [11, 12, 21, 22, 23, 24, 25, 26, 27, 28, 29, 30] (by decide +kernel) (by decide +kernel)
set_option maxRecDepth 20000 in
theorem gX5_isPossible_X2_allows : GoodIn wsX5_isPossible (wsV RX5 220 RX2 yX2_allows wsX2_allows) := goodIn_app (goodIn_of _ (by decide +kernel)) ggX5_isPossible_X2_allows
theorem dX5_isPossible_0 : decode cX5_isPossible 0 = .ok (.iconst 0, 1) := by decide +kernel
theorem dX5_isPossible_1 : decode cX5_isPossible 1 = .ok (.istore_n 2, 1) := by decide +kernel
theorem dX5_isPossible_2 : decode cX5_isPossible 2 = .ok (.iload_n 2, 1) := by decide +kernel
theorem dX5_isPossible_3 : decode cX5_isPossible 3 = .ok (.aload_n 0, 1) := by decide +kernel
theorem dX5_isPossible_4 : decode cX5_isPossible 4 = .ok (.getfield 44, 3) := by decide +kernel
theorem dX5_isPossible_7 : decode cX5_isPossible 7 = .ok (.if_icmp .ge 28, 3) := by decide +kernel
theorem dX5_isPossible_10 : decode cX5_isPossible 10 = .ok (.aload_n 0, 1) := by decide +kernel
theorem dX5_isPossible_11 : decode cX5_isPossible 11 = .ok (.getfield 11, 3) := by decide +kernel
theorem dX5_isPossible_14 : decode cX5_isPossible 14 = .ok (.iload_n 2, 1) := by decide +kernel
theorem dX5_isPossible_15 : decode cX5_isPossible 15 = .ok (.aaload, 1) := by decide +kernel
theorem dX5_isPossible_16 : decode cX5_isPossible 16 = .ok (.iload_n 1, 1) := by decide +kernel
theorem dX5_isPossible_17 : decode cX5_isPossible 17 = .ok (.iload_n 2, 1) := by decide +kernel
theorem dX5_isPossible_18 : decode cX5_isPossible 18 = .ok (.invokestatic 76, 3) := by decide +kernel
theorem dX5_isPossible_21 : decode cX5_isPossible 21 = .ok (.invokevirtual 220, 3) := by decide +kernel
theorem dX5_isPossible_24 : decode cX5_isPossible 24 = .ok (.ifCond .ne 5, 3) := by decide +kernel
theorem dX5_isPossible_27 : decode cX5_isPossible 27 = .ok (.iconst 0, 1) := by decide +kernel
theorem dX5_isPossible_28 : decode cX5_isPossible 28 = .ok (.ireturn, 1) := by decide +kernel
theorem dX5_isPossible_29 : decode cX5_isPossible 29 = .ok (.iinc 2 1, 3) := by decide +kernel
theorem dX5_isPossible_32 : decode cX5_isPossible 32 = .ok (.goto (-30), 3) := by decide +kernel
theorem dX5_isPossible_35 : decode cX5_isPossible 35 = .ok (.iconst 1, 1) := by decide +kernel
theorem dX5_isPossible_36 : decode cX5_isPossible 36 = .ok (.ireturn, 1) := by decide +kernel
set_option maxRecDepth 20000 in
theorem ggX5_tallyOf_X3_clear : GoodIn wsX5_tallyOf wsX3_clear := goodIn_r _ [8, 9, 10, 11, 12, 13, 85] (by decide +kernel) (by decide +kernel)
set_option maxRecDepth 20000 in
theorem gX5_tallyOf_X3_clear : GoodIn wsX5_tallyOf (wsV RX5 226 RX3 yX3_clear wsX3_clear) := goodIn_app (goodIn_of _ (by decide +kernel)) ggX5_tallyOf_X3_clear
set_option maxRecDepth 20000 in
theorem ggX5_tallyOf_X1_wholeMark : GoodIn wsX5_tallyOf wsX1_wholeMark := goodIn_r _ [18, 19, 20, 21, 17, 22, 23, 24, 25, 26, 27, 28, 29, 30, 31, 32, 33, 34, 35, 36, 37, 38, 39, 40, 41, 42, 43, 44, 45, 46, 47, 48, 49, 50, 51, 52, 53, 54, 55, 78, 79, 80, 81, 82, 83, 84] (by decide +kernel) (by decide +kernel)
set_option maxRecDepth 20000 in
theorem gX5_tallyOf_X1_wholeMark : GoodIn wsX5_tallyOf (wsV RX5 229 RX1 yX1_wholeMark wsX1_wholeMark) := goodIn_app (goodIn_of _ (by decide +kernel)) ggX5_tallyOf_X1_wholeMark
set_option maxRecDepth 20000 in
theorem ggX5_tallyOf_X3_add : GoodIn wsX5_tallyOf wsX3_add := goodIn_r _ [59, 9, 85] (by decide +kernel) (by decide +kernel)
set_option maxRecDepth 20000 in
theorem gX5_tallyOf_X3_add : GoodIn wsX5_tallyOf (wsV RX5 232 RX3 yX3_add wsX3_add) := goodIn_app (goodIn_of _ (by decide +kernel)) ggX5_tallyOf_X3_add
theorem dX5_tallyOf_0 : decode cX5_tallyOf 0 = .ok (.iload_n 2, 1) := by decide +kernel
theorem dX5_tallyOf_1 : decode cX5_tallyOf 1 = .ok (.ifCond .ne 13, 3) := by decide +kernel
theorem dX5_tallyOf_4 : decode cX5_tallyOf 4 = .ok (.aload_n 0, 1) := by decide +kernel
theorem dX5_tallyOf_5 : decode cX5_tallyOf 5 = .ok (.getfield 11, 3) := by decide +kernel
theorem dX5_tallyOf_8 : decode cX5_tallyOf 8 = .ok (.iload_n 1, 1) := by decide +kernel
theorem dX5_tallyOf_9 : decode cX5_tallyOf 9 = .ok (.aaload, 1) := by decide +kernel
theorem dX5_tallyOf_10 : decode cX5_tallyOf 10 = .ok (.getfield 223, 3) := by decide +kernel
theorem dX5_tallyOf_13 : decode cX5_tallyOf 13 = .ok (.areturn, 1) := by decide +kernel
theorem dX5_tallyOf_14 : decode cX5_tallyOf 14 = .ok (.aload_n 0, 1) := by decide +kernel
theorem dX5_tallyOf_15 : decode cX5_tallyOf 15 = .ok (.getfield 40, 3) := by decide +kernel
theorem dX5_tallyOf_18 : decode cX5_tallyOf 18 = .ok (.invokevirtual 226, 3) := by decide +kernel
theorem dX5_tallyOf_21 : decode cX5_tallyOf 21 = .ok (.iconst 0, 1) := by decide +kernel
theorem dX5_tallyOf_22 : decode cX5_tallyOf 22 = .ok (.istore_n 3, 1) := by decide +kernel
theorem dX5_tallyOf_23 : decode cX5_tallyOf 23 = .ok (.iload_n 3, 1) := by decide +kernel
theorem dX5_tallyOf_24 : decode cX5_tallyOf 24 = .ok (.aload_n 0, 1) := by decide +kernel
theorem dX5_tallyOf_25 : decode cX5_tallyOf 25 = .ok (.getfield 19, 3) := by decide +kernel
theorem dX5_tallyOf_28 : decode cX5_tallyOf 28 = .ok (.getfield 55, 3) := by decide +kernel
theorem dX5_tallyOf_31 : decode cX5_tallyOf 31 = .ok (.if_icmp .ge 25, 3) := by decide +kernel
theorem dX5_tallyOf_34 : decode cX5_tallyOf 34 = .ok (.aload_n 0, 1) := by decide +kernel
theorem dX5_tallyOf_35 : decode cX5_tallyOf 35 = .ok (.getfield 40, 3) := by decide +kernel
theorem dX5_tallyOf_38 : decode cX5_tallyOf 38 = .ok (.aload_n 0, 1) := by decide +kernel
theorem dX5_tallyOf_39 : decode cX5_tallyOf 39 = .ok (.getfield 19, 3) := by decide +kernel
theorem dX5_tallyOf_42 : decode cX5_tallyOf 42 = .ok (.iload_n 3, 1) := by decide +kernel
theorem dX5_tallyOf_43 : decode cX5_tallyOf 43 = .ok (.iload_n 1, 1) := by decide +kernel
theorem dX5_tallyOf_44 : decode cX5_tallyOf 44 = .ok (.invokevirtual 229, 3) := by decide +kernel
theorem dX5_tallyOf_47 : decode cX5_tallyOf 47 = .ok (.invokevirtual 232, 3) := by decide +kernel
theorem dX5_tallyOf_50 : decode cX5_tallyOf 50 = .ok (.iinc 3 1, 3) := by decide +kernel
theorem dX5_tallyOf_53 : decode cX5_tallyOf 53 = .ok (.goto (-30), 3) := by decide +kernel
theorem dX5_tallyOf_56 : decode cX5_tallyOf 56 = .ok (.aload_n 0, 1) := by decide +kernel
theorem dX5_tallyOf_57 : decode cX5_tallyOf 57 = .ok (.getfield 40, 3) := by decide +kernel
theorem dX5_tallyOf_60 : decode cX5_tallyOf 60 = .ok (.areturn, 1) := by decide +kernel
theorem dX5_markOf_0 : decode cX5_markOf 0 = .ok (.iload_n 0, 1) := by decide +kernel
theorem dX5_markOf_1 : decode cX5_markOf 1 = .ok (.iconst 3, 1) := by decide +kernel
theorem dX5_markOf_2 : decode cX5_markOf 2 = .ok (.iload_n 1, 1) := by decide +kernel
theorem dX5_markOf_3 : decode cX5_markOf 3 = .ok (.imul, 1) := by decide +kernel
theorem dX5_markOf_4 : decode cX5_markOf 4 = .ok (.iushr, 1) := by decide +kernel
theorem dX5_markOf_5 : decode cX5_markOf 5 = .ok (.bipush 7, 2) := by decide +kernel
theorem dX5_markOf_7 : decode cX5_markOf 7 = .ok (.iand, 1) := by decide +kernel
theorem dX5_markOf_8 : decode cX5_markOf 8 = .ok (.ireturn, 1) := by decide +kernel
theorem dX6_init_0 : decode cX6_init 0 = .ok (.aload_n 0, 1) := by decide +kernel
theorem dX6_init_1 : decode cX6_init 1 = .ok (.invokespecial 1, 3) := by decide +kernel
theorem dX6_init_4 : decode cX6_init 4 = .ok (.aload_n 0, 1) := by decide +kernel
theorem dX6_init_5 : decode cX6_init 5 = .ok (.iconst 5, 1) := by decide +kernel
theorem dX6_init_6 : decode cX6_init 6 = .ok (.newarray .int, 2) := by decide +kernel
theorem dX6_init_8 : decode cX6_init 8 = .ok (.putfield 7, 3) := by decide +kernel
theorem dX6_init_11 : decode cX6_init 11 = .ok (.aload_n 0, 1) := by decide +kernel
theorem dX6_init_12 : decode cX6_init 12 = .ok (.iconst 5, 1) := by decide +kernel
theorem dX6_init_13 : decode cX6_init 13 = .ok (.newarray .int, 2) := by decide +kernel
theorem dX6_init_15 : decode cX6_init 15 = .ok (.putfield 13, 3) := by decide +kernel
theorem dX6_init_18 : decode cX6_init 18 = .ok (.aload_n 0, 1) := by decide +kernel
theorem dX6_init_19 : decode cX6_init 19 = .ok (.sipush 300, 3) := by decide +kernel
theorem dX6_init_22 : decode cX6_init 22 = .ok (.newarray .int, 2) := by decide +kernel
theorem dX6_init_24 : decode cX6_init 24 = .ok (.putfield 16, 3) := by decide +kernel
theorem dX6_init_27 : decode cX6_init 27 = .ok (.aload_n 0, 1) := by decide +kernel
theorem dX6_init_28 : decode cX6_init 28 = .ok (.sipush 300, 3) := by decide +kernel
theorem dX6_init_31 : decode cX6_init 31 = .ok (.newarray .int, 2) := by decide +kernel
theorem dX6_init_33 : decode cX6_init 33 = .ok (.putfield 19, 3) := by decide +kernel
theorem dX6_init_36 : decode cX6_init 36 = .ok (.aload_n 0, 1) := by decide +kernel
theorem dX6_init_37 : decode cX6_init 37 = .ok (.sipush 2000, 3) := by decide +kernel
theorem dX6_init_40 : decode cX6_init 40 = .ok (.newarray .int, 2) := by decide +kernel
theorem dX6_init_42 : decode cX6_init 42 = .ok (.putfield 22, 3) := by decide +kernel
theorem dX6_init_45 : decode cX6_init 45 = .ok (.aload_n 0, 1) := by decide +kernel
theorem dX6_init_46 : decode cX6_init 46 = .ok (.sipush 300, 3) := by decide +kernel
theorem dX6_init_49 : decode cX6_init 49 = .ok (.newarray .boolean, 2) := by decide +kernel
theorem dX6_init_51 : decode cX6_init 51 = .ok (.putfield 25, 3) := by decide +kernel
theorem dX6_init_54 : decode cX6_init 54 = .ok (.aload_n 0, 1) := by decide +kernel
theorem dX6_init_55 : decode cX6_init 55 = .ok (.sipush 900, 3) := by decide +kernel
theorem dX6_init_58 : decode cX6_init 58 = .ok (.newarray .boolean, 2) := by decide +kernel
theorem dX6_init_60 : decode cX6_init 60 = .ok (.putfield 29, 3) := by decide +kernel
theorem dX6_init_63 : decode cX6_init 63 = .ok (.aload_n 0, 1) := by decide +kernel
theorem dX6_init_64 : decode cX6_init 64 = .ok (.sipush 900, 3) := by decide +kernel
theorem dX6_init_67 : decode cX6_init 67 = .ok (.newarray .int, 2) := by decide +kernel
theorem dX6_init_69 : decode cX6_init 69 = .ok (.putfield 32, 3) := by decide +kernel
theorem dX6_init_72 : decode cX6_init 72 = .ok (.aload_n 0, 1) := by decide +kernel
theorem dX6_init_73 : decode cX6_init 73 = .ok (.bipush 7, 2) := by decide +kernel
theorem dX6_init_75 : decode cX6_init 75 = .ok (.newarray .int, 2) := by decide +kernel
theorem dX6_init_77 : decode cX6_init 77 = .ok (.putfield 35, 3) := by decide +kernel
theorem dX6_init_80 : decode cX6_init 80 = .ok (.aload_n 0, 1) := by decide +kernel
theorem dX6_init_81 : decode cX6_init 81 = .ok (.bipush 7, 2) := by decide +kernel
theorem dX6_init_83 : decode cX6_init 83 = .ok (.newarray .boolean, 2) := by decide +kernel
theorem dX6_init_85 : decode cX6_init 85 = .ok (.putfield 38, 3) := by decide +kernel
theorem dX6_init_88 : decode cX6_init 88 = .ok (.return_, 1) := by decide +kernel
theorem dX6_thrown_0 : decode cX6_thrown 0 = .ok (.aload_n 0, 1) := by decide +kernel
theorem dX6_thrown_1 : decode cX6_thrown 1 = .ok (.getfield 41, 3) := by decide +kernel
theorem dX6_thrown_4 : decode cX6_thrown 4 = .ok (.ireturn, 1) := by decide +kernel
theorem dX6_right_0 : decode cX6_right 0 = .ok (.aload_n 0, 1) := by decide +kernel
theorem dX6_right_1 : decode cX6_right 1 = .ok (.getfield 41, 3) := by decide +kernel
theorem dX6_right_4 : decode cX6_right 4 = .ok (.ifCond .ne 12, 3) := by decide +kernel
theorem dX6_right_7 : decode cX6_right 7 = .ok (.iload_n 1, 1) := by decide +kernel
theorem dX6_right_8 : decode cX6_right 8 = .ok (.ifCond .ne 8, 3) := by decide +kernel
theorem dX6_right_11 : decode cX6_right 11 = .ok (.aload_n 0, 1) := by decide +kernel
theorem dX6_right_12 : decode cX6_right 12 = .ok (.iload_n 2, 1) := by decide +kernel
theorem dX6_right_13 : decode cX6_right 13 = .ok (.putfield 41, 3) := by decide +kernel
theorem dX6_right_16 : decode cX6_right 16 = .ok (.aload_n 0, 1) := by decide +kernel
theorem dX6_right_17 : decode cX6_right 17 = .ok (.getfield 41, 3) := by decide +kernel
theorem dX6_right_20 : decode cX6_right 20 = .ok (.ifCond .ne 7, 3) := by decide +kernel
theorem dX6_right_23 : decode cX6_right 23 = .ok (.iconst 1, 1) := by decide +kernel
theorem dX6_right_24 : decode cX6_right 24 = .ok (.goto 4, 3) := by decide +kernel
theorem dX6_right_27 : decode cX6_right 27 = .ok (.iconst 0, 1) := by decide +kernel
theorem dX6_right_28 : decode cX6_right 28 = .ok (.ireturn, 1) := by decide +kernel
theorem dX6_race_0 : decode cX6_race 0 = .ok (.aload_n 0, 1) := by decide +kernel
theorem dX6_race_1 : decode cX6_race 1 = .ok (.iconst 0, 1) := by decide +kernel
theorem dX6_race_2 : decode cX6_race 2 = .ok (.putfield 41, 3) := by decide +kernel
theorem dX6_race_5 : decode cX6_race 5 = .ok (.aload_n 0, 1) := by decide +kernel
theorem dX6_race_6 : decode cX6_race 6 = .ok (.getfield 45, 3) := by decide +kernel
theorem dX6_race_9 : decode cX6_race 9 = .ok (.iconst 5, 1) := by decide +kernel
theorem dX6_race_10 : decode cX6_race 10 = .ok (.if_icmp .eq 31, 3) := by decide +kernel
theorem dX6_race_13 : decode cX6_race 13 = .ok (.aload_n 0, 1) := by decide +kernel
theorem dX6_race_14 : decode cX6_race 14 = .ok (.getfield 48, 3) := by decide +kernel
theorem dX6_race_17 : decode cX6_race 17 = .ok (.ifCond .gt 24, 3) := by decide +kernel
theorem dX6_race_20 : decode cX6_race 20 = .ok (.iload_n 1, 1) := by decide +kernel
theorem dX6_race_21 : decode cX6_race 21 = .ok (.iconst 2, 1) := by decide +kernel
theorem dX6_race_22 : decode cX6_race 22 = .ok (.if_icmp .lt 19, 3) := by decide +kernel
theorem dX6_race_25 : decode cX6_race 25 = .ok (.iload_n 1, 1) := by decide +kernel
theorem dX6_race_26 : decode cX6_race 26 = .ok (.bipush 6, 2) := by decide +kernel
theorem dX6_race_28 : decode cX6_race 28 = .ok (.if_icmp .gt 13, 3) := by decide +kernel
theorem dX6_race_31 : decode cX6_race 31 = .ok (.iload_n 2, 1) := by decide +kernel
theorem dX6_race_32 : decode cX6_race 32 = .ok (.iconst 1, 1) := by decide +kernel
theorem dX6_race_33 : decode cX6_race 33 = .ok (.if_icmp .lt 8, 3) := by decide +kernel
theorem dX6_race_36 : decode cX6_race 36 = .ok (.iload_n 2, 1) := by decide +kernel
theorem dX6_race_37 : decode cX6_race 37 = .ok (.iload_n 1, 1) := by decide +kernel
theorem dX6_race_38 : decode cX6_race 38 = .ok (.if_icmp .lt 5, 3) := by decide +kernel
theorem dX6_race_41 : decode cX6_race 41 = .ok (.iconst (-1), 1) := by decide +kernel
theorem dX6_race_42 : decode cX6_race 42 = .ok (.ireturn, 1) := by decide +kernel
theorem dX6_race_43 : decode cX6_race 43 = .ok (.aload_n 0, 1) := by decide +kernel
theorem dX6_race_44 : decode cX6_race 44 = .ok (.getfield 7, 3) := by decide +kernel
theorem dX6_race_47 : decode cX6_race 47 = .ok (.aload_n 0, 1) := by decide +kernel
theorem dX6_race_48 : decode cX6_race 48 = .ok (.getfield 45, 3) := by decide +kernel
theorem dX6_race_51 : decode cX6_race 51 = .ok (.iload_n 1, 1) := by decide +kernel
theorem dX6_race_52 : decode cX6_race 52 = .ok (.iastore, 1) := by decide +kernel
theorem dX6_race_53 : decode cX6_race 53 = .ok (.aload_n 0, 1) := by decide +kernel
theorem dX6_race_54 : decode cX6_race 54 = .ok (.getfield 13, 3) := by decide +kernel
theorem dX6_race_57 : decode cX6_race 57 = .ok (.aload_n 0, 1) := by decide +kernel
theorem dX6_race_58 : decode cX6_race 58 = .ok (.getfield 45, 3) := by decide +kernel
theorem dX6_race_61 : decode cX6_race 61 = .ok (.iload_n 2, 1) := by decide +kernel
theorem dX6_race_62 : decode cX6_race 62 = .ok (.iastore, 1) := by decide +kernel
theorem dX6_race_63 : decode cX6_race 63 = .ok (.aload_n 0, 1) := by decide +kernel
theorem dX6_race_64 : decode cX6_race 64 = .ok (.dup, 1) := by decide +kernel
theorem dX6_race_65 : decode cX6_race 65 = .ok (.getfield 45, 3) := by decide +kernel
theorem dX6_race_68 : decode cX6_race 68 = .ok (.iconst 1, 1) := by decide +kernel
theorem dX6_race_69 : decode cX6_race 69 = .ok (.iadd, 1) := by decide +kernel
theorem dX6_race_70 : decode cX6_race 70 = .ok (.putfield 45, 3) := by decide +kernel
theorem dX6_race_73 : decode cX6_race 73 = .ok (.aload_n 0, 1) := by decide +kernel
theorem dX6_race_74 : decode cX6_race 74 = .ok (.getfield 45, 3) := by decide +kernel
theorem dX6_race_77 : decode cX6_race 77 = .ok (.iconst 1, 1) := by decide +kernel
theorem dX6_race_78 : decode cX6_race 78 = .ok (.isub, 1) := by decide +kernel
theorem dX6_race_79 : decode cX6_race 79 = .ok (.ireturn, 1) := by decide +kernel
theorem dX6_box_0 : decode cX6_box 0 = .ok (.aload_n 0, 1) := by decide +kernel
theorem dX6_box_1 : decode cX6_box 1 = .ok (.iconst 0, 1) := by decide +kernel
theorem dX6_box_2 : decode cX6_box 2 = .ok (.putfield 41, 3) := by decide +kernel
theorem dX6_box_5 : decode cX6_box 5 = .ok (.aload_n 0, 1) := by decide +kernel
theorem dX6_box_6 : decode cX6_box 6 = .ok (.getfield 51, 3) := by decide +kernel
theorem dX6_box_9 : decode cX6_box 9 = .ok (.bipush 10, 2) := by decide +kernel
theorem dX6_box_11 : decode cX6_box 11 = .ok (.if_icmp .eq 10, 3) := by decide +kernel
theorem dX6_box_14 : decode cX6_box 14 = .ok (.aload_n 0, 1) := by decide +kernel
theorem dX6_box_15 : decode cX6_box 15 = .ok (.getfield 54, 3) := by decide +kernel
theorem dX6_box_18 : decode cX6_box 18 = .ok (.ifCond .eq 5, 3) := by decide +kernel
theorem dX6_box_21 : decode cX6_box 21 = .ok (.iconst (-1), 1) := by decide +kernel
theorem dX6_box_22 : decode cX6_box 22 = .ok (.ireturn, 1) := by decide +kernel
theorem dX6_box_23 : decode cX6_box 23 = .ok (.aload_n 0, 1) := by decide +kernel
theorem dX6_box_24 : decode cX6_box 24 = .ok (.dup, 1) := by decide +kernel
theorem dX6_box_25 : decode cX6_box 25 = .ok (.getfield 51, 3) := by decide +kernel
theorem dX6_box_28 : decode cX6_box 28 = .ok (.iconst 1, 1) := by decide +kernel
theorem dX6_box_29 : decode cX6_box 29 = .ok (.iadd, 1) := by decide +kernel
theorem dX6_box_30 : decode cX6_box 30 = .ok (.putfield 51, 3) := by decide +kernel
theorem dX6_box_33 : decode cX6_box 33 = .ok (.aload_n 0, 1) := by decide +kernel
theorem dX6_box_34 : decode cX6_box 34 = .ok (.getfield 51, 3) := by decide +kernel
theorem dX6_box_37 : decode cX6_box 37 = .ok (.iconst 1, 1) := by decide +kernel
theorem dX6_box_38 : decode cX6_box 38 = .ok (.isub, 1) := by decide +kernel
theorem dX6_box_39 : decode cX6_box 39 = .ok (.ireturn, 1) := by decide +kernel
theorem dX6_of_0 : decode cX6_of 0 = .ok (.iload_n 0, 1) := by decide +kernel
theorem dX6_of_1 : decode cX6_of 1 = .ok (.iconst 3, 1) := by decide +kernel
theorem dX6_of_2 : decode cX6_of 2 = .ok (.iload_n 1, 1) := by decide +kernel
theorem dX6_of_3 : decode cX6_of 3 = .ok (.imul, 1) := by decide +kernel
theorem dX6_of_4 : decode cX6_of 4 = .ok (.ishr, 1) := by decide +kernel
theorem dX6_of_5 : decode cX6_of 5 = .ok (.bipush 7, 2) := by decide +kernel
theorem dX6_of_7 : decode cX6_of 7 = .ok (.iand, 1) := by decide +kernel
theorem dX6_of_8 : decode cX6_of 8 = .ok (.ireturn, 1) := by decide +kernel
set_option maxRecDepth 20000 in
theorem ggX6_isWord_X6_of : GoodIn wsX6_isWord wsX6_of := goodIn_r _ [6] (by decide +kernel) (by decide +kernel)
set_option maxRecDepth 20000 in
theorem gX6_isWord_X6_of : GoodIn wsX6_isWord (va_wsS RX6 58 yX6_of wsX6_of) := goodIn_app (goodIn_of _ (by decide +kernel)) ggX6_isWord_X6_of
theorem dX6_isWord_0 : decode cX6_isWord 0 = .ok (.iconst 1, 1) := by decide +kernel
theorem dX6_isWord_1 : decode cX6_isWord 1 = .ok (.istore_n 2, 1) := by decide +kernel
theorem dX6_isWord_2 : decode cX6_isWord 2 = .ok (.iconst 0, 1) := by decide +kernel
theorem dX6_isWord_3 : decode cX6_isWord 3 = .ok (.istore_n 3, 1) := by decide +kernel
theorem dX6_isWord_4 : decode cX6_isWord 4 = .ok (.iload_n 3, 1) := by decide +kernel
theorem dX6_isWord_5 : decode cX6_isWord 5 = .ok (.aload_n 0, 1) := by decide +kernel
theorem dX6_isWord_6 : decode cX6_isWord 6 = .ok (.getfield 45, 3) := by decide +kernel
theorem dX6_isWord_9 : decode cX6_isWord 9 = .ok (.if_icmp .ge 43, 3) := by decide +kernel
theorem dX6_isWord_12 : decode cX6_isWord 12 = .ok (.iload_n 2, 1) := by decide +kernel
theorem dX6_isWord_13 : decode cX6_isWord 13 = .ok (.ifCond .eq 31, 3) := by decide +kernel
theorem dX6_isWord_16 : decode cX6_isWord 16 = .ok (.iload_n 1, 1) := by decide +kernel
theorem dX6_isWord_17 : decode cX6_isWord 17 = .ok (.iload_n 3, 1) := by decide +kernel
theorem dX6_isWord_18 : decode cX6_isWord 18 = .ok (.invokestatic 58, 3) := by decide +kernel
theorem dX6_isWord_21 : decode cX6_isWord 21 = .ok (.aload_n 0, 1) := by decide +kernel
theorem dX6_isWord_22 : decode cX6_isWord 22 = .ok (.getfield 7, 3) := by decide +kernel
theorem dX6_isWord_25 : decode cX6_isWord 25 = .ok (.iload_n 3, 1) := by decide +kernel
theorem dX6_isWord_26 : decode cX6_isWord 26 = .ok (.iaload, 1) := by decide +kernel
theorem dX6_isWord_27 : decode cX6_isWord 27 = .ok (.if_icmp .le 13, 3) := by decide +kernel
theorem dX6_isWord_30 : decode cX6_isWord 30 = .ok (.iload_n 1, 1) := by decide +kernel
theorem dX6_isWord_31 : decode cX6_isWord 31 = .ok (.iload_n 3, 1) := by decide +kernel
theorem dX6_isWord_32 : decode cX6_isWord 32 = .ok (.invokestatic 58, 3) := by decide +kernel
theorem dX6_isWord_35 : decode cX6_isWord 35 = .ok (.bipush 7, 2) := by decide +kernel
theorem dX6_isWord_37 : decode cX6_isWord 37 = .ok (.if_icmp .ne 7, 3) := by decide +kernel
theorem dX6_isWord_40 : decode cX6_isWord 40 = .ok (.iconst 1, 1) := by decide +kernel
theorem dX6_isWord_41 : decode cX6_isWord 41 = .ok (.goto 4, 3) := by decide +kernel
theorem dX6_isWord_44 : decode cX6_isWord 44 = .ok (.iconst 0, 1) := by decide +kernel
theorem dX6_isWord_45 : decode cX6_isWord 45 = .ok (.istore_n 2, 1) := by decide +kernel
theorem dX6_isWord_46 : decode cX6_isWord 46 = .ok (.iinc 3 1, 3) := by decide +kernel
theorem dX6_isWord_49 : decode cX6_isWord 49 = .ok (.goto (-45), 3) := by decide +kernel
theorem dX6_isWord_52 : decode cX6_isWord 52 = .ok (.iload_n 2, 1) := by decide +kernel
theorem dX6_isWord_53 : decode cX6_isWord 53 = .ok (.ireturn, 1) := by decide +kernel
set_option maxRecDepth 20000 in
theorem ggX6_paper_X6_right : GoodIn wsX6_paper wsX6_right := goodIn_r _ [11, 1, 21, 22, 23, 24, 25, 26, 27, 28, 29, 30, 31, 32, 33, 34, 35, 36, 37, 38, 39, 40, 41, 42] (by decide +kernel) (by decide +kernel)
set_option maxRecDepth 20000 in
theorem gX6_paper_X6_right : GoodIn wsX6_paper (wsV RX6 62 RX6 yX6_right wsX6_right) := goodIn_app (goodIn_of _ (by decide +kernel)) ggX6_paper_X6_right
set_option maxRecDepth 20000 in
theorem ggX6_paper_X6_isWord : GoodIn wsX6_paper wsX6_isWord := goodIn_r _ [15, 16, 17, 18, 19, 10, 20, 21, 22, 23, 24, 25, 26, 27, 28, 29, 30, 31, 32, 33, 34, 35, 36, 37, 38, 39, 40, 41, 42] (by decide +kernel) (by decide +kernel)
set_option maxRecDepth 20000 in
theorem gX6_paper_X6_isWord : GoodIn wsX6_paper (wsV RX6 66 RX6 yX6_isWord wsX6_isWord) := goodIn_app (goodIn_of _ (by decide +kernel)) ggX6_paper_X6_isWord
theorem dX6_paper_0 : decode cX6_paper 0 = .ok (.aload_n 0, 1) := by decide +kernel
theorem dX6_paper_1 : decode cX6_paper 1 = .ok (.iconst 0, 1) := by decide +kernel
theorem dX6_paper_2 : decode cX6_paper 2 = .ok (.putfield 41, 3) := by decide +kernel
theorem dX6_paper_5 : decode cX6_paper 5 = .ok (.aload_n 0, 1) := by decide +kernel
theorem dX6_paper_6 : decode cX6_paper 6 = .ok (.iload_n 1, 1) := by decide +kernel
theorem dX6_paper_7 : decode cX6_paper 7 = .ok (.ifCond .lt 15, 3) := by decide +kernel
theorem dX6_paper_10 : decode cX6_paper 10 = .ok (.iload_n 1, 1) := by decide +kernel
theorem dX6_paper_11 : decode cX6_paper 11 = .ok (.aload_n 0, 1) := by decide +kernel
theorem dX6_paper_12 : decode cX6_paper 12 = .ok (.getfield 51, 3) := by decide +kernel
theorem dX6_paper_15 : decode cX6_paper 15 = .ok (.if_icmp .ge 7, 3) := by decide +kernel
theorem dX6_paper_18 : decode cX6_paper 18 = .ok (.iconst 1, 1) := by decide +kernel
theorem dX6_paper_19 : decode cX6_paper 19 = .ok (.goto 4, 3) := by decide +kernel
theorem dX6_paper_22 : decode cX6_paper 22 = .ok (.iconst 0, 1) := by decide +kernel
theorem dX6_paper_23 : decode cX6_paper 23 = .ok (.iconst 1, 1) := by decide +kernel
theorem dX6_paper_24 : decode cX6_paper 24 = .ok (.invokevirtual 62, 3) := by decide +kernel
theorem dX6_paper_27 : decode cX6_paper 27 = .ok (.ifCond .ne 5, 3) := by decide +kernel
theorem dX6_paper_30 : decode cX6_paper 30 = .ok (.iconst 0, 1) := by decide +kernel
theorem dX6_paper_31 : decode cX6_paper 31 = .ok (.ireturn, 1) := by decide +kernel
theorem dX6_paper_32 : decode cX6_paper 32 = .ok (.aload_n 0, 1) := by decide +kernel
theorem dX6_paper_33 : decode cX6_paper 33 = .ok (.getfield 48, 3) := by decide +kernel
theorem dX6_paper_36 : decode cX6_paper 36 = .ok (.sipush 300, 3) := by decide +kernel
theorem dX6_paper_39 : decode cX6_paper 39 = .ok (.if_icmp .eq 18, 3) := by decide +kernel
theorem dX6_paper_42 : decode cX6_paper 42 = .ok (.aload_n 0, 1) := by decide +kernel
theorem dX6_paper_43 : decode cX6_paper 43 = .ok (.getfield 54, 3) := by decide +kernel
theorem dX6_paper_46 : decode cX6_paper 46 = .ok (.ifCond .ne 11, 3) := by decide +kernel
theorem dX6_paper_49 : decode cX6_paper 49 = .ok (.aload_n 0, 1) := by decide +kernel
theorem dX6_paper_50 : decode cX6_paper 50 = .ok (.iload_n 2, 1) := by decide +kernel
theorem dX6_paper_51 : decode cX6_paper 51 = .ok (.invokevirtual 66, 3) := by decide +kernel
theorem dX6_paper_54 : decode cX6_paper 54 = .ok (.ifCond .ne 5, 3) := by decide +kernel
theorem dX6_paper_57 : decode cX6_paper 57 = .ok (.iconst (-1), 1) := by decide +kernel
theorem dX6_paper_58 : decode cX6_paper 58 = .ok (.ireturn, 1) := by decide +kernel
theorem dX6_paper_59 : decode cX6_paper 59 = .ok (.aload_n 0, 1) := by decide +kernel
theorem dX6_paper_60 : decode cX6_paper 60 = .ok (.getfield 16, 3) := by decide +kernel
theorem dX6_paper_63 : decode cX6_paper 63 = .ok (.aload_n 0, 1) := by decide +kernel
theorem dX6_paper_64 : decode cX6_paper 64 = .ok (.getfield 48, 3) := by decide +kernel
theorem dX6_paper_67 : decode cX6_paper 67 = .ok (.iload_n 1, 1) := by decide +kernel
theorem dX6_paper_68 : decode cX6_paper 68 = .ok (.iastore, 1) := by decide +kernel
theorem dX6_paper_69 : decode cX6_paper 69 = .ok (.aload_n 0, 1) := by decide +kernel
theorem dX6_paper_70 : decode cX6_paper 70 = .ok (.getfield 19, 3) := by decide +kernel
theorem dX6_paper_73 : decode cX6_paper 73 = .ok (.aload_n 0, 1) := by decide +kernel
theorem dX6_paper_74 : decode cX6_paper 74 = .ok (.getfield 48, 3) := by decide +kernel
theorem dX6_paper_77 : decode cX6_paper 77 = .ok (.iload_n 2, 1) := by decide +kernel
theorem dX6_paper_78 : decode cX6_paper 78 = .ok (.iastore, 1) := by decide +kernel
theorem dX6_paper_79 : decode cX6_paper 79 = .ok (.aload_n 0, 1) := by decide +kernel
theorem dX6_paper_80 : decode cX6_paper 80 = .ok (.dup, 1) := by decide +kernel
theorem dX6_paper_81 : decode cX6_paper 81 = .ok (.getfield 48, 3) := by decide +kernel
theorem dX6_paper_84 : decode cX6_paper 84 = .ok (.iconst 1, 1) := by decide +kernel
theorem dX6_paper_85 : decode cX6_paper 85 = .ok (.iadd, 1) := by decide +kernel
theorem dX6_paper_86 : decode cX6_paper 86 = .ok (.putfield 48, 3) := by decide +kernel
theorem dX6_paper_89 : decode cX6_paper 89 = .ok (.aload_n 0, 1) := by decide +kernel
theorem dX6_paper_90 : decode cX6_paper 90 = .ok (.getfield 48, 3) := by decide +kernel
theorem dX6_paper_93 : decode cX6_paper 93 = .ok (.iconst 1, 1) := by decide +kernel
theorem dX6_paper_94 : decode cX6_paper 94 = .ok (.isub, 1) := by decide +kernel
theorem dX6_paper_95 : decode cX6_paper 95 = .ok (.ireturn, 1) := by decide +kernel
set_option maxRecDepth 20000 in
theorem ggX6_isPaper_X6_right : GoodIn wsX6_isPaper wsX6_right := goodIn_r _ [7, 1, 8, 9, 10, 11, 12, 13, 14, 15, 16, 17, 18, 19, 20, 21, 22, 23, 24, 25, 26, 27, 28, 29] (by decide +kernel) (by decide +kernel)
set_option maxRecDepth 20000 in
theorem gX6_isPaper_X6_right : GoodIn wsX6_isPaper (wsV RX6 62 RX6 yX6_right wsX6_right) := goodIn_app (goodIn_of _ (by decide +kernel)) ggX6_isPaper_X6_right
theorem dX6_isPaper_0 : decode cX6_isPaper 0 = .ok (.aload_n 0, 1) := by decide +kernel
theorem dX6_isPaper_1 : decode cX6_isPaper 1 = .ok (.iconst 0, 1) := by decide +kernel
theorem dX6_isPaper_2 : decode cX6_isPaper 2 = .ok (.putfield 41, 3) := by decide +kernel
theorem dX6_isPaper_5 : decode cX6_isPaper 5 = .ok (.aload_n 0, 1) := by decide +kernel
theorem dX6_isPaper_6 : decode cX6_isPaper 6 = .ok (.iload_n 1, 1) := by decide +kernel
theorem dX6_isPaper_7 : decode cX6_isPaper 7 = .ok (.ifCond .lt 15, 3) := by decide +kernel
theorem dX6_isPaper_10 : decode cX6_isPaper 10 = .ok (.iload_n 1, 1) := by decide +kernel
theorem dX6_isPaper_11 : decode cX6_isPaper 11 = .ok (.aload_n 0, 1) := by decide +kernel
theorem dX6_isPaper_12 : decode cX6_isPaper 12 = .ok (.getfield 48, 3) := by decide +kernel
theorem dX6_isPaper_15 : decode cX6_isPaper 15 = .ok (.if_icmp .ge 7, 3) := by decide +kernel
theorem dX6_isPaper_18 : decode cX6_isPaper 18 = .ok (.iconst 1, 1) := by decide +kernel
theorem dX6_isPaper_19 : decode cX6_isPaper 19 = .ok (.goto 4, 3) := by decide +kernel
theorem dX6_isPaper_22 : decode cX6_isPaper 22 = .ok (.iconst 0, 1) := by decide +kernel
theorem dX6_isPaper_23 : decode cX6_isPaper 23 = .ok (.iconst 1, 1) := by decide +kernel
theorem dX6_isPaper_24 : decode cX6_isPaper 24 = .ok (.invokevirtual 62, 3) := by decide +kernel
theorem dX6_isPaper_27 : decode cX6_isPaper 27 = .ok (.ireturn, 1) := by decide +kernel
theorem dX6_isRead_0 : decode cX6_isRead 0 = .ok (.aload_n 0, 1) := by decide +kernel
theorem dX6_isRead_1 : decode cX6_isRead 1 = .ok (.getfield 29, 3) := by decide +kernel
theorem dX6_isRead_4 : decode cX6_isRead 4 = .ok (.iconst 3, 1) := by decide +kernel
theorem dX6_isRead_5 : decode cX6_isRead 5 = .ok (.iload_n 1, 1) := by decide +kernel
theorem dX6_isRead_6 : decode cX6_isRead 6 = .ok (.imul, 1) := by decide +kernel
theorem dX6_isRead_7 : decode cX6_isRead 7 = .ok (.baload, 1) := by decide +kernel
theorem dX6_isRead_8 : decode cX6_isRead 8 = .ok (.ifCond .ne 29, 3) := by decide +kernel
theorem dX6_isRead_11 : decode cX6_isRead 11 = .ok (.aload_n 0, 1) := by decide +kernel
theorem dX6_isRead_12 : decode cX6_isRead 12 = .ok (.getfield 29, 3) := by decide +kernel

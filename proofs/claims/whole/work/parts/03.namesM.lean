set_option maxRecDepth 20000 in
theorem ggX1_init_X1_begin : GoodIn wsX1_init wsX1_begin := goodIn_r _ [25, 7, 9, 10, 16, 26, 27, 28, 29, 30, 31, 32, 33, 34, 35, 36, 37, 38, 39, 40, 41, 42, 43, 44, 45, 46, 47, 48, 49] (by decide +kernel) (by decide +kernel)
set_option maxRecDepth 20000 in
theorem gX1_init_X1_begin : GoodIn wsX1_init (wsV RX1 57 RX1 yX1_begin wsX1_begin) := goodIn_app (goodIn_of _ (by decide +kernel)) ggX1_init_X1_begin
theorem dX1_init_0 : decode cX1_init 0 = .ok (.aload_n 0, 1) := by decide +kernel
theorem dX1_init_1 : decode cX1_init 1 = .ok (.invokespecial 1, 3) := by decide +kernel
theorem dX1_init_4 : decode cX1_init 4 = .ok (.aload_n 0, 1) := by decide +kernel
theorem dX1_init_5 : decode cX1_init 5 = .ok (.iconst 1, 1) := by decide +kernel
theorem dX1_init_6 : decode cX1_init 6 = .ok (.putfield 7, 3) := by decide +kernel
theorem dX1_init_9 : decode cX1_init 9 = .ok (.aload_n 0, 1) := by decide +kernel
theorem dX1_init_10 : decode cX1_init 10 = .ok (.iconst 1, 1) := by decide +kernel
theorem dX1_init_11 : decode cX1_init 11 = .ok (.putfield 13, 3) := by decide +kernel
theorem dX1_init_14 : decode cX1_init 14 = .ok (.aload_n 0, 1) := by decide +kernel
theorem dX1_init_15 : decode cX1_init 15 = .ok (.sipush 210, 3) := by decide +kernel
theorem dX1_init_18 : decode cX1_init 18 = .ok (.newarray .int, 2) := by decide +kernel
theorem dX1_init_20 : decode cX1_init 20 = .ok (.putfield 16, 3) := by decide +kernel
theorem dX1_init_23 : decode cX1_init 23 = .ok (.aload_n 0, 1) := by decide +kernel
theorem dX1_init_24 : decode cX1_init 24 = .ok (.sipush 210, 3) := by decide +kernel
theorem dX1_init_27 : decode cX1_init 27 = .ok (.newarray .boolean, 2) := by decide +kernel
theorem dX1_init_29 : decode cX1_init 29 = .ok (.putfield 20, 3) := by decide +kernel
theorem dX1_init_32 : decode cX1_init 32 = .ok (.aload_n 0, 1) := by decide +kernel
theorem dX1_init_33 : decode cX1_init 33 = .ok (.bipush 70, 2) := by decide +kernel
theorem dX1_init_35 : decode cX1_init 35 = .ok (.newarray .boolean, 2) := by decide +kernel
theorem dX1_init_37 : decode cX1_init 37 = .ok (.putfield 24, 3) := by decide +kernel
theorem dX1_init_40 : decode cX1_init 40 = .ok (.aload_n 0, 1) := by decide +kernel
theorem dX1_init_41 : decode cX1_init 41 = .ok (.iconst 1, 1) := by decide +kernel
theorem dX1_init_42 : decode cX1_init 42 = .ok (.putfield 27, 3) := by decide +kernel
theorem dX1_init_45 : decode cX1_init 45 = .ok (.aload_n 0, 1) := by decide +kernel
theorem dX1_init_46 : decode cX1_init 46 = .ok (.bipush 10, 2) := by decide +kernel
theorem dX1_init_48 : decode cX1_init 48 = .ok (.putfield 30, 3) := by decide +kernel
theorem dX1_init_51 : decode cX1_init 51 = .ok (.aload_n 0, 1) := by decide +kernel
theorem dX1_init_52 : decode cX1_init 52 = .ok (.iconst 3, 1) := by decide +kernel
theorem dX1_init_53 : decode cX1_init 53 = .ok (.newarray .int, 2) := by decide +kernel
theorem dX1_init_55 : decode cX1_init 55 = .ok (.putfield 33, 3) := by decide +kernel
theorem dX1_init_58 : decode cX1_init 58 = .ok (.aload_n 0, 1) := by decide +kernel
theorem dX1_init_59 : decode cX1_init 59 = .ok (.bipush 6, 2) := by decide +kernel
theorem dX1_init_61 : decode cX1_init 61 = .ok (.newarray .int, 2) := by decide +kernel
theorem dX1_init_63 : decode cX1_init 63 = .ok (.putfield 36, 3) := by decide +kernel
theorem dX1_init_66 : decode cX1_init 66 = .ok (.aload_n 0, 1) := by decide +kernel
theorem dX1_init_67 : decode cX1_init 67 = .ok (.bipush 12, 2) := by decide +kernel
theorem dX1_init_69 : decode cX1_init 69 = .ok (.newarray .int, 2) := by decide +kernel
theorem dX1_init_71 : decode cX1_init 71 = .ok (.putfield 39, 3) := by decide +kernel
theorem dX1_init_74 : decode cX1_init 74 = .ok (.aload_n 0, 1) := by decide +kernel
theorem dX1_init_75 : decode cX1_init 75 = .ok (.bipush 10, 2) := by decide +kernel
theorem dX1_init_77 : decode cX1_init 77 = .ok (.newarray .int, 2) := by decide +kernel
theorem dX1_init_79 : decode cX1_init 79 = .ok (.putfield 42, 3) := by decide +kernel
theorem dX1_init_82 : decode cX1_init 82 = .ok (.aload_n 0, 1) := by decide +kernel
theorem dX1_init_83 : decode cX1_init 83 = .ok (.bipush 30, 2) := by decide +kernel
theorem dX1_init_85 : decode cX1_init 85 = .ok (.newarray .int, 2) := by decide +kernel
theorem dX1_init_87 : decode cX1_init 87 = .ok (.putfield 45, 3) := by decide +kernel
theorem dX1_init_90 : decode cX1_init 90 = .ok (.aload_n 0, 1) := by decide +kernel
theorem dX1_init_91 : decode cX1_init 91 = .ok (.bipush 10, 2) := by decide +kernel
theorem dX1_init_93 : decode cX1_init 93 = .ok (.newarray .int, 2) := by decide +kernel
theorem dX1_init_95 : decode cX1_init 95 = .ok (.putfield 48, 3) := by decide +kernel
theorem dX1_init_98 : decode cX1_init 98 = .ok (.aload_n 0, 1) := by decide +kernel
theorem dX1_init_99 : decode cX1_init 99 = .ok (.bipush 7, 2) := by decide +kernel
theorem dX1_init_101 : decode cX1_init 101 = .ok (.newarray .int, 2) := by decide +kernel
theorem dX1_init_103 : decode cX1_init 103 = .ok (.putfield 51, 3) := by decide +kernel
theorem dX1_init_106 : decode cX1_init 106 = .ok (.aload_n 0, 1) := by decide +kernel
theorem dX1_init_107 : decode cX1_init 107 = .ok (.bipush 12, 2) := by decide +kernel
theorem dX1_init_109 : decode cX1_init 109 = .ok (.newarray .int, 2) := by decide +kernel
theorem dX1_init_111 : decode cX1_init 111 = .ok (.putfield 54, 3) := by decide +kernel
theorem dX1_init_114 : decode cX1_init 114 = .ok (.aload_n 0, 1) := by decide +kernel
theorem dX1_init_115 : decode cX1_init 115 = .ok (.getfield 33, 3) := by decide +kernel
theorem dX1_init_118 : decode cX1_init 118 = .ok (.iconst 0, 1) := by decide +kernel
theorem dX1_init_119 : decode cX1_init 119 = .ok (.iconst 1, 1) := by decide +kernel
theorem dX1_init_120 : decode cX1_init 120 = .ok (.iastore, 1) := by decide +kernel
theorem dX1_init_121 : decode cX1_init 121 = .ok (.iconst 0, 1) := by decide +kernel
theorem dX1_init_122 : decode cX1_init 122 = .ok (.istore_n 1, 1) := by decide +kernel
theorem dX1_init_123 : decode cX1_init 123 = .ok (.iload_n 1, 1) := by decide +kernel
theorem dX1_init_124 : decode cX1_init 124 = .ok (.bipush 12, 2) := by decide +kernel
theorem dX1_init_126 : decode cX1_init 126 = .ok (.if_icmp .ge 17, 3) := by decide +kernel
theorem dX1_init_129 : decode cX1_init 129 = .ok (.aload_n 0, 1) := by decide +kernel
theorem dX1_init_130 : decode cX1_init 130 = .ok (.getfield 39, 3) := by decide +kernel
theorem dX1_init_133 : decode cX1_init 133 = .ok (.iload_n 1, 1) := by decide +kernel
theorem dX1_init_134 : decode cX1_init 134 = .ok (.bipush 10, 2) := by decide +kernel
theorem dX1_init_136 : decode cX1_init 136 = .ok (.iastore, 1) := by decide +kernel
theorem dX1_init_137 : decode cX1_init 137 = .ok (.iinc 1 1, 3) := by decide +kernel
theorem dX1_init_140 : decode cX1_init 140 = .ok (.goto (-17), 3) := by decide +kernel
theorem dX1_init_143 : decode cX1_init 143 = .ok (.aload_n 0, 1) := by decide +kernel
theorem dX1_init_144 : decode cX1_init 144 = .ok (.invokevirtual 57, 3) := by decide +kernel
theorem dX1_init_147 : decode cX1_init 147 = .ok (.return_, 1) := by decide +kernel
theorem dX1_in_0 : decode cX1_in 0 = .ok (.iload_n 0, 1) := by decide +kernel
theorem dX1_in_1 : decode cX1_in 1 = .ok (.iload_n 1, 1) := by decide +kernel
theorem dX1_in_2 : decode cX1_in 2 = .ok (.if_icmp .lt 12, 3) := by decide +kernel
theorem dX1_in_5 : decode cX1_in 5 = .ok (.iload_n 0, 1) := by decide +kernel
theorem dX1_in_6 : decode cX1_in 6 = .ok (.iload_n 2, 1) := by decide +kernel
theorem dX1_in_7 : decode cX1_in 7 = .ok (.if_icmp .gt 7, 3) := by decide +kernel
theorem dX1_in_10 : decode cX1_in 10 = .ok (.iconst 1, 1) := by decide +kernel
theorem dX1_in_11 : decode cX1_in 11 = .ok (.goto 4, 3) := by decide +kernel
theorem dX1_in_14 : decode cX1_in 14 = .ok (.iconst 0, 1) := by decide +kernel
theorem dX1_in_15 : decode cX1_in 15 = .ok (.ireturn, 1) := by decide +kernel
theorem dX1_begin_0 : decode cX1_begin 0 = .ok (.iconst 0, 1) := by decide +kernel
theorem dX1_begin_1 : decode cX1_begin 1 = .ok (.istore_n 1, 1) := by decide +kernel
theorem dX1_begin_2 : decode cX1_begin 2 = .ok (.iload_n 1, 1) := by decide +kernel
theorem dX1_begin_3 : decode cX1_begin 3 = .ok (.sipush 210, 3) := by decide +kernel
theorem dX1_begin_6 : decode cX1_begin 6 = .ok (.if_icmp .ge 23, 3) := by decide +kernel
theorem dX1_begin_9 : decode cX1_begin 9 = .ok (.aload_n 0, 1) := by decide +kernel
theorem dX1_begin_10 : decode cX1_begin 10 = .ok (.getfield 16, 3) := by decide +kernel
theorem dX1_begin_13 : decode cX1_begin 13 = .ok (.iload_n 1, 1) := by decide +kernel
theorem dX1_begin_14 : decode cX1_begin 14 = .ok (.iconst (-1), 1) := by decide +kernel
theorem dX1_begin_15 : decode cX1_begin 15 = .ok (.iastore, 1) := by decide +kernel
theorem dX1_begin_16 : decode cX1_begin 16 = .ok (.aload_n 0, 1) := by decide +kernel
theorem dX1_begin_17 : decode cX1_begin 17 = .ok (.getfield 20, 3) := by decide +kernel
theorem dX1_begin_20 : decode cX1_begin 20 = .ok (.iload_n 1, 1) := by decide +kernel
theorem dX1_begin_21 : decode cX1_begin 21 = .ok (.iconst 0, 1) := by decide +kernel
theorem dX1_begin_22 : decode cX1_begin 22 = .ok (.bastore, 1) := by decide +kernel
theorem dX1_begin_23 : decode cX1_begin 23 = .ok (.iinc 1 1, 3) := by decide +kernel
theorem dX1_begin_26 : decode cX1_begin 26 = .ok (.goto (-24), 3) := by decide +kernel
theorem dX1_begin_29 : decode cX1_begin 29 = .ok (.iconst 0, 1) := by decide +kernel
theorem dX1_begin_30 : decode cX1_begin 30 = .ok (.istore_n 1, 1) := by decide +kernel
theorem dX1_begin_31 : decode cX1_begin 31 = .ok (.iload_n 1, 1) := by decide +kernel
theorem dX1_begin_32 : decode cX1_begin 32 = .ok (.bipush 70, 2) := by decide +kernel
theorem dX1_begin_34 : decode cX1_begin 34 = .ok (.if_icmp .ge 16, 3) := by decide +kernel
theorem dX1_begin_37 : decode cX1_begin 37 = .ok (.aload_n 0, 1) := by decide +kernel
theorem dX1_begin_38 : decode cX1_begin 38 = .ok (.getfield 24, 3) := by decide +kernel
theorem dX1_begin_41 : decode cX1_begin 41 = .ok (.iload_n 1, 1) := by decide +kernel
theorem dX1_begin_42 : decode cX1_begin 42 = .ok (.iconst 0, 1) := by decide +kernel
theorem dX1_begin_43 : decode cX1_begin 43 = .ok (.bastore, 1) := by decide +kernel
theorem dX1_begin_44 : decode cX1_begin 44 = .ok (.iinc 1 1, 3) := by decide +kernel
theorem dX1_begin_47 : decode cX1_begin 47 = .ok (.goto (-16), 3) := by decide +kernel
theorem dX1_begin_50 : decode cX1_begin 50 = .ok (.iconst 0, 1) := by decide +kernel
theorem dX1_begin_51 : decode cX1_begin 51 = .ok (.istore_n 1, 1) := by decide +kernel
theorem dX1_begin_52 : decode cX1_begin 52 = .ok (.iload_n 1, 1) := by decide +kernel
theorem dX1_begin_53 : decode cX1_begin 53 = .ok (.bipush 10, 2) := by decide +kernel
theorem dX1_begin_55 : decode cX1_begin 55 = .ok (.if_icmp .ge 16, 3) := by decide +kernel
theorem dX1_begin_58 : decode cX1_begin 58 = .ok (.aload_n 0, 1) := by decide +kernel
theorem dX1_begin_59 : decode cX1_begin 59 = .ok (.getfield 42, 3) := by decide +kernel
theorem dX1_begin_62 : decode cX1_begin 62 = .ok (.iload_n 1, 1) := by decide +kernel
theorem dX1_begin_63 : decode cX1_begin 63 = .ok (.iconst 0, 1) := by decide +kernel
theorem dX1_begin_64 : decode cX1_begin 64 = .ok (.iastore, 1) := by decide +kernel
theorem dX1_begin_65 : decode cX1_begin 65 = .ok (.iinc 1 1, 3) := by decide +kernel
theorem dX1_begin_68 : decode cX1_begin 68 = .ok (.goto (-16), 3) := by decide +kernel
theorem dX1_begin_71 : decode cX1_begin 71 = .ok (.aload_n 0, 1) := by decide +kernel
theorem dX1_begin_72 : decode cX1_begin 72 = .ok (.iconst 0, 1) := by decide +kernel
theorem dX1_begin_73 : decode cX1_begin 73 = .ok (.putfield 60, 3) := by decide +kernel
theorem dX1_begin_76 : decode cX1_begin 76 = .ok (.return_, 1) := by decide +kernel
set_option maxRecDepth 20000 in
theorem ggX1_isRound_X1_in : GoodIn wsX1_isRound wsX1_in := goodIn_r _ [4] (by decide +kernel) (by decide +kernel)
set_option maxRecDepth 20000 in
theorem gX1_isRound_X1_in : GoodIn wsX1_isRound (va_wsS RX1 64 yX1_in wsX1_in) := goodIn_app (goodIn_of _ (by decide +kernel)) ggX1_isRound_X1_in
theorem dX1_isRound_0 : decode cX1_isRound 0 = .ok (.iload_n 0, 1) := by decide +kernel
theorem dX1_isRound_1 : decode cX1_isRound 1 = .ok (.iconst 0, 1) := by decide +kernel
theorem dX1_isRound_2 : decode cX1_isRound 2 = .ok (.iconst 2, 1) := by decide +kernel
theorem dX1_isRound_3 : decode cX1_isRound 3 = .ok (.invokestatic 64, 3) := by decide +kernel
theorem dX1_isRound_6 : decode cX1_isRound 6 = .ok (.ireturn, 1) := by decide +kernel
set_option maxRecDepth 20000 in
theorem ggX1_isPlayer_X1_in : GoodIn wsX1_isPlayer wsX1_in := goodIn_r _ [5] (by decide +kernel) (by decide +kernel)
set_option maxRecDepth 20000 in
theorem gX1_isPlayer_X1_in : GoodIn wsX1_isPlayer (va_wsS RX1 64 yX1_in wsX1_in) := goodIn_app (goodIn_of _ (by decide +kernel)) ggX1_isPlayer_X1_in
theorem dX1_isPlayer_0 : decode cX1_isPlayer 0 = .ok (.iload_n 1, 1) := by decide +kernel
theorem dX1_isPlayer_1 : decode cX1_isPlayer 1 = .ok (.iconst 0, 1) := by decide +kernel
theorem dX1_isPlayer_2 : decode cX1_isPlayer 2 = .ok (.aload_n 0, 1) := by decide +kernel
theorem dX1_isPlayer_3 : decode cX1_isPlayer 3 = .ok (.getfield 7, 3) := by decide +kernel
theorem dX1_isPlayer_6 : decode cX1_isPlayer 6 = .ok (.iconst 1, 1) := by decide +kernel
theorem dX1_isPlayer_7 : decode cX1_isPlayer 7 = .ok (.isub, 1) := by decide +kernel
theorem dX1_isPlayer_8 : decode cX1_isPlayer 8 = .ok (.invokestatic 64, 3) := by decide +kernel
theorem dX1_isPlayer_11 : decode cX1_isPlayer 11 = .ok (.ireturn, 1) := by decide +kernel
set_option maxRecDepth 20000 in
theorem ggX1_isJuror_X1_in : GoodIn wsX1_isJuror wsX1_in := goodIn_r _ [5] (by decide +kernel) (by decide +kernel)
set_option maxRecDepth 20000 in
theorem gX1_isJuror_X1_in : GoodIn wsX1_isJuror (va_wsS RX1 64 yX1_in wsX1_in) := goodIn_app (goodIn_of _ (by decide +kernel)) ggX1_isJuror_X1_in
theorem dX1_isJuror_0 : decode cX1_isJuror 0 = .ok (.iload_n 1, 1) := by decide +kernel
theorem dX1_isJuror_1 : decode cX1_isJuror 1 = .ok (.iconst 0, 1) := by decide +kernel
theorem dX1_isJuror_2 : decode cX1_isJuror 2 = .ok (.aload_n 0, 1) := by decide +kernel
theorem dX1_isJuror_3 : decode cX1_isJuror 3 = .ok (.getfield 13, 3) := by decide +kernel
theorem dX1_isJuror_6 : decode cX1_isJuror 6 = .ok (.iconst 1, 1) := by decide +kernel
theorem dX1_isJuror_7 : decode cX1_isJuror 7 = .ok (.isub, 1) := by decide +kernel
theorem dX1_isJuror_8 : decode cX1_isJuror 8 = .ok (.invokestatic 64, 3) := by decide +kernel
theorem dX1_isJuror_11 : decode cX1_isJuror 11 = .ok (.ireturn, 1) := by decide +kernel
set_option maxRecDepth 20000 in
theorem ggX1_contest_X1_in : GoodIn wsX1_contest wsX1_in := goodIn_r _ [6] (by decide +kernel) (by decide +kernel)
set_option maxRecDepth 20000 in
theorem gX1_contest_X1_in : GoodIn wsX1_contest (va_wsS RX1 64 yX1_in wsX1_in) := goodIn_app (goodIn_of _ (by decide +kernel)) ggX1_contest_X1_in
set_option maxRecDepth 20000 in
theorem ggX1_contest_X1_begin : GoodIn wsX1_contest wsX1_begin := goodIn_r _ [10, 11, 12, 13, 14, 15, 16, 17, 18, 19, 20, 21, 22, 23, 24, 25, 26, 27, 28, 29, 30, 31, 32, 33, 34, 35, 36, 37, 38] (by decide +kernel) (by decide +kernel)
set_option maxRecDepth 20000 in
theorem gX1_contest_X1_begin : GoodIn wsX1_contest (wsV RX1 57 RX1 yX1_begin wsX1_begin) := goodIn_app (goodIn_of _ (by decide +kernel)) ggX1_contest_X1_begin
theorem dX1_contest_0 : decode cX1_contest 0 = .ok (.iload_n 1, 1) := by decide +kernel
theorem dX1_contest_1 : decode cX1_contest 1 = .ok (.iconst 1, 1) := by decide +kernel
theorem dX1_contest_2 : decode cX1_contest 2 = .ok (.bipush 10, 2) := by decide +kernel
theorem dX1_contest_4 : decode cX1_contest 4 = .ok (.invokestatic 64, 3) := by decide +kernel
theorem dX1_contest_7 : decode cX1_contest 7 = .ok (.ifCond .eq 13, 3) := by decide +kernel
theorem dX1_contest_10 : decode cX1_contest 10 = .ok (.iload_n 2, 1) := by decide +kernel
theorem dX1_contest_11 : decode cX1_contest 11 = .ok (.iconst 1, 1) := by decide +kernel
theorem dX1_contest_12 : decode cX1_contest 12 = .ok (.bipush 7, 2) := by decide +kernel
theorem dX1_contest_14 : decode cX1_contest 14 = .ok (.invokestatic 64, 3) := by decide +kernel
theorem dX1_contest_17 : decode cX1_contest 17 = .ok (.ifCond .ne 6, 3) := by decide +kernel
theorem dX1_contest_20 : decode cX1_contest 20 = .ok (.bipush (-102), 2) := by decide +kernel
theorem dX1_contest_22 : decode cX1_contest 22 = .ok (.ireturn, 1) := by decide +kernel
theorem dX1_contest_23 : decode cX1_contest 23 = .ok (.aload_n 0, 1) := by decide +kernel
theorem dX1_contest_24 : decode cX1_contest 24 = .ok (.iload_n 1, 1) := by decide +kernel
theorem dX1_contest_25 : decode cX1_contest 25 = .ok (.putfield 7, 3) := by decide +kernel
theorem dX1_contest_28 : decode cX1_contest 28 = .ok (.aload_n 0, 1) := by decide +kernel
theorem dX1_contest_29 : decode cX1_contest 29 = .ok (.iload_n 2, 1) := by decide +kernel
theorem dX1_contest_30 : decode cX1_contest 30 = .ok (.putfield 13, 3) := by decide +kernel
theorem dX1_contest_33 : decode cX1_contest 33 = .ok (.aload_n 0, 1) := by decide +kernel
theorem dX1_contest_34 : decode cX1_contest 34 = .ok (.invokevirtual 57, 3) := by decide +kernel
theorem dX1_contest_37 : decode cX1_contest 37 = .ok (.iload_n 1, 1) := by decide +kernel
theorem dX1_contest_38 : decode cX1_contest 38 = .ok (.ireturn, 1) := by decide +kernel
set_option maxRecDepth 20000 in
theorem ggX1_mark_X1_isRound : GoodIn wsX1_mark wsX1_isRound := goodIn_r _ [5, 6, 7, 4, 8] (by decide +kernel) (by decide +kernel)
set_option maxRecDepth 20000 in
theorem gX1_mark_X1_isRound : GoodIn wsX1_mark (va_wsS RX1 68 yX1_isRound wsX1_isRound) := goodIn_app (goodIn_of _ (by decide +kernel)) ggX1_mark_X1_isRound
set_option maxRecDepth 20000 in
theorem ggX1_mark_X1_isJuror : GoodIn wsX1_mark wsX1_isJuror := goodIn_r _ [12, 13, 6, 7, 4, 8, 19, 20, 21, 22, 23, 24, 25, 26, 27, 28, 29, 30, 31, 32, 33, 34, 35, 36, 37, 38, 39, 40, 41] (by decide +kernel) (by decide +kernel)
set_option maxRecDepth 20000 in
theorem gX1_mark_X1_isJuror : GoodIn wsX1_mark (wsV RX1 72 RX1 yX1_isJuror wsX1_isJuror) := goodIn_app (goodIn_of _ (by decide +kernel)) ggX1_mark_X1_isJuror
set_option maxRecDepth 20000 in
theorem ggX1_mark_X1_isPlayer : GoodIn wsX1_mark wsX1_isPlayer := goodIn_r _ [17, 18, 6, 7, 4, 8, 19, 20, 21, 22, 23, 24, 25, 26, 27, 28, 29, 30, 31, 32, 33, 34, 35, 36, 37, 38, 39, 40, 41] (by decide +kernel) (by decide +kernel)
set_option maxRecDepth 20000 in
theorem gX1_mark_X1_isPlayer : GoodIn wsX1_mark (wsV RX1 75 RX1 yX1_isPlayer wsX1_isPlayer) := goodIn_app (goodIn_of _ (by decide +kernel)) ggX1_mark_X1_isPlayer
set_option maxRecDepth 20000 in
theorem ggX1_mark_X1_in : GoodIn wsX1_mark wsX1_in := goodIn_r _ [8] (by decide +kernel) (by decide +kernel)
set_option maxRecDepth 20000 in
theorem gX1_mark_X1_in : GoodIn wsX1_mark (va_wsS RX1 64 yX1_in wsX1_in) := goodIn_app (goodIn_of _ (by decide +kernel)) ggX1_mark_X1_in
theorem dX1_mark_0 : decode cX1_mark 0 = .ok (.iload_n 1, 1) := by decide +kernel
theorem dX1_mark_1 : decode cX1_mark 1 = .ok (.invokestatic 68, 3) := by decide +kernel
theorem dX1_mark_4 : decode cX1_mark 4 = .ok (.ifCond .eq 19, 3) := by decide +kernel
theorem dX1_mark_7 : decode cX1_mark 7 = .ok (.aload_n 0, 1) := by decide +kernel
theorem dX1_mark_8 : decode cX1_mark 8 = .ok (.iload_n 2, 1) := by decide +kernel
theorem dX1_mark_9 : decode cX1_mark 9 = .ok (.invokevirtual 72, 3) := by decide +kernel
theorem dX1_mark_12 : decode cX1_mark 12 = .ok (.ifCond .eq 11, 3) := by decide +kernel
theorem dX1_mark_15 : decode cX1_mark 15 = .ok (.aload_n 0, 1) := by decide +kernel
theorem dX1_mark_16 : decode cX1_mark 16 = .ok (.iload_n 3, 1) := by decide +kernel
theorem dX1_mark_17 : decode cX1_mark 17 = .ok (.invokevirtual 75, 3) := by decide +kernel
theorem dX1_mark_20 : decode cX1_mark 20 = .ok (.ifCond .ne 6, 3) := by decide +kernel
theorem dX1_mark_23 : decode cX1_mark 23 = .ok (.bipush (-101), 2) := by decide +kernel
theorem dX1_mark_25 : decode cX1_mark 25 = .ok (.ireturn, 1) := by decide +kernel
theorem dX1_mark_26 : decode cX1_mark 26 = .ok (.iload 4, 2) := by decide +kernel
theorem dX1_mark_28 : decode cX1_mark 28 = .ok (.iconst (-1), 1) := by decide +kernel
theorem dX1_mark_29 : decode cX1_mark 29 = .ok (.if_icmp .eq 17, 3) := by decide +kernel
theorem dX1_mark_32 : decode cX1_mark 32 = .ok (.iload 4, 2) := by decide +kernel
theorem dX1_mark_34 : decode cX1_mark 34 = .ok (.iconst 1, 1) := by decide +kernel
theorem dX1_mark_35 : decode cX1_mark 35 = .ok (.bipush 100, 2) := by decide +kernel
theorem dX1_mark_37 : decode cX1_mark 37 = .ok (.invokestatic 64, 3) := by decide +kernel
theorem dX1_mark_40 : decode cX1_mark 40 = .ok (.ifCond .ne 6, 3) := by decide +kernel
theorem dX1_mark_43 : decode cX1_mark 43 = .ok (.bipush (-102), 2) := by decide +kernel
theorem dX1_mark_45 : decode cX1_mark 45 = .ok (.ireturn, 1) := by decide +kernel
theorem dX1_mark_46 : decode cX1_mark 46 = .ok (.bipush 70, 2) := by decide +kernel
theorem dX1_mark_48 : decode cX1_mark 48 = .ok (.iload_n 1, 1) := by decide +kernel
theorem dX1_mark_49 : decode cX1_mark 49 = .ok (.imul, 1) := by decide +kernel
theorem dX1_mark_50 : decode cX1_mark 50 = .ok (.bipush 10, 2) := by decide +kernel
theorem dX1_mark_52 : decode cX1_mark 52 = .ok (.iload_n 2, 1) := by decide +kernel
theorem dX1_mark_53 : decode cX1_mark 53 = .ok (.imul, 1) := by decide +kernel
theorem dX1_mark_54 : decode cX1_mark 54 = .ok (.iadd, 1) := by decide +kernel
theorem dX1_mark_55 : decode cX1_mark 55 = .ok (.iload_n 3, 1) := by decide +kernel
theorem dX1_mark_56 : decode cX1_mark 56 = .ok (.iadd, 1) := by decide +kernel
theorem dX1_mark_57 : decode cX1_mark 57 = .ok (.istore 5, 2) := by decide +kernel
theorem dX1_mark_59 : decode cX1_mark 59 = .ok (.aload_n 0, 1) := by decide +kernel
theorem dX1_mark_60 : decode cX1_mark 60 = .ok (.getfield 16, 3) := by decide +kernel
theorem dX1_mark_63 : decode cX1_mark 63 = .ok (.iload 5, 2) := by decide +kernel
theorem dX1_mark_65 : decode cX1_mark 65 = .ok (.iaload, 1) := by decide +kernel
theorem dX1_mark_66 : decode cX1_mark 66 = .ok (.istore 6, 2) := by decide +kernel
theorem dX1_mark_68 : decode cX1_mark 68 = .ok (.aload_n 0, 1) := by decide +kernel
theorem dX1_mark_69 : decode cX1_mark 69 = .ok (.getfield 16, 3) := by decide +kernel
theorem dX1_mark_72 : decode cX1_mark 72 = .ok (.iload 5, 2) := by decide +kernel
theorem dX1_mark_74 : decode cX1_mark 74 = .ok (.iload 4, 2) := by decide +kernel
theorem dX1_mark_76 : decode cX1_mark 76 = .ok (.iastore, 1) := by decide +kernel
theorem dX1_mark_77 : decode cX1_mark 77 = .ok (.iload 6, 2) := by decide +kernel
theorem dX1_mark_79 : decode cX1_mark 79 = .ok (.ireturn, 1) := by decide +kernel
set_option maxRecDepth 20000 in
theorem ggX1_yes_X1_isRound : GoodIn wsX1_yes wsX1_isRound := goodIn_r _ [5, 6, 7, 4, 8] (by decide +kernel) (by decide +kernel)
set_option maxRecDepth 20000 in
theorem gX1_yes_X1_isRound : GoodIn wsX1_yes (va_wsS RX1 68 yX1_isRound wsX1_isRound) := goodIn_app (goodIn_of _ (by decide +kernel)) ggX1_yes_X1_isRound
set_option maxRecDepth 20000 in
theorem ggX1_yes_X1_isJuror : GoodIn wsX1_yes wsX1_isJuror := goodIn_r _ [12, 13, 6, 7, 4, 8, 19, 20, 21, 22, 23, 24, 25, 26, 27, 28, 29, 30, 31, 32, 33, 34, 35, 36, 37, 38, 39, 40, 41] (by decide +kernel) (by decide +kernel)
set_option maxRecDepth 20000 in
theorem gX1_yes_X1_isJuror : GoodIn wsX1_yes (wsV RX1 72 RX1 yX1_isJuror wsX1_isJuror) := goodIn_app (goodIn_of _ (by decide +kernel)) ggX1_yes_X1_isJuror
set_option maxRecDepth 20000 in
theorem ggX1_yes_X1_isPlayer : GoodIn wsX1_yes wsX1_isPlayer := goodIn_r _ [17, 18, 6, 7, 4, 8, 19, 20, 21, 22, 23, 24, 25, 26, 27, 28, 29, 30, 31, 32, 33, 34, 35, 36, 37, 38, 39, 40, 41] (by decide +kernel) (by decide +kernel)
set_option maxRecDepth 20000 in
theorem gX1_yes_X1_isPlayer : GoodIn wsX1_yes (wsV RX1 75 RX1 yX1_isPlayer wsX1_isPlayer) := goodIn_app (goodIn_of _ (by decide +kernel)) ggX1_yes_X1_isPlayer
theorem dX1_yes_0 : decode cX1_yes 0 = .ok (.iload_n 1, 1) := by decide +kernel
theorem dX1_yes_1 : decode cX1_yes 1 = .ok (.invokestatic 68, 3) := by decide +kernel
theorem dX1_yes_4 : decode cX1_yes 4 = .ok (.ifCond .eq 19, 3) := by decide +kernel
theorem dX1_yes_7 : decode cX1_yes 7 = .ok (.aload_n 0, 1) := by decide +kernel
theorem dX1_yes_8 : decode cX1_yes 8 = .ok (.iload_n 2, 1) := by decide +kernel
theorem dX1_yes_9 : decode cX1_yes 9 = .ok (.invokevirtual 72, 3) := by decide +kernel
theorem dX1_yes_12 : decode cX1_yes 12 = .ok (.ifCond .eq 11, 3) := by decide +kernel
theorem dX1_yes_15 : decode cX1_yes 15 = .ok (.aload_n 0, 1) := by decide +kernel
theorem dX1_yes_16 : decode cX1_yes 16 = .ok (.iload_n 3, 1) := by decide +kernel
theorem dX1_yes_17 : decode cX1_yes 17 = .ok (.invokevirtual 75, 3) := by decide +kernel
theorem dX1_yes_20 : decode cX1_yes 20 = .ok (.ifCond .ne 6, 3) := by decide +kernel
theorem dX1_yes_23 : decode cX1_yes 23 = .ok (.bipush (-101), 2) := by decide +kernel
theorem dX1_yes_25 : decode cX1_yes 25 = .ok (.ireturn, 1) := by decide +kernel
theorem dX1_yes_26 : decode cX1_yes 26 = .ok (.bipush 70, 2) := by decide +kernel
theorem dX1_yes_28 : decode cX1_yes 28 = .ok (.iload_n 1, 1) := by decide +kernel
theorem dX1_yes_29 : decode cX1_yes 29 = .ok (.imul, 1) := by decide +kernel
theorem dX1_yes_30 : decode cX1_yes 30 = .ok (.bipush 10, 2) := by decide +kernel
theorem dX1_yes_32 : decode cX1_yes 32 = .ok (.iload_n 2, 1) := by decide +kernel
theorem dX1_yes_33 : decode cX1_yes 33 = .ok (.imul, 1) := by decide +kernel
theorem dX1_yes_34 : decode cX1_yes 34 = .ok (.iadd, 1) := by decide +kernel
theorem dX1_yes_35 : decode cX1_yes 35 = .ok (.iload_n 3, 1) := by decide +kernel
theorem dX1_yes_36 : decode cX1_yes 36 = .ok (.iadd, 1) := by decide +kernel
theorem dX1_yes_37 : decode cX1_yes 37 = .ok (.istore 5, 2) := by decide +kernel
theorem dX1_yes_39 : decode cX1_yes 39 = .ok (.aload_n 0, 1) := by decide +kernel
theorem dX1_yes_40 : decode cX1_yes 40 = .ok (.getfield 20, 3) := by decide +kernel
theorem dX1_yes_43 : decode cX1_yes 43 = .ok (.iload 5, 2) := by decide +kernel
theorem dX1_yes_45 : decode cX1_yes 45 = .ok (.baload, 1) := by decide +kernel
theorem dX1_yes_46 : decode cX1_yes 46 = .ok (.ifCond .eq 7, 3) := by decide +kernel
theorem dX1_yes_49 : decode cX1_yes 49 = .ok (.iconst 1, 1) := by decide +kernel
theorem dX1_yes_50 : decode cX1_yes 50 = .ok (.goto 4, 3) := by decide +kernel
theorem dX1_yes_53 : decode cX1_yes 53 = .ok (.iconst 0, 1) := by decide +kernel
theorem dX1_yes_54 : decode cX1_yes 54 = .ok (.istore 6, 2) := by decide +kernel
theorem dX1_yes_56 : decode cX1_yes 56 = .ok (.aload_n 0, 1) := by decide +kernel
theorem dX1_yes_57 : decode cX1_yes 57 = .ok (.getfield 20, 3) := by decide +kernel
theorem dX1_yes_60 : decode cX1_yes 60 = .ok (.iload 5, 2) := by decide +kernel
theorem dX1_yes_62 : decode cX1_yes 62 = .ok (.iload 4, 2) := by decide +kernel
theorem dX1_yes_64 : decode cX1_yes 64 = .ok (.bastore, 1) := by decide +kernel
theorem dX1_yes_65 : decode cX1_yes 65 = .ok (.iload 6, 2) := by decide +kernel
theorem dX1_yes_67 : decode cX1_yes 67 = .ok (.ireturn, 1) := by decide +kernel
set_option maxRecDepth 20000 in
theorem ggX1_pupil_X1_isJuror : GoodIn wsX1_pupil wsX1_isJuror := goodIn_r _ [6, 7, 8, 9, 5, 10, 16, 17, 18, 19, 20, 21, 22, 23, 24, 25, 26, 27, 28, 29, 30, 31, 32, 33, 34, 35, 36, 37, 38] (by decide +kernel) (by decide +kernel)
set_option maxRecDepth 20000 in
theorem gX1_pupil_X1_isJuror : GoodIn wsX1_pupil (wsV RX1 72 RX1 yX1_isJuror wsX1_isJuror) := goodIn_app (goodIn_of _ (by decide +kernel)) ggX1_pupil_X1_isJuror
set_option maxRecDepth 20000 in
theorem ggX1_pupil_X1_isPlayer : GoodIn wsX1_pupil wsX1_isPlayer := goodIn_r _ [14, 15, 8, 9, 5, 10, 16, 17, 18, 19, 20, 21, 22, 23, 24, 25, 26, 27, 28, 29, 30, 31, 32, 33, 34, 35, 36, 37, 38] (by decide +kernel) (by decide +kernel)
set_option maxRecDepth 20000 in
theorem gX1_pupil_X1_isPlayer : GoodIn wsX1_pupil (wsV RX1 75 RX1 yX1_isPlayer wsX1_isPlayer) := goodIn_app (goodIn_of _ (by decide +kernel)) ggX1_pupil_X1_isPlayer
theorem dX1_pupil_0 : decode cX1_pupil 0 = .ok (.aload_n 0, 1) := by decide +kernel
theorem dX1_pupil_1 : decode cX1_pupil 1 = .ok (.iload_n 1, 1) := by decide +kernel
theorem dX1_pupil_2 : decode cX1_pupil 2 = .ok (.invokevirtual 72, 3) := by decide +kernel
theorem dX1_pupil_5 : decode cX1_pupil 5 = .ok (.ifCond .eq 11, 3) := by decide +kernel
theorem dX1_pupil_8 : decode cX1_pupil 8 = .ok (.aload_n 0, 1) := by decide +kernel
theorem dX1_pupil_9 : decode cX1_pupil 9 = .ok (.iload_n 2, 1) := by decide +kernel
theorem dX1_pupil_10 : decode cX1_pupil 10 = .ok (.invokevirtual 75, 3) := by decide +kernel
theorem dX1_pupil_13 : decode cX1_pupil 13 = .ok (.ifCond .ne 6, 3) := by decide +kernel
theorem dX1_pupil_16 : decode cX1_pupil 16 = .ok (.bipush (-101), 2) := by decide +kernel
theorem dX1_pupil_18 : decode cX1_pupil 18 = .ok (.ireturn, 1) := by decide +kernel
theorem dX1_pupil_19 : decode cX1_pupil 19 = .ok (.aload_n 0, 1) := by decide +kernel
theorem dX1_pupil_20 : decode cX1_pupil 20 = .ok (.getfield 24, 3) := by decide +kernel
theorem dX1_pupil_23 : decode cX1_pupil 23 = .ok (.bipush 10, 2) := by decide +kernel
theorem dX1_pupil_25 : decode cX1_pupil 25 = .ok (.iload_n 1, 1) := by decide +kernel
theorem dX1_pupil_26 : decode cX1_pupil 26 = .ok (.imul, 1) := by decide +kernel
theorem dX1_pupil_27 : decode cX1_pupil 27 = .ok (.iload_n 2, 1) := by decide +kernel
theorem dX1_pupil_28 : decode cX1_pupil 28 = .ok (.iadd, 1) := by decide +kernel
theorem dX1_pupil_29 : decode cX1_pupil 29 = .ok (.baload, 1) := by decide +kernel
theorem dX1_pupil_30 : decode cX1_pupil 30 = .ok (.ifCond .eq 7, 3) := by decide +kernel
theorem dX1_pupil_33 : decode cX1_pupil 33 = .ok (.iconst 1, 1) := by decide +kernel
theorem dX1_pupil_34 : decode cX1_pupil 34 = .ok (.goto 4, 3) := by decide +kernel
theorem dX1_pupil_37 : decode cX1_pupil 37 = .ok (.iconst 0, 1) := by decide +kernel
theorem dX1_pupil_38 : decode cX1_pupil 38 = .ok (.istore 4, 2) := by decide +kernel
theorem dX1_pupil_40 : decode cX1_pupil 40 = .ok (.aload_n 0, 1) := by decide +kernel
theorem dX1_pupil_41 : decode cX1_pupil 41 = .ok (.getfield 24, 3) := by decide +kernel
theorem dX1_pupil_44 : decode cX1_pupil 44 = .ok (.bipush 10, 2) := by decide +kernel
theorem dX1_pupil_46 : decode cX1_pupil 46 = .ok (.iload_n 1, 1) := by decide +kernel
theorem dX1_pupil_47 : decode cX1_pupil 47 = .ok (.imul, 1) := by decide +kernel
theorem dX1_pupil_48 : decode cX1_pupil 48 = .ok (.iload_n 2, 1) := by decide +kernel
theorem dX1_pupil_49 : decode cX1_pupil 49 = .ok (.iadd, 1) := by decide +kernel
theorem dX1_pupil_50 : decode cX1_pupil 50 = .ok (.iload_n 3, 1) := by decide +kernel
theorem dX1_pupil_51 : decode cX1_pupil 51 = .ok (.bastore, 1) := by decide +kernel
theorem dX1_pupil_52 : decode cX1_pupil 52 = .ok (.iload 4, 2) := by decide +kernel
theorem dX1_pupil_54 : decode cX1_pupil 54 = .ok (.ireturn, 1) := by decide +kernel
set_option maxRecDepth 20000 in
theorem ggX1_rule_X1_in : GoodIn wsX1_rule wsX1_in := goodIn_r _ [6] (by decide +kernel) (by decide +kernel)
set_option maxRecDepth 20000 in
theorem gX1_rule_X1_in : GoodIn wsX1_rule (va_wsS RX1 64 yX1_in wsX1_in) := goodIn_app (goodIn_of _ (by decide +kernel)) ggX1_rule_X1_in
theorem dX1_rule_0 : decode cX1_rule 0 = .ok (.iload_n 1, 1) := by decide +kernel
theorem dX1_rule_1 : decode cX1_rule 1 = .ok (.iconst 0, 1) := by decide +kernel
theorem dX1_rule_2 : decode cX1_rule 2 = .ok (.iconst 1, 1) := by decide +kernel
theorem dX1_rule_3 : decode cX1_rule 3 = .ok (.invokestatic 64, 3) := by decide +kernel
theorem dX1_rule_6 : decode cX1_rule 6 = .ok (.ifCond .ne 6, 3) := by decide +kernel
theorem dX1_rule_9 : decode cX1_rule 9 = .ok (.bipush (-101), 2) := by decide +kernel
theorem dX1_rule_11 : decode cX1_rule 11 = .ok (.ireturn, 1) := by decide +kernel
theorem dX1_rule_12 : decode cX1_rule 12 = .ok (.iload_n 1, 1) := by decide +kernel
theorem dX1_rule_13 : decode cX1_rule 13 = .ok (.ifCond .ne 15, 3) := by decide +kernel
theorem dX1_rule_16 : decode cX1_rule 16 = .ok (.iload_n 2, 1) := by decide +kernel
theorem dX1_rule_17 : decode cX1_rule 17 = .ok (.iconst 0, 1) := by decide +kernel
theorem dX1_rule_18 : decode cX1_rule 18 = .ok (.iconst 2, 1) := by decide +kernel
theorem dX1_rule_19 : decode cX1_rule 19 = .ok (.invokestatic 64, 3) := by decide +kernel
theorem dX1_rule_22 : decode cX1_rule 22 = .ok (.ifCond .ne 19, 3) := by decide +kernel
theorem dX1_rule_25 : decode cX1_rule 25 = .ok (.goto 13, 3) := by decide +kernel
theorem dX1_rule_28 : decode cX1_rule 28 = .ok (.iload_n 2, 1) := by decide +kernel
theorem dX1_rule_29 : decode cX1_rule 29 = .ok (.iconst 1, 1) := by decide +kernel
theorem dX1_rule_30 : decode cX1_rule 30 = .ok (.bipush 50, 2) := by decide +kernel
theorem dX1_rule_32 : decode cX1_rule 32 = .ok (.invokestatic 64, 3) := by decide +kernel
theorem dX1_rule_35 : decode cX1_rule 35 = .ok (.ifCond .ne 6, 3) := by decide +kernel
theorem dX1_rule_38 : decode cX1_rule 38 = .ok (.bipush (-102), 2) := by decide +kernel
theorem dX1_rule_40 : decode cX1_rule 40 = .ok (.ireturn, 1) := by decide +kernel
theorem dX1_rule_41 : decode cX1_rule 41 = .ok (.iload_n 1, 1) := by decide +kernel
theorem dX1_rule_42 : decode cX1_rule 42 = .ok (.ifCond .ne 10, 3) := by decide +kernel
theorem dX1_rule_45 : decode cX1_rule 45 = .ok (.aload_n 0, 1) := by decide +kernel
theorem dX1_rule_46 : decode cX1_rule 46 = .ok (.getfield 27, 3) := by decide +kernel
theorem dX1_rule_49 : decode cX1_rule 49 = .ok (.goto 7, 3) := by decide +kernel
theorem dX1_rule_52 : decode cX1_rule 52 = .ok (.aload_n 0, 1) := by decide +kernel
theorem dX1_rule_53 : decode cX1_rule 53 = .ok (.getfield 30, 3) := by decide +kernel
theorem dX1_rule_56 : decode cX1_rule 56 = .ok (.istore_n 3, 1) := by decide +kernel
theorem dX1_rule_57 : decode cX1_rule 57 = .ok (.aload_n 0, 1) := by decide +kernel
theorem dX1_rule_58 : decode cX1_rule 58 = .ok (.iload_n 1, 1) := by decide +kernel
theorem dX1_rule_59 : decode cX1_rule 59 = .ok (.ifCond .ne 7, 3) := by decide +kernel
theorem dX1_rule_62 : decode cX1_rule 62 = .ok (.iload_n 2, 1) := by decide +kernel
theorem dX1_rule_63 : decode cX1_rule 63 = .ok (.goto 7, 3) := by decide +kernel
theorem dX1_rule_66 : decode cX1_rule 66 = .ok (.aload_n 0, 1) := by decide +kernel
theorem dX1_rule_67 : decode cX1_rule 67 = .ok (.getfield 27, 3) := by decide +kernel
theorem dX1_rule_70 : decode cX1_rule 70 = .ok (.putfield 27, 3) := by decide +kernel
theorem dX1_rule_73 : decode cX1_rule 73 = .ok (.aload_n 0, 1) := by decide +kernel
theorem dX1_rule_74 : decode cX1_rule 74 = .ok (.iload_n 1, 1) := by decide +kernel
theorem dX1_rule_75 : decode cX1_rule 75 = .ok (.iconst 1, 1) := by decide +kernel
theorem dX1_rule_76 : decode cX1_rule 76 = .ok (.if_icmp .ne 7, 3) := by decide +kernel
theorem dX1_rule_79 : decode cX1_rule 79 = .ok (.iload_n 2, 1) := by decide +kernel
theorem dX1_rule_80 : decode cX1_rule 80 = .ok (.goto 7, 3) := by decide +kernel
theorem dX1_rule_83 : decode cX1_rule 83 = .ok (.aload_n 0, 1) := by decide +kernel
theorem dX1_rule_84 : decode cX1_rule 84 = .ok (.getfield 30, 3) := by decide +kernel
theorem dX1_rule_87 : decode cX1_rule 87 = .ok (.putfield 30, 3) := by decide +kernel
theorem dX1_rule_90 : decode cX1_rule 90 = .ok (.iload_n 3, 1) := by decide +kernel
theorem dX1_rule_91 : decode cX1_rule 91 = .ok (.ireturn, 1) := by decide +kernel
theorem dX1_counts_0 : decode cX1_counts 0 = .ok (.aload_n 0, 1) := by decide +kernel
theorem dX1_counts_1 : decode cX1_counts 1 = .ok (.getfield 24, 3) := by decide +kernel
theorem dX1_counts_4 : decode cX1_counts 4 = .ok (.bipush 10, 2) := by decide +kernel
theorem dX1_counts_6 : decode cX1_counts 6 = .ok (.iload_n 2, 1) := by decide +kernel
theorem dX1_counts_7 : decode cX1_counts 7 = .ok (.imul, 1) := by decide +kernel
theorem dX1_counts_8 : decode cX1_counts 8 = .ok (.iload_n 3, 1) := by decide +kernel
theorem dX1_counts_9 : decode cX1_counts 9 = .ok (.iadd, 1) := by decide +kernel
theorem dX1_counts_10 : decode cX1_counts 10 = .ok (.baload, 1) := by decide +kernel
theorem dX1_counts_11 : decode cX1_counts 11 = .ok (.ifCond .ne 27, 3) := by decide +kernel
theorem dX1_counts_14 : decode cX1_counts 14 = .ok (.aload_n 0, 1) := by decide +kernel
theorem dX1_counts_15 : decode cX1_counts 15 = .ok (.getfield 16, 3) := by decide +kernel
theorem dX1_counts_18 : decode cX1_counts 18 = .ok (.bipush 70, 2) := by decide +kernel
theorem dX1_counts_20 : decode cX1_counts 20 = .ok (.iload_n 1, 1) := by decide +kernel
theorem dX1_counts_21 : decode cX1_counts 21 = .ok (.imul, 1) := by decide +kernel
theorem dX1_counts_22 : decode cX1_counts 22 = .ok (.bipush 10, 2) := by decide +kernel
theorem dX1_counts_24 : decode cX1_counts 24 = .ok (.iload_n 2, 1) := by decide +kernel
theorem dX1_counts_25 : decode cX1_counts 25 = .ok (.imul, 1) := by decide +kernel
theorem dX1_counts_26 : decode cX1_counts 26 = .ok (.iadd, 1) := by decide +kernel
theorem dX1_counts_27 : decode cX1_counts 27 = .ok (.iload_n 3, 1) := by decide +kernel
theorem dX1_counts_28 : decode cX1_counts 28 = .ok (.iadd, 1) := by decide +kernel
theorem dX1_counts_29 : decode cX1_counts 29 = .ok (.iaload, 1) := by decide +kernel
theorem dX1_counts_30 : decode cX1_counts 30 = .ok (.iconst (-1), 1) := by decide +kernel
theorem dX1_counts_31 : decode cX1_counts 31 = .ok (.if_icmp .eq 7, 3) := by decide +kernel
theorem dX1_counts_34 : decode cX1_counts 34 = .ok (.iconst 1, 1) := by decide +kernel
theorem dX1_counts_35 : decode cX1_counts 35 = .ok (.goto 4, 3) := by decide +kernel
theorem dX1_counts_38 : decode cX1_counts 38 = .ok (.iconst 0, 1) := by decide +kernel
theorem dX1_counts_39 : decode cX1_counts 39 = .ok (.ireturn, 1) := by decide +kernel
set_option maxRecDepth 20000 in
theorem ggX1_gather_X1_counts : GoodIn wsX1_gather wsX1_counts := goodIn_r _ [10, 11, 4, 12, 13, 14, 15, 16, 17, 18, 19, 20, 21, 22, 23, 24, 25, 26, 27, 28, 29, 30, 31, 32, 33, 34] (by decide +kernel) (by decide +kernel)
set_option maxRecDepth 20000 in
theorem gX1_gather_X1_counts : GoodIn wsX1_gather (wsV RX1 84 RX1 yX1_counts wsX1_counts) := goodIn_app (goodIn_of _ (by decide +kernel)) ggX1_gather_X1_counts
theorem dX1_gather_0 : decode cX1_gather 0 = .ok (.aload_n 0, 1) := by decide +kernel
theorem dX1_gather_1 : decode cX1_gather 1 = .ok (.iconst 0, 1) := by decide +kernel
theorem dX1_gather_2 : decode cX1_gather 2 = .ok (.putfield 78, 3) := by decide +kernel
theorem dX1_gather_5 : decode cX1_gather 5 = .ok (.aload_n 0, 1) := by decide +kernel
theorem dX1_gather_6 : decode cX1_gather 6 = .ok (.iconst 0, 1) := by decide +kernel
theorem dX1_gather_7 : decode cX1_gather 7 = .ok (.putfield 81, 3) := by decide +kernel
theorem dX1_gather_10 : decode cX1_gather 10 = .ok (.iconst 0, 1) := by decide +kernel
theorem dX1_gather_11 : decode cX1_gather 11 = .ok (.istore_n 3, 1) := by decide +kernel
theorem dX1_gather_12 : decode cX1_gather 12 = .ok (.iload_n 3, 1) := by decide +kernel
theorem dX1_gather_13 : decode cX1_gather 13 = .ok (.aload_n 0, 1) := by decide +kernel
theorem dX1_gather_14 : decode cX1_gather 14 = .ok (.getfield 13, 3) := by decide +kernel
theorem dX1_gather_17 : decode cX1_gather 17 = .ok (.if_icmp .ge 114, 3) := by decide +kernel
theorem dX1_gather_20 : decode cX1_gather 20 = .ok (.aload_n 0, 1) := by decide +kernel
theorem dX1_gather_21 : decode cX1_gather 21 = .ok (.iload_n 1, 1) := by decide +kernel
theorem dX1_gather_22 : decode cX1_gather 22 = .ok (.iload_n 3, 1) := by decide +kernel
theorem dX1_gather_23 : decode cX1_gather 23 = .ok (.iload_n 2, 1) := by decide +kernel
theorem dX1_gather_24 : decode cX1_gather 24 = .ok (.invokevirtual 84, 3) := by decide +kernel
theorem dX1_gather_27 : decode cX1_gather 27 = .ok (.ifCond .eq 98, 3) := by decide +kernel
theorem dX1_gather_30 : decode cX1_gather 30 = .ok (.aload_n 0, 1) := by decide +kernel
theorem dX1_gather_31 : decode cX1_gather 31 = .ok (.getfield 16, 3) := by decide +kernel
theorem dX1_gather_34 : decode cX1_gather 34 = .ok (.bipush 70, 2) := by decide +kernel
theorem dX1_gather_36 : decode cX1_gather 36 = .ok (.iload_n 1, 1) := by decide +kernel
theorem dX1_gather_37 : decode cX1_gather 37 = .ok (.imul, 1) := by decide +kernel
theorem dX1_gather_38 : decode cX1_gather 38 = .ok (.bipush 10, 2) := by decide +kernel
theorem dX1_gather_40 : decode cX1_gather 40 = .ok (.iload_n 3, 1) := by decide +kernel
theorem dX1_gather_41 : decode cX1_gather 41 = .ok (.imul, 1) := by decide +kernel
theorem dX1_gather_42 : decode cX1_gather 42 = .ok (.iadd, 1) := by decide +kernel
theorem dX1_gather_43 : decode cX1_gather 43 = .ok (.iload_n 2, 1) := by decide +kernel
theorem dX1_gather_44 : decode cX1_gather 44 = .ok (.iadd, 1) := by decide +kernel
theorem dX1_gather_45 : decode cX1_gather 45 = .ok (.iaload, 1) := by decide +kernel
theorem dX1_gather_46 : decode cX1_gather 46 = .ok (.istore 4, 2) := by decide +kernel
theorem dX1_gather_48 : decode cX1_gather 48 = .ok (.aload_n 0, 1) := by decide +kernel
theorem dX1_gather_49 : decode cX1_gather 49 = .ok (.getfield 78, 3) := by decide +kernel
theorem dX1_gather_52 : decode cX1_gather 52 = .ok (.istore 5, 2) := by decide +kernel
theorem dX1_gather_54 : decode cX1_gather 54 = .ok (.iload 5, 2) := by decide +kernel
theorem dX1_gather_56 : decode cX1_gather 56 = .ok (.ifCond .le 39, 3) := by decide +kernel
theorem dX1_gather_59 : decode cX1_gather 59 = .ok (.aload_n 0, 1) := by decide +kernel
theorem dX1_gather_60 : decode cX1_gather 60 = .ok (.getfield 51, 3) := by decide +kernel
theorem dX1_gather_63 : decode cX1_gather 63 = .ok (.iload 5, 2) := by decide +kernel
theorem dX1_gather_65 : decode cX1_gather 65 = .ok (.iconst 1, 1) := by decide +kernel
theorem dX1_gather_66 : decode cX1_gather 66 = .ok (.isub, 1) := by decide +kernel
theorem dX1_gather_67 : decode cX1_gather 67 = .ok (.iaload, 1) := by decide +kernel
theorem dX1_gather_68 : decode cX1_gather 68 = .ok (.iload 4, 2) := by decide +kernel
theorem dX1_gather_70 : decode cX1_gather 70 = .ok (.if_icmp .le 25, 3) := by decide +kernel
theorem dX1_gather_73 : decode cX1_gather 73 = .ok (.aload_n 0, 1) := by decide +kernel
theorem dX1_gather_74 : decode cX1_gather 74 = .ok (.getfield 51, 3) := by decide +kernel
theorem dX1_gather_77 : decode cX1_gather 77 = .ok (.iload 5, 2) := by decide +kernel
theorem dX1_gather_79 : decode cX1_gather 79 = .ok (.aload_n 0, 1) := by decide +kernel
theorem dX1_gather_80 : decode cX1_gather 80 = .ok (.getfield 51, 3) := by decide +kernel
theorem dX1_gather_83 : decode cX1_gather 83 = .ok (.iload 5, 2) := by decide +kernel
theorem dX1_gather_85 : decode cX1_gather 85 = .ok (.iconst 1, 1) := by decide +kernel
theorem dX1_gather_86 : decode cX1_gather 86 = .ok (.isub, 1) := by decide +kernel
theorem dX1_gather_87 : decode cX1_gather 87 = .ok (.iaload, 1) := by decide +kernel
theorem dX1_gather_88 : decode cX1_gather 88 = .ok (.iastore, 1) := by decide +kernel
theorem dX1_gather_89 : decode cX1_gather 89 = .ok (.iinc 5 (-1), 3) := by decide +kernel
theorem dX1_gather_92 : decode cX1_gather 92 = .ok (.goto (-38), 3) := by decide +kernel
theorem dX1_gather_95 : decode cX1_gather 95 = .ok (.aload_n 0, 1) := by decide +kernel
theorem dX1_gather_96 : decode cX1_gather 96 = .ok (.getfield 51, 3) := by decide +kernel
theorem dX1_gather_99 : decode cX1_gather 99 = .ok (.iload 5, 2) := by decide +kernel
theorem dX1_gather_101 : decode cX1_gather 101 = .ok (.iload 4, 2) := by decide +kernel
theorem dX1_gather_103 : decode cX1_gather 103 = .ok (.iastore, 1) := by decide +kernel
theorem dX1_gather_104 : decode cX1_gather 104 = .ok (.aload_n 0, 1) := by decide +kernel
theorem dX1_gather_105 : decode cX1_gather 105 = .ok (.dup, 1) := by decide +kernel
theorem dX1_gather_106 : decode cX1_gather 106 = .ok (.getfield 78, 3) := by decide +kernel
theorem dX1_gather_109 : decode cX1_gather 109 = .ok (.iconst 1, 1) := by decide +kernel
theorem dX1_gather_110 : decode cX1_gather 110 = .ok (.iadd, 1) := by decide +kernel
theorem dX1_gather_111 : decode cX1_gather 111 = .ok (.putfield 78, 3) := by decide +kernel
theorem dX1_gather_114 : decode cX1_gather 114 = .ok (.aload_n 0, 1) := by decide +kernel
theorem dX1_gather_115 : decode cX1_gather 115 = .ok (.dup, 1) := by decide +kernel
theorem dX1_gather_116 : decode cX1_gather 116 = .ok (.getfield 81, 3) := by decide +kernel
theorem dX1_gather_119 : decode cX1_gather 119 = .ok (.iload 4, 2) := by decide +kernel
theorem dX1_gather_121 : decode cX1_gather 121 = .ok (.iadd, 1) := by decide +kernel
theorem dX1_gather_122 : decode cX1_gather 122 = .ok (.putfield 81, 3) := by decide +kernel
theorem dX1_gather_125 : decode cX1_gather 125 = .ok (.iinc 3 1, 3) := by decide +kernel
theorem dX1_gather_128 : decode cX1_gather 128 = .ok (.goto (-116), 3) := by decide +kernel
theorem dX1_gather_131 : decode cX1_gather 131 = .ok (.return_, 1) := by decide +kernel
theorem dX1_cutOf_0 : decode cX1_cutOf 0 = .ok (.aload_n 0, 1) := by decide +kernel
theorem dX1_cutOf_1 : decode cX1_cutOf 1 = .ok (.getfield 78, 3) := by decide +kernel
theorem dX1_cutOf_4 : decode cX1_cutOf 4 = .ok (.iconst 2, 1) := by decide +kernel
theorem dX1_cutOf_5 : decode cX1_cutOf 5 = .ok (.aload_n 0, 1) := by decide +kernel
theorem dX1_cutOf_6 : decode cX1_cutOf 6 = .ok (.getfield 27, 3) := by decide +kernel
theorem dX1_cutOf_9 : decode cX1_cutOf 9 = .ok (.imul, 1) := by decide +kernel
theorem dX1_cutOf_10 : decode cX1_cutOf 10 = .ok (.isub, 1) := by decide +kernel
theorem dX1_cutOf_11 : decode cX1_cutOf 11 = .ok (.iconst 1, 1) := by decide +kernel
theorem dX1_cutOf_12 : decode cX1_cutOf 12 = .ok (.if_icmp .ge 7, 3) := by decide +kernel
theorem dX1_cutOf_15 : decode cX1_cutOf 15 = .ok (.iconst 0, 1) := by decide +kernel
theorem dX1_cutOf_16 : decode cX1_cutOf 16 = .ok (.goto 7, 3) := by decide +kernel
theorem dX1_cutOf_19 : decode cX1_cutOf 19 = .ok (.aload_n 0, 1) := by decide +kernel
theorem dX1_cutOf_20 : decode cX1_cutOf 20 = .ok (.getfield 27, 3) := by decide +kernel
theorem dX1_cutOf_23 : decode cX1_cutOf 23 = .ok (.istore_n 1, 1) := by decide +kernel
theorem dX1_cutOf_24 : decode cX1_cutOf 24 = .ok (.iconst 0, 1) := by decide +kernel
theorem dX1_cutOf_25 : decode cX1_cutOf 25 = .ok (.istore_n 2, 1) := by decide +kernel
theorem dX1_cutOf_26 : decode cX1_cutOf 26 = .ok (.iload_n 1, 1) := by decide +kernel
theorem dX1_cutOf_27 : decode cX1_cutOf 27 = .ok (.istore_n 3, 1) := by decide +kernel
theorem dX1_cutOf_28 : decode cX1_cutOf 28 = .ok (.iload_n 3, 1) := by decide +kernel
theorem dX1_cutOf_29 : decode cX1_cutOf 29 = .ok (.aload_n 0, 1) := by decide +kernel
theorem dX1_cutOf_30 : decode cX1_cutOf 30 = .ok (.getfield 78, 3) := by decide +kernel
theorem dX1_cutOf_33 : decode cX1_cutOf 33 = .ok (.iload_n 1, 1) := by decide +kernel
theorem dX1_cutOf_34 : decode cX1_cutOf 34 = .ok (.isub, 1) := by decide +kernel
theorem dX1_cutOf_35 : decode cX1_cutOf 35 = .ok (.if_icmp .ge 18, 3) := by decide +kernel
theorem dX1_cutOf_38 : decode cX1_cutOf 38 = .ok (.iload_n 2, 1) := by decide +kernel
theorem dX1_cutOf_39 : decode cX1_cutOf 39 = .ok (.aload_n 0, 1) := by decide +kernel
theorem dX1_cutOf_40 : decode cX1_cutOf 40 = .ok (.getfield 51, 3) := by decide +kernel
theorem dX1_cutOf_43 : decode cX1_cutOf 43 = .ok (.iload_n 3, 1) := by decide +kernel
theorem dX1_cutOf_44 : decode cX1_cutOf 44 = .ok (.iaload, 1) := by decide +kernel
theorem dX1_cutOf_45 : decode cX1_cutOf 45 = .ok (.iadd, 1) := by decide +kernel
theorem dX1_cutOf_46 : decode cX1_cutOf 46 = .ok (.istore_n 2, 1) := by decide +kernel
theorem dX1_cutOf_47 : decode cX1_cutOf 47 = .ok (.iinc 3 1, 3) := by decide +kernel
theorem dX1_cutOf_50 : decode cX1_cutOf 50 = .ok (.goto (-22), 3) := by decide +kernel
theorem dX1_cutOf_53 : decode cX1_cutOf 53 = .ok (.ldc 87, 2) := by decide +kernel
theorem dX1_cutOf_55 : decode cX1_cutOf 55 = .ok (.aload_n 0, 1) := by decide +kernel
theorem dX1_cutOf_56 : decode cX1_cutOf 56 = .ok (.getfield 78, 3) := by decide +kernel
theorem dX1_cutOf_59 : decode cX1_cutOf 59 = .ok (.iconst 2, 1) := by decide +kernel
theorem dX1_cutOf_60 : decode cX1_cutOf 60 = .ok (.iload_n 1, 1) := by decide +kernel
theorem dX1_cutOf_61 : decode cX1_cutOf 61 = .ok (.imul, 1) := by decide +kernel
theorem dX1_cutOf_62 : decode cX1_cutOf 62 = .ok (.isub, 1) := by decide +kernel
theorem dX1_cutOf_63 : decode cX1_cutOf 63 = .ok (.idiv, 1) := by decide +kernel
theorem dX1_cutOf_64 : decode cX1_cutOf 64 = .ok (.iload_n 2, 1) := by decide +kernel
theorem dX1_cutOf_65 : decode cX1_cutOf 65 = .ok (.imul, 1) := by decide +kernel
theorem dX1_cutOf_66 : decode cX1_cutOf 66 = .ok (.ireturn, 1) := by decide +kernel
set_option maxRecDepth 20000 in
theorem ggX1_yesOf_X1_counts : GoodIn wsX1_yesOf wsX1_counts := goodIn_r _ [9, 10, 11, 12, 13, 14, 15, 16, 17, 18, 19, 20, 21, 22, 23, 24, 25, 26, 27, 28, 29, 30, 31, 32, 33, 34] (by decide +kernel) (by decide +kernel)
set_option maxRecDepth 20000 in
theorem gX1_yesOf_X1_counts : GoodIn wsX1_yesOf (wsV RX1 84 RX1 yX1_counts wsX1_counts) := goodIn_app (goodIn_of _ (by decide +kernel)) ggX1_yesOf_X1_counts
theorem dX1_yesOf_0 : decode cX1_yesOf 0 = .ok (.iconst 0, 1) := by decide +kernel
theorem dX1_yesOf_1 : decode cX1_yesOf 1 = .ok (.istore_n 3, 1) := by decide +kernel
theorem dX1_yesOf_2 : decode cX1_yesOf 2 = .ok (.iconst 0, 1) := by decide +kernel
theorem dX1_yesOf_3 : decode cX1_yesOf 3 = .ok (.istore 4, 2) := by decide +kernel
theorem dX1_yesOf_5 : decode cX1_yesOf 5 = .ok (.iload 4, 2) := by decide +kernel
theorem dX1_yesOf_7 : decode cX1_yesOf 7 = .ok (.aload_n 0, 1) := by decide +kernel
theorem dX1_yesOf_8 : decode cX1_yesOf 8 = .ok (.getfield 13, 3) := by decide +kernel
theorem dX1_yesOf_11 : decode cX1_yesOf 11 = .ok (.if_icmp .ge 48, 3) := by decide +kernel
theorem dX1_yesOf_14 : decode cX1_yesOf 14 = .ok (.iload_n 3, 1) := by decide +kernel
theorem dX1_yesOf_15 : decode cX1_yesOf 15 = .ok (.aload_n 0, 1) := by decide +kernel
theorem dX1_yesOf_16 : decode cX1_yesOf 16 = .ok (.iload_n 1, 1) := by decide +kernel
theorem dX1_yesOf_17 : decode cX1_yesOf 17 = .ok (.iload 4, 2) := by decide +kernel
theorem dX1_yesOf_19 : decode cX1_yesOf 19 = .ok (.iload_n 2, 1) := by decide +kernel
theorem dX1_yesOf_20 : decode cX1_yesOf 20 = .ok (.invokevirtual 84, 3) := by decide +kernel
theorem dX1_yesOf_23 : decode cX1_yesOf 23 = .ok (.ifCond .eq 27, 3) := by decide +kernel
theorem dX1_yesOf_26 : decode cX1_yesOf 26 = .ok (.aload_n 0, 1) := by decide +kernel
theorem dX1_yesOf_27 : decode cX1_yesOf 27 = .ok (.getfield 20, 3) := by decide +kernel
theorem dX1_yesOf_30 : decode cX1_yesOf 30 = .ok (.bipush 70, 2) := by decide +kernel
theorem dX1_yesOf_32 : decode cX1_yesOf 32 = .ok (.iload_n 1, 1) := by decide +kernel
theorem dX1_yesOf_33 : decode cX1_yesOf 33 = .ok (.imul, 1) := by decide +kernel
theorem dX1_yesOf_34 : decode cX1_yesOf 34 = .ok (.bipush 10, 2) := by decide +kernel
theorem dX1_yesOf_36 : decode cX1_yesOf 36 = .ok (.iload 4, 2) := by decide +kernel
theorem dX1_yesOf_38 : decode cX1_yesOf 38 = .ok (.imul, 1) := by decide +kernel
theorem dX1_yesOf_39 : decode cX1_yesOf 39 = .ok (.iadd, 1) := by decide +kernel
theorem dX1_yesOf_40 : decode cX1_yesOf 40 = .ok (.iload_n 2, 1) := by decide +kernel
theorem dX1_yesOf_41 : decode cX1_yesOf 41 = .ok (.iadd, 1) := by decide +kernel
theorem dX1_yesOf_42 : decode cX1_yesOf 42 = .ok (.baload, 1) := by decide +kernel
theorem dX1_yesOf_43 : decode cX1_yesOf 43 = .ok (.ifCond .eq 7, 3) := by decide +kernel
theorem dX1_yesOf_46 : decode cX1_yesOf 46 = .ok (.iconst 1, 1) := by decide +kernel
theorem dX1_yesOf_47 : decode cX1_yesOf 47 = .ok (.goto 4, 3) := by decide +kernel
theorem dX1_yesOf_50 : decode cX1_yesOf 50 = .ok (.iconst 0, 1) := by decide +kernel
theorem dX1_yesOf_51 : decode cX1_yesOf 51 = .ok (.iadd, 1) := by decide +kernel
theorem dX1_yesOf_52 : decode cX1_yesOf 52 = .ok (.istore_n 3, 1) := by decide +kernel
theorem dX1_yesOf_53 : decode cX1_yesOf 53 = .ok (.iinc 4 1, 3) := by decide +kernel
theorem dX1_yesOf_56 : decode cX1_yesOf 56 = .ok (.goto (-51), 3) := by decide +kernel
theorem dX1_yesOf_59 : decode cX1_yesOf 59 = .ok (.ldc 87, 2) := by decide +kernel
theorem dX1_yesOf_61 : decode cX1_yesOf 61 = .ok (.aload_n 0, 1) := by decide +kernel
theorem dX1_yesOf_62 : decode cX1_yesOf 62 = .ok (.getfield 78, 3) := by decide +kernel
theorem dX1_yesOf_65 : decode cX1_yesOf 65 = .ok (.idiv, 1) := by decide +kernel
theorem dX1_yesOf_66 : decode cX1_yesOf 66 = .ok (.iload_n 3, 1) := by decide +kernel
theorem dX1_yesOf_67 : decode cX1_yesOf 67 = .ok (.imul, 1) := by decide +kernel
theorem dX1_yesOf_68 : decode cX1_yesOf 68 = .ok (.ireturn, 1) := by decide +kernel
set_option maxRecDepth 20000 in
theorem ggX1_beatsOf_X1_counts : GoodIn wsX1_beatsOf wsX1_counts := goodIn_r _ [7, 8, 2, 9, 10, 11, 12, 13, 14, 15, 16, 17, 18, 19, 20, 21, 22, 23, 24, 25, 26, 27, 28, 29, 30, 31] (by decide +kernel) (by decide +kernel)
set_option maxRecDepth 20000 in
theorem gX1_beatsOf_X1_counts : GoodIn wsX1_beatsOf (wsV RX1 84 RX1 yX1_counts wsX1_counts) := goodIn_app (goodIn_of _ (by decide +kernel)) ggX1_beatsOf_X1_counts
theorem dX1_beatsOf_0 : decode cX1_beatsOf 0 = .ok (.iconst 0, 1) := by decide +kernel
theorem dX1_beatsOf_1 : decode cX1_beatsOf 1 = .ok (.istore 4, 2) := by decide +kernel
theorem dX1_beatsOf_3 : decode cX1_beatsOf 3 = .ok (.iconst 0, 1) := by decide +kernel
theorem dX1_beatsOf_4 : decode cX1_beatsOf 4 = .ok (.istore 5, 2) := by decide +kernel
theorem dX1_beatsOf_6 : decode cX1_beatsOf 6 = .ok (.iload 5, 2) := by decide +kernel
theorem dX1_beatsOf_8 : decode cX1_beatsOf 8 = .ok (.aload_n 0, 1) := by decide +kernel
theorem dX1_beatsOf_9 : decode cX1_beatsOf 9 = .ok (.getfield 13, 3) := by decide +kernel
theorem dX1_beatsOf_12 : decode cX1_beatsOf 12 = .ok (.if_icmp .ge 92, 3) := by decide +kernel
theorem dX1_beatsOf_15 : decode cX1_beatsOf 15 = .ok (.aload_n 0, 1) := by decide +kernel
theorem dX1_beatsOf_16 : decode cX1_beatsOf 16 = .ok (.iload_n 1, 1) := by decide +kernel
theorem dX1_beatsOf_17 : decode cX1_beatsOf 17 = .ok (.iload 5, 2) := by decide +kernel
theorem dX1_beatsOf_19 : decode cX1_beatsOf 19 = .ok (.iload_n 2, 1) := by decide +kernel
theorem dX1_beatsOf_20 : decode cX1_beatsOf 20 = .ok (.invokevirtual 84, 3) := by decide +kernel
theorem dX1_beatsOf_23 : decode cX1_beatsOf 23 = .ok (.ifCond .eq 75, 3) := by decide +kernel
theorem dX1_beatsOf_26 : decode cX1_beatsOf 26 = .ok (.aload_n 0, 1) := by decide +kernel
theorem dX1_beatsOf_27 : decode cX1_beatsOf 27 = .ok (.iload_n 1, 1) := by decide +kernel
theorem dX1_beatsOf_28 : decode cX1_beatsOf 28 = .ok (.iload 5, 2) := by decide +kernel
theorem dX1_beatsOf_30 : decode cX1_beatsOf 30 = .ok (.iload_n 3, 1) := by decide +kernel
theorem dX1_beatsOf_31 : decode cX1_beatsOf 31 = .ok (.invokevirtual 84, 3) := by decide +kernel
theorem dX1_beatsOf_34 : decode cX1_beatsOf 34 = .ok (.ifCond .eq 64, 3) := by decide +kernel
theorem dX1_beatsOf_37 : decode cX1_beatsOf 37 = .ok (.aload_n 0, 1) := by decide +kernel
theorem dX1_beatsOf_38 : decode cX1_beatsOf 38 = .ok (.getfield 16, 3) := by decide +kernel
theorem dX1_beatsOf_41 : decode cX1_beatsOf 41 = .ok (.bipush 70, 2) := by decide +kernel
theorem dX1_beatsOf_43 : decode cX1_beatsOf 43 = .ok (.iload_n 1, 1) := by decide +kernel
theorem dX1_beatsOf_44 : decode cX1_beatsOf 44 = .ok (.imul, 1) := by decide +kernel
theorem dX1_beatsOf_45 : decode cX1_beatsOf 45 = .ok (.bipush 10, 2) := by decide +kernel
theorem dX1_beatsOf_47 : decode cX1_beatsOf 47 = .ok (.iload 5, 2) := by decide +kernel
theorem dX1_beatsOf_49 : decode cX1_beatsOf 49 = .ok (.imul, 1) := by decide +kernel
theorem dX1_beatsOf_50 : decode cX1_beatsOf 50 = .ok (.iadd, 1) := by decide +kernel
theorem dX1_beatsOf_51 : decode cX1_beatsOf 51 = .ok (.iload_n 2, 1) := by decide +kernel
theorem dX1_beatsOf_52 : decode cX1_beatsOf 52 = .ok (.iadd, 1) := by decide +kernel
theorem dX1_beatsOf_53 : decode cX1_beatsOf 53 = .ok (.iaload, 1) := by decide +kernel
theorem dX1_beatsOf_54 : decode cX1_beatsOf 54 = .ok (.aload_n 0, 1) := by decide +kernel
theorem dX1_beatsOf_55 : decode cX1_beatsOf 55 = .ok (.getfield 16, 3) := by decide +kernel
theorem dX1_beatsOf_58 : decode cX1_beatsOf 58 = .ok (.bipush 70, 2) := by decide +kernel
theorem dX1_beatsOf_60 : decode cX1_beatsOf 60 = .ok (.iload_n 1, 1) := by decide +kernel
theorem dX1_beatsOf_61 : decode cX1_beatsOf 61 = .ok (.imul, 1) := by decide +kernel
theorem dX1_beatsOf_62 : decode cX1_beatsOf 62 = .ok (.bipush 10, 2) := by decide +kernel
theorem dX1_beatsOf_64 : decode cX1_beatsOf 64 = .ok (.iload 5, 2) := by decide +kernel
theorem dX1_beatsOf_66 : decode cX1_beatsOf 66 = .ok (.imul, 1) := by decide +kernel
theorem dX1_beatsOf_67 : decode cX1_beatsOf 67 = .ok (.iadd, 1) := by decide +kernel
theorem dX1_beatsOf_68 : decode cX1_beatsOf 68 = .ok (.iload_n 3, 1) := by decide +kernel
theorem dX1_beatsOf_69 : decode cX1_beatsOf 69 = .ok (.iadd, 1) := by decide +kernel
theorem dX1_beatsOf_70 : decode cX1_beatsOf 70 = .ok (.iaload, 1) := by decide +kernel
theorem dX1_beatsOf_71 : decode cX1_beatsOf 71 = .ok (.isub, 1) := by decide +kernel
theorem dX1_beatsOf_72 : decode cX1_beatsOf 72 = .ok (.istore 6, 2) := by decide +kernel
theorem dX1_beatsOf_74 : decode cX1_beatsOf 74 = .ok (.iload 4, 2) := by decide +kernel
theorem dX1_beatsOf_76 : decode cX1_beatsOf 76 = .ok (.iload 6, 2) := by decide +kernel
theorem dX1_beatsOf_78 : decode cX1_beatsOf 78 = .ok (.ifCond .le 7, 3) := by decide +kernel
theorem dX1_beatsOf_81 : decode cX1_beatsOf 81 = .ok (.iconst 1, 1) := by decide +kernel
theorem dX1_beatsOf_82 : decode cX1_beatsOf 82 = .ok (.goto 13, 3) := by decide +kernel
theorem dX1_beatsOf_85 : decode cX1_beatsOf 85 = .ok (.iload 6, 2) := by decide +kernel
theorem dX1_beatsOf_87 : decode cX1_beatsOf 87 = .ok (.ifCond .ge 7, 3) := by decide +kernel
theorem dX1_beatsOf_90 : decode cX1_beatsOf 90 = .ok (.iconst (-1), 1) := by decide +kernel
theorem dX1_beatsOf_91 : decode cX1_beatsOf 91 = .ok (.goto 4, 3) := by decide +kernel
theorem dX1_beatsOf_94 : decode cX1_beatsOf 94 = .ok (.iconst 0, 1) := by decide +kernel
theorem dX1_beatsOf_95 : decode cX1_beatsOf 95 = .ok (.iadd, 1) := by decide +kernel
theorem dX1_beatsOf_96 : decode cX1_beatsOf 96 = .ok (.istore 4, 2) := by decide +kernel
theorem dX1_beatsOf_98 : decode cX1_beatsOf 98 = .ok (.iinc 5 1, 3) := by decide +kernel
theorem dX1_beatsOf_101 : decode cX1_beatsOf 101 = .ok (.goto (-95), 3) := by decide +kernel
theorem dX1_beatsOf_104 : decode cX1_beatsOf 104 = .ok (.iload 4, 2) := by decide +kernel
theorem dX1_beatsOf_106 : decode cX1_beatsOf 106 = .ok (.ifCond .le 7, 3) := by decide +kernel
theorem dX1_beatsOf_109 : decode cX1_beatsOf 109 = .ok (.iconst 1, 1) := by decide +kernel
theorem dX1_beatsOf_110 : decode cX1_beatsOf 110 = .ok (.goto 13, 3) := by decide +kernel
theorem dX1_beatsOf_113 : decode cX1_beatsOf 113 = .ok (.iload 4, 2) := by decide +kernel
theorem dX1_beatsOf_115 : decode cX1_beatsOf 115 = .ok (.ifCond .ge 7, 3) := by decide +kernel
theorem dX1_beatsOf_118 : decode cX1_beatsOf 118 = .ok (.iconst (-1), 1) := by decide +kernel
theorem dX1_beatsOf_119 : decode cX1_beatsOf 119 = .ok (.goto 4, 3) := by decide +kernel
theorem dX1_beatsOf_122 : decode cX1_beatsOf 122 = .ok (.iconst 0, 1) := by decide +kernel
theorem dX1_beatsOf_123 : decode cX1_beatsOf 123 = .ok (.ireturn, 1) := by decide +kernel
set_option maxRecDepth 20000 in
theorem ggX1_hasMark_X1_counts : GoodIn wsX1_hasMark wsX1_counts := goodIn_r _ [6, 7, 8, 9, 10, 11, 12, 13, 14, 15, 16, 17, 18, 19, 20, 21, 22, 23, 24, 25, 26, 27, 28, 29, 30, 31] (by decide +kernel) (by decide +kernel)
set_option maxRecDepth 20000 in
theorem gX1_hasMark_X1_counts : GoodIn wsX1_hasMark (wsV RX1 84 RX1 yX1_counts wsX1_counts) := goodIn_app (goodIn_of _ (by decide +kernel)) ggX1_hasMark_X1_counts
theorem dX1_hasMark_0 : decode cX1_hasMark 0 = .ok (.iconst 0, 1) := by decide +kernel
theorem dX1_hasMark_1 : decode cX1_hasMark 1 = .ok (.istore_n 3, 1) := by decide +kernel
theorem dX1_hasMark_2 : decode cX1_hasMark 2 = .ok (.iconst 0, 1) := by decide +kernel
theorem dX1_hasMark_3 : decode cX1_hasMark 3 = .ok (.istore 4, 2) := by decide +kernel
theorem dX1_hasMark_5 : decode cX1_hasMark 5 = .ok (.iload 4, 2) := by decide +kernel
theorem dX1_hasMark_7 : decode cX1_hasMark 7 = .ok (.aload_n 0, 1) := by decide +kernel
theorem dX1_hasMark_8 : decode cX1_hasMark 8 = .ok (.getfield 13, 3) := by decide +kernel
theorem dX1_hasMark_11 : decode cX1_hasMark 11 = .ok (.if_icmp .ge 30, 3) := by decide +kernel
theorem dX1_hasMark_14 : decode cX1_hasMark 14 = .ok (.iload_n 3, 1) := by decide +kernel
theorem dX1_hasMark_15 : decode cX1_hasMark 15 = .ok (.ifCond .ne 14, 3) := by decide +kernel
theorem dX1_hasMark_18 : decode cX1_hasMark 18 = .ok (.aload_n 0, 1) := by decide +kernel
theorem dX1_hasMark_19 : decode cX1_hasMark 19 = .ok (.iload_n 1, 1) := by decide +kernel
theorem dX1_hasMark_20 : decode cX1_hasMark 20 = .ok (.iload 4, 2) := by decide +kernel
theorem dX1_hasMark_22 : decode cX1_hasMark 22 = .ok (.iload_n 2, 1) := by decide +kernel
theorem dX1_hasMark_23 : decode cX1_hasMark 23 = .ok (.invokevirtual 84, 3) := by decide +kernel
theorem dX1_hasMark_26 : decode cX1_hasMark 26 = .ok (.ifCond .eq 7, 3) := by decide +kernel
theorem dX1_hasMark_29 : decode cX1_hasMark 29 = .ok (.iconst 1, 1) := by decide +kernel
theorem dX1_hasMark_30 : decode cX1_hasMark 30 = .ok (.goto 4, 3) := by decide +kernel
theorem dX1_hasMark_33 : decode cX1_hasMark 33 = .ok (.iconst 0, 1) := by decide +kernel
theorem dX1_hasMark_34 : decode cX1_hasMark 34 = .ok (.istore_n 3, 1) := by decide +kernel
theorem dX1_hasMark_35 : decode cX1_hasMark 35 = .ok (.iinc 4 1, 3) := by decide +kernel
theorem dX1_hasMark_38 : decode cX1_hasMark 38 = .ok (.goto (-33), 3) := by decide +kernel
theorem dX1_hasMark_41 : decode cX1_hasMark 41 = .ok (.iload_n 3, 1) := by decide +kernel
theorem dX1_hasMark_42 : decode cX1_hasMark 42 = .ok (.ireturn, 1) := by decide +kernel
set_option maxRecDepth 20000 in
theorem ggX1_pairsOf_X1_hasMark : GoodIn wsX1_pairsOf wsX1_hasMark := goodIn_r _ [6, 7, 8, 9, 10, 5, 11, 12, 13, 18, 19, 20, 21, 22, 23, 24, 25, 26, 27, 28, 29, 30, 31, 32, 33, 34, 35, 36, 37, 38, 39, 40] (by decide +kernel) (by decide +kernel)
set_option maxRecDepth 20000 in
theorem gX1_pairsOf_X1_hasMark : GoodIn wsX1_pairsOf (wsV RX1 88 RX1 yX1_hasMark wsX1_hasMark) := goodIn_app (goodIn_of _ (by decide +kernel)) ggX1_pairsOf_X1_hasMark
set_option maxRecDepth 20000 in
theorem ggX1_pairsOf_X1_beatsOf : GoodIn wsX1_pairsOf wsX1_beatsOf := goodIn_r _ [17, 7, 13, 8, 9, 10, 5, 11, 12, 18, 19, 20, 21, 22, 23, 24, 25, 26, 27, 28, 29, 30, 31, 32, 33, 34, 35, 36, 37, 38, 39, 40] (by decide +kernel) (by decide +kernel)
set_option maxRecDepth 20000 in
theorem gX1_pairsOf_X1_beatsOf : GoodIn wsX1_pairsOf (wsV RX1 92 RX1 yX1_beatsOf wsX1_beatsOf) := goodIn_app (goodIn_of _ (by decide +kernel)) ggX1_pairsOf_X1_beatsOf
theorem dX1_pairsOf_0 : decode cX1_pairsOf 0 = .ok (.iconst 0, 1) := by decide +kernel
theorem dX1_pairsOf_1 : decode cX1_pairsOf 1 = .ok (.istore_n 3, 1) := by decide +kernel
theorem dX1_pairsOf_2 : decode cX1_pairsOf 2 = .ok (.iconst 0, 1) := by decide +kernel
theorem dX1_pairsOf_3 : decode cX1_pairsOf 3 = .ok (.istore 4, 2) := by decide +kernel
theorem dX1_pairsOf_5 : decode cX1_pairsOf 5 = .ok (.iload 4, 2) := by decide +kernel
theorem dX1_pairsOf_7 : decode cX1_pairsOf 7 = .ok (.aload_n 0, 1) := by decide +kernel
theorem dX1_pairsOf_8 : decode cX1_pairsOf 8 = .ok (.getfield 7, 3) := by decide +kernel
theorem dX1_pairsOf_11 : decode cX1_pairsOf 11 = .ok (.if_icmp .ge 42, 3) := by decide +kernel
theorem dX1_pairsOf_14 : decode cX1_pairsOf 14 = .ok (.iload_n 3, 1) := by decide +kernel
theorem dX1_pairsOf_15 : decode cX1_pairsOf 15 = .ok (.iload 4, 2) := by decide +kernel
theorem dX1_pairsOf_17 : decode cX1_pairsOf 17 = .ok (.iload_n 2, 1) := by decide +kernel
theorem dX1_pairsOf_18 : decode cX1_pairsOf 18 = .ok (.if_icmp .eq 26, 3) := by decide +kernel
theorem dX1_pairsOf_21 : decode cX1_pairsOf 21 = .ok (.aload_n 0, 1) := by decide +kernel
theorem dX1_pairsOf_22 : decode cX1_pairsOf 22 = .ok (.iload_n 1, 1) := by decide +kernel
theorem dX1_pairsOf_23 : decode cX1_pairsOf 23 = .ok (.iload 4, 2) := by decide +kernel
theorem dX1_pairsOf_25 : decode cX1_pairsOf 25 = .ok (.invokevirtual 88, 3) := by decide +kernel
theorem dX1_pairsOf_28 : decode cX1_pairsOf 28 = .ok (.ifCond .eq 16, 3) := by decide +kernel
theorem dX1_pairsOf_31 : decode cX1_pairsOf 31 = .ok (.iconst 1, 1) := by decide +kernel
theorem dX1_pairsOf_32 : decode cX1_pairsOf 32 = .ok (.aload_n 0, 1) := by decide +kernel
theorem dX1_pairsOf_33 : decode cX1_pairsOf 33 = .ok (.iload_n 1, 1) := by decide +kernel
theorem dX1_pairsOf_34 : decode cX1_pairsOf 34 = .ok (.iload_n 2, 1) := by decide +kernel
theorem dX1_pairsOf_35 : decode cX1_pairsOf 35 = .ok (.iload 4, 2) := by decide +kernel
theorem dX1_pairsOf_37 : decode cX1_pairsOf 37 = .ok (.invokevirtual 92, 3) := by decide +kernel
theorem dX1_pairsOf_40 : decode cX1_pairsOf 40 = .ok (.iadd, 1) := by decide +kernel
theorem dX1_pairsOf_41 : decode cX1_pairsOf 41 = .ok (.goto 4, 3) := by decide +kernel
theorem dX1_pairsOf_44 : decode cX1_pairsOf 44 = .ok (.iconst 0, 1) := by decide +kernel
theorem dX1_pairsOf_45 : decode cX1_pairsOf 45 = .ok (.iadd, 1) := by decide +kernel
theorem dX1_pairsOf_46 : decode cX1_pairsOf 46 = .ok (.istore_n 3, 1) := by decide +kernel
theorem dX1_pairsOf_47 : decode cX1_pairsOf 47 = .ok (.iinc 4 1, 3) := by decide +kernel
theorem dX1_pairsOf_50 : decode cX1_pairsOf 50 = .ok (.goto (-45), 3) := by decide +kernel
theorem dX1_pairsOf_53 : decode cX1_pairsOf 53 = .ok (.iload_n 3, 1) := by decide +kernel
theorem dX1_pairsOf_54 : decode cX1_pairsOf 54 = .ok (.ireturn, 1) := by decide +kernel
theorem dX1_pulledOf_0 : decode cX1_pulledOf 0 = .ok (.iconst 0, 1) := by decide +kernel
theorem dX1_pulledOf_1 : decode cX1_pulledOf 1 = .ok (.istore_n 1, 1) := by decide +kernel
theorem dX1_pulledOf_2 : decode cX1_pulledOf 2 = .ok (.iconst 0, 1) := by decide +kernel
theorem dX1_pulledOf_3 : decode cX1_pulledOf 3 = .ok (.istore_n 2, 1) := by decide +kernel
theorem dX1_pulledOf_4 : decode cX1_pulledOf 4 = .ok (.iload_n 2, 1) := by decide +kernel
theorem dX1_pulledOf_5 : decode cX1_pulledOf 5 = .ok (.aload_n 0, 1) := by decide +kernel
theorem dX1_pulledOf_6 : decode cX1_pulledOf 6 = .ok (.getfield 78, 3) := by decide +kernel
theorem dX1_pulledOf_9 : decode cX1_pulledOf 9 = .ok (.if_icmp .ge 99, 3) := by decide +kernel
theorem dX1_pulledOf_12 : decode cX1_pulledOf 12 = .ok (.aload_n 0, 1) := by decide +kernel
theorem dX1_pulledOf_13 : decode cX1_pulledOf 13 = .ok (.getfield 51, 3) := by decide +kernel
theorem dX1_pulledOf_16 : decode cX1_pulledOf 16 = .ok (.iload_n 2, 1) := by decide +kernel
theorem dX1_pulledOf_17 : decode cX1_pulledOf 17 = .ok (.iaload, 1) := by decide +kernel
theorem dX1_pulledOf_18 : decode cX1_pulledOf 18 = .ok (.aload_n 0, 1) := by decide +kernel
theorem dX1_pulledOf_19 : decode cX1_pulledOf 19 = .ok (.getfield 78, 3) := by decide +kernel
theorem dX1_pulledOf_22 : decode cX1_pulledOf 22 = .ok (.imul, 1) := by decide +kernel
theorem dX1_pulledOf_23 : decode cX1_pulledOf 23 = .ok (.istore_n 3, 1) := by decide +kernel
theorem dX1_pulledOf_24 : decode cX1_pulledOf 24 = .ok (.iload_n 3, 1) := by decide +kernel
theorem dX1_pulledOf_25 : decode cX1_pulledOf 25 = .ok (.aload_n 0, 1) := by decide +kernel
theorem dX1_pulledOf_26 : decode cX1_pulledOf 26 = .ok (.getfield 81, 3) := by decide +kernel
theorem dX1_pulledOf_29 : decode cX1_pulledOf 29 = .ok (.aload_n 0, 1) := by decide +kernel
theorem dX1_pulledOf_30 : decode cX1_pulledOf 30 = .ok (.getfield 30, 3) := by decide +kernel
theorem dX1_pulledOf_33 : decode cX1_pulledOf 33 = .ok (.aload_n 0, 1) := by decide +kernel
theorem dX1_pulledOf_34 : decode cX1_pulledOf 34 = .ok (.getfield 78, 3) := by decide +kernel
theorem dX1_pulledOf_37 : decode cX1_pulledOf 37 = .ok (.imul, 1) := by decide +kernel
theorem dX1_pulledOf_38 : decode cX1_pulledOf 38 = .ok (.isub, 1) := by decide +kernel
theorem dX1_pulledOf_39 : decode cX1_pulledOf 39 = .ok (.if_icmp .ge 20, 3) := by decide +kernel
theorem dX1_pulledOf_42 : decode cX1_pulledOf 42 = .ok (.aload_n 0, 1) := by decide +kernel
theorem dX1_pulledOf_43 : decode cX1_pulledOf 43 = .ok (.getfield 81, 3) := by decide +kernel
theorem dX1_pulledOf_46 : decode cX1_pulledOf 46 = .ok (.aload_n 0, 1) := by decide +kernel
theorem dX1_pulledOf_47 : decode cX1_pulledOf 47 = .ok (.getfield 30, 3) := by decide +kernel
theorem dX1_pulledOf_50 : decode cX1_pulledOf 50 = .ok (.aload_n 0, 1) := by decide +kernel
theorem dX1_pulledOf_51 : decode cX1_pulledOf 51 = .ok (.getfield 78, 3) := by decide +kernel
theorem dX1_pulledOf_54 : decode cX1_pulledOf 54 = .ok (.imul, 1) := by decide +kernel
theorem dX1_pulledOf_55 : decode cX1_pulledOf 55 = .ok (.isub, 1) := by decide +kernel
theorem dX1_pulledOf_56 : decode cX1_pulledOf 56 = .ok (.goto 4, 3) := by decide +kernel
theorem dX1_pulledOf_59 : decode cX1_pulledOf 59 = .ok (.iload_n 3, 1) := by decide +kernel
theorem dX1_pulledOf_60 : decode cX1_pulledOf 60 = .ok (.istore_n 3, 1) := by decide +kernel
theorem dX1_pulledOf_61 : decode cX1_pulledOf 61 = .ok (.iload_n 3, 1) := by decide +kernel
theorem dX1_pulledOf_62 : decode cX1_pulledOf 62 = .ok (.aload_n 0, 1) := by decide +kernel
theorem dX1_pulledOf_63 : decode cX1_pulledOf 63 = .ok (.getfield 81, 3) := by decide +kernel
theorem dX1_pulledOf_66 : decode cX1_pulledOf 66 = .ok (.aload_n 0, 1) := by decide +kernel
theorem dX1_pulledOf_67 : decode cX1_pulledOf 67 = .ok (.getfield 30, 3) := by decide +kernel
theorem dX1_pulledOf_70 : decode cX1_pulledOf 70 = .ok (.aload_n 0, 1) := by decide +kernel
theorem dX1_pulledOf_71 : decode cX1_pulledOf 71 = .ok (.getfield 78, 3) := by decide +kernel
theorem dX1_pulledOf_74 : decode cX1_pulledOf 74 = .ok (.imul, 1) := by decide +kernel
theorem dX1_pulledOf_75 : decode cX1_pulledOf 75 = .ok (.iadd, 1) := by decide +kernel
theorem dX1_pulledOf_76 : decode cX1_pulledOf 76 = .ok (.if_icmp .le 20, 3) := by decide +kernel
theorem dX1_pulledOf_79 : decode cX1_pulledOf 79 = .ok (.aload_n 0, 1) := by decide +kernel
theorem dX1_pulledOf_80 : decode cX1_pulledOf 80 = .ok (.getfield 81, 3) := by decide +kernel
theorem dX1_pulledOf_83 : decode cX1_pulledOf 83 = .ok (.aload_n 0, 1) := by decide +kernel
theorem dX1_pulledOf_84 : decode cX1_pulledOf 84 = .ok (.getfield 30, 3) := by decide +kernel
theorem dX1_pulledOf_87 : decode cX1_pulledOf 87 = .ok (.aload_n 0, 1) := by decide +kernel
theorem dX1_pulledOf_88 : decode cX1_pulledOf 88 = .ok (.getfield 78, 3) := by decide +kernel
theorem dX1_pulledOf_91 : decode cX1_pulledOf 91 = .ok (.imul, 1) := by decide +kernel
theorem dX1_pulledOf_92 : decode cX1_pulledOf 92 = .ok (.iadd, 1) := by decide +kernel
theorem dX1_pulledOf_93 : decode cX1_pulledOf 93 = .ok (.goto 4, 3) := by decide +kernel
theorem dX1_pulledOf_96 : decode cX1_pulledOf 96 = .ok (.iload_n 3, 1) := by decide +kernel
theorem dX1_pulledOf_97 : decode cX1_pulledOf 97 = .ok (.istore_n 3, 1) := by decide +kernel
theorem dX1_pulledOf_98 : decode cX1_pulledOf 98 = .ok (.iload_n 1, 1) := by decide +kernel
theorem dX1_pulledOf_99 : decode cX1_pulledOf 99 = .ok (.iload_n 3, 1) := by decide +kernel
theorem dX1_pulledOf_100 : decode cX1_pulledOf 100 = .ok (.iadd, 1) := by decide +kernel
theorem dX1_pulledOf_101 : decode cX1_pulledOf 101 = .ok (.istore_n 1, 1) := by decide +kernel
theorem dX1_pulledOf_102 : decode cX1_pulledOf 102 = .ok (.iinc 2 1, 3) := by decide +kernel
theorem dX1_pulledOf_105 : decode cX1_pulledOf 105 = .ok (.goto (-101), 3) := by decide +kernel
theorem dX1_pulledOf_108 : decode cX1_pulledOf 108 = .ok (.ldc 87, 2) := by decide +kernel
theorem dX1_pulledOf_110 : decode cX1_pulledOf 110 = .ok (.aload_n 0, 1) := by decide +kernel
theorem dX1_pulledOf_111 : decode cX1_pulledOf 111 = .ok (.getfield 78, 3) := by decide +kernel
theorem dX1_pulledOf_114 : decode cX1_pulledOf 114 = .ok (.aload_n 0, 1) := by decide +kernel
theorem dX1_pulledOf_115 : decode cX1_pulledOf 115 = .ok (.getfield 78, 3) := by decide +kernel
theorem dX1_pulledOf_118 : decode cX1_pulledOf 118 = .ok (.imul, 1) := by decide +kernel
theorem dX1_pulledOf_119 : decode cX1_pulledOf 119 = .ok (.idiv, 1) := by decide +kernel
theorem dX1_pulledOf_120 : decode cX1_pulledOf 120 = .ok (.iload_n 1, 1) := by decide +kernel
theorem dX1_pulledOf_121 : decode cX1_pulledOf 121 = .ok (.imul, 1) := by decide +kernel
theorem dX1_pulledOf_122 : decode cX1_pulledOf 122 = .ok (.ireturn, 1) := by decide +kernel
set_option maxRecDepth 20000 in
theorem ggX1_scoreOf_X1_gather : GoodIn wsX1_scoreOf wsX1_gather := goodIn_r _ [10, 1, 3, 11, 12, 5, 13, 14, 15, 9, 16, 17, 46, 47, 48, 49, 50, 51, 52, 53, 54, 55, 56, 57, 58, 59, 60, 61, 62, 63, 64, 65, 66, 67, 68] (by decide +kernel) (by decide +kernel)
set_option maxRecDepth 20000 in
theorem gX1_scoreOf_X1_gather : GoodIn wsX1_scoreOf (wsV RX1 96 RX1 yX1_gather wsX1_gather) := goodIn_app (goodIn_of _ (by decide +kernel)) ggX1_scoreOf_X1_gather
set_option maxRecDepth 20000 in
theorem ggX1_scoreOf_X1_cutOf : GoodIn wsX1_scoreOf wsX1_cutOf := goodIn_r _ [21, 1, 22, 5, 2, 46, 47, 48, 49, 50, 51, 52, 53, 54, 55, 56, 57, 58, 59, 60, 61, 62, 63, 64, 65, 66, 67, 68] (by decide +kernel) (by decide +kernel)
set_option maxRecDepth 20000 in
theorem gX1_scoreOf_X1_cutOf : GoodIn wsX1_scoreOf (wsV RX1 100 RX1 yX1_cutOf wsX1_cutOf) := goodIn_app (goodIn_of _ (by decide +kernel)) ggX1_scoreOf_X1_cutOf
set_option maxRecDepth 20000 in
theorem ggX1_scoreOf_X1_yesOf : GoodIn wsX1_scoreOf wsX1_yesOf := goodIn_r _ [26, 11, 27, 2, 1, 13, 14, 15, 9, 16, 17, 12, 46, 47, 48, 49, 50, 51, 52, 53, 54, 55, 56, 57, 58, 59, 60, 61, 62, 63, 64, 65, 66, 67, 68] (by decide +kernel) (by decide +kernel)
set_option maxRecDepth 20000 in
theorem gX1_scoreOf_X1_yesOf : GoodIn wsX1_scoreOf (wsV RX1 105 RX1 yX1_yesOf wsX1_yesOf) := goodIn_app (goodIn_of _ (by decide +kernel)) ggX1_scoreOf_X1_yesOf
set_option maxRecDepth 20000 in
theorem ggX1_scoreOf_X1_pairsOf : GoodIn wsX1_scoreOf wsX1_pairsOf := goodIn_r _ [31, 32, 33, 34, 35, 9, 36, 11, 13, 14, 15, 16, 17, 12, 37, 38, 39, 40, 46, 47, 48, 49, 50, 51, 52, 53, 54, 55, 56, 57, 58, 59, 60, 61, 62, 63, 64, 65, 66, 67, 68] (by decide +kernel) (by decide +kernel)
set_option maxRecDepth 20000 in
theorem gX1_scoreOf_X1_pairsOf : GoodIn wsX1_scoreOf (wsV RX1 109 RX1 yX1_pairsOf wsX1_pairsOf) := goodIn_app (goodIn_of _ (by decide +kernel)) ggX1_scoreOf_X1_pairsOf
set_option maxRecDepth 20000 in
theorem ggX1_scoreOf_X1_pulledOf : GoodIn wsX1_scoreOf wsX1_pulledOf := goodIn_r _ [44, 1, 5, 3, 45, 2, 46, 47, 48, 49, 50, 51, 52, 53, 54, 55, 56, 57, 58, 59, 60, 61, 62, 63, 64, 65, 66, 67, 68] (by decide +kernel) (by decide +kernel)
set_option maxRecDepth 20000 in
theorem gX1_scoreOf_X1_pulledOf : GoodIn wsX1_scoreOf (wsV RX1 112 RX1 yX1_pulledOf wsX1_pulledOf) := goodIn_app (goodIn_of _ (by decide +kernel)) ggX1_scoreOf_X1_pulledOf
theorem dX1_scoreOf_0 : decode cX1_scoreOf 0 = .ok (.aload_n 0, 1) := by decide +kernel
theorem dX1_scoreOf_1 : decode cX1_scoreOf 1 = .ok (.iload_n 1, 1) := by decide +kernel
theorem dX1_scoreOf_2 : decode cX1_scoreOf 2 = .ok (.iload_n 3, 1) := by decide +kernel
theorem dX1_scoreOf_3 : decode cX1_scoreOf 3 = .ok (.invokevirtual 96, 3) := by decide +kernel
theorem dX1_scoreOf_6 : decode cX1_scoreOf 6 = .ok (.aload_n 0, 1) := by decide +kernel
theorem dX1_scoreOf_7 : decode cX1_scoreOf 7 = .ok (.getfield 78, 3) := by decide +kernel
theorem dX1_scoreOf_10 : decode cX1_scoreOf 10 = .ok (.ifCond .ne 5, 3) := by decide +kernel
theorem dX1_scoreOf_13 : decode cX1_scoreOf 13 = .ok (.iconst (-1), 1) := by decide +kernel
theorem dX1_scoreOf_14 : decode cX1_scoreOf 14 = .ok (.ireturn, 1) := by decide +kernel
theorem dX1_scoreOf_15 : decode cX1_scoreOf 15 = .ok (.iload_n 2, 1) := by decide +kernel
theorem dX1_scoreOf_16 : decode cX1_scoreOf 16 = .ok (.tableswitch 97 0 4 #[36, 49, 54, 83, 90], 36) := by decide +kernel
theorem dX1_scoreOf_52 : decode cX1_scoreOf 52 = .ok (.ldc 87, 2) := by decide +kernel
theorem dX1_scoreOf_54 : decode cX1_scoreOf 54 = .ok (.aload_n 0, 1) := by decide +kernel
theorem dX1_scoreOf_55 : decode cX1_scoreOf 55 = .ok (.getfield 78, 3) := by decide +kernel
theorem dX1_scoreOf_58 : decode cX1_scoreOf 58 = .ok (.idiv, 1) := by decide +kernel
theorem dX1_scoreOf_59 : decode cX1_scoreOf 59 = .ok (.aload_n 0, 1) := by decide +kernel
theorem dX1_scoreOf_60 : decode cX1_scoreOf 60 = .ok (.getfield 81, 3) := by decide +kernel
theorem dX1_scoreOf_63 : decode cX1_scoreOf 63 = .ok (.imul, 1) := by decide +kernel
theorem dX1_scoreOf_64 : decode cX1_scoreOf 64 = .ok (.ireturn, 1) := by decide +kernel
theorem dX1_scoreOf_65 : decode cX1_scoreOf 65 = .ok (.aload_n 0, 1) := by decide +kernel
theorem dX1_scoreOf_66 : decode cX1_scoreOf 66 = .ok (.invokevirtual 100, 3) := by decide +kernel
theorem dX1_scoreOf_69 : decode cX1_scoreOf 69 = .ok (.ireturn, 1) := by decide +kernel
theorem dX1_scoreOf_70 : decode cX1_scoreOf 70 = .ok (.ldc 104, 2) := by decide +kernel
theorem dX1_scoreOf_72 : decode cX1_scoreOf 72 = .ok (.aload_n 0, 1) := by decide +kernel
theorem dX1_scoreOf_73 : decode cX1_scoreOf 73 = .ok (.getfield 51, 3) := by decide +kernel
theorem dX1_scoreOf_76 : decode cX1_scoreOf 76 = .ok (.aload_n 0, 1) := by decide +kernel
theorem dX1_scoreOf_77 : decode cX1_scoreOf 77 = .ok (.getfield 78, 3) := by decide +kernel
theorem dX1_scoreOf_80 : decode cX1_scoreOf 80 = .ok (.iconst 1, 1) := by decide +kernel
theorem dX1_scoreOf_81 : decode cX1_scoreOf 81 = .ok (.isub, 1) := by decide +kernel
theorem dX1_scoreOf_82 : decode cX1_scoreOf 82 = .ok (.iconst 2, 1) := by decide +kernel
theorem dX1_scoreOf_83 : decode cX1_scoreOf 83 = .ok (.idiv, 1) := by decide +kernel
theorem dX1_scoreOf_84 : decode cX1_scoreOf 84 = .ok (.iaload, 1) := by decide +kernel
theorem dX1_scoreOf_85 : decode cX1_scoreOf 85 = .ok (.aload_n 0, 1) := by decide +kernel
theorem dX1_scoreOf_86 : decode cX1_scoreOf 86 = .ok (.getfield 51, 3) := by decide +kernel
theorem dX1_scoreOf_89 : decode cX1_scoreOf 89 = .ok (.aload_n 0, 1) := by decide +kernel
theorem dX1_scoreOf_90 : decode cX1_scoreOf 90 = .ok (.getfield 78, 3) := by decide +kernel
theorem dX1_scoreOf_93 : decode cX1_scoreOf 93 = .ok (.iconst 2, 1) := by decide +kernel
theorem dX1_scoreOf_94 : decode cX1_scoreOf 94 = .ok (.idiv, 1) := by decide +kernel
theorem dX1_scoreOf_95 : decode cX1_scoreOf 95 = .ok (.iaload, 1) := by decide +kernel
theorem dX1_scoreOf_96 : decode cX1_scoreOf 96 = .ok (.iadd, 1) := by decide +kernel
theorem dX1_scoreOf_97 : decode cX1_scoreOf 97 = .ok (.imul, 1) := by decide +kernel
theorem dX1_scoreOf_98 : decode cX1_scoreOf 98 = .ok (.ireturn, 1) := by decide +kernel
theorem dX1_scoreOf_99 : decode cX1_scoreOf 99 = .ok (.aload_n 0, 1) := by decide +kernel
theorem dX1_scoreOf_100 : decode cX1_scoreOf 100 = .ok (.iload_n 1, 1) := by decide +kernel
theorem dX1_scoreOf_101 : decode cX1_scoreOf 101 = .ok (.iload_n 3, 1) := by decide +kernel
theorem dX1_scoreOf_102 : decode cX1_scoreOf 102 = .ok (.invokevirtual 105, 3) := by decide +kernel
theorem dX1_scoreOf_105 : decode cX1_scoreOf 105 = .ok (.ireturn, 1) := by decide +kernel
theorem dX1_scoreOf_106 : decode cX1_scoreOf 106 = .ok (.aload_n 0, 1) := by decide +kernel
theorem dX1_scoreOf_107 : decode cX1_scoreOf 107 = .ok (.iload_n 1, 1) := by decide +kernel
theorem dX1_scoreOf_108 : decode cX1_scoreOf 108 = .ok (.iload_n 3, 1) := by decide +kernel
theorem dX1_scoreOf_109 : decode cX1_scoreOf 109 = .ok (.invokevirtual 109, 3) := by decide +kernel
theorem dX1_scoreOf_112 : decode cX1_scoreOf 112 = .ok (.ireturn, 1) := by decide +kernel
theorem dX1_scoreOf_113 : decode cX1_scoreOf 113 = .ok (.aload_n 0, 1) := by decide +kernel
theorem dX1_scoreOf_114 : decode cX1_scoreOf 114 = .ok (.invokevirtual 112, 3) := by decide +kernel
theorem dX1_scoreOf_117 : decode cX1_scoreOf 117 = .ok (.ireturn, 1) := by decide +kernel
set_option maxRecDepth 20000 in
theorem ggX1_score_X1_isRound : GoodIn wsX1_score wsX1_isRound := goodIn_r _ [4, 5, 6, 3, 7] (by decide +kernel) (by decide +kernel)
set_option maxRecDepth 20000 in
theorem gX1_score_X1_isRound : GoodIn wsX1_score (va_wsS RX1 68 yX1_isRound wsX1_isRound) := goodIn_app (goodIn_of _ (by decide +kernel)) ggX1_score_X1_isRound
set_option maxRecDepth 20000 in
theorem ggX1_score_X1_isPlayer : GoodIn wsX1_score wsX1_isPlayer := goodIn_r _ [11, 12, 5, 6, 3, 7, 60, 61, 62, 63, 64, 65, 66, 67, 68, 69, 70, 71, 72, 73, 74, 75, 76, 77, 78, 79, 80, 81, 82] (by decide +kernel) (by decide +kernel)
set_option maxRecDepth 20000 in
theorem gX1_score_X1_isPlayer : GoodIn wsX1_score (wsV RX1 75 RX1 yX1_isPlayer wsX1_isPlayer) := goodIn_app (goodIn_of _ (by decide +kernel)) ggX1_score_X1_isPlayer
set_option maxRecDepth 20000 in
theorem ggX1_score_X1_in : GoodIn wsX1_score wsX1_in := goodIn_r _ [7] (by decide +kernel) (by decide +kernel)
set_option maxRecDepth 20000 in
theorem gX1_score_X1_in : GoodIn wsX1_score (va_wsS RX1 64 yX1_in wsX1_in) := goodIn_app (goodIn_of _ (by decide +kernel)) ggX1_score_X1_in
set_option maxRecDepth 20000 in
theorem ggX1_score_X1_scoreOf : GoodIn wsX1_score wsX1_scoreOf := goodIn_r _ [16, 17, 18, 19, 20, 21, 22, 23, 24, 3, 25, 26, 27, 28, 29, 30, 31, 32, 33, 34, 35, 36, 37, 38, 39, 40, 41, 42, 43, 44, 45, 46, 12, 47, 48, 49, 50, 51, 52, 53, 54, 55, 56, 57, 58, 59, 60, 61, 62, 63, 64, 65, 66, 67, 68, 69, 70, 71, 72, 73, 74, 75, 76, 77, 78, 79, 80, 81, 82] (by decide +kernel) (by decide +kernel)
set_option maxRecDepth 20000 in
theorem gX1_score_X1_scoreOf : GoodIn wsX1_score (wsV RX1 115 RX1 yX1_scoreOf wsX1_scoreOf) := goodIn_app (goodIn_of _ (by decide +kernel)) ggX1_score_X1_scoreOf
theorem dX1_score_0 : decode cX1_score 0 = .ok (.iload_n 1, 1) := by decide +kernel
theorem dX1_score_1 : decode cX1_score 1 = .ok (.invokestatic 68, 3) := by decide +kernel
theorem dX1_score_4 : decode cX1_score 4 = .ok (.ifCond .eq 11, 3) := by decide +kernel
theorem dX1_score_7 : decode cX1_score 7 = .ok (.aload_n 0, 1) := by decide +kernel
theorem dX1_score_8 : decode cX1_score 8 = .ok (.iload_n 3, 1) := by decide +kernel
theorem dX1_score_9 : decode cX1_score 9 = .ok (.invokevirtual 75, 3) := by decide +kernel
theorem dX1_score_12 : decode cX1_score 12 = .ok (.ifCond .ne 6, 3) := by decide +kernel
theorem dX1_score_15 : decode cX1_score 15 = .ok (.bipush (-101), 2) := by decide +kernel
theorem dX1_score_17 : decode cX1_score 17 = .ok (.ireturn, 1) := by decide +kernel
theorem dX1_score_18 : decode cX1_score 18 = .ok (.iload_n 2, 1) := by decide +kernel
theorem dX1_score_19 : decode cX1_score 19 = .ok (.iconst 0, 1) := by decide +kernel
theorem dX1_score_20 : decode cX1_score 20 = .ok (.iconst 5, 1) := by decide +kernel
theorem dX1_score_21 : decode cX1_score 21 = .ok (.invokestatic 64, 3) := by decide +kernel
theorem dX1_score_24 : decode cX1_score 24 = .ok (.ifCond .eq 13, 3) := by decide +kernel
theorem dX1_score_27 : decode cX1_score 27 = .ok (.aload_n 0, 1) := by decide +kernel
theorem dX1_score_28 : decode cX1_score 28 = .ok (.iload_n 1, 1) := by decide +kernel
theorem dX1_score_29 : decode cX1_score 29 = .ok (.iload_n 2, 1) := by decide +kernel
theorem dX1_score_30 : decode cX1_score 30 = .ok (.iload_n 3, 1) := by decide +kernel
theorem dX1_score_31 : decode cX1_score 31 = .ok (.invokevirtual 115, 3) := by decide +kernel
theorem dX1_score_34 : decode cX1_score 34 = .ok (.goto 5, 3) := by decide +kernel
theorem dX1_score_37 : decode cX1_score 37 = .ok (.bipush (-102), 2) := by decide +kernel
theorem dX1_score_39 : decode cX1_score 39 = .ok (.ireturn, 1) := by decide +kernel
set_option maxRecDepth 20000 in
theorem ggX1_beats_X1_isRound : GoodIn wsX1_beats wsX1_isRound := goodIn_r _ [4, 5, 6, 3, 7] (by decide +kernel) (by decide +kernel)
set_option maxRecDepth 20000 in
theorem gX1_beats_X1_isRound : GoodIn wsX1_beats (va_wsS RX1 68 yX1_isRound wsX1_isRound) := goodIn_app (goodIn_of _ (by decide +kernel)) ggX1_beats_X1_isRound
set_option maxRecDepth 20000 in
theorem ggX1_beats_X1_isPlayer : GoodIn wsX1_beats wsX1_isPlayer := goodIn_r _ [11, 12, 5, 6, 3, 7, 24, 25, 26, 27, 28, 29, 30, 31, 32, 33, 34, 35, 36, 37, 38, 39, 40, 41, 42, 43, 44, 45, 46] (by decide +kernel) (by decide +kernel)
set_option maxRecDepth 20000 in
theorem gX1_beats_X1_isPlayer : GoodIn wsX1_beats (wsV RX1 75 RX1 yX1_isPlayer wsX1_isPlayer) := goodIn_app (goodIn_of _ (by decide +kernel)) ggX1_beats_X1_isPlayer
set_option maxRecDepth 20000 in
theorem ggX1_beats_X1_beatsOf : GoodIn wsX1_beats wsX1_beatsOf := goodIn_r _ [16, 17, 18, 19, 20, 21, 3, 22, 23, 24, 25, 26, 27, 28, 29, 30, 31, 32, 33, 34, 35, 36, 37, 38, 39, 40, 41, 42, 43, 44, 45, 46] (by decide +kernel) (by decide +kernel)
set_option maxRecDepth 20000 in
theorem gX1_beats_X1_beatsOf : GoodIn wsX1_beats (wsV RX1 92 RX1 yX1_beatsOf wsX1_beatsOf) := goodIn_app (goodIn_of _ (by decide +kernel)) ggX1_beats_X1_beatsOf
theorem dX1_beats_0 : decode cX1_beats 0 = .ok (.iload_n 1, 1) := by decide +kernel
theorem dX1_beats_1 : decode cX1_beats 1 = .ok (.invokestatic 68, 3) := by decide +kernel
theorem dX1_beats_4 : decode cX1_beats 4 = .ok (.ifCond .eq 19, 3) := by decide +kernel
theorem dX1_beats_7 : decode cX1_beats 7 = .ok (.aload_n 0, 1) := by decide +kernel
theorem dX1_beats_8 : decode cX1_beats 8 = .ok (.iload_n 2, 1) := by decide +kernel
theorem dX1_beats_9 : decode cX1_beats 9 = .ok (.invokevirtual 75, 3) := by decide +kernel
theorem dX1_beats_12 : decode cX1_beats 12 = .ok (.ifCond .eq 11, 3) := by decide +kernel
theorem dX1_beats_15 : decode cX1_beats 15 = .ok (.aload_n 0, 1) := by decide +kernel
theorem dX1_beats_16 : decode cX1_beats 16 = .ok (.iload_n 3, 1) := by decide +kernel
theorem dX1_beats_17 : decode cX1_beats 17 = .ok (.invokevirtual 75, 3) := by decide +kernel
theorem dX1_beats_20 : decode cX1_beats 20 = .ok (.ifCond .ne 6, 3) := by decide +kernel
theorem dX1_beats_23 : decode cX1_beats 23 = .ok (.bipush (-101), 2) := by decide +kernel
theorem dX1_beats_25 : decode cX1_beats 25 = .ok (.ireturn, 1) := by decide +kernel
theorem dX1_beats_26 : decode cX1_beats 26 = .ok (.aload_n 0, 1) := by decide +kernel
theorem dX1_beats_27 : decode cX1_beats 27 = .ok (.iload_n 1, 1) := by decide +kernel
theorem dX1_beats_28 : decode cX1_beats 28 = .ok (.iload_n 2, 1) := by decide +kernel
theorem dX1_beats_29 : decode cX1_beats 29 = .ok (.iload_n 3, 1) := by decide +kernel
theorem dX1_beats_30 : decode cX1_beats 30 = .ok (.invokevirtual 92, 3) := by decide +kernel
theorem dX1_beats_33 : decode cX1_beats 33 = .ok (.ireturn, 1) := by decide +kernel
set_option maxRecDepth 20000 in
theorem ggX1_placeOf_X1_scoreOf : GoodIn wsX1_placeOf wsX1_scoreOf := goodIn_r _ [6, 7, 8, 9, 10, 11, 12, 13, 14, 5, 15, 16, 17, 18, 19, 20, 21, 22, 23, 24, 25, 26, 27, 28, 29, 30, 31, 32, 33, 34, 35, 36, 1, 37, 38, 39, 40, 41, 42, 43, 44, 45, 46, 47, 48, 49, 50, 51, 52, 53, 54, 55, 56, 57, 58, 59, 60, 61, 62, 63, 64, 65, 66, 67, 68, 69, 70, 71, 72] (by decide +kernel) (by decide +kernel)
set_option maxRecDepth 20000 in
theorem gX1_placeOf_X1_scoreOf : GoodIn wsX1_placeOf (wsV RX1 115 RX1 yX1_scoreOf wsX1_scoreOf) := goodIn_app (goodIn_of _ (by decide +kernel)) ggX1_placeOf_X1_scoreOf
theorem dX1_placeOf_0 : decode cX1_placeOf 0 = .ok (.aload_n 0, 1) := by decide +kernel
theorem dX1_placeOf_1 : decode cX1_placeOf 1 = .ok (.iload_n 1, 1) := by decide +kernel
theorem dX1_placeOf_2 : decode cX1_placeOf 2 = .ok (.iload_n 2, 1) := by decide +kernel
theorem dX1_placeOf_3 : decode cX1_placeOf 3 = .ok (.iload_n 3, 1) := by decide +kernel
theorem dX1_placeOf_4 : decode cX1_placeOf 4 = .ok (.invokevirtual 115, 3) := by decide +kernel
theorem dX1_placeOf_7 : decode cX1_placeOf 7 = .ok (.istore 4, 2) := by decide +kernel
theorem dX1_placeOf_9 : decode cX1_placeOf 9 = .ok (.iconst 1, 1) := by decide +kernel
theorem dX1_placeOf_10 : decode cX1_placeOf 10 = .ok (.istore 5, 2) := by decide +kernel
theorem dX1_placeOf_12 : decode cX1_placeOf 12 = .ok (.iconst 0, 1) := by decide +kernel
theorem dX1_placeOf_13 : decode cX1_placeOf 13 = .ok (.istore 6, 2) := by decide +kernel
theorem dX1_placeOf_15 : decode cX1_placeOf 15 = .ok (.iload 6, 2) := by decide +kernel
theorem dX1_placeOf_17 : decode cX1_placeOf 17 = .ok (.aload_n 0, 1) := by decide +kernel
theorem dX1_placeOf_18 : decode cX1_placeOf 18 = .ok (.getfield 7, 3) := by decide +kernel
theorem dX1_placeOf_21 : decode cX1_placeOf 21 = .ok (.if_icmp .ge 38, 3) := by decide +kernel
theorem dX1_placeOf_24 : decode cX1_placeOf 24 = .ok (.iload 5, 2) := by decide +kernel
theorem dX1_placeOf_26 : decode cX1_placeOf 26 = .ok (.iload 6, 2) := by decide +kernel
theorem dX1_placeOf_28 : decode cX1_placeOf 28 = .ok (.iload_n 3, 1) := by decide +kernel
theorem dX1_placeOf_29 : decode cX1_placeOf 29 = .ok (.if_icmp .eq 20, 3) := by decide +kernel
theorem dX1_placeOf_32 : decode cX1_placeOf 32 = .ok (.aload_n 0, 1) := by decide +kernel
theorem dX1_placeOf_33 : decode cX1_placeOf 33 = .ok (.iload_n 1, 1) := by decide +kernel
theorem dX1_placeOf_34 : decode cX1_placeOf 34 = .ok (.iload_n 2, 1) := by decide +kernel
theorem dX1_placeOf_35 : decode cX1_placeOf 35 = .ok (.iload 6, 2) := by decide +kernel
theorem dX1_placeOf_37 : decode cX1_placeOf 37 = .ok (.invokevirtual 115, 3) := by decide +kernel
theorem dX1_placeOf_40 : decode cX1_placeOf 40 = .ok (.iload 4, 2) := by decide +kernel
theorem dX1_placeOf_42 : decode cX1_placeOf 42 = .ok (.if_icmp .le 7, 3) := by decide +kernel
theorem dX1_placeOf_45 : decode cX1_placeOf 45 = .ok (.iconst 1, 1) := by decide +kernel
theorem dX1_placeOf_46 : decode cX1_placeOf 46 = .ok (.goto 4, 3) := by decide +kernel
theorem dX1_placeOf_49 : decode cX1_placeOf 49 = .ok (.iconst 0, 1) := by decide +kernel
theorem dX1_placeOf_50 : decode cX1_placeOf 50 = .ok (.iadd, 1) := by decide +kernel
theorem dX1_placeOf_51 : decode cX1_placeOf 51 = .ok (.istore 5, 2) := by decide +kernel
theorem dX1_placeOf_53 : decode cX1_placeOf 53 = .ok (.iinc 6 1, 3) := by decide +kernel
theorem dX1_placeOf_56 : decode cX1_placeOf 56 = .ok (.goto (-41), 3) := by decide +kernel
theorem dX1_placeOf_59 : decode cX1_placeOf 59 = .ok (.iload 5, 2) := by decide +kernel
theorem dX1_placeOf_61 : decode cX1_placeOf 61 = .ok (.ireturn, 1) := by decide +kernel
set_option maxRecDepth 20000 in
theorem ggX1_place_X1_isRound : GoodIn wsX1_place wsX1_isRound := goodIn_r _ [4, 5, 6, 3, 7] (by decide +kernel) (by decide +kernel)
set_option maxRecDepth 20000 in
theorem gX1_place_X1_isRound : GoodIn wsX1_place (va_wsS RX1 68 yX1_isRound wsX1_isRound) := goodIn_app (goodIn_of _ (by decide +kernel)) ggX1_place_X1_isRound
set_option maxRecDepth 20000 in
theorem ggX1_place_X1_isPlayer : GoodIn wsX1_place wsX1_isPlayer := goodIn_r _ [11, 12, 5, 6, 3, 7, 64, 65, 66, 67, 68, 69, 70, 71, 72, 73, 74, 75, 76, 77, 78, 79, 80, 81, 82, 83, 84, 85, 86] (by decide +kernel) (by decide +kernel)
set_option maxRecDepth 20000 in
theorem gX1_place_X1_isPlayer : GoodIn wsX1_place (wsV RX1 75 RX1 yX1_isPlayer wsX1_isPlayer) := goodIn_app (goodIn_of _ (by decide +kernel)) ggX1_place_X1_isPlayer
set_option maxRecDepth 20000 in
theorem ggX1_place_X1_in : GoodIn wsX1_place wsX1_in := goodIn_r _ [7] (by decide +kernel) (by decide +kernel)
set_option maxRecDepth 20000 in
theorem gX1_place_X1_in : GoodIn wsX1_place (va_wsS RX1 64 yX1_in wsX1_in) := goodIn_app (goodIn_of _ (by decide +kernel)) ggX1_place_X1_in
set_option maxRecDepth 20000 in
theorem ggX1_place_X1_placeOf : GoodIn wsX1_place wsX1_placeOf := goodIn_r _ [16, 12, 17, 18, 19, 3, 20, 21, 22, 23, 24, 25, 26, 27, 28, 29, 30, 31, 32, 33, 34, 35, 36, 37, 38, 39, 40, 41, 42, 43, 44, 45, 46, 47, 48, 49, 50, 51, 52, 53, 54, 55, 56, 57, 58, 59, 60, 61, 62, 63, 64, 65, 66, 67, 68, 69, 70, 71, 72, 73, 74, 75, 76, 77, 78, 79, 80, 81, 82, 83, 84, 85, 86] (by decide +kernel) (by decide +kernel)
set_option maxRecDepth 20000 in
theorem gX1_place_X1_placeOf : GoodIn wsX1_place (wsV RX1 118 RX1 yX1_placeOf wsX1_placeOf) := goodIn_app (goodIn_of _ (by decide +kernel)) ggX1_place_X1_placeOf
theorem dX1_place_0 : decode cX1_place 0 = .ok (.iload_n 1, 1) := by decide +kernel
theorem dX1_place_1 : decode cX1_place 1 = .ok (.invokestatic 68, 3) := by decide +kernel
theorem dX1_place_4 : decode cX1_place 4 = .ok (.ifCond .eq 11, 3) := by decide +kernel
theorem dX1_place_7 : decode cX1_place 7 = .ok (.aload_n 0, 1) := by decide +kernel
theorem dX1_place_8 : decode cX1_place 8 = .ok (.iload_n 3, 1) := by decide +kernel
theorem dX1_place_9 : decode cX1_place 9 = .ok (.invokevirtual 75, 3) := by decide +kernel
theorem dX1_place_12 : decode cX1_place 12 = .ok (.ifCond .ne 6, 3) := by decide +kernel
theorem dX1_place_15 : decode cX1_place 15 = .ok (.bipush (-101), 2) := by decide +kernel
theorem dX1_place_17 : decode cX1_place 17 = .ok (.ireturn, 1) := by decide +kernel
theorem dX1_place_18 : decode cX1_place 18 = .ok (.iload_n 2, 1) := by decide +kernel
theorem dX1_place_19 : decode cX1_place 19 = .ok (.iconst 0, 1) := by decide +kernel
theorem dX1_place_20 : decode cX1_place 20 = .ok (.iconst 5, 1) := by decide +kernel
theorem dX1_place_21 : decode cX1_place 21 = .ok (.invokestatic 64, 3) := by decide +kernel
theorem dX1_place_24 : decode cX1_place 24 = .ok (.ifCond .eq 13, 3) := by decide +kernel
theorem dX1_place_27 : decode cX1_place 27 = .ok (.aload_n 0, 1) := by decide +kernel
theorem dX1_place_28 : decode cX1_place 28 = .ok (.iload_n 1, 1) := by decide +kernel
theorem dX1_place_29 : decode cX1_place 29 = .ok (.iload_n 2, 1) := by decide +kernel
theorem dX1_place_30 : decode cX1_place 30 = .ok (.iload_n 3, 1) := by decide +kernel
theorem dX1_place_31 : decode cX1_place 31 = .ok (.invokevirtual 118, 3) := by decide +kernel
theorem dX1_place_34 : decode cX1_place 34 = .ok (.goto 5, 3) := by decide +kernel
theorem dX1_place_37 : decode cX1_place 37 = .ok (.bipush (-102), 2) := by decide +kernel
theorem dX1_place_39 : decode cX1_place 39 = .ok (.ireturn, 1) := by decide +kernel
set_option maxRecDepth 20000 in
theorem ggX1_passes_X1_hasMark : GoodIn wsX1_passes wsX1_hasMark := goodIn_r _ [5, 6, 7, 8, 9, 4, 10, 11, 12, 54, 55, 56, 57, 58, 59, 60, 61, 62, 63, 64, 65, 66, 67, 68, 69, 70, 71, 72, 73, 74, 75, 76] (by decide +kernel) (by decide +kernel)
set_option maxRecDepth 20000 in
theorem gX1_passes_X1_hasMark : GoodIn wsX1_passes (wsV RX1 88 RX1 yX1_hasMark wsX1_hasMark) := goodIn_app (goodIn_of _ (by decide +kernel)) ggX1_passes_X1_hasMark
set_option maxRecDepth 20000 in
theorem ggX1_passes_X1_placeOf : GoodIn wsX1_passes wsX1_placeOf := goodIn_r _ [16, 17, 18, 19, 20, 4, 21, 22, 23, 24, 25, 26, 27, 28, 29, 30, 6, 12, 7, 8, 9, 10, 11, 31, 32, 33, 34, 35, 36, 37, 38, 39, 40, 41, 42, 43, 44, 1, 2, 3, 5, 45, 46, 47, 48, 49, 50, 51, 52, 53, 54, 55, 56, 57, 58, 59, 60, 61, 62, 63, 64, 65, 66, 67, 68, 69, 70, 71, 72, 73, 74, 75, 76] (by decide +kernel) (by decide +kernel)
set_option maxRecDepth 20000 in
theorem gX1_passes_X1_placeOf : GoodIn wsX1_passes (wsV RX1 118 RX1 yX1_placeOf wsX1_placeOf) := goodIn_app (goodIn_of _ (by decide +kernel)) ggX1_passes_X1_placeOf
theorem dX1_passes_0 : decode cX1_passes 0 = .ok (.aload_n 0, 1) := by decide +kernel
theorem dX1_passes_1 : decode cX1_passes 1 = .ok (.iload_n 1, 1) := by decide +kernel
theorem dX1_passes_2 : decode cX1_passes 2 = .ok (.iload_n 3, 1) := by decide +kernel
theorem dX1_passes_3 : decode cX1_passes 3 = .ok (.invokevirtual 88, 3) := by decide +kernel
theorem dX1_passes_6 : decode cX1_passes 6 = .ok (.ifCond .eq 19, 3) := by decide +kernel
theorem dX1_passes_9 : decode cX1_passes 9 = .ok (.aload_n 0, 1) := by decide +kernel
theorem dX1_passes_10 : decode cX1_passes 10 = .ok (.iload_n 1, 1) := by decide +kernel
theorem dX1_passes_11 : decode cX1_passes 11 = .ok (.iload_n 2, 1) := by decide +kernel
theorem dX1_passes_12 : decode cX1_passes 12 = .ok (.iload_n 3, 1) := by decide +kernel
theorem dX1_passes_13 : decode cX1_passes 13 = .ok (.invokevirtual 118, 3) := by decide +kernel
theorem dX1_passes_16 : decode cX1_passes 16 = .ok (.iload 4, 2) := by decide +kernel
theorem dX1_passes_18 : decode cX1_passes 18 = .ok (.if_icmp .gt 7, 3) := by decide +kernel
theorem dX1_passes_21 : decode cX1_passes 21 = .ok (.iconst 1, 1) := by decide +kernel
theorem dX1_passes_22 : decode cX1_passes 22 = .ok (.goto 4, 3) := by decide +kernel
theorem dX1_passes_25 : decode cX1_passes 25 = .ok (.iconst 0, 1) := by decide +kernel
theorem dX1_passes_26 : decode cX1_passes 26 = .ok (.ireturn, 1) := by decide +kernel
set_option maxRecDepth 20000 in
theorem ggX1_passedOf_X1_passes : GoodIn wsX1_passedOf wsX1_passes := goodIn_r _ [6, 7, 8, 9, 5, 10, 11, 12, 13, 14, 15, 16, 17, 18, 19, 20, 21, 1, 22, 23, 24, 25, 26, 27, 28, 29, 30, 31, 32, 33, 34, 35, 36, 37, 38, 39, 40, 41, 42, 43, 44, 45, 46, 47, 48, 49, 50, 51, 52, 53, 54, 55, 56, 57, 58, 59, 60, 61, 62, 63, 64, 65, 66, 67, 68, 69, 70, 71, 72, 73, 74, 75, 76, 77, 78, 79, 80] (by decide +kernel) (by decide +kernel)
set_option maxRecDepth 20000 in
theorem gX1_passedOf_X1_passes : GoodIn wsX1_passedOf (wsV RX1 121 RX1 yX1_passes wsX1_passes) := goodIn_app (goodIn_of _ (by decide +kernel)) ggX1_passedOf_X1_passes
theorem dX1_passedOf_0 : decode cX1_passedOf 0 = .ok (.iconst 0, 1) := by decide +kernel
theorem dX1_passedOf_1 : decode cX1_passedOf 1 = .ok (.istore 4, 2) := by decide +kernel
theorem dX1_passedOf_3 : decode cX1_passedOf 3 = .ok (.iconst 0, 1) := by decide +kernel
theorem dX1_passedOf_4 : decode cX1_passedOf 4 = .ok (.istore 5, 2) := by decide +kernel
theorem dX1_passedOf_6 : decode cX1_passedOf 6 = .ok (.iload 5, 2) := by decide +kernel
theorem dX1_passedOf_8 : decode cX1_passedOf 8 = .ok (.aload_n 0, 1) := by decide +kernel
theorem dX1_passedOf_9 : decode cX1_passedOf 9 = .ok (.getfield 7, 3) := by decide +kernel
theorem dX1_passedOf_12 : decode cX1_passedOf 12 = .ok (.if_icmp .ge 34, 3) := by decide +kernel
theorem dX1_passedOf_15 : decode cX1_passedOf 15 = .ok (.iload 4, 2) := by decide +kernel
theorem dX1_passedOf_17 : decode cX1_passedOf 17 = .ok (.aload_n 0, 1) := by decide +kernel
theorem dX1_passedOf_18 : decode cX1_passedOf 18 = .ok (.iload_n 1, 1) := by decide +kernel
theorem dX1_passedOf_19 : decode cX1_passedOf 19 = .ok (.iload_n 2, 1) := by decide +kernel
theorem dX1_passedOf_20 : decode cX1_passedOf 20 = .ok (.iload 5, 2) := by decide +kernel
theorem dX1_passedOf_22 : decode cX1_passedOf 22 = .ok (.iload_n 3, 1) := by decide +kernel
theorem dX1_passedOf_23 : decode cX1_passedOf 23 = .ok (.invokevirtual 121, 3) := by decide +kernel
theorem dX1_passedOf_26 : decode cX1_passedOf 26 = .ok (.ifCond .eq 10, 3) := by decide +kernel
theorem dX1_passedOf_29 : decode cX1_passedOf 29 = .ok (.iconst 1, 1) := by decide +kernel
theorem dX1_passedOf_30 : decode cX1_passedOf 30 = .ok (.iload 5, 2) := by decide +kernel
theorem dX1_passedOf_32 : decode cX1_passedOf 32 = .ok (.ishl, 1) := by decide +kernel
theorem dX1_passedOf_33 : decode cX1_passedOf 33 = .ok (.goto 4, 3) := by decide +kernel
theorem dX1_passedOf_36 : decode cX1_passedOf 36 = .ok (.iconst 0, 1) := by decide +kernel
theorem dX1_passedOf_37 : decode cX1_passedOf 37 = .ok (.ior, 1) := by decide +kernel
theorem dX1_passedOf_38 : decode cX1_passedOf 38 = .ok (.istore 4, 2) := by decide +kernel
theorem dX1_passedOf_40 : decode cX1_passedOf 40 = .ok (.iinc 5 1, 3) := by decide +kernel
theorem dX1_passedOf_43 : decode cX1_passedOf 43 = .ok (.goto (-37), 3) := by decide +kernel
theorem dX1_passedOf_46 : decode cX1_passedOf 46 = .ok (.iload 4, 2) := by decide +kernel
theorem dX1_passedOf_48 : decode cX1_passedOf 48 = .ok (.ireturn, 1) := by decide +kernel
set_option maxRecDepth 20000 in
theorem ggX1_passed_X1_isRound : GoodIn wsX1_passed wsX1_isRound := goodIn_r _ [4, 5, 6, 3, 7] (by decide +kernel) (by decide +kernel)
set_option maxRecDepth 20000 in
theorem gX1_passed_X1_isRound : GoodIn wsX1_passed (va_wsS RX1 68 yX1_isRound wsX1_isRound) := goodIn_app (goodIn_of _ (by decide +kernel)) ggX1_passed_X1_isRound
set_option maxRecDepth 20000 in
theorem ggX1_passed_X1_in : GoodIn wsX1_passed wsX1_in := goodIn_r _ [7] (by decide +kernel) (by decide +kernel)
set_option maxRecDepth 20000 in
theorem gX1_passed_X1_in : GoodIn wsX1_passed (va_wsS RX1 64 yX1_in wsX1_in) := goodIn_app (goodIn_of _ (by decide +kernel)) ggX1_passed_X1_in
set_option maxRecDepth 20000 in
theorem ggX1_passed_X1_passedOf : GoodIn wsX1_passed wsX1_passedOf := goodIn_r _ [11, 12, 13, 14, 15, 3, 16, 17, 18, 19, 20, 21, 22, 23, 24, 25, 26, 27, 28, 29, 30, 31, 32, 33, 34, 35, 36, 37, 38, 39, 40, 41, 42, 43, 44, 45, 46, 47, 48, 49, 50, 51, 52, 53, 54, 55, 56, 57, 58, 59, 60, 61, 62, 63, 64, 65, 66, 67, 68, 69, 70, 71, 72, 73, 74, 75, 76, 77, 78, 79, 80, 81, 82, 83, 84, 85, 86, 87, 88, 89, 90] (by decide +kernel) (by decide +kernel)
set_option maxRecDepth 20000 in
theorem gX1_passed_X1_passedOf : GoodIn wsX1_passed (wsV RX1 125 RX1 yX1_passedOf wsX1_passedOf) := goodIn_app (goodIn_of _ (by decide +kernel)) ggX1_passed_X1_passedOf
theorem dX1_passed_0 : decode cX1_passed 0 = .ok (.iload_n 1, 1) := by decide +kernel
theorem dX1_passed_1 : decode cX1_passed 1 = .ok (.invokestatic 68, 3) := by decide +kernel
theorem dX1_passed_4 : decode cX1_passed 4 = .ok (.ifCond .ne 6, 3) := by decide +kernel
theorem dX1_passed_7 : decode cX1_passed 7 = .ok (.bipush (-101), 2) := by decide +kernel
theorem dX1_passed_9 : decode cX1_passed 9 = .ok (.ireturn, 1) := by decide +kernel
theorem dX1_passed_10 : decode cX1_passed 10 = .ok (.iload_n 2, 1) := by decide +kernel
theorem dX1_passed_11 : decode cX1_passed 11 = .ok (.iconst 0, 1) := by decide +kernel
theorem dX1_passed_12 : decode cX1_passed 12 = .ok (.iconst 5, 1) := by decide +kernel
theorem dX1_passed_13 : decode cX1_passed 13 = .ok (.invokestatic 64, 3) := by decide +kernel
theorem dX1_passed_16 : decode cX1_passed 16 = .ok (.ifCond .eq 23, 3) := by decide +kernel
theorem dX1_passed_19 : decode cX1_passed 19 = .ok (.iload_n 3, 1) := by decide +kernel
theorem dX1_passed_20 : decode cX1_passed 20 = .ok (.iconst 1, 1) := by decide +kernel
theorem dX1_passed_21 : decode cX1_passed 21 = .ok (.bipush 10, 2) := by decide +kernel
theorem dX1_passed_23 : decode cX1_passed 23 = .ok (.invokestatic 64, 3) := by decide +kernel
theorem dX1_passed_26 : decode cX1_passed 26 = .ok (.ifCond .eq 13, 3) := by decide +kernel
theorem dX1_passed_29 : decode cX1_passed 29 = .ok (.aload_n 0, 1) := by decide +kernel
theorem dX1_passed_30 : decode cX1_passed 30 = .ok (.iload_n 1, 1) := by decide +kernel
theorem dX1_passed_31 : decode cX1_passed 31 = .ok (.iload_n 2, 1) := by decide +kernel
theorem dX1_passed_32 : decode cX1_passed 32 = .ok (.iload_n 3, 1) := by decide +kernel
theorem dX1_passed_33 : decode cX1_passed 33 = .ok (.invokevirtual 125, 3) := by decide +kernel
theorem dX1_passed_36 : decode cX1_passed 36 = .ok (.goto 5, 3) := by decide +kernel
theorem dX1_passed_39 : decode cX1_passed 39 = .ok (.bipush (-102), 2) := by decide +kernel
theorem dX1_passed_41 : decode cX1_passed 41 = .ok (.ireturn, 1) := by decide +kernel
set_option maxRecDepth 20000 in
theorem ggX1_differ_X1_isRound : GoodIn wsX1_differ wsX1_isRound := goodIn_r _ [5, 6, 7, 4, 8] (by decide +kernel) (by decide +kernel)
set_option maxRecDepth 20000 in
theorem gX1_differ_X1_isRound : GoodIn wsX1_differ (va_wsS RX1 68 yX1_isRound wsX1_isRound) := goodIn_app (goodIn_of _ (by decide +kernel)) ggX1_differ_X1_isRound
set_option maxRecDepth 20000 in
theorem ggX1_differ_X1_in : GoodIn wsX1_differ wsX1_in := goodIn_r _ [8] (by decide +kernel) (by decide +kernel)
set_option maxRecDepth 20000 in
theorem gX1_differ_X1_in : GoodIn wsX1_differ (va_wsS RX1 64 yX1_in wsX1_in) := goodIn_app (goodIn_of _ (by decide +kernel)) ggX1_differ_X1_in
set_option maxRecDepth 20000 in
theorem ggX1_differ_X1_passedOf : GoodIn wsX1_differ wsX1_passedOf := goodIn_r _ [12, 1, 13, 14, 15, 4, 16, 17, 18, 19, 20, 21, 22, 23, 24, 25, 26, 27, 28, 29, 30, 31, 32, 33, 34, 35, 36, 37, 38, 39, 40, 41, 42, 43, 44, 45, 46, 47, 48, 49, 50, 51, 52, 53, 54, 55, 56, 57, 58, 59, 60, 61, 62, 63, 64, 65, 66, 67, 68, 69, 70, 71, 72, 73, 74, 75, 76, 77, 78, 79, 80, 81, 82, 83, 84, 85, 86, 87, 88, 89, 90] (by decide +kernel) (by decide +kernel)
set_option maxRecDepth 20000 in
theorem gX1_differ_X1_passedOf : GoodIn wsX1_differ (wsV RX1 125 RX1 yX1_passedOf wsX1_passedOf) := goodIn_app (goodIn_of _ (by decide +kernel)) ggX1_differ_X1_passedOf
theorem dX1_differ_0 : decode cX1_differ 0 = .ok (.iload_n 1, 1) := by decide +kernel
theorem dX1_differ_1 : decode cX1_differ 1 = .ok (.invokestatic 68, 3) := by decide +kernel
theorem dX1_differ_4 : decode cX1_differ 4 = .ok (.ifCond .ne 6, 3) := by decide +kernel
theorem dX1_differ_7 : decode cX1_differ 7 = .ok (.bipush (-101), 2) := by decide +kernel
theorem dX1_differ_9 : decode cX1_differ 9 = .ok (.ireturn, 1) := by decide +kernel
theorem dX1_differ_10 : decode cX1_differ 10 = .ok (.iload_n 2, 1) := by decide +kernel
theorem dX1_differ_11 : decode cX1_differ 11 = .ok (.iconst 0, 1) := by decide +kernel
theorem dX1_differ_12 : decode cX1_differ 12 = .ok (.iconst 5, 1) := by decide +kernel
theorem dX1_differ_13 : decode cX1_differ 13 = .ok (.invokestatic 64, 3) := by decide +kernel
theorem dX1_differ_16 : decode cX1_differ 16 = .ok (.ifCond .eq 23, 3) := by decide +kernel
theorem dX1_differ_19 : decode cX1_differ 19 = .ok (.iload_n 3, 1) := by decide +kernel
theorem dX1_differ_20 : decode cX1_differ 20 = .ok (.iconst 0, 1) := by decide +kernel
theorem dX1_differ_21 : decode cX1_differ 21 = .ok (.iconst 5, 1) := by decide +kernel
theorem dX1_differ_22 : decode cX1_differ 22 = .ok (.invokestatic 64, 3) := by decide +kernel
theorem dX1_differ_25 : decode cX1_differ 25 = .ok (.ifCond .eq 14, 3) := by decide +kernel
theorem dX1_differ_28 : decode cX1_differ 28 = .ok (.iload 4, 2) := by decide +kernel
theorem dX1_differ_30 : decode cX1_differ 30 = .ok (.iconst 1, 1) := by decide +kernel
theorem dX1_differ_31 : decode cX1_differ 31 = .ok (.bipush 10, 2) := by decide +kernel
theorem dX1_differ_33 : decode cX1_differ 33 = .ok (.invokestatic 64, 3) := by decide +kernel
theorem dX1_differ_36 : decode cX1_differ 36 = .ok (.ifCond .ne 6, 3) := by decide +kernel
theorem dX1_differ_39 : decode cX1_differ 39 = .ok (.bipush (-102), 2) := by decide +kernel
theorem dX1_differ_41 : decode cX1_differ 41 = .ok (.ireturn, 1) := by decide +kernel
theorem dX1_differ_42 : decode cX1_differ 42 = .ok (.aload_n 0, 1) := by decide +kernel
theorem dX1_differ_43 : decode cX1_differ 43 = .ok (.iload_n 1, 1) := by decide +kernel
theorem dX1_differ_44 : decode cX1_differ 44 = .ok (.iload_n 2, 1) := by decide +kernel
theorem dX1_differ_45 : decode cX1_differ 45 = .ok (.iload 4, 2) := by decide +kernel
theorem dX1_differ_47 : decode cX1_differ 47 = .ok (.invokevirtual 125, 3) := by decide +kernel
theorem dX1_differ_50 : decode cX1_differ 50 = .ok (.aload_n 0, 1) := by decide +kernel
theorem dX1_differ_51 : decode cX1_differ 51 = .ok (.iload_n 1, 1) := by decide +kernel
theorem dX1_differ_52 : decode cX1_differ 52 = .ok (.iload_n 3, 1) := by decide +kernel
theorem dX1_differ_53 : decode cX1_differ 53 = .ok (.iload 4, 2) := by decide +kernel
theorem dX1_differ_55 : decode cX1_differ 55 = .ok (.invokevirtual 125, 3) := by decide +kernel
theorem dX1_differ_58 : decode cX1_differ 58 = .ok (.ixor, 1) := by decide +kernel
theorem dX1_differ_59 : decode cX1_differ 59 = .ok (.istore 5, 2) := by decide +kernel
theorem dX1_differ_61 : decode cX1_differ 61 = .ok (.iconst 0, 1) := by decide +kernel
theorem dX1_differ_62 : decode cX1_differ 62 = .ok (.istore 6, 2) := by decide +kernel
theorem dX1_differ_64 : decode cX1_differ 64 = .ok (.iconst 0, 1) := by decide +kernel
theorem dX1_differ_65 : decode cX1_differ 65 = .ok (.istore 7, 2) := by decide +kernel
theorem dX1_differ_67 : decode cX1_differ 67 = .ok (.iload 7, 2) := by decide +kernel
theorem dX1_differ_69 : decode cX1_differ 69 = .ok (.aload_n 0, 1) := by decide +kernel
theorem dX1_differ_70 : decode cX1_differ 70 = .ok (.getfield 7, 3) := by decide +kernel
theorem dX1_differ_73 : decode cX1_differ 73 = .ok (.if_icmp .ge 21, 3) := by decide +kernel
theorem dX1_differ_76 : decode cX1_differ 76 = .ok (.iload 6, 2) := by decide +kernel
theorem dX1_differ_78 : decode cX1_differ 78 = .ok (.iload 5, 2) := by decide +kernel
theorem dX1_differ_80 : decode cX1_differ 80 = .ok (.iload 7, 2) := by decide +kernel
theorem dX1_differ_82 : decode cX1_differ 82 = .ok (.ishr, 1) := by decide +kernel
theorem dX1_differ_83 : decode cX1_differ 83 = .ok (.iconst 1, 1) := by decide +kernel
theorem dX1_differ_84 : decode cX1_differ 84 = .ok (.iand, 1) := by decide +kernel
theorem dX1_differ_85 : decode cX1_differ 85 = .ok (.iadd, 1) := by decide +kernel
theorem dX1_differ_86 : decode cX1_differ 86 = .ok (.istore 6, 2) := by decide +kernel
theorem dX1_differ_88 : decode cX1_differ 88 = .ok (.iinc 7 1, 3) := by decide +kernel
theorem dX1_differ_91 : decode cX1_differ 91 = .ok (.goto (-24), 3) := by decide +kernel
theorem dX1_differ_94 : decode cX1_differ 94 = .ok (.iload 6, 2) := by decide +kernel
theorem dX1_differ_96 : decode cX1_differ 96 = .ok (.ireturn, 1) := by decide +kernel
set_option maxRecDepth 20000 in
theorem ggX1_note_X1_placeOf : GoodIn wsX1_note wsX1_placeOf := goodIn_r _ [9, 10, 11, 12, 13, 8, 14, 15, 16, 17, 18, 19, 20, 21, 22, 23, 24, 25, 26, 27, 28, 29, 30, 31, 32, 33, 34, 35, 36, 37, 38, 39, 40, 41, 42, 43, 44, 45, 46, 47, 48, 49, 50, 51, 52, 53, 54, 55, 56, 57, 62, 63, 64, 65, 66, 67, 68, 69, 70, 71, 72, 73, 74, 75, 76, 77, 78, 79, 80, 81, 82, 83, 84] (by decide +kernel) (by decide +kernel)
set_option maxRecDepth 20000 in
theorem gX1_note_X1_placeOf : GoodIn wsX1_note (wsV RX1 118 RX1 yX1_placeOf wsX1_placeOf) := goodIn_app (goodIn_of _ (by decide +kernel)) ggX1_note_X1_placeOf
set_option maxRecDepth 20000 in
theorem ggX1_note_X1_passes : GoodIn wsX1_note wsX1_passes := goodIn_r _ [61, 45, 46, 47, 8, 48, 24, 26, 27, 28, 29, 30, 25, 5, 6, 7, 9, 10, 11, 12, 13, 14, 15, 16, 17, 18, 19, 20, 21, 22, 23, 31, 32, 33, 34, 35, 36, 37, 38, 39, 40, 41, 42, 43, 44, 49, 50, 51, 52, 53, 54, 55, 56, 57, 62, 63, 64, 65, 66, 67, 68, 69, 70, 71, 72, 73, 74, 75, 76, 77, 78, 79, 80, 81, 82, 83, 84] (by decide +kernel) (by decide +kernel)
set_option maxRecDepth 20000 in
theorem gX1_note_X1_passes : GoodIn wsX1_note (wsV RX1 121 RX1 yX1_passes wsX1_passes) := goodIn_app (goodIn_of _ (by decide +kernel)) ggX1_note_X1_passes
theorem dX1_note_0 : decode cX1_note 0 = .ok (.aload_n 0, 1) := by decide +kernel
theorem dX1_note_1 : decode cX1_note 1 = .ok (.iload_n 1, 1) := by decide +kernel
theorem dX1_note_2 : decode cX1_note 2 = .ok (.iload_n 2, 1) := by decide +kernel
theorem dX1_note_3 : decode cX1_note 3 = .ok (.iload_n 3, 1) := by decide +kernel
theorem dX1_note_4 : decode cX1_note 4 = .ok (.invokevirtual 118, 3) := by decide +kernel
theorem dX1_note_7 : decode cX1_note 7 = .ok (.istore 5, 2) := by decide +kernel
theorem dX1_note_9 : decode cX1_note 9 = .ok (.aload_n 0, 1) := by decide +kernel
theorem dX1_note_10 : decode cX1_note 10 = .ok (.iload 5, 2) := by decide +kernel
theorem dX1_note_12 : decode cX1_note 12 = .ok (.aload_n 0, 1) := by decide +kernel
theorem dX1_note_13 : decode cX1_note 13 = .ok (.getfield 128, 3) := by decide +kernel
theorem dX1_note_16 : decode cX1_note 16 = .ok (.if_icmp .ge 8, 3) := by decide +kernel
theorem dX1_note_19 : decode cX1_note 19 = .ok (.iload 5, 2) := by decide +kernel
theorem dX1_note_21 : decode cX1_note 21 = .ok (.goto 7, 3) := by decide +kernel
theorem dX1_note_24 : decode cX1_note 24 = .ok (.aload_n 0, 1) := by decide +kernel
theorem dX1_note_25 : decode cX1_note 25 = .ok (.getfield 128, 3) := by decide +kernel
theorem dX1_note_28 : decode cX1_note 28 = .ok (.putfield 128, 3) := by decide +kernel
theorem dX1_note_31 : decode cX1_note 31 = .ok (.aload_n 0, 1) := by decide +kernel
theorem dX1_note_32 : decode cX1_note 32 = .ok (.iload 5, 2) := by decide +kernel
theorem dX1_note_34 : decode cX1_note 34 = .ok (.aload_n 0, 1) := by decide +kernel
theorem dX1_note_35 : decode cX1_note 35 = .ok (.getfield 131, 3) := by decide +kernel
theorem dX1_note_38 : decode cX1_note 38 = .ok (.if_icmp .le 8, 3) := by decide +kernel
theorem dX1_note_41 : decode cX1_note 41 = .ok (.iload 5, 2) := by decide +kernel
theorem dX1_note_43 : decode cX1_note 43 = .ok (.goto 7, 3) := by decide +kernel
theorem dX1_note_46 : decode cX1_note 46 = .ok (.aload_n 0, 1) := by decide +kernel
theorem dX1_note_47 : decode cX1_note 47 = .ok (.getfield 131, 3) := by decide +kernel
theorem dX1_note_50 : decode cX1_note 50 = .ok (.putfield 131, 3) := by decide +kernel
theorem dX1_note_53 : decode cX1_note 53 = .ok (.aload_n 0, 1) := by decide +kernel
theorem dX1_note_54 : decode cX1_note 54 = .ok (.iload_n 1, 1) := by decide +kernel
theorem dX1_note_55 : decode cX1_note 55 = .ok (.iload_n 2, 1) := by decide +kernel
theorem dX1_note_56 : decode cX1_note 56 = .ok (.iload_n 3, 1) := by decide +kernel
theorem dX1_note_57 : decode cX1_note 57 = .ok (.iload 4, 2) := by decide +kernel
theorem dX1_note_59 : decode cX1_note 59 = .ok (.invokevirtual 121, 3) := by decide +kernel
theorem dX1_note_62 : decode cX1_note 62 = .ok (.istore 6, 2) := by decide +kernel
theorem dX1_note_64 : decode cX1_note 64 = .ok (.aload_n 0, 1) := by decide +kernel
theorem dX1_note_65 : decode cX1_note 65 = .ok (.aload_n 0, 1) := by decide +kernel
theorem dX1_note_66 : decode cX1_note 66 = .ok (.getfield 134, 3) := by decide +kernel
theorem dX1_note_69 : decode cX1_note 69 = .ok (.ifCond .ne 8, 3) := by decide +kernel
theorem dX1_note_72 : decode cX1_note 72 = .ok (.iload 6, 2) := by decide +kernel
theorem dX1_note_74 : decode cX1_note 74 = .ok (.ifCond .eq 7, 3) := by decide +kernel
theorem dX1_note_77 : decode cX1_note 77 = .ok (.iconst 1, 1) := by decide +kernel
theorem dX1_note_78 : decode cX1_note 78 = .ok (.goto 4, 3) := by decide +kernel
theorem dX1_note_81 : decode cX1_note 81 = .ok (.iconst 0, 1) := by decide +kernel
theorem dX1_note_82 : decode cX1_note 82 = .ok (.putfield 134, 3) := by decide +kernel
theorem dX1_note_85 : decode cX1_note 85 = .ok (.aload_n 0, 1) := by decide +kernel
theorem dX1_note_86 : decode cX1_note 86 = .ok (.aload_n 0, 1) := by decide +kernel
theorem dX1_note_87 : decode cX1_note 87 = .ok (.getfield 137, 3) := by decide +kernel
theorem dX1_note_90 : decode cX1_note 90 = .ok (.ifCond .ne 8, 3) := by decide +kernel
theorem dX1_note_93 : decode cX1_note 93 = .ok (.iload 6, 2) := by decide +kernel
theorem dX1_note_95 : decode cX1_note 95 = .ok (.ifCond .ne 7, 3) := by decide +kernel
theorem dX1_note_98 : decode cX1_note 98 = .ok (.iconst 1, 1) := by decide +kernel
theorem dX1_note_99 : decode cX1_note 99 = .ok (.goto 4, 3) := by decide +kernel
theorem dX1_note_102 : decode cX1_note 102 = .ok (.iconst 0, 1) := by decide +kernel
theorem dX1_note_103 : decode cX1_note 103 = .ok (.putfield 137, 3) := by decide +kernel
theorem dX1_note_106 : decode cX1_note 106 = .ok (.return_, 1) := by decide +kernel
set_option maxRecDepth 20000 in
theorem ggX1_seek_X1_note : GoodIn wsX1_seek wsX1_note := goodIn_r _ [11, 1, 2, 3, 4, 12, 13, 14, 10, 15, 16, 17, 18, 19, 20, 21, 22, 23, 24, 25, 26, 27, 28, 29, 30, 6, 31, 32, 33, 34, 35, 36, 37, 38, 39, 40, 41, 42, 43, 44, 5, 45, 46, 47, 48, 49, 50, 51, 52, 53, 54, 55, 56, 57, 58, 59, 60, 61, 62, 63, 64, 65, 66, 67, 68, 69, 70, 71, 72, 73, 74, 75, 76, 77, 78, 79, 80, 81, 82, 83, 84, 85, 86, 87, 88] (by decide +kernel) (by decide +kernel)
set_option maxRecDepth 20000 in
theorem gX1_seek_X1_note : GoodIn wsX1_seek (wsV RX1 140 RX1 yX1_note wsX1_note) := goodIn_app (goodIn_of _ (by decide +kernel)) ggX1_seek_X1_note
theorem dX1_seek_0 : decode cX1_seek 0 = .ok (.aload_n 0, 1) := by decide +kernel
theorem dX1_seek_1 : decode cX1_seek 1 = .ok (.bipush 11, 2) := by decide +kernel
theorem dX1_seek_3 : decode cX1_seek 3 = .ok (.putfield 128, 3) := by decide +kernel
theorem dX1_seek_6 : decode cX1_seek 6 = .ok (.aload_n 0, 1) := by decide +kernel
theorem dX1_seek_7 : decode cX1_seek 7 = .ok (.iconst 0, 1) := by decide +kernel
theorem dX1_seek_8 : decode cX1_seek 8 = .ok (.putfield 131, 3) := by decide +kernel
theorem dX1_seek_11 : decode cX1_seek 11 = .ok (.aload_n 0, 1) := by decide +kernel
theorem dX1_seek_12 : decode cX1_seek 12 = .ok (.iconst 0, 1) := by decide +kernel
theorem dX1_seek_13 : decode cX1_seek 13 = .ok (.putfield 134, 3) := by decide +kernel
theorem dX1_seek_16 : decode cX1_seek 16 = .ok (.aload_n 0, 1) := by decide +kernel
theorem dX1_seek_17 : decode cX1_seek 17 = .ok (.iconst 0, 1) := by decide +kernel
theorem dX1_seek_18 : decode cX1_seek 18 = .ok (.putfield 137, 3) := by decide +kernel
theorem dX1_seek_21 : decode cX1_seek 21 = .ok (.bipush 70, 2) := by decide +kernel
theorem dX1_seek_23 : decode cX1_seek 23 = .ok (.iload_n 1, 1) := by decide +kernel
theorem dX1_seek_24 : decode cX1_seek 24 = .ok (.imul, 1) := by decide +kernel
theorem dX1_seek_25 : decode cX1_seek 25 = .ok (.bipush 10, 2) := by decide +kernel
theorem dX1_seek_27 : decode cX1_seek 27 = .ok (.iload_n 3, 1) := by decide +kernel
theorem dX1_seek_28 : decode cX1_seek 28 = .ok (.imul, 1) := by decide +kernel
theorem dX1_seek_29 : decode cX1_seek 29 = .ok (.iadd, 1) := by decide +kernel
theorem dX1_seek_30 : decode cX1_seek 30 = .ok (.iload 4, 2) := by decide +kernel
theorem dX1_seek_32 : decode cX1_seek 32 = .ok (.iadd, 1) := by decide +kernel
theorem dX1_seek_33 : decode cX1_seek 33 = .ok (.istore 6, 2) := by decide +kernel
theorem dX1_seek_35 : decode cX1_seek 35 = .ok (.iload_n 2, 1) := by decide +kernel
theorem dX1_seek_36 : decode cX1_seek 36 = .ok (.iconst 3, 1) := by decide +kernel
theorem dX1_seek_37 : decode cX1_seek 37 = .ok (.if_icmp .ne 60, 3) := by decide +kernel
theorem dX1_seek_40 : decode cX1_seek 40 = .ok (.aload_n 0, 1) := by decide +kernel
theorem dX1_seek_41 : decode cX1_seek 41 = .ok (.getfield 20, 3) := by decide +kernel
theorem dX1_seek_44 : decode cX1_seek 44 = .ok (.iload 6, 2) := by decide +kernel
theorem dX1_seek_46 : decode cX1_seek 46 = .ok (.baload, 1) := by decide +kernel
theorem dX1_seek_47 : decode cX1_seek 47 = .ok (.istore 7, 2) := by decide +kernel
theorem dX1_seek_49 : decode cX1_seek 49 = .ok (.aload_n 0, 1) := by decide +kernel
theorem dX1_seek_50 : decode cX1_seek 50 = .ok (.getfield 20, 3) := by decide +kernel
theorem dX1_seek_53 : decode cX1_seek 53 = .ok (.iload 6, 2) := by decide +kernel
theorem dX1_seek_55 : decode cX1_seek 55 = .ok (.iconst 1, 1) := by decide +kernel
theorem dX1_seek_56 : decode cX1_seek 56 = .ok (.bastore, 1) := by decide +kernel
theorem dX1_seek_57 : decode cX1_seek 57 = .ok (.aload_n 0, 1) := by decide +kernel
theorem dX1_seek_58 : decode cX1_seek 58 = .ok (.iload_n 1, 1) := by decide +kernel
theorem dX1_seek_59 : decode cX1_seek 59 = .ok (.iload_n 2, 1) := by decide +kernel
theorem dX1_seek_60 : decode cX1_seek 60 = .ok (.iload 4, 2) := by decide +kernel
theorem dX1_seek_62 : decode cX1_seek 62 = .ok (.iload 5, 2) := by decide +kernel
theorem dX1_seek_64 : decode cX1_seek 64 = .ok (.invokevirtual 140, 3) := by decide +kernel
theorem dX1_seek_67 : decode cX1_seek 67 = .ok (.aload_n 0, 1) := by decide +kernel
theorem dX1_seek_68 : decode cX1_seek 68 = .ok (.getfield 20, 3) := by decide +kernel
theorem dX1_seek_71 : decode cX1_seek 71 = .ok (.iload 6, 2) := by decide +kernel
theorem dX1_seek_73 : decode cX1_seek 73 = .ok (.iconst 0, 1) := by decide +kernel
theorem dX1_seek_74 : decode cX1_seek 74 = .ok (.bastore, 1) := by decide +kernel
theorem dX1_seek_75 : decode cX1_seek 75 = .ok (.aload_n 0, 1) := by decide +kernel
theorem dX1_seek_76 : decode cX1_seek 76 = .ok (.iload_n 1, 1) := by decide +kernel
theorem dX1_seek_77 : decode cX1_seek 77 = .ok (.iload_n 2, 1) := by decide +kernel
theorem dX1_seek_78 : decode cX1_seek 78 = .ok (.iload 4, 2) := by decide +kernel
theorem dX1_seek_80 : decode cX1_seek 80 = .ok (.iload 5, 2) := by decide +kernel
theorem dX1_seek_82 : decode cX1_seek 82 = .ok (.invokevirtual 140, 3) := by decide +kernel
theorem dX1_seek_85 : decode cX1_seek 85 = .ok (.aload_n 0, 1) := by decide +kernel
theorem dX1_seek_86 : decode cX1_seek 86 = .ok (.getfield 20, 3) := by decide +kernel
theorem dX1_seek_89 : decode cX1_seek 89 = .ok (.iload 6, 2) := by decide +kernel
theorem dX1_seek_91 : decode cX1_seek 91 = .ok (.iload 7, 2) := by decide +kernel
theorem dX1_seek_93 : decode cX1_seek 93 = .ok (.bastore, 1) := by decide +kernel
theorem dX1_seek_94 : decode cX1_seek 94 = .ok (.goto 56, 3) := by decide +kernel
theorem dX1_seek_97 : decode cX1_seek 97 = .ok (.aload_n 0, 1) := by decide +kernel
theorem dX1_seek_98 : decode cX1_seek 98 = .ok (.getfield 16, 3) := by decide +kernel
theorem dX1_seek_101 : decode cX1_seek 101 = .ok (.iload 6, 2) := by decide +kernel
theorem dX1_seek_103 : decode cX1_seek 103 = .ok (.iaload, 1) := by decide +kernel
theorem dX1_seek_104 : decode cX1_seek 104 = .ok (.istore 7, 2) := by decide +kernel
theorem dX1_seek_106 : decode cX1_seek 106 = .ok (.iconst 1, 1) := by decide +kernel
theorem dX1_seek_107 : decode cX1_seek 107 = .ok (.istore 8, 2) := by decide +kernel
theorem dX1_seek_109 : decode cX1_seek 109 = .ok (.iload 8, 2) := by decide +kernel
theorem dX1_seek_111 : decode cX1_seek 111 = .ok (.bipush 100, 2) := by decide +kernel
theorem dX1_seek_113 : decode cX1_seek 113 = .ok (.if_icmp .gt 28, 3) := by decide +kernel
theorem dX1_seek_116 : decode cX1_seek 116 = .ok (.aload_n 0, 1) := by decide +kernel
theorem dX1_seek_117 : decode cX1_seek 117 = .ok (.getfield 16, 3) := by decide +kernel
theorem dX1_seek_120 : decode cX1_seek 120 = .ok (.iload 6, 2) := by decide +kernel
theorem dX1_seek_122 : decode cX1_seek 122 = .ok (.iload 8, 2) := by decide +kernel
theorem dX1_seek_124 : decode cX1_seek 124 = .ok (.iastore, 1) := by decide +kernel
theorem dX1_seek_125 : decode cX1_seek 125 = .ok (.aload_n 0, 1) := by decide +kernel
theorem dX1_seek_126 : decode cX1_seek 126 = .ok (.iload_n 1, 1) := by decide +kernel
theorem dX1_seek_127 : decode cX1_seek 127 = .ok (.iload_n 2, 1) := by decide +kernel
theorem dX1_seek_128 : decode cX1_seek 128 = .ok (.iload 4, 2) := by decide +kernel
theorem dX1_seek_130 : decode cX1_seek 130 = .ok (.iload 5, 2) := by decide +kernel
theorem dX1_seek_132 : decode cX1_seek 132 = .ok (.invokevirtual 140, 3) := by decide +kernel
theorem dX1_seek_135 : decode cX1_seek 135 = .ok (.iinc 8 1, 3) := by decide +kernel
theorem dX1_seek_138 : decode cX1_seek 138 = .ok (.goto (-29), 3) := by decide +kernel
theorem dX1_seek_141 : decode cX1_seek 141 = .ok (.aload_n 0, 1) := by decide +kernel
theorem dX1_seek_142 : decode cX1_seek 142 = .ok (.getfield 16, 3) := by decide +kernel
theorem dX1_seek_145 : decode cX1_seek 145 = .ok (.iload 6, 2) := by decide +kernel
theorem dX1_seek_147 : decode cX1_seek 147 = .ok (.iload 7, 2) := by decide +kernel
theorem dX1_seek_149 : decode cX1_seek 149 = .ok (.iastore, 1) := by decide +kernel
theorem dX1_seek_150 : decode cX1_seek 150 = .ok (.return_, 1) := by decide +kernel
set_option maxRecDepth 20000 in
theorem ggX1_reach_X1_isRound : GoodIn wsX1_reach wsX1_isRound := goodIn_r _ [7, 8, 9, 6, 10] (by decide +kernel) (by decide +kernel)
set_option maxRecDepth 20000 in
theorem gX1_reach_X1_isRound : GoodIn wsX1_reach (va_wsS RX1 68 yX1_isRound wsX1_isRound) := goodIn_app (goodIn_of _ (by decide +kernel)) ggX1_reach_X1_isRound
set_option maxRecDepth 20000 in
theorem ggX1_reach_X1_isJuror : GoodIn wsX1_reach wsX1_isJuror := goodIn_r _ [14, 15, 8, 9, 6, 10, 84, 85, 86, 87, 88, 89, 90, 91, 92, 93, 94, 95, 96, 97, 98, 99, 100, 101, 102, 103, 104, 105, 106] (by decide +kernel) (by decide +kernel)
set_option maxRecDepth 20000 in
theorem gX1_reach_X1_isJuror : GoodIn wsX1_reach (wsV RX1 72 RX1 yX1_isJuror wsX1_isJuror) := goodIn_app (goodIn_of _ (by decide +kernel)) ggX1_reach_X1_isJuror
set_option maxRecDepth 20000 in
theorem ggX1_reach_X1_isPlayer : GoodIn wsX1_reach wsX1_isPlayer := goodIn_r _ [19, 20, 8, 9, 6, 10, 84, 85, 86, 87, 88, 89, 90, 91, 92, 93, 94, 95, 96, 97, 98, 99, 100, 101, 102, 103, 104, 105, 106] (by decide +kernel) (by decide +kernel)
set_option maxRecDepth 20000 in
theorem gX1_reach_X1_isPlayer : GoodIn wsX1_reach (wsV RX1 75 RX1 yX1_isPlayer wsX1_isPlayer) := goodIn_app (goodIn_of _ (by decide +kernel)) ggX1_reach_X1_isPlayer
set_option maxRecDepth 20000 in
theorem ggX1_reach_X1_in : GoodIn wsX1_reach wsX1_in := goodIn_r _ [10] (by decide +kernel) (by decide +kernel)
set_option maxRecDepth 20000 in
theorem gX1_reach_X1_in : GoodIn wsX1_reach (va_wsS RX1 64 yX1_in wsX1_in) := goodIn_app (goodIn_of _ (by decide +kernel)) ggX1_reach_X1_in
set_option maxRecDepth 20000 in
theorem ggX1_reach_X1_seek : GoodIn wsX1_reach wsX1_seek := goodIn_r _ [24, 2, 3, 25, 26, 27, 28, 29, 30, 31, 6, 32, 33, 34, 35, 36, 20, 37, 38, 39, 40, 41, 42, 43, 44, 45, 46, 47, 48, 49, 15, 50, 51, 52, 53, 1, 54, 55, 56, 57, 58, 59, 60, 61, 62, 63, 64, 65, 66, 67, 68, 69, 70, 71, 72, 73, 74, 75, 76, 77, 78, 79, 80, 81, 82, 83, 84, 85, 86, 87, 88, 89, 90, 91, 92, 93, 94, 95, 96, 97, 98, 99, 100, 101, 102, 103, 104, 105, 106] (by decide +kernel) (by decide +kernel)
set_option maxRecDepth 20000 in
theorem gX1_reach_X1_seek : GoodIn wsX1_reach (wsV RX1 144 RX1 yX1_seek wsX1_seek) := goodIn_app (goodIn_of _ (by decide +kernel)) ggX1_reach_X1_seek
theorem dX1_reach_0 : decode cX1_reach 0 = .ok (.iload_n 1, 1) := by decide +kernel
theorem dX1_reach_1 : decode cX1_reach 1 = .ok (.invokestatic 68, 3) := by decide +kernel
theorem dX1_reach_4 : decode cX1_reach 4 = .ok (.ifCond .eq 20, 3) := by decide +kernel
theorem dX1_reach_7 : decode cX1_reach 7 = .ok (.aload_n 0, 1) := by decide +kernel
theorem dX1_reach_8 : decode cX1_reach 8 = .ok (.iload_n 3, 1) := by decide +kernel
theorem dX1_reach_9 : decode cX1_reach 9 = .ok (.invokevirtual 72, 3) := by decide +kernel
theorem dX1_reach_12 : decode cX1_reach 12 = .ok (.ifCond .eq 12, 3) := by decide +kernel
theorem dX1_reach_15 : decode cX1_reach 15 = .ok (.aload_n 0, 1) := by decide +kernel
theorem dX1_reach_16 : decode cX1_reach 16 = .ok (.iload 4, 2) := by decide +kernel
theorem dX1_reach_18 : decode cX1_reach 18 = .ok (.invokevirtual 75, 3) := by decide +kernel
theorem dX1_reach_21 : decode cX1_reach 21 = .ok (.ifCond .ne 6, 3) := by decide +kernel
theorem dX1_reach_24 : decode cX1_reach 24 = .ok (.bipush (-101), 2) := by decide +kernel
theorem dX1_reach_26 : decode cX1_reach 26 = .ok (.ireturn, 1) := by decide +kernel
theorem dX1_reach_27 : decode cX1_reach 27 = .ok (.iload_n 2, 1) := by decide +kernel
theorem dX1_reach_28 : decode cX1_reach 28 = .ok (.iconst 0, 1) := by decide +kernel
theorem dX1_reach_29 : decode cX1_reach 29 = .ok (.iconst 5, 1) := by decide +kernel
theorem dX1_reach_30 : decode cX1_reach 30 = .ok (.invokestatic 64, 3) := by decide +kernel
theorem dX1_reach_33 : decode cX1_reach 33 = .ok (.ifCond .eq 13, 3) := by decide +kernel
theorem dX1_reach_36 : decode cX1_reach 36 = .ok (.iload 5, 2) := by decide +kernel
theorem dX1_reach_38 : decode cX1_reach 38 = .ok (.iconst 0, 1) := by decide +kernel
theorem dX1_reach_39 : decode cX1_reach 39 = .ok (.iconst 1, 1) := by decide +kernel
theorem dX1_reach_40 : decode cX1_reach 40 = .ok (.invokestatic 64, 3) := by decide +kernel
theorem dX1_reach_43 : decode cX1_reach 43 = .ok (.ifCond .ne 6, 3) := by decide +kernel
theorem dX1_reach_46 : decode cX1_reach 46 = .ok (.bipush (-102), 2) := by decide +kernel
theorem dX1_reach_48 : decode cX1_reach 48 = .ok (.ireturn, 1) := by decide +kernel
theorem dX1_reach_49 : decode cX1_reach 49 = .ok (.aload_n 0, 1) := by decide +kernel
theorem dX1_reach_50 : decode cX1_reach 50 = .ok (.getfield 24, 3) := by decide +kernel
theorem dX1_reach_53 : decode cX1_reach 53 = .ok (.bipush 10, 2) := by decide +kernel
theorem dX1_reach_55 : decode cX1_reach 55 = .ok (.iload_n 3, 1) := by decide +kernel
theorem dX1_reach_56 : decode cX1_reach 56 = .ok (.imul, 1) := by decide +kernel
theorem dX1_reach_57 : decode cX1_reach 57 = .ok (.iload 4, 2) := by decide +kernel
theorem dX1_reach_59 : decode cX1_reach 59 = .ok (.iadd, 1) := by decide +kernel
theorem dX1_reach_60 : decode cX1_reach 60 = .ok (.baload, 1) := by decide +kernel
theorem dX1_reach_61 : decode cX1_reach 61 = .ok (.ifCond .eq 6, 3) := by decide +kernel
theorem dX1_reach_64 : decode cX1_reach 64 = .ok (.bipush (-103), 2) := by decide +kernel
theorem dX1_reach_66 : decode cX1_reach 66 = .ok (.ireturn, 1) := by decide +kernel
theorem dX1_reach_67 : decode cX1_reach 67 = .ok (.aload_n 0, 1) := by decide +kernel
theorem dX1_reach_68 : decode cX1_reach 68 = .ok (.iload_n 1, 1) := by decide +kernel
theorem dX1_reach_69 : decode cX1_reach 69 = .ok (.iload_n 2, 1) := by decide +kernel
theorem dX1_reach_70 : decode cX1_reach 70 = .ok (.iload_n 3, 1) := by decide +kernel
theorem dX1_reach_71 : decode cX1_reach 71 = .ok (.iload 4, 2) := by decide +kernel
theorem dX1_reach_73 : decode cX1_reach 73 = .ok (.iconst 1, 1) := by decide +kernel
theorem dX1_reach_74 : decode cX1_reach 74 = .ok (.invokevirtual 144, 3) := by decide +kernel
theorem dX1_reach_77 : decode cX1_reach 77 = .ok (.iload 5, 2) := by decide +kernel
theorem dX1_reach_79 : decode cX1_reach 79 = .ok (.ifCond .ne 10, 3) := by decide +kernel
theorem dX1_reach_82 : decode cX1_reach 82 = .ok (.aload_n 0, 1) := by decide +kernel
theorem dX1_reach_83 : decode cX1_reach 83 = .ok (.getfield 128, 3) := by decide +kernel
theorem dX1_reach_86 : decode cX1_reach 86 = .ok (.goto 7, 3) := by decide +kernel
theorem dX1_reach_89 : decode cX1_reach 89 = .ok (.aload_n 0, 1) := by decide +kernel
theorem dX1_reach_90 : decode cX1_reach 90 = .ok (.getfield 131, 3) := by decide +kernel
theorem dX1_reach_93 : decode cX1_reach 93 = .ok (.ireturn, 1) := by decide +kernel
set_option maxRecDepth 20000 in
theorem ggX1_sway_X1_isRound : GoodIn wsX1_sway wsX1_isRound := goodIn_r _ [8, 9, 10, 7, 11] (by decide +kernel) (by decide +kernel)
set_option maxRecDepth 20000 in
theorem gX1_sway_X1_isRound : GoodIn wsX1_sway (va_wsS RX1 68 yX1_isRound wsX1_isRound) := goodIn_app (goodIn_of _ (by decide +kernel)) ggX1_sway_X1_isRound
set_option maxRecDepth 20000 in
theorem ggX1_sway_X1_isJuror : GoodIn wsX1_sway wsX1_isJuror := goodIn_r _ [15, 16, 9, 10, 7, 11, 80, 81, 82, 83, 84, 85, 86, 87, 88, 89, 90, 91, 92, 93, 94, 95, 96, 97, 98, 99, 100, 101, 102] (by decide +kernel) (by decide +kernel)
set_option maxRecDepth 20000 in
theorem gX1_sway_X1_isJuror : GoodIn wsX1_sway (wsV RX1 72 RX1 yX1_isJuror wsX1_isJuror) := goodIn_app (goodIn_of _ (by decide +kernel)) ggX1_sway_X1_isJuror
set_option maxRecDepth 20000 in
theorem ggX1_sway_X1_in : GoodIn wsX1_sway wsX1_in := goodIn_r _ [11] (by decide +kernel) (by decide +kernel)
set_option maxRecDepth 20000 in
theorem gX1_sway_X1_in : GoodIn wsX1_sway (va_wsS RX1 64 yX1_in wsX1_in) := goodIn_app (goodIn_of _ (by decide +kernel)) ggX1_sway_X1_in
set_option maxRecDepth 20000 in
theorem ggX1_sway_X1_passes : GoodIn wsX1_sway wsX1_passes := goodIn_r _ [20, 21, 22, 23, 7, 24, 16, 25, 26, 27, 28, 2, 29, 30, 31, 32, 33, 1, 34, 35, 36, 37, 38, 39, 40, 41, 42, 43, 44, 45, 46, 47, 48, 49, 50, 51, 52, 53, 54, 55, 56, 57, 58, 59, 60, 61, 62, 63, 64, 65, 66, 67, 68, 69, 80, 81, 82, 83, 84, 85, 86, 87, 88, 89, 90, 91, 92, 93, 94, 95, 96, 97, 98, 99, 100, 101, 102] (by decide +kernel) (by decide +kernel)
set_option maxRecDepth 20000 in
theorem gX1_sway_X1_passes : GoodIn wsX1_sway (wsV RX1 121 RX1 yX1_passes wsX1_passes) := goodIn_app (goodIn_of _ (by decide +kernel)) ggX1_sway_X1_passes
set_option maxRecDepth 20000 in
theorem ggX1_sway_X1_seek : GoodIn wsX1_sway wsX1_seek := goodIn_r _ [73, 74, 75, 4, 3, 56, 29, 76, 77, 78, 7, 79, 30, 31, 32, 33, 1, 34, 35, 36, 37, 38, 39, 40, 41, 42, 43, 44, 45, 46, 16, 25, 26, 27, 28, 2, 47, 48, 49, 50, 51, 52, 53, 54, 55, 57, 58, 59, 60, 21, 22, 23, 24, 61, 62, 63, 64, 65, 66, 67, 68, 69, 17, 18, 19, 20, 80, 81, 82, 83, 84, 85, 86, 87, 88, 89, 90, 91, 92, 93, 94, 95, 96, 97, 98, 99, 100, 101, 102] (by decide +kernel) (by decide +kernel)
set_option maxRecDepth 20000 in
theorem gX1_sway_X1_seek : GoodIn wsX1_sway (wsV RX1 144 RX1 yX1_seek wsX1_seek) := goodIn_app (goodIn_of _ (by decide +kernel)) ggX1_sway_X1_seek
theorem dX1_sway_0 : decode cX1_sway 0 = .ok (.iload_n 1, 1) := by decide +kernel
theorem dX1_sway_1 : decode cX1_sway 1 = .ok (.invokestatic 68, 3) := by decide +kernel
theorem dX1_sway_4 : decode cX1_sway 4 = .ok (.ifCond .eq 11, 3) := by decide +kernel
theorem dX1_sway_7 : decode cX1_sway 7 = .ok (.aload_n 0, 1) := by decide +kernel
theorem dX1_sway_8 : decode cX1_sway 8 = .ok (.iload_n 3, 1) := by decide +kernel
theorem dX1_sway_9 : decode cX1_sway 9 = .ok (.invokevirtual 72, 3) := by decide +kernel
theorem dX1_sway_12 : decode cX1_sway 12 = .ok (.ifCond .ne 6, 3) := by decide +kernel
theorem dX1_sway_15 : decode cX1_sway 15 = .ok (.bipush (-101), 2) := by decide +kernel
theorem dX1_sway_17 : decode cX1_sway 17 = .ok (.ireturn, 1) := by decide +kernel
theorem dX1_sway_18 : decode cX1_sway 18 = .ok (.iload_n 2, 1) := by decide +kernel
theorem dX1_sway_19 : decode cX1_sway 19 = .ok (.iconst 0, 1) := by decide +kernel
theorem dX1_sway_20 : decode cX1_sway 20 = .ok (.iconst 5, 1) := by decide +kernel
theorem dX1_sway_21 : decode cX1_sway 21 = .ok (.invokestatic 64, 3) := by decide +kernel
theorem dX1_sway_24 : decode cX1_sway 24 = .ok (.ifCond .eq 14, 3) := by decide +kernel
theorem dX1_sway_27 : decode cX1_sway 27 = .ok (.iload 4, 2) := by decide +kernel
theorem dX1_sway_29 : decode cX1_sway 29 = .ok (.iconst 1, 1) := by decide +kernel
theorem dX1_sway_30 : decode cX1_sway 30 = .ok (.bipush 10, 2) := by decide +kernel
theorem dX1_sway_32 : decode cX1_sway 32 = .ok (.invokestatic 64, 3) := by decide +kernel
theorem dX1_sway_35 : decode cX1_sway 35 = .ok (.ifCond .ne 6, 3) := by decide +kernel
theorem dX1_sway_38 : decode cX1_sway 38 = .ok (.bipush (-102), 2) := by decide +kernel
theorem dX1_sway_40 : decode cX1_sway 40 = .ok (.ireturn, 1) := by decide +kernel
theorem dX1_sway_41 : decode cX1_sway 41 = .ok (.iconst 0, 1) := by decide +kernel
theorem dX1_sway_42 : decode cX1_sway 42 = .ok (.istore 5, 2) := by decide +kernel
theorem dX1_sway_44 : decode cX1_sway 44 = .ok (.iconst 0, 1) := by decide +kernel
theorem dX1_sway_45 : decode cX1_sway 45 = .ok (.istore 6, 2) := by decide +kernel
theorem dX1_sway_47 : decode cX1_sway 47 = .ok (.iload 6, 2) := by decide +kernel
theorem dX1_sway_49 : decode cX1_sway 49 = .ok (.aload_n 0, 1) := by decide +kernel
theorem dX1_sway_50 : decode cX1_sway 50 = .ok (.getfield 7, 3) := by decide +kernel
theorem dX1_sway_53 : decode cX1_sway 53 = .ok (.if_icmp .ge 84, 3) := by decide +kernel
theorem dX1_sway_56 : decode cX1_sway 56 = .ok (.aload_n 0, 1) := by decide +kernel
theorem dX1_sway_57 : decode cX1_sway 57 = .ok (.getfield 24, 3) := by decide +kernel
theorem dX1_sway_60 : decode cX1_sway 60 = .ok (.bipush 10, 2) := by decide +kernel
theorem dX1_sway_62 : decode cX1_sway 62 = .ok (.iload_n 3, 1) := by decide +kernel
theorem dX1_sway_63 : decode cX1_sway 63 = .ok (.imul, 1) := by decide +kernel
theorem dX1_sway_64 : decode cX1_sway 64 = .ok (.iload 6, 2) := by decide +kernel
theorem dX1_sway_66 : decode cX1_sway 66 = .ok (.iadd, 1) := by decide +kernel
theorem dX1_sway_67 : decode cX1_sway 67 = .ok (.baload, 1) := by decide +kernel
theorem dX1_sway_68 : decode cX1_sway 68 = .ok (.ifCond .ne 63, 3) := by decide +kernel
theorem dX1_sway_71 : decode cX1_sway 71 = .ok (.aload_n 0, 1) := by decide +kernel
theorem dX1_sway_72 : decode cX1_sway 72 = .ok (.iload_n 1, 1) := by decide +kernel
theorem dX1_sway_73 : decode cX1_sway 73 = .ok (.iload_n 2, 1) := by decide +kernel
theorem dX1_sway_74 : decode cX1_sway 74 = .ok (.iload 6, 2) := by decide +kernel
theorem dX1_sway_76 : decode cX1_sway 76 = .ok (.iload 4, 2) := by decide +kernel
theorem dX1_sway_78 : decode cX1_sway 78 = .ok (.invokevirtual 121, 3) := by decide +kernel
theorem dX1_sway_81 : decode cX1_sway 81 = .ok (.istore 7, 2) := by decide +kernel
theorem dX1_sway_83 : decode cX1_sway 83 = .ok (.aload_n 0, 1) := by decide +kernel
theorem dX1_sway_84 : decode cX1_sway 84 = .ok (.iload_n 1, 1) := by decide +kernel
theorem dX1_sway_85 : decode cX1_sway 85 = .ok (.iload_n 2, 1) := by decide +kernel
theorem dX1_sway_86 : decode cX1_sway 86 = .ok (.iload_n 3, 1) := by decide +kernel
theorem dX1_sway_87 : decode cX1_sway 87 = .ok (.iload 6, 2) := by decide +kernel
theorem dX1_sway_89 : decode cX1_sway 89 = .ok (.iload 4, 2) := by decide +kernel
theorem dX1_sway_91 : decode cX1_sway 91 = .ok (.invokevirtual 144, 3) := by decide +kernel
theorem dX1_sway_94 : decode cX1_sway 94 = .ok (.iload 5, 2) := by decide +kernel
theorem dX1_sway_96 : decode cX1_sway 96 = .ok (.iload 7, 2) := by decide +kernel
theorem dX1_sway_98 : decode cX1_sway 98 = .ok (.ifCond .eq 18, 3) := by decide +kernel
theorem dX1_sway_101 : decode cX1_sway 101 = .ok (.aload_n 0, 1) := by decide +kernel
theorem dX1_sway_102 : decode cX1_sway 102 = .ok (.getfield 137, 3) := by decide +kernel
theorem dX1_sway_105 : decode cX1_sway 105 = .ok (.ifCond .eq 7, 3) := by decide +kernel
theorem dX1_sway_108 : decode cX1_sway 108 = .ok (.iconst 1, 1) := by decide +kernel
theorem dX1_sway_109 : decode cX1_sway 109 = .ok (.goto 19, 3) := by decide +kernel
theorem dX1_sway_112 : decode cX1_sway 112 = .ok (.iconst 0, 1) := by decide +kernel
theorem dX1_sway_113 : decode cX1_sway 113 = .ok (.goto 15, 3) := by decide +kernel
theorem dX1_sway_116 : decode cX1_sway 116 = .ok (.aload_n 0, 1) := by decide +kernel
theorem dX1_sway_117 : decode cX1_sway 117 = .ok (.getfield 134, 3) := by decide +kernel
theorem dX1_sway_120 : decode cX1_sway 120 = .ok (.ifCond .eq 7, 3) := by decide +kernel
theorem dX1_sway_123 : decode cX1_sway 123 = .ok (.iconst 1, 1) := by decide +kernel
theorem dX1_sway_124 : decode cX1_sway 124 = .ok (.goto 4, 3) := by decide +kernel
theorem dX1_sway_127 : decode cX1_sway 127 = .ok (.iconst 0, 1) := by decide +kernel
theorem dX1_sway_128 : decode cX1_sway 128 = .ok (.iadd, 1) := by decide +kernel
theorem dX1_sway_129 : decode cX1_sway 129 = .ok (.istore 5, 2) := by decide +kernel
theorem dX1_sway_131 : decode cX1_sway 131 = .ok (.iinc 6 1, 3) := by decide +kernel
theorem dX1_sway_134 : decode cX1_sway 134 = .ok (.goto (-87), 3) := by decide +kernel
theorem dX1_sway_137 : decode cX1_sway 137 = .ok (.iload 5, 2) := by decide +kernel
theorem dX1_sway_139 : decode cX1_sway 139 = .ok (.ireturn, 1) := by decide +kernel
set_option maxRecDepth 20000 in
theorem ggX1_weight_X1_isRound : GoodIn wsX1_weight wsX1_isRound := goodIn_r _ [5, 6, 7, 4, 8] (by decide +kernel) (by decide +kernel)
set_option maxRecDepth 20000 in
theorem gX1_weight_X1_isRound : GoodIn wsX1_weight (va_wsS RX1 68 yX1_isRound wsX1_isRound) := goodIn_app (goodIn_of _ (by decide +kernel)) ggX1_weight_X1_isRound
set_option maxRecDepth 20000 in
theorem ggX1_weight_X1_in : GoodIn wsX1_weight wsX1_in := goodIn_r _ [8] (by decide +kernel) (by decide +kernel)
set_option maxRecDepth 20000 in
theorem gX1_weight_X1_in : GoodIn wsX1_weight (va_wsS RX1 64 yX1_in wsX1_in) := goodIn_app (goodIn_of _ (by decide +kernel)) ggX1_weight_X1_in
theorem dX1_weight_0 : decode cX1_weight 0 = .ok (.iload_n 1, 1) := by decide +kernel
theorem dX1_weight_1 : decode cX1_weight 1 = .ok (.invokestatic 68, 3) := by decide +kernel
theorem dX1_weight_4 : decode cX1_weight 4 = .ok (.ifCond .ne 6, 3) := by decide +kernel
theorem dX1_weight_7 : decode cX1_weight 7 = .ok (.bipush (-101), 2) := by decide +kernel
theorem dX1_weight_9 : decode cX1_weight 9 = .ok (.ireturn, 1) := by decide +kernel
theorem dX1_weight_10 : decode cX1_weight 10 = .ok (.iload_n 2, 1) := by decide +kernel
theorem dX1_weight_11 : decode cX1_weight 11 = .ok (.iconst 0, 1) := by decide +kernel
theorem dX1_weight_12 : decode cX1_weight 12 = .ok (.bipush 10, 2) := by decide +kernel
theorem dX1_weight_14 : decode cX1_weight 14 = .ok (.invokestatic 64, 3) := by decide +kernel
theorem dX1_weight_17 : decode cX1_weight 17 = .ok (.ifCond .ne 6, 3) := by decide +kernel
theorem dX1_weight_20 : decode cX1_weight 20 = .ok (.bipush (-102), 2) := by decide +kernel
theorem dX1_weight_22 : decode cX1_weight 22 = .ok (.ireturn, 1) := by decide +kernel
theorem dX1_weight_23 : decode cX1_weight 23 = .ok (.aload_n 0, 1) := by decide +kernel
theorem dX1_weight_24 : decode cX1_weight 24 = .ok (.getfield 33, 3) := by decide +kernel
theorem dX1_weight_27 : decode cX1_weight 27 = .ok (.iload_n 1, 1) := by decide +kernel
theorem dX1_weight_28 : decode cX1_weight 28 = .ok (.iaload, 1) := by decide +kernel
theorem dX1_weight_29 : decode cX1_weight 29 = .ok (.istore_n 3, 1) := by decide +kernel
theorem dX1_weight_30 : decode cX1_weight 30 = .ok (.aload_n 0, 1) := by decide +kernel
theorem dX1_weight_31 : decode cX1_weight 31 = .ok (.getfield 33, 3) := by decide +kernel
theorem dX1_weight_34 : decode cX1_weight 34 = .ok (.iload_n 1, 1) := by decide +kernel
theorem dX1_weight_35 : decode cX1_weight 35 = .ok (.iload_n 2, 1) := by decide +kernel
theorem dX1_weight_36 : decode cX1_weight 36 = .ok (.iastore, 1) := by decide +kernel
theorem dX1_weight_37 : decode cX1_weight 37 = .ok (.iload_n 3, 1) := by decide +kernel
theorem dX1_weight_38 : decode cX1_weight 38 = .ok (.ireturn, 1) := by decide +kernel
set_option maxRecDepth 20000 in
theorem ggX1_totalOf_X1_scoreOf : GoodIn wsX1_totalOf wsX1_scoreOf := goodIn_r _ [6, 7, 8, 9, 10, 11, 12, 13, 14, 5, 15, 16, 17, 18, 19, 20, 21, 22, 23, 24, 25, 26, 27, 28, 29, 30, 31, 32, 33, 34, 35, 36, 37, 38, 39, 40, 41, 42, 43, 44, 45, 46, 47, 48, 49, 50, 51, 52, 53, 54, 55, 56, 57, 58, 59, 60, 61, 62, 63, 64, 65, 66, 67, 68, 69, 70, 71, 72, 73] (by decide +kernel) (by decide +kernel)
set_option maxRecDepth 20000 in
theorem gX1_totalOf_X1_scoreOf : GoodIn wsX1_totalOf (wsV RX1 115 RX1 yX1_scoreOf wsX1_scoreOf) := goodIn_app (goodIn_of _ (by decide +kernel)) ggX1_totalOf_X1_scoreOf
theorem dX1_totalOf_0 : decode cX1_totalOf 0 = .ok (.iconst 0, 1) := by decide +kernel
theorem dX1_totalOf_1 : decode cX1_totalOf 1 = .ok (.istore_n 2, 1) := by decide +kernel
theorem dX1_totalOf_2 : decode cX1_totalOf 2 = .ok (.iconst 0, 1) := by decide +kernel
theorem dX1_totalOf_3 : decode cX1_totalOf 3 = .ok (.istore_n 3, 1) := by decide +kernel
theorem dX1_totalOf_4 : decode cX1_totalOf 4 = .ok (.iload_n 3, 1) := by decide +kernel
theorem dX1_totalOf_5 : decode cX1_totalOf 5 = .ok (.iconst 3, 1) := by decide +kernel
theorem dX1_totalOf_6 : decode cX1_totalOf 6 = .ok (.if_icmp .ge 47, 3) := by decide +kernel
theorem dX1_totalOf_9 : decode cX1_totalOf 9 = .ok (.aload_n 0, 1) := by decide +kernel
theorem dX1_totalOf_10 : decode cX1_totalOf 10 = .ok (.getfield 33, 3) := by decide +kernel
theorem dX1_totalOf_13 : decode cX1_totalOf 13 = .ok (.iload_n 3, 1) := by decide +kernel
theorem dX1_totalOf_14 : decode cX1_totalOf 14 = .ok (.iaload, 1) := by decide +kernel
theorem dX1_totalOf_15 : decode cX1_totalOf 15 = .ok (.ifCond .le 32, 3) := by decide +kernel
theorem dX1_totalOf_18 : decode cX1_totalOf 18 = .ok (.aload_n 0, 1) := by decide +kernel
theorem dX1_totalOf_19 : decode cX1_totalOf 19 = .ok (.iload_n 3, 1) := by decide +kernel
theorem dX1_totalOf_20 : decode cX1_totalOf 20 = .ok (.iconst 0, 1) := by decide +kernel
theorem dX1_totalOf_21 : decode cX1_totalOf 21 = .ok (.iload_n 1, 1) := by decide +kernel
theorem dX1_totalOf_22 : decode cX1_totalOf 22 = .ok (.invokevirtual 115, 3) := by decide +kernel
theorem dX1_totalOf_25 : decode cX1_totalOf 25 = .ok (.istore 4, 2) := by decide +kernel
theorem dX1_totalOf_27 : decode cX1_totalOf 27 = .ok (.iload 4, 2) := by decide +kernel
theorem dX1_totalOf_29 : decode cX1_totalOf 29 = .ok (.iconst (-1), 1) := by decide +kernel
theorem dX1_totalOf_30 : decode cX1_totalOf 30 = .ok (.if_icmp .ne 5, 3) := by decide +kernel
theorem dX1_totalOf_33 : decode cX1_totalOf 33 = .ok (.iconst (-1), 1) := by decide +kernel
theorem dX1_totalOf_34 : decode cX1_totalOf 34 = .ok (.ireturn, 1) := by decide +kernel
theorem dX1_totalOf_35 : decode cX1_totalOf 35 = .ok (.iload_n 2, 1) := by decide +kernel
theorem dX1_totalOf_36 : decode cX1_totalOf 36 = .ok (.aload_n 0, 1) := by decide +kernel
theorem dX1_totalOf_37 : decode cX1_totalOf 37 = .ok (.getfield 33, 3) := by decide +kernel
theorem dX1_totalOf_40 : decode cX1_totalOf 40 = .ok (.iload_n 3, 1) := by decide +kernel
theorem dX1_totalOf_41 : decode cX1_totalOf 41 = .ok (.iaload, 1) := by decide +kernel
theorem dX1_totalOf_42 : decode cX1_totalOf 42 = .ok (.iload 4, 2) := by decide +kernel
theorem dX1_totalOf_44 : decode cX1_totalOf 44 = .ok (.imul, 1) := by decide +kernel
theorem dX1_totalOf_45 : decode cX1_totalOf 45 = .ok (.iadd, 1) := by decide +kernel
theorem dX1_totalOf_46 : decode cX1_totalOf 46 = .ok (.istore_n 2, 1) := by decide +kernel
theorem dX1_totalOf_47 : decode cX1_totalOf 47 = .ok (.iinc 3 1, 3) := by decide +kernel
theorem dX1_totalOf_50 : decode cX1_totalOf 50 = .ok (.goto (-46), 3) := by decide +kernel
theorem dX1_totalOf_53 : decode cX1_totalOf 53 = .ok (.iload_n 2, 1) := by decide +kernel
theorem dX1_totalOf_54 : decode cX1_totalOf 54 = .ok (.ireturn, 1) := by decide +kernel
set_option maxRecDepth 20000 in
theorem ggX1_total_X1_isPlayer : GoodIn wsX1_total wsX1_isPlayer := goodIn_r _ [5, 6, 7, 8, 4, 9, 62, 63, 64, 65, 66, 67, 68, 69, 70, 71, 72, 73, 74, 75, 76, 77, 78, 79, 80, 81, 82, 83, 84] (by decide +kernel) (by decide +kernel)
set_option maxRecDepth 20000 in
theorem gX1_total_X1_isPlayer : GoodIn wsX1_total (wsV RX1 75 RX1 yX1_isPlayer wsX1_isPlayer) := goodIn_app (goodIn_of _ (by decide +kernel)) ggX1_total_X1_isPlayer
set_option maxRecDepth 20000 in
theorem ggX1_total_X1_totalOf : GoodIn wsX1_total wsX1_totalOf := goodIn_r _ [13, 14, 15, 16, 17, 4, 18, 19, 20, 21, 22, 23, 24, 25, 26, 27, 28, 29, 30, 31, 32, 33, 34, 35, 36, 37, 38, 39, 40, 41, 42, 43, 44, 45, 46, 47, 48, 6, 49, 50, 51, 52, 53, 54, 55, 56, 57, 58, 59, 60, 61, 62, 63, 64, 65, 66, 67, 68, 69, 70, 71, 72, 73, 74, 75, 76, 77, 78, 79, 80, 81, 82, 83, 84] (by decide +kernel) (by decide +kernel)
set_option maxRecDepth 20000 in
theorem gX1_total_X1_totalOf : GoodIn wsX1_total (wsV RX1 148 RX1 yX1_totalOf wsX1_totalOf) := goodIn_app (goodIn_of _ (by decide +kernel)) ggX1_total_X1_totalOf
theorem dX1_total_0 : decode cX1_total 0 = .ok (.aload_n 0, 1) := by decide +kernel
theorem dX1_total_1 : decode cX1_total 1 = .ok (.iload_n 1, 1) := by decide +kernel
theorem dX1_total_2 : decode cX1_total 2 = .ok (.invokevirtual 75, 3) := by decide +kernel
theorem dX1_total_5 : decode cX1_total 5 = .ok (.ifCond .eq 11, 3) := by decide +kernel
theorem dX1_total_8 : decode cX1_total 8 = .ok (.aload_n 0, 1) := by decide +kernel
theorem dX1_total_9 : decode cX1_total 9 = .ok (.iload_n 1, 1) := by decide +kernel
theorem dX1_total_10 : decode cX1_total 10 = .ok (.invokevirtual 148, 3) := by decide +kernel
theorem dX1_total_13 : decode cX1_total 13 = .ok (.goto 5, 3) := by decide +kernel
theorem dX1_total_16 : decode cX1_total 16 = .ok (.bipush (-101), 2) := by decide +kernel
theorem dX1_total_18 : decode cX1_total 18 = .ok (.ireturn, 1) := by decide +kernel
set_option maxRecDepth 20000 in
theorem ggX1_lastOf_X1_totalOf : GoodIn wsX1_lastOf wsX1_totalOf := goodIn_r _ [6, 7, 8, 9, 10, 5, 11, 12, 13, 14, 15, 16, 17, 18, 19, 20, 21, 22, 23, 24, 25, 26, 27, 28, 29, 30, 31, 32, 33, 34, 35, 36, 37, 38, 39, 40, 41, 1, 42, 43, 44, 45, 46, 47, 48, 49, 50, 51, 52, 53, 54, 55, 56, 57, 58, 59, 60, 61, 62, 63, 64, 65, 66, 67, 68, 69, 70, 71, 72, 73, 74, 75, 76, 77] (by decide +kernel) (by decide +kernel)
set_option maxRecDepth 20000 in
theorem gX1_lastOf_X1_totalOf : GoodIn wsX1_lastOf (wsV RX1 148 RX1 yX1_totalOf wsX1_totalOf) := goodIn_app (goodIn_of _ (by decide +kernel)) ggX1_lastOf_X1_totalOf
theorem dX1_lastOf_0 : decode cX1_lastOf 0 = .ok (.aload_n 0, 1) := by decide +kernel
theorem dX1_lastOf_1 : decode cX1_lastOf 1 = .ok (.iload_n 1, 1) := by decide +kernel
theorem dX1_lastOf_2 : decode cX1_lastOf 2 = .ok (.invokevirtual 148, 3) := by decide +kernel
theorem dX1_lastOf_5 : decode cX1_lastOf 5 = .ok (.istore_n 2, 1) := by decide +kernel
theorem dX1_lastOf_6 : decode cX1_lastOf 6 = .ok (.iconst 1, 1) := by decide +kernel
theorem dX1_lastOf_7 : decode cX1_lastOf 7 = .ok (.istore_n 3, 1) := by decide +kernel
theorem dX1_lastOf_8 : decode cX1_lastOf 8 = .ok (.iconst 0, 1) := by decide +kernel
theorem dX1_lastOf_9 : decode cX1_lastOf 9 = .ok (.istore 4, 2) := by decide +kernel
theorem dX1_lastOf_11 : decode cX1_lastOf 11 = .ok (.iload 4, 2) := by decide +kernel
theorem dX1_lastOf_13 : decode cX1_lastOf 13 = .ok (.aload_n 0, 1) := by decide +kernel
theorem dX1_lastOf_14 : decode cX1_lastOf 14 = .ok (.getfield 7, 3) := by decide +kernel
theorem dX1_lastOf_17 : decode cX1_lastOf 17 = .ok (.if_icmp .ge 33, 3) := by decide +kernel
theorem dX1_lastOf_20 : decode cX1_lastOf 20 = .ok (.iload_n 3, 1) := by decide +kernel
theorem dX1_lastOf_21 : decode cX1_lastOf 21 = .ok (.iload 4, 2) := by decide +kernel
theorem dX1_lastOf_23 : decode cX1_lastOf 23 = .ok (.iload_n 1, 1) := by decide +kernel
theorem dX1_lastOf_24 : decode cX1_lastOf 24 = .ok (.if_icmp .eq 17, 3) := by decide +kernel
theorem dX1_lastOf_27 : decode cX1_lastOf 27 = .ok (.aload_n 0, 1) := by decide +kernel
theorem dX1_lastOf_28 : decode cX1_lastOf 28 = .ok (.iload 4, 2) := by decide +kernel
theorem dX1_lastOf_30 : decode cX1_lastOf 30 = .ok (.invokevirtual 148, 3) := by decide +kernel
theorem dX1_lastOf_33 : decode cX1_lastOf 33 = .ok (.iload_n 2, 1) := by decide +kernel
theorem dX1_lastOf_34 : decode cX1_lastOf 34 = .ok (.if_icmp .le 7, 3) := by decide +kernel
theorem dX1_lastOf_37 : decode cX1_lastOf 37 = .ok (.iconst 1, 1) := by decide +kernel
theorem dX1_lastOf_38 : decode cX1_lastOf 38 = .ok (.goto 4, 3) := by decide +kernel
theorem dX1_lastOf_41 : decode cX1_lastOf 41 = .ok (.iconst 0, 1) := by decide +kernel
theorem dX1_lastOf_42 : decode cX1_lastOf 42 = .ok (.iadd, 1) := by decide +kernel
theorem dX1_lastOf_43 : decode cX1_lastOf 43 = .ok (.istore_n 3, 1) := by decide +kernel
theorem dX1_lastOf_44 : decode cX1_lastOf 44 = .ok (.iinc 4 1, 3) := by decide +kernel
theorem dX1_lastOf_47 : decode cX1_lastOf 47 = .ok (.goto (-36), 3) := by decide +kernel
theorem dX1_lastOf_50 : decode cX1_lastOf 50 = .ok (.iload_n 3, 1) := by decide +kernel
theorem dX1_lastOf_51 : decode cX1_lastOf 51 = .ok (.ireturn, 1) := by decide +kernel
set_option maxRecDepth 20000 in
theorem ggX1_last_X1_isPlayer : GoodIn wsX1_last wsX1_isPlayer := goodIn_r _ [5, 6, 7, 8, 4, 9, 66, 67, 68, 69, 70, 71, 72, 73, 74, 75, 76, 77, 78, 79, 80, 81, 82, 83, 84, 85, 86, 87, 88] (by decide +kernel) (by decide +kernel)
set_option maxRecDepth 20000 in
theorem gX1_last_X1_isPlayer : GoodIn wsX1_last (wsV RX1 75 RX1 yX1_isPlayer wsX1_isPlayer) := goodIn_app (goodIn_of _ (by decide +kernel)) ggX1_last_X1_isPlayer
set_option maxRecDepth 20000 in
theorem ggX1_last_X1_lastOf : GoodIn wsX1_last wsX1_lastOf := goodIn_r _ [13, 6, 14, 15, 16, 4, 17, 18, 19, 20, 21, 22, 23, 24, 25, 26, 27, 28, 29, 30, 31, 32, 33, 34, 35, 36, 37, 38, 39, 40, 41, 42, 43, 44, 45, 46, 47, 48, 49, 50, 51, 52, 53, 54, 55, 56, 57, 58, 59, 60, 61, 62, 63, 64, 65, 66, 67, 68, 69, 70, 71, 72, 73, 74, 75, 76, 77, 78, 79, 80, 81, 82, 83, 84, 85, 86, 87, 88] (by decide +kernel) (by decide +kernel)
set_option maxRecDepth 20000 in
theorem gX1_last_X1_lastOf : GoodIn wsX1_last (wsV RX1 152 RX1 yX1_lastOf wsX1_lastOf) := goodIn_app (goodIn_of _ (by decide +kernel)) ggX1_last_X1_lastOf
theorem dX1_last_0 : decode cX1_last 0 = .ok (.aload_n 0, 1) := by decide +kernel
theorem dX1_last_1 : decode cX1_last 1 = .ok (.iload_n 1, 1) := by decide +kernel
theorem dX1_last_2 : decode cX1_last 2 = .ok (.invokevirtual 75, 3) := by decide +kernel
theorem dX1_last_5 : decode cX1_last 5 = .ok (.ifCond .eq 11, 3) := by decide +kernel
theorem dX1_last_8 : decode cX1_last 8 = .ok (.aload_n 0, 1) := by decide +kernel
theorem dX1_last_9 : decode cX1_last 9 = .ok (.iload_n 1, 1) := by decide +kernel
theorem dX1_last_10 : decode cX1_last 10 = .ok (.invokevirtual 152, 3) := by decide +kernel
theorem dX1_last_13 : decode cX1_last 13 = .ok (.goto 5, 3) := by decide +kernel
theorem dX1_last_16 : decode cX1_last 16 = .ok (.bipush (-101), 2) := by decide +kernel
theorem dX1_last_18 : decode cX1_last 18 = .ok (.ireturn, 1) := by decide +kernel
set_option maxRecDepth 20000 in
theorem ggX1_prize_X1_in : GoodIn wsX1_prize wsX1_in := goodIn_r _ [6] (by decide +kernel) (by decide +kernel)
set_option maxRecDepth 20000 in
theorem gX1_prize_X1_in : GoodIn wsX1_prize (va_wsS RX1 64 yX1_in wsX1_in) := goodIn_app (goodIn_of _ (by decide +kernel)) ggX1_prize_X1_in
theorem dX1_prize_0 : decode cX1_prize 0 = .ok (.iload_n 1, 1) := by decide +kernel
theorem dX1_prize_1 : decode cX1_prize 1 = .ok (.iconst 0, 1) := by decide +kernel
theorem dX1_prize_2 : decode cX1_prize 2 = .ok (.iconst 5, 1) := by decide +kernel
theorem dX1_prize_3 : decode cX1_prize 3 = .ok (.invokestatic 64, 3) := by decide +kernel
theorem dX1_prize_6 : decode cX1_prize 6 = .ok (.ifCond .ne 6, 3) := by decide +kernel
theorem dX1_prize_9 : decode cX1_prize 9 = .ok (.bipush (-101), 2) := by decide +kernel
theorem dX1_prize_11 : decode cX1_prize 11 = .ok (.ireturn, 1) := by decide +kernel
theorem dX1_prize_12 : decode cX1_prize 12 = .ok (.iload_n 2, 1) := by decide +kernel
theorem dX1_prize_13 : decode cX1_prize 13 = .ok (.iconst 0, 1) := by decide +kernel
theorem dX1_prize_14 : decode cX1_prize 14 = .ok (.ldc 155, 2) := by decide +kernel
theorem dX1_prize_16 : decode cX1_prize 16 = .ok (.invokestatic 64, 3) := by decide +kernel
theorem dX1_prize_19 : decode cX1_prize 19 = .ok (.ifCond .ne 6, 3) := by decide +kernel
theorem dX1_prize_22 : decode cX1_prize 22 = .ok (.bipush (-102), 2) := by decide +kernel
theorem dX1_prize_24 : decode cX1_prize 24 = .ok (.ireturn, 1) := by decide +kernel
theorem dX1_prize_25 : decode cX1_prize 25 = .ok (.aload_n 0, 1) := by decide +kernel
theorem dX1_prize_26 : decode cX1_prize 26 = .ok (.getfield 36, 3) := by decide +kernel
theorem dX1_prize_29 : decode cX1_prize 29 = .ok (.iload_n 1, 1) := by decide +kernel
theorem dX1_prize_30 : decode cX1_prize 30 = .ok (.iaload, 1) := by decide +kernel
theorem dX1_prize_31 : decode cX1_prize 31 = .ok (.istore_n 3, 1) := by decide +kernel
theorem dX1_prize_32 : decode cX1_prize 32 = .ok (.aload_n 0, 1) := by decide +kernel
theorem dX1_prize_33 : decode cX1_prize 33 = .ok (.getfield 36, 3) := by decide +kernel
theorem dX1_prize_36 : decode cX1_prize 36 = .ok (.iload_n 1, 1) := by decide +kernel
theorem dX1_prize_37 : decode cX1_prize 37 = .ok (.iload_n 2, 1) := by decide +kernel
theorem dX1_prize_38 : decode cX1_prize 38 = .ok (.iastore, 1) := by decide +kernel
theorem dX1_prize_39 : decode cX1_prize 39 = .ok (.iload_n 3, 1) := by decide +kernel
theorem dX1_prize_40 : decode cX1_prize 40 = .ok (.ireturn, 1) := by decide +kernel
set_option maxRecDepth 20000 in
theorem ggX1_winsOf_X1_totalOf : GoodIn wsX1_winsOf wsX1_totalOf := goodIn_r _ [7, 8, 9, 10, 11, 6, 12, 13, 14, 15, 16, 17, 18, 19, 20, 21, 22, 23, 24, 25, 26, 27, 28, 29, 30, 31, 32, 33, 34, 35, 36, 37, 38, 39, 40, 41, 42, 1, 43, 44, 45, 46, 47, 48, 49, 50, 51, 52, 53, 54, 55, 60, 61, 62, 63, 64, 65, 66, 67, 68, 69, 70, 71, 72, 73, 74, 75, 76, 77, 78, 79, 80, 81, 82] (by decide +kernel) (by decide +kernel)
set_option maxRecDepth 20000 in
theorem gX1_winsOf_X1_totalOf : GoodIn wsX1_winsOf (wsV RX1 148 RX1 yX1_totalOf wsX1_totalOf) := goodIn_app (goodIn_of _ (by decide +kernel)) ggX1_winsOf_X1_totalOf
set_option maxRecDepth 20000 in
theorem ggX1_winsOf_X1_lastOf : GoodIn wsX1_winsOf wsX1_lastOf := goodIn_r _ [59, 1, 3, 4, 5, 6, 7, 8, 9, 10, 11, 12, 13, 14, 15, 16, 17, 18, 19, 20, 21, 22, 23, 24, 25, 26, 27, 28, 29, 30, 31, 32, 33, 34, 35, 36, 37, 38, 39, 40, 41, 42, 43, 44, 45, 46, 47, 48, 49, 50, 51, 52, 53, 54, 55, 60, 61, 62, 63, 64, 65, 66, 67, 68, 69, 70, 71, 72, 73, 74, 75, 76, 77, 78, 79, 80, 81, 82] (by decide +kernel) (by decide +kernel)
set_option maxRecDepth 20000 in
theorem gX1_winsOf_X1_lastOf : GoodIn wsX1_winsOf (wsV RX1 152 RX1 yX1_lastOf wsX1_lastOf) := goodIn_app (goodIn_of _ (by decide +kernel)) ggX1_winsOf_X1_lastOf
theorem dX1_winsOf_0 : decode cX1_winsOf 0 = .ok (.aload_n 0, 1) := by decide +kernel
theorem dX1_winsOf_1 : decode cX1_winsOf 1 = .ok (.iload_n 1, 1) := by decide +kernel
theorem dX1_winsOf_2 : decode cX1_winsOf 2 = .ok (.invokevirtual 148, 3) := by decide +kernel
theorem dX1_winsOf_5 : decode cX1_winsOf 5 = .ok (.istore_n 2, 1) := by decide +kernel
theorem dX1_winsOf_6 : decode cX1_winsOf 6 = .ok (.iload_n 2, 1) := by decide +kernel
theorem dX1_winsOf_7 : decode cX1_winsOf 7 = .ok (.iconst (-1), 1) := by decide +kernel
theorem dX1_winsOf_8 : decode cX1_winsOf 8 = .ok (.if_icmp .ne 5, 3) := by decide +kernel
theorem dX1_winsOf_11 : decode cX1_winsOf 11 = .ok (.iconst 0, 1) := by decide +kernel
theorem dX1_winsOf_12 : decode cX1_winsOf 12 = .ok (.ireturn, 1) := by decide +kernel
theorem dX1_winsOf_13 : decode cX1_winsOf 13 = .ok (.aload_n 0, 1) := by decide +kernel
theorem dX1_winsOf_14 : decode cX1_winsOf 14 = .ok (.iload_n 1, 1) := by decide +kernel
theorem dX1_winsOf_15 : decode cX1_winsOf 15 = .ok (.invokevirtual 152, 3) := by decide +kernel
theorem dX1_winsOf_18 : decode cX1_winsOf 18 = .ok (.istore_n 3, 1) := by decide +kernel
theorem dX1_winsOf_19 : decode cX1_winsOf 19 = .ok (.iconst 0, 1) := by decide +kernel
theorem dX1_winsOf_20 : decode cX1_winsOf 20 = .ok (.istore 4, 2) := by decide +kernel
theorem dX1_winsOf_22 : decode cX1_winsOf 22 = .ok (.iconst 0, 1) := by decide +kernel
theorem dX1_winsOf_23 : decode cX1_winsOf 23 = .ok (.istore 5, 2) := by decide +kernel
theorem dX1_winsOf_25 : decode cX1_winsOf 25 = .ok (.iconst 0, 1) := by decide +kernel
theorem dX1_winsOf_26 : decode cX1_winsOf 26 = .ok (.istore 6, 2) := by decide +kernel
theorem dX1_winsOf_28 : decode cX1_winsOf 28 = .ok (.iload 6, 2) := by decide +kernel
theorem dX1_winsOf_30 : decode cX1_winsOf 30 = .ok (.aload_n 0, 1) := by decide +kernel
theorem dX1_winsOf_31 : decode cX1_winsOf 31 = .ok (.getfield 7, 3) := by decide +kernel
theorem dX1_winsOf_34 : decode cX1_winsOf 34 = .ok (.if_icmp .ge 53, 3) := by decide +kernel
theorem dX1_winsOf_37 : decode cX1_winsOf 37 = .ok (.aload_n 0, 1) := by decide +kernel
theorem dX1_winsOf_38 : decode cX1_winsOf 38 = .ok (.iload 6, 2) := by decide +kernel
theorem dX1_winsOf_40 : decode cX1_winsOf 40 = .ok (.invokevirtual 148, 3) := by decide +kernel
theorem dX1_winsOf_43 : decode cX1_winsOf 43 = .ok (.iload_n 2, 1) := by decide +kernel
theorem dX1_winsOf_44 : decode cX1_winsOf 44 = .ok (.if_icmp .ne 37, 3) := by decide +kernel
theorem dX1_winsOf_47 : decode cX1_winsOf 47 = .ok (.iload 5, 2) := by decide +kernel
theorem dX1_winsOf_49 : decode cX1_winsOf 49 = .ok (.iload_n 3, 1) := by decide +kernel
theorem dX1_winsOf_50 : decode cX1_winsOf 50 = .ok (.iconst 1, 1) := by decide +kernel
theorem dX1_winsOf_51 : decode cX1_winsOf 51 = .ok (.isub, 1) := by decide +kernel
theorem dX1_winsOf_52 : decode cX1_winsOf 52 = .ok (.iload 4, 2) := by decide +kernel
theorem dX1_winsOf_54 : decode cX1_winsOf 54 = .ok (.iadd, 1) := by decide +kernel
theorem dX1_winsOf_55 : decode cX1_winsOf 55 = .ok (.bipush 6, 2) := by decide +kernel
theorem dX1_winsOf_57 : decode cX1_winsOf 57 = .ok (.if_icmp .ge 17, 3) := by decide +kernel
theorem dX1_winsOf_60 : decode cX1_winsOf 60 = .ok (.aload_n 0, 1) := by decide +kernel
theorem dX1_winsOf_61 : decode cX1_winsOf 61 = .ok (.getfield 36, 3) := by decide +kernel
theorem dX1_winsOf_64 : decode cX1_winsOf 64 = .ok (.iload_n 3, 1) := by decide +kernel
theorem dX1_winsOf_65 : decode cX1_winsOf 65 = .ok (.iconst 1, 1) := by decide +kernel
theorem dX1_winsOf_66 : decode cX1_winsOf 66 = .ok (.isub, 1) := by decide +kernel
theorem dX1_winsOf_67 : decode cX1_winsOf 67 = .ok (.iload 4, 2) := by decide +kernel
theorem dX1_winsOf_69 : decode cX1_winsOf 69 = .ok (.iadd, 1) := by decide +kernel
theorem dX1_winsOf_70 : decode cX1_winsOf 70 = .ok (.iaload, 1) := by decide +kernel
theorem dX1_winsOf_71 : decode cX1_winsOf 71 = .ok (.goto 4, 3) := by decide +kernel
theorem dX1_winsOf_74 : decode cX1_winsOf 74 = .ok (.iconst 0, 1) := by decide +kernel
theorem dX1_winsOf_75 : decode cX1_winsOf 75 = .ok (.iadd, 1) := by decide +kernel
theorem dX1_winsOf_76 : decode cX1_winsOf 76 = .ok (.istore 5, 2) := by decide +kernel
theorem dX1_winsOf_78 : decode cX1_winsOf 78 = .ok (.iinc 4 1, 3) := by decide +kernel
theorem dX1_winsOf_81 : decode cX1_winsOf 81 = .ok (.iinc 6 1, 3) := by decide +kernel
theorem dX1_winsOf_84 : decode cX1_winsOf 84 = .ok (.goto (-56), 3) := by decide +kernel
theorem dX1_winsOf_87 : decode cX1_winsOf 87 = .ok (.iload 5, 2) := by decide +kernel
theorem dX1_winsOf_89 : decode cX1_winsOf 89 = .ok (.iload 4, 2) := by decide +kernel
theorem dX1_winsOf_91 : decode cX1_winsOf 91 = .ok (.idiv, 1) := by decide +kernel
theorem dX1_winsOf_92 : decode cX1_winsOf 92 = .ok (.ireturn, 1) := by decide +kernel
set_option maxRecDepth 20000 in
theorem ggX1_wins_X1_isPlayer : GoodIn wsX1_wins wsX1_isPlayer := goodIn_r _ [5, 6, 7, 8, 4, 9, 71, 72, 73, 74, 75, 76, 77, 78, 79, 80, 81, 82, 83, 84, 85, 86, 87, 88, 89, 90, 91, 92, 93] (by decide +kernel) (by decide +kernel)
set_option maxRecDepth 20000 in
theorem gX1_wins_X1_isPlayer : GoodIn wsX1_wins (wsV RX1 75 RX1 yX1_isPlayer wsX1_isPlayer) := goodIn_app (goodIn_of _ (by decide +kernel)) ggX1_wins_X1_isPlayer
set_option maxRecDepth 20000 in
theorem ggX1_wins_X1_winsOf : GoodIn wsX1_wins wsX1_winsOf := goodIn_r _ [13, 6, 14, 15, 16, 17, 4, 18, 19, 20, 21, 22, 23, 24, 25, 26, 27, 28, 29, 30, 31, 32, 33, 34, 35, 36, 37, 38, 39, 40, 41, 42, 43, 44, 45, 46, 47, 48, 49, 50, 51, 52, 53, 54, 55, 56, 57, 58, 59, 60, 61, 62, 63, 64, 65, 66, 67, 68, 69, 70, 71, 72, 73, 74, 75, 76, 77, 78, 79, 80, 81, 82, 83, 84, 85, 86, 87, 88, 89, 90, 91, 92, 93] (by decide +kernel) (by decide +kernel)
set_option maxRecDepth 20000 in
theorem gX1_wins_X1_winsOf : GoodIn wsX1_wins (wsV RX1 156 RX1 yX1_winsOf wsX1_winsOf) := goodIn_app (goodIn_of _ (by decide +kernel)) ggX1_wins_X1_winsOf
theorem dX1_wins_0 : decode cX1_wins 0 = .ok (.aload_n 0, 1) := by decide +kernel
theorem dX1_wins_1 : decode cX1_wins 1 = .ok (.iload_n 1, 1) := by decide +kernel
theorem dX1_wins_2 : decode cX1_wins 2 = .ok (.invokevirtual 75, 3) := by decide +kernel
theorem dX1_wins_5 : decode cX1_wins 5 = .ok (.ifCond .eq 11, 3) := by decide +kernel
theorem dX1_wins_8 : decode cX1_wins 8 = .ok (.aload_n 0, 1) := by decide +kernel
theorem dX1_wins_9 : decode cX1_wins 9 = .ok (.iload_n 1, 1) := by decide +kernel
theorem dX1_wins_10 : decode cX1_wins 10 = .ok (.invokevirtual 156, 3) := by decide +kernel
theorem dX1_wins_13 : decode cX1_wins 13 = .ok (.goto 5, 3) := by decide +kernel
theorem dX1_wins_16 : decode cX1_wins 16 = .ok (.bipush (-101), 2) := by decide +kernel
theorem dX1_wins_18 : decode cX1_wins 18 = .ok (.ireturn, 1) := by decide +kernel
set_option maxRecDepth 20000 in
theorem ggX1_rest_X1_winsOf : GoodIn wsX1_rest wsX1_winsOf := goodIn_r _ [7, 2, 1, 8, 9, 10, 6, 11, 12, 13, 14, 15, 16, 17, 18, 19, 20, 21, 22, 23, 24, 25, 26, 27, 28, 29, 30, 31, 32, 33, 34, 35, 36, 37, 38, 39, 40, 41, 42, 43, 44, 45, 46, 47, 48, 49, 50, 51, 52, 53, 54, 55, 56, 57, 58, 59, 60, 61, 62, 63, 64, 65, 66, 67, 68, 69, 70, 71, 72, 73, 74, 75, 76, 77, 78, 79, 80, 81, 82, 83, 84, 85, 86] (by decide +kernel) (by decide +kernel)
set_option maxRecDepth 20000 in
theorem gX1_rest_X1_winsOf : GoodIn wsX1_rest (wsV RX1 156 RX1 yX1_winsOf wsX1_winsOf) := goodIn_app (goodIn_of _ (by decide +kernel)) ggX1_rest_X1_winsOf
theorem dX1_rest_0 : decode cX1_rest 0 = .ok (.iconst 0, 1) := by decide +kernel
theorem dX1_rest_1 : decode cX1_rest 1 = .ok (.istore_n 1, 1) := by decide +kernel
theorem dX1_rest_2 : decode cX1_rest 2 = .ok (.iconst 0, 1) := by decide +kernel
theorem dX1_rest_3 : decode cX1_rest 3 = .ok (.istore_n 2, 1) := by decide +kernel
theorem dX1_rest_4 : decode cX1_rest 4 = .ok (.iload_n 2, 1) := by decide +kernel
theorem dX1_rest_5 : decode cX1_rest 5 = .ok (.bipush 6, 2) := by decide +kernel
theorem dX1_rest_7 : decode cX1_rest 7 = .ok (.if_icmp .ge 18, 3) := by decide +kernel
theorem dX1_rest_10 : decode cX1_rest 10 = .ok (.iload_n 1, 1) := by decide +kernel
theorem dX1_rest_11 : decode cX1_rest 11 = .ok (.aload_n 0, 1) := by decide +kernel
theorem dX1_rest_12 : decode cX1_rest 12 = .ok (.getfield 36, 3) := by decide +kernel
theorem dX1_rest_15 : decode cX1_rest 15 = .ok (.iload_n 2, 1) := by decide +kernel
theorem dX1_rest_16 : decode cX1_rest 16 = .ok (.iaload, 1) := by decide +kernel
theorem dX1_rest_17 : decode cX1_rest 17 = .ok (.iadd, 1) := by decide +kernel
theorem dX1_rest_18 : decode cX1_rest 18 = .ok (.istore_n 1, 1) := by decide +kernel
theorem dX1_rest_19 : decode cX1_rest 19 = .ok (.iinc 2 1, 3) := by decide +kernel
theorem dX1_rest_22 : decode cX1_rest 22 = .ok (.goto (-18), 3) := by decide +kernel
theorem dX1_rest_25 : decode cX1_rest 25 = .ok (.iconst 0, 1) := by decide +kernel
theorem dX1_rest_26 : decode cX1_rest 26 = .ok (.istore_n 2, 1) := by decide +kernel
theorem dX1_rest_27 : decode cX1_rest 27 = .ok (.iload_n 2, 1) := by decide +kernel
theorem dX1_rest_28 : decode cX1_rest 28 = .ok (.aload_n 0, 1) := by decide +kernel
theorem dX1_rest_29 : decode cX1_rest 29 = .ok (.getfield 7, 3) := by decide +kernel
theorem dX1_rest_32 : decode cX1_rest 32 = .ok (.if_icmp .ge 17, 3) := by decide +kernel
theorem dX1_rest_35 : decode cX1_rest 35 = .ok (.iload_n 1, 1) := by decide +kernel
theorem dX1_rest_36 : decode cX1_rest 36 = .ok (.aload_n 0, 1) := by decide +kernel
theorem dX1_rest_37 : decode cX1_rest 37 = .ok (.iload_n 2, 1) := by decide +kernel
theorem dX1_rest_38 : decode cX1_rest 38 = .ok (.invokevirtual 156, 3) := by decide +kernel
theorem dX1_rest_41 : decode cX1_rest 41 = .ok (.isub, 1) := by decide +kernel
theorem dX1_rest_42 : decode cX1_rest 42 = .ok (.istore_n 1, 1) := by decide +kernel
theorem dX1_rest_43 : decode cX1_rest 43 = .ok (.iinc 2 1, 3) := by decide +kernel
theorem dX1_rest_46 : decode cX1_rest 46 = .ok (.goto (-19), 3) := by decide +kernel
theorem dX1_rest_49 : decode cX1_rest 49 = .ok (.iload_n 1, 1) := by decide +kernel
theorem dX1_rest_50 : decode cX1_rest 50 = .ok (.ireturn, 1) := by decide +kernel
set_option maxRecDepth 20000 in
theorem ggX1_work_X1_in : GoodIn wsX1_work wsX1_in := goodIn_r _ [5] (by decide +kernel) (by decide +kernel)
set_option maxRecDepth 20000 in
theorem gX1_work_X1_in : GoodIn wsX1_work (va_wsS RX1 64 yX1_in wsX1_in) := goodIn_app (goodIn_of _ (by decide +kernel)) ggX1_work_X1_in
theorem dX1_work_0 : decode cX1_work 0 = .ok (.iload_n 1, 1) := by decide +kernel
theorem dX1_work_1 : decode cX1_work 1 = .ok (.iconst 0, 1) := by decide +kernel
theorem dX1_work_2 : decode cX1_work 2 = .ok (.bipush 11, 2) := by decide +kernel
theorem dX1_work_4 : decode cX1_work 4 = .ok (.invokestatic 64, 3) := by decide +kernel
theorem dX1_work_7 : decode cX1_work 7 = .ok (.ifCond .ne 6, 3) := by decide +kernel
theorem dX1_work_10 : decode cX1_work 10 = .ok (.bipush (-101), 2) := by decide +kernel
theorem dX1_work_12 : decode cX1_work 12 = .ok (.ireturn, 1) := by decide +kernel
theorem dX1_work_13 : decode cX1_work 13 = .ok (.iload_n 2, 1) := by decide +kernel
theorem dX1_work_14 : decode cX1_work 14 = .ok (.iconst 1, 1) := by decide +kernel
theorem dX1_work_15 : decode cX1_work 15 = .ok (.bipush 60, 2) := by decide +kernel
theorem dX1_work_17 : decode cX1_work 17 = .ok (.invokestatic 64, 3) := by decide +kernel
theorem dX1_work_20 : decode cX1_work 20 = .ok (.ifCond .ne 6, 3) := by decide +kernel
theorem dX1_work_23 : decode cX1_work 23 = .ok (.bipush (-102), 2) := by decide +kernel
theorem dX1_work_25 : decode cX1_work 25 = .ok (.ireturn, 1) := by decide +kernel
theorem dX1_work_26 : decode cX1_work 26 = .ok (.aload_n 0, 1) := by decide +kernel
theorem dX1_work_27 : decode cX1_work 27 = .ok (.getfield 39, 3) := by decide +kernel
theorem dX1_work_30 : decode cX1_work 30 = .ok (.iload_n 1, 1) := by decide +kernel
theorem dX1_work_31 : decode cX1_work 31 = .ok (.iaload, 1) := by decide +kernel
theorem dX1_work_32 : decode cX1_work 32 = .ok (.istore_n 3, 1) := by decide +kernel
theorem dX1_work_33 : decode cX1_work 33 = .ok (.aload_n 0, 1) := by decide +kernel
theorem dX1_work_34 : decode cX1_work 34 = .ok (.getfield 39, 3) := by decide +kernel
theorem dX1_work_37 : decode cX1_work 37 = .ok (.iload_n 1, 1) := by decide +kernel
theorem dX1_work_38 : decode cX1_work 38 = .ok (.iload_n 2, 1) := by decide +kernel
theorem dX1_work_39 : decode cX1_work 39 = .ok (.iastore, 1) := by decide +kernel
theorem dX1_work_40 : decode cX1_work 40 = .ok (.iload_n 3, 1) := by decide +kernel
theorem dX1_work_41 : decode cX1_work 41 = .ok (.ireturn, 1) := by decide +kernel
set_option maxRecDepth 20000 in
theorem ggX1_programme_X1_isPlayer : GoodIn wsX1_programme wsX1_isPlayer := goodIn_r _ [7, 8, 9, 10, 6, 11, 12, 13, 14, 15, 16, 17, 18, 19, 20, 21, 22, 23, 24, 25, 26, 27, 28, 29, 30, 31, 32, 33, 34] (by decide +kernel) (by decide +kernel)
set_option maxRecDepth 20000 in
theorem gX1_programme_X1_isPlayer : GoodIn wsX1_programme (wsV RX1 75 RX1 yX1_isPlayer wsX1_isPlayer) := goodIn_app (goodIn_of _ (by decide +kernel)) ggX1_programme_X1_isPlayer
set_option maxRecDepth 20000 in
theorem ggX1_programme_X1_in : GoodIn wsX1_programme wsX1_in := goodIn_r _ [11] (by decide +kernel) (by decide +kernel)
set_option maxRecDepth 20000 in
theorem gX1_programme_X1_in : GoodIn wsX1_programme (va_wsS RX1 64 yX1_in wsX1_in) := goodIn_app (goodIn_of _ (by decide +kernel)) ggX1_programme_X1_in
theorem dX1_programme_0 : decode cX1_programme 0 = .ok (.aload_n 0, 1) := by decide +kernel
theorem dX1_programme_1 : decode cX1_programme 1 = .ok (.iload_n 1, 1) := by decide +kernel
theorem dX1_programme_2 : decode cX1_programme 2 = .ok (.invokevirtual 75, 3) := by decide +kernel
theorem dX1_programme_5 : decode cX1_programme 5 = .ok (.ifCond .ne 6, 3) := by decide +kernel
theorem dX1_programme_8 : decode cX1_programme 8 = .ok (.bipush (-101), 2) := by decide +kernel
theorem dX1_programme_10 : decode cX1_programme 10 = .ok (.ireturn, 1) := by decide +kernel
theorem dX1_programme_11 : decode cX1_programme 11 = .ok (.iload_n 2, 1) := by decide +kernel
theorem dX1_programme_12 : decode cX1_programme 12 = .ok (.iconst 1, 1) := by decide +kernel
theorem dX1_programme_13 : decode cX1_programme 13 = .ok (.sipush 4095, 3) := by decide +kernel
theorem dX1_programme_16 : decode cX1_programme 16 = .ok (.invokestatic 64, 3) := by decide +kernel
theorem dX1_programme_19 : decode cX1_programme 19 = .ok (.ifCond .ne 6, 3) := by decide +kernel
theorem dX1_programme_22 : decode cX1_programme 22 = .ok (.bipush (-102), 2) := by decide +kernel
theorem dX1_programme_24 : decode cX1_programme 24 = .ok (.ireturn, 1) := by decide +kernel
theorem dX1_programme_25 : decode cX1_programme 25 = .ok (.aload_n 0, 1) := by decide +kernel
theorem dX1_programme_26 : decode cX1_programme 26 = .ok (.getfield 42, 3) := by decide +kernel
theorem dX1_programme_29 : decode cX1_programme 29 = .ok (.iload_n 1, 1) := by decide +kernel
theorem dX1_programme_30 : decode cX1_programme 30 = .ok (.iaload, 1) := by decide +kernel
theorem dX1_programme_31 : decode cX1_programme 31 = .ok (.iconst 3, 1) := by decide +kernel
theorem dX1_programme_32 : decode cX1_programme 32 = .ok (.if_icmp .ne 6, 3) := by decide +kernel
theorem dX1_programme_35 : decode cX1_programme 35 = .ok (.bipush (-104), 2) := by decide +kernel
theorem dX1_programme_37 : decode cX1_programme 37 = .ok (.ireturn, 1) := by decide +kernel
theorem dX1_programme_38 : decode cX1_programme 38 = .ok (.aload_n 0, 1) := by decide +kernel
theorem dX1_programme_39 : decode cX1_programme 39 = .ok (.getfield 45, 3) := by decide +kernel
theorem dX1_programme_42 : decode cX1_programme 42 = .ok (.iconst 3, 1) := by decide +kernel
theorem dX1_programme_43 : decode cX1_programme 43 = .ok (.iload_n 1, 1) := by decide +kernel
theorem dX1_programme_44 : decode cX1_programme 44 = .ok (.imul, 1) := by decide +kernel
theorem dX1_programme_45 : decode cX1_programme 45 = .ok (.aload_n 0, 1) := by decide +kernel
theorem dX1_programme_46 : decode cX1_programme 46 = .ok (.getfield 42, 3) := by decide +kernel
theorem dX1_programme_49 : decode cX1_programme 49 = .ok (.iload_n 1, 1) := by decide +kernel
theorem dX1_programme_50 : decode cX1_programme 50 = .ok (.iaload, 1) := by decide +kernel
theorem dX1_programme_51 : decode cX1_programme 51 = .ok (.iadd, 1) := by decide +kernel
theorem dX1_programme_52 : decode cX1_programme 52 = .ok (.iload_n 2, 1) := by decide +kernel
theorem dX1_programme_53 : decode cX1_programme 53 = .ok (.iastore, 1) := by decide +kernel
theorem dX1_programme_54 : decode cX1_programme 54 = .ok (.aload_n 0, 1) := by decide +kernel
theorem dX1_programme_55 : decode cX1_programme 55 = .ok (.getfield 42, 3) := by decide +kernel
theorem dX1_programme_58 : decode cX1_programme 58 = .ok (.iload_n 1, 1) := by decide +kernel
theorem dX1_programme_59 : decode cX1_programme 59 = .ok (.dup2, 1) := by decide +kernel
theorem dX1_programme_60 : decode cX1_programme 60 = .ok (.iaload, 1) := by decide +kernel
theorem dX1_programme_61 : decode cX1_programme 61 = .ok (.iconst 1, 1) := by decide +kernel
theorem dX1_programme_62 : decode cX1_programme 62 = .ok (.iadd, 1) := by decide +kernel
theorem dX1_programme_63 : decode cX1_programme 63 = .ok (.iastore, 1) := by decide +kernel
theorem dX1_programme_64 : decode cX1_programme 64 = .ok (.aload_n 0, 1) := by decide +kernel
theorem dX1_programme_65 : decode cX1_programme 65 = .ok (.getfield 42, 3) := by decide +kernel
theorem dX1_programme_68 : decode cX1_programme 68 = .ok (.iload_n 1, 1) := by decide +kernel
theorem dX1_programme_69 : decode cX1_programme 69 = .ok (.iaload, 1) := by decide +kernel
theorem dX1_programme_70 : decode cX1_programme 70 = .ok (.ireturn, 1) := by decide +kernel
theorem dX1_hear_0 : decode cX1_hear 0 = .ok (.iconst 0, 1) := by decide +kernel
theorem dX1_hear_1 : decode cX1_hear 1 = .ok (.istore_n 3, 1) := by decide +kernel
theorem dX1_hear_2 : decode cX1_hear 2 = .ok (.iload_n 3, 1) := by decide +kernel
theorem dX1_hear_3 : decode cX1_hear 3 = .ok (.bipush 12, 2) := by decide +kernel
theorem dX1_hear_5 : decode cX1_hear 5 = .ok (.if_icmp .ge 25, 3) := by decide +kernel
theorem dX1_hear_8 : decode cX1_hear 8 = .ok (.aload_n 0, 1) := by decide +kernel
theorem dX1_hear_9 : decode cX1_hear 9 = .ok (.getfield 54, 3) := by decide +kernel
theorem dX1_hear_12 : decode cX1_hear 12 = .ok (.iload_n 3, 1) := by decide +kernel
theorem dX1_hear_13 : decode cX1_hear 13 = .ok (.dup2, 1) := by decide +kernel
theorem dX1_hear_14 : decode cX1_hear 14 = .ok (.iaload, 1) := by decide +kernel
theorem dX1_hear_15 : decode cX1_hear 15 = .ok (.iload_n 1, 1) := by decide +kernel
theorem dX1_hear_16 : decode cX1_hear 16 = .ok (.iload_n 3, 1) := by decide +kernel
theorem dX1_hear_17 : decode cX1_hear 17 = .ok (.ishr, 1) := by decide +kernel
theorem dX1_hear_18 : decode cX1_hear 18 = .ok (.iconst 1, 1) := by decide +kernel
theorem dX1_hear_19 : decode cX1_hear 19 = .ok (.iand, 1) := by decide +kernel
theorem dX1_hear_20 : decode cX1_hear 20 = .ok (.iload_n 2, 1) := by decide +kernel
theorem dX1_hear_21 : decode cX1_hear 21 = .ok (.imul, 1) := by decide +kernel
theorem dX1_hear_22 : decode cX1_hear 22 = .ok (.iadd, 1) := by decide +kernel
theorem dX1_hear_23 : decode cX1_hear 23 = .ok (.iastore, 1) := by decide +kernel
theorem dX1_hear_24 : decode cX1_hear 24 = .ok (.iinc 3 1, 3) := by decide +kernel
theorem dX1_hear_27 : decode cX1_hear 27 = .ok (.goto (-25), 3) := by decide +kernel
theorem dX1_hear_30 : decode cX1_hear 30 = .ok (.return_, 1) := by decide +kernel
set_option maxRecDepth 20000 in
theorem ggX1_mayBe_X1_in : GoodIn wsX1_mayBe wsX1_in := goodIn_r _ [6] (by decide +kernel) (by decide +kernel)
set_option maxRecDepth 20000 in
theorem gX1_mayBe_X1_in : GoodIn wsX1_mayBe (va_wsS RX1 64 yX1_in wsX1_in) := goodIn_app (goodIn_of _ (by decide +kernel)) ggX1_mayBe_X1_in
theorem dX1_mayBe_0 : decode cX1_mayBe 0 = .ok (.iconst 0, 1) := by decide +kernel
theorem dX1_mayBe_1 : decode cX1_mayBe 1 = .ok (.istore 5, 2) := by decide +kernel
theorem dX1_mayBe_3 : decode cX1_mayBe 3 = .ok (.iconst 1, 1) := by decide +kernel
theorem dX1_mayBe_4 : decode cX1_mayBe 4 = .ok (.istore 6, 2) := by decide +kernel
theorem dX1_mayBe_6 : decode cX1_mayBe 6 = .ok (.iconst 0, 1) := by decide +kernel
theorem dX1_mayBe_7 : decode cX1_mayBe 7 = .ok (.istore 7, 2) := by decide +kernel
theorem dX1_mayBe_9 : decode cX1_mayBe 9 = .ok (.iload 7, 2) := by decide +kernel
theorem dX1_mayBe_11 : decode cX1_mayBe 11 = .ok (.bipush 12, 2) := by decide +kernel
theorem dX1_mayBe_13 : decode cX1_mayBe 13 = .ok (.if_icmp .ge 55, 3) := by decide +kernel
theorem dX1_mayBe_16 : decode cX1_mayBe 16 = .ok (.iload_n 1, 1) := by decide +kernel
theorem dX1_mayBe_17 : decode cX1_mayBe 17 = .ok (.iload 7, 2) := by decide +kernel
theorem dX1_mayBe_19 : decode cX1_mayBe 19 = .ok (.ishr, 1) := by decide +kernel
theorem dX1_mayBe_20 : decode cX1_mayBe 20 = .ok (.iconst 1, 1) := by decide +kernel
theorem dX1_mayBe_21 : decode cX1_mayBe 21 = .ok (.iand, 1) := by decide +kernel
theorem dX1_mayBe_22 : decode cX1_mayBe 22 = .ok (.iconst 1, 1) := by decide +kernel
theorem dX1_mayBe_23 : decode cX1_mayBe 23 = .ok (.if_icmp .ne 39, 3) := by decide +kernel
theorem dX1_mayBe_26 : decode cX1_mayBe 26 = .ok (.iload 5, 2) := by decide +kernel
theorem dX1_mayBe_28 : decode cX1_mayBe 28 = .ok (.aload_n 0, 1) := by decide +kernel
theorem dX1_mayBe_29 : decode cX1_mayBe 29 = .ok (.getfield 39, 3) := by decide +kernel
theorem dX1_mayBe_32 : decode cX1_mayBe 32 = .ok (.iload 7, 2) := by decide +kernel
theorem dX1_mayBe_34 : decode cX1_mayBe 34 = .ok (.iaload, 1) := by decide +kernel
theorem dX1_mayBe_35 : decode cX1_mayBe 35 = .ok (.iadd, 1) := by decide +kernel
theorem dX1_mayBe_36 : decode cX1_mayBe 36 = .ok (.istore 5, 2) := by decide +kernel
theorem dX1_mayBe_38 : decode cX1_mayBe 38 = .ok (.iload 6, 2) := by decide +kernel
theorem dX1_mayBe_40 : decode cX1_mayBe 40 = .ok (.ifCond .eq 19, 3) := by decide +kernel
theorem dX1_mayBe_43 : decode cX1_mayBe 43 = .ok (.aload_n 0, 1) := by decide +kernel
theorem dX1_mayBe_44 : decode cX1_mayBe 44 = .ok (.getfield 54, 3) := by decide +kernel
theorem dX1_mayBe_47 : decode cX1_mayBe 47 = .ok (.iload 7, 2) := by decide +kernel
theorem dX1_mayBe_49 : decode cX1_mayBe 49 = .ok (.iaload, 1) := by decide +kernel
theorem dX1_mayBe_50 : decode cX1_mayBe 50 = .ok (.iload 4, 2) := by decide +kernel
theorem dX1_mayBe_52 : decode cX1_mayBe 52 = .ok (.if_icmp .ge 7, 3) := by decide +kernel
theorem dX1_mayBe_55 : decode cX1_mayBe 55 = .ok (.iconst 1, 1) := by decide +kernel
theorem dX1_mayBe_56 : decode cX1_mayBe 56 = .ok (.goto 4, 3) := by decide +kernel
theorem dX1_mayBe_59 : decode cX1_mayBe 59 = .ok (.iconst 0, 1) := by decide +kernel
theorem dX1_mayBe_60 : decode cX1_mayBe 60 = .ok (.istore 6, 2) := by decide +kernel
theorem dX1_mayBe_62 : decode cX1_mayBe 62 = .ok (.iinc 7 1, 3) := by decide +kernel
theorem dX1_mayBe_65 : decode cX1_mayBe 65 = .ok (.goto (-56), 3) := by decide +kernel
theorem dX1_mayBe_68 : decode cX1_mayBe 68 = .ok (.iload 6, 2) := by decide +kernel
theorem dX1_mayBe_70 : decode cX1_mayBe 70 = .ok (.ifCond .eq 17, 3) := by decide +kernel
theorem dX1_mayBe_73 : decode cX1_mayBe 73 = .ok (.iload 5, 2) := by decide +kernel
theorem dX1_mayBe_75 : decode cX1_mayBe 75 = .ok (.iload_n 2, 1) := by decide +kernel
theorem dX1_mayBe_76 : decode cX1_mayBe 76 = .ok (.iload_n 3, 1) := by decide +kernel
theorem dX1_mayBe_77 : decode cX1_mayBe 77 = .ok (.invokestatic 64, 3) := by decide +kernel
theorem dX1_mayBe_80 : decode cX1_mayBe 80 = .ok (.ifCond .eq 7, 3) := by decide +kernel
theorem dX1_mayBe_83 : decode cX1_mayBe 83 = .ok (.iconst 1, 1) := by decide +kernel
theorem dX1_mayBe_84 : decode cX1_mayBe 84 = .ok (.goto 4, 3) := by decide +kernel
theorem dX1_mayBe_87 : decode cX1_mayBe 87 = .ok (.iconst 0, 1) := by decide +kernel
theorem dX1_mayBe_88 : decode cX1_mayBe 88 = .ok (.ireturn, 1) := by decide +kernel
set_option maxRecDepth 20000 in
theorem ggX1_plan_X1_in : GoodIn wsX1_plan wsX1_in := goodIn_r _ [10] (by decide +kernel) (by decide +kernel)
set_option maxRecDepth 20000 in
theorem gX1_plan_X1_in : GoodIn wsX1_plan (va_wsS RX1 64 yX1_in wsX1_in) := goodIn_app (goodIn_of _ (by decide +kernel)) ggX1_plan_X1_in
set_option maxRecDepth 20000 in
theorem ggX1_plan_X1_hear : GoodIn wsX1_plan wsX1_hear := goodIn_r _ [14, 1, 20, 21, 22, 23, 24, 25, 26, 27, 28, 29, 30, 31, 32, 33, 34, 35, 36, 37, 38, 39, 40, 41, 42] (by decide +kernel) (by decide +kernel)
set_option maxRecDepth 20000 in
theorem gX1_plan_X1_hear : GoodIn wsX1_plan (wsV RX1 159 RX1 yX1_hear wsX1_hear) := goodIn_app (goodIn_of _ (by decide +kernel)) ggX1_plan_X1_hear
set_option maxRecDepth 20000 in
theorem ggX1_plan_X1_mayBe : GoodIn wsX1_plan wsX1_mayBe := goodIn_r _ [18, 19, 1, 7, 8, 9, 10, 20, 21, 22, 23, 24, 25, 26, 27, 28, 29, 30, 31, 32, 33, 34, 35, 36, 37, 38, 39, 40, 41, 42] (by decide +kernel) (by decide +kernel)
set_option maxRecDepth 20000 in
theorem gX1_plan_X1_mayBe : GoodIn wsX1_plan (wsV RX1 162 RX1 yX1_mayBe wsX1_mayBe) := goodIn_app (goodIn_of _ (by decide +kernel)) ggX1_plan_X1_mayBe
theorem dX1_plan_0 : decode cX1_plan 0 = .ok (.iload_n 1, 1) := by decide +kernel
theorem dX1_plan_1 : decode cX1_plan 1 = .ok (.iconst 0, 1) := by decide +kernel
theorem dX1_plan_2 : decode cX1_plan 2 = .ok (.sipush 720, 3) := by decide +kernel
theorem dX1_plan_5 : decode cX1_plan 5 = .ok (.invokestatic 64, 3) := by decide +kernel
theorem dX1_plan_8 : decode cX1_plan 8 = .ok (.ifCond .eq 23, 3) := by decide +kernel
theorem dX1_plan_11 : decode cX1_plan 11 = .ok (.iload_n 2, 1) := by decide +kernel
theorem dX1_plan_12 : decode cX1_plan 12 = .ok (.iload_n 1, 1) := by decide +kernel
theorem dX1_plan_13 : decode cX1_plan 13 = .ok (.sipush 720, 3) := by decide +kernel
theorem dX1_plan_16 : decode cX1_plan 16 = .ok (.invokestatic 64, 3) := by decide +kernel
theorem dX1_plan_19 : decode cX1_plan 19 = .ok (.ifCond .eq 12, 3) := by decide +kernel
theorem dX1_plan_22 : decode cX1_plan 22 = .ok (.iload_n 3, 1) := by decide +kernel
theorem dX1_plan_23 : decode cX1_plan 23 = .ok (.iconst 1, 1) := by decide +kernel
theorem dX1_plan_24 : decode cX1_plan 24 = .ok (.iconst 3, 1) := by decide +kernel
theorem dX1_plan_25 : decode cX1_plan 25 = .ok (.invokestatic 64, 3) := by decide +kernel
theorem dX1_plan_28 : decode cX1_plan 28 = .ok (.ifCond .ne 6, 3) := by decide +kernel
theorem dX1_plan_31 : decode cX1_plan 31 = .ok (.bipush (-102), 2) := by decide +kernel
theorem dX1_plan_33 : decode cX1_plan 33 = .ok (.ireturn, 1) := by decide +kernel
theorem dX1_plan_34 : decode cX1_plan 34 = .ok (.iconst 0, 1) := by decide +kernel
theorem dX1_plan_35 : decode cX1_plan 35 = .ok (.istore 4, 2) := by decide +kernel
theorem dX1_plan_37 : decode cX1_plan 37 = .ok (.iload 4, 2) := by decide +kernel
theorem dX1_plan_39 : decode cX1_plan 39 = .ok (.bipush 12, 2) := by decide +kernel
theorem dX1_plan_41 : decode cX1_plan 41 = .ok (.if_icmp .ge 17, 3) := by decide +kernel
theorem dX1_plan_44 : decode cX1_plan 44 = .ok (.aload_n 0, 1) := by decide +kernel
theorem dX1_plan_45 : decode cX1_plan 45 = .ok (.getfield 54, 3) := by decide +kernel
theorem dX1_plan_48 : decode cX1_plan 48 = .ok (.iload 4, 2) := by decide +kernel
theorem dX1_plan_50 : decode cX1_plan 50 = .ok (.iconst 0, 1) := by decide +kernel
theorem dX1_plan_51 : decode cX1_plan 51 = .ok (.iastore, 1) := by decide +kernel
theorem dX1_plan_52 : decode cX1_plan 52 = .ok (.iinc 4 1, 3) := by decide +kernel
theorem dX1_plan_55 : decode cX1_plan 55 = .ok (.goto (-18), 3) := by decide +kernel
theorem dX1_plan_58 : decode cX1_plan 58 = .ok (.iconst 0, 1) := by decide +kernel
theorem dX1_plan_59 : decode cX1_plan 59 = .ok (.istore 4, 2) := by decide +kernel
theorem dX1_plan_61 : decode cX1_plan 61 = .ok (.aload_n 0, 1) := by decide +kernel
theorem dX1_plan_62 : decode cX1_plan 62 = .ok (.getfield 48, 3) := by decide +kernel
theorem dX1_plan_65 : decode cX1_plan 65 = .ok (.iconst 0, 1) := by decide +kernel
theorem dX1_plan_66 : decode cX1_plan 66 = .ok (.iconst (-1), 1) := by decide +kernel
theorem dX1_plan_67 : decode cX1_plan 67 = .ok (.iastore, 1) := by decide +kernel
theorem dX1_plan_68 : decode cX1_plan 68 = .ok (.iload 4, 2) := by decide +kernel
theorem dX1_plan_70 : decode cX1_plan 70 = .ok (.ifCond .lt 182, 3) := by decide +kernel
theorem dX1_plan_73 : decode cX1_plan 73 = .ok (.iload 4, 2) := by decide +kernel
theorem dX1_plan_75 : decode cX1_plan 75 = .ok (.aload_n 0, 1) := by decide +kernel
theorem dX1_plan_76 : decode cX1_plan 76 = .ok (.getfield 7, 3) := by decide +kernel
theorem dX1_plan_79 : decode cX1_plan 79 = .ok (.if_icmp .ge 173, 3) := by decide +kernel
theorem dX1_plan_82 : decode cX1_plan 82 = .ok (.aload_n 0, 1) := by decide +kernel
theorem dX1_plan_83 : decode cX1_plan 83 = .ok (.getfield 48, 3) := by decide +kernel
theorem dX1_plan_86 : decode cX1_plan 86 = .ok (.iload 4, 2) := by decide +kernel
theorem dX1_plan_88 : decode cX1_plan 88 = .ok (.iaload, 1) := by decide +kernel
theorem dX1_plan_89 : decode cX1_plan 89 = .ok (.iconst (-1), 1) := by decide +kernel
theorem dX1_plan_90 : decode cX1_plan 90 = .ok (.if_icmp .eq 25, 3) := by decide +kernel
theorem dX1_plan_93 : decode cX1_plan 93 = .ok (.aload_n 0, 1) := by decide +kernel
theorem dX1_plan_94 : decode cX1_plan 94 = .ok (.aload_n 0, 1) := by decide +kernel
theorem dX1_plan_95 : decode cX1_plan 95 = .ok (.getfield 45, 3) := by decide +kernel
theorem dX1_plan_98 : decode cX1_plan 98 = .ok (.iconst 3, 1) := by decide +kernel
theorem dX1_plan_99 : decode cX1_plan 99 = .ok (.iload 4, 2) := by decide +kernel
theorem dX1_plan_101 : decode cX1_plan 101 = .ok (.imul, 1) := by decide +kernel
theorem dX1_plan_102 : decode cX1_plan 102 = .ok (.aload_n 0, 1) := by decide +kernel
theorem dX1_plan_103 : decode cX1_plan 103 = .ok (.getfield 48, 3) := by decide +kernel
theorem dX1_plan_106 : decode cX1_plan 106 = .ok (.iload 4, 2) := by decide +kernel
theorem dX1_plan_108 : decode cX1_plan 108 = .ok (.iaload, 1) := by decide +kernel
theorem dX1_plan_109 : decode cX1_plan 109 = .ok (.iadd, 1) := by decide +kernel
theorem dX1_plan_110 : decode cX1_plan 110 = .ok (.iaload, 1) := by decide +kernel
theorem dX1_plan_111 : decode cX1_plan 111 = .ok (.iconst (-1), 1) := by decide +kernel
theorem dX1_plan_112 : decode cX1_plan 112 = .ok (.invokevirtual 159, 3) := by decide +kernel
theorem dX1_plan_115 : decode cX1_plan 115 = .ok (.aload_n 0, 1) := by decide +kernel
theorem dX1_plan_116 : decode cX1_plan 116 = .ok (.getfield 48, 3) := by decide +kernel
theorem dX1_plan_119 : decode cX1_plan 119 = .ok (.iload 4, 2) := by decide +kernel
theorem dX1_plan_121 : decode cX1_plan 121 = .ok (.dup2, 1) := by decide +kernel
theorem dX1_plan_122 : decode cX1_plan 122 = .ok (.iaload, 1) := by decide +kernel
theorem dX1_plan_123 : decode cX1_plan 123 = .ok (.iconst 1, 1) := by decide +kernel
theorem dX1_plan_124 : decode cX1_plan 124 = .ok (.iadd, 1) := by decide +kernel
theorem dX1_plan_125 : decode cX1_plan 125 = .ok (.iastore, 1) := by decide +kernel
theorem dX1_plan_126 : decode cX1_plan 126 = .ok (.aload_n 0, 1) := by decide +kernel
theorem dX1_plan_127 : decode cX1_plan 127 = .ok (.getfield 48, 3) := by decide +kernel
theorem dX1_plan_130 : decode cX1_plan 130 = .ok (.iload 4, 2) := by decide +kernel
theorem dX1_plan_132 : decode cX1_plan 132 = .ok (.iaload, 1) := by decide +kernel
theorem dX1_plan_133 : decode cX1_plan 133 = .ok (.aload_n 0, 1) := by decide +kernel
theorem dX1_plan_134 : decode cX1_plan 134 = .ok (.getfield 42, 3) := by decide +kernel
theorem dX1_plan_137 : decode cX1_plan 137 = .ok (.iload 4, 2) := by decide +kernel
theorem dX1_plan_139 : decode cX1_plan 139 = .ok (.iaload, 1) := by decide +kernel
theorem dX1_plan_140 : decode cX1_plan 140 = .ok (.if_icmp .ge 44, 3) := by decide +kernel
theorem dX1_plan_143 : decode cX1_plan 143 = .ok (.aload_n 0, 1) := by decide +kernel
theorem dX1_plan_144 : decode cX1_plan 144 = .ok (.aload_n 0, 1) := by decide +kernel
theorem dX1_plan_145 : decode cX1_plan 145 = .ok (.getfield 45, 3) := by decide +kernel
theorem dX1_plan_148 : decode cX1_plan 148 = .ok (.iconst 3, 1) := by decide +kernel
theorem dX1_plan_149 : decode cX1_plan 149 = .ok (.iload 4, 2) := by decide +kernel
theorem dX1_plan_151 : decode cX1_plan 151 = .ok (.imul, 1) := by decide +kernel
theorem dX1_plan_152 : decode cX1_plan 152 = .ok (.aload_n 0, 1) := by decide +kernel
theorem dX1_plan_153 : decode cX1_plan 153 = .ok (.getfield 48, 3) := by decide +kernel
theorem dX1_plan_156 : decode cX1_plan 156 = .ok (.iload 4, 2) := by decide +kernel
theorem dX1_plan_158 : decode cX1_plan 158 = .ok (.iaload, 1) := by decide +kernel
theorem dX1_plan_159 : decode cX1_plan 159 = .ok (.iadd, 1) := by decide +kernel
theorem dX1_plan_160 : decode cX1_plan 160 = .ok (.iaload, 1) := by decide +kernel
theorem dX1_plan_161 : decode cX1_plan 161 = .ok (.iload_n 1, 1) := by decide +kernel
theorem dX1_plan_162 : decode cX1_plan 162 = .ok (.iload_n 2, 1) := by decide +kernel
theorem dX1_plan_163 : decode cX1_plan 163 = .ok (.iload_n 3, 1) := by decide +kernel
theorem dX1_plan_164 : decode cX1_plan 164 = .ok (.invokevirtual 162, 3) := by decide +kernel
theorem dX1_plan_167 : decode cX1_plan 167 = .ok (.ifCond .ne 17, 3) := by decide +kernel
theorem dX1_plan_170 : decode cX1_plan 170 = .ok (.aload_n 0, 1) := by decide +kernel
theorem dX1_plan_171 : decode cX1_plan 171 = .ok (.getfield 48, 3) := by decide +kernel
theorem dX1_plan_174 : decode cX1_plan 174 = .ok (.iload 4, 2) := by decide +kernel
theorem dX1_plan_176 : decode cX1_plan 176 = .ok (.dup2, 1) := by decide +kernel
theorem dX1_plan_177 : decode cX1_plan 177 = .ok (.iaload, 1) := by decide +kernel
theorem dX1_plan_178 : decode cX1_plan 178 = .ok (.iconst 1, 1) := by decide +kernel
theorem dX1_plan_179 : decode cX1_plan 179 = .ok (.iadd, 1) := by decide +kernel
theorem dX1_plan_180 : decode cX1_plan 180 = .ok (.iastore, 1) := by decide +kernel
theorem dX1_plan_181 : decode cX1_plan 181 = .ok (.goto (-55), 3) := by decide +kernel
theorem dX1_plan_184 : decode cX1_plan 184 = .ok (.aload_n 0, 1) := by decide +kernel
theorem dX1_plan_185 : decode cX1_plan 185 = .ok (.getfield 48, 3) := by decide +kernel
theorem dX1_plan_188 : decode cX1_plan 188 = .ok (.iload 4, 2) := by decide +kernel
theorem dX1_plan_190 : decode cX1_plan 190 = .ok (.iaload, 1) := by decide +kernel
theorem dX1_plan_191 : decode cX1_plan 191 = .ok (.aload_n 0, 1) := by decide +kernel
theorem dX1_plan_192 : decode cX1_plan 192 = .ok (.getfield 42, 3) := by decide +kernel
theorem dX1_plan_195 : decode cX1_plan 195 = .ok (.iload 4, 2) := by decide +kernel
theorem dX1_plan_197 : decode cX1_plan 197 = .ok (.iaload, 1) := by decide +kernel
theorem dX1_plan_198 : decode cX1_plan 198 = .ok (.if_icmp .ge 48, 3) := by decide +kernel
theorem dX1_plan_201 : decode cX1_plan 201 = .ok (.aload_n 0, 1) := by decide +kernel
theorem dX1_plan_202 : decode cX1_plan 202 = .ok (.aload_n 0, 1) := by decide +kernel
theorem dX1_plan_203 : decode cX1_plan 203 = .ok (.getfield 45, 3) := by decide +kernel
theorem dX1_plan_206 : decode cX1_plan 206 = .ok (.iconst 3, 1) := by decide +kernel
theorem dX1_plan_207 : decode cX1_plan 207 = .ok (.iload 4, 2) := by decide +kernel
theorem dX1_plan_209 : decode cX1_plan 209 = .ok (.imul, 1) := by decide +kernel
theorem dX1_plan_210 : decode cX1_plan 210 = .ok (.aload_n 0, 1) := by decide +kernel
theorem dX1_plan_211 : decode cX1_plan 211 = .ok (.getfield 48, 3) := by decide +kernel
theorem dX1_plan_214 : decode cX1_plan 214 = .ok (.iload 4, 2) := by decide +kernel
theorem dX1_plan_216 : decode cX1_plan 216 = .ok (.iaload, 1) := by decide +kernel
theorem dX1_plan_217 : decode cX1_plan 217 = .ok (.iadd, 1) := by decide +kernel
theorem dX1_plan_218 : decode cX1_plan 218 = .ok (.iaload, 1) := by decide +kernel
theorem dX1_plan_219 : decode cX1_plan 219 = .ok (.iconst 1, 1) := by decide +kernel
theorem dX1_plan_220 : decode cX1_plan 220 = .ok (.invokevirtual 159, 3) := by decide +kernel
theorem dX1_plan_223 : decode cX1_plan 223 = .ok (.iinc 4 1, 3) := by decide +kernel
theorem dX1_plan_226 : decode cX1_plan 226 = .ok (.iload 4, 2) := by decide +kernel
theorem dX1_plan_228 : decode cX1_plan 228 = .ok (.aload_n 0, 1) := by decide +kernel
theorem dX1_plan_229 : decode cX1_plan 229 = .ok (.getfield 7, 3) := by decide +kernel
theorem dX1_plan_232 : decode cX1_plan 232 = .ok (.if_icmp .ge (-164), 3) := by decide +kernel
theorem dX1_plan_235 : decode cX1_plan 235 = .ok (.aload_n 0, 1) := by decide +kernel
theorem dX1_plan_236 : decode cX1_plan 236 = .ok (.getfield 48, 3) := by decide +kernel
theorem dX1_plan_239 : decode cX1_plan 239 = .ok (.iload 4, 2) := by decide +kernel
theorem dX1_plan_241 : decode cX1_plan 241 = .ok (.iconst (-1), 1) := by decide +kernel
theorem dX1_plan_242 : decode cX1_plan 242 = .ok (.iastore, 1) := by decide +kernel
theorem dX1_plan_243 : decode cX1_plan 243 = .ok (.goto (-175), 3) := by decide +kernel
theorem dX1_plan_246 : decode cX1_plan 246 = .ok (.iinc 4 (-1), 3) := by decide +kernel
theorem dX1_plan_249 : decode cX1_plan 249 = .ok (.goto (-181), 3) := by decide +kernel
theorem dX1_plan_252 : decode cX1_plan 252 = .ok (.aload_n 0, 1) := by decide +kernel
theorem dX1_plan_253 : decode cX1_plan 253 = .ok (.iload 4, 2) := by decide +kernel
theorem dX1_plan_255 : decode cX1_plan 255 = .ok (.aload_n 0, 1) := by decide +kernel
theorem dX1_plan_256 : decode cX1_plan 256 = .ok (.getfield 7, 3) := by decide +kernel
theorem dX1_plan_259 : decode cX1_plan 259 = .ok (.if_icmp .ne 7, 3) := by decide +kernel
theorem dX1_plan_262 : decode cX1_plan 262 = .ok (.iconst 1, 1) := by decide +kernel
theorem dX1_plan_263 : decode cX1_plan 263 = .ok (.goto 4, 3) := by decide +kernel
theorem dX1_plan_266 : decode cX1_plan 266 = .ok (.iconst 0, 1) := by decide +kernel
theorem dX1_plan_267 : decode cX1_plan 267 = .ok (.putfield 60, 3) := by decide +kernel
theorem dX1_plan_270 : decode cX1_plan 270 = .ok (.aload_n 0, 1) := by decide +kernel
theorem dX1_plan_271 : decode cX1_plan 271 = .ok (.getfield 60, 3) := by decide +kernel
theorem dX1_plan_274 : decode cX1_plan 274 = .ok (.ifCond .eq 7, 3) := by decide +kernel
theorem dX1_plan_277 : decode cX1_plan 277 = .ok (.iconst 1, 1) := by decide +kernel
theorem dX1_plan_278 : decode cX1_plan 278 = .ok (.goto 4, 3) := by decide +kernel
theorem dX1_plan_281 : decode cX1_plan 281 = .ok (.iconst 0, 1) := by decide +kernel
theorem dX1_plan_282 : decode cX1_plan 282 = .ok (.ireturn, 1) := by decide +kernel
theorem dX1_chosenOf_0 : decode cX1_chosenOf 0 = .ok (.aload_n 0, 1) := by decide +kernel
theorem dX1_chosenOf_1 : decode cX1_chosenOf 1 = .ok (.getfield 60, 3) := by decide +kernel
theorem dX1_chosenOf_4 : decode cX1_chosenOf 4 = .ok (.ifCond .eq 12, 3) := by decide +kernel
theorem dX1_chosenOf_7 : decode cX1_chosenOf 7 = .ok (.aload_n 0, 1) := by decide +kernel
theorem dX1_chosenOf_8 : decode cX1_chosenOf 8 = .ok (.getfield 48, 3) := by decide +kernel
theorem dX1_chosenOf_11 : decode cX1_chosenOf 11 = .ok (.iload_n 1, 1) := by decide +kernel
theorem dX1_chosenOf_12 : decode cX1_chosenOf 12 = .ok (.iaload, 1) := by decide +kernel
theorem dX1_chosenOf_13 : decode cX1_chosenOf 13 = .ok (.goto 4, 3) := by decide +kernel
theorem dX1_chosenOf_16 : decode cX1_chosenOf 16 = .ok (.iconst (-1), 1) := by decide +kernel
theorem dX1_chosenOf_17 : decode cX1_chosenOf 17 = .ok (.ireturn, 1) := by decide +kernel
set_option maxRecDepth 20000 in
theorem ggX1_chosen_X1_isPlayer : GoodIn wsX1_chosen wsX1_isPlayer := goodIn_r _ [5, 6, 7, 8, 4, 9, 16, 17, 18, 19, 20, 21, 22, 23, 24, 25, 26, 27, 28, 29, 30, 31, 32, 33, 34, 35, 36, 37, 38] (by decide +kernel) (by decide +kernel)
set_option maxRecDepth 20000 in
theorem gX1_chosen_X1_isPlayer : GoodIn wsX1_chosen (wsV RX1 75 RX1 yX1_isPlayer wsX1_isPlayer) := goodIn_app (goodIn_of _ (by decide +kernel)) ggX1_chosen_X1_isPlayer
set_option maxRecDepth 20000 in
theorem ggX1_chosen_X1_chosenOf : GoodIn wsX1_chosen wsX1_chosenOf := goodIn_r _ [13, 14, 15, 16, 17, 18, 19, 20, 21, 22, 23, 24, 25, 26, 27, 28, 29, 30, 31, 32, 33, 34, 35, 36, 37, 38] (by decide +kernel) (by decide +kernel)
set_option maxRecDepth 20000 in
theorem gX1_chosen_X1_chosenOf : GoodIn wsX1_chosen (wsV RX1 165 RX1 yX1_chosenOf wsX1_chosenOf) := goodIn_app (goodIn_of _ (by decide +kernel)) ggX1_chosen_X1_chosenOf
theorem dX1_chosen_0 : decode cX1_chosen 0 = .ok (.aload_n 0, 1) := by decide +kernel
theorem dX1_chosen_1 : decode cX1_chosen 1 = .ok (.iload_n 1, 1) := by decide +kernel
theorem dX1_chosen_2 : decode cX1_chosen 2 = .ok (.invokevirtual 75, 3) := by decide +kernel
theorem dX1_chosen_5 : decode cX1_chosen 5 = .ok (.ifCond .eq 11, 3) := by decide +kernel
theorem dX1_chosen_8 : decode cX1_chosen 8 = .ok (.aload_n 0, 1) := by decide +kernel
theorem dX1_chosen_9 : decode cX1_chosen 9 = .ok (.iload_n 1, 1) := by decide +kernel
theorem dX1_chosen_10 : decode cX1_chosen 10 = .ok (.invokevirtual 165, 3) := by decide +kernel
theorem dX1_chosen_13 : decode cX1_chosen 13 = .ok (.goto 5, 3) := by decide +kernel
theorem dX1_chosen_16 : decode cX1_chosen 16 = .ok (.bipush (-101), 2) := by decide +kernel
theorem dX1_chosen_18 : decode cX1_chosen 18 = .ok (.ireturn, 1) := by decide +kernel
set_option maxRecDepth 20000 in
theorem ggX1_heard_X1_in : GoodIn wsX1_heard wsX1_in := goodIn_r _ [6] (by decide +kernel) (by decide +kernel)
set_option maxRecDepth 20000 in
theorem gX1_heard_X1_in : GoodIn wsX1_heard (va_wsS RX1 64 yX1_in wsX1_in) := goodIn_app (goodIn_of _ (by decide +kernel)) ggX1_heard_X1_in
theorem dX1_heard_0 : decode cX1_heard 0 = .ok (.iload_n 1, 1) := by decide +kernel
theorem dX1_heard_1 : decode cX1_heard 1 = .ok (.iconst 0, 1) := by decide +kernel
theorem dX1_heard_2 : decode cX1_heard 2 = .ok (.bipush 11, 2) := by decide +kernel
theorem dX1_heard_4 : decode cX1_heard 4 = .ok (.invokestatic 64, 3) := by decide +kernel
theorem dX1_heard_7 : decode cX1_heard 7 = .ok (.ifCond .ne 6, 3) := by decide +kernel
theorem dX1_heard_10 : decode cX1_heard 10 = .ok (.bipush (-101), 2) := by decide +kernel
theorem dX1_heard_12 : decode cX1_heard 12 = .ok (.ireturn, 1) := by decide +kernel
theorem dX1_heard_13 : decode cX1_heard 13 = .ok (.aload_n 0, 1) := by decide +kernel
theorem dX1_heard_14 : decode cX1_heard 14 = .ok (.getfield 60, 3) := by decide +kernel
theorem dX1_heard_17 : decode cX1_heard 17 = .ok (.ifCond .eq 12, 3) := by decide +kernel
theorem dX1_heard_20 : decode cX1_heard 20 = .ok (.aload_n 0, 1) := by decide +kernel
theorem dX1_heard_21 : decode cX1_heard 21 = .ok (.getfield 54, 3) := by decide +kernel
theorem dX1_heard_24 : decode cX1_heard 24 = .ok (.iload_n 1, 1) := by decide +kernel
theorem dX1_heard_25 : decode cX1_heard 25 = .ok (.iaload, 1) := by decide +kernel
theorem dX1_heard_26 : decode cX1_heard 26 = .ok (.goto 4, 3) := by decide +kernel
theorem dX1_heard_29 : decode cX1_heard 29 = .ok (.iconst 0, 1) := by decide +kernel
theorem dX1_heard_30 : decode cX1_heard 30 = .ok (.ireturn, 1) := by decide +kernel
set_option maxRecDepth 20000 in
theorem ggX1_drawn_X1_in : GoodIn wsX1_drawn wsX1_in := goodIn_r _ [5] (by decide +kernel) (by decide +kernel)
set_option maxRecDepth 20000 in
theorem gX1_drawn_X1_in : GoodIn wsX1_drawn (va_wsS RX1 64 yX1_in wsX1_in) := goodIn_app (goodIn_of _ (by decide +kernel)) ggX1_drawn_X1_in
theorem dX1_drawn_0 : decode cX1_drawn 0 = .ok (.iload_n 2, 1) := by decide +kernel
theorem dX1_drawn_1 : decode cX1_drawn 1 = .ok (.iconst 0, 1) := by decide +kernel
theorem dX1_drawn_2 : decode cX1_drawn 2 = .ok (.aload_n 0, 1) := by decide +kernel
theorem dX1_drawn_3 : decode cX1_drawn 3 = .ok (.getfield 7, 3) := by decide +kernel
theorem dX1_drawn_6 : decode cX1_drawn 6 = .ok (.iconst 1, 1) := by decide +kernel
theorem dX1_drawn_7 : decode cX1_drawn 7 = .ok (.isub, 1) := by decide +kernel
theorem dX1_drawn_8 : decode cX1_drawn 8 = .ok (.invokestatic 64, 3) := by decide +kernel
theorem dX1_drawn_11 : decode cX1_drawn 11 = .ok (.ifCond .ne 6, 3) := by decide +kernel
theorem dX1_drawn_14 : decode cX1_drawn 14 = .ok (.bipush (-101), 2) := by decide +kernel
theorem dX1_drawn_16 : decode cX1_drawn 16 = .ok (.ireturn, 1) := by decide +kernel
theorem dX1_drawn_17 : decode cX1_drawn 17 = .ok (.iconst 1, 1) := by decide +kernel
theorem dX1_drawn_18 : decode cX1_drawn 18 = .ok (.istore_n 3, 1) := by decide +kernel
theorem dX1_drawn_19 : decode cX1_drawn 19 = .ok (.iconst 2, 1) := by decide +kernel
theorem dX1_drawn_20 : decode cX1_drawn 20 = .ok (.istore 4, 2) := by decide +kernel
theorem dX1_drawn_22 : decode cX1_drawn 22 = .ok (.iload 4, 2) := by decide +kernel
theorem dX1_drawn_24 : decode cX1_drawn 24 = .ok (.aload_n 0, 1) := by decide +kernel
theorem dX1_drawn_25 : decode cX1_drawn 25 = .ok (.getfield 7, 3) := by decide +kernel
theorem dX1_drawn_28 : decode cX1_drawn 28 = .ok (.if_icmp .gt 14, 3) := by decide +kernel
theorem dX1_drawn_31 : decode cX1_drawn 31 = .ok (.iload_n 3, 1) := by decide +kernel
theorem dX1_drawn_32 : decode cX1_drawn 32 = .ok (.iload 4, 2) := by decide +kernel
theorem dX1_drawn_34 : decode cX1_drawn 34 = .ok (.imul, 1) := by decide +kernel
theorem dX1_drawn_35 : decode cX1_drawn 35 = .ok (.istore_n 3, 1) := by decide +kernel
theorem dX1_drawn_36 : decode cX1_drawn 36 = .ok (.iinc 4 1, 3) := by decide +kernel
theorem dX1_drawn_39 : decode cX1_drawn 39 = .ok (.goto (-17), 3) := by decide +kernel
theorem dX1_drawn_42 : decode cX1_drawn 42 = .ok (.iload_n 1, 1) := by decide +kernel
theorem dX1_drawn_43 : decode cX1_drawn 43 = .ok (.iconst 0, 1) := by decide +kernel
theorem dX1_drawn_44 : decode cX1_drawn 44 = .ok (.iload_n 3, 1) := by decide +kernel
theorem dX1_drawn_45 : decode cX1_drawn 45 = .ok (.iconst 1, 1) := by decide +kernel
theorem dX1_drawn_46 : decode cX1_drawn 46 = .ok (.isub, 1) := by decide +kernel
theorem dX1_drawn_47 : decode cX1_drawn 47 = .ok (.invokestatic 64, 3) := by decide +kernel
theorem dX1_drawn_50 : decode cX1_drawn 50 = .ok (.ifCond .ne 6, 3) := by decide +kernel
theorem dX1_drawn_53 : decode cX1_drawn 53 = .ok (.bipush (-102), 2) := by decide +kernel
theorem dX1_drawn_55 : decode cX1_drawn 55 = .ok (.ireturn, 1) := by decide +kernel
theorem dX1_drawn_56 : decode cX1_drawn 56 = .ok (.iload_n 1, 1) := by decide +kernel
theorem dX1_drawn_57 : decode cX1_drawn 57 = .ok (.istore 4, 2) := by decide +kernel
theorem dX1_drawn_59 : decode cX1_drawn 59 = .ok (.iconst 0, 1) := by decide +kernel
theorem dX1_drawn_60 : decode cX1_drawn 60 = .ok (.istore 5, 2) := by decide +kernel
theorem dX1_drawn_62 : decode cX1_drawn 62 = .ok (.iconst (-1), 1) := by decide +kernel
theorem dX1_drawn_63 : decode cX1_drawn 63 = .ok (.istore 6, 2) := by decide +kernel
theorem dX1_drawn_65 : decode cX1_drawn 65 = .ok (.iconst 0, 1) := by decide +kernel
theorem dX1_drawn_66 : decode cX1_drawn 66 = .ok (.istore 7, 2) := by decide +kernel
theorem dX1_drawn_68 : decode cX1_drawn 68 = .ok (.iload 7, 2) := by decide +kernel
theorem dX1_drawn_70 : decode cX1_drawn 70 = .ok (.iload_n 2, 1) := by decide +kernel
theorem dX1_drawn_71 : decode cX1_drawn 71 = .ok (.if_icmp .gt 86, 3) := by decide +kernel
theorem dX1_drawn_74 : decode cX1_drawn 74 = .ok (.iload_n 3, 1) := by decide +kernel
theorem dX1_drawn_75 : decode cX1_drawn 75 = .ok (.aload_n 0, 1) := by decide +kernel
theorem dX1_drawn_76 : decode cX1_drawn 76 = .ok (.getfield 7, 3) := by decide +kernel
theorem dX1_drawn_79 : decode cX1_drawn 79 = .ok (.iload 7, 2) := by decide +kernel
theorem dX1_drawn_81 : decode cX1_drawn 81 = .ok (.isub, 1) := by decide +kernel
theorem dX1_drawn_82 : decode cX1_drawn 82 = .ok (.idiv, 1) := by decide +kernel
theorem dX1_drawn_83 : decode cX1_drawn 83 = .ok (.istore_n 3, 1) := by decide +kernel
theorem dX1_drawn_84 : decode cX1_drawn 84 = .ok (.iload 4, 2) := by decide +kernel
theorem dX1_drawn_86 : decode cX1_drawn 86 = .ok (.iload_n 3, 1) := by decide +kernel
theorem dX1_drawn_87 : decode cX1_drawn 87 = .ok (.idiv, 1) := by decide +kernel
theorem dX1_drawn_88 : decode cX1_drawn 88 = .ok (.istore 8, 2) := by decide +kernel
theorem dX1_drawn_90 : decode cX1_drawn 90 = .ok (.iload 4, 2) := by decide +kernel
theorem dX1_drawn_92 : decode cX1_drawn 92 = .ok (.iload_n 3, 1) := by decide +kernel
theorem dX1_drawn_93 : decode cX1_drawn 93 = .ok (.irem, 1) := by decide +kernel
theorem dX1_drawn_94 : decode cX1_drawn 94 = .ok (.istore 4, 2) := by decide +kernel
theorem dX1_drawn_96 : decode cX1_drawn 96 = .ok (.iconst 0, 1) := by decide +kernel
theorem dX1_drawn_97 : decode cX1_drawn 97 = .ok (.istore 6, 2) := by decide +kernel
theorem dX1_drawn_99 : decode cX1_drawn 99 = .ok (.iload 5, 2) := by decide +kernel
theorem dX1_drawn_101 : decode cX1_drawn 101 = .ok (.iload 6, 2) := by decide +kernel
theorem dX1_drawn_103 : decode cX1_drawn 103 = .ok (.ishr, 1) := by decide +kernel
theorem dX1_drawn_104 : decode cX1_drawn 104 = .ok (.iconst 1, 1) := by decide +kernel
theorem dX1_drawn_105 : decode cX1_drawn 105 = .ok (.iand, 1) := by decide +kernel
theorem dX1_drawn_106 : decode cX1_drawn 106 = .ok (.iconst 1, 1) := by decide +kernel
theorem dX1_drawn_107 : decode cX1_drawn 107 = .ok (.if_icmp .eq 8, 3) := by decide +kernel
theorem dX1_drawn_110 : decode cX1_drawn 110 = .ok (.iload 8, 2) := by decide +kernel
theorem dX1_drawn_112 : decode cX1_drawn 112 = .ok (.ifCond .le 30, 3) := by decide +kernel
theorem dX1_drawn_115 : decode cX1_drawn 115 = .ok (.iload 8, 2) := by decide +kernel
theorem dX1_drawn_117 : decode cX1_drawn 117 = .ok (.iload 5, 2) := by decide +kernel
theorem dX1_drawn_119 : decode cX1_drawn 119 = .ok (.iload 6, 2) := by decide +kernel
theorem dX1_drawn_121 : decode cX1_drawn 121 = .ok (.ishr, 1) := by decide +kernel
theorem dX1_drawn_122 : decode cX1_drawn 122 = .ok (.iconst 1, 1) := by decide +kernel
theorem dX1_drawn_123 : decode cX1_drawn 123 = .ok (.iand, 1) := by decide +kernel
theorem dX1_drawn_124 : decode cX1_drawn 124 = .ok (.iconst 1, 1) := by decide +kernel
theorem dX1_drawn_125 : decode cX1_drawn 125 = .ok (.if_icmp .ne 7, 3) := by decide +kernel
theorem dX1_drawn_128 : decode cX1_drawn 128 = .ok (.iconst 0, 1) := by decide +kernel
theorem dX1_drawn_129 : decode cX1_drawn 129 = .ok (.goto 4, 3) := by decide +kernel
theorem dX1_drawn_132 : decode cX1_drawn 132 = .ok (.iconst 1, 1) := by decide +kernel
theorem dX1_drawn_133 : decode cX1_drawn 133 = .ok (.isub, 1) := by decide +kernel
theorem dX1_drawn_134 : decode cX1_drawn 134 = .ok (.istore 8, 2) := by decide +kernel
theorem dX1_drawn_136 : decode cX1_drawn 136 = .ok (.iinc 6 1, 3) := by decide +kernel
theorem dX1_drawn_139 : decode cX1_drawn 139 = .ok (.goto (-40), 3) := by decide +kernel
theorem dX1_drawn_142 : decode cX1_drawn 142 = .ok (.iload 5, 2) := by decide +kernel
theorem dX1_drawn_144 : decode cX1_drawn 144 = .ok (.iconst 1, 1) := by decide +kernel
theorem dX1_drawn_145 : decode cX1_drawn 145 = .ok (.iload 6, 2) := by decide +kernel
theorem dX1_drawn_147 : decode cX1_drawn 147 = .ok (.ishl, 1) := by decide +kernel
theorem dX1_drawn_148 : decode cX1_drawn 148 = .ok (.ior, 1) := by decide +kernel
theorem dX1_drawn_149 : decode cX1_drawn 149 = .ok (.istore 5, 2) := by decide +kernel
theorem dX1_drawn_151 : decode cX1_drawn 151 = .ok (.iinc 7 1, 3) := by decide +kernel
theorem dX1_drawn_154 : decode cX1_drawn 154 = .ok (.goto (-86), 3) := by decide +kernel
theorem dX1_drawn_157 : decode cX1_drawn 157 = .ok (.iload 6, 2) := by decide +kernel
theorem dX1_drawn_159 : decode cX1_drawn 159 = .ok (.ireturn, 1) := by decide +kernel
theorem dX1_count_0 : decode cX1_count 0 = .ok (.iconst 0, 1) := by decide +kernel
theorem dX1_count_1 : decode cX1_count 1 = .ok (.istore_n 2, 1) := by decide +kernel
theorem dX1_count_2 : decode cX1_count 2 = .ok (.iload_n 1, 1) := by decide +kernel
theorem dX1_count_3 : decode cX1_count 3 = .ok (.tableswitch 176 0 5 #[37, 42, 47, 82, 116, 149], 37) := by decide +kernel
theorem dX1_count_40 : decode cX1_count 40 = .ok (.aload_n 0, 1) := by decide +kernel
theorem dX1_count_41 : decode cX1_count 41 = .ok (.getfield 7, 3) := by decide +kernel
theorem dX1_count_44 : decode cX1_count 44 = .ok (.ireturn, 1) := by decide +kernel
theorem dX1_count_45 : decode cX1_count 45 = .ok (.aload_n 0, 1) := by decide +kernel
theorem dX1_count_46 : decode cX1_count 46 = .ok (.getfield 13, 3) := by decide +kernel
theorem dX1_count_49 : decode cX1_count 49 = .ok (.ireturn, 1) := by decide +kernel
theorem dX1_count_50 : decode cX1_count 50 = .ok (.iconst 0, 1) := by decide +kernel
theorem dX1_count_51 : decode cX1_count 51 = .ok (.istore_n 3, 1) := by decide +kernel
theorem dX1_count_52 : decode cX1_count 52 = .ok (.iload_n 3, 1) := by decide +kernel
theorem dX1_count_53 : decode cX1_count 53 = .ok (.sipush 210, 3) := by decide +kernel
theorem dX1_count_56 : decode cX1_count 56 = .ok (.if_icmp .ge 27, 3) := by decide +kernel
theorem dX1_count_59 : decode cX1_count 59 = .ok (.iload_n 2, 1) := by decide +kernel
theorem dX1_count_60 : decode cX1_count 60 = .ok (.aload_n 0, 1) := by decide +kernel
theorem dX1_count_61 : decode cX1_count 61 = .ok (.getfield 16, 3) := by decide +kernel
theorem dX1_count_64 : decode cX1_count 64 = .ok (.iload_n 3, 1) := by decide +kernel
theorem dX1_count_65 : decode cX1_count 65 = .ok (.iaload, 1) := by decide +kernel
theorem dX1_count_66 : decode cX1_count 66 = .ok (.iconst (-1), 1) := by decide +kernel
theorem dX1_count_67 : decode cX1_count 67 = .ok (.if_icmp .ne 7, 3) := by decide +kernel
theorem dX1_count_70 : decode cX1_count 70 = .ok (.iconst 0, 1) := by decide +kernel
theorem dX1_count_71 : decode cX1_count 71 = .ok (.goto 4, 3) := by decide +kernel
theorem dX1_count_74 : decode cX1_count 74 = .ok (.iconst 1, 1) := by decide +kernel
theorem dX1_count_75 : decode cX1_count 75 = .ok (.iadd, 1) := by decide +kernel
theorem dX1_count_76 : decode cX1_count 76 = .ok (.istore_n 2, 1) := by decide +kernel
theorem dX1_count_77 : decode cX1_count 77 = .ok (.iinc 3 1, 3) := by decide +kernel
theorem dX1_count_80 : decode cX1_count 80 = .ok (.goto (-28), 3) := by decide +kernel
theorem dX1_count_83 : decode cX1_count 83 = .ok (.iload_n 2, 1) := by decide +kernel
theorem dX1_count_84 : decode cX1_count 84 = .ok (.ireturn, 1) := by decide +kernel
theorem dX1_count_85 : decode cX1_count 85 = .ok (.iconst 0, 1) := by decide +kernel
theorem dX1_count_86 : decode cX1_count 86 = .ok (.istore_n 3, 1) := by decide +kernel
theorem dX1_count_87 : decode cX1_count 87 = .ok (.iload_n 3, 1) := by decide +kernel
theorem dX1_count_88 : decode cX1_count 88 = .ok (.sipush 210, 3) := by decide +kernel
theorem dX1_count_91 : decode cX1_count 91 = .ok (.if_icmp .ge 26, 3) := by decide +kernel
theorem dX1_count_94 : decode cX1_count 94 = .ok (.iload_n 2, 1) := by decide +kernel
theorem dX1_count_95 : decode cX1_count 95 = .ok (.aload_n 0, 1) := by decide +kernel
theorem dX1_count_96 : decode cX1_count 96 = .ok (.getfield 20, 3) := by decide +kernel
theorem dX1_count_99 : decode cX1_count 99 = .ok (.iload_n 3, 1) := by decide +kernel
theorem dX1_count_100 : decode cX1_count 100 = .ok (.baload, 1) := by decide +kernel
theorem dX1_count_101 : decode cX1_count 101 = .ok (.ifCond .eq 7, 3) := by decide +kernel
theorem dX1_count_104 : decode cX1_count 104 = .ok (.iconst 1, 1) := by decide +kernel
theorem dX1_count_105 : decode cX1_count 105 = .ok (.goto 4, 3) := by decide +kernel
theorem dX1_count_108 : decode cX1_count 108 = .ok (.iconst 0, 1) := by decide +kernel
theorem dX1_count_109 : decode cX1_count 109 = .ok (.iadd, 1) := by decide +kernel
theorem dX1_count_110 : decode cX1_count 110 = .ok (.istore_n 2, 1) := by decide +kernel
theorem dX1_count_111 : decode cX1_count 111 = .ok (.iinc 3 1, 3) := by decide +kernel
theorem dX1_count_114 : decode cX1_count 114 = .ok (.goto (-27), 3) := by decide +kernel
theorem dX1_count_117 : decode cX1_count 117 = .ok (.iload_n 2, 1) := by decide +kernel
theorem dX1_count_118 : decode cX1_count 118 = .ok (.ireturn, 1) := by decide +kernel
theorem dX1_count_119 : decode cX1_count 119 = .ok (.iconst 0, 1) := by decide +kernel
theorem dX1_count_120 : decode cX1_count 120 = .ok (.istore_n 3, 1) := by decide +kernel
theorem dX1_count_121 : decode cX1_count 121 = .ok (.iload_n 3, 1) := by decide +kernel
theorem dX1_count_122 : decode cX1_count 122 = .ok (.bipush 70, 2) := by decide +kernel
theorem dX1_count_124 : decode cX1_count 124 = .ok (.if_icmp .ge 26, 3) := by decide +kernel
theorem dX1_count_127 : decode cX1_count 127 = .ok (.iload_n 2, 1) := by decide +kernel
theorem dX1_count_128 : decode cX1_count 128 = .ok (.aload_n 0, 1) := by decide +kernel
theorem dX1_count_129 : decode cX1_count 129 = .ok (.getfield 24, 3) := by decide +kernel
theorem dX1_count_132 : decode cX1_count 132 = .ok (.iload_n 3, 1) := by decide +kernel
theorem dX1_count_133 : decode cX1_count 133 = .ok (.baload, 1) := by decide +kernel
theorem dX1_count_134 : decode cX1_count 134 = .ok (.ifCond .eq 7, 3) := by decide +kernel
theorem dX1_count_137 : decode cX1_count 137 = .ok (.iconst 1, 1) := by decide +kernel
theorem dX1_count_138 : decode cX1_count 138 = .ok (.goto 4, 3) := by decide +kernel
theorem dX1_count_141 : decode cX1_count 141 = .ok (.iconst 0, 1) := by decide +kernel
theorem dX1_count_142 : decode cX1_count 142 = .ok (.iadd, 1) := by decide +kernel
theorem dX1_count_143 : decode cX1_count 143 = .ok (.istore_n 2, 1) := by decide +kernel
theorem dX1_count_144 : decode cX1_count 144 = .ok (.iinc 3 1, 3) := by decide +kernel
theorem dX1_count_147 : decode cX1_count 147 = .ok (.goto (-26), 3) := by decide +kernel
theorem dX1_count_150 : decode cX1_count 150 = .ok (.iload_n 2, 1) := by decide +kernel
theorem dX1_count_151 : decode cX1_count 151 = .ok (.ireturn, 1) := by decide +kernel
theorem dX1_count_152 : decode cX1_count 152 = .ok (.iconst 0, 1) := by decide +kernel
theorem dX1_count_153 : decode cX1_count 153 = .ok (.istore_n 3, 1) := by decide +kernel
theorem dX1_count_154 : decode cX1_count 154 = .ok (.iload_n 3, 1) := by decide +kernel
theorem dX1_count_155 : decode cX1_count 155 = .ok (.aload_n 0, 1) := by decide +kernel
theorem dX1_count_156 : decode cX1_count 156 = .ok (.getfield 7, 3) := by decide +kernel
theorem dX1_count_159 : decode cX1_count 159 = .ok (.if_icmp .ge 18, 3) := by decide +kernel
theorem dX1_count_162 : decode cX1_count 162 = .ok (.iload_n 2, 1) := by decide +kernel
theorem dX1_count_163 : decode cX1_count 163 = .ok (.aload_n 0, 1) := by decide +kernel
theorem dX1_count_164 : decode cX1_count 164 = .ok (.getfield 42, 3) := by decide +kernel
theorem dX1_count_167 : decode cX1_count 167 = .ok (.iload_n 3, 1) := by decide +kernel
theorem dX1_count_168 : decode cX1_count 168 = .ok (.iaload, 1) := by decide +kernel
theorem dX1_count_169 : decode cX1_count 169 = .ok (.iadd, 1) := by decide +kernel
theorem dX1_count_170 : decode cX1_count 170 = .ok (.istore_n 2, 1) := by decide +kernel
theorem dX1_count_171 : decode cX1_count 171 = .ok (.iinc 3 1, 3) := by decide +kernel
theorem dX1_count_174 : decode cX1_count 174 = .ok (.goto (-20), 3) := by decide +kernel
theorem dX1_count_177 : decode cX1_count 177 = .ok (.iload_n 2, 1) := by decide +kernel
theorem dX1_count_178 : decode cX1_count 178 = .ok (.ireturn, 1) := by decide +kernel
theorem dX1_count_179 : decode cX1_count 179 = .ok (.bipush (-102), 2) := by decide +kernel
theorem dX1_count_181 : decode cX1_count 181 = .ok (.ireturn, 1) := by decide +kernel
theorem dX1_mix_0 : decode cX1_mix 0 = .ok (.aload_n 0, 1) := by decide +kernel
theorem dX1_mix_1 : decode cX1_mix 1 = .ok (.ldc2_w 168, 3) := by decide +kernel
theorem dX1_mix_4 : decode cX1_mix 4 = .ok (.aload_n 0, 1) := by decide +kernel
theorem dX1_mix_5 : decode cX1_mix 5 = .ok (.getfield 170, 3) := by decide +kernel
theorem dX1_mix_8 : decode cX1_mix 8 = .ok (.lmul, 1) := by decide +kernel
theorem dX1_mix_9 : decode cX1_mix 9 = .ok (.lload_n 1, 1) := by decide +kernel
theorem dX1_mix_10 : decode cX1_mix 10 = .ok (.ladd, 1) := by decide +kernel
theorem dX1_mix_11 : decode cX1_mix 11 = .ok (.putfield 170, 3) := by decide +kernel
theorem dX1_mix_14 : decode cX1_mix 14 = .ok (.return_, 1) := by decide +kernel
set_option maxRecDepth 20000 in
theorem ggX1_digest_X1_mix : GoodIn wsX1_digest wsX1_mix := goodIn_r _ [19, 20, 2, 27, 28, 29, 30, 31, 32, 33, 34, 35, 36, 37, 38, 39, 40, 41, 42, 43, 44, 45, 46, 47, 48, 49] (by decide +kernel) (by decide +kernel)
set_option maxRecDepth 20000 in
theorem gX1_digest_X1_mix : GoodIn wsX1_digest (wsV RX1 176 RX1 yX1_mix wsX1_mix) := goodIn_app (goodIn_of _ (by decide +kernel)) ggX1_digest_X1_mix
set_option maxRecDepth 20000 in
theorem ggX1_digest_X1_chosenOf : GoodIn wsX1_digest wsX1_chosenOf := goodIn_r _ [24, 25, 26, 27, 28, 29, 30, 31, 32, 33, 34, 35, 36, 37, 38, 39, 40, 41, 42, 43, 44, 45, 46, 47, 48, 49] (by decide +kernel) (by decide +kernel)
set_option maxRecDepth 20000 in
theorem gX1_digest_X1_chosenOf : GoodIn wsX1_digest (wsV RX1 165 RX1 yX1_chosenOf wsX1_chosenOf) := goodIn_app (goodIn_of _ (by decide +kernel)) ggX1_digest_X1_chosenOf
theorem dX1_digest_0 : decode cX1_digest 0 = .ok (.aload_n 0, 1) := by decide +kernel
theorem dX1_digest_1 : decode cX1_digest 1 = .ok (.ldc2_w 174, 3) := by decide +kernel
theorem dX1_digest_4 : decode cX1_digest 4 = .ok (.putfield 170, 3) := by decide +kernel
theorem dX1_digest_7 : decode cX1_digest 7 = .ok (.aload_n 0, 1) := by decide +kernel
theorem dX1_digest_8 : decode cX1_digest 8 = .ok (.aload_n 0, 1) := by decide +kernel
theorem dX1_digest_9 : decode cX1_digest 9 = .ok (.getfield 7, 3) := by decide +kernel
theorem dX1_digest_12 : decode cX1_digest 12 = .ok (.i2l, 1) := by decide +kernel
theorem dX1_digest_13 : decode cX1_digest 13 = .ok (.invokevirtual 176, 3) := by decide +kernel
theorem dX1_digest_16 : decode cX1_digest 16 = .ok (.aload_n 0, 1) := by decide +kernel
theorem dX1_digest_17 : decode cX1_digest 17 = .ok (.aload_n 0, 1) := by decide +kernel
theorem dX1_digest_18 : decode cX1_digest 18 = .ok (.getfield 13, 3) := by decide +kernel
theorem dX1_digest_21 : decode cX1_digest 21 = .ok (.i2l, 1) := by decide +kernel
theorem dX1_digest_22 : decode cX1_digest 22 = .ok (.invokevirtual 176, 3) := by decide +kernel
theorem dX1_digest_25 : decode cX1_digest 25 = .ok (.iconst 0, 1) := by decide +kernel
theorem dX1_digest_26 : decode cX1_digest 26 = .ok (.istore_n 1, 1) := by decide +kernel
theorem dX1_digest_27 : decode cX1_digest 27 = .ok (.iload_n 1, 1) := by decide +kernel
theorem dX1_digest_28 : decode cX1_digest 28 = .ok (.iconst 3, 1) := by decide +kernel
theorem dX1_digest_29 : decode cX1_digest 29 = .ok (.if_icmp .ge 90, 3) := by decide +kernel
theorem dX1_digest_32 : decode cX1_digest 32 = .ok (.iconst 0, 1) := by decide +kernel
theorem dX1_digest_33 : decode cX1_digest 33 = .ok (.istore_n 2, 1) := by decide +kernel
theorem dX1_digest_34 : decode cX1_digest 34 = .ok (.iload_n 2, 1) := by decide +kernel
theorem dX1_digest_35 : decode cX1_digest 35 = .ok (.aload_n 0, 1) := by decide +kernel
theorem dX1_digest_36 : decode cX1_digest 36 = .ok (.getfield 13, 3) := by decide +kernel
theorem dX1_digest_39 : decode cX1_digest 39 = .ok (.if_icmp .ge 74, 3) := by decide +kernel
theorem dX1_digest_42 : decode cX1_digest 42 = .ok (.iconst 0, 1) := by decide +kernel
theorem dX1_digest_43 : decode cX1_digest 43 = .ok (.istore_n 3, 1) := by decide +kernel
theorem dX1_digest_44 : decode cX1_digest 44 = .ok (.iload_n 3, 1) := by decide +kernel
theorem dX1_digest_45 : decode cX1_digest 45 = .ok (.aload_n 0, 1) := by decide +kernel
theorem dX1_digest_46 : decode cX1_digest 46 = .ok (.getfield 7, 3) := by decide +kernel
theorem dX1_digest_49 : decode cX1_digest 49 = .ok (.if_icmp .ge 58, 3) := by decide +kernel
theorem dX1_digest_52 : decode cX1_digest 52 = .ok (.aload_n 0, 1) := by decide +kernel
theorem dX1_digest_53 : decode cX1_digest 53 = .ok (.aload_n 0, 1) := by decide +kernel
theorem dX1_digest_54 : decode cX1_digest 54 = .ok (.getfield 16, 3) := by decide +kernel
theorem dX1_digest_57 : decode cX1_digest 57 = .ok (.bipush 70, 2) := by decide +kernel
theorem dX1_digest_59 : decode cX1_digest 59 = .ok (.iload_n 1, 1) := by decide +kernel
theorem dX1_digest_60 : decode cX1_digest 60 = .ok (.imul, 1) := by decide +kernel
theorem dX1_digest_61 : decode cX1_digest 61 = .ok (.bipush 10, 2) := by decide +kernel
theorem dX1_digest_63 : decode cX1_digest 63 = .ok (.iload_n 2, 1) := by decide +kernel
theorem dX1_digest_64 : decode cX1_digest 64 = .ok (.imul, 1) := by decide +kernel
theorem dX1_digest_65 : decode cX1_digest 65 = .ok (.iadd, 1) := by decide +kernel
theorem dX1_digest_66 : decode cX1_digest 66 = .ok (.iload_n 3, 1) := by decide +kernel
theorem dX1_digest_67 : decode cX1_digest 67 = .ok (.iadd, 1) := by decide +kernel
theorem dX1_digest_68 : decode cX1_digest 68 = .ok (.iaload, 1) := by decide +kernel
theorem dX1_digest_69 : decode cX1_digest 69 = .ok (.i2l, 1) := by decide +kernel
theorem dX1_digest_70 : decode cX1_digest 70 = .ok (.invokevirtual 176, 3) := by decide +kernel
theorem dX1_digest_73 : decode cX1_digest 73 = .ok (.aload_n 0, 1) := by decide +kernel
theorem dX1_digest_74 : decode cX1_digest 74 = .ok (.aload_n 0, 1) := by decide +kernel
theorem dX1_digest_75 : decode cX1_digest 75 = .ok (.getfield 20, 3) := by decide +kernel
theorem dX1_digest_78 : decode cX1_digest 78 = .ok (.bipush 70, 2) := by decide +kernel
theorem dX1_digest_80 : decode cX1_digest 80 = .ok (.iload_n 1, 1) := by decide +kernel
theorem dX1_digest_81 : decode cX1_digest 81 = .ok (.imul, 1) := by decide +kernel
theorem dX1_digest_82 : decode cX1_digest 82 = .ok (.bipush 10, 2) := by decide +kernel
theorem dX1_digest_84 : decode cX1_digest 84 = .ok (.iload_n 2, 1) := by decide +kernel
theorem dX1_digest_85 : decode cX1_digest 85 = .ok (.imul, 1) := by decide +kernel
theorem dX1_digest_86 : decode cX1_digest 86 = .ok (.iadd, 1) := by decide +kernel
theorem dX1_digest_87 : decode cX1_digest 87 = .ok (.iload_n 3, 1) := by decide +kernel
theorem dX1_digest_88 : decode cX1_digest 88 = .ok (.iadd, 1) := by decide +kernel
theorem dX1_digest_89 : decode cX1_digest 89 = .ok (.baload, 1) := by decide +kernel
theorem dX1_digest_90 : decode cX1_digest 90 = .ok (.ifCond .eq 7, 3) := by decide +kernel
theorem dX1_digest_93 : decode cX1_digest 93 = .ok (.lconst 1, 1) := by decide +kernel
theorem dX1_digest_94 : decode cX1_digest 94 = .ok (.goto 4, 3) := by decide +kernel
theorem dX1_digest_97 : decode cX1_digest 97 = .ok (.lconst 0, 1) := by decide +kernel
theorem dX1_digest_98 : decode cX1_digest 98 = .ok (.invokevirtual 176, 3) := by decide +kernel
theorem dX1_digest_101 : decode cX1_digest 101 = .ok (.iinc 3 1, 3) := by decide +kernel
theorem dX1_digest_104 : decode cX1_digest 104 = .ok (.goto (-60), 3) := by decide +kernel
theorem dX1_digest_107 : decode cX1_digest 107 = .ok (.iinc 2 1, 3) := by decide +kernel
theorem dX1_digest_110 : decode cX1_digest 110 = .ok (.goto (-76), 3) := by decide +kernel
theorem dX1_digest_113 : decode cX1_digest 113 = .ok (.iinc 1 1, 3) := by decide +kernel
theorem dX1_digest_116 : decode cX1_digest 116 = .ok (.goto (-89), 3) := by decide +kernel
theorem dX1_digest_119 : decode cX1_digest 119 = .ok (.iconst 0, 1) := by decide +kernel
theorem dX1_digest_120 : decode cX1_digest 120 = .ok (.istore_n 1, 1) := by decide +kernel
theorem dX1_digest_121 : decode cX1_digest 121 = .ok (.iload_n 1, 1) := by decide +kernel
theorem dX1_digest_122 : decode cX1_digest 122 = .ok (.aload_n 0, 1) := by decide +kernel
theorem dX1_digest_123 : decode cX1_digest 123 = .ok (.getfield 13, 3) := by decide +kernel
theorem dX1_digest_126 : decode cX1_digest 126 = .ok (.if_icmp .ge 48, 3) := by decide +kernel
theorem dX1_digest_129 : decode cX1_digest 129 = .ok (.iconst 0, 1) := by decide +kernel
theorem dX1_digest_130 : decode cX1_digest 130 = .ok (.istore_n 2, 1) := by decide +kernel
theorem dX1_digest_131 : decode cX1_digest 131 = .ok (.iload_n 2, 1) := by decide +kernel
theorem dX1_digest_132 : decode cX1_digest 132 = .ok (.aload_n 0, 1) := by decide +kernel
theorem dX1_digest_133 : decode cX1_digest 133 = .ok (.getfield 7, 3) := by decide +kernel
theorem dX1_digest_136 : decode cX1_digest 136 = .ok (.if_icmp .ge 32, 3) := by decide +kernel
theorem dX1_digest_139 : decode cX1_digest 139 = .ok (.aload_n 0, 1) := by decide +kernel
theorem dX1_digest_140 : decode cX1_digest 140 = .ok (.aload_n 0, 1) := by decide +kernel
theorem dX1_digest_141 : decode cX1_digest 141 = .ok (.getfield 24, 3) := by decide +kernel
theorem dX1_digest_144 : decode cX1_digest 144 = .ok (.bipush 10, 2) := by decide +kernel
theorem dX1_digest_146 : decode cX1_digest 146 = .ok (.iload_n 1, 1) := by decide +kernel
theorem dX1_digest_147 : decode cX1_digest 147 = .ok (.imul, 1) := by decide +kernel
theorem dX1_digest_148 : decode cX1_digest 148 = .ok (.iload_n 2, 1) := by decide +kernel
theorem dX1_digest_149 : decode cX1_digest 149 = .ok (.iadd, 1) := by decide +kernel
theorem dX1_digest_150 : decode cX1_digest 150 = .ok (.baload, 1) := by decide +kernel
theorem dX1_digest_151 : decode cX1_digest 151 = .ok (.ifCond .eq 7, 3) := by decide +kernel
theorem dX1_digest_154 : decode cX1_digest 154 = .ok (.lconst 1, 1) := by decide +kernel
theorem dX1_digest_155 : decode cX1_digest 155 = .ok (.goto 4, 3) := by decide +kernel
theorem dX1_digest_158 : decode cX1_digest 158 = .ok (.lconst 0, 1) := by decide +kernel
theorem dX1_digest_159 : decode cX1_digest 159 = .ok (.invokevirtual 176, 3) := by decide +kernel
theorem dX1_digest_162 : decode cX1_digest 162 = .ok (.iinc 2 1, 3) := by decide +kernel
theorem dX1_digest_165 : decode cX1_digest 165 = .ok (.goto (-34), 3) := by decide +kernel
theorem dX1_digest_168 : decode cX1_digest 168 = .ok (.iinc 1 1, 3) := by decide +kernel
theorem dX1_digest_171 : decode cX1_digest 171 = .ok (.goto (-50), 3) := by decide +kernel
theorem dX1_digest_174 : decode cX1_digest 174 = .ok (.aload_n 0, 1) := by decide +kernel
theorem dX1_digest_175 : decode cX1_digest 175 = .ok (.aload_n 0, 1) := by decide +kernel
theorem dX1_digest_176 : decode cX1_digest 176 = .ok (.getfield 27, 3) := by decide +kernel
theorem dX1_digest_179 : decode cX1_digest 179 = .ok (.i2l, 1) := by decide +kernel
theorem dX1_digest_180 : decode cX1_digest 180 = .ok (.invokevirtual 176, 3) := by decide +kernel
theorem dX1_digest_183 : decode cX1_digest 183 = .ok (.aload_n 0, 1) := by decide +kernel
theorem dX1_digest_184 : decode cX1_digest 184 = .ok (.aload_n 0, 1) := by decide +kernel
theorem dX1_digest_185 : decode cX1_digest 185 = .ok (.getfield 30, 3) := by decide +kernel
theorem dX1_digest_188 : decode cX1_digest 188 = .ok (.i2l, 1) := by decide +kernel
theorem dX1_digest_189 : decode cX1_digest 189 = .ok (.invokevirtual 176, 3) := by decide +kernel
theorem dX1_digest_192 : decode cX1_digest 192 = .ok (.iconst 0, 1) := by decide +kernel
theorem dX1_digest_193 : decode cX1_digest 193 = .ok (.istore_n 1, 1) := by decide +kernel
theorem dX1_digest_194 : decode cX1_digest 194 = .ok (.iload_n 1, 1) := by decide +kernel
theorem dX1_digest_195 : decode cX1_digest 195 = .ok (.iconst 3, 1) := by decide +kernel
theorem dX1_digest_196 : decode cX1_digest 196 = .ok (.if_icmp .ge 20, 3) := by decide +kernel
theorem dX1_digest_199 : decode cX1_digest 199 = .ok (.aload_n 0, 1) := by decide +kernel
theorem dX1_digest_200 : decode cX1_digest 200 = .ok (.aload_n 0, 1) := by decide +kernel
theorem dX1_digest_201 : decode cX1_digest 201 = .ok (.getfield 33, 3) := by decide +kernel
theorem dX1_digest_204 : decode cX1_digest 204 = .ok (.iload_n 1, 1) := by decide +kernel
theorem dX1_digest_205 : decode cX1_digest 205 = .ok (.iaload, 1) := by decide +kernel
theorem dX1_digest_206 : decode cX1_digest 206 = .ok (.i2l, 1) := by decide +kernel
theorem dX1_digest_207 : decode cX1_digest 207 = .ok (.invokevirtual 176, 3) := by decide +kernel
theorem dX1_digest_210 : decode cX1_digest 210 = .ok (.iinc 1 1, 3) := by decide +kernel
theorem dX1_digest_213 : decode cX1_digest 213 = .ok (.goto (-19), 3) := by decide +kernel
theorem dX1_digest_216 : decode cX1_digest 216 = .ok (.iconst 0, 1) := by decide +kernel
theorem dX1_digest_217 : decode cX1_digest 217 = .ok (.istore_n 1, 1) := by decide +kernel
theorem dX1_digest_218 : decode cX1_digest 218 = .ok (.iload_n 1, 1) := by decide +kernel
theorem dX1_digest_219 : decode cX1_digest 219 = .ok (.bipush 6, 2) := by decide +kernel
theorem dX1_digest_221 : decode cX1_digest 221 = .ok (.if_icmp .ge 20, 3) := by decide +kernel
theorem dX1_digest_224 : decode cX1_digest 224 = .ok (.aload_n 0, 1) := by decide +kernel
theorem dX1_digest_225 : decode cX1_digest 225 = .ok (.aload_n 0, 1) := by decide +kernel
theorem dX1_digest_226 : decode cX1_digest 226 = .ok (.getfield 36, 3) := by decide +kernel
theorem dX1_digest_229 : decode cX1_digest 229 = .ok (.iload_n 1, 1) := by decide +kernel
theorem dX1_digest_230 : decode cX1_digest 230 = .ok (.iaload, 1) := by decide +kernel
theorem dX1_digest_231 : decode cX1_digest 231 = .ok (.i2l, 1) := by decide +kernel
theorem dX1_digest_232 : decode cX1_digest 232 = .ok (.invokevirtual 176, 3) := by decide +kernel
theorem dX1_digest_235 : decode cX1_digest 235 = .ok (.iinc 1 1, 3) := by decide +kernel
theorem dX1_digest_238 : decode cX1_digest 238 = .ok (.goto (-20), 3) := by decide +kernel
theorem dX1_digest_241 : decode cX1_digest 241 = .ok (.iconst 0, 1) := by decide +kernel
theorem dX1_digest_242 : decode cX1_digest 242 = .ok (.istore_n 1, 1) := by decide +kernel
theorem dX1_digest_243 : decode cX1_digest 243 = .ok (.iload_n 1, 1) := by decide +kernel
theorem dX1_digest_244 : decode cX1_digest 244 = .ok (.bipush 12, 2) := by decide +kernel
theorem dX1_digest_246 : decode cX1_digest 246 = .ok (.if_icmp .ge 20, 3) := by decide +kernel
theorem dX1_digest_249 : decode cX1_digest 249 = .ok (.aload_n 0, 1) := by decide +kernel
theorem dX1_digest_250 : decode cX1_digest 250 = .ok (.aload_n 0, 1) := by decide +kernel
theorem dX1_digest_251 : decode cX1_digest 251 = .ok (.getfield 39, 3) := by decide +kernel
theorem dX1_digest_254 : decode cX1_digest 254 = .ok (.iload_n 1, 1) := by decide +kernel
theorem dX1_digest_255 : decode cX1_digest 255 = .ok (.iaload, 1) := by decide +kernel
theorem dX1_digest_256 : decode cX1_digest 256 = .ok (.i2l, 1) := by decide +kernel
theorem dX1_digest_257 : decode cX1_digest 257 = .ok (.invokevirtual 176, 3) := by decide +kernel
theorem dX1_digest_260 : decode cX1_digest 260 = .ok (.iinc 1 1, 3) := by decide +kernel
theorem dX1_digest_263 : decode cX1_digest 263 = .ok (.goto (-20), 3) := by decide +kernel
theorem dX1_digest_266 : decode cX1_digest 266 = .ok (.iconst 0, 1) := by decide +kernel
theorem dX1_digest_267 : decode cX1_digest 267 = .ok (.istore_n 1, 1) := by decide +kernel
theorem dX1_digest_268 : decode cX1_digest 268 = .ok (.iload_n 1, 1) := by decide +kernel
theorem dX1_digest_269 : decode cX1_digest 269 = .ok (.aload_n 0, 1) := by decide +kernel
theorem dX1_digest_270 : decode cX1_digest 270 = .ok (.getfield 7, 3) := by decide +kernel
theorem dX1_digest_273 : decode cX1_digest 273 = .ok (.if_icmp .ge 52, 3) := by decide +kernel
theorem dX1_digest_276 : decode cX1_digest 276 = .ok (.iconst 0, 1) := by decide +kernel
theorem dX1_digest_277 : decode cX1_digest 277 = .ok (.istore_n 2, 1) := by decide +kernel
theorem dX1_digest_278 : decode cX1_digest 278 = .ok (.iload_n 2, 1) := by decide +kernel
theorem dX1_digest_279 : decode cX1_digest 279 = .ok (.aload_n 0, 1) := by decide +kernel
theorem dX1_digest_280 : decode cX1_digest 280 = .ok (.getfield 42, 3) := by decide +kernel
theorem dX1_digest_283 : decode cX1_digest 283 = .ok (.iload_n 1, 1) := by decide +kernel
theorem dX1_digest_284 : decode cX1_digest 284 = .ok (.iaload, 1) := by decide +kernel
theorem dX1_digest_285 : decode cX1_digest 285 = .ok (.if_icmp .ge 24, 3) := by decide +kernel
theorem dX1_digest_288 : decode cX1_digest 288 = .ok (.aload_n 0, 1) := by decide +kernel
theorem dX1_digest_289 : decode cX1_digest 289 = .ok (.aload_n 0, 1) := by decide +kernel
theorem dX1_digest_290 : decode cX1_digest 290 = .ok (.getfield 45, 3) := by decide +kernel
theorem dX1_digest_293 : decode cX1_digest 293 = .ok (.iconst 3, 1) := by decide +kernel
theorem dX1_digest_294 : decode cX1_digest 294 = .ok (.iload_n 1, 1) := by decide +kernel
theorem dX1_digest_295 : decode cX1_digest 295 = .ok (.imul, 1) := by decide +kernel
theorem dX1_digest_296 : decode cX1_digest 296 = .ok (.iload_n 2, 1) := by decide +kernel
theorem dX1_digest_297 : decode cX1_digest 297 = .ok (.iadd, 1) := by decide +kernel
theorem dX1_digest_298 : decode cX1_digest 298 = .ok (.iaload, 1) := by decide +kernel
theorem dX1_digest_299 : decode cX1_digest 299 = .ok (.i2l, 1) := by decide +kernel
theorem dX1_digest_300 : decode cX1_digest 300 = .ok (.invokevirtual 176, 3) := by decide +kernel
theorem dX1_digest_303 : decode cX1_digest 303 = .ok (.iinc 2 1, 3) := by decide +kernel
theorem dX1_digest_306 : decode cX1_digest 306 = .ok (.goto (-28), 3) := by decide +kernel
theorem dX1_digest_309 : decode cX1_digest 309 = .ok (.aload_n 0, 1) := by decide +kernel
theorem dX1_digest_310 : decode cX1_digest 310 = .ok (.aload_n 0, 1) := by decide +kernel
theorem dX1_digest_311 : decode cX1_digest 311 = .ok (.iload_n 1, 1) := by decide +kernel
theorem dX1_digest_312 : decode cX1_digest 312 = .ok (.invokevirtual 165, 3) := by decide +kernel
theorem dX1_digest_315 : decode cX1_digest 315 = .ok (.i2l, 1) := by decide +kernel
theorem dX1_digest_316 : decode cX1_digest 316 = .ok (.invokevirtual 176, 3) := by decide +kernel
theorem dX1_digest_319 : decode cX1_digest 319 = .ok (.iinc 1 1, 3) := by decide +kernel
theorem dX1_digest_322 : decode cX1_digest 322 = .ok (.goto (-54), 3) := by decide +kernel
theorem dX1_digest_325 : decode cX1_digest 325 = .ok (.aload_n 0, 1) := by decide +kernel
theorem dX1_digest_326 : decode cX1_digest 326 = .ok (.getfield 170, 3) := by decide +kernel
theorem dX1_digest_329 : decode cX1_digest 329 = .ok (.lreturn, 1) := by decide +kernel

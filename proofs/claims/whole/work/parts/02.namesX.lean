theorem dX0_init_0 : decode cX0_init 0 = .ok (.aload_n 0, 1) := by decide +kernel
theorem dX0_init_1 : decode cX0_init 1 = .ok (.invokespecial 1, 3) := by decide +kernel
theorem dX0_init_4 : decode cX0_init 4 = .ok (.aload_n 0, 1) := by decide +kernel
theorem dX0_init_5 : decode cX0_init 5 = .ok (.iconst 1, 1) := by decide +kernel
theorem dX0_init_6 : decode cX0_init 6 = .ok (.putfield 7, 3) := by decide +kernel
theorem dX0_init_9 : decode cX0_init 9 = .ok (.aload_n 0, 1) := by decide +kernel
theorem dX0_init_10 : decode cX0_init 10 = .ok (.iconst 1, 1) := by decide +kernel
theorem dX0_init_11 : decode cX0_init 11 = .ok (.putfield 13, 3) := by decide +kernel
theorem dX0_init_14 : decode cX0_init 14 = .ok (.aload_n 0, 1) := by decide +kernel
theorem dX0_init_15 : decode cX0_init 15 = .ok (.sipush 210, 3) := by decide +kernel
theorem dX0_init_18 : decode cX0_init 18 = .ok (.newarray .int, 2) := by decide +kernel
theorem dX0_init_20 : decode cX0_init 20 = .ok (.putfield 16, 3) := by decide +kernel
theorem dX0_init_23 : decode cX0_init 23 = .ok (.aload_n 0, 1) := by decide +kernel
theorem dX0_init_24 : decode cX0_init 24 = .ok (.sipush 210, 3) := by decide +kernel
theorem dX0_init_27 : decode cX0_init 27 = .ok (.newarray .int, 2) := by decide +kernel
theorem dX0_init_29 : decode cX0_init 29 = .ok (.putfield 20, 3) := by decide +kernel
theorem dX0_init_32 : decode cX0_init 32 = .ok (.aload_n 0, 1) := by decide +kernel
theorem dX0_init_33 : decode cX0_init 33 = .ok (.bipush 70, 2) := by decide +kernel
theorem dX0_init_35 : decode cX0_init 35 = .ok (.newarray .int, 2) := by decide +kernel
theorem dX0_init_37 : decode cX0_init 37 = .ok (.putfield 23, 3) := by decide +kernel
theorem dX0_init_40 : decode cX0_init 40 = .ok (.aload_n 0, 1) := by decide +kernel
theorem dX0_init_41 : decode cX0_init 41 = .ok (.iconst 2, 1) := by decide +kernel
theorem dX0_init_42 : decode cX0_init 42 = .ok (.newarray .int, 2) := by decide +kernel
theorem dX0_init_44 : decode cX0_init 44 = .ok (.dup, 1) := by decide +kernel
theorem dX0_init_45 : decode cX0_init 45 = .ok (.iconst 0, 1) := by decide +kernel
theorem dX0_init_46 : decode cX0_init 46 = .ok (.iconst 1, 1) := by decide +kernel
theorem dX0_init_47 : decode cX0_init 47 = .ok (.iastore, 1) := by decide +kernel
theorem dX0_init_48 : decode cX0_init 48 = .ok (.dup, 1) := by decide +kernel
theorem dX0_init_49 : decode cX0_init 49 = .ok (.iconst 1, 1) := by decide +kernel
theorem dX0_init_50 : decode cX0_init 50 = .ok (.bipush 10, 2) := by decide +kernel
theorem dX0_init_52 : decode cX0_init 52 = .ok (.iastore, 1) := by decide +kernel
theorem dX0_init_53 : decode cX0_init 53 = .ok (.putfield 26, 3) := by decide +kernel
theorem dX0_init_56 : decode cX0_init 56 = .ok (.aload_n 0, 1) := by decide +kernel
theorem dX0_init_57 : decode cX0_init 57 = .ok (.iconst 3, 1) := by decide +kernel
theorem dX0_init_58 : decode cX0_init 58 = .ok (.newarray .int, 2) := by decide +kernel
theorem dX0_init_60 : decode cX0_init 60 = .ok (.dup, 1) := by decide +kernel
theorem dX0_init_61 : decode cX0_init 61 = .ok (.iconst 0, 1) := by decide +kernel
theorem dX0_init_62 : decode cX0_init 62 = .ok (.iconst 1, 1) := by decide +kernel
theorem dX0_init_63 : decode cX0_init 63 = .ok (.iastore, 1) := by decide +kernel
theorem dX0_init_64 : decode cX0_init 64 = .ok (.dup, 1) := by decide +kernel
theorem dX0_init_65 : decode cX0_init 65 = .ok (.iconst 1, 1) := by decide +kernel
theorem dX0_init_66 : decode cX0_init 66 = .ok (.iconst 0, 1) := by decide +kernel
theorem dX0_init_67 : decode cX0_init 67 = .ok (.iastore, 1) := by decide +kernel
theorem dX0_init_68 : decode cX0_init 68 = .ok (.dup, 1) := by decide +kernel
theorem dX0_init_69 : decode cX0_init 69 = .ok (.iconst 2, 1) := by decide +kernel
theorem dX0_init_70 : decode cX0_init 70 = .ok (.iconst 0, 1) := by decide +kernel
theorem dX0_init_71 : decode cX0_init 71 = .ok (.iastore, 1) := by decide +kernel
theorem dX0_init_72 : decode cX0_init 72 = .ok (.putfield 29, 3) := by decide +kernel
theorem dX0_init_75 : decode cX0_init 75 = .ok (.aload_n 0, 1) := by decide +kernel
theorem dX0_init_76 : decode cX0_init 76 = .ok (.bipush 6, 2) := by decide +kernel
theorem dX0_init_78 : decode cX0_init 78 = .ok (.newarray .int, 2) := by decide +kernel
theorem dX0_init_80 : decode cX0_init 80 = .ok (.putfield 32, 3) := by decide +kernel
theorem dX0_init_83 : decode cX0_init 83 = .ok (.aload_n 0, 1) := by decide +kernel
theorem dX0_init_84 : decode cX0_init 84 = .ok (.bipush 12, 2) := by decide +kernel
theorem dX0_init_86 : decode cX0_init 86 = .ok (.newarray .int, 2) := by decide +kernel
theorem dX0_init_88 : decode cX0_init 88 = .ok (.putfield 35, 3) := by decide +kernel
theorem dX0_init_91 : decode cX0_init 91 = .ok (.aload_n 0, 1) := by decide +kernel
theorem dX0_init_92 : decode cX0_init 92 = .ok (.bipush 30, 2) := by decide +kernel
theorem dX0_init_94 : decode cX0_init 94 = .ok (.newarray .int, 2) := by decide +kernel
theorem dX0_init_96 : decode cX0_init 96 = .ok (.putfield 38, 3) := by decide +kernel
theorem dX0_init_99 : decode cX0_init 99 = .ok (.aload_n 0, 1) := by decide +kernel
theorem dX0_init_100 : decode cX0_init 100 = .ok (.bipush 10, 2) := by decide +kernel
theorem dX0_init_102 : decode cX0_init 102 = .ok (.newarray .int, 2) := by decide +kernel
theorem dX0_init_104 : decode cX0_init 104 = .ok (.putfield 41, 3) := by decide +kernel
theorem dX0_init_107 : decode cX0_init 107 = .ok (.aload_n 0, 1) := by decide +kernel
theorem dX0_init_108 : decode cX0_init 108 = .ok (.bipush 10, 2) := by decide +kernel
theorem dX0_init_110 : decode cX0_init 110 = .ok (.newarray .int, 2) := by decide +kernel
theorem dX0_init_112 : decode cX0_init 112 = .ok (.putfield 44, 3) := by decide +kernel
theorem dX0_init_115 : decode cX0_init 115 = .ok (.aload_n 0, 1) := by decide +kernel
theorem dX0_init_116 : decode cX0_init 116 = .ok (.bipush 7, 2) := by decide +kernel
theorem dX0_init_118 : decode cX0_init 118 = .ok (.newarray .int, 2) := by decide +kernel
theorem dX0_init_120 : decode cX0_init 120 = .ok (.putfield 47, 3) := by decide +kernel
theorem dX0_init_123 : decode cX0_init 123 = .ok (.aload_n 0, 1) := by decide +kernel
theorem dX0_init_124 : decode cX0_init 124 = .ok (.bipush 10, 2) := by decide +kernel
theorem dX0_init_126 : decode cX0_init 126 = .ok (.newarray .int, 2) := by decide +kernel
theorem dX0_init_128 : decode cX0_init 128 = .ok (.putfield 50, 3) := by decide +kernel
theorem dX0_init_131 : decode cX0_init 131 = .ok (.aload_n 0, 1) := by decide +kernel
theorem dX0_init_132 : decode cX0_init 132 = .ok (.bipush 10, 2) := by decide +kernel
theorem dX0_init_134 : decode cX0_init 134 = .ok (.newarray .int, 2) := by decide +kernel
theorem dX0_init_136 : decode cX0_init 136 = .ok (.putfield 53, 3) := by decide +kernel
theorem dX0_init_139 : decode cX0_init 139 = .ok (.aload_n 0, 1) := by decide +kernel
theorem dX0_init_140 : decode cX0_init 140 = .ok (.bipush 30, 2) := by decide +kernel
theorem dX0_init_142 : decode cX0_init 142 = .ok (.newarray .int, 2) := by decide +kernel
theorem dX0_init_144 : decode cX0_init 144 = .ok (.putfield 56, 3) := by decide +kernel
theorem dX0_init_147 : decode cX0_init 147 = .ok (.aload_n 0, 1) := by decide +kernel
theorem dX0_init_148 : decode cX0_init 148 = .ok (.getfield 35, 3) := by decide +kernel
theorem dX0_init_151 : decode cX0_init 151 = .ok (.bipush 10, 2) := by decide +kernel
theorem dX0_init_153 : decode cX0_init 153 = .ok (.invokestatic 59, 3) := by decide +kernel
theorem dX0_init_156 : decode cX0_init 156 = .ok (.aload_n 0, 1) := by decide +kernel
theorem dX0_init_157 : decode cX0_init 157 = .ok (.invokevirtual 65, 3) := by decide +kernel
theorem dX0_init_160 : decode cX0_init 160 = .ok (.return_, 1) := by decide +kernel
set_option maxRecDepth 20000 in
theorem ggX0_contest_X0_isWithin : GoodIn wsX0_contest wsX0_isWithin := goodIn_r _ [6] (by decide +kernel) (by decide +kernel)
set_option maxRecDepth 20000 in
theorem gX0_contest_X0_isWithin : GoodIn wsX0_contest (va_wsS RX0 68 yX0_isWithin wsX0_isWithin) := goodIn_app (goodIn_of _ (by decide +kernel)) ggX0_contest_X0_isWithin
set_option maxRecDepth 20000 in
theorem ggX0_contest_X0_clearAll : GoodIn wsX0_contest wsX0_clearAll := goodIn_r _ [10, 11, 12, 13, 14, 15, 16, 17, 18, 19, 20, 21, 22, 23, 24, 25, 26, 27, 28, 29, 30, 31, 32, 33, 34, 35] (by decide +kernel) (by decide +kernel)
set_option maxRecDepth 20000 in
theorem gX0_contest_X0_clearAll : GoodIn wsX0_contest (wsV RX0 65 RX0 yX0_clearAll wsX0_clearAll) := goodIn_app (goodIn_of _ (by decide +kernel)) ggX0_contest_X0_clearAll
theorem dX0_contest_0 : decode cX0_contest 0 = .ok (.iload_n 1, 1) := by decide +kernel
theorem dX0_contest_1 : decode cX0_contest 1 = .ok (.iconst 1, 1) := by decide +kernel
theorem dX0_contest_2 : decode cX0_contest 2 = .ok (.bipush 10, 2) := by decide +kernel
theorem dX0_contest_4 : decode cX0_contest 4 = .ok (.invokestatic 68, 3) := by decide +kernel
theorem dX0_contest_7 : decode cX0_contest 7 = .ok (.ifCond .eq 13, 3) := by decide +kernel
theorem dX0_contest_10 : decode cX0_contest 10 = .ok (.iload_n 2, 1) := by decide +kernel
theorem dX0_contest_11 : decode cX0_contest 11 = .ok (.iconst 1, 1) := by decide +kernel
theorem dX0_contest_12 : decode cX0_contest 12 = .ok (.bipush 7, 2) := by decide +kernel
theorem dX0_contest_14 : decode cX0_contest 14 = .ok (.invokestatic 68, 3) := by decide +kernel
theorem dX0_contest_17 : decode cX0_contest 17 = .ok (.ifCond .ne 6, 3) := by decide +kernel
theorem dX0_contest_20 : decode cX0_contest 20 = .ok (.bipush (-102), 2) := by decide +kernel
theorem dX0_contest_22 : decode cX0_contest 22 = .ok (.ireturn, 1) := by decide +kernel
theorem dX0_contest_23 : decode cX0_contest 23 = .ok (.aload_n 0, 1) := by decide +kernel
theorem dX0_contest_24 : decode cX0_contest 24 = .ok (.iload_n 1, 1) := by decide +kernel
theorem dX0_contest_25 : decode cX0_contest 25 = .ok (.putfield 7, 3) := by decide +kernel
theorem dX0_contest_28 : decode cX0_contest 28 = .ok (.aload_n 0, 1) := by decide +kernel
theorem dX0_contest_29 : decode cX0_contest 29 = .ok (.iload_n 2, 1) := by decide +kernel
theorem dX0_contest_30 : decode cX0_contest 30 = .ok (.putfield 13, 3) := by decide +kernel
theorem dX0_contest_33 : decode cX0_contest 33 = .ok (.aload_n 0, 1) := by decide +kernel
theorem dX0_contest_34 : decode cX0_contest 34 = .ok (.invokevirtual 65, 3) := by decide +kernel
theorem dX0_contest_37 : decode cX0_contest 37 = .ok (.iload_n 1, 1) := by decide +kernel
theorem dX0_contest_38 : decode cX0_contest 38 = .ok (.ireturn, 1) := by decide +kernel
set_option maxRecDepth 20000 in
theorem ggX0_mark_X0_isRound : GoodIn wsX0_mark wsX0_isRound := goodIn_r _ [5, 6, 7, 4, 8] (by decide +kernel) (by decide +kernel)
set_option maxRecDepth 20000 in
theorem gX0_mark_X0_isRound : GoodIn wsX0_mark (va_wsS RX0 72 yX0_isRound wsX0_isRound) := goodIn_app (goodIn_of _ (by decide +kernel)) ggX0_mark_X0_isRound
set_option maxRecDepth 20000 in
theorem ggX0_mark_X0_isJuror : GoodIn wsX0_mark wsX0_isJuror := goodIn_r _ [12, 13, 6, 7, 4, 8, 25, 26, 27, 28, 29, 30, 31, 32, 33, 34, 35, 36, 37, 38, 39, 40] (by decide +kernel) (by decide +kernel)
set_option maxRecDepth 20000 in
theorem gX0_mark_X0_isJuror : GoodIn wsX0_mark (wsV RX0 76 RX0 yX0_isJuror wsX0_isJuror) := goodIn_app (goodIn_of _ (by decide +kernel)) ggX0_mark_X0_isJuror
set_option maxRecDepth 20000 in
theorem ggX0_mark_X0_isPlayer : GoodIn wsX0_mark wsX0_isPlayer := goodIn_r _ [17, 18, 6, 7, 4, 8, 25, 26, 27, 28, 29, 30, 31, 32, 33, 34, 35, 36, 37, 38, 39, 40] (by decide +kernel) (by decide +kernel)
set_option maxRecDepth 20000 in
theorem gX0_mark_X0_isPlayer : GoodIn wsX0_mark (wsV RX0 79 RX0 yX0_isPlayer wsX0_isPlayer) := goodIn_app (goodIn_of _ (by decide +kernel)) ggX0_mark_X0_isPlayer
set_option maxRecDepth 20000 in
theorem ggX0_mark_X0_isWithin : GoodIn wsX0_mark wsX0_isWithin := goodIn_r _ [8] (by decide +kernel) (by decide +kernel)
set_option maxRecDepth 20000 in
theorem gX0_mark_X0_isWithin : GoodIn wsX0_mark (va_wsS RX0 68 yX0_isWithin wsX0_isWithin) := goodIn_app (goodIn_of _ (by decide +kernel)) ggX0_mark_X0_isWithin
set_option maxRecDepth 20000 in
theorem ggX0_mark_X0_cellOf : GoodIn wsX0_mark wsX0_cellOf := goodIn_r _ [21] (by decide +kernel) (by decide +kernel)
set_option maxRecDepth 20000 in
theorem gX0_mark_X0_cellOf : GoodIn wsX0_mark (va_wsS RX0 82 yX0_cellOf wsX0_cellOf) := goodIn_app (goodIn_of _ (by decide +kernel)) ggX0_mark_X0_cellOf
set_option maxRecDepth 20000 in
theorem ggX0_mark_X0_replace : GoodIn wsX0_mark wsX0_replace := goodIn_r _ [24] (by decide +kernel) (by decide +kernel)
set_option maxRecDepth 20000 in
theorem gX0_mark_X0_replace : GoodIn wsX0_mark (va_wsS RX0 86 yX0_replace wsX0_replace) := goodIn_app (goodIn_of _ (by decide +kernel)) ggX0_mark_X0_replace
theorem dX0_mark_0 : decode cX0_mark 0 = .ok (.iload_n 1, 1) := by decide +kernel
theorem dX0_mark_1 : decode cX0_mark 1 = .ok (.invokestatic 72, 3) := by decide +kernel
theorem dX0_mark_4 : decode cX0_mark 4 = .ok (.ifCond .eq 19, 3) := by decide +kernel
theorem dX0_mark_7 : decode cX0_mark 7 = .ok (.aload_n 0, 1) := by decide +kernel
theorem dX0_mark_8 : decode cX0_mark 8 = .ok (.iload_n 2, 1) := by decide +kernel
theorem dX0_mark_9 : decode cX0_mark 9 = .ok (.invokevirtual 76, 3) := by decide +kernel
theorem dX0_mark_12 : decode cX0_mark 12 = .ok (.ifCond .eq 11, 3) := by decide +kernel
theorem dX0_mark_15 : decode cX0_mark 15 = .ok (.aload_n 0, 1) := by decide +kernel
theorem dX0_mark_16 : decode cX0_mark 16 = .ok (.iload_n 3, 1) := by decide +kernel
theorem dX0_mark_17 : decode cX0_mark 17 = .ok (.invokevirtual 79, 3) := by decide +kernel
theorem dX0_mark_20 : decode cX0_mark 20 = .ok (.ifCond .ne 6, 3) := by decide +kernel
theorem dX0_mark_23 : decode cX0_mark 23 = .ok (.bipush (-101), 2) := by decide +kernel
theorem dX0_mark_25 : decode cX0_mark 25 = .ok (.ireturn, 1) := by decide +kernel
theorem dX0_mark_26 : decode cX0_mark 26 = .ok (.iload 4, 2) := by decide +kernel
theorem dX0_mark_28 : decode cX0_mark 28 = .ok (.iconst (-1), 1) := by decide +kernel
theorem dX0_mark_29 : decode cX0_mark 29 = .ok (.if_icmp .eq 17, 3) := by decide +kernel
theorem dX0_mark_32 : decode cX0_mark 32 = .ok (.iload 4, 2) := by decide +kernel
theorem dX0_mark_34 : decode cX0_mark 34 = .ok (.iconst 1, 1) := by decide +kernel
theorem dX0_mark_35 : decode cX0_mark 35 = .ok (.bipush 100, 2) := by decide +kernel
theorem dX0_mark_37 : decode cX0_mark 37 = .ok (.invokestatic 68, 3) := by decide +kernel
theorem dX0_mark_40 : decode cX0_mark 40 = .ok (.ifCond .ne 6, 3) := by decide +kernel
theorem dX0_mark_43 : decode cX0_mark 43 = .ok (.bipush (-102), 2) := by decide +kernel
theorem dX0_mark_45 : decode cX0_mark 45 = .ok (.ireturn, 1) := by decide +kernel
theorem dX0_mark_46 : decode cX0_mark 46 = .ok (.aload_n 0, 1) := by decide +kernel
theorem dX0_mark_47 : decode cX0_mark 47 = .ok (.getfield 16, 3) := by decide +kernel
theorem dX0_mark_50 : decode cX0_mark 50 = .ok (.iload_n 1, 1) := by decide +kernel
theorem dX0_mark_51 : decode cX0_mark 51 = .ok (.iload_n 2, 1) := by decide +kernel
theorem dX0_mark_52 : decode cX0_mark 52 = .ok (.iload_n 3, 1) := by decide +kernel
theorem dX0_mark_53 : decode cX0_mark 53 = .ok (.invokestatic 82, 3) := by decide +kernel
theorem dX0_mark_56 : decode cX0_mark 56 = .ok (.iload 4, 2) := by decide +kernel
theorem dX0_mark_58 : decode cX0_mark 58 = .ok (.invokestatic 86, 3) := by decide +kernel
theorem dX0_mark_61 : decode cX0_mark 61 = .ok (.ireturn, 1) := by decide +kernel
set_option maxRecDepth 20000 in
theorem ggX0_yes_X0_isRound : GoodIn wsX0_yes wsX0_isRound := goodIn_r _ [5, 6, 7, 4, 8] (by decide +kernel) (by decide +kernel)
set_option maxRecDepth 20000 in
theorem gX0_yes_X0_isRound : GoodIn wsX0_yes (va_wsS RX0 72 yX0_isRound wsX0_isRound) := goodIn_app (goodIn_of _ (by decide +kernel)) ggX0_yes_X0_isRound
set_option maxRecDepth 20000 in
theorem ggX0_yes_X0_isJuror : GoodIn wsX0_yes wsX0_isJuror := goodIn_r _ [12, 13, 6, 7, 4, 8, 25, 26, 27, 28, 29, 30, 31, 32, 33, 34, 35, 36, 37, 38, 39, 40] (by decide +kernel) (by decide +kernel)
set_option maxRecDepth 20000 in
theorem gX0_yes_X0_isJuror : GoodIn wsX0_yes (wsV RX0 76 RX0 yX0_isJuror wsX0_isJuror) := goodIn_app (goodIn_of _ (by decide +kernel)) ggX0_yes_X0_isJuror
set_option maxRecDepth 20000 in
theorem ggX0_yes_X0_isPlayer : GoodIn wsX0_yes wsX0_isPlayer := goodIn_r _ [17, 18, 6, 7, 4, 8, 25, 26, 27, 28, 29, 30, 31, 32, 33, 34, 35, 36, 37, 38, 39, 40] (by decide +kernel) (by decide +kernel)
set_option maxRecDepth 20000 in
theorem gX0_yes_X0_isPlayer : GoodIn wsX0_yes (wsV RX0 79 RX0 yX0_isPlayer wsX0_isPlayer) := goodIn_app (goodIn_of _ (by decide +kernel)) ggX0_yes_X0_isPlayer
set_option maxRecDepth 20000 in
theorem ggX0_yes_X0_cellOf : GoodIn wsX0_yes wsX0_cellOf := goodIn_r _ [21] (by decide +kernel) (by decide +kernel)
set_option maxRecDepth 20000 in
theorem gX0_yes_X0_cellOf : GoodIn wsX0_yes (va_wsS RX0 82 yX0_cellOf wsX0_cellOf) := goodIn_app (goodIn_of _ (by decide +kernel)) ggX0_yes_X0_cellOf
set_option maxRecDepth 20000 in
theorem ggX0_yes_X0_replace : GoodIn wsX0_yes wsX0_replace := goodIn_r _ [24] (by decide +kernel) (by decide +kernel)
set_option maxRecDepth 20000 in
theorem gX0_yes_X0_replace : GoodIn wsX0_yes (va_wsS RX0 86 yX0_replace wsX0_replace) := goodIn_app (goodIn_of _ (by decide +kernel)) ggX0_yes_X0_replace
theorem dX0_yes_0 : decode cX0_yes 0 = .ok (.iload_n 1, 1) := by decide +kernel
theorem dX0_yes_1 : decode cX0_yes 1 = .ok (.invokestatic 72, 3) := by decide +kernel
theorem dX0_yes_4 : decode cX0_yes 4 = .ok (.ifCond .eq 19, 3) := by decide +kernel
theorem dX0_yes_7 : decode cX0_yes 7 = .ok (.aload_n 0, 1) := by decide +kernel
theorem dX0_yes_8 : decode cX0_yes 8 = .ok (.iload_n 2, 1) := by decide +kernel
theorem dX0_yes_9 : decode cX0_yes 9 = .ok (.invokevirtual 76, 3) := by decide +kernel
theorem dX0_yes_12 : decode cX0_yes 12 = .ok (.ifCond .eq 11, 3) := by decide +kernel
theorem dX0_yes_15 : decode cX0_yes 15 = .ok (.aload_n 0, 1) := by decide +kernel
theorem dX0_yes_16 : decode cX0_yes 16 = .ok (.iload_n 3, 1) := by decide +kernel
theorem dX0_yes_17 : decode cX0_yes 17 = .ok (.invokevirtual 79, 3) := by decide +kernel
theorem dX0_yes_20 : decode cX0_yes 20 = .ok (.ifCond .ne 6, 3) := by decide +kernel
theorem dX0_yes_23 : decode cX0_yes 23 = .ok (.bipush (-101), 2) := by decide +kernel
theorem dX0_yes_25 : decode cX0_yes 25 = .ok (.ireturn, 1) := by decide +kernel
theorem dX0_yes_26 : decode cX0_yes 26 = .ok (.aload_n 0, 1) := by decide +kernel
theorem dX0_yes_27 : decode cX0_yes 27 = .ok (.getfield 20, 3) := by decide +kernel
theorem dX0_yes_30 : decode cX0_yes 30 = .ok (.iload_n 1, 1) := by decide +kernel
theorem dX0_yes_31 : decode cX0_yes 31 = .ok (.iload_n 2, 1) := by decide +kernel
theorem dX0_yes_32 : decode cX0_yes 32 = .ok (.iload_n 3, 1) := by decide +kernel
theorem dX0_yes_33 : decode cX0_yes 33 = .ok (.invokestatic 82, 3) := by decide +kernel
theorem dX0_yes_36 : decode cX0_yes 36 = .ok (.iload 4, 2) := by decide +kernel
theorem dX0_yes_38 : decode cX0_yes 38 = .ok (.ifCond .eq 7, 3) := by decide +kernel
theorem dX0_yes_41 : decode cX0_yes 41 = .ok (.iconst 1, 1) := by decide +kernel
theorem dX0_yes_42 : decode cX0_yes 42 = .ok (.goto 4, 3) := by decide +kernel
theorem dX0_yes_45 : decode cX0_yes 45 = .ok (.iconst 0, 1) := by decide +kernel
theorem dX0_yes_46 : decode cX0_yes 46 = .ok (.invokestatic 86, 3) := by decide +kernel
theorem dX0_yes_49 : decode cX0_yes 49 = .ok (.ireturn, 1) := by decide +kernel
set_option maxRecDepth 20000 in
theorem ggX0_pupil_X0_isJuror : GoodIn wsX0_pupil wsX0_isJuror := goodIn_r _ [6, 7, 8, 9, 5, 10, 22, 23, 24, 25, 26, 27, 28, 29, 30, 31, 32, 33, 34, 35, 36, 37] (by decide +kernel) (by decide +kernel)
set_option maxRecDepth 20000 in
theorem gX0_pupil_X0_isJuror : GoodIn wsX0_pupil (wsV RX0 76 RX0 yX0_isJuror wsX0_isJuror) := goodIn_app (goodIn_of _ (by decide +kernel)) ggX0_pupil_X0_isJuror
set_option maxRecDepth 20000 in
theorem ggX0_pupil_X0_isPlayer : GoodIn wsX0_pupil wsX0_isPlayer := goodIn_r _ [14, 15, 8, 9, 5, 10, 22, 23, 24, 25, 26, 27, 28, 29, 30, 31, 32, 33, 34, 35, 36, 37] (by decide +kernel) (by decide +kernel)
set_option maxRecDepth 20000 in
theorem gX0_pupil_X0_isPlayer : GoodIn wsX0_pupil (wsV RX0 79 RX0 yX0_isPlayer wsX0_isPlayer) := goodIn_app (goodIn_of _ (by decide +kernel)) ggX0_pupil_X0_isPlayer
set_option maxRecDepth 20000 in
theorem ggX0_pupil_X0_pupilCellOf : GoodIn wsX0_pupil wsX0_pupilCellOf := goodIn_r _ [18] (by decide +kernel) (by decide +kernel)
set_option maxRecDepth 20000 in
theorem gX0_pupil_X0_pupilCellOf : GoodIn wsX0_pupil (va_wsS RX0 90 yX0_pupilCellOf wsX0_pupilCellOf) := goodIn_app (goodIn_of _ (by decide +kernel)) ggX0_pupil_X0_pupilCellOf
set_option maxRecDepth 20000 in
theorem ggX0_pupil_X0_replace : GoodIn wsX0_pupil wsX0_replace := goodIn_r _ [21] (by decide +kernel) (by decide +kernel)
set_option maxRecDepth 20000 in
theorem gX0_pupil_X0_replace : GoodIn wsX0_pupil (va_wsS RX0 86 yX0_replace wsX0_replace) := goodIn_app (goodIn_of _ (by decide +kernel)) ggX0_pupil_X0_replace
theorem dX0_pupil_0 : decode cX0_pupil 0 = .ok (.aload_n 0, 1) := by decide +kernel
theorem dX0_pupil_1 : decode cX0_pupil 1 = .ok (.iload_n 1, 1) := by decide +kernel
theorem dX0_pupil_2 : decode cX0_pupil 2 = .ok (.invokevirtual 76, 3) := by decide +kernel
theorem dX0_pupil_5 : decode cX0_pupil 5 = .ok (.ifCond .eq 11, 3) := by decide +kernel
theorem dX0_pupil_8 : decode cX0_pupil 8 = .ok (.aload_n 0, 1) := by decide +kernel
theorem dX0_pupil_9 : decode cX0_pupil 9 = .ok (.iload_n 2, 1) := by decide +kernel
theorem dX0_pupil_10 : decode cX0_pupil 10 = .ok (.invokevirtual 79, 3) := by decide +kernel
theorem dX0_pupil_13 : decode cX0_pupil 13 = .ok (.ifCond .ne 6, 3) := by decide +kernel
theorem dX0_pupil_16 : decode cX0_pupil 16 = .ok (.bipush (-101), 2) := by decide +kernel
theorem dX0_pupil_18 : decode cX0_pupil 18 = .ok (.ireturn, 1) := by decide +kernel
theorem dX0_pupil_19 : decode cX0_pupil 19 = .ok (.aload_n 0, 1) := by decide +kernel
theorem dX0_pupil_20 : decode cX0_pupil 20 = .ok (.getfield 23, 3) := by decide +kernel
theorem dX0_pupil_23 : decode cX0_pupil 23 = .ok (.iload_n 1, 1) := by decide +kernel
theorem dX0_pupil_24 : decode cX0_pupil 24 = .ok (.iload_n 2, 1) := by decide +kernel
theorem dX0_pupil_25 : decode cX0_pupil 25 = .ok (.invokestatic 90, 3) := by decide +kernel
theorem dX0_pupil_28 : decode cX0_pupil 28 = .ok (.iload_n 3, 1) := by decide +kernel
theorem dX0_pupil_29 : decode cX0_pupil 29 = .ok (.ifCond .eq 7, 3) := by decide +kernel
theorem dX0_pupil_32 : decode cX0_pupil 32 = .ok (.iconst 1, 1) := by decide +kernel
theorem dX0_pupil_33 : decode cX0_pupil 33 = .ok (.goto 4, 3) := by decide +kernel
theorem dX0_pupil_36 : decode cX0_pupil 36 = .ok (.iconst 0, 1) := by decide +kernel
theorem dX0_pupil_37 : decode cX0_pupil 37 = .ok (.invokestatic 86, 3) := by decide +kernel
theorem dX0_pupil_40 : decode cX0_pupil 40 = .ok (.ireturn, 1) := by decide +kernel
set_option maxRecDepth 20000 in
theorem ggX0_rule_X0_isWithin : GoodIn wsX0_rule wsX0_isWithin := goodIn_r _ [5] (by decide +kernel) (by decide +kernel)
set_option maxRecDepth 20000 in
theorem gX0_rule_X0_isWithin : GoodIn wsX0_rule (va_wsS RX0 68 yX0_isWithin wsX0_isWithin) := goodIn_app (goodIn_of _ (by decide +kernel)) ggX0_rule_X0_isWithin
set_option maxRecDepth 20000 in
theorem ggX0_rule_X0_replace : GoodIn wsX0_rule wsX0_replace := goodIn_r _ [8] (by decide +kernel) (by decide +kernel)
set_option maxRecDepth 20000 in
theorem gX0_rule_X0_replace : GoodIn wsX0_rule (va_wsS RX0 86 yX0_replace wsX0_replace) := goodIn_app (goodIn_of _ (by decide +kernel)) ggX0_rule_X0_replace
theorem dX0_rule_0 : decode cX0_rule 0 = .ok (.iload_n 1, 1) := by decide +kernel
theorem dX0_rule_1 : decode cX0_rule 1 = .ok (.iconst 0, 1) := by decide +kernel
theorem dX0_rule_2 : decode cX0_rule 2 = .ok (.iconst 1, 1) := by decide +kernel
theorem dX0_rule_3 : decode cX0_rule 3 = .ok (.invokestatic 68, 3) := by decide +kernel
theorem dX0_rule_6 : decode cX0_rule 6 = .ok (.ifCond .ne 6, 3) := by decide +kernel
theorem dX0_rule_9 : decode cX0_rule 9 = .ok (.bipush (-101), 2) := by decide +kernel
theorem dX0_rule_11 : decode cX0_rule 11 = .ok (.ireturn, 1) := by decide +kernel
theorem dX0_rule_12 : decode cX0_rule 12 = .ok (.iload_n 1, 1) := by decide +kernel
theorem dX0_rule_13 : decode cX0_rule 13 = .ok (.ifCond .ne 12, 3) := by decide +kernel
theorem dX0_rule_16 : decode cX0_rule 16 = .ok (.iload_n 2, 1) := by decide +kernel
theorem dX0_rule_17 : decode cX0_rule 17 = .ok (.iconst 0, 1) := by decide +kernel
theorem dX0_rule_18 : decode cX0_rule 18 = .ok (.iconst 2, 1) := by decide +kernel
theorem dX0_rule_19 : decode cX0_rule 19 = .ok (.invokestatic 68, 3) := by decide +kernel
theorem dX0_rule_22 : decode cX0_rule 22 = .ok (.goto 10, 3) := by decide +kernel
theorem dX0_rule_25 : decode cX0_rule 25 = .ok (.iload_n 2, 1) := by decide +kernel
theorem dX0_rule_26 : decode cX0_rule 26 = .ok (.iconst 1, 1) := by decide +kernel
theorem dX0_rule_27 : decode cX0_rule 27 = .ok (.bipush 50, 2) := by decide +kernel
theorem dX0_rule_29 : decode cX0_rule 29 = .ok (.invokestatic 68, 3) := by decide +kernel
theorem dX0_rule_32 : decode cX0_rule 32 = .ok (.istore_n 3, 1) := by decide +kernel
theorem dX0_rule_33 : decode cX0_rule 33 = .ok (.iload_n 3, 1) := by decide +kernel
theorem dX0_rule_34 : decode cX0_rule 34 = .ok (.ifCond .ne 6, 3) := by decide +kernel
theorem dX0_rule_37 : decode cX0_rule 37 = .ok (.bipush (-102), 2) := by decide +kernel
theorem dX0_rule_39 : decode cX0_rule 39 = .ok (.ireturn, 1) := by decide +kernel
theorem dX0_rule_40 : decode cX0_rule 40 = .ok (.aload_n 0, 1) := by decide +kernel
theorem dX0_rule_41 : decode cX0_rule 41 = .ok (.getfield 26, 3) := by decide +kernel
theorem dX0_rule_44 : decode cX0_rule 44 = .ok (.iload_n 1, 1) := by decide +kernel
theorem dX0_rule_45 : decode cX0_rule 45 = .ok (.iload_n 2, 1) := by decide +kernel
theorem dX0_rule_46 : decode cX0_rule 46 = .ok (.invokestatic 86, 3) := by decide +kernel
theorem dX0_rule_49 : decode cX0_rule 49 = .ok (.ireturn, 1) := by decide +kernel
set_option maxRecDepth 20000 in
theorem ggX0_score_X0_isRound : GoodIn wsX0_score wsX0_isRound := goodIn_r _ [4, 5, 6, 3, 7] (by decide +kernel) (by decide +kernel)
set_option maxRecDepth 20000 in
theorem gX0_score_X0_isRound : GoodIn wsX0_score (va_wsS RX0 72 yX0_isRound wsX0_isRound) := goodIn_app (goodIn_of _ (by decide +kernel)) ggX0_score_X0_isRound
set_option maxRecDepth 20000 in
theorem ggX0_score_X0_isPlayer : GoodIn wsX0_score wsX0_isPlayer := goodIn_r _ [11, 12, 5, 6, 3, 7, 89, 90, 91, 92, 93, 94, 95, 96, 97, 98, 99, 100, 101, 102, 103, 104] (by decide +kernel) (by decide +kernel)
set_option maxRecDepth 20000 in
theorem gX0_score_X0_isPlayer : GoodIn wsX0_score (wsV RX0 79 RX0 yX0_isPlayer wsX0_isPlayer) := goodIn_app (goodIn_of _ (by decide +kernel)) ggX0_score_X0_isPlayer
set_option maxRecDepth 20000 in
theorem ggX0_score_X0_isWay : GoodIn wsX0_score wsX0_isWay := goodIn_r _ [15, 5, 6, 3, 7] (by decide +kernel) (by decide +kernel)
set_option maxRecDepth 20000 in
theorem gX0_score_X0_isWay : GoodIn wsX0_score (va_wsS RX0 94 yX0_isWay wsX0_isWay) := goodIn_app (goodIn_of _ (by decide +kernel)) ggX0_score_X0_isWay
set_option maxRecDepth 20000 in
theorem ggX0_score_X0_scoreOf : GoodIn wsX0_score wsX0_scoreOf := goodIn_r _ [19, 20, 21, 22, 23, 24, 25, 3, 26, 27, 28, 29, 30, 31, 32, 33, 34, 35, 36, 37, 38, 39, 40, 41, 42, 43, 44, 45, 46, 47, 48, 49, 50, 51, 52, 53, 54, 55, 56, 57, 58, 59, 60, 61, 62, 63, 64, 65, 12, 66, 67, 68, 69, 70, 71, 72, 73, 74, 75, 76, 77, 78, 79, 80, 81, 82, 83, 84, 85, 86, 87, 88, 89, 90, 91, 92, 93, 94, 95, 96, 97, 98, 99, 100, 101, 102, 103, 104] (by decide +kernel) (by decide +kernel)
set_option maxRecDepth 20000 in
theorem gX0_score_X0_scoreOf : GoodIn wsX0_score (wsV RX0 97 RX0 yX0_scoreOf wsX0_scoreOf) := goodIn_app (goodIn_of _ (by decide +kernel)) ggX0_score_X0_scoreOf
theorem dX0_score_0 : decode cX0_score 0 = .ok (.iload_n 1, 1) := by decide +kernel
theorem dX0_score_1 : decode cX0_score 1 = .ok (.invokestatic 72, 3) := by decide +kernel
theorem dX0_score_4 : decode cX0_score 4 = .ok (.ifCond .eq 11, 3) := by decide +kernel
theorem dX0_score_7 : decode cX0_score 7 = .ok (.aload_n 0, 1) := by decide +kernel
theorem dX0_score_8 : decode cX0_score 8 = .ok (.iload_n 3, 1) := by decide +kernel
theorem dX0_score_9 : decode cX0_score 9 = .ok (.invokevirtual 79, 3) := by decide +kernel
theorem dX0_score_12 : decode cX0_score 12 = .ok (.ifCond .ne 6, 3) := by decide +kernel
theorem dX0_score_15 : decode cX0_score 15 = .ok (.bipush (-101), 2) := by decide +kernel
theorem dX0_score_17 : decode cX0_score 17 = .ok (.ireturn, 1) := by decide +kernel
theorem dX0_score_18 : decode cX0_score 18 = .ok (.iload_n 2, 1) := by decide +kernel
theorem dX0_score_19 : decode cX0_score 19 = .ok (.invokestatic 94, 3) := by decide +kernel
theorem dX0_score_22 : decode cX0_score 22 = .ok (.ifCond .ne 6, 3) := by decide +kernel
theorem dX0_score_25 : decode cX0_score 25 = .ok (.bipush (-102), 2) := by decide +kernel
theorem dX0_score_27 : decode cX0_score 27 = .ok (.ireturn, 1) := by decide +kernel
theorem dX0_score_28 : decode cX0_score 28 = .ok (.aload_n 0, 1) := by decide +kernel
theorem dX0_score_29 : decode cX0_score 29 = .ok (.iload_n 1, 1) := by decide +kernel
theorem dX0_score_30 : decode cX0_score 30 = .ok (.iload_n 2, 1) := by decide +kernel
theorem dX0_score_31 : decode cX0_score 31 = .ok (.iload_n 3, 1) := by decide +kernel
theorem dX0_score_32 : decode cX0_score 32 = .ok (.invokevirtual 97, 3) := by decide +kernel
theorem dX0_score_35 : decode cX0_score 35 = .ok (.ireturn, 1) := by decide +kernel
set_option maxRecDepth 20000 in
theorem ggX0_beats_X0_isRound : GoodIn wsX0_beats wsX0_isRound := goodIn_r _ [4, 5, 6, 3, 7] (by decide +kernel) (by decide +kernel)
set_option maxRecDepth 20000 in
theorem gX0_beats_X0_isRound : GoodIn wsX0_beats (va_wsS RX0 72 yX0_isRound wsX0_isRound) := goodIn_app (goodIn_of _ (by decide +kernel)) ggX0_beats_X0_isRound
set_option maxRecDepth 20000 in
theorem ggX0_beats_X0_isPlayer : GoodIn wsX0_beats wsX0_isPlayer := goodIn_r _ [11, 12, 5, 6, 3, 7, 34, 35, 36, 37, 38, 39, 40, 41, 42, 43, 44, 45, 46, 47, 48, 49] (by decide +kernel) (by decide +kernel)
set_option maxRecDepth 20000 in
theorem gX0_beats_X0_isPlayer : GoodIn wsX0_beats (wsV RX0 79 RX0 yX0_isPlayer wsX0_isPlayer) := goodIn_app (goodIn_of _ (by decide +kernel)) ggX0_beats_X0_isPlayer
set_option maxRecDepth 20000 in
theorem ggX0_beats_X0_duel : GoodIn wsX0_beats wsX0_duel := goodIn_r _ [16, 17, 18, 19, 20, 3, 21, 22, 23, 24, 25, 26, 27, 28, 29, 30, 31, 32, 33, 34, 35, 36, 37, 38, 39, 40, 41, 42, 43, 44, 45, 46, 47, 48, 49] (by decide +kernel) (by decide +kernel)
set_option maxRecDepth 20000 in
theorem gX0_beats_X0_duel : GoodIn wsX0_beats (wsV RX0 100 RX0 yX0_duel wsX0_duel) := goodIn_app (goodIn_of _ (by decide +kernel)) ggX0_beats_X0_duel
theorem dX0_beats_0 : decode cX0_beats 0 = .ok (.iload_n 1, 1) := by decide +kernel
theorem dX0_beats_1 : decode cX0_beats 1 = .ok (.invokestatic 72, 3) := by decide +kernel
theorem dX0_beats_4 : decode cX0_beats 4 = .ok (.ifCond .eq 19, 3) := by decide +kernel
theorem dX0_beats_7 : decode cX0_beats 7 = .ok (.aload_n 0, 1) := by decide +kernel
theorem dX0_beats_8 : decode cX0_beats 8 = .ok (.iload_n 2, 1) := by decide +kernel
theorem dX0_beats_9 : decode cX0_beats 9 = .ok (.invokevirtual 79, 3) := by decide +kernel
theorem dX0_beats_12 : decode cX0_beats 12 = .ok (.ifCond .eq 11, 3) := by decide +kernel
theorem dX0_beats_15 : decode cX0_beats 15 = .ok (.aload_n 0, 1) := by decide +kernel
theorem dX0_beats_16 : decode cX0_beats 16 = .ok (.iload_n 3, 1) := by decide +kernel
theorem dX0_beats_17 : decode cX0_beats 17 = .ok (.invokevirtual 79, 3) := by decide +kernel
theorem dX0_beats_20 : decode cX0_beats 20 = .ok (.ifCond .ne 6, 3) := by decide +kernel
theorem dX0_beats_23 : decode cX0_beats 23 = .ok (.bipush (-101), 2) := by decide +kernel
theorem dX0_beats_25 : decode cX0_beats 25 = .ok (.ireturn, 1) := by decide +kernel
theorem dX0_beats_26 : decode cX0_beats 26 = .ok (.aload_n 0, 1) := by decide +kernel
theorem dX0_beats_27 : decode cX0_beats 27 = .ok (.iload_n 1, 1) := by decide +kernel
theorem dX0_beats_28 : decode cX0_beats 28 = .ok (.iload_n 2, 1) := by decide +kernel
theorem dX0_beats_29 : decode cX0_beats 29 = .ok (.iload_n 3, 1) := by decide +kernel
theorem dX0_beats_30 : decode cX0_beats 30 = .ok (.invokevirtual 100, 3) := by decide +kernel
theorem dX0_beats_33 : decode cX0_beats 33 = .ok (.ireturn, 1) := by decide +kernel
set_option maxRecDepth 20000 in
theorem ggX0_place_X0_isRound : GoodIn wsX0_place wsX0_isRound := goodIn_r _ [5, 6, 7, 4, 8] (by decide +kernel) (by decide +kernel)
set_option maxRecDepth 20000 in
theorem gX0_place_X0_isRound : GoodIn wsX0_place (va_wsS RX0 72 yX0_isRound wsX0_isRound) := goodIn_app (goodIn_of _ (by decide +kernel)) ggX0_place_X0_isRound
set_option maxRecDepth 20000 in
theorem ggX0_place_X0_isPlayer : GoodIn wsX0_place wsX0_isPlayer := goodIn_r _ [12, 13, 6, 7, 4, 8, 98, 99, 100, 101, 102, 103, 104, 105, 106, 107, 108, 109, 110, 111, 112, 113] (by decide +kernel) (by decide +kernel)
set_option maxRecDepth 20000 in
theorem gX0_place_X0_isPlayer : GoodIn wsX0_place (wsV RX0 79 RX0 yX0_isPlayer wsX0_isPlayer) := goodIn_app (goodIn_of _ (by decide +kernel)) ggX0_place_X0_isPlayer
set_option maxRecDepth 20000 in
theorem ggX0_place_X0_isWay : GoodIn wsX0_place wsX0_isWay := goodIn_r _ [16, 6, 7, 4, 8] (by decide +kernel) (by decide +kernel)
set_option maxRecDepth 20000 in
theorem gX0_place_X0_isWay : GoodIn wsX0_place (va_wsS RX0 94 yX0_isWay wsX0_isWay) := goodIn_app (goodIn_of _ (by decide +kernel)) ggX0_place_X0_isWay
set_option maxRecDepth 20000 in
theorem ggX0_place_X0_fillScores : GoodIn wsX0_place wsX0_fillScores := goodIn_r _ [20, 13, 1, 21, 22, 23, 4, 24, 25, 26, 27, 28, 29, 30, 31, 32, 33, 34, 35, 36, 37, 38, 39, 40, 41, 42, 43, 44, 45, 46, 47, 48, 49, 50, 51, 52, 53, 54, 55, 56, 57, 58, 59, 60, 61, 62, 63, 64, 65, 66, 67, 68, 69, 70, 71, 72, 73, 74, 75, 76, 77, 78, 79, 80, 81, 82, 83, 84, 85, 86, 87, 88, 89, 90, 91, 92, 93, 98, 99, 100, 101, 102, 103, 104, 105, 106, 107, 108, 109, 110, 111, 112, 113] (by decide +kernel) (by decide +kernel)
set_option maxRecDepth 20000 in
theorem gX0_place_X0_fillScores : GoodIn wsX0_place (wsV RX0 103 RX0 yX0_fillScores wsX0_fillScores) := goodIn_app (goodIn_of _ (by decide +kernel)) ggX0_place_X0_fillScores
set_option maxRecDepth 20000 in
theorem ggX0_place_X0_placeIn : GoodIn wsX0_place wsX0_placeIn := goodIn_r _ [97, 13, 98, 99, 100, 101, 102, 103, 104, 105, 106, 107, 108, 109, 110, 111, 112, 113] (by decide +kernel) (by decide +kernel)
set_option maxRecDepth 20000 in
theorem gX0_place_X0_placeIn : GoodIn wsX0_place (wsV RX0 107 RX0 yX0_placeIn wsX0_placeIn) := goodIn_app (goodIn_of _ (by decide +kernel)) ggX0_place_X0_placeIn
theorem dX0_place_0 : decode cX0_place 0 = .ok (.iload_n 1, 1) := by decide +kernel
theorem dX0_place_1 : decode cX0_place 1 = .ok (.invokestatic 72, 3) := by decide +kernel
theorem dX0_place_4 : decode cX0_place 4 = .ok (.ifCond .eq 11, 3) := by decide +kernel
theorem dX0_place_7 : decode cX0_place 7 = .ok (.aload_n 0, 1) := by decide +kernel
theorem dX0_place_8 : decode cX0_place 8 = .ok (.iload_n 3, 1) := by decide +kernel
theorem dX0_place_9 : decode cX0_place 9 = .ok (.invokevirtual 79, 3) := by decide +kernel
theorem dX0_place_12 : decode cX0_place 12 = .ok (.ifCond .ne 6, 3) := by decide +kernel
theorem dX0_place_15 : decode cX0_place 15 = .ok (.bipush (-101), 2) := by decide +kernel
theorem dX0_place_17 : decode cX0_place 17 = .ok (.ireturn, 1) := by decide +kernel
theorem dX0_place_18 : decode cX0_place 18 = .ok (.iload_n 2, 1) := by decide +kernel
theorem dX0_place_19 : decode cX0_place 19 = .ok (.invokestatic 94, 3) := by decide +kernel
theorem dX0_place_22 : decode cX0_place 22 = .ok (.ifCond .ne 6, 3) := by decide +kernel
theorem dX0_place_25 : decode cX0_place 25 = .ok (.bipush (-102), 2) := by decide +kernel
theorem dX0_place_27 : decode cX0_place 27 = .ok (.ireturn, 1) := by decide +kernel
theorem dX0_place_28 : decode cX0_place 28 = .ok (.aload_n 0, 1) := by decide +kernel
theorem dX0_place_29 : decode cX0_place 29 = .ok (.iload_n 1, 1) := by decide +kernel
theorem dX0_place_30 : decode cX0_place 30 = .ok (.iload_n 2, 1) := by decide +kernel
theorem dX0_place_31 : decode cX0_place 31 = .ok (.invokevirtual 103, 3) := by decide +kernel
theorem dX0_place_34 : decode cX0_place 34 = .ok (.aload_n 0, 1) := by decide +kernel
theorem dX0_place_35 : decode cX0_place 35 = .ok (.aload_n 0, 1) := by decide +kernel
theorem dX0_place_36 : decode cX0_place 36 = .ok (.getfield 50, 3) := by decide +kernel
theorem dX0_place_39 : decode cX0_place 39 = .ok (.iload_n 3, 1) := by decide +kernel
theorem dX0_place_40 : decode cX0_place 40 = .ok (.invokevirtual 107, 3) := by decide +kernel
theorem dX0_place_43 : decode cX0_place 43 = .ok (.ireturn, 1) := by decide +kernel
set_option maxRecDepth 20000 in
theorem ggX0_passed_X0_isRound : GoodIn wsX0_passed wsX0_isRound := goodIn_r _ [4, 5, 6, 3, 7] (by decide +kernel) (by decide +kernel)
set_option maxRecDepth 20000 in
theorem gX0_passed_X0_isRound : GoodIn wsX0_passed (va_wsS RX0 72 yX0_isRound wsX0_isRound) := goodIn_app (goodIn_of _ (by decide +kernel)) ggX0_passed_X0_isRound
set_option maxRecDepth 20000 in
theorem ggX0_passed_X0_isWay : GoodIn wsX0_passed wsX0_isWay := goodIn_r _ [10, 5, 6, 3, 7] (by decide +kernel) (by decide +kernel)
set_option maxRecDepth 20000 in
theorem gX0_passed_X0_isWay : GoodIn wsX0_passed (va_wsS RX0 94 yX0_isWay wsX0_isWay) := goodIn_app (goodIn_of _ (by decide +kernel)) ggX0_passed_X0_isWay
set_option maxRecDepth 20000 in
theorem ggX0_passed_X0_isLimit : GoodIn wsX0_passed wsX0_isLimit := goodIn_r _ [13, 5, 6, 3, 7] (by decide +kernel) (by decide +kernel)
set_option maxRecDepth 20000 in
theorem gX0_passed_X0_isLimit : GoodIn wsX0_passed (va_wsS RX0 111 yX0_isLimit wsX0_isLimit) := goodIn_app (goodIn_of _ (by decide +kernel)) ggX0_passed_X0_isLimit
set_option maxRecDepth 20000 in
theorem ggX0_passed_X0_passedBits : GoodIn wsX0_passed wsX0_passedBits := goodIn_r _ [17, 18, 19, 20, 21, 22, 3, 23, 24, 25, 26, 27, 28, 29, 30, 31, 32, 33, 34, 35, 36, 37, 38, 39, 40, 41, 42, 43, 44, 45, 46, 47, 48, 49, 50, 51, 52, 53, 54, 55, 56, 57, 58, 59, 60, 61, 62, 63, 64, 65, 66, 67, 68, 69, 70, 71, 72, 73, 74, 75, 76, 77, 78, 79, 80, 81, 82, 83, 84, 85, 86, 87, 88, 89, 90, 91, 92, 93, 94, 95, 96, 97, 98, 99, 100, 101, 102, 103, 104, 105, 106, 107, 108, 109, 110, 111, 112, 113, 114, 115, 116, 117, 118, 119, 120] (by decide +kernel) (by decide +kernel)
set_option maxRecDepth 20000 in
theorem gX0_passed_X0_passedBits : GoodIn wsX0_passed (wsV RX0 114 RX0 yX0_passedBits wsX0_passedBits) := goodIn_app (goodIn_of _ (by decide +kernel)) ggX0_passed_X0_passedBits
theorem dX0_passed_0 : decode cX0_passed 0 = .ok (.iload_n 1, 1) := by decide +kernel
theorem dX0_passed_1 : decode cX0_passed 1 = .ok (.invokestatic 72, 3) := by decide +kernel
theorem dX0_passed_4 : decode cX0_passed 4 = .ok (.ifCond .ne 6, 3) := by decide +kernel
theorem dX0_passed_7 : decode cX0_passed 7 = .ok (.bipush (-101), 2) := by decide +kernel
theorem dX0_passed_9 : decode cX0_passed 9 = .ok (.ireturn, 1) := by decide +kernel
theorem dX0_passed_10 : decode cX0_passed 10 = .ok (.iload_n 2, 1) := by decide +kernel
theorem dX0_passed_11 : decode cX0_passed 11 = .ok (.invokestatic 94, 3) := by decide +kernel
theorem dX0_passed_14 : decode cX0_passed 14 = .ok (.ifCond .eq 10, 3) := by decide +kernel
theorem dX0_passed_17 : decode cX0_passed 17 = .ok (.iload_n 3, 1) := by decide +kernel
theorem dX0_passed_18 : decode cX0_passed 18 = .ok (.invokestatic 111, 3) := by decide +kernel
theorem dX0_passed_21 : decode cX0_passed 21 = .ok (.ifCond .ne 6, 3) := by decide +kernel
theorem dX0_passed_24 : decode cX0_passed 24 = .ok (.bipush (-102), 2) := by decide +kernel
theorem dX0_passed_26 : decode cX0_passed 26 = .ok (.ireturn, 1) := by decide +kernel
theorem dX0_passed_27 : decode cX0_passed 27 = .ok (.aload_n 0, 1) := by decide +kernel
theorem dX0_passed_28 : decode cX0_passed 28 = .ok (.iload_n 1, 1) := by decide +kernel
theorem dX0_passed_29 : decode cX0_passed 29 = .ok (.iload_n 2, 1) := by decide +kernel
theorem dX0_passed_30 : decode cX0_passed 30 = .ok (.iload_n 3, 1) := by decide +kernel
theorem dX0_passed_31 : decode cX0_passed 31 = .ok (.invokevirtual 114, 3) := by decide +kernel
theorem dX0_passed_34 : decode cX0_passed 34 = .ok (.ireturn, 1) := by decide +kernel
set_option maxRecDepth 20000 in
theorem ggX0_differ_X0_isRound : GoodIn wsX0_differ wsX0_isRound := goodIn_r _ [4, 5, 6, 3, 7] (by decide +kernel) (by decide +kernel)
set_option maxRecDepth 20000 in
theorem gX0_differ_X0_isRound : GoodIn wsX0_differ (va_wsS RX0 72 yX0_isRound wsX0_isRound) := goodIn_app (goodIn_of _ (by decide +kernel)) ggX0_differ_X0_isRound
set_option maxRecDepth 20000 in
theorem ggX0_differ_X0_isWay : GoodIn wsX0_differ wsX0_isWay := goodIn_r _ [10, 5, 6, 3, 7] (by decide +kernel) (by decide +kernel)
set_option maxRecDepth 20000 in
theorem gX0_differ_X0_isWay : GoodIn wsX0_differ (va_wsS RX0 94 yX0_isWay wsX0_isWay) := goodIn_app (goodIn_of _ (by decide +kernel)) ggX0_differ_X0_isWay
set_option maxRecDepth 20000 in
theorem ggX0_differ_X0_isLimit : GoodIn wsX0_differ wsX0_isLimit := goodIn_r _ [13, 5, 6, 3, 7] (by decide +kernel) (by decide +kernel)
set_option maxRecDepth 20000 in
theorem gX0_differ_X0_isLimit : GoodIn wsX0_differ (va_wsS RX0 111 yX0_isLimit wsX0_isLimit) := goodIn_app (goodIn_of _ (by decide +kernel)) ggX0_differ_X0_isLimit
set_option maxRecDepth 20000 in
theorem ggX0_differ_X0_passedBits : GoodIn wsX0_differ wsX0_passedBits := goodIn_r _ [17, 18, 19, 20, 21, 22, 3, 23, 24, 25, 26, 27, 28, 29, 30, 31, 32, 33, 34, 35, 36, 37, 38, 39, 40, 41, 42, 43, 44, 45, 46, 47, 48, 49, 50, 51, 52, 53, 54, 55, 56, 57, 58, 59, 60, 61, 62, 63, 64, 65, 66, 67, 68, 69, 70, 71, 72, 73, 74, 75, 76, 77, 78, 79, 80, 81, 82, 83, 84, 85, 86, 87, 88, 89, 90, 91, 92, 93, 94, 95, 96, 97, 98, 99, 100, 101, 102, 103, 104, 111, 112, 113, 114, 115, 116, 117, 118, 119, 120, 121, 122, 123, 124, 125, 126] (by decide +kernel) (by decide +kernel)
set_option maxRecDepth 20000 in
theorem gX0_differ_X0_passedBits : GoodIn wsX0_differ (wsV RX0 114 RX0 yX0_passedBits wsX0_passedBits) := goodIn_app (goodIn_of _ (by decide +kernel)) ggX0_differ_X0_passedBits
set_option maxRecDepth 20000 in
theorem ggX0_differ_J6_bitCount_0f7a4 : GoodIn wsX0_differ wsJ6_bitCount_0f7a4 := goodIn_r _ [107, 108, 109, 110] (by decide +kernel) (by decide +kernel)
set_option maxRecDepth 20000 in
theorem gX0_differ_J6_bitCount_0f7a4 : GoodIn wsX0_differ (va_wsS RX0 117 yJ6_bitCount_0f7a4 wsJ6_bitCount_0f7a4) := goodIn_app (goodIn_of _ (by decide +kernel)) ggX0_differ_J6_bitCount_0f7a4
theorem dX0_differ_0 : decode cX0_differ 0 = .ok (.iload_n 1, 1) := by decide +kernel
theorem dX0_differ_1 : decode cX0_differ 1 = .ok (.invokestatic 72, 3) := by decide +kernel
theorem dX0_differ_4 : decode cX0_differ 4 = .ok (.ifCond .ne 6, 3) := by decide +kernel
theorem dX0_differ_7 : decode cX0_differ 7 = .ok (.bipush (-101), 2) := by decide +kernel
theorem dX0_differ_9 : decode cX0_differ 9 = .ok (.ireturn, 1) := by decide +kernel
theorem dX0_differ_10 : decode cX0_differ 10 = .ok (.iload_n 2, 1) := by decide +kernel
theorem dX0_differ_11 : decode cX0_differ 11 = .ok (.invokestatic 94, 3) := by decide +kernel
theorem dX0_differ_14 : decode cX0_differ 14 = .ok (.ifCond .eq 18, 3) := by decide +kernel
theorem dX0_differ_17 : decode cX0_differ 17 = .ok (.iload_n 3, 1) := by decide +kernel
theorem dX0_differ_18 : decode cX0_differ 18 = .ok (.invokestatic 94, 3) := by decide +kernel
theorem dX0_differ_21 : decode cX0_differ 21 = .ok (.ifCond .eq 11, 3) := by decide +kernel
theorem dX0_differ_24 : decode cX0_differ 24 = .ok (.iload 4, 2) := by decide +kernel
theorem dX0_differ_26 : decode cX0_differ 26 = .ok (.invokestatic 111, 3) := by decide +kernel
theorem dX0_differ_29 : decode cX0_differ 29 = .ok (.ifCond .ne 6, 3) := by decide +kernel
theorem dX0_differ_32 : decode cX0_differ 32 = .ok (.bipush (-102), 2) := by decide +kernel
theorem dX0_differ_34 : decode cX0_differ 34 = .ok (.ireturn, 1) := by decide +kernel
theorem dX0_differ_35 : decode cX0_differ 35 = .ok (.aload_n 0, 1) := by decide +kernel
theorem dX0_differ_36 : decode cX0_differ 36 = .ok (.iload_n 1, 1) := by decide +kernel
theorem dX0_differ_37 : decode cX0_differ 37 = .ok (.iload_n 2, 1) := by decide +kernel
theorem dX0_differ_38 : decode cX0_differ 38 = .ok (.iload 4, 2) := by decide +kernel
theorem dX0_differ_40 : decode cX0_differ 40 = .ok (.invokevirtual 114, 3) := by decide +kernel
theorem dX0_differ_43 : decode cX0_differ 43 = .ok (.aload_n 0, 1) := by decide +kernel
theorem dX0_differ_44 : decode cX0_differ 44 = .ok (.iload_n 1, 1) := by decide +kernel
theorem dX0_differ_45 : decode cX0_differ 45 = .ok (.iload_n 3, 1) := by decide +kernel
theorem dX0_differ_46 : decode cX0_differ 46 = .ok (.iload 4, 2) := by decide +kernel
theorem dX0_differ_48 : decode cX0_differ 48 = .ok (.invokevirtual 114, 3) := by decide +kernel
theorem dX0_differ_51 : decode cX0_differ 51 = .ok (.ixor, 1) := by decide +kernel
theorem dX0_differ_52 : decode cX0_differ 52 = .ok (.invokestatic 117, 3) := by decide +kernel
theorem dX0_differ_55 : decode cX0_differ 55 = .ok (.ireturn, 1) := by decide +kernel
set_option maxRecDepth 20000 in
theorem ggX0_reach_X0_isRound : GoodIn wsX0_reach wsX0_isRound := goodIn_r _ [5, 6, 7, 4, 8] (by decide +kernel) (by decide +kernel)
set_option maxRecDepth 20000 in
theorem gX0_reach_X0_isRound : GoodIn wsX0_reach (va_wsS RX0 72 yX0_isRound wsX0_isRound) := goodIn_app (goodIn_of _ (by decide +kernel)) ggX0_reach_X0_isRound
set_option maxRecDepth 20000 in
theorem ggX0_reach_X0_isJuror : GoodIn wsX0_reach wsX0_isJuror := goodIn_r _ [12, 13, 6, 7, 4, 8, 110, 111, 112, 113, 114, 115, 116, 117, 118, 119, 120, 121, 122, 123, 124, 125] (by decide +kernel) (by decide +kernel)
set_option maxRecDepth 20000 in
theorem gX0_reach_X0_isJuror : GoodIn wsX0_reach (wsV RX0 76 RX0 yX0_isJuror wsX0_isJuror) := goodIn_app (goodIn_of _ (by decide +kernel)) ggX0_reach_X0_isJuror
set_option maxRecDepth 20000 in
theorem ggX0_reach_X0_isPlayer : GoodIn wsX0_reach wsX0_isPlayer := goodIn_r _ [17, 18, 6, 7, 4, 8, 110, 111, 112, 113, 114, 115, 116, 117, 118, 119, 120, 121, 122, 123, 124, 125] (by decide +kernel) (by decide +kernel)
set_option maxRecDepth 20000 in
theorem gX0_reach_X0_isPlayer : GoodIn wsX0_reach (wsV RX0 79 RX0 yX0_isPlayer wsX0_isPlayer) := goodIn_app (goodIn_of _ (by decide +kernel)) ggX0_reach_X0_isPlayer
set_option maxRecDepth 20000 in
theorem ggX0_reach_X0_isWay : GoodIn wsX0_reach wsX0_isWay := goodIn_r _ [21, 6, 7, 4, 8] (by decide +kernel) (by decide +kernel)
set_option maxRecDepth 20000 in
theorem gX0_reach_X0_isWay : GoodIn wsX0_reach (va_wsS RX0 94 yX0_isWay wsX0_isWay) := goodIn_app (goodIn_of _ (by decide +kernel)) ggX0_reach_X0_isWay
set_option maxRecDepth 20000 in
theorem ggX0_reach_X0_isWithin : GoodIn wsX0_reach wsX0_isWithin := goodIn_r _ [8] (by decide +kernel) (by decide +kernel)
set_option maxRecDepth 20000 in
theorem gX0_reach_X0_isWithin : GoodIn wsX0_reach (va_wsS RX0 68 yX0_isWithin wsX0_isWithin) := goodIn_app (goodIn_of _ (by decide +kernel)) ggX0_reach_X0_isWithin
set_option maxRecDepth 20000 in
theorem ggX0_reach_X0_isPupil : GoodIn wsX0_reach wsX0_isPupil := goodIn_r _ [25, 26, 27, 28, 4, 29, 110, 111, 112, 113, 114, 115, 116, 117, 118, 119, 120, 121, 122, 123, 124, 125] (by decide +kernel) (by decide +kernel)
set_option maxRecDepth 20000 in
theorem gX0_reach_X0_isPupil : GoodIn wsX0_reach (wsV RX0 123 RX0 yX0_isPupil wsX0_isPupil) := goodIn_app (goodIn_of _ (by decide +kernel)) ggX0_reach_X0_isPupil
set_option maxRecDepth 20000 in
theorem ggX0_reach_X0_fillScoresIf : GoodIn wsX0_reach wsX0_fillScoresIf := goodIn_r _ [33, 34, 35, 36, 37, 4, 38, 39, 40, 41, 42, 18, 1, 43, 44, 45, 46, 47, 48, 49, 50, 51, 52, 53, 13, 54, 55, 56, 57, 26, 27, 28, 29, 58, 59, 60, 61, 62, 63, 64, 65, 66, 67, 68, 69, 70, 71, 72, 73, 74, 75, 76, 77, 78, 79, 80, 81, 82, 83, 84, 85, 86, 87, 88, 89, 90, 91, 92, 93, 94, 95, 96, 97, 98, 99, 100, 101, 102, 103, 104, 105, 110, 111, 112, 113, 114, 115, 116, 117, 118, 119, 120, 121, 122, 123, 124, 125] (by decide +kernel) (by decide +kernel)
set_option maxRecDepth 20000 in
theorem gX0_reach_X0_fillScoresIf : GoodIn wsX0_reach (wsV RX0 127 RX0 yX0_fillScoresIf wsX0_fillScoresIf) := goodIn_app (goodIn_of _ (by decide +kernel)) ggX0_reach_X0_fillScoresIf
set_option maxRecDepth 20000 in
theorem ggX0_reach_X0_placeIn : GoodIn wsX0_reach wsX0_placeIn := goodIn_r _ [109, 18, 110, 111, 112, 113, 114, 115, 116, 117, 118, 119, 120, 121, 122, 123, 124, 125] (by decide +kernel) (by decide +kernel)
set_option maxRecDepth 20000 in
theorem gX0_reach_X0_placeIn : GoodIn wsX0_reach (wsV RX0 107 RX0 yX0_placeIn wsX0_placeIn) := goodIn_app (goodIn_of _ (by decide +kernel)) ggX0_reach_X0_placeIn
theorem dX0_reach_0 : decode cX0_reach 0 = .ok (.iload_n 1, 1) := by decide +kernel
theorem dX0_reach_1 : decode cX0_reach 1 = .ok (.invokestatic 72, 3) := by decide +kernel
theorem dX0_reach_4 : decode cX0_reach 4 = .ok (.ifCond .eq 20, 3) := by decide +kernel
theorem dX0_reach_7 : decode cX0_reach 7 = .ok (.aload_n 0, 1) := by decide +kernel
theorem dX0_reach_8 : decode cX0_reach 8 = .ok (.iload_n 3, 1) := by decide +kernel
theorem dX0_reach_9 : decode cX0_reach 9 = .ok (.invokevirtual 76, 3) := by decide +kernel
theorem dX0_reach_12 : decode cX0_reach 12 = .ok (.ifCond .eq 12, 3) := by decide +kernel
theorem dX0_reach_15 : decode cX0_reach 15 = .ok (.aload_n 0, 1) := by decide +kernel
theorem dX0_reach_16 : decode cX0_reach 16 = .ok (.iload 4, 2) := by decide +kernel
theorem dX0_reach_18 : decode cX0_reach 18 = .ok (.invokevirtual 79, 3) := by decide +kernel
theorem dX0_reach_21 : decode cX0_reach 21 = .ok (.ifCond .ne 6, 3) := by decide +kernel
theorem dX0_reach_24 : decode cX0_reach 24 = .ok (.bipush (-101), 2) := by decide +kernel
theorem dX0_reach_26 : decode cX0_reach 26 = .ok (.ireturn, 1) := by decide +kernel
theorem dX0_reach_27 : decode cX0_reach 27 = .ok (.iload_n 2, 1) := by decide +kernel
theorem dX0_reach_28 : decode cX0_reach 28 = .ok (.invokestatic 94, 3) := by decide +kernel
theorem dX0_reach_31 : decode cX0_reach 31 = .ok (.ifCond .eq 13, 3) := by decide +kernel
theorem dX0_reach_34 : decode cX0_reach 34 = .ok (.iload 5, 2) := by decide +kernel
theorem dX0_reach_36 : decode cX0_reach 36 = .ok (.iconst 0, 1) := by decide +kernel
theorem dX0_reach_37 : decode cX0_reach 37 = .ok (.iconst 1, 1) := by decide +kernel
theorem dX0_reach_38 : decode cX0_reach 38 = .ok (.invokestatic 68, 3) := by decide +kernel
theorem dX0_reach_41 : decode cX0_reach 41 = .ok (.ifCond .ne 6, 3) := by decide +kernel
theorem dX0_reach_44 : decode cX0_reach 44 = .ok (.bipush (-102), 2) := by decide +kernel
theorem dX0_reach_46 : decode cX0_reach 46 = .ok (.ireturn, 1) := by decide +kernel
theorem dX0_reach_47 : decode cX0_reach 47 = .ok (.aload_n 0, 1) := by decide +kernel
theorem dX0_reach_48 : decode cX0_reach 48 = .ok (.iload_n 3, 1) := by decide +kernel
theorem dX0_reach_49 : decode cX0_reach 49 = .ok (.iload 4, 2) := by decide +kernel
theorem dX0_reach_51 : decode cX0_reach 51 = .ok (.invokevirtual 123, 3) := by decide +kernel
theorem dX0_reach_54 : decode cX0_reach 54 = .ok (.ifCond .eq 6, 3) := by decide +kernel
theorem dX0_reach_57 : decode cX0_reach 57 = .ok (.bipush (-103), 2) := by decide +kernel
theorem dX0_reach_59 : decode cX0_reach 59 = .ok (.ireturn, 1) := by decide +kernel
theorem dX0_reach_60 : decode cX0_reach 60 = .ok (.aload_n 0, 1) := by decide +kernel
theorem dX0_reach_61 : decode cX0_reach 61 = .ok (.iload_n 1, 1) := by decide +kernel
theorem dX0_reach_62 : decode cX0_reach 62 = .ok (.iload_n 2, 1) := by decide +kernel
theorem dX0_reach_63 : decode cX0_reach 63 = .ok (.iload_n 3, 1) := by decide +kernel
theorem dX0_reach_64 : decode cX0_reach 64 = .ok (.iload 4, 2) := by decide +kernel
theorem dX0_reach_66 : decode cX0_reach 66 = .ok (.iload 5, 2) := by decide +kernel
theorem dX0_reach_68 : decode cX0_reach 68 = .ok (.ifCond .ne 7, 3) := by decide +kernel
theorem dX0_reach_71 : decode cX0_reach 71 = .ok (.iconst 1, 1) := by decide +kernel
theorem dX0_reach_72 : decode cX0_reach 72 = .ok (.goto 4, 3) := by decide +kernel
theorem dX0_reach_75 : decode cX0_reach 75 = .ok (.iconst 0, 1) := by decide +kernel
theorem dX0_reach_76 : decode cX0_reach 76 = .ok (.invokevirtual 127, 3) := by decide +kernel
theorem dX0_reach_79 : decode cX0_reach 79 = .ok (.aload_n 0, 1) := by decide +kernel
theorem dX0_reach_80 : decode cX0_reach 80 = .ok (.aload_n 0, 1) := by decide +kernel
theorem dX0_reach_81 : decode cX0_reach 81 = .ok (.getfield 50, 3) := by decide +kernel
theorem dX0_reach_84 : decode cX0_reach 84 = .ok (.iload 4, 2) := by decide +kernel
theorem dX0_reach_86 : decode cX0_reach 86 = .ok (.invokevirtual 107, 3) := by decide +kernel
theorem dX0_reach_89 : decode cX0_reach 89 = .ok (.ireturn, 1) := by decide +kernel
set_option maxRecDepth 20000 in
theorem ggX0_sway_X0_isRound : GoodIn wsX0_sway wsX0_isRound := goodIn_r _ [6, 7, 8, 5, 9] (by decide +kernel) (by decide +kernel)
set_option maxRecDepth 20000 in
theorem gX0_sway_X0_isRound : GoodIn wsX0_sway (va_wsS RX0 72 yX0_isRound wsX0_isRound) := goodIn_app (goodIn_of _ (by decide +kernel)) ggX0_sway_X0_isRound
set_option maxRecDepth 20000 in
theorem ggX0_sway_X0_isJuror : GoodIn wsX0_sway wsX0_isJuror := goodIn_r _ [13, 14, 7, 8, 5, 9, 117, 118, 119, 120, 121, 122, 123, 124, 125, 126, 127, 128, 129, 130, 131, 132] (by decide +kernel) (by decide +kernel)
set_option maxRecDepth 20000 in
theorem gX0_sway_X0_isJuror : GoodIn wsX0_sway (wsV RX0 76 RX0 yX0_isJuror wsX0_isJuror) := goodIn_app (goodIn_of _ (by decide +kernel)) ggX0_sway_X0_isJuror
set_option maxRecDepth 20000 in
theorem ggX0_sway_X0_isWay : GoodIn wsX0_sway wsX0_isWay := goodIn_r _ [17, 7, 8, 5, 9] (by decide +kernel) (by decide +kernel)
set_option maxRecDepth 20000 in
theorem gX0_sway_X0_isWay : GoodIn wsX0_sway (va_wsS RX0 94 yX0_isWay wsX0_isWay) := goodIn_app (goodIn_of _ (by decide +kernel)) ggX0_sway_X0_isWay
set_option maxRecDepth 20000 in
theorem ggX0_sway_X0_isLimit : GoodIn wsX0_sway wsX0_isLimit := goodIn_r _ [20, 7, 8, 5, 9] (by decide +kernel) (by decide +kernel)
set_option maxRecDepth 20000 in
theorem gX0_sway_X0_isLimit : GoodIn wsX0_sway (va_wsS RX0 111 yX0_isLimit wsX0_isLimit) := goodIn_app (goodIn_of _ (by decide +kernel)) ggX0_sway_X0_isLimit
set_option maxRecDepth 20000 in
theorem ggX0_sway_X0_passedBits : GoodIn wsX0_sway wsX0_passedBits := goodIn_r _ [24, 1, 2, 25, 26, 27, 5, 28, 29, 30, 31, 32, 33, 34, 35, 36, 37, 38, 39, 14, 40, 41, 42, 43, 44, 45, 46, 47, 48, 49, 50, 51, 52, 53, 54, 55, 56, 57, 58, 59, 60, 61, 62, 63, 64, 65, 66, 67, 68, 69, 70, 71, 72, 73, 74, 75, 76, 77, 78, 79, 80, 81, 82, 83, 84, 85, 86, 87, 88, 89, 90, 91, 92, 93, 94, 95, 96, 97, 98, 99, 100, 101, 102, 103, 104, 105, 106, 107, 108, 117, 118, 119, 120, 121, 122, 123, 124, 125, 126, 127, 128, 129, 130, 131, 132] (by decide +kernel) (by decide +kernel)
set_option maxRecDepth 20000 in
theorem gX0_sway_X0_passedBits : GoodIn wsX0_sway (wsV RX0 114 RX0 yX0_passedBits wsX0_passedBits) := goodIn_app (goodIn_of _ (by decide +kernel)) ggX0_sway_X0_passedBits
set_option maxRecDepth 20000 in
theorem ggX0_sway_X0_isPupil : GoodIn wsX0_sway wsX0_isPupil := goodIn_r _ [112, 44, 46, 47, 5, 48, 117, 118, 119, 120, 121, 122, 123, 124, 125, 126, 127, 128, 129, 130, 131, 132] (by decide +kernel) (by decide +kernel)
set_option maxRecDepth 20000 in
theorem gX0_sway_X0_isPupil : GoodIn wsX0_sway (wsV RX0 123 RX0 yX0_isPupil wsX0_isPupil) := goodIn_app (goodIn_of _ (by decide +kernel)) ggX0_sway_X0_isPupil
set_option maxRecDepth 20000 in
theorem ggX0_sway_X0_fillScoresIf : GoodIn wsX0_sway wsX0_fillScoresIf := goodIn_r _ [116, 45, 73, 49, 50, 5, 51, 25, 26, 27, 28, 1, 2, 29, 30, 31, 32, 33, 34, 35, 36, 37, 38, 39, 14, 40, 41, 42, 43, 44, 46, 47, 48, 52, 53, 54, 55, 56, 57, 58, 59, 60, 61, 62, 63, 64, 65, 66, 67, 68, 69, 70, 71, 72, 74, 75, 76, 77, 78, 79, 80, 81, 82, 83, 84, 85, 86, 87, 88, 89, 90, 91, 92, 93, 94, 95, 96, 97, 98, 99, 100, 117, 118, 119, 120, 121, 122, 123, 124, 125, 126, 127, 128, 129, 130, 131, 132] (by decide +kernel) (by decide +kernel)
set_option maxRecDepth 20000 in
theorem gX0_sway_X0_fillScoresIf : GoodIn wsX0_sway (wsV RX0 127 RX0 yX0_fillScoresIf wsX0_fillScoresIf) := goodIn_app (goodIn_of _ (by decide +kernel)) ggX0_sway_X0_fillScoresIf
set_option maxRecDepth 20000 in
theorem ggX0_sway_X0_passesIn : GoodIn wsX0_sway wsX0_passesIn := goodIn_r _ [104, 105, 106, 107, 5, 108, 1, 117, 118, 119, 120, 121, 122, 123, 124, 125, 126, 127, 128, 129, 130, 131, 132] (by decide +kernel) (by decide +kernel)
set_option maxRecDepth 20000 in
theorem gX0_sway_X0_passesIn : GoodIn wsX0_sway (wsV RX0 131 RX0 yX0_passesIn wsX0_passesIn) := goodIn_app (goodIn_of _ (by decide +kernel)) ggX0_sway_X0_passesIn
theorem dX0_sway_0 : decode cX0_sway 0 = .ok (.iload_n 1, 1) := by decide +kernel
theorem dX0_sway_1 : decode cX0_sway 1 = .ok (.invokestatic 72, 3) := by decide +kernel
theorem dX0_sway_4 : decode cX0_sway 4 = .ok (.ifCond .eq 11, 3) := by decide +kernel
theorem dX0_sway_7 : decode cX0_sway 7 = .ok (.aload_n 0, 1) := by decide +kernel
theorem dX0_sway_8 : decode cX0_sway 8 = .ok (.iload_n 3, 1) := by decide +kernel
theorem dX0_sway_9 : decode cX0_sway 9 = .ok (.invokevirtual 76, 3) := by decide +kernel
theorem dX0_sway_12 : decode cX0_sway 12 = .ok (.ifCond .ne 6, 3) := by decide +kernel
theorem dX0_sway_15 : decode cX0_sway 15 = .ok (.bipush (-101), 2) := by decide +kernel
theorem dX0_sway_17 : decode cX0_sway 17 = .ok (.ireturn, 1) := by decide +kernel
theorem dX0_sway_18 : decode cX0_sway 18 = .ok (.iload_n 2, 1) := by decide +kernel
theorem dX0_sway_19 : decode cX0_sway 19 = .ok (.invokestatic 94, 3) := by decide +kernel
theorem dX0_sway_22 : decode cX0_sway 22 = .ok (.ifCond .eq 11, 3) := by decide +kernel
theorem dX0_sway_25 : decode cX0_sway 25 = .ok (.iload 4, 2) := by decide +kernel
theorem dX0_sway_27 : decode cX0_sway 27 = .ok (.invokestatic 111, 3) := by decide +kernel
theorem dX0_sway_30 : decode cX0_sway 30 = .ok (.ifCond .ne 6, 3) := by decide +kernel
theorem dX0_sway_33 : decode cX0_sway 33 = .ok (.bipush (-102), 2) := by decide +kernel
theorem dX0_sway_35 : decode cX0_sway 35 = .ok (.ireturn, 1) := by decide +kernel
theorem dX0_sway_36 : decode cX0_sway 36 = .ok (.aload_n 0, 1) := by decide +kernel
theorem dX0_sway_37 : decode cX0_sway 37 = .ok (.iload_n 1, 1) := by decide +kernel
theorem dX0_sway_38 : decode cX0_sway 38 = .ok (.iload_n 2, 1) := by decide +kernel
theorem dX0_sway_39 : decode cX0_sway 39 = .ok (.iload 4, 2) := by decide +kernel
theorem dX0_sway_41 : decode cX0_sway 41 = .ok (.invokevirtual 114, 3) := by decide +kernel
theorem dX0_sway_44 : decode cX0_sway 44 = .ok (.istore 5, 2) := by decide +kernel
theorem dX0_sway_46 : decode cX0_sway 46 = .ok (.iconst 0, 1) := by decide +kernel
theorem dX0_sway_47 : decode cX0_sway 47 = .ok (.istore 6, 2) := by decide +kernel
theorem dX0_sway_49 : decode cX0_sway 49 = .ok (.iconst 0, 1) := by decide +kernel
theorem dX0_sway_50 : decode cX0_sway 50 = .ok (.istore 7, 2) := by decide +kernel
theorem dX0_sway_52 : decode cX0_sway 52 = .ok (.iload 7, 2) := by decide +kernel
theorem dX0_sway_54 : decode cX0_sway 54 = .ok (.aload_n 0, 1) := by decide +kernel
theorem dX0_sway_55 : decode cX0_sway 55 = .ok (.getfield 7, 3) := by decide +kernel
theorem dX0_sway_58 : decode cX0_sway 58 = .ok (.if_icmp .ge 105, 3) := by decide +kernel
theorem dX0_sway_61 : decode cX0_sway 61 = .ok (.aload_n 0, 1) := by decide +kernel
theorem dX0_sway_62 : decode cX0_sway 62 = .ok (.iload_n 3, 1) := by decide +kernel
theorem dX0_sway_63 : decode cX0_sway 63 = .ok (.iload 7, 2) := by decide +kernel
theorem dX0_sway_65 : decode cX0_sway 65 = .ok (.invokevirtual 123, 3) := by decide +kernel
theorem dX0_sway_68 : decode cX0_sway 68 = .ok (.ifCond .eq 6, 3) := by decide +kernel
theorem dX0_sway_71 : decode cX0_sway 71 = .ok (.goto 86, 3) := by decide +kernel
theorem dX0_sway_74 : decode cX0_sway 74 = .ok (.iload 5, 2) := by decide +kernel
theorem dX0_sway_76 : decode cX0_sway 76 = .ok (.iload 7, 2) := by decide +kernel
theorem dX0_sway_78 : decode cX0_sway 78 = .ok (.ishr, 1) := by decide +kernel
theorem dX0_sway_79 : decode cX0_sway 79 = .ok (.iconst 1, 1) := by decide +kernel
theorem dX0_sway_80 : decode cX0_sway 80 = .ok (.iand, 1) := by decide +kernel
theorem dX0_sway_81 : decode cX0_sway 81 = .ok (.iconst 1, 1) := by decide +kernel
theorem dX0_sway_82 : decode cX0_sway 82 = .ok (.if_icmp .ne 7, 3) := by decide +kernel
theorem dX0_sway_85 : decode cX0_sway 85 = .ok (.iconst 1, 1) := by decide +kernel
theorem dX0_sway_86 : decode cX0_sway 86 = .ok (.goto 4, 3) := by decide +kernel
theorem dX0_sway_89 : decode cX0_sway 89 = .ok (.iconst 0, 1) := by decide +kernel
theorem dX0_sway_90 : decode cX0_sway 90 = .ok (.istore 8, 2) := by decide +kernel
theorem dX0_sway_92 : decode cX0_sway 92 = .ok (.aload_n 0, 1) := by decide +kernel
theorem dX0_sway_93 : decode cX0_sway 93 = .ok (.iload_n 1, 1) := by decide +kernel
theorem dX0_sway_94 : decode cX0_sway 94 = .ok (.iload_n 2, 1) := by decide +kernel
theorem dX0_sway_95 : decode cX0_sway 95 = .ok (.iload_n 3, 1) := by decide +kernel
theorem dX0_sway_96 : decode cX0_sway 96 = .ok (.iload 7, 2) := by decide +kernel
theorem dX0_sway_98 : decode cX0_sway 98 = .ok (.iconst 1, 1) := by decide +kernel
theorem dX0_sway_99 : decode cX0_sway 99 = .ok (.invokevirtual 127, 3) := by decide +kernel
theorem dX0_sway_102 : decode cX0_sway 102 = .ok (.aload_n 0, 1) := by decide +kernel
theorem dX0_sway_103 : decode cX0_sway 103 = .ok (.aload_n 0, 1) := by decide +kernel
theorem dX0_sway_104 : decode cX0_sway 104 = .ok (.getfield 50, 3) := by decide +kernel
theorem dX0_sway_107 : decode cX0_sway 107 = .ok (.iload 7, 2) := by decide +kernel
theorem dX0_sway_109 : decode cX0_sway 109 = .ok (.iload 4, 2) := by decide +kernel
theorem dX0_sway_111 : decode cX0_sway 111 = .ok (.invokevirtual 131, 3) := by decide +kernel
theorem dX0_sway_114 : decode cX0_sway 114 = .ok (.istore 9, 2) := by decide +kernel
theorem dX0_sway_116 : decode cX0_sway 116 = .ok (.aload_n 0, 1) := by decide +kernel
theorem dX0_sway_117 : decode cX0_sway 117 = .ok (.iload_n 1, 1) := by decide +kernel
theorem dX0_sway_118 : decode cX0_sway 118 = .ok (.iload_n 2, 1) := by decide +kernel
theorem dX0_sway_119 : decode cX0_sway 119 = .ok (.iload_n 3, 1) := by decide +kernel
theorem dX0_sway_120 : decode cX0_sway 120 = .ok (.iload 7, 2) := by decide +kernel
theorem dX0_sway_122 : decode cX0_sway 122 = .ok (.iconst 0, 1) := by decide +kernel
theorem dX0_sway_123 : decode cX0_sway 123 = .ok (.invokevirtual 127, 3) := by decide +kernel
theorem dX0_sway_126 : decode cX0_sway 126 = .ok (.aload_n 0, 1) := by decide +kernel
theorem dX0_sway_127 : decode cX0_sway 127 = .ok (.aload_n 0, 1) := by decide +kernel
theorem dX0_sway_128 : decode cX0_sway 128 = .ok (.getfield 50, 3) := by decide +kernel
theorem dX0_sway_131 : decode cX0_sway 131 = .ok (.iload 7, 2) := by decide +kernel
theorem dX0_sway_133 : decode cX0_sway 133 = .ok (.iload 4, 2) := by decide +kernel
theorem dX0_sway_135 : decode cX0_sway 135 = .ok (.invokevirtual 131, 3) := by decide +kernel
theorem dX0_sway_138 : decode cX0_sway 138 = .ok (.istore 10, 2) := by decide +kernel
theorem dX0_sway_140 : decode cX0_sway 140 = .ok (.iload 9, 2) := by decide +kernel
theorem dX0_sway_142 : decode cX0_sway 142 = .ok (.iload 8, 2) := by decide +kernel
theorem dX0_sway_144 : decode cX0_sway 144 = .ok (.if_icmp .ne 10, 3) := by decide +kernel
theorem dX0_sway_147 : decode cX0_sway 147 = .ok (.iload 10, 2) := by decide +kernel
theorem dX0_sway_149 : decode cX0_sway 149 = .ok (.iload 8, 2) := by decide +kernel
theorem dX0_sway_151 : decode cX0_sway 151 = .ok (.if_icmp .eq 6, 3) := by decide +kernel
theorem dX0_sway_154 : decode cX0_sway 154 = .ok (.iinc 6 1, 3) := by decide +kernel
theorem dX0_sway_157 : decode cX0_sway 157 = .ok (.iinc 7 1, 3) := by decide +kernel
theorem dX0_sway_160 : decode cX0_sway 160 = .ok (.goto (-108), 3) := by decide +kernel
theorem dX0_sway_163 : decode cX0_sway 163 = .ok (.iload 6, 2) := by decide +kernel
theorem dX0_sway_165 : decode cX0_sway 165 = .ok (.ireturn, 1) := by decide +kernel
set_option maxRecDepth 20000 in
theorem ggX0_weight_X0_isRound : GoodIn wsX0_weight wsX0_isRound := goodIn_r _ [5, 6, 7, 4, 8] (by decide +kernel) (by decide +kernel)
set_option maxRecDepth 20000 in
theorem gX0_weight_X0_isRound : GoodIn wsX0_weight (va_wsS RX0 72 yX0_isRound wsX0_isRound) := goodIn_app (goodIn_of _ (by decide +kernel)) ggX0_weight_X0_isRound
set_option maxRecDepth 20000 in
theorem ggX0_weight_X0_isWithin : GoodIn wsX0_weight wsX0_isWithin := goodIn_r _ [8] (by decide +kernel) (by decide +kernel)
set_option maxRecDepth 20000 in
theorem gX0_weight_X0_isWithin : GoodIn wsX0_weight (va_wsS RX0 68 yX0_isWithin wsX0_isWithin) := goodIn_app (goodIn_of _ (by decide +kernel)) ggX0_weight_X0_isWithin
set_option maxRecDepth 20000 in
theorem ggX0_weight_X0_replace : GoodIn wsX0_weight wsX0_replace := goodIn_r _ [11] (by decide +kernel) (by decide +kernel)
set_option maxRecDepth 20000 in
theorem gX0_weight_X0_replace : GoodIn wsX0_weight (va_wsS RX0 86 yX0_replace wsX0_replace) := goodIn_app (goodIn_of _ (by decide +kernel)) ggX0_weight_X0_replace
theorem dX0_weight_0 : decode cX0_weight 0 = .ok (.iload_n 1, 1) := by decide +kernel
theorem dX0_weight_1 : decode cX0_weight 1 = .ok (.invokestatic 72, 3) := by decide +kernel
theorem dX0_weight_4 : decode cX0_weight 4 = .ok (.ifCond .ne 6, 3) := by decide +kernel
theorem dX0_weight_7 : decode cX0_weight 7 = .ok (.bipush (-101), 2) := by decide +kernel
theorem dX0_weight_9 : decode cX0_weight 9 = .ok (.ireturn, 1) := by decide +kernel
theorem dX0_weight_10 : decode cX0_weight 10 = .ok (.iload_n 2, 1) := by decide +kernel
theorem dX0_weight_11 : decode cX0_weight 11 = .ok (.iconst 0, 1) := by decide +kernel
theorem dX0_weight_12 : decode cX0_weight 12 = .ok (.bipush 10, 2) := by decide +kernel
theorem dX0_weight_14 : decode cX0_weight 14 = .ok (.invokestatic 68, 3) := by decide +kernel
theorem dX0_weight_17 : decode cX0_weight 17 = .ok (.ifCond .ne 6, 3) := by decide +kernel
theorem dX0_weight_20 : decode cX0_weight 20 = .ok (.bipush (-102), 2) := by decide +kernel
theorem dX0_weight_22 : decode cX0_weight 22 = .ok (.ireturn, 1) := by decide +kernel
theorem dX0_weight_23 : decode cX0_weight 23 = .ok (.aload_n 0, 1) := by decide +kernel
theorem dX0_weight_24 : decode cX0_weight 24 = .ok (.getfield 29, 3) := by decide +kernel
theorem dX0_weight_27 : decode cX0_weight 27 = .ok (.iload_n 1, 1) := by decide +kernel
theorem dX0_weight_28 : decode cX0_weight 28 = .ok (.iload_n 2, 1) := by decide +kernel
theorem dX0_weight_29 : decode cX0_weight 29 = .ok (.invokestatic 86, 3) := by decide +kernel
theorem dX0_weight_32 : decode cX0_weight 32 = .ok (.ireturn, 1) := by decide +kernel
set_option maxRecDepth 20000 in
theorem ggX0_total_X0_isPlayer : GoodIn wsX0_total wsX0_isPlayer := goodIn_r _ [5, 6, 7, 8, 4, 9, 88, 89, 90, 91, 92, 93, 94, 95, 96, 97, 98, 99, 100, 101, 102, 103] (by decide +kernel) (by decide +kernel)
set_option maxRecDepth 20000 in
theorem gX0_total_X0_isPlayer : GoodIn wsX0_total (wsV RX0 79 RX0 yX0_isPlayer wsX0_isPlayer) := goodIn_app (goodIn_of _ (by decide +kernel)) ggX0_total_X0_isPlayer
set_option maxRecDepth 20000 in
theorem ggX0_total_X0_totalOf : GoodIn wsX0_total wsX0_totalOf := goodIn_r _ [13, 14, 15, 16, 17, 4, 18, 19, 20, 21, 22, 23, 24, 25, 26, 27, 28, 29, 30, 31, 32, 33, 34, 35, 36, 37, 38, 39, 40, 41, 42, 43, 44, 45, 46, 47, 48, 49, 50, 51, 52, 53, 54, 55, 56, 57, 58, 59, 60, 61, 62, 63, 64, 6, 65, 66, 67, 68, 69, 70, 71, 72, 73, 74, 75, 76, 77, 78, 79, 80, 81, 82, 83, 84, 85, 86, 87, 88, 89, 90, 91, 92, 93, 94, 95, 96, 97, 98, 99, 100, 101, 102, 103] (by decide +kernel) (by decide +kernel)
set_option maxRecDepth 20000 in
theorem gX0_total_X0_totalOf : GoodIn wsX0_total (wsV RX0 135 RX0 yX0_totalOf wsX0_totalOf) := goodIn_app (goodIn_of _ (by decide +kernel)) ggX0_total_X0_totalOf
theorem dX0_total_0 : decode cX0_total 0 = .ok (.aload_n 0, 1) := by decide +kernel
theorem dX0_total_1 : decode cX0_total 1 = .ok (.iload_n 1, 1) := by decide +kernel
theorem dX0_total_2 : decode cX0_total 2 = .ok (.invokevirtual 79, 3) := by decide +kernel
theorem dX0_total_5 : decode cX0_total 5 = .ok (.ifCond .ne 6, 3) := by decide +kernel
theorem dX0_total_8 : decode cX0_total 8 = .ok (.bipush (-101), 2) := by decide +kernel
theorem dX0_total_10 : decode cX0_total 10 = .ok (.ireturn, 1) := by decide +kernel
theorem dX0_total_11 : decode cX0_total 11 = .ok (.aload_n 0, 1) := by decide +kernel
theorem dX0_total_12 : decode cX0_total 12 = .ok (.iload_n 1, 1) := by decide +kernel
theorem dX0_total_13 : decode cX0_total 13 = .ok (.invokevirtual 135, 3) := by decide +kernel
theorem dX0_total_16 : decode cX0_total 16 = .ok (.ireturn, 1) := by decide +kernel
set_option maxRecDepth 20000 in
theorem ggX0_last_X0_isPlayer : GoodIn wsX0_last wsX0_isPlayer := goodIn_r _ [6, 7, 8, 9, 5, 10, 97, 98, 99, 100, 101, 102, 103, 104, 105, 106, 107, 108, 109, 110, 111, 112] (by decide +kernel) (by decide +kernel)
set_option maxRecDepth 20000 in
theorem gX0_last_X0_isPlayer : GoodIn wsX0_last (wsV RX0 79 RX0 yX0_isPlayer wsX0_isPlayer) := goodIn_app (goodIn_of _ (by decide +kernel)) ggX0_last_X0_isPlayer
set_option maxRecDepth 20000 in
theorem ggX0_last_X0_fillTotals : GoodIn wsX0_last wsX0_fillTotals := goodIn_r _ [14, 7, 1, 15, 16, 17, 5, 18, 19, 20, 21, 22, 23, 24, 25, 26, 27, 28, 29, 30, 31, 32, 33, 34, 35, 36, 37, 38, 39, 40, 41, 42, 43, 44, 45, 46, 47, 48, 49, 50, 51, 52, 53, 54, 55, 56, 57, 58, 59, 60, 61, 62, 63, 64, 65, 66, 67, 68, 69, 70, 71, 72, 73, 74, 75, 76, 77, 78, 79, 80, 81, 82, 83, 84, 85, 86, 87, 88, 89, 90, 91, 92, 97, 98, 99, 100, 101, 102, 103, 104, 105, 106, 107, 108, 109, 110, 111, 112] (by decide +kernel) (by decide +kernel)
set_option maxRecDepth 20000 in
theorem gX0_last_X0_fillTotals : GoodIn wsX0_last (wsV RX0 138 RX0 yX0_fillTotals wsX0_fillTotals) := goodIn_app (goodIn_of _ (by decide +kernel)) ggX0_last_X0_fillTotals
set_option maxRecDepth 20000 in
theorem ggX0_last_X0_placeIn : GoodIn wsX0_last wsX0_placeIn := goodIn_r _ [96, 7, 97, 98, 99, 100, 101, 102, 103, 104, 105, 106, 107, 108, 109, 110, 111, 112] (by decide +kernel) (by decide +kernel)
set_option maxRecDepth 20000 in
theorem gX0_last_X0_placeIn : GoodIn wsX0_last (wsV RX0 107 RX0 yX0_placeIn wsX0_placeIn) := goodIn_app (goodIn_of _ (by decide +kernel)) ggX0_last_X0_placeIn
theorem dX0_last_0 : decode cX0_last 0 = .ok (.aload_n 0, 1) := by decide +kernel
theorem dX0_last_1 : decode cX0_last 1 = .ok (.iload_n 1, 1) := by decide +kernel
theorem dX0_last_2 : decode cX0_last 2 = .ok (.invokevirtual 79, 3) := by decide +kernel
theorem dX0_last_5 : decode cX0_last 5 = .ok (.ifCond .ne 6, 3) := by decide +kernel
theorem dX0_last_8 : decode cX0_last 8 = .ok (.bipush (-101), 2) := by decide +kernel
theorem dX0_last_10 : decode cX0_last 10 = .ok (.ireturn, 1) := by decide +kernel
theorem dX0_last_11 : decode cX0_last 11 = .ok (.aload_n 0, 1) := by decide +kernel
theorem dX0_last_12 : decode cX0_last 12 = .ok (.invokevirtual 138, 3) := by decide +kernel
theorem dX0_last_15 : decode cX0_last 15 = .ok (.aload_n 0, 1) := by decide +kernel
theorem dX0_last_16 : decode cX0_last 16 = .ok (.aload_n 0, 1) := by decide +kernel
theorem dX0_last_17 : decode cX0_last 17 = .ok (.getfield 53, 3) := by decide +kernel
theorem dX0_last_20 : decode cX0_last 20 = .ok (.iload_n 1, 1) := by decide +kernel
theorem dX0_last_21 : decode cX0_last 21 = .ok (.invokevirtual 107, 3) := by decide +kernel
theorem dX0_last_24 : decode cX0_last 24 = .ok (.ireturn, 1) := by decide +kernel
set_option maxRecDepth 20000 in
theorem ggX0_prize_X0_isWithin : GoodIn wsX0_prize wsX0_isWithin := goodIn_r _ [6] (by decide +kernel) (by decide +kernel)
set_option maxRecDepth 20000 in
theorem gX0_prize_X0_isWithin : GoodIn wsX0_prize (va_wsS RX0 68 yX0_isWithin wsX0_isWithin) := goodIn_app (goodIn_of _ (by decide +kernel)) ggX0_prize_X0_isWithin
set_option maxRecDepth 20000 in
theorem ggX0_prize_X0_replace : GoodIn wsX0_prize wsX0_replace := goodIn_r _ [9] (by decide +kernel) (by decide +kernel)
set_option maxRecDepth 20000 in
theorem gX0_prize_X0_replace : GoodIn wsX0_prize (va_wsS RX0 86 yX0_replace wsX0_replace) := goodIn_app (goodIn_of _ (by decide +kernel)) ggX0_prize_X0_replace
theorem dX0_prize_0 : decode cX0_prize 0 = .ok (.iload_n 1, 1) := by decide +kernel
theorem dX0_prize_1 : decode cX0_prize 1 = .ok (.iconst 0, 1) := by decide +kernel
theorem dX0_prize_2 : decode cX0_prize 2 = .ok (.iconst 5, 1) := by decide +kernel
theorem dX0_prize_3 : decode cX0_prize 3 = .ok (.invokestatic 68, 3) := by decide +kernel
theorem dX0_prize_6 : decode cX0_prize 6 = .ok (.ifCond .ne 6, 3) := by decide +kernel
theorem dX0_prize_9 : decode cX0_prize 9 = .ok (.bipush (-101), 2) := by decide +kernel
theorem dX0_prize_11 : decode cX0_prize 11 = .ok (.ireturn, 1) := by decide +kernel
theorem dX0_prize_12 : decode cX0_prize 12 = .ok (.iload_n 2, 1) := by decide +kernel
theorem dX0_prize_13 : decode cX0_prize 13 = .ok (.iconst 0, 1) := by decide +kernel
theorem dX0_prize_14 : decode cX0_prize 14 = .ok (.ldc 141, 2) := by decide +kernel
theorem dX0_prize_16 : decode cX0_prize 16 = .ok (.invokestatic 68, 3) := by decide +kernel
theorem dX0_prize_19 : decode cX0_prize 19 = .ok (.ifCond .ne 6, 3) := by decide +kernel
theorem dX0_prize_22 : decode cX0_prize 22 = .ok (.bipush (-102), 2) := by decide +kernel
theorem dX0_prize_24 : decode cX0_prize 24 = .ok (.ireturn, 1) := by decide +kernel
theorem dX0_prize_25 : decode cX0_prize 25 = .ok (.aload_n 0, 1) := by decide +kernel
theorem dX0_prize_26 : decode cX0_prize 26 = .ok (.getfield 32, 3) := by decide +kernel
theorem dX0_prize_29 : decode cX0_prize 29 = .ok (.iload_n 1, 1) := by decide +kernel
theorem dX0_prize_30 : decode cX0_prize 30 = .ok (.iload_n 2, 1) := by decide +kernel
theorem dX0_prize_31 : decode cX0_prize 31 = .ok (.invokestatic 86, 3) := by decide +kernel
theorem dX0_prize_34 : decode cX0_prize 34 = .ok (.ireturn, 1) := by decide +kernel
set_option maxRecDepth 20000 in
theorem ggX0_wins_X0_isPlayer : GoodIn wsX0_wins wsX0_isPlayer := goodIn_r _ [5, 6, 7, 8, 4, 9, 102, 103, 104, 105, 106, 107, 108, 109, 110, 111, 112, 113, 114, 115, 116, 117] (by decide +kernel) (by decide +kernel)
set_option maxRecDepth 20000 in
theorem gX0_wins_X0_isPlayer : GoodIn wsX0_wins (wsV RX0 79 RX0 yX0_isPlayer wsX0_isPlayer) := goodIn_app (goodIn_of _ (by decide +kernel)) ggX0_wins_X0_isPlayer
set_option maxRecDepth 20000 in
theorem ggX0_wins_X0_fillTotals : GoodIn wsX0_wins wsX0_fillTotals := goodIn_r _ [13, 6, 14, 15, 16, 17, 4, 18, 19, 20, 21, 22, 23, 24, 25, 26, 27, 28, 29, 30, 31, 32, 33, 34, 35, 36, 37, 38, 39, 40, 41, 42, 43, 44, 45, 46, 47, 48, 49, 50, 51, 52, 53, 54, 55, 56, 57, 58, 59, 60, 61, 62, 63, 64, 65, 66, 67, 68, 69, 70, 71, 72, 73, 74, 75, 76, 77, 78, 79, 80, 81, 82, 83, 84, 85, 86, 87, 88, 89, 90, 91, 92, 102, 103, 104, 105, 106, 107, 108, 109, 110, 111, 112, 113, 114, 115, 116, 117] (by decide +kernel) (by decide +kernel)
set_option maxRecDepth 20000 in
theorem gX0_wins_X0_fillTotals : GoodIn wsX0_wins (wsV RX0 138 RX0 yX0_fillTotals wsX0_fillTotals) := goodIn_app (goodIn_of _ (by decide +kernel)) ggX0_wins_X0_fillTotals
set_option maxRecDepth 20000 in
theorem ggX0_wins_X0_shareOf : GoodIn wsX0_wins wsX0_shareOf := goodIn_r _ [96, 14, 6, 97, 98, 99, 100, 4, 101, 102, 103, 104, 105, 106, 107, 108, 109, 110, 111, 112, 113, 114, 115, 116, 117] (by decide +kernel) (by decide +kernel)
set_option maxRecDepth 20000 in
theorem gX0_wins_X0_shareOf : GoodIn wsX0_wins (wsV RX0 142 RX0 yX0_shareOf wsX0_shareOf) := goodIn_app (goodIn_of _ (by decide +kernel)) ggX0_wins_X0_shareOf
theorem dX0_wins_0 : decode cX0_wins 0 = .ok (.aload_n 0, 1) := by decide +kernel
theorem dX0_wins_1 : decode cX0_wins 1 = .ok (.iload_n 1, 1) := by decide +kernel
theorem dX0_wins_2 : decode cX0_wins 2 = .ok (.invokevirtual 79, 3) := by decide +kernel
theorem dX0_wins_5 : decode cX0_wins 5 = .ok (.ifCond .ne 6, 3) := by decide +kernel
theorem dX0_wins_8 : decode cX0_wins 8 = .ok (.bipush (-101), 2) := by decide +kernel
theorem dX0_wins_10 : decode cX0_wins 10 = .ok (.ireturn, 1) := by decide +kernel
theorem dX0_wins_11 : decode cX0_wins 11 = .ok (.aload_n 0, 1) := by decide +kernel
theorem dX0_wins_12 : decode cX0_wins 12 = .ok (.invokevirtual 138, 3) := by decide +kernel
theorem dX0_wins_15 : decode cX0_wins 15 = .ok (.aload_n 0, 1) := by decide +kernel
theorem dX0_wins_16 : decode cX0_wins 16 = .ok (.iload_n 1, 1) := by decide +kernel
theorem dX0_wins_17 : decode cX0_wins 17 = .ok (.invokevirtual 142, 3) := by decide +kernel
theorem dX0_wins_20 : decode cX0_wins 20 = .ok (.ireturn, 1) := by decide +kernel
set_option maxRecDepth 20000 in
theorem ggX0_rest_X0_fillTotals : GoodIn wsX0_rest wsX0_fillTotals := goodIn_r _ [7, 2, 8, 9, 10, 11, 6, 12, 13, 14, 15, 16, 17, 18, 19, 20, 21, 22, 23, 24, 25, 26, 27, 28, 29, 30, 31, 32, 33, 34, 35, 36, 37, 38, 39, 40, 41, 42, 43, 44, 45, 46, 47, 48, 49, 50, 51, 52, 53, 54, 55, 56, 57, 58, 59, 60, 61, 62, 63, 64, 65, 66, 67, 68, 69, 70, 71, 72, 73, 74, 75, 76, 77, 78, 79, 80, 81, 82, 83, 84, 85, 86, 98, 99, 100, 101, 102, 103, 104, 105, 106, 107, 108, 109, 110, 111, 112, 113] (by decide +kernel) (by decide +kernel)
set_option maxRecDepth 20000 in
theorem gX0_rest_X0_fillTotals : GoodIn wsX0_rest (wsV RX0 138 RX0 yX0_fillTotals wsX0_fillTotals) := goodIn_app (goodIn_of _ (by decide +kernel)) ggX0_rest_X0_fillTotals
set_option maxRecDepth 20000 in
theorem ggX0_rest_X0_sumOf : GoodIn wsX0_rest wsX0_sumOf := goodIn_r _ [89] (by decide +kernel) (by decide +kernel)
set_option maxRecDepth 20000 in
theorem gX0_rest_X0_sumOf : GoodIn wsX0_rest (va_wsS RX0 145 yX0_sumOf wsX0_sumOf) := goodIn_app (goodIn_of _ (by decide +kernel)) ggX0_rest_X0_sumOf
set_option maxRecDepth 20000 in
theorem ggX0_rest_X0_shareOf : GoodIn wsX0_rest wsX0_shareOf := goodIn_r _ [93, 8, 2, 1, 94, 95, 96, 6, 97, 98, 99, 100, 101, 102, 103, 104, 105, 106, 107, 108, 109, 110, 111, 112, 113] (by decide +kernel) (by decide +kernel)
set_option maxRecDepth 20000 in
theorem gX0_rest_X0_shareOf : GoodIn wsX0_rest (wsV RX0 142 RX0 yX0_shareOf wsX0_shareOf) := goodIn_app (goodIn_of _ (by decide +kernel)) ggX0_rest_X0_shareOf
theorem dX0_rest_0 : decode cX0_rest 0 = .ok (.aload_n 0, 1) := by decide +kernel
theorem dX0_rest_1 : decode cX0_rest 1 = .ok (.invokevirtual 138, 3) := by decide +kernel
theorem dX0_rest_4 : decode cX0_rest 4 = .ok (.aload_n 0, 1) := by decide +kernel
theorem dX0_rest_5 : decode cX0_rest 5 = .ok (.getfield 32, 3) := by decide +kernel
theorem dX0_rest_8 : decode cX0_rest 8 = .ok (.invokestatic 145, 3) := by decide +kernel
theorem dX0_rest_11 : decode cX0_rest 11 = .ok (.istore_n 1, 1) := by decide +kernel
theorem dX0_rest_12 : decode cX0_rest 12 = .ok (.iconst 0, 1) := by decide +kernel
theorem dX0_rest_13 : decode cX0_rest 13 = .ok (.istore_n 2, 1) := by decide +kernel
theorem dX0_rest_14 : decode cX0_rest 14 = .ok (.iload_n 2, 1) := by decide +kernel
theorem dX0_rest_15 : decode cX0_rest 15 = .ok (.aload_n 0, 1) := by decide +kernel
theorem dX0_rest_16 : decode cX0_rest 16 = .ok (.getfield 7, 3) := by decide +kernel
theorem dX0_rest_19 : decode cX0_rest 19 = .ok (.if_icmp .ge 17, 3) := by decide +kernel
theorem dX0_rest_22 : decode cX0_rest 22 = .ok (.iload_n 1, 1) := by decide +kernel
theorem dX0_rest_23 : decode cX0_rest 23 = .ok (.aload_n 0, 1) := by decide +kernel
theorem dX0_rest_24 : decode cX0_rest 24 = .ok (.iload_n 2, 1) := by decide +kernel
theorem dX0_rest_25 : decode cX0_rest 25 = .ok (.invokevirtual 142, 3) := by decide +kernel
theorem dX0_rest_28 : decode cX0_rest 28 = .ok (.isub, 1) := by decide +kernel
theorem dX0_rest_29 : decode cX0_rest 29 = .ok (.istore_n 1, 1) := by decide +kernel
theorem dX0_rest_30 : decode cX0_rest 30 = .ok (.iinc 2 1, 3) := by decide +kernel
theorem dX0_rest_33 : decode cX0_rest 33 = .ok (.goto (-19), 3) := by decide +kernel
theorem dX0_rest_36 : decode cX0_rest 36 = .ok (.iload_n 1, 1) := by decide +kernel
theorem dX0_rest_37 : decode cX0_rest 37 = .ok (.ireturn, 1) := by decide +kernel
set_option maxRecDepth 20000 in
theorem ggX0_work_X0_isWork : GoodIn wsX0_work wsX0_isWork := goodIn_r _ [5, 6, 7, 4, 8] (by decide +kernel) (by decide +kernel)
set_option maxRecDepth 20000 in
theorem gX0_work_X0_isWork : GoodIn wsX0_work (va_wsS RX0 149 yX0_isWork wsX0_isWork) := goodIn_app (goodIn_of _ (by decide +kernel)) ggX0_work_X0_isWork
set_option maxRecDepth 20000 in
theorem ggX0_work_X0_isWithin : GoodIn wsX0_work wsX0_isWithin := goodIn_r _ [8] (by decide +kernel) (by decide +kernel)
set_option maxRecDepth 20000 in
theorem gX0_work_X0_isWithin : GoodIn wsX0_work (va_wsS RX0 68 yX0_isWithin wsX0_isWithin) := goodIn_app (goodIn_of _ (by decide +kernel)) ggX0_work_X0_isWithin
set_option maxRecDepth 20000 in
theorem ggX0_work_X0_replace : GoodIn wsX0_work wsX0_replace := goodIn_r _ [11] (by decide +kernel) (by decide +kernel)
set_option maxRecDepth 20000 in
theorem gX0_work_X0_replace : GoodIn wsX0_work (va_wsS RX0 86 yX0_replace wsX0_replace) := goodIn_app (goodIn_of _ (by decide +kernel)) ggX0_work_X0_replace
theorem dX0_work_0 : decode cX0_work 0 = .ok (.iload_n 1, 1) := by decide +kernel
theorem dX0_work_1 : decode cX0_work 1 = .ok (.invokestatic 149, 3) := by decide +kernel
theorem dX0_work_4 : decode cX0_work 4 = .ok (.ifCond .ne 6, 3) := by decide +kernel
theorem dX0_work_7 : decode cX0_work 7 = .ok (.bipush (-101), 2) := by decide +kernel
theorem dX0_work_9 : decode cX0_work 9 = .ok (.ireturn, 1) := by decide +kernel
theorem dX0_work_10 : decode cX0_work 10 = .ok (.iload_n 2, 1) := by decide +kernel
theorem dX0_work_11 : decode cX0_work 11 = .ok (.iconst 1, 1) := by decide +kernel
theorem dX0_work_12 : decode cX0_work 12 = .ok (.bipush 60, 2) := by decide +kernel
theorem dX0_work_14 : decode cX0_work 14 = .ok (.invokestatic 68, 3) := by decide +kernel
theorem dX0_work_17 : decode cX0_work 17 = .ok (.ifCond .ne 6, 3) := by decide +kernel
theorem dX0_work_20 : decode cX0_work 20 = .ok (.bipush (-102), 2) := by decide +kernel
theorem dX0_work_22 : decode cX0_work 22 = .ok (.ireturn, 1) := by decide +kernel
theorem dX0_work_23 : decode cX0_work 23 = .ok (.aload_n 0, 1) := by decide +kernel
theorem dX0_work_24 : decode cX0_work 24 = .ok (.getfield 35, 3) := by decide +kernel
theorem dX0_work_27 : decode cX0_work 27 = .ok (.iload_n 1, 1) := by decide +kernel
theorem dX0_work_28 : decode cX0_work 28 = .ok (.iload_n 2, 1) := by decide +kernel
theorem dX0_work_29 : decode cX0_work 29 = .ok (.invokestatic 86, 3) := by decide +kernel
theorem dX0_work_32 : decode cX0_work 32 = .ok (.ireturn, 1) := by decide +kernel
set_option maxRecDepth 20000 in
theorem ggX0_programme_X0_isPlayer : GoodIn wsX0_programme wsX0_isPlayer := goodIn_r _ [7, 8, 9, 10, 6, 11, 15, 16, 17, 18, 19, 20, 21, 22, 23, 24, 25, 26, 27, 28, 29, 30] (by decide +kernel) (by decide +kernel)
set_option maxRecDepth 20000 in
theorem gX0_programme_X0_isPlayer : GoodIn wsX0_programme (wsV RX0 79 RX0 yX0_isPlayer wsX0_isPlayer) := goodIn_app (goodIn_of _ (by decide +kernel)) ggX0_programme_X0_isPlayer
set_option maxRecDepth 20000 in
theorem ggX0_programme_X0_isWithin : GoodIn wsX0_programme wsX0_isWithin := goodIn_r _ [11] (by decide +kernel) (by decide +kernel)
set_option maxRecDepth 20000 in
theorem gX0_programme_X0_isWithin : GoodIn wsX0_programme (va_wsS RX0 68 yX0_isWithin wsX0_isWithin) := goodIn_app (goodIn_of _ (by decide +kernel)) ggX0_programme_X0_isWithin
set_option maxRecDepth 20000 in
theorem ggX0_programme_X0_programmeCellOf : GoodIn wsX0_programme wsX0_programmeCellOf := goodIn_r _ [14] (by decide +kernel) (by decide +kernel)
set_option maxRecDepth 20000 in
theorem gX0_programme_X0_programmeCellOf : GoodIn wsX0_programme (va_wsS RX0 152 yX0_programmeCellOf wsX0_programmeCellOf) := goodIn_app (goodIn_of _ (by decide +kernel)) ggX0_programme_X0_programmeCellOf
theorem dX0_programme_0 : decode cX0_programme 0 = .ok (.aload_n 0, 1) := by decide +kernel
theorem dX0_programme_1 : decode cX0_programme 1 = .ok (.iload_n 1, 1) := by decide +kernel
theorem dX0_programme_2 : decode cX0_programme 2 = .ok (.invokevirtual 79, 3) := by decide +kernel
theorem dX0_programme_5 : decode cX0_programme 5 = .ok (.ifCond .ne 6, 3) := by decide +kernel
theorem dX0_programme_8 : decode cX0_programme 8 = .ok (.bipush (-101), 2) := by decide +kernel
theorem dX0_programme_10 : decode cX0_programme 10 = .ok (.ireturn, 1) := by decide +kernel
theorem dX0_programme_11 : decode cX0_programme 11 = .ok (.iload_n 2, 1) := by decide +kernel
theorem dX0_programme_12 : decode cX0_programme 12 = .ok (.iconst 1, 1) := by decide +kernel
theorem dX0_programme_13 : decode cX0_programme 13 = .ok (.sipush 4095, 3) := by decide +kernel
theorem dX0_programme_16 : decode cX0_programme 16 = .ok (.invokestatic 68, 3) := by decide +kernel
theorem dX0_programme_19 : decode cX0_programme 19 = .ok (.ifCond .ne 6, 3) := by decide +kernel
theorem dX0_programme_22 : decode cX0_programme 22 = .ok (.bipush (-102), 2) := by decide +kernel
theorem dX0_programme_24 : decode cX0_programme 24 = .ok (.ireturn, 1) := by decide +kernel
theorem dX0_programme_25 : decode cX0_programme 25 = .ok (.aload_n 0, 1) := by decide +kernel
theorem dX0_programme_26 : decode cX0_programme 26 = .ok (.getfield 41, 3) := by decide +kernel
theorem dX0_programme_29 : decode cX0_programme 29 = .ok (.iload_n 1, 1) := by decide +kernel
theorem dX0_programme_30 : decode cX0_programme 30 = .ok (.iaload, 1) := by decide +kernel
theorem dX0_programme_31 : decode cX0_programme 31 = .ok (.iconst 3, 1) := by decide +kernel
theorem dX0_programme_32 : decode cX0_programme 32 = .ok (.if_icmp .lt 6, 3) := by decide +kernel
theorem dX0_programme_35 : decode cX0_programme 35 = .ok (.bipush (-104), 2) := by decide +kernel
theorem dX0_programme_37 : decode cX0_programme 37 = .ok (.ireturn, 1) := by decide +kernel
theorem dX0_programme_38 : decode cX0_programme 38 = .ok (.aload_n 0, 1) := by decide +kernel
theorem dX0_programme_39 : decode cX0_programme 39 = .ok (.getfield 38, 3) := by decide +kernel
theorem dX0_programme_42 : decode cX0_programme 42 = .ok (.iload_n 1, 1) := by decide +kernel
theorem dX0_programme_43 : decode cX0_programme 43 = .ok (.aload_n 0, 1) := by decide +kernel
theorem dX0_programme_44 : decode cX0_programme 44 = .ok (.getfield 41, 3) := by decide +kernel
theorem dX0_programme_47 : decode cX0_programme 47 = .ok (.iload_n 1, 1) := by decide +kernel
theorem dX0_programme_48 : decode cX0_programme 48 = .ok (.iaload, 1) := by decide +kernel
theorem dX0_programme_49 : decode cX0_programme 49 = .ok (.invokestatic 152, 3) := by decide +kernel
theorem dX0_programme_52 : decode cX0_programme 52 = .ok (.iload_n 2, 1) := by decide +kernel
theorem dX0_programme_53 : decode cX0_programme 53 = .ok (.iastore, 1) := by decide +kernel
theorem dX0_programme_54 : decode cX0_programme 54 = .ok (.aload_n 0, 1) := by decide +kernel
theorem dX0_programme_55 : decode cX0_programme 55 = .ok (.getfield 41, 3) := by decide +kernel
theorem dX0_programme_58 : decode cX0_programme 58 = .ok (.iload_n 1, 1) := by decide +kernel
theorem dX0_programme_59 : decode cX0_programme 59 = .ok (.dup2, 1) := by decide +kernel
theorem dX0_programme_60 : decode cX0_programme 60 = .ok (.iaload, 1) := by decide +kernel
theorem dX0_programme_61 : decode cX0_programme 61 = .ok (.iconst 1, 1) := by decide +kernel
theorem dX0_programme_62 : decode cX0_programme 62 = .ok (.iadd, 1) := by decide +kernel
theorem dX0_programme_63 : decode cX0_programme 63 = .ok (.iastore, 1) := by decide +kernel
theorem dX0_programme_64 : decode cX0_programme 64 = .ok (.aload_n 0, 1) := by decide +kernel
theorem dX0_programme_65 : decode cX0_programme 65 = .ok (.getfield 41, 3) := by decide +kernel
theorem dX0_programme_68 : decode cX0_programme 68 = .ok (.iload_n 1, 1) := by decide +kernel
theorem dX0_programme_69 : decode cX0_programme 69 = .ok (.iaload, 1) := by decide +kernel
theorem dX0_programme_70 : decode cX0_programme 70 = .ok (.ireturn, 1) := by decide +kernel
set_option maxRecDepth 20000 in
theorem ggX0_plan_X0_isWithin : GoodIn wsX0_plan wsX0_isWithin := goodIn_r _ [5] (by decide +kernel) (by decide +kernel)
set_option maxRecDepth 20000 in
theorem gX0_plan_X0_isWithin : GoodIn wsX0_plan (va_wsS RX0 68 yX0_isWithin wsX0_isWithin) := goodIn_app (goodIn_of _ (by decide +kernel)) ggX0_plan_X0_isWithin
set_option maxRecDepth 20000 in
theorem ggX0_plan_J7_fill_53178 : GoodIn wsX0_plan wsJ7_fill_53178 := goodIn_r _ [9] (by decide +kernel) (by decide +kernel)
set_option maxRecDepth 20000 in
theorem gX0_plan_J7_fill_53178 : GoodIn wsX0_plan (va_wsS RX0 59 yJ7_fill_53178 wsJ7_fill_53178) := goodIn_app (goodIn_of _ (by decide +kernel)) ggX0_plan_J7_fill_53178
set_option maxRecDepth 20000 in
theorem ggX0_plan_X0_fillFitting : GoodIn wsX0_plan wsX0_fillFitting := goodIn_r _ [13, 14, 15, 16, 17, 18, 19, 4, 20, 21, 22, 23, 24, 25, 2, 3, 5, 34, 35, 36, 37, 38, 39, 40, 41, 42, 43, 44, 45, 46, 47, 48, 49] (by decide +kernel) (by decide +kernel)
set_option maxRecDepth 20000 in
theorem gX0_plan_X0_fillFitting : GoodIn wsX0_plan (wsV RX0 155 RX0 yX0_fillFitting wsX0_fillFitting) := goodIn_app (goodIn_of _ (by decide +kernel)) ggX0_plan_X0_fillFitting
set_option maxRecDepth 20000 in
theorem ggX0_plan_X0_choosesFrom : GoodIn wsX0_plan wsX0_choosesFrom := goodIn_r _ [29, 14, 15, 30, 31, 32, 4, 33, 17, 1, 18, 19, 20, 26, 27, 28, 34, 35, 36, 37, 38, 39, 40, 41, 42, 43, 44, 45, 46, 47, 48, 49] (by decide +kernel) (by decide +kernel)
set_option maxRecDepth 20000 in
theorem gX0_plan_X0_choosesFrom : GoodIn wsX0_plan (wsV RX0 158 RX0 yX0_choosesFrom wsX0_choosesFrom) := goodIn_app (goodIn_of _ (by decide +kernel)) ggX0_plan_X0_choosesFrom
theorem dX0_plan_0 : decode cX0_plan 0 = .ok (.iload_n 1, 1) := by decide +kernel
theorem dX0_plan_1 : decode cX0_plan 1 = .ok (.iconst 0, 1) := by decide +kernel
theorem dX0_plan_2 : decode cX0_plan 2 = .ok (.sipush 720, 3) := by decide +kernel
theorem dX0_plan_5 : decode cX0_plan 5 = .ok (.invokestatic 68, 3) := by decide +kernel
theorem dX0_plan_8 : decode cX0_plan 8 = .ok (.ifCond .eq 23, 3) := by decide +kernel
theorem dX0_plan_11 : decode cX0_plan 11 = .ok (.iload_n 2, 1) := by decide +kernel
theorem dX0_plan_12 : decode cX0_plan 12 = .ok (.iload_n 1, 1) := by decide +kernel
theorem dX0_plan_13 : decode cX0_plan 13 = .ok (.sipush 720, 3) := by decide +kernel
theorem dX0_plan_16 : decode cX0_plan 16 = .ok (.invokestatic 68, 3) := by decide +kernel
theorem dX0_plan_19 : decode cX0_plan 19 = .ok (.ifCond .eq 12, 3) := by decide +kernel
theorem dX0_plan_22 : decode cX0_plan 22 = .ok (.iload_n 3, 1) := by decide +kernel
theorem dX0_plan_23 : decode cX0_plan 23 = .ok (.iconst 1, 1) := by decide +kernel
theorem dX0_plan_24 : decode cX0_plan 24 = .ok (.iconst 3, 1) := by decide +kernel
theorem dX0_plan_25 : decode cX0_plan 25 = .ok (.invokestatic 68, 3) := by decide +kernel
theorem dX0_plan_28 : decode cX0_plan 28 = .ok (.ifCond .ne 6, 3) := by decide +kernel
theorem dX0_plan_31 : decode cX0_plan 31 = .ok (.bipush (-102), 2) := by decide +kernel
theorem dX0_plan_33 : decode cX0_plan 33 = .ok (.ireturn, 1) := by decide +kernel
theorem dX0_plan_34 : decode cX0_plan 34 = .ok (.aload_n 0, 1) := by decide +kernel
theorem dX0_plan_35 : decode cX0_plan 35 = .ok (.getfield 44, 3) := by decide +kernel
theorem dX0_plan_38 : decode cX0_plan 38 = .ok (.iconst (-1), 1) := by decide +kernel
theorem dX0_plan_39 : decode cX0_plan 39 = .ok (.invokestatic 59, 3) := by decide +kernel
theorem dX0_plan_42 : decode cX0_plan 42 = .ok (.aload_n 0, 1) := by decide +kernel
theorem dX0_plan_43 : decode cX0_plan 43 = .ok (.iload_n 1, 1) := by decide +kernel
theorem dX0_plan_44 : decode cX0_plan 44 = .ok (.iload_n 2, 1) := by decide +kernel
theorem dX0_plan_45 : decode cX0_plan 45 = .ok (.invokevirtual 155, 3) := by decide +kernel
theorem dX0_plan_48 : decode cX0_plan 48 = .ok (.iload_n 3, 1) := by decide +kernel
theorem dX0_plan_49 : decode cX0_plan 49 = .ok (.iconst 3, 1) := by decide +kernel
theorem dX0_plan_50 : decode cX0_plan 50 = .ok (.if_icmp .ge 9, 3) := by decide +kernel
theorem dX0_plan_53 : decode cX0_plan 53 = .ok (.sipush 4095, 3) := by decide +kernel
theorem dX0_plan_56 : decode cX0_plan 56 = .ok (.goto 4, 3) := by decide +kernel
theorem dX0_plan_59 : decode cX0_plan 59 = .ok (.iconst 0, 1) := by decide +kernel
theorem dX0_plan_60 : decode cX0_plan 60 = .ok (.istore 4, 2) := by decide +kernel
theorem dX0_plan_62 : decode cX0_plan 62 = .ok (.iload_n 3, 1) := by decide +kernel
theorem dX0_plan_63 : decode cX0_plan 63 = .ok (.iconst 2, 1) := by decide +kernel
theorem dX0_plan_64 : decode cX0_plan 64 = .ok (.if_icmp .ge 9, 3) := by decide +kernel
theorem dX0_plan_67 : decode cX0_plan 67 = .ok (.sipush 4095, 3) := by decide +kernel
theorem dX0_plan_70 : decode cX0_plan 70 = .ok (.goto 4, 3) := by decide +kernel
theorem dX0_plan_73 : decode cX0_plan 73 = .ok (.iconst 0, 1) := by decide +kernel
theorem dX0_plan_74 : decode cX0_plan 74 = .ok (.istore 5, 2) := by decide +kernel
theorem dX0_plan_76 : decode cX0_plan 76 = .ok (.aload_n 0, 1) := by decide +kernel
theorem dX0_plan_77 : decode cX0_plan 77 = .ok (.iconst 0, 1) := by decide +kernel
theorem dX0_plan_78 : decode cX0_plan 78 = .ok (.iload 4, 2) := by decide +kernel
theorem dX0_plan_80 : decode cX0_plan 80 = .ok (.iload 5, 2) := by decide +kernel
theorem dX0_plan_82 : decode cX0_plan 82 = .ok (.iconst 0, 1) := by decide +kernel
theorem dX0_plan_83 : decode cX0_plan 83 = .ok (.invokevirtual 158, 3) := by decide +kernel
theorem dX0_plan_86 : decode cX0_plan 86 = .ok (.ifCond .eq 7, 3) := by decide +kernel
theorem dX0_plan_89 : decode cX0_plan 89 = .ok (.iconst 1, 1) := by decide +kernel
theorem dX0_plan_90 : decode cX0_plan 90 = .ok (.goto 4, 3) := by decide +kernel
theorem dX0_plan_93 : decode cX0_plan 93 = .ok (.iconst 0, 1) := by decide +kernel
theorem dX0_plan_94 : decode cX0_plan 94 = .ok (.ireturn, 1) := by decide +kernel
set_option maxRecDepth 20000 in
theorem ggX0_chosen_X0_isPlayer : GoodIn wsX0_chosen wsX0_isPlayer := goodIn_r _ [6, 7, 8, 9, 5, 10, 11, 12, 13, 14, 15, 16, 17, 18, 19, 20, 21, 22, 23, 24, 25, 26] (by decide +kernel) (by decide +kernel)
set_option maxRecDepth 20000 in
theorem gX0_chosen_X0_isPlayer : GoodIn wsX0_chosen (wsV RX0 79 RX0 yX0_isPlayer wsX0_isPlayer) := goodIn_app (goodIn_of _ (by decide +kernel)) ggX0_chosen_X0_isPlayer
theorem dX0_chosen_0 : decode cX0_chosen 0 = .ok (.aload_n 0, 1) := by decide +kernel
theorem dX0_chosen_1 : decode cX0_chosen 1 = .ok (.iload_n 1, 1) := by decide +kernel
theorem dX0_chosen_2 : decode cX0_chosen 2 = .ok (.invokevirtual 79, 3) := by decide +kernel
theorem dX0_chosen_5 : decode cX0_chosen 5 = .ok (.ifCond .ne 6, 3) := by decide +kernel
theorem dX0_chosen_8 : decode cX0_chosen 8 = .ok (.bipush (-101), 2) := by decide +kernel
theorem dX0_chosen_10 : decode cX0_chosen 10 = .ok (.ireturn, 1) := by decide +kernel
theorem dX0_chosen_11 : decode cX0_chosen 11 = .ok (.aload_n 0, 1) := by decide +kernel
theorem dX0_chosen_12 : decode cX0_chosen 12 = .ok (.getfield 44, 3) := by decide +kernel
theorem dX0_chosen_15 : decode cX0_chosen 15 = .ok (.iload_n 1, 1) := by decide +kernel
theorem dX0_chosen_16 : decode cX0_chosen 16 = .ok (.iaload, 1) := by decide +kernel
theorem dX0_chosen_17 : decode cX0_chosen 17 = .ok (.ireturn, 1) := by decide +kernel
set_option maxRecDepth 20000 in
theorem ggX0_heard_X0_isWork : GoodIn wsX0_heard wsX0_isWork := goodIn_r _ [7, 8, 9, 6, 10] (by decide +kernel) (by decide +kernel)
set_option maxRecDepth 20000 in
theorem gX0_heard_X0_isWork : GoodIn wsX0_heard (va_wsS RX0 149 yX0_isWork wsX0_isWork) := goodIn_app (goodIn_of _ (by decide +kernel)) ggX0_heard_X0_isWork
set_option maxRecDepth 20000 in
theorem ggX0_heard_X0_programmeCellOf : GoodIn wsX0_heard wsX0_programmeCellOf := goodIn_r _ [13] (by decide +kernel) (by decide +kernel)
set_option maxRecDepth 20000 in
theorem gX0_heard_X0_programmeCellOf : GoodIn wsX0_heard (va_wsS RX0 152 yX0_programmeCellOf wsX0_programmeCellOf) := goodIn_app (goodIn_of _ (by decide +kernel)) ggX0_heard_X0_programmeCellOf
theorem dX0_heard_0 : decode cX0_heard 0 = .ok (.iload_n 1, 1) := by decide +kernel
theorem dX0_heard_1 : decode cX0_heard 1 = .ok (.invokestatic 149, 3) := by decide +kernel
theorem dX0_heard_4 : decode cX0_heard 4 = .ok (.ifCond .ne 6, 3) := by decide +kernel
theorem dX0_heard_7 : decode cX0_heard 7 = .ok (.bipush (-101), 2) := by decide +kernel
theorem dX0_heard_9 : decode cX0_heard 9 = .ok (.ireturn, 1) := by decide +kernel
theorem dX0_heard_10 : decode cX0_heard 10 = .ok (.iconst 0, 1) := by decide +kernel
theorem dX0_heard_11 : decode cX0_heard 11 = .ok (.istore_n 2, 1) := by decide +kernel
theorem dX0_heard_12 : decode cX0_heard 12 = .ok (.iconst 0, 1) := by decide +kernel
theorem dX0_heard_13 : decode cX0_heard 13 = .ok (.istore_n 3, 1) := by decide +kernel
theorem dX0_heard_14 : decode cX0_heard 14 = .ok (.iload_n 3, 1) := by decide +kernel
theorem dX0_heard_15 : decode cX0_heard 15 = .ok (.aload_n 0, 1) := by decide +kernel
theorem dX0_heard_16 : decode cX0_heard 16 = .ok (.getfield 7, 3) := by decide +kernel
theorem dX0_heard_19 : decode cX0_heard 19 = .ok (.if_icmp .ge 41, 3) := by decide +kernel
theorem dX0_heard_22 : decode cX0_heard 22 = .ok (.aload_n 0, 1) := by decide +kernel
theorem dX0_heard_23 : decode cX0_heard 23 = .ok (.getfield 44, 3) := by decide +kernel
theorem dX0_heard_26 : decode cX0_heard 26 = .ok (.iload_n 3, 1) := by decide +kernel
theorem dX0_heard_27 : decode cX0_heard 27 = .ok (.iaload, 1) := by decide +kernel
theorem dX0_heard_28 : decode cX0_heard 28 = .ok (.iconst (-1), 1) := by decide +kernel
theorem dX0_heard_29 : decode cX0_heard 29 = .ok (.if_icmp .eq 25, 3) := by decide +kernel
theorem dX0_heard_32 : decode cX0_heard 32 = .ok (.iload_n 2, 1) := by decide +kernel
theorem dX0_heard_33 : decode cX0_heard 33 = .ok (.aload_n 0, 1) := by decide +kernel
theorem dX0_heard_34 : decode cX0_heard 34 = .ok (.getfield 38, 3) := by decide +kernel
theorem dX0_heard_37 : decode cX0_heard 37 = .ok (.iload_n 3, 1) := by decide +kernel
theorem dX0_heard_38 : decode cX0_heard 38 = .ok (.aload_n 0, 1) := by decide +kernel
theorem dX0_heard_39 : decode cX0_heard 39 = .ok (.getfield 44, 3) := by decide +kernel
theorem dX0_heard_42 : decode cX0_heard 42 = .ok (.iload_n 3, 1) := by decide +kernel
theorem dX0_heard_43 : decode cX0_heard 43 = .ok (.iaload, 1) := by decide +kernel
theorem dX0_heard_44 : decode cX0_heard 44 = .ok (.invokestatic 152, 3) := by decide +kernel
theorem dX0_heard_47 : decode cX0_heard 47 = .ok (.iaload, 1) := by decide +kernel
theorem dX0_heard_48 : decode cX0_heard 48 = .ok (.iload_n 1, 1) := by decide +kernel
theorem dX0_heard_49 : decode cX0_heard 49 = .ok (.ishr, 1) := by decide +kernel
theorem dX0_heard_50 : decode cX0_heard 50 = .ok (.iconst 1, 1) := by decide +kernel
theorem dX0_heard_51 : decode cX0_heard 51 = .ok (.iand, 1) := by decide +kernel
theorem dX0_heard_52 : decode cX0_heard 52 = .ok (.iadd, 1) := by decide +kernel
theorem dX0_heard_53 : decode cX0_heard 53 = .ok (.istore_n 2, 1) := by decide +kernel
theorem dX0_heard_54 : decode cX0_heard 54 = .ok (.iinc 3 1, 3) := by decide +kernel
theorem dX0_heard_57 : decode cX0_heard 57 = .ok (.goto (-43), 3) := by decide +kernel
theorem dX0_heard_60 : decode cX0_heard 60 = .ok (.iload_n 2, 1) := by decide +kernel
theorem dX0_heard_61 : decode cX0_heard 61 = .ok (.ireturn, 1) := by decide +kernel
set_option maxRecDepth 20000 in
theorem ggX0_drawn_X0_isPlayer : GoodIn wsX0_drawn wsX0_isPlayer := goodIn_r _ [6, 1, 7, 8, 5, 9, 16, 17, 18, 19, 20, 21, 22, 23, 24, 25, 26, 27, 28, 29, 30, 31] (by decide +kernel) (by decide +kernel)
set_option maxRecDepth 20000 in
theorem gX0_drawn_X0_isPlayer : GoodIn wsX0_drawn (wsV RX0 79 RX0 yX0_isPlayer wsX0_isPlayer) := goodIn_app (goodIn_of _ (by decide +kernel)) ggX0_drawn_X0_isPlayer
set_option maxRecDepth 20000 in
theorem ggX0_drawn_X0_factorial : GoodIn wsX0_drawn wsX0_factorial := goodIn_r _ [12] (by decide +kernel) (by decide +kernel)
set_option maxRecDepth 20000 in
theorem gX0_drawn_X0_factorial : GoodIn wsX0_drawn (va_wsS RX0 162 yX0_factorial wsX0_factorial) := goodIn_app (goodIn_of _ (by decide +kernel)) ggX0_drawn_X0_factorial
set_option maxRecDepth 20000 in
theorem ggX0_drawn_X0_isWithin : GoodIn wsX0_drawn wsX0_isWithin := goodIn_r _ [9] (by decide +kernel) (by decide +kernel)
set_option maxRecDepth 20000 in
theorem gX0_drawn_X0_isWithin : GoodIn wsX0_drawn (va_wsS RX0 68 yX0_isWithin wsX0_isWithin) := goodIn_app (goodIn_of _ (by decide +kernel)) ggX0_drawn_X0_isWithin
set_option maxRecDepth 20000 in
theorem ggX0_drawn_X0_bitOf : GoodIn wsX0_drawn wsX0_bitOf := goodIn_r _ [15] (by decide +kernel) (by decide +kernel)
set_option maxRecDepth 20000 in
theorem gX0_drawn_X0_bitOf : GoodIn wsX0_drawn (va_wsS RX0 165 yX0_bitOf wsX0_bitOf) := goodIn_app (goodIn_of _ (by decide +kernel)) ggX0_drawn_X0_bitOf
theorem dX0_drawn_0 : decode cX0_drawn 0 = .ok (.aload_n 0, 1) := by decide +kernel
theorem dX0_drawn_1 : decode cX0_drawn 1 = .ok (.iload_n 2, 1) := by decide +kernel
theorem dX0_drawn_2 : decode cX0_drawn 2 = .ok (.invokevirtual 79, 3) := by decide +kernel
theorem dX0_drawn_5 : decode cX0_drawn 5 = .ok (.ifCond .ne 6, 3) := by decide +kernel
theorem dX0_drawn_8 : decode cX0_drawn 8 = .ok (.bipush (-101), 2) := by decide +kernel
theorem dX0_drawn_10 : decode cX0_drawn 10 = .ok (.ireturn, 1) := by decide +kernel
theorem dX0_drawn_11 : decode cX0_drawn 11 = .ok (.iload_n 1, 1) := by decide +kernel
theorem dX0_drawn_12 : decode cX0_drawn 12 = .ok (.iconst 0, 1) := by decide +kernel
theorem dX0_drawn_13 : decode cX0_drawn 13 = .ok (.aload_n 0, 1) := by decide +kernel
theorem dX0_drawn_14 : decode cX0_drawn 14 = .ok (.getfield 7, 3) := by decide +kernel
theorem dX0_drawn_17 : decode cX0_drawn 17 = .ok (.invokestatic 162, 3) := by decide +kernel
theorem dX0_drawn_20 : decode cX0_drawn 20 = .ok (.iconst 1, 1) := by decide +kernel
theorem dX0_drawn_21 : decode cX0_drawn 21 = .ok (.isub, 1) := by decide +kernel
theorem dX0_drawn_22 : decode cX0_drawn 22 = .ok (.invokestatic 68, 3) := by decide +kernel
theorem dX0_drawn_25 : decode cX0_drawn 25 = .ok (.ifCond .ne 6, 3) := by decide +kernel
theorem dX0_drawn_28 : decode cX0_drawn 28 = .ok (.bipush (-102), 2) := by decide +kernel
theorem dX0_drawn_30 : decode cX0_drawn 30 = .ok (.ireturn, 1) := by decide +kernel
theorem dX0_drawn_31 : decode cX0_drawn 31 = .ok (.iconst 1, 1) := by decide +kernel
theorem dX0_drawn_32 : decode cX0_drawn 32 = .ok (.aload_n 0, 1) := by decide +kernel
theorem dX0_drawn_33 : decode cX0_drawn 33 = .ok (.getfield 7, 3) := by decide +kernel
theorem dX0_drawn_36 : decode cX0_drawn 36 = .ok (.ishl, 1) := by decide +kernel
theorem dX0_drawn_37 : decode cX0_drawn 37 = .ok (.iconst 1, 1) := by decide +kernel
theorem dX0_drawn_38 : decode cX0_drawn 38 = .ok (.isub, 1) := by decide +kernel
theorem dX0_drawn_39 : decode cX0_drawn 39 = .ok (.istore_n 3, 1) := by decide +kernel
theorem dX0_drawn_40 : decode cX0_drawn 40 = .ok (.iload_n 1, 1) := by decide +kernel
theorem dX0_drawn_41 : decode cX0_drawn 41 = .ok (.istore 4, 2) := by decide +kernel
theorem dX0_drawn_43 : decode cX0_drawn 43 = .ok (.iconst (-1), 1) := by decide +kernel
theorem dX0_drawn_44 : decode cX0_drawn 44 = .ok (.istore 5, 2) := by decide +kernel
theorem dX0_drawn_46 : decode cX0_drawn 46 = .ok (.iconst 0, 1) := by decide +kernel
theorem dX0_drawn_47 : decode cX0_drawn 47 = .ok (.istore 6, 2) := by decide +kernel
theorem dX0_drawn_49 : decode cX0_drawn 49 = .ok (.iload 6, 2) := by decide +kernel
theorem dX0_drawn_51 : decode cX0_drawn 51 = .ok (.iload_n 2, 1) := by decide +kernel
theorem dX0_drawn_52 : decode cX0_drawn 52 = .ok (.if_icmp .gt 58, 3) := by decide +kernel
theorem dX0_drawn_55 : decode cX0_drawn 55 = .ok (.aload_n 0, 1) := by decide +kernel
theorem dX0_drawn_56 : decode cX0_drawn 56 = .ok (.getfield 7, 3) := by decide +kernel
theorem dX0_drawn_59 : decode cX0_drawn 59 = .ok (.iconst 1, 1) := by decide +kernel
theorem dX0_drawn_60 : decode cX0_drawn 60 = .ok (.isub, 1) := by decide +kernel
theorem dX0_drawn_61 : decode cX0_drawn 61 = .ok (.iload 6, 2) := by decide +kernel
theorem dX0_drawn_63 : decode cX0_drawn 63 = .ok (.isub, 1) := by decide +kernel
theorem dX0_drawn_64 : decode cX0_drawn 64 = .ok (.invokestatic 162, 3) := by decide +kernel
theorem dX0_drawn_67 : decode cX0_drawn 67 = .ok (.istore 7, 2) := by decide +kernel
theorem dX0_drawn_69 : decode cX0_drawn 69 = .ok (.iload 7, 2) := by decide +kernel
theorem dX0_drawn_71 : decode cX0_drawn 71 = .ok (.iconst 1, 1) := by decide +kernel
theorem dX0_drawn_72 : decode cX0_drawn 72 = .ok (.if_icmp .ge 5, 3) := by decide +kernel
theorem dX0_drawn_75 : decode cX0_drawn 75 = .ok (.iconst (-1), 1) := by decide +kernel
theorem dX0_drawn_76 : decode cX0_drawn 76 = .ok (.ireturn, 1) := by decide +kernel
theorem dX0_drawn_77 : decode cX0_drawn 77 = .ok (.iload_n 3, 1) := by decide +kernel
theorem dX0_drawn_78 : decode cX0_drawn 78 = .ok (.iload 4, 2) := by decide +kernel
theorem dX0_drawn_80 : decode cX0_drawn 80 = .ok (.iload 7, 2) := by decide +kernel
theorem dX0_drawn_82 : decode cX0_drawn 82 = .ok (.idiv, 1) := by decide +kernel
theorem dX0_drawn_83 : decode cX0_drawn 83 = .ok (.invokestatic 165, 3) := by decide +kernel
theorem dX0_drawn_86 : decode cX0_drawn 86 = .ok (.istore 5, 2) := by decide +kernel
theorem dX0_drawn_88 : decode cX0_drawn 88 = .ok (.iload 4, 2) := by decide +kernel
theorem dX0_drawn_90 : decode cX0_drawn 90 = .ok (.iload 7, 2) := by decide +kernel
theorem dX0_drawn_92 : decode cX0_drawn 92 = .ok (.irem, 1) := by decide +kernel
theorem dX0_drawn_93 : decode cX0_drawn 93 = .ok (.istore 4, 2) := by decide +kernel
theorem dX0_drawn_95 : decode cX0_drawn 95 = .ok (.iload_n 3, 1) := by decide +kernel
theorem dX0_drawn_96 : decode cX0_drawn 96 = .ok (.iconst 1, 1) := by decide +kernel
theorem dX0_drawn_97 : decode cX0_drawn 97 = .ok (.iload 5, 2) := by decide +kernel
theorem dX0_drawn_99 : decode cX0_drawn 99 = .ok (.ishl, 1) := by decide +kernel
theorem dX0_drawn_100 : decode cX0_drawn 100 = .ok (.iconst (-1), 1) := by decide +kernel
theorem dX0_drawn_101 : decode cX0_drawn 101 = .ok (.ixor, 1) := by decide +kernel
theorem dX0_drawn_102 : decode cX0_drawn 102 = .ok (.iand, 1) := by decide +kernel
theorem dX0_drawn_103 : decode cX0_drawn 103 = .ok (.istore_n 3, 1) := by decide +kernel
theorem dX0_drawn_104 : decode cX0_drawn 104 = .ok (.iinc 6 1, 3) := by decide +kernel
theorem dX0_drawn_107 : decode cX0_drawn 107 = .ok (.goto (-58), 3) := by decide +kernel
theorem dX0_drawn_110 : decode cX0_drawn 110 = .ok (.iload 5, 2) := by decide +kernel
theorem dX0_drawn_112 : decode cX0_drawn 112 = .ok (.ireturn, 1) := by decide +kernel
set_option maxRecDepth 20000 in
theorem ggX0_count_X0_countMarks : GoodIn wsX0_count wsX0_countMarks := goodIn_r _ [10, 11, 15, 16, 17, 18, 19, 20, 21, 22, 23, 24, 25, 26, 27, 28, 29, 30] (by decide +kernel) (by decide +kernel)
set_option maxRecDepth 20000 in
theorem gX0_count_X0_countMarks : GoodIn wsX0_count (wsV RX0 168 RX0 yX0_countMarks wsX0_countMarks) := goodIn_app (goodIn_of _ (by decide +kernel)) ggX0_count_X0_countMarks
set_option maxRecDepth 20000 in
theorem ggX0_count_X0_sumOf : GoodIn wsX0_count wsX0_sumOf := goodIn_r _ [14] (by decide +kernel) (by decide +kernel)
set_option maxRecDepth 20000 in
theorem gX0_count_X0_sumOf : GoodIn wsX0_count (va_wsS RX0 145 yX0_sumOf wsX0_sumOf) := goodIn_app (goodIn_of _ (by decide +kernel)) ggX0_count_X0_sumOf
theorem dX0_count_0 : decode cX0_count 0 = .ok (.iload_n 1, 1) := by decide +kernel
theorem dX0_count_1 : decode cX0_count 1 = .ok (.tableswitch 78 0 5 #[39, 44, 49, 54, 62, 70], 39) := by decide +kernel
theorem dX0_count_40 : decode cX0_count 40 = .ok (.aload_n 0, 1) := by decide +kernel
theorem dX0_count_41 : decode cX0_count 41 = .ok (.getfield 7, 3) := by decide +kernel
theorem dX0_count_44 : decode cX0_count 44 = .ok (.ireturn, 1) := by decide +kernel
theorem dX0_count_45 : decode cX0_count 45 = .ok (.aload_n 0, 1) := by decide +kernel
theorem dX0_count_46 : decode cX0_count 46 = .ok (.getfield 13, 3) := by decide +kernel
theorem dX0_count_49 : decode cX0_count 49 = .ok (.ireturn, 1) := by decide +kernel
theorem dX0_count_50 : decode cX0_count 50 = .ok (.aload_n 0, 1) := by decide +kernel
theorem dX0_count_51 : decode cX0_count 51 = .ok (.invokevirtual 168, 3) := by decide +kernel
theorem dX0_count_54 : decode cX0_count 54 = .ok (.ireturn, 1) := by decide +kernel
theorem dX0_count_55 : decode cX0_count 55 = .ok (.aload_n 0, 1) := by decide +kernel
theorem dX0_count_56 : decode cX0_count 56 = .ok (.getfield 20, 3) := by decide +kernel
theorem dX0_count_59 : decode cX0_count 59 = .ok (.invokestatic 145, 3) := by decide +kernel
theorem dX0_count_62 : decode cX0_count 62 = .ok (.ireturn, 1) := by decide +kernel
theorem dX0_count_63 : decode cX0_count 63 = .ok (.aload_n 0, 1) := by decide +kernel
theorem dX0_count_64 : decode cX0_count 64 = .ok (.getfield 23, 3) := by decide +kernel
theorem dX0_count_67 : decode cX0_count 67 = .ok (.invokestatic 145, 3) := by decide +kernel
theorem dX0_count_70 : decode cX0_count 70 = .ok (.ireturn, 1) := by decide +kernel
theorem dX0_count_71 : decode cX0_count 71 = .ok (.aload_n 0, 1) := by decide +kernel
theorem dX0_count_72 : decode cX0_count 72 = .ok (.getfield 41, 3) := by decide +kernel
theorem dX0_count_75 : decode cX0_count 75 = .ok (.invokestatic 145, 3) := by decide +kernel
theorem dX0_count_78 : decode cX0_count 78 = .ok (.ireturn, 1) := by decide +kernel
theorem dX0_count_79 : decode cX0_count 79 = .ok (.bipush (-102), 2) := by decide +kernel
theorem dX0_count_81 : decode cX0_count 81 = .ok (.ireturn, 1) := by decide +kernel
set_option maxRecDepth 20000 in
theorem ggX0_digest_X0_mixed : GoodIn wsX0_digest wsX0_mixed := goodIn_r _ [15, 16] (by decide +kernel) (by decide +kernel)
set_option maxRecDepth 20000 in
theorem gX0_digest_X0_mixed : GoodIn wsX0_digest (va_wsS RX0 174 yX0_mixed wsX0_mixed) := goodIn_app (goodIn_of _ (by decide +kernel)) ggX0_digest_X0_mixed
set_option maxRecDepth 20000 in
theorem ggX0_digest_X0_mixedRound : GoodIn wsX0_digest wsX0_mixedRound := goodIn_r _ [20, 3, 2, 21, 22, 23, 24, 14, 25, 12, 13, 15, 16, 35, 36, 37, 38, 39, 40, 41, 42, 43, 44, 45, 46, 47, 48, 49, 50] (by decide +kernel) (by decide +kernel)
set_option maxRecDepth 20000 in
theorem gX0_digest_X0_mixedRound : GoodIn wsX0_digest (wsV RX0 178 RX0 yX0_mixedRound wsX0_mixedRound) := goodIn_app (goodIn_of _ (by decide +kernel)) ggX0_digest_X0_mixedRound
set_option maxRecDepth 20000 in
theorem ggX0_digest_X0_pupilCellOf : GoodIn wsX0_digest wsX0_pupilCellOf := goodIn_r _ [28] (by decide +kernel) (by decide +kernel)
set_option maxRecDepth 20000 in
theorem gX0_digest_X0_pupilCellOf : GoodIn wsX0_digest (va_wsS RX0 90 yX0_pupilCellOf wsX0_pupilCellOf) := goodIn_app (goodIn_of _ (by decide +kernel)) ggX0_digest_X0_pupilCellOf
set_option maxRecDepth 20000 in
theorem ggX0_digest_X0_mixedRow : GoodIn wsX0_digest wsX0_mixedRow := goodIn_r _ [31, 12, 13, 14, 15, 16] (by decide +kernel) (by decide +kernel)
set_option maxRecDepth 20000 in
theorem gX0_digest_X0_mixedRow : GoodIn wsX0_digest (va_wsS RX0 182 yX0_mixedRow wsX0_mixedRow) := goodIn_app (goodIn_of _ (by decide +kernel)) ggX0_digest_X0_mixedRow
set_option maxRecDepth 20000 in
theorem ggX0_digest_X0_programmeCellOf : GoodIn wsX0_digest wsX0_programmeCellOf := goodIn_r _ [34] (by decide +kernel) (by decide +kernel)
set_option maxRecDepth 20000 in
theorem gX0_digest_X0_programmeCellOf : GoodIn wsX0_digest (va_wsS RX0 152 yX0_programmeCellOf wsX0_programmeCellOf) := goodIn_app (goodIn_of _ (by decide +kernel)) ggX0_digest_X0_programmeCellOf
theorem dX0_digest_0 : decode cX0_digest 0 = .ok (.ldc2_w 172, 3) := by decide +kernel
theorem dX0_digest_3 : decode cX0_digest 3 = .ok (.aload_n 0, 1) := by decide +kernel
theorem dX0_digest_4 : decode cX0_digest 4 = .ok (.getfield 7, 3) := by decide +kernel
theorem dX0_digest_7 : decode cX0_digest 7 = .ok (.i2l, 1) := by decide +kernel
theorem dX0_digest_8 : decode cX0_digest 8 = .ok (.invokestatic 174, 3) := by decide +kernel
theorem dX0_digest_11 : decode cX0_digest 11 = .ok (.aload_n 0, 1) := by decide +kernel
theorem dX0_digest_12 : decode cX0_digest 12 = .ok (.getfield 13, 3) := by decide +kernel
theorem dX0_digest_15 : decode cX0_digest 15 = .ok (.i2l, 1) := by decide +kernel
theorem dX0_digest_16 : decode cX0_digest 16 = .ok (.invokestatic 174, 3) := by decide +kernel
theorem dX0_digest_19 : decode cX0_digest 19 = .ok (.lstore_n 1, 1) := by decide +kernel
theorem dX0_digest_20 : decode cX0_digest 20 = .ok (.iconst 0, 1) := by decide +kernel
theorem dX0_digest_21 : decode cX0_digest 21 = .ok (.istore_n 3, 1) := by decide +kernel
theorem dX0_digest_22 : decode cX0_digest 22 = .ok (.iload_n 3, 1) := by decide +kernel
theorem dX0_digest_23 : decode cX0_digest 23 = .ok (.iconst 3, 1) := by decide +kernel
theorem dX0_digest_24 : decode cX0_digest 24 = .ok (.if_icmp .ge 16, 3) := by decide +kernel
theorem dX0_digest_27 : decode cX0_digest 27 = .ok (.aload_n 0, 1) := by decide +kernel
theorem dX0_digest_28 : decode cX0_digest 28 = .ok (.lload_n 1, 1) := by decide +kernel
theorem dX0_digest_29 : decode cX0_digest 29 = .ok (.iload_n 3, 1) := by decide +kernel
theorem dX0_digest_30 : decode cX0_digest 30 = .ok (.invokevirtual 178, 3) := by decide +kernel
theorem dX0_digest_33 : decode cX0_digest 33 = .ok (.lstore_n 1, 1) := by decide +kernel
theorem dX0_digest_34 : decode cX0_digest 34 = .ok (.iinc 3 1, 3) := by decide +kernel
theorem dX0_digest_37 : decode cX0_digest 37 = .ok (.goto (-15), 3) := by decide +kernel
theorem dX0_digest_40 : decode cX0_digest 40 = .ok (.iconst 0, 1) := by decide +kernel
theorem dX0_digest_41 : decode cX0_digest 41 = .ok (.istore_n 3, 1) := by decide +kernel
theorem dX0_digest_42 : decode cX0_digest 42 = .ok (.iload_n 3, 1) := by decide +kernel
theorem dX0_digest_43 : decode cX0_digest 43 = .ok (.aload_n 0, 1) := by decide +kernel
theorem dX0_digest_44 : decode cX0_digest 44 = .ok (.getfield 13, 3) := by decide +kernel
theorem dX0_digest_47 : decode cX0_digest 47 = .ok (.if_icmp .ge 44, 3) := by decide +kernel
theorem dX0_digest_50 : decode cX0_digest 50 = .ok (.iconst 0, 1) := by decide +kernel
theorem dX0_digest_51 : decode cX0_digest 51 = .ok (.istore 4, 2) := by decide +kernel
theorem dX0_digest_53 : decode cX0_digest 53 = .ok (.iload 4, 2) := by decide +kernel
theorem dX0_digest_55 : decode cX0_digest 55 = .ok (.aload_n 0, 1) := by decide +kernel
theorem dX0_digest_56 : decode cX0_digest 56 = .ok (.getfield 7, 3) := by decide +kernel
theorem dX0_digest_59 : decode cX0_digest 59 = .ok (.if_icmp .ge 26, 3) := by decide +kernel
theorem dX0_digest_62 : decode cX0_digest 62 = .ok (.lload_n 1, 1) := by decide +kernel
theorem dX0_digest_63 : decode cX0_digest 63 = .ok (.aload_n 0, 1) := by decide +kernel
theorem dX0_digest_64 : decode cX0_digest 64 = .ok (.getfield 23, 3) := by decide +kernel
theorem dX0_digest_67 : decode cX0_digest 67 = .ok (.iload_n 3, 1) := by decide +kernel
theorem dX0_digest_68 : decode cX0_digest 68 = .ok (.iload 4, 2) := by decide +kernel
theorem dX0_digest_70 : decode cX0_digest 70 = .ok (.invokestatic 90, 3) := by decide +kernel
theorem dX0_digest_73 : decode cX0_digest 73 = .ok (.iaload, 1) := by decide +kernel
theorem dX0_digest_74 : decode cX0_digest 74 = .ok (.i2l, 1) := by decide +kernel
theorem dX0_digest_75 : decode cX0_digest 75 = .ok (.invokestatic 174, 3) := by decide +kernel
theorem dX0_digest_78 : decode cX0_digest 78 = .ok (.lstore_n 1, 1) := by decide +kernel
theorem dX0_digest_79 : decode cX0_digest 79 = .ok (.iinc 4 1, 3) := by decide +kernel
theorem dX0_digest_82 : decode cX0_digest 82 = .ok (.goto (-29), 3) := by decide +kernel
theorem dX0_digest_85 : decode cX0_digest 85 = .ok (.iinc 3 1, 3) := by decide +kernel
theorem dX0_digest_88 : decode cX0_digest 88 = .ok (.goto (-46), 3) := by decide +kernel
theorem dX0_digest_91 : decode cX0_digest 91 = .ok (.lload_n 1, 1) := by decide +kernel
theorem dX0_digest_92 : decode cX0_digest 92 = .ok (.aload_n 0, 1) := by decide +kernel
theorem dX0_digest_93 : decode cX0_digest 93 = .ok (.getfield 26, 3) := by decide +kernel
theorem dX0_digest_96 : decode cX0_digest 96 = .ok (.invokestatic 182, 3) := by decide +kernel
theorem dX0_digest_99 : decode cX0_digest 99 = .ok (.aload_n 0, 1) := by decide +kernel
theorem dX0_digest_100 : decode cX0_digest 100 = .ok (.getfield 29, 3) := by decide +kernel
theorem dX0_digest_103 : decode cX0_digest 103 = .ok (.invokestatic 182, 3) := by decide +kernel
theorem dX0_digest_106 : decode cX0_digest 106 = .ok (.lstore_n 1, 1) := by decide +kernel
theorem dX0_digest_107 : decode cX0_digest 107 = .ok (.lload_n 1, 1) := by decide +kernel
theorem dX0_digest_108 : decode cX0_digest 108 = .ok (.aload_n 0, 1) := by decide +kernel
theorem dX0_digest_109 : decode cX0_digest 109 = .ok (.getfield 32, 3) := by decide +kernel
theorem dX0_digest_112 : decode cX0_digest 112 = .ok (.invokestatic 182, 3) := by decide +kernel
theorem dX0_digest_115 : decode cX0_digest 115 = .ok (.aload_n 0, 1) := by decide +kernel
theorem dX0_digest_116 : decode cX0_digest 116 = .ok (.getfield 35, 3) := by decide +kernel
theorem dX0_digest_119 : decode cX0_digest 119 = .ok (.invokestatic 182, 3) := by decide +kernel
theorem dX0_digest_122 : decode cX0_digest 122 = .ok (.lstore_n 1, 1) := by decide +kernel
theorem dX0_digest_123 : decode cX0_digest 123 = .ok (.iconst 0, 1) := by decide +kernel
theorem dX0_digest_124 : decode cX0_digest 124 = .ok (.istore_n 3, 1) := by decide +kernel
theorem dX0_digest_125 : decode cX0_digest 125 = .ok (.iload_n 3, 1) := by decide +kernel
theorem dX0_digest_126 : decode cX0_digest 126 = .ok (.aload_n 0, 1) := by decide +kernel
theorem dX0_digest_127 : decode cX0_digest 127 = .ok (.getfield 7, 3) := by decide +kernel
theorem dX0_digest_130 : decode cX0_digest 130 = .ok (.if_icmp .ge 58, 3) := by decide +kernel
theorem dX0_digest_133 : decode cX0_digest 133 = .ok (.iconst 0, 1) := by decide +kernel
theorem dX0_digest_134 : decode cX0_digest 134 = .ok (.istore 4, 2) := by decide +kernel
theorem dX0_digest_136 : decode cX0_digest 136 = .ok (.iload 4, 2) := by decide +kernel
theorem dX0_digest_138 : decode cX0_digest 138 = .ok (.aload_n 0, 1) := by decide +kernel
theorem dX0_digest_139 : decode cX0_digest 139 = .ok (.getfield 41, 3) := by decide +kernel
theorem dX0_digest_142 : decode cX0_digest 142 = .ok (.iload_n 3, 1) := by decide +kernel
theorem dX0_digest_143 : decode cX0_digest 143 = .ok (.iaload, 1) := by decide +kernel
theorem dX0_digest_144 : decode cX0_digest 144 = .ok (.if_icmp .ge 26, 3) := by decide +kernel
theorem dX0_digest_147 : decode cX0_digest 147 = .ok (.lload_n 1, 1) := by decide +kernel
theorem dX0_digest_148 : decode cX0_digest 148 = .ok (.aload_n 0, 1) := by decide +kernel
theorem dX0_digest_149 : decode cX0_digest 149 = .ok (.getfield 38, 3) := by decide +kernel
theorem dX0_digest_152 : decode cX0_digest 152 = .ok (.iload_n 3, 1) := by decide +kernel
theorem dX0_digest_153 : decode cX0_digest 153 = .ok (.iload 4, 2) := by decide +kernel
theorem dX0_digest_155 : decode cX0_digest 155 = .ok (.invokestatic 152, 3) := by decide +kernel
theorem dX0_digest_158 : decode cX0_digest 158 = .ok (.iaload, 1) := by decide +kernel
theorem dX0_digest_159 : decode cX0_digest 159 = .ok (.i2l, 1) := by decide +kernel
theorem dX0_digest_160 : decode cX0_digest 160 = .ok (.invokestatic 174, 3) := by decide +kernel
theorem dX0_digest_163 : decode cX0_digest 163 = .ok (.lstore_n 1, 1) := by decide +kernel
theorem dX0_digest_164 : decode cX0_digest 164 = .ok (.iinc 4 1, 3) := by decide +kernel
theorem dX0_digest_167 : decode cX0_digest 167 = .ok (.goto (-31), 3) := by decide +kernel
theorem dX0_digest_170 : decode cX0_digest 170 = .ok (.lload_n 1, 1) := by decide +kernel
theorem dX0_digest_171 : decode cX0_digest 171 = .ok (.aload_n 0, 1) := by decide +kernel
theorem dX0_digest_172 : decode cX0_digest 172 = .ok (.getfield 44, 3) := by decide +kernel
theorem dX0_digest_175 : decode cX0_digest 175 = .ok (.iload_n 3, 1) := by decide +kernel
theorem dX0_digest_176 : decode cX0_digest 176 = .ok (.iaload, 1) := by decide +kernel
theorem dX0_digest_177 : decode cX0_digest 177 = .ok (.i2l, 1) := by decide +kernel
theorem dX0_digest_178 : decode cX0_digest 178 = .ok (.invokestatic 174, 3) := by decide +kernel
theorem dX0_digest_181 : decode cX0_digest 181 = .ok (.lstore_n 1, 1) := by decide +kernel
theorem dX0_digest_182 : decode cX0_digest 182 = .ok (.iinc 3 1, 3) := by decide +kernel
theorem dX0_digest_185 : decode cX0_digest 185 = .ok (.goto (-60), 3) := by decide +kernel
theorem dX0_digest_188 : decode cX0_digest 188 = .ok (.lload_n 1, 1) := by decide +kernel
theorem dX0_digest_189 : decode cX0_digest 189 = .ok (.lreturn, 1) := by decide +kernel
theorem dX0_isWithin_0 : decode cX0_isWithin 0 = .ok (.iload_n 0, 1) := by decide +kernel
theorem dX0_isWithin_1 : decode cX0_isWithin 1 = .ok (.iload_n 1, 1) := by decide +kernel
theorem dX0_isWithin_2 : decode cX0_isWithin 2 = .ok (.if_icmp .lt 12, 3) := by decide +kernel
theorem dX0_isWithin_5 : decode cX0_isWithin 5 = .ok (.iload_n 0, 1) := by decide +kernel
theorem dX0_isWithin_6 : decode cX0_isWithin 6 = .ok (.iload_n 2, 1) := by decide +kernel
theorem dX0_isWithin_7 : decode cX0_isWithin 7 = .ok (.if_icmp .gt 7, 3) := by decide +kernel
theorem dX0_isWithin_10 : decode cX0_isWithin 10 = .ok (.iconst 1, 1) := by decide +kernel
theorem dX0_isWithin_11 : decode cX0_isWithin 11 = .ok (.goto 4, 3) := by decide +kernel
theorem dX0_isWithin_14 : decode cX0_isWithin 14 = .ok (.iconst 0, 1) := by decide +kernel
theorem dX0_isWithin_15 : decode cX0_isWithin 15 = .ok (.ireturn, 1) := by decide +kernel
set_option maxRecDepth 20000 in
theorem ggX0_isRound_X0_isWithin : GoodIn wsX0_isRound wsX0_isWithin := goodIn_r _ [4] (by decide +kernel) (by decide +kernel)
set_option maxRecDepth 20000 in
theorem gX0_isRound_X0_isWithin : GoodIn wsX0_isRound (va_wsS RX0 68 yX0_isWithin wsX0_isWithin) := goodIn_app (goodIn_of _ (by decide +kernel)) ggX0_isRound_X0_isWithin
theorem dX0_isRound_0 : decode cX0_isRound 0 = .ok (.iload_n 0, 1) := by decide +kernel
theorem dX0_isRound_1 : decode cX0_isRound 1 = .ok (.iconst 0, 1) := by decide +kernel
theorem dX0_isRound_2 : decode cX0_isRound 2 = .ok (.iconst 2, 1) := by decide +kernel
theorem dX0_isRound_3 : decode cX0_isRound 3 = .ok (.invokestatic 68, 3) := by decide +kernel
theorem dX0_isRound_6 : decode cX0_isRound 6 = .ok (.ireturn, 1) := by decide +kernel
set_option maxRecDepth 20000 in
theorem ggX0_isJuror_X0_isWithin : GoodIn wsX0_isJuror wsX0_isWithin := goodIn_r _ [5] (by decide +kernel) (by decide +kernel)
set_option maxRecDepth 20000 in
theorem gX0_isJuror_X0_isWithin : GoodIn wsX0_isJuror (va_wsS RX0 68 yX0_isWithin wsX0_isWithin) := goodIn_app (goodIn_of _ (by decide +kernel)) ggX0_isJuror_X0_isWithin
theorem dX0_isJuror_0 : decode cX0_isJuror 0 = .ok (.iload_n 1, 1) := by decide +kernel
theorem dX0_isJuror_1 : decode cX0_isJuror 1 = .ok (.iconst 0, 1) := by decide +kernel
theorem dX0_isJuror_2 : decode cX0_isJuror 2 = .ok (.aload_n 0, 1) := by decide +kernel
theorem dX0_isJuror_3 : decode cX0_isJuror 3 = .ok (.getfield 13, 3) := by decide +kernel
theorem dX0_isJuror_6 : decode cX0_isJuror 6 = .ok (.iconst 1, 1) := by decide +kernel
theorem dX0_isJuror_7 : decode cX0_isJuror 7 = .ok (.isub, 1) := by decide +kernel
theorem dX0_isJuror_8 : decode cX0_isJuror 8 = .ok (.invokestatic 68, 3) := by decide +kernel
theorem dX0_isJuror_11 : decode cX0_isJuror 11 = .ok (.ireturn, 1) := by decide +kernel
set_option maxRecDepth 20000 in
theorem ggX0_isPlayer_X0_isWithin : GoodIn wsX0_isPlayer wsX0_isWithin := goodIn_r _ [5] (by decide +kernel) (by decide +kernel)
set_option maxRecDepth 20000 in
theorem gX0_isPlayer_X0_isWithin : GoodIn wsX0_isPlayer (va_wsS RX0 68 yX0_isWithin wsX0_isWithin) := goodIn_app (goodIn_of _ (by decide +kernel)) ggX0_isPlayer_X0_isWithin
theorem dX0_isPlayer_0 : decode cX0_isPlayer 0 = .ok (.iload_n 1, 1) := by decide +kernel
theorem dX0_isPlayer_1 : decode cX0_isPlayer 1 = .ok (.iconst 0, 1) := by decide +kernel
theorem dX0_isPlayer_2 : decode cX0_isPlayer 2 = .ok (.aload_n 0, 1) := by decide +kernel
theorem dX0_isPlayer_3 : decode cX0_isPlayer 3 = .ok (.getfield 7, 3) := by decide +kernel
theorem dX0_isPlayer_6 : decode cX0_isPlayer 6 = .ok (.iconst 1, 1) := by decide +kernel
theorem dX0_isPlayer_7 : decode cX0_isPlayer 7 = .ok (.isub, 1) := by decide +kernel
theorem dX0_isPlayer_8 : decode cX0_isPlayer 8 = .ok (.invokestatic 68, 3) := by decide +kernel
theorem dX0_isPlayer_11 : decode cX0_isPlayer 11 = .ok (.ireturn, 1) := by decide +kernel
set_option maxRecDepth 20000 in
theorem ggX0_isWay_X0_isWithin : GoodIn wsX0_isWay wsX0_isWithin := goodIn_r _ [4] (by decide +kernel) (by decide +kernel)
set_option maxRecDepth 20000 in
theorem gX0_isWay_X0_isWithin : GoodIn wsX0_isWay (va_wsS RX0 68 yX0_isWithin wsX0_isWithin) := goodIn_app (goodIn_of _ (by decide +kernel)) ggX0_isWay_X0_isWithin
theorem dX0_isWay_0 : decode cX0_isWay 0 = .ok (.iload_n 0, 1) := by decide +kernel
theorem dX0_isWay_1 : decode cX0_isWay 1 = .ok (.iconst 0, 1) := by decide +kernel
theorem dX0_isWay_2 : decode cX0_isWay 2 = .ok (.iconst 5, 1) := by decide +kernel
theorem dX0_isWay_3 : decode cX0_isWay 3 = .ok (.invokestatic 68, 3) := by decide +kernel
theorem dX0_isWay_6 : decode cX0_isWay 6 = .ok (.ireturn, 1) := by decide +kernel
set_option maxRecDepth 20000 in
theorem ggX0_isLimit_X0_isWithin : GoodIn wsX0_isLimit wsX0_isWithin := goodIn_r _ [4] (by decide +kernel) (by decide +kernel)
set_option maxRecDepth 20000 in
theorem gX0_isLimit_X0_isWithin : GoodIn wsX0_isLimit (va_wsS RX0 68 yX0_isWithin wsX0_isWithin) := goodIn_app (goodIn_of _ (by decide +kernel)) ggX0_isLimit_X0_isWithin
theorem dX0_isLimit_0 : decode cX0_isLimit 0 = .ok (.iload_n 0, 1) := by decide +kernel
theorem dX0_isLimit_1 : decode cX0_isLimit 1 = .ok (.iconst 1, 1) := by decide +kernel
theorem dX0_isLimit_2 : decode cX0_isLimit 2 = .ok (.bipush 10, 2) := by decide +kernel
theorem dX0_isLimit_4 : decode cX0_isLimit 4 = .ok (.invokestatic 68, 3) := by decide +kernel
theorem dX0_isLimit_7 : decode cX0_isLimit 7 = .ok (.ireturn, 1) := by decide +kernel
set_option maxRecDepth 20000 in
theorem ggX0_isWork_X0_isWithin : GoodIn wsX0_isWork wsX0_isWithin := goodIn_r _ [4] (by decide +kernel) (by decide +kernel)
set_option maxRecDepth 20000 in
theorem gX0_isWork_X0_isWithin : GoodIn wsX0_isWork (va_wsS RX0 68 yX0_isWithin wsX0_isWithin) := goodIn_app (goodIn_of _ (by decide +kernel)) ggX0_isWork_X0_isWithin
theorem dX0_isWork_0 : decode cX0_isWork 0 = .ok (.iload_n 0, 1) := by decide +kernel
theorem dX0_isWork_1 : decode cX0_isWork 1 = .ok (.iconst 0, 1) := by decide +kernel
theorem dX0_isWork_2 : decode cX0_isWork 2 = .ok (.bipush 11, 2) := by decide +kernel
theorem dX0_isWork_4 : decode cX0_isWork 4 = .ok (.invokestatic 68, 3) := by decide +kernel
theorem dX0_isWork_7 : decode cX0_isWork 7 = .ok (.ireturn, 1) := by decide +kernel
theorem dX0_cellOf_0 : decode cX0_cellOf 0 = .ok (.iload_n 0, 1) := by decide +kernel
theorem dX0_cellOf_1 : decode cX0_cellOf 1 = .ok (.bipush 7, 2) := by decide +kernel
theorem dX0_cellOf_3 : decode cX0_cellOf 3 = .ok (.imul, 1) := by decide +kernel
theorem dX0_cellOf_4 : decode cX0_cellOf 4 = .ok (.iload_n 1, 1) := by decide +kernel
theorem dX0_cellOf_5 : decode cX0_cellOf 5 = .ok (.iadd, 1) := by decide +kernel
theorem dX0_cellOf_6 : decode cX0_cellOf 6 = .ok (.bipush 10, 2) := by decide +kernel
theorem dX0_cellOf_8 : decode cX0_cellOf 8 = .ok (.imul, 1) := by decide +kernel
theorem dX0_cellOf_9 : decode cX0_cellOf 9 = .ok (.iload_n 2, 1) := by decide +kernel
theorem dX0_cellOf_10 : decode cX0_cellOf 10 = .ok (.iadd, 1) := by decide +kernel
theorem dX0_cellOf_11 : decode cX0_cellOf 11 = .ok (.ireturn, 1) := by decide +kernel
theorem dX0_pupilCellOf_0 : decode cX0_pupilCellOf 0 = .ok (.iload_n 0, 1) := by decide +kernel
theorem dX0_pupilCellOf_1 : decode cX0_pupilCellOf 1 = .ok (.bipush 10, 2) := by decide +kernel
theorem dX0_pupilCellOf_3 : decode cX0_pupilCellOf 3 = .ok (.imul, 1) := by decide +kernel
theorem dX0_pupilCellOf_4 : decode cX0_pupilCellOf 4 = .ok (.iload_n 1, 1) := by decide +kernel
theorem dX0_pupilCellOf_5 : decode cX0_pupilCellOf 5 = .ok (.iadd, 1) := by decide +kernel
theorem dX0_pupilCellOf_6 : decode cX0_pupilCellOf 6 = .ok (.ireturn, 1) := by decide +kernel
theorem dX0_programmeCellOf_0 : decode cX0_programmeCellOf 0 = .ok (.iload_n 0, 1) := by decide +kernel
theorem dX0_programmeCellOf_1 : decode cX0_programmeCellOf 1 = .ok (.iconst 3, 1) := by decide +kernel
theorem dX0_programmeCellOf_2 : decode cX0_programmeCellOf 2 = .ok (.imul, 1) := by decide +kernel
theorem dX0_programmeCellOf_3 : decode cX0_programmeCellOf 3 = .ok (.iload_n 1, 1) := by decide +kernel
theorem dX0_programmeCellOf_4 : decode cX0_programmeCellOf 4 = .ok (.iadd, 1) := by decide +kernel
theorem dX0_programmeCellOf_5 : decode cX0_programmeCellOf 5 = .ok (.ireturn, 1) := by decide +kernel
theorem dX0_replace_0 : decode cX0_replace 0 = .ok (.aload_n 0, 1) := by decide +kernel
theorem dX0_replace_1 : decode cX0_replace 1 = .ok (.iload_n 1, 1) := by decide +kernel
theorem dX0_replace_2 : decode cX0_replace 2 = .ok (.iaload, 1) := by decide +kernel
theorem dX0_replace_3 : decode cX0_replace 3 = .ok (.istore_n 3, 1) := by decide +kernel
theorem dX0_replace_4 : decode cX0_replace 4 = .ok (.aload_n 0, 1) := by decide +kernel
theorem dX0_replace_5 : decode cX0_replace 5 = .ok (.iload_n 1, 1) := by decide +kernel
theorem dX0_replace_6 : decode cX0_replace 6 = .ok (.iload_n 2, 1) := by decide +kernel
theorem dX0_replace_7 : decode cX0_replace 7 = .ok (.iastore, 1) := by decide +kernel
theorem dX0_replace_8 : decode cX0_replace 8 = .ok (.iload_n 3, 1) := by decide +kernel
theorem dX0_replace_9 : decode cX0_replace 9 = .ok (.ireturn, 1) := by decide +kernel
set_option maxRecDepth 20000 in
theorem ggX0_clearAll_J7_fill_53178 : GoodIn wsX0_clearAll wsJ7_fill_53178 := goodIn_r _ [9] (by decide +kernel) (by decide +kernel)
set_option maxRecDepth 20000 in
theorem gX0_clearAll_J7_fill_53178 : GoodIn wsX0_clearAll (va_wsS RX0 59 yJ7_fill_53178 wsJ7_fill_53178) := goodIn_app (goodIn_of _ (by decide +kernel)) ggX0_clearAll_J7_fill_53178
theorem dX0_clearAll_0 : decode cX0_clearAll 0 = .ok (.aload_n 0, 1) := by decide +kernel
theorem dX0_clearAll_1 : decode cX0_clearAll 1 = .ok (.getfield 16, 3) := by decide +kernel
theorem dX0_clearAll_4 : decode cX0_clearAll 4 = .ok (.iconst (-1), 1) := by decide +kernel
theorem dX0_clearAll_5 : decode cX0_clearAll 5 = .ok (.invokestatic 59, 3) := by decide +kernel
theorem dX0_clearAll_8 : decode cX0_clearAll 8 = .ok (.aload_n 0, 1) := by decide +kernel
theorem dX0_clearAll_9 : decode cX0_clearAll 9 = .ok (.getfield 20, 3) := by decide +kernel
theorem dX0_clearAll_12 : decode cX0_clearAll 12 = .ok (.iconst 0, 1) := by decide +kernel
theorem dX0_clearAll_13 : decode cX0_clearAll 13 = .ok (.invokestatic 59, 3) := by decide +kernel
theorem dX0_clearAll_16 : decode cX0_clearAll 16 = .ok (.aload_n 0, 1) := by decide +kernel
theorem dX0_clearAll_17 : decode cX0_clearAll 17 = .ok (.getfield 23, 3) := by decide +kernel
theorem dX0_clearAll_20 : decode cX0_clearAll 20 = .ok (.iconst 0, 1) := by decide +kernel
theorem dX0_clearAll_21 : decode cX0_clearAll 21 = .ok (.invokestatic 59, 3) := by decide +kernel
theorem dX0_clearAll_24 : decode cX0_clearAll 24 = .ok (.aload_n 0, 1) := by decide +kernel
theorem dX0_clearAll_25 : decode cX0_clearAll 25 = .ok (.getfield 41, 3) := by decide +kernel
theorem dX0_clearAll_28 : decode cX0_clearAll 28 = .ok (.iconst 0, 1) := by decide +kernel
theorem dX0_clearAll_29 : decode cX0_clearAll 29 = .ok (.invokestatic 59, 3) := by decide +kernel
theorem dX0_clearAll_32 : decode cX0_clearAll 32 = .ok (.aload_n 0, 1) := by decide +kernel
theorem dX0_clearAll_33 : decode cX0_clearAll 33 = .ok (.getfield 44, 3) := by decide +kernel
theorem dX0_clearAll_36 : decode cX0_clearAll 36 = .ok (.iconst (-1), 1) := by decide +kernel
theorem dX0_clearAll_37 : decode cX0_clearAll 37 = .ok (.invokestatic 59, 3) := by decide +kernel
theorem dX0_clearAll_40 : decode cX0_clearAll 40 = .ok (.return_, 1) := by decide +kernel
set_option maxRecDepth 20000 in
theorem ggX0_isPupil_X0_pupilCellOf : GoodIn wsX0_isPupil wsX0_pupilCellOf := goodIn_r _ [5] (by decide +kernel) (by decide +kernel)
set_option maxRecDepth 20000 in
theorem gX0_isPupil_X0_pupilCellOf : GoodIn wsX0_isPupil (va_wsS RX0 90 yX0_pupilCellOf wsX0_pupilCellOf) := goodIn_app (goodIn_of _ (by decide +kernel)) ggX0_isPupil_X0_pupilCellOf
theorem dX0_isPupil_0 : decode cX0_isPupil 0 = .ok (.aload_n 0, 1) := by decide +kernel
theorem dX0_isPupil_1 : decode cX0_isPupil 1 = .ok (.getfield 23, 3) := by decide +kernel
theorem dX0_isPupil_4 : decode cX0_isPupil 4 = .ok (.iload_n 1, 1) := by decide +kernel
theorem dX0_isPupil_5 : decode cX0_isPupil 5 = .ok (.iload_n 2, 1) := by decide +kernel
theorem dX0_isPupil_6 : decode cX0_isPupil 6 = .ok (.invokestatic 90, 3) := by decide +kernel
theorem dX0_isPupil_9 : decode cX0_isPupil 9 = .ok (.iaload, 1) := by decide +kernel
theorem dX0_isPupil_10 : decode cX0_isPupil 10 = .ok (.iconst 1, 1) := by decide +kernel
theorem dX0_isPupil_11 : decode cX0_isPupil 11 = .ok (.if_icmp .ne 7, 3) := by decide +kernel
theorem dX0_isPupil_14 : decode cX0_isPupil 14 = .ok (.iconst 1, 1) := by decide +kernel
theorem dX0_isPupil_15 : decode cX0_isPupil 15 = .ok (.goto 4, 3) := by decide +kernel
theorem dX0_isPupil_18 : decode cX0_isPupil 18 = .ok (.iconst 0, 1) := by decide +kernel
theorem dX0_isPupil_19 : decode cX0_isPupil 19 = .ok (.ireturn, 1) := by decide +kernel
set_option maxRecDepth 20000 in
theorem ggX0_countedMark_X0_pupilCellOf : GoodIn wsX0_countedMark wsX0_pupilCellOf := goodIn_r _ [6] (by decide +kernel) (by decide +kernel)
set_option maxRecDepth 20000 in
theorem gX0_countedMark_X0_pupilCellOf : GoodIn wsX0_countedMark (va_wsS RX0 90 yX0_pupilCellOf wsX0_pupilCellOf) := goodIn_app (goodIn_of _ (by decide +kernel)) ggX0_countedMark_X0_pupilCellOf
set_option maxRecDepth 20000 in
theorem ggX0_countedMark_X0_cellOf : GoodIn wsX0_countedMark wsX0_cellOf := goodIn_r _ [9] (by decide +kernel) (by decide +kernel)
set_option maxRecDepth 20000 in
theorem gX0_countedMark_X0_cellOf : GoodIn wsX0_countedMark (va_wsS RX0 82 yX0_cellOf wsX0_cellOf) := goodIn_app (goodIn_of _ (by decide +kernel)) ggX0_countedMark_X0_cellOf
theorem dX0_countedMark_0 : decode cX0_countedMark 0 = .ok (.aload_n 0, 1) := by decide +kernel
theorem dX0_countedMark_1 : decode cX0_countedMark 1 = .ok (.getfield 23, 3) := by decide +kernel
theorem dX0_countedMark_4 : decode cX0_countedMark 4 = .ok (.iload_n 2, 1) := by decide +kernel
theorem dX0_countedMark_5 : decode cX0_countedMark 5 = .ok (.iload_n 3, 1) := by decide +kernel
theorem dX0_countedMark_6 : decode cX0_countedMark 6 = .ok (.invokestatic 90, 3) := by decide +kernel
theorem dX0_countedMark_9 : decode cX0_countedMark 9 = .ok (.iaload, 1) := by decide +kernel
theorem dX0_countedMark_10 : decode cX0_countedMark 10 = .ok (.iconst 1, 1) := by decide +kernel
theorem dX0_countedMark_11 : decode cX0_countedMark 11 = .ok (.if_icmp .ne 7, 3) := by decide +kernel
theorem dX0_countedMark_14 : decode cX0_countedMark 14 = .ok (.iconst (-1), 1) := by decide +kernel
theorem dX0_countedMark_15 : decode cX0_countedMark 15 = .ok (.goto 14, 3) := by decide +kernel
theorem dX0_countedMark_18 : decode cX0_countedMark 18 = .ok (.aload_n 0, 1) := by decide +kernel
theorem dX0_countedMark_19 : decode cX0_countedMark 19 = .ok (.getfield 16, 3) := by decide +kernel
theorem dX0_countedMark_22 : decode cX0_countedMark 22 = .ok (.iload_n 1, 1) := by decide +kernel
theorem dX0_countedMark_23 : decode cX0_countedMark 23 = .ok (.iload_n 2, 1) := by decide +kernel
theorem dX0_countedMark_24 : decode cX0_countedMark 24 = .ok (.iload_n 3, 1) := by decide +kernel
theorem dX0_countedMark_25 : decode cX0_countedMark 25 = .ok (.invokestatic 82, 3) := by decide +kernel
theorem dX0_countedMark_28 : decode cX0_countedMark 28 = .ok (.iaload, 1) := by decide +kernel
theorem dX0_countedMark_29 : decode cX0_countedMark 29 = .ok (.ireturn, 1) := by decide +kernel
set_option maxRecDepth 20000 in
theorem ggX0_isMarked_X0_countedMark : GoodIn wsX0_isMarked wsX0_countedMark := goodIn_r _ [6, 7, 8, 9, 10, 5, 11, 12, 13, 14, 15, 16, 17, 18, 19, 20, 21, 22, 23, 24, 25, 26, 27, 28, 29, 30] (by decide +kernel) (by decide +kernel)
set_option maxRecDepth 20000 in
theorem gX0_isMarked_X0_countedMark : GoodIn wsX0_isMarked (wsV RX0 186 RX0 yX0_countedMark wsX0_countedMark) := goodIn_app (goodIn_of _ (by decide +kernel)) ggX0_isMarked_X0_countedMark
theorem dX0_isMarked_0 : decode cX0_isMarked 0 = .ok (.iconst 0, 1) := by decide +kernel
theorem dX0_isMarked_1 : decode cX0_isMarked 1 = .ok (.istore_n 3, 1) := by decide +kernel
theorem dX0_isMarked_2 : decode cX0_isMarked 2 = .ok (.iload_n 3, 1) := by decide +kernel
theorem dX0_isMarked_3 : decode cX0_isMarked 3 = .ok (.aload_n 0, 1) := by decide +kernel
theorem dX0_isMarked_4 : decode cX0_isMarked 4 = .ok (.getfield 13, 3) := by decide +kernel
theorem dX0_isMarked_7 : decode cX0_isMarked 7 = .ok (.if_icmp .ge 22, 3) := by decide +kernel
theorem dX0_isMarked_10 : decode cX0_isMarked 10 = .ok (.aload_n 0, 1) := by decide +kernel
theorem dX0_isMarked_11 : decode cX0_isMarked 11 = .ok (.iload_n 1, 1) := by decide +kernel
theorem dX0_isMarked_12 : decode cX0_isMarked 12 = .ok (.iload_n 3, 1) := by decide +kernel
theorem dX0_isMarked_13 : decode cX0_isMarked 13 = .ok (.iload_n 2, 1) := by decide +kernel
theorem dX0_isMarked_14 : decode cX0_isMarked 14 = .ok (.invokevirtual 186, 3) := by decide +kernel
theorem dX0_isMarked_17 : decode cX0_isMarked 17 = .ok (.iconst (-1), 1) := by decide +kernel
theorem dX0_isMarked_18 : decode cX0_isMarked 18 = .ok (.if_icmp .eq 5, 3) := by decide +kernel
theorem dX0_isMarked_21 : decode cX0_isMarked 21 = .ok (.iconst 1, 1) := by decide +kernel
theorem dX0_isMarked_22 : decode cX0_isMarked 22 = .ok (.ireturn, 1) := by decide +kernel
theorem dX0_isMarked_23 : decode cX0_isMarked 23 = .ok (.iinc 3 1, 3) := by decide +kernel
theorem dX0_isMarked_26 : decode cX0_isMarked 26 = .ok (.goto (-24), 3) := by decide +kernel
theorem dX0_isMarked_29 : decode cX0_isMarked 29 = .ok (.iconst 0, 1) := by decide +kernel
theorem dX0_isMarked_30 : decode cX0_isMarked 30 = .ok (.ireturn, 1) := by decide +kernel
set_option maxRecDepth 20000 in
theorem ggX0_scoreOf_X0_sortMarks : GoodIn wsX0_scoreOf wsX0_sortMarks := goodIn_r _ [8, 9, 10, 11, 12, 7, 13, 14, 15, 16, 17, 18, 19, 20, 21, 22, 23, 24, 25, 2, 72, 73, 74, 75, 76, 77, 78, 79, 80, 81, 82, 83, 84, 85, 86, 87] (by decide +kernel) (by decide +kernel)
set_option maxRecDepth 20000 in
theorem gX0_scoreOf_X0_sortMarks : GoodIn wsX0_scoreOf (wsV RX0 189 RX0 yX0_sortMarks wsX0_sortMarks) := goodIn_app (goodIn_of _ (by decide +kernel)) ggX0_scoreOf_X0_sortMarks
set_option maxRecDepth 20000 in
theorem ggX0_scoreOf_X0_cutMean : GoodIn wsX0_scoreOf wsX0_cutMean := goodIn_r _ [29, 30, 31, 32, 33, 7, 34, 3, 35, 36, 37, 38, 2, 72, 73, 74, 75, 76, 77, 78, 79, 80, 81, 82, 83, 84, 85, 86, 87] (by decide +kernel) (by decide +kernel)
set_option maxRecDepth 20000 in
theorem gX0_scoreOf_X0_cutMean : GoodIn wsX0_scoreOf (wsV RX0 192 RX0 yX0_cutMean wsX0_cutMean) := goodIn_app (goodIn_of _ (by decide +kernel)) ggX0_scoreOf_X0_cutMean
set_option maxRecDepth 20000 in
theorem ggX0_scoreOf_X0_countYeses : GoodIn wsX0_scoreOf wsX0_countYeses := goodIn_r _ [42, 9, 43, 10, 11, 12, 7, 13, 14, 15, 16, 17, 18, 19, 20, 21, 72, 73, 74, 75, 76, 77, 78, 79, 80, 81, 82, 83, 84, 85, 86, 87] (by decide +kernel) (by decide +kernel)
set_option maxRecDepth 20000 in
theorem gX0_scoreOf_X0_countYeses : GoodIn wsX0_scoreOf (wsV RX0 197 RX0 yX0_countYeses wsX0_countYeses) := goodIn_app (goodIn_of _ (by decide +kernel)) ggX0_scoreOf_X0_countYeses
set_option maxRecDepth 20000 in
theorem ggX0_scoreOf_X0_pairScore : GoodIn wsX0_scoreOf wsX0_pairScore := goodIn_r _ [47, 48, 49, 50, 51, 7, 52, 9, 10, 11, 12, 13, 14, 15, 16, 17, 18, 19, 20, 21, 53, 54, 55, 56, 57, 58, 59, 60, 72, 73, 74, 75, 76, 77, 78, 79, 80, 81, 82, 83, 84, 85, 86, 87] (by decide +kernel) (by decide +kernel)
set_option maxRecDepth 20000 in
theorem gX0_scoreOf_X0_pairScore : GoodIn wsX0_scoreOf (wsV RX0 200 RX0 yX0_pairScore wsX0_pairScore) := goodIn_app (goodIn_of _ (by decide +kernel)) ggX0_scoreOf_X0_pairScore
set_option maxRecDepth 20000 in
theorem ggX0_scoreOf_X0_pulledMean : GoodIn wsX0_scoreOf wsX0_pulledMean := goodIn_r _ [64, 30, 2, 65, 66, 67, 68, 69, 70, 71, 3, 35, 36, 37, 7, 38, 72, 73, 74, 75, 76, 77, 78, 79, 80, 81, 82, 83, 84, 85, 86, 87] (by decide +kernel) (by decide +kernel)
set_option maxRecDepth 20000 in
theorem gX0_scoreOf_X0_pulledMean : GoodIn wsX0_scoreOf (wsV RX0 203 RX0 yX0_pulledMean wsX0_pulledMean) := goodIn_app (goodIn_of _ (by decide +kernel)) ggX0_scoreOf_X0_pulledMean
set_option maxRecDepth 20000 in
theorem ggX0_scoreOf_X0_meanBetween : GoodIn wsX0_scoreOf wsX0_meanBetween := goodIn_r _ [34, 3, 35, 36, 37, 7, 38, 2, 72, 73, 74, 75, 76, 77, 78, 79, 80, 81, 82, 83, 84, 85, 86, 87] (by decide +kernel) (by decide +kernel)
set_option maxRecDepth 20000 in
theorem gX0_scoreOf_X0_meanBetween : GoodIn wsX0_scoreOf (wsV RX0 206 RX0 yX0_meanBetween wsX0_meanBetween) := goodIn_app (goodIn_of _ (by decide +kernel)) ggX0_scoreOf_X0_meanBetween
theorem dX0_scoreOf_0 : decode cX0_scoreOf 0 = .ok (.aload_n 0, 1) := by decide +kernel
theorem dX0_scoreOf_1 : decode cX0_scoreOf 1 = .ok (.iload_n 1, 1) := by decide +kernel
theorem dX0_scoreOf_2 : decode cX0_scoreOf 2 = .ok (.iload_n 3, 1) := by decide +kernel
theorem dX0_scoreOf_3 : decode cX0_scoreOf 3 = .ok (.invokevirtual 189, 3) := by decide +kernel
theorem dX0_scoreOf_6 : decode cX0_scoreOf 6 = .ok (.istore 4, 2) := by decide +kernel
theorem dX0_scoreOf_8 : decode cX0_scoreOf 8 = .ok (.iload 4, 2) := by decide +kernel
theorem dX0_scoreOf_10 : decode cX0_scoreOf 10 = .ok (.iconst 1, 1) := by decide +kernel
theorem dX0_scoreOf_11 : decode cX0_scoreOf 11 = .ok (.if_icmp .ge 5, 3) := by decide +kernel
theorem dX0_scoreOf_14 : decode cX0_scoreOf 14 = .ok (.iconst (-1), 1) := by decide +kernel
theorem dX0_scoreOf_15 : decode cX0_scoreOf 15 = .ok (.ireturn, 1) := by decide +kernel
theorem dX0_scoreOf_16 : decode cX0_scoreOf 16 = .ok (.iload_n 2, 1) := by decide +kernel
theorem dX0_scoreOf_17 : decode cX0_scoreOf 17 = .ok (.tableswitch 94 1 5 #[35, 42, 67, 80, 87], 35) := by decide +kernel
theorem dX0_scoreOf_52 : decode cX0_scoreOf 52 = .ok (.aload_n 0, 1) := by decide +kernel
theorem dX0_scoreOf_53 : decode cX0_scoreOf 53 = .ok (.iload 4, 2) := by decide +kernel
theorem dX0_scoreOf_55 : decode cX0_scoreOf 55 = .ok (.invokevirtual 192, 3) := by decide +kernel
theorem dX0_scoreOf_58 : decode cX0_scoreOf 58 = .ok (.ireturn, 1) := by decide +kernel
theorem dX0_scoreOf_59 : decode cX0_scoreOf 59 = .ok (.ldc 195, 2) := by decide +kernel
theorem dX0_scoreOf_61 : decode cX0_scoreOf 61 = .ok (.aload_n 0, 1) := by decide +kernel
theorem dX0_scoreOf_62 : decode cX0_scoreOf 62 = .ok (.getfield 47, 3) := by decide +kernel
theorem dX0_scoreOf_65 : decode cX0_scoreOf 65 = .ok (.iload 4, 2) := by decide +kernel
theorem dX0_scoreOf_67 : decode cX0_scoreOf 67 = .ok (.iconst 1, 1) := by decide +kernel
theorem dX0_scoreOf_68 : decode cX0_scoreOf 68 = .ok (.isub, 1) := by decide +kernel
theorem dX0_scoreOf_69 : decode cX0_scoreOf 69 = .ok (.iconst 2, 1) := by decide +kernel
theorem dX0_scoreOf_70 : decode cX0_scoreOf 70 = .ok (.idiv, 1) := by decide +kernel
theorem dX0_scoreOf_71 : decode cX0_scoreOf 71 = .ok (.iaload, 1) := by decide +kernel
theorem dX0_scoreOf_72 : decode cX0_scoreOf 72 = .ok (.aload_n 0, 1) := by decide +kernel
theorem dX0_scoreOf_73 : decode cX0_scoreOf 73 = .ok (.getfield 47, 3) := by decide +kernel
theorem dX0_scoreOf_76 : decode cX0_scoreOf 76 = .ok (.iload 4, 2) := by decide +kernel
theorem dX0_scoreOf_78 : decode cX0_scoreOf 78 = .ok (.iconst 2, 1) := by decide +kernel
theorem dX0_scoreOf_79 : decode cX0_scoreOf 79 = .ok (.idiv, 1) := by decide +kernel
theorem dX0_scoreOf_80 : decode cX0_scoreOf 80 = .ok (.iaload, 1) := by decide +kernel
theorem dX0_scoreOf_81 : decode cX0_scoreOf 81 = .ok (.iadd, 1) := by decide +kernel
theorem dX0_scoreOf_82 : decode cX0_scoreOf 82 = .ok (.imul, 1) := by decide +kernel
theorem dX0_scoreOf_83 : decode cX0_scoreOf 83 = .ok (.ireturn, 1) := by decide +kernel
theorem dX0_scoreOf_84 : decode cX0_scoreOf 84 = .ok (.ldc 196, 2) := by decide +kernel
theorem dX0_scoreOf_86 : decode cX0_scoreOf 86 = .ok (.aload_n 0, 1) := by decide +kernel
theorem dX0_scoreOf_87 : decode cX0_scoreOf 87 = .ok (.iload_n 1, 1) := by decide +kernel
theorem dX0_scoreOf_88 : decode cX0_scoreOf 88 = .ok (.iload_n 3, 1) := by decide +kernel
theorem dX0_scoreOf_89 : decode cX0_scoreOf 89 = .ok (.invokevirtual 197, 3) := by decide +kernel
theorem dX0_scoreOf_92 : decode cX0_scoreOf 92 = .ok (.imul, 1) := by decide +kernel
theorem dX0_scoreOf_93 : decode cX0_scoreOf 93 = .ok (.iload 4, 2) := by decide +kernel
theorem dX0_scoreOf_95 : decode cX0_scoreOf 95 = .ok (.idiv, 1) := by decide +kernel
theorem dX0_scoreOf_96 : decode cX0_scoreOf 96 = .ok (.ireturn, 1) := by decide +kernel
theorem dX0_scoreOf_97 : decode cX0_scoreOf 97 = .ok (.aload_n 0, 1) := by decide +kernel
theorem dX0_scoreOf_98 : decode cX0_scoreOf 98 = .ok (.iload_n 1, 1) := by decide +kernel
theorem dX0_scoreOf_99 : decode cX0_scoreOf 99 = .ok (.iload_n 3, 1) := by decide +kernel
theorem dX0_scoreOf_100 : decode cX0_scoreOf 100 = .ok (.invokevirtual 200, 3) := by decide +kernel
theorem dX0_scoreOf_103 : decode cX0_scoreOf 103 = .ok (.ireturn, 1) := by decide +kernel
theorem dX0_scoreOf_104 : decode cX0_scoreOf 104 = .ok (.aload_n 0, 1) := by decide +kernel
theorem dX0_scoreOf_105 : decode cX0_scoreOf 105 = .ok (.iload 4, 2) := by decide +kernel
theorem dX0_scoreOf_107 : decode cX0_scoreOf 107 = .ok (.invokevirtual 203, 3) := by decide +kernel
theorem dX0_scoreOf_110 : decode cX0_scoreOf 110 = .ok (.ireturn, 1) := by decide +kernel
theorem dX0_scoreOf_111 : decode cX0_scoreOf 111 = .ok (.aload_n 0, 1) := by decide +kernel
theorem dX0_scoreOf_112 : decode cX0_scoreOf 112 = .ok (.iconst 0, 1) := by decide +kernel
theorem dX0_scoreOf_113 : decode cX0_scoreOf 113 = .ok (.iload 4, 2) := by decide +kernel
theorem dX0_scoreOf_115 : decode cX0_scoreOf 115 = .ok (.invokevirtual 206, 3) := by decide +kernel
theorem dX0_scoreOf_118 : decode cX0_scoreOf 118 = .ok (.ireturn, 1) := by decide +kernel
set_option maxRecDepth 20000 in
theorem ggX0_sortMarks_X0_countedMark : GoodIn wsX0_sortMarks wsX0_countedMark := goodIn_r _ [6, 7, 8, 9, 10, 5, 11, 12, 13, 14, 20, 21, 22, 23, 24, 25, 26, 27, 28, 29, 30, 31, 32, 33, 34, 35] (by decide +kernel) (by decide +kernel)
set_option maxRecDepth 20000 in
theorem gX0_sortMarks_X0_countedMark : GoodIn wsX0_sortMarks (wsV RX0 186 RX0 yX0_countedMark wsX0_countedMark) := goodIn_app (goodIn_of _ (by decide +kernel)) ggX0_sortMarks_X0_countedMark
set_option maxRecDepth 20000 in
theorem ggX0_sortMarks_X0_insertMark : GoodIn wsX0_sortMarks wsX0_insertMark := goodIn_r _ [18, 19, 20, 21, 22, 23, 24, 25, 26, 27, 28, 29, 30, 31, 32, 33, 34, 35] (by decide +kernel) (by decide +kernel)
set_option maxRecDepth 20000 in
theorem gX0_sortMarks_X0_insertMark : GoodIn wsX0_sortMarks (wsV RX0 209 RX0 yX0_insertMark wsX0_insertMark) := goodIn_app (goodIn_of _ (by decide +kernel)) ggX0_sortMarks_X0_insertMark
theorem dX0_sortMarks_0 : decode cX0_sortMarks 0 = .ok (.iconst 0, 1) := by decide +kernel
theorem dX0_sortMarks_1 : decode cX0_sortMarks 1 = .ok (.istore_n 3, 1) := by decide +kernel
theorem dX0_sortMarks_2 : decode cX0_sortMarks 2 = .ok (.iconst 0, 1) := by decide +kernel
theorem dX0_sortMarks_3 : decode cX0_sortMarks 3 = .ok (.istore 4, 2) := by decide +kernel
theorem dX0_sortMarks_5 : decode cX0_sortMarks 5 = .ok (.iload 4, 2) := by decide +kernel
theorem dX0_sortMarks_7 : decode cX0_sortMarks 7 = .ok (.aload_n 0, 1) := by decide +kernel
theorem dX0_sortMarks_8 : decode cX0_sortMarks 8 = .ok (.getfield 13, 3) := by decide +kernel
theorem dX0_sortMarks_11 : decode cX0_sortMarks 11 = .ok (.if_icmp .ge 35, 3) := by decide +kernel
theorem dX0_sortMarks_14 : decode cX0_sortMarks 14 = .ok (.aload_n 0, 1) := by decide +kernel
theorem dX0_sortMarks_15 : decode cX0_sortMarks 15 = .ok (.iload_n 1, 1) := by decide +kernel
theorem dX0_sortMarks_16 : decode cX0_sortMarks 16 = .ok (.iload 4, 2) := by decide +kernel
theorem dX0_sortMarks_18 : decode cX0_sortMarks 18 = .ok (.iload_n 2, 1) := by decide +kernel
theorem dX0_sortMarks_19 : decode cX0_sortMarks 19 = .ok (.invokevirtual 186, 3) := by decide +kernel
theorem dX0_sortMarks_22 : decode cX0_sortMarks 22 = .ok (.istore 5, 2) := by decide +kernel
theorem dX0_sortMarks_24 : decode cX0_sortMarks 24 = .ok (.iload 5, 2) := by decide +kernel
theorem dX0_sortMarks_26 : decode cX0_sortMarks 26 = .ok (.iconst (-1), 1) := by decide +kernel
theorem dX0_sortMarks_27 : decode cX0_sortMarks 27 = .ok (.if_icmp .eq 13, 3) := by decide +kernel
theorem dX0_sortMarks_30 : decode cX0_sortMarks 30 = .ok (.aload_n 0, 1) := by decide +kernel
theorem dX0_sortMarks_31 : decode cX0_sortMarks 31 = .ok (.iload_n 3, 1) := by decide +kernel
theorem dX0_sortMarks_32 : decode cX0_sortMarks 32 = .ok (.iload 5, 2) := by decide +kernel
theorem dX0_sortMarks_34 : decode cX0_sortMarks 34 = .ok (.invokevirtual 209, 3) := by decide +kernel
theorem dX0_sortMarks_37 : decode cX0_sortMarks 37 = .ok (.iinc 3 1, 3) := by decide +kernel
theorem dX0_sortMarks_40 : decode cX0_sortMarks 40 = .ok (.iinc 4 1, 3) := by decide +kernel
theorem dX0_sortMarks_43 : decode cX0_sortMarks 43 = .ok (.goto (-38), 3) := by decide +kernel
theorem dX0_sortMarks_46 : decode cX0_sortMarks 46 = .ok (.iload_n 3, 1) := by decide +kernel
theorem dX0_sortMarks_47 : decode cX0_sortMarks 47 = .ok (.ireturn, 1) := by decide +kernel
theorem dX0_insertMark_0 : decode cX0_insertMark 0 = .ok (.iload_n 1, 1) := by decide +kernel
theorem dX0_insertMark_1 : decode cX0_insertMark 1 = .ok (.istore_n 3, 1) := by decide +kernel
theorem dX0_insertMark_2 : decode cX0_insertMark 2 = .ok (.iload_n 3, 1) := by decide +kernel
theorem dX0_insertMark_3 : decode cX0_insertMark 3 = .ok (.ifCond .le 35, 3) := by decide +kernel
theorem dX0_insertMark_6 : decode cX0_insertMark 6 = .ok (.aload_n 0, 1) := by decide +kernel
theorem dX0_insertMark_7 : decode cX0_insertMark 7 = .ok (.getfield 47, 3) := by decide +kernel
theorem dX0_insertMark_10 : decode cX0_insertMark 10 = .ok (.iload_n 3, 1) := by decide +kernel
theorem dX0_insertMark_11 : decode cX0_insertMark 11 = .ok (.iconst 1, 1) := by decide +kernel
theorem dX0_insertMark_12 : decode cX0_insertMark 12 = .ok (.isub, 1) := by decide +kernel
theorem dX0_insertMark_13 : decode cX0_insertMark 13 = .ok (.iaload, 1) := by decide +kernel
theorem dX0_insertMark_14 : decode cX0_insertMark 14 = .ok (.iload_n 2, 1) := by decide +kernel
theorem dX0_insertMark_15 : decode cX0_insertMark 15 = .ok (.if_icmp .le 23, 3) := by decide +kernel
theorem dX0_insertMark_18 : decode cX0_insertMark 18 = .ok (.aload_n 0, 1) := by decide +kernel
theorem dX0_insertMark_19 : decode cX0_insertMark 19 = .ok (.getfield 47, 3) := by decide +kernel
theorem dX0_insertMark_22 : decode cX0_insertMark 22 = .ok (.iload_n 3, 1) := by decide +kernel
theorem dX0_insertMark_23 : decode cX0_insertMark 23 = .ok (.aload_n 0, 1) := by decide +kernel
theorem dX0_insertMark_24 : decode cX0_insertMark 24 = .ok (.getfield 47, 3) := by decide +kernel
theorem dX0_insertMark_27 : decode cX0_insertMark 27 = .ok (.iload_n 3, 1) := by decide +kernel
theorem dX0_insertMark_28 : decode cX0_insertMark 28 = .ok (.iconst 1, 1) := by decide +kernel
theorem dX0_insertMark_29 : decode cX0_insertMark 29 = .ok (.isub, 1) := by decide +kernel
theorem dX0_insertMark_30 : decode cX0_insertMark 30 = .ok (.iaload, 1) := by decide +kernel
theorem dX0_insertMark_31 : decode cX0_insertMark 31 = .ok (.iastore, 1) := by decide +kernel
theorem dX0_insertMark_32 : decode cX0_insertMark 32 = .ok (.iinc 3 (-1), 3) := by decide +kernel
theorem dX0_insertMark_35 : decode cX0_insertMark 35 = .ok (.goto (-33), 3) := by decide +kernel
theorem dX0_insertMark_38 : decode cX0_insertMark 38 = .ok (.aload_n 0, 1) := by decide +kernel
theorem dX0_insertMark_39 : decode cX0_insertMark 39 = .ok (.getfield 47, 3) := by decide +kernel
theorem dX0_insertMark_42 : decode cX0_insertMark 42 = .ok (.iload_n 3, 1) := by decide +kernel
theorem dX0_insertMark_43 : decode cX0_insertMark 43 = .ok (.iload_n 2, 1) := by decide +kernel
theorem dX0_insertMark_44 : decode cX0_insertMark 44 = .ok (.iastore, 1) := by decide +kernel
theorem dX0_insertMark_45 : decode cX0_insertMark 45 = .ok (.return_, 1) := by decide +kernel
theorem dX0_sumBetween_0 : decode cX0_sumBetween 0 = .ok (.iconst 0, 1) := by decide +kernel
theorem dX0_sumBetween_1 : decode cX0_sumBetween 1 = .ok (.istore_n 3, 1) := by decide +kernel
theorem dX0_sumBetween_2 : decode cX0_sumBetween 2 = .ok (.iload_n 1, 1) := by decide +kernel
theorem dX0_sumBetween_3 : decode cX0_sumBetween 3 = .ok (.istore 4, 2) := by decide +kernel
theorem dX0_sumBetween_5 : decode cX0_sumBetween 5 = .ok (.iload 4, 2) := by decide +kernel
theorem dX0_sumBetween_7 : decode cX0_sumBetween 7 = .ok (.iload_n 2, 1) := by decide +kernel
theorem dX0_sumBetween_8 : decode cX0_sumBetween 8 = .ok (.if_icmp .ge 19, 3) := by decide +kernel
theorem dX0_sumBetween_11 : decode cX0_sumBetween 11 = .ok (.iload_n 3, 1) := by decide +kernel
theorem dX0_sumBetween_12 : decode cX0_sumBetween 12 = .ok (.aload_n 0, 1) := by decide +kernel
theorem dX0_sumBetween_13 : decode cX0_sumBetween 13 = .ok (.getfield 47, 3) := by decide +kernel
theorem dX0_sumBetween_16 : decode cX0_sumBetween 16 = .ok (.iload 4, 2) := by decide +kernel
theorem dX0_sumBetween_18 : decode cX0_sumBetween 18 = .ok (.iaload, 1) := by decide +kernel
theorem dX0_sumBetween_19 : decode cX0_sumBetween 19 = .ok (.iadd, 1) := by decide +kernel
theorem dX0_sumBetween_20 : decode cX0_sumBetween 20 = .ok (.istore_n 3, 1) := by decide +kernel
theorem dX0_sumBetween_21 : decode cX0_sumBetween 21 = .ok (.iinc 4 1, 3) := by decide +kernel
theorem dX0_sumBetween_24 : decode cX0_sumBetween 24 = .ok (.goto (-19), 3) := by decide +kernel
theorem dX0_sumBetween_27 : decode cX0_sumBetween 27 = .ok (.iload_n 3, 1) := by decide +kernel
theorem dX0_sumBetween_28 : decode cX0_sumBetween 28 = .ok (.ireturn, 1) := by decide +kernel
set_option maxRecDepth 20000 in
theorem ggX0_meanBetween_X0_sumBetween : GoodIn wsX0_meanBetween wsX0_sumBetween := goodIn_r _ [6, 7, 8, 9, 10, 11, 12, 13, 14, 15, 16, 17, 18, 19, 20, 21, 22, 23] (by decide +kernel) (by decide +kernel)
set_option maxRecDepth 20000 in
theorem gX0_meanBetween_X0_sumBetween : GoodIn wsX0_meanBetween (wsV RX0 212 RX0 yX0_sumBetween wsX0_sumBetween) := goodIn_app (goodIn_of _ (by decide +kernel)) ggX0_meanBetween_X0_sumBetween
theorem dX0_meanBetween_0 : decode cX0_meanBetween 0 = .ok (.iload_n 2, 1) := by decide +kernel
theorem dX0_meanBetween_1 : decode cX0_meanBetween 1 = .ok (.iload_n 1, 1) := by decide +kernel
theorem dX0_meanBetween_2 : decode cX0_meanBetween 2 = .ok (.if_icmp .gt 5, 3) := by decide +kernel
theorem dX0_meanBetween_5 : decode cX0_meanBetween 5 = .ok (.iconst (-1), 1) := by decide +kernel
theorem dX0_meanBetween_6 : decode cX0_meanBetween 6 = .ok (.ireturn, 1) := by decide +kernel
theorem dX0_meanBetween_7 : decode cX0_meanBetween 7 = .ok (.ldc 196, 2) := by decide +kernel
theorem dX0_meanBetween_9 : decode cX0_meanBetween 9 = .ok (.aload_n 0, 1) := by decide +kernel
theorem dX0_meanBetween_10 : decode cX0_meanBetween 10 = .ok (.iload_n 1, 1) := by decide +kernel
theorem dX0_meanBetween_11 : decode cX0_meanBetween 11 = .ok (.iload_n 2, 1) := by decide +kernel
theorem dX0_meanBetween_12 : decode cX0_meanBetween 12 = .ok (.invokevirtual 212, 3) := by decide +kernel
theorem dX0_meanBetween_15 : decode cX0_meanBetween 15 = .ok (.imul, 1) := by decide +kernel
theorem dX0_meanBetween_16 : decode cX0_meanBetween 16 = .ok (.iload_n 2, 1) := by decide +kernel
theorem dX0_meanBetween_17 : decode cX0_meanBetween 17 = .ok (.iload_n 1, 1) := by decide +kernel
theorem dX0_meanBetween_18 : decode cX0_meanBetween 18 = .ok (.isub, 1) := by decide +kernel
theorem dX0_meanBetween_19 : decode cX0_meanBetween 19 = .ok (.idiv, 1) := by decide +kernel
theorem dX0_meanBetween_20 : decode cX0_meanBetween 20 = .ok (.ireturn, 1) := by decide +kernel
set_option maxRecDepth 20000 in
theorem ggX0_cutMean_X0_meanBetween : GoodIn wsX0_cutMean wsX0_meanBetween := goodIn_r _ [6, 7, 8, 9, 10, 5, 11, 12, 13, 14, 15, 16, 17, 18, 19, 20, 21, 22, 23, 24, 25, 26, 27, 28] (by decide +kernel) (by decide +kernel)
set_option maxRecDepth 20000 in
theorem gX0_cutMean_X0_meanBetween : GoodIn wsX0_cutMean (wsV RX0 206 RX0 yX0_meanBetween wsX0_meanBetween) := goodIn_app (goodIn_of _ (by decide +kernel)) ggX0_cutMean_X0_meanBetween
theorem dX0_cutMean_0 : decode cX0_cutMean 0 = .ok (.iload_n 1, 1) := by decide +kernel
theorem dX0_cutMean_1 : decode cX0_cutMean 1 = .ok (.iconst 2, 1) := by decide +kernel
theorem dX0_cutMean_2 : decode cX0_cutMean 2 = .ok (.aload_n 0, 1) := by decide +kernel
theorem dX0_cutMean_3 : decode cX0_cutMean 3 = .ok (.getfield 26, 3) := by decide +kernel
theorem dX0_cutMean_6 : decode cX0_cutMean 6 = .ok (.iconst 0, 1) := by decide +kernel
theorem dX0_cutMean_7 : decode cX0_cutMean 7 = .ok (.iaload, 1) := by decide +kernel
theorem dX0_cutMean_8 : decode cX0_cutMean 8 = .ok (.imul, 1) := by decide +kernel
theorem dX0_cutMean_9 : decode cX0_cutMean 9 = .ok (.if_icmp .le 12, 3) := by decide +kernel
theorem dX0_cutMean_12 : decode cX0_cutMean 12 = .ok (.aload_n 0, 1) := by decide +kernel
theorem dX0_cutMean_13 : decode cX0_cutMean 13 = .ok (.getfield 26, 3) := by decide +kernel
theorem dX0_cutMean_16 : decode cX0_cutMean 16 = .ok (.iconst 0, 1) := by decide +kernel
theorem dX0_cutMean_17 : decode cX0_cutMean 17 = .ok (.iaload, 1) := by decide +kernel
theorem dX0_cutMean_18 : decode cX0_cutMean 18 = .ok (.goto 4, 3) := by decide +kernel
theorem dX0_cutMean_21 : decode cX0_cutMean 21 = .ok (.iconst 0, 1) := by decide +kernel
theorem dX0_cutMean_22 : decode cX0_cutMean 22 = .ok (.istore_n 2, 1) := by decide +kernel
theorem dX0_cutMean_23 : decode cX0_cutMean 23 = .ok (.aload_n 0, 1) := by decide +kernel
theorem dX0_cutMean_24 : decode cX0_cutMean 24 = .ok (.iload_n 2, 1) := by decide +kernel
theorem dX0_cutMean_25 : decode cX0_cutMean 25 = .ok (.iload_n 1, 1) := by decide +kernel
theorem dX0_cutMean_26 : decode cX0_cutMean 26 = .ok (.iload_n 2, 1) := by decide +kernel
theorem dX0_cutMean_27 : decode cX0_cutMean 27 = .ok (.isub, 1) := by decide +kernel
theorem dX0_cutMean_28 : decode cX0_cutMean 28 = .ok (.invokevirtual 206, 3) := by decide +kernel
theorem dX0_cutMean_31 : decode cX0_cutMean 31 = .ok (.ireturn, 1) := by decide +kernel
set_option maxRecDepth 20000 in
theorem ggX0_pulledMean_X0_sumBetween : GoodIn wsX0_pulledMean wsX0_sumBetween := goodIn_r _ [15, 2, 16, 17, 18, 19, 20, 21, 22, 23, 24, 25, 26, 27, 28, 29, 30, 31] (by decide +kernel) (by decide +kernel)
set_option maxRecDepth 20000 in
theorem gX0_pulledMean_X0_sumBetween : GoodIn wsX0_pulledMean (wsV RX0 212 RX0 yX0_sumBetween wsX0_sumBetween) := goodIn_app (goodIn_of _ (by decide +kernel)) ggX0_pulledMean_X0_sumBetween
theorem dX0_pulledMean_0 : decode cX0_pulledMean 0 = .ok (.iload_n 1, 1) := by decide +kernel
theorem dX0_pulledMean_1 : decode cX0_pulledMean 1 = .ok (.iconst 1, 1) := by decide +kernel
theorem dX0_pulledMean_2 : decode cX0_pulledMean 2 = .ok (.if_icmp .ge 5, 3) := by decide +kernel
theorem dX0_pulledMean_5 : decode cX0_pulledMean 5 = .ok (.iconst (-1), 1) := by decide +kernel
theorem dX0_pulledMean_6 : decode cX0_pulledMean 6 = .ok (.ireturn, 1) := by decide +kernel
theorem dX0_pulledMean_7 : decode cX0_pulledMean 7 = .ok (.aload_n 0, 1) := by decide +kernel
theorem dX0_pulledMean_8 : decode cX0_pulledMean 8 = .ok (.iconst 0, 1) := by decide +kernel
theorem dX0_pulledMean_9 : decode cX0_pulledMean 9 = .ok (.iload_n 1, 1) := by decide +kernel
theorem dX0_pulledMean_10 : decode cX0_pulledMean 10 = .ok (.invokevirtual 212, 3) := by decide +kernel
theorem dX0_pulledMean_13 : decode cX0_pulledMean 13 = .ok (.istore_n 2, 1) := by decide +kernel
theorem dX0_pulledMean_14 : decode cX0_pulledMean 14 = .ok (.iload_n 2, 1) := by decide +kernel
theorem dX0_pulledMean_15 : decode cX0_pulledMean 15 = .ok (.iload_n 1, 1) := by decide +kernel
theorem dX0_pulledMean_16 : decode cX0_pulledMean 16 = .ok (.aload_n 0, 1) := by decide +kernel
theorem dX0_pulledMean_17 : decode cX0_pulledMean 17 = .ok (.getfield 26, 3) := by decide +kernel
theorem dX0_pulledMean_20 : decode cX0_pulledMean 20 = .ok (.iconst 1, 1) := by decide +kernel
theorem dX0_pulledMean_21 : decode cX0_pulledMean 21 = .ok (.iaload, 1) := by decide +kernel
theorem dX0_pulledMean_22 : decode cX0_pulledMean 22 = .ok (.imul, 1) := by decide +kernel
theorem dX0_pulledMean_23 : decode cX0_pulledMean 23 = .ok (.isub, 1) := by decide +kernel
theorem dX0_pulledMean_24 : decode cX0_pulledMean 24 = .ok (.istore_n 3, 1) := by decide +kernel
theorem dX0_pulledMean_25 : decode cX0_pulledMean 25 = .ok (.iload_n 2, 1) := by decide +kernel
theorem dX0_pulledMean_26 : decode cX0_pulledMean 26 = .ok (.iload_n 1, 1) := by decide +kernel
theorem dX0_pulledMean_27 : decode cX0_pulledMean 27 = .ok (.aload_n 0, 1) := by decide +kernel
theorem dX0_pulledMean_28 : decode cX0_pulledMean 28 = .ok (.getfield 26, 3) := by decide +kernel
theorem dX0_pulledMean_31 : decode cX0_pulledMean 31 = .ok (.iconst 1, 1) := by decide +kernel
theorem dX0_pulledMean_32 : decode cX0_pulledMean 32 = .ok (.iaload, 1) := by decide +kernel
theorem dX0_pulledMean_33 : decode cX0_pulledMean 33 = .ok (.imul, 1) := by decide +kernel
theorem dX0_pulledMean_34 : decode cX0_pulledMean 34 = .ok (.iadd, 1) := by decide +kernel
theorem dX0_pulledMean_35 : decode cX0_pulledMean 35 = .ok (.istore 4, 2) := by decide +kernel
theorem dX0_pulledMean_37 : decode cX0_pulledMean 37 = .ok (.iconst 0, 1) := by decide +kernel
theorem dX0_pulledMean_38 : decode cX0_pulledMean 38 = .ok (.istore 5, 2) := by decide +kernel
theorem dX0_pulledMean_40 : decode cX0_pulledMean 40 = .ok (.iconst 0, 1) := by decide +kernel
theorem dX0_pulledMean_41 : decode cX0_pulledMean 41 = .ok (.istore 6, 2) := by decide +kernel
theorem dX0_pulledMean_43 : decode cX0_pulledMean 43 = .ok (.iload 6, 2) := by decide +kernel
theorem dX0_pulledMean_45 : decode cX0_pulledMean 45 = .ok (.iload_n 1, 1) := by decide +kernel
theorem dX0_pulledMean_46 : decode cX0_pulledMean 46 = .ok (.if_icmp .ge 32, 3) := by decide +kernel
theorem dX0_pulledMean_49 : decode cX0_pulledMean 49 = .ok (.iload 5, 2) := by decide +kernel
theorem dX0_pulledMean_51 : decode cX0_pulledMean 51 = .ok (.iload 4, 2) := by decide +kernel
theorem dX0_pulledMean_53 : decode cX0_pulledMean 53 = .ok (.iload_n 3, 1) := by decide +kernel
theorem dX0_pulledMean_54 : decode cX0_pulledMean 54 = .ok (.iload_n 1, 1) := by decide +kernel
theorem dX0_pulledMean_55 : decode cX0_pulledMean 55 = .ok (.aload_n 0, 1) := by decide +kernel
theorem dX0_pulledMean_56 : decode cX0_pulledMean 56 = .ok (.getfield 47, 3) := by decide +kernel
theorem dX0_pulledMean_59 : decode cX0_pulledMean 59 = .ok (.iload 6, 2) := by decide +kernel
theorem dX0_pulledMean_61 : decode cX0_pulledMean 61 = .ok (.iaload, 1) := by decide +kernel
theorem dX0_pulledMean_62 : decode cX0_pulledMean 62 = .ok (.imul, 1) := by decide +kernel
theorem dX0_pulledMean_63 : decode cX0_pulledMean 63 = .ok (.invokestatic 215, 3) := by decide +kernel
theorem dX0_pulledMean_66 : decode cX0_pulledMean 66 = .ok (.invokestatic 220, 3) := by decide +kernel
theorem dX0_pulledMean_69 : decode cX0_pulledMean 69 = .ok (.iadd, 1) := by decide +kernel
theorem dX0_pulledMean_70 : decode cX0_pulledMean 70 = .ok (.istore 5, 2) := by decide +kernel
theorem dX0_pulledMean_72 : decode cX0_pulledMean 72 = .ok (.iinc 6 1, 3) := by decide +kernel
theorem dX0_pulledMean_75 : decode cX0_pulledMean 75 = .ok (.goto (-32), 3) := by decide +kernel
theorem dX0_pulledMean_78 : decode cX0_pulledMean 78 = .ok (.ldc 196, 2) := by decide +kernel
theorem dX0_pulledMean_80 : decode cX0_pulledMean 80 = .ok (.iload_n 1, 1) := by decide +kernel
theorem dX0_pulledMean_81 : decode cX0_pulledMean 81 = .ok (.iload_n 1, 1) := by decide +kernel
theorem dX0_pulledMean_82 : decode cX0_pulledMean 82 = .ok (.imul, 1) := by decide +kernel
theorem dX0_pulledMean_83 : decode cX0_pulledMean 83 = .ok (.idiv, 1) := by decide +kernel
theorem dX0_pulledMean_84 : decode cX0_pulledMean 84 = .ok (.iload 5, 2) := by decide +kernel
theorem dX0_pulledMean_86 : decode cX0_pulledMean 86 = .ok (.imul, 1) := by decide +kernel
theorem dX0_pulledMean_87 : decode cX0_pulledMean 87 = .ok (.ireturn, 1) := by decide +kernel
set_option maxRecDepth 20000 in
theorem ggX0_countYeses_X0_countedMark : GoodIn wsX0_countYeses wsX0_countedMark := goodIn_r _ [7, 8, 9, 10, 11, 6, 12, 13, 14, 15, 16, 17, 18, 19, 20, 21, 22, 23, 24, 25, 26, 27, 28, 29, 30, 31] (by decide +kernel) (by decide +kernel)
set_option maxRecDepth 20000 in
theorem gX0_countYeses_X0_countedMark : GoodIn wsX0_countYeses (wsV RX0 186 RX0 yX0_countedMark wsX0_countedMark) := goodIn_app (goodIn_of _ (by decide +kernel)) ggX0_countYeses_X0_countedMark
set_option maxRecDepth 20000 in
theorem ggX0_countYeses_X0_cellOf : GoodIn wsX0_countYeses wsX0_cellOf := goodIn_r _ [15] (by decide +kernel) (by decide +kernel)
set_option maxRecDepth 20000 in
theorem gX0_countYeses_X0_cellOf : GoodIn wsX0_countYeses (va_wsS RX0 82 yX0_cellOf wsX0_cellOf) := goodIn_app (goodIn_of _ (by decide +kernel)) ggX0_countYeses_X0_cellOf
theorem dX0_countYeses_0 : decode cX0_countYeses 0 = .ok (.iconst 0, 1) := by decide +kernel
theorem dX0_countYeses_1 : decode cX0_countYeses 1 = .ok (.istore_n 3, 1) := by decide +kernel
theorem dX0_countYeses_2 : decode cX0_countYeses 2 = .ok (.iconst 0, 1) := by decide +kernel
theorem dX0_countYeses_3 : decode cX0_countYeses 3 = .ok (.istore 4, 2) := by decide +kernel
theorem dX0_countYeses_5 : decode cX0_countYeses 5 = .ok (.iload 4, 2) := by decide +kernel
theorem dX0_countYeses_7 : decode cX0_countYeses 7 = .ok (.aload_n 0, 1) := by decide +kernel
theorem dX0_countYeses_8 : decode cX0_countYeses 8 = .ok (.getfield 13, 3) := by decide +kernel
theorem dX0_countYeses_11 : decode cX0_countYeses 11 = .ok (.if_icmp .ge 36, 3) := by decide +kernel
theorem dX0_countYeses_14 : decode cX0_countYeses 14 = .ok (.aload_n 0, 1) := by decide +kernel
theorem dX0_countYeses_15 : decode cX0_countYeses 15 = .ok (.iload_n 1, 1) := by decide +kernel
theorem dX0_countYeses_16 : decode cX0_countYeses 16 = .ok (.iload 4, 2) := by decide +kernel
theorem dX0_countYeses_18 : decode cX0_countYeses 18 = .ok (.iload_n 2, 1) := by decide +kernel
theorem dX0_countYeses_19 : decode cX0_countYeses 19 = .ok (.invokevirtual 186, 3) := by decide +kernel
theorem dX0_countYeses_22 : decode cX0_countYeses 22 = .ok (.iconst (-1), 1) := by decide +kernel
theorem dX0_countYeses_23 : decode cX0_countYeses 23 = .ok (.if_icmp .eq 18, 3) := by decide +kernel
theorem dX0_countYeses_26 : decode cX0_countYeses 26 = .ok (.iload_n 3, 1) := by decide +kernel
theorem dX0_countYeses_27 : decode cX0_countYeses 27 = .ok (.aload_n 0, 1) := by decide +kernel
theorem dX0_countYeses_28 : decode cX0_countYeses 28 = .ok (.getfield 20, 3) := by decide +kernel
theorem dX0_countYeses_31 : decode cX0_countYeses 31 = .ok (.iload_n 1, 1) := by decide +kernel
theorem dX0_countYeses_32 : decode cX0_countYeses 32 = .ok (.iload 4, 2) := by decide +kernel
theorem dX0_countYeses_34 : decode cX0_countYeses 34 = .ok (.iload_n 2, 1) := by decide +kernel
theorem dX0_countYeses_35 : decode cX0_countYeses 35 = .ok (.invokestatic 82, 3) := by decide +kernel
theorem dX0_countYeses_38 : decode cX0_countYeses 38 = .ok (.iaload, 1) := by decide +kernel
theorem dX0_countYeses_39 : decode cX0_countYeses 39 = .ok (.iadd, 1) := by decide +kernel
theorem dX0_countYeses_40 : decode cX0_countYeses 40 = .ok (.istore_n 3, 1) := by decide +kernel
theorem dX0_countYeses_41 : decode cX0_countYeses 41 = .ok (.iinc 4 1, 3) := by decide +kernel
theorem dX0_countYeses_44 : decode cX0_countYeses 44 = .ok (.goto (-39), 3) := by decide +kernel
theorem dX0_countYeses_47 : decode cX0_countYeses 47 = .ok (.iload_n 3, 1) := by decide +kernel
theorem dX0_countYeses_48 : decode cX0_countYeses 48 = .ok (.ireturn, 1) := by decide +kernel
set_option maxRecDepth 20000 in
theorem ggX0_pairScore_X0_isMarked : GoodIn wsX0_pairScore wsX0_isMarked := goodIn_r _ [6, 7, 8, 9, 10, 5, 11, 12, 13, 14, 15, 16, 17, 18, 19, 28, 29, 30, 31, 32, 33, 34, 35, 36, 37, 38, 39, 40, 41, 42, 43] (by decide +kernel) (by decide +kernel)
set_option maxRecDepth 20000 in
theorem gX0_pairScore_X0_isMarked : GoodIn wsX0_pairScore (wsV RX0 223 RX0 yX0_isMarked wsX0_isMarked) := goodIn_app (goodIn_of _ (by decide +kernel)) ggX0_pairScore_X0_isMarked
set_option maxRecDepth 20000 in
theorem ggX0_pairScore_X0_duel : GoodIn wsX0_pairScore wsX0_duel := goodIn_r _ [23, 7, 8, 9, 10, 5, 11, 12, 13, 14, 15, 16, 17, 18, 19, 24, 25, 26, 27, 28, 29, 30, 31, 32, 33, 34, 35, 36, 37, 38, 39, 40, 41, 42, 43] (by decide +kernel) (by decide +kernel)
set_option maxRecDepth 20000 in
theorem gX0_pairScore_X0_duel : GoodIn wsX0_pairScore (wsV RX0 100 RX0 yX0_duel wsX0_duel) := goodIn_app (goodIn_of _ (by decide +kernel)) ggX0_pairScore_X0_duel
theorem dX0_pairScore_0 : decode cX0_pairScore 0 = .ok (.iconst 0, 1) := by decide +kernel
theorem dX0_pairScore_1 : decode cX0_pairScore 1 = .ok (.istore_n 3, 1) := by decide +kernel
theorem dX0_pairScore_2 : decode cX0_pairScore 2 = .ok (.iconst 0, 1) := by decide +kernel
theorem dX0_pairScore_3 : decode cX0_pairScore 3 = .ok (.istore 4, 2) := by decide +kernel
theorem dX0_pairScore_5 : decode cX0_pairScore 5 = .ok (.iload 4, 2) := by decide +kernel
theorem dX0_pairScore_7 : decode cX0_pairScore 7 = .ok (.aload_n 0, 1) := by decide +kernel
theorem dX0_pairScore_8 : decode cX0_pairScore 8 = .ok (.getfield 7, 3) := by decide +kernel
theorem dX0_pairScore_11 : decode cX0_pairScore 11 = .ok (.if_icmp .ge 38, 3) := by decide +kernel
theorem dX0_pairScore_14 : decode cX0_pairScore 14 = .ok (.iload 4, 2) := by decide +kernel
theorem dX0_pairScore_16 : decode cX0_pairScore 16 = .ok (.iload_n 2, 1) := by decide +kernel
theorem dX0_pairScore_17 : decode cX0_pairScore 17 = .ok (.if_icmp .eq 26, 3) := by decide +kernel
theorem dX0_pairScore_20 : decode cX0_pairScore 20 = .ok (.aload_n 0, 1) := by decide +kernel
theorem dX0_pairScore_21 : decode cX0_pairScore 21 = .ok (.iload_n 1, 1) := by decide +kernel
theorem dX0_pairScore_22 : decode cX0_pairScore 22 = .ok (.iload 4, 2) := by decide +kernel
theorem dX0_pairScore_24 : decode cX0_pairScore 24 = .ok (.invokevirtual 223, 3) := by decide +kernel
theorem dX0_pairScore_27 : decode cX0_pairScore 27 = .ok (.ifCond .eq 16, 3) := by decide +kernel
theorem dX0_pairScore_30 : decode cX0_pairScore 30 = .ok (.iload_n 3, 1) := by decide +kernel
theorem dX0_pairScore_31 : decode cX0_pairScore 31 = .ok (.iconst 1, 1) := by decide +kernel
theorem dX0_pairScore_32 : decode cX0_pairScore 32 = .ok (.aload_n 0, 1) := by decide +kernel
theorem dX0_pairScore_33 : decode cX0_pairScore 33 = .ok (.iload_n 1, 1) := by decide +kernel
theorem dX0_pairScore_34 : decode cX0_pairScore 34 = .ok (.iload_n 2, 1) := by decide +kernel
theorem dX0_pairScore_35 : decode cX0_pairScore 35 = .ok (.iload 4, 2) := by decide +kernel
theorem dX0_pairScore_37 : decode cX0_pairScore 37 = .ok (.invokevirtual 100, 3) := by decide +kernel
theorem dX0_pairScore_40 : decode cX0_pairScore 40 = .ok (.iadd, 1) := by decide +kernel
theorem dX0_pairScore_41 : decode cX0_pairScore 41 = .ok (.iadd, 1) := by decide +kernel
theorem dX0_pairScore_42 : decode cX0_pairScore 42 = .ok (.istore_n 3, 1) := by decide +kernel
theorem dX0_pairScore_43 : decode cX0_pairScore 43 = .ok (.iinc 4 1, 3) := by decide +kernel
theorem dX0_pairScore_46 : decode cX0_pairScore 46 = .ok (.goto (-41), 3) := by decide +kernel
theorem dX0_pairScore_49 : decode cX0_pairScore 49 = .ok (.iload_n 3, 1) := by decide +kernel
theorem dX0_pairScore_50 : decode cX0_pairScore 50 = .ok (.ireturn, 1) := by decide +kernel
set_option maxRecDepth 20000 in
theorem ggX0_duel_X0_countedMark : GoodIn wsX0_duel wsX0_countedMark := goodIn_r _ [6, 7, 8, 9, 10, 5, 11, 12, 13, 14, 19, 20, 21, 22, 23, 24, 25, 26, 27, 28, 29, 30, 31, 32, 33, 34] (by decide +kernel) (by decide +kernel)
set_option maxRecDepth 20000 in
theorem gX0_duel_X0_countedMark : GoodIn wsX0_duel (wsV RX0 186 RX0 yX0_countedMark wsX0_countedMark) := goodIn_app (goodIn_of _ (by decide +kernel)) ggX0_duel_X0_countedMark
set_option maxRecDepth 20000 in
theorem ggX0_duel_J6_compare_7cf53 : GoodIn wsX0_duel wsJ6_compare_7cf53 := goodIn_r _ [18] (by decide +kernel) (by decide +kernel)
set_option maxRecDepth 20000 in
theorem gX0_duel_J6_compare_7cf53 : GoodIn wsX0_duel (va_wsS RX0 226 yJ6_compare_7cf53 wsJ6_compare_7cf53) := goodIn_app (goodIn_of _ (by decide +kernel)) ggX0_duel_J6_compare_7cf53
theorem dX0_duel_0 : decode cX0_duel 0 = .ok (.iconst 0, 1) := by decide +kernel
theorem dX0_duel_1 : decode cX0_duel 1 = .ok (.istore 4, 2) := by decide +kernel
theorem dX0_duel_3 : decode cX0_duel 3 = .ok (.iconst 0, 1) := by decide +kernel
theorem dX0_duel_4 : decode cX0_duel 4 = .ok (.istore 5, 2) := by decide +kernel
theorem dX0_duel_6 : decode cX0_duel 6 = .ok (.iload 5, 2) := by decide +kernel
theorem dX0_duel_8 : decode cX0_duel 8 = .ok (.aload_n 0, 1) := by decide +kernel
theorem dX0_duel_9 : decode cX0_duel 9 = .ok (.getfield 13, 3) := by decide +kernel
theorem dX0_duel_12 : decode cX0_duel 12 = .ok (.if_icmp .ge 53, 3) := by decide +kernel
theorem dX0_duel_15 : decode cX0_duel 15 = .ok (.aload_n 0, 1) := by decide +kernel
theorem dX0_duel_16 : decode cX0_duel 16 = .ok (.iload_n 1, 1) := by decide +kernel
theorem dX0_duel_17 : decode cX0_duel 17 = .ok (.iload 5, 2) := by decide +kernel
theorem dX0_duel_19 : decode cX0_duel 19 = .ok (.iload_n 2, 1) := by decide +kernel
theorem dX0_duel_20 : decode cX0_duel 20 = .ok (.invokevirtual 186, 3) := by decide +kernel
theorem dX0_duel_23 : decode cX0_duel 23 = .ok (.istore 6, 2) := by decide +kernel
theorem dX0_duel_25 : decode cX0_duel 25 = .ok (.aload_n 0, 1) := by decide +kernel
theorem dX0_duel_26 : decode cX0_duel 26 = .ok (.iload_n 1, 1) := by decide +kernel
theorem dX0_duel_27 : decode cX0_duel 27 = .ok (.iload 5, 2) := by decide +kernel
theorem dX0_duel_29 : decode cX0_duel 29 = .ok (.iload_n 3, 1) := by decide +kernel
theorem dX0_duel_30 : decode cX0_duel 30 = .ok (.invokevirtual 186, 3) := by decide +kernel
theorem dX0_duel_33 : decode cX0_duel 33 = .ok (.istore 7, 2) := by decide +kernel
theorem dX0_duel_35 : decode cX0_duel 35 = .ok (.iload 6, 2) := by decide +kernel
theorem dX0_duel_37 : decode cX0_duel 37 = .ok (.iconst (-1), 1) := by decide +kernel
theorem dX0_duel_38 : decode cX0_duel 38 = .ok (.if_icmp .eq 21, 3) := by decide +kernel
theorem dX0_duel_41 : decode cX0_duel 41 = .ok (.iload 7, 2) := by decide +kernel
theorem dX0_duel_43 : decode cX0_duel 43 = .ok (.iconst (-1), 1) := by decide +kernel
theorem dX0_duel_44 : decode cX0_duel 44 = .ok (.if_icmp .eq 15, 3) := by decide +kernel
theorem dX0_duel_47 : decode cX0_duel 47 = .ok (.iload 4, 2) := by decide +kernel
theorem dX0_duel_49 : decode cX0_duel 49 = .ok (.iload 6, 2) := by decide +kernel
theorem dX0_duel_51 : decode cX0_duel 51 = .ok (.iload 7, 2) := by decide +kernel
theorem dX0_duel_53 : decode cX0_duel 53 = .ok (.invokestatic 226, 3) := by decide +kernel
theorem dX0_duel_56 : decode cX0_duel 56 = .ok (.iadd, 1) := by decide +kernel
theorem dX0_duel_57 : decode cX0_duel 57 = .ok (.istore 4, 2) := by decide +kernel
theorem dX0_duel_59 : decode cX0_duel 59 = .ok (.iinc 5 1, 3) := by decide +kernel
theorem dX0_duel_62 : decode cX0_duel 62 = .ok (.goto (-56), 3) := by decide +kernel
theorem dX0_duel_65 : decode cX0_duel 65 = .ok (.iload 4, 2) := by decide +kernel
theorem dX0_duel_67 : decode cX0_duel 67 = .ok (.iconst 0, 1) := by decide +kernel
theorem dX0_duel_68 : decode cX0_duel 68 = .ok (.invokestatic 226, 3) := by decide +kernel
theorem dX0_duel_71 : decode cX0_duel 71 = .ok (.ireturn, 1) := by decide +kernel
set_option maxRecDepth 20000 in
theorem ggX0_fillScores_X0_scoreOf : GoodIn wsX0_fillScores wsX0_scoreOf := goodIn_r _ [7, 8, 9, 10, 11, 12, 13, 6, 14, 15, 16, 17, 18, 19, 20, 21, 22, 23, 24, 25, 26, 27, 28, 29, 30, 31, 32, 33, 34, 35, 36, 37, 38, 39, 40, 41, 42, 43, 44, 45, 46, 47, 48, 49, 50, 51, 52, 53, 1, 54, 55, 56, 57, 58, 59, 60, 61, 62, 63, 64, 65, 66, 67, 68, 69, 70, 71, 72, 73, 74, 75, 76, 77, 78, 79, 80, 81, 82, 83, 84, 85, 86, 87, 88, 89, 90, 91, 92] (by decide +kernel) (by decide +kernel)
set_option maxRecDepth 20000 in
theorem gX0_fillScores_X0_scoreOf : GoodIn wsX0_fillScores (wsV RX0 97 RX0 yX0_scoreOf wsX0_scoreOf) := goodIn_app (goodIn_of _ (by decide +kernel)) ggX0_fillScores_X0_scoreOf
theorem dX0_fillScores_0 : decode cX0_fillScores 0 = .ok (.iconst 0, 1) := by decide +kernel
theorem dX0_fillScores_1 : decode cX0_fillScores 1 = .ok (.istore_n 3, 1) := by decide +kernel
theorem dX0_fillScores_2 : decode cX0_fillScores 2 = .ok (.iload_n 3, 1) := by decide +kernel
theorem dX0_fillScores_3 : decode cX0_fillScores 3 = .ok (.aload_n 0, 1) := by decide +kernel
theorem dX0_fillScores_4 : decode cX0_fillScores 4 = .ok (.getfield 7, 3) := by decide +kernel
theorem dX0_fillScores_7 : decode cX0_fillScores 7 = .ok (.if_icmp .ge 22, 3) := by decide +kernel
theorem dX0_fillScores_10 : decode cX0_fillScores 10 = .ok (.aload_n 0, 1) := by decide +kernel
theorem dX0_fillScores_11 : decode cX0_fillScores 11 = .ok (.getfield 50, 3) := by decide +kernel
theorem dX0_fillScores_14 : decode cX0_fillScores 14 = .ok (.iload_n 3, 1) := by decide +kernel
theorem dX0_fillScores_15 : decode cX0_fillScores 15 = .ok (.aload_n 0, 1) := by decide +kernel
theorem dX0_fillScores_16 : decode cX0_fillScores 16 = .ok (.iload_n 1, 1) := by decide +kernel
theorem dX0_fillScores_17 : decode cX0_fillScores 17 = .ok (.iload_n 2, 1) := by decide +kernel
theorem dX0_fillScores_18 : decode cX0_fillScores 18 = .ok (.iload_n 3, 1) := by decide +kernel
theorem dX0_fillScores_19 : decode cX0_fillScores 19 = .ok (.invokevirtual 97, 3) := by decide +kernel
theorem dX0_fillScores_22 : decode cX0_fillScores 22 = .ok (.iastore, 1) := by decide +kernel
theorem dX0_fillScores_23 : decode cX0_fillScores 23 = .ok (.iinc 3 1, 3) := by decide +kernel
theorem dX0_fillScores_26 : decode cX0_fillScores 26 = .ok (.goto (-24), 3) := by decide +kernel
theorem dX0_fillScores_29 : decode cX0_fillScores 29 = .ok (.return_, 1) := by decide +kernel
set_option maxRecDepth 20000 in
theorem ggX0_fillScoresIf_X0_cellOf : GoodIn wsX0_fillScoresIf wsX0_cellOf := goodIn_r _ [6] (by decide +kernel) (by decide +kernel)
set_option maxRecDepth 20000 in
theorem gX0_fillScoresIf_X0_cellOf : GoodIn wsX0_fillScoresIf (va_wsS RX0 82 yX0_cellOf wsX0_cellOf) := goodIn_app (goodIn_of _ (by decide +kernel)) ggX0_fillScoresIf_X0_cellOf
set_option maxRecDepth 20000 in
theorem ggX0_fillScoresIf_X0_fillScores : GoodIn wsX0_fillScoresIf wsX0_fillScores := goodIn_r _ [10, 11, 12, 13, 14, 15, 5, 16, 17, 18, 19, 20, 21, 22, 23, 24, 25, 26, 27, 28, 29, 1, 30, 31, 32, 3, 4, 6, 33, 34, 35, 36, 37, 38, 39, 40, 41, 42, 43, 44, 45, 46, 47, 48, 49, 50, 51, 52, 53, 2, 54, 55, 56, 57, 58, 59, 60, 61, 62, 63, 64, 65, 66, 67, 68, 69, 70, 71, 72, 73, 74, 75, 76, 77, 78, 79, 80, 81, 82, 83, 84, 85, 86, 87, 88, 89, 90, 91, 92, 93, 94, 95, 96] (by decide +kernel) (by decide +kernel)
set_option maxRecDepth 20000 in
theorem gX0_fillScoresIf_X0_fillScores : GoodIn wsX0_fillScoresIf (wsV RX0 103 RX0 yX0_fillScores wsX0_fillScores) := goodIn_app (goodIn_of _ (by decide +kernel)) ggX0_fillScoresIf_X0_fillScores
theorem dX0_fillScoresIf_0 : decode cX0_fillScoresIf 0 = .ok (.iload_n 1, 1) := by decide +kernel
theorem dX0_fillScoresIf_1 : decode cX0_fillScoresIf 1 = .ok (.iload_n 3, 1) := by decide +kernel
theorem dX0_fillScoresIf_2 : decode cX0_fillScoresIf 2 = .ok (.iload 4, 2) := by decide +kernel
theorem dX0_fillScoresIf_4 : decode cX0_fillScoresIf 4 = .ok (.invokestatic 82, 3) := by decide +kernel
theorem dX0_fillScoresIf_7 : decode cX0_fillScoresIf 7 = .ok (.istore 6, 2) := by decide +kernel
theorem dX0_fillScoresIf_9 : decode cX0_fillScoresIf 9 = .ok (.aload_n 0, 1) := by decide +kernel
theorem dX0_fillScoresIf_10 : decode cX0_fillScoresIf 10 = .ok (.getfield 16, 3) := by decide +kernel
theorem dX0_fillScoresIf_13 : decode cX0_fillScoresIf 13 = .ok (.iload 6, 2) := by decide +kernel
theorem dX0_fillScoresIf_15 : decode cX0_fillScoresIf 15 = .ok (.iaload, 1) := by decide +kernel
theorem dX0_fillScoresIf_16 : decode cX0_fillScoresIf 16 = .ok (.istore 7, 2) := by decide +kernel
theorem dX0_fillScoresIf_18 : decode cX0_fillScoresIf 18 = .ok (.aload_n 0, 1) := by decide +kernel
theorem dX0_fillScoresIf_19 : decode cX0_fillScoresIf 19 = .ok (.getfield 20, 3) := by decide +kernel
theorem dX0_fillScoresIf_22 : decode cX0_fillScoresIf 22 = .ok (.iload 6, 2) := by decide +kernel
theorem dX0_fillScoresIf_24 : decode cX0_fillScoresIf 24 = .ok (.iaload, 1) := by decide +kernel
theorem dX0_fillScoresIf_25 : decode cX0_fillScoresIf 25 = .ok (.istore 8, 2) := by decide +kernel
theorem dX0_fillScoresIf_27 : decode cX0_fillScoresIf 27 = .ok (.iload_n 2, 1) := by decide +kernel
theorem dX0_fillScoresIf_28 : decode cX0_fillScoresIf 28 = .ok (.iconst 3, 1) := by decide +kernel
theorem dX0_fillScoresIf_29 : decode cX0_fillScoresIf 29 = .ok (.if_icmp .ne 23, 3) := by decide +kernel
theorem dX0_fillScoresIf_32 : decode cX0_fillScoresIf 32 = .ok (.aload_n 0, 1) := by decide +kernel
theorem dX0_fillScoresIf_33 : decode cX0_fillScoresIf 33 = .ok (.getfield 20, 3) := by decide +kernel
theorem dX0_fillScoresIf_36 : decode cX0_fillScoresIf 36 = .ok (.iload 6, 2) := by decide +kernel
theorem dX0_fillScoresIf_38 : decode cX0_fillScoresIf 38 = .ok (.iload 5, 2) := by decide +kernel
theorem dX0_fillScoresIf_40 : decode cX0_fillScoresIf 40 = .ok (.ifCond .eq 7, 3) := by decide +kernel
theorem dX0_fillScoresIf_43 : decode cX0_fillScoresIf 43 = .ok (.iconst 1, 1) := by decide +kernel
theorem dX0_fillScoresIf_44 : decode cX0_fillScoresIf 44 = .ok (.goto 4, 3) := by decide +kernel
theorem dX0_fillScoresIf_47 : decode cX0_fillScoresIf 47 = .ok (.iconst 0, 1) := by decide +kernel
theorem dX0_fillScoresIf_48 : decode cX0_fillScoresIf 48 = .ok (.iastore, 1) := by decide +kernel
theorem dX0_fillScoresIf_49 : decode cX0_fillScoresIf 49 = .ok (.goto 21, 3) := by decide +kernel
theorem dX0_fillScoresIf_52 : decode cX0_fillScoresIf 52 = .ok (.aload_n 0, 1) := by decide +kernel
theorem dX0_fillScoresIf_53 : decode cX0_fillScoresIf 53 = .ok (.getfield 16, 3) := by decide +kernel
theorem dX0_fillScoresIf_56 : decode cX0_fillScoresIf 56 = .ok (.iload 6, 2) := by decide +kernel
theorem dX0_fillScoresIf_58 : decode cX0_fillScoresIf 58 = .ok (.iload 5, 2) := by decide +kernel
theorem dX0_fillScoresIf_60 : decode cX0_fillScoresIf 60 = .ok (.ifCond .eq 8, 3) := by decide +kernel
theorem dX0_fillScoresIf_63 : decode cX0_fillScoresIf 63 = .ok (.bipush 100, 2) := by decide +kernel
theorem dX0_fillScoresIf_65 : decode cX0_fillScoresIf 65 = .ok (.goto 4, 3) := by decide +kernel
theorem dX0_fillScoresIf_68 : decode cX0_fillScoresIf 68 = .ok (.iconst 1, 1) := by decide +kernel
theorem dX0_fillScoresIf_69 : decode cX0_fillScoresIf 69 = .ok (.iastore, 1) := by decide +kernel
theorem dX0_fillScoresIf_70 : decode cX0_fillScoresIf 70 = .ok (.aload_n 0, 1) := by decide +kernel
theorem dX0_fillScoresIf_71 : decode cX0_fillScoresIf 71 = .ok (.iload_n 1, 1) := by decide +kernel
theorem dX0_fillScoresIf_72 : decode cX0_fillScoresIf 72 = .ok (.iload_n 2, 1) := by decide +kernel
theorem dX0_fillScoresIf_73 : decode cX0_fillScoresIf 73 = .ok (.invokevirtual 103, 3) := by decide +kernel
theorem dX0_fillScoresIf_76 : decode cX0_fillScoresIf 76 = .ok (.aload_n 0, 1) := by decide +kernel
theorem dX0_fillScoresIf_77 : decode cX0_fillScoresIf 77 = .ok (.getfield 16, 3) := by decide +kernel
theorem dX0_fillScoresIf_80 : decode cX0_fillScoresIf 80 = .ok (.iload 6, 2) := by decide +kernel
theorem dX0_fillScoresIf_82 : decode cX0_fillScoresIf 82 = .ok (.iload 7, 2) := by decide +kernel
theorem dX0_fillScoresIf_84 : decode cX0_fillScoresIf 84 = .ok (.iastore, 1) := by decide +kernel
theorem dX0_fillScoresIf_85 : decode cX0_fillScoresIf 85 = .ok (.aload_n 0, 1) := by decide +kernel
theorem dX0_fillScoresIf_86 : decode cX0_fillScoresIf 86 = .ok (.getfield 20, 3) := by decide +kernel
theorem dX0_fillScoresIf_89 : decode cX0_fillScoresIf 89 = .ok (.iload 6, 2) := by decide +kernel
theorem dX0_fillScoresIf_91 : decode cX0_fillScoresIf 91 = .ok (.iload 8, 2) := by decide +kernel
theorem dX0_fillScoresIf_93 : decode cX0_fillScoresIf 93 = .ok (.iastore, 1) := by decide +kernel
theorem dX0_fillScoresIf_94 : decode cX0_fillScoresIf 94 = .ok (.return_, 1) := by decide +kernel
theorem dX0_placeIn_0 : decode cX0_placeIn 0 = .ok (.iconst 0, 1) := by decide +kernel
theorem dX0_placeIn_1 : decode cX0_placeIn 1 = .ok (.istore_n 3, 1) := by decide +kernel
theorem dX0_placeIn_2 : decode cX0_placeIn 2 = .ok (.iconst 0, 1) := by decide +kernel
theorem dX0_placeIn_3 : decode cX0_placeIn 3 = .ok (.istore 4, 2) := by decide +kernel
theorem dX0_placeIn_5 : decode cX0_placeIn 5 = .ok (.iload 4, 2) := by decide +kernel
theorem dX0_placeIn_7 : decode cX0_placeIn 7 = .ok (.aload_n 0, 1) := by decide +kernel
theorem dX0_placeIn_8 : decode cX0_placeIn 8 = .ok (.getfield 7, 3) := by decide +kernel
theorem dX0_placeIn_11 : decode cX0_placeIn 11 = .ok (.if_icmp .ge 22, 3) := by decide +kernel
theorem dX0_placeIn_14 : decode cX0_placeIn 14 = .ok (.aload_n 1, 1) := by decide +kernel
theorem dX0_placeIn_15 : decode cX0_placeIn 15 = .ok (.iload 4, 2) := by decide +kernel
theorem dX0_placeIn_17 : decode cX0_placeIn 17 = .ok (.iaload, 1) := by decide +kernel
theorem dX0_placeIn_18 : decode cX0_placeIn 18 = .ok (.aload_n 1, 1) := by decide +kernel
theorem dX0_placeIn_19 : decode cX0_placeIn 19 = .ok (.iload_n 2, 1) := by decide +kernel
theorem dX0_placeIn_20 : decode cX0_placeIn 20 = .ok (.iaload, 1) := by decide +kernel
theorem dX0_placeIn_21 : decode cX0_placeIn 21 = .ok (.if_icmp .le 6, 3) := by decide +kernel
theorem dX0_placeIn_24 : decode cX0_placeIn 24 = .ok (.iinc 3 1, 3) := by decide +kernel
theorem dX0_placeIn_27 : decode cX0_placeIn 27 = .ok (.iinc 4 1, 3) := by decide +kernel
theorem dX0_placeIn_30 : decode cX0_placeIn 30 = .ok (.goto (-25), 3) := by decide +kernel
theorem dX0_placeIn_33 : decode cX0_placeIn 33 = .ok (.iload_n 3, 1) := by decide +kernel
theorem dX0_placeIn_34 : decode cX0_placeIn 34 = .ok (.iconst 1, 1) := by decide +kernel
theorem dX0_placeIn_35 : decode cX0_placeIn 35 = .ok (.iadd, 1) := by decide +kernel
theorem dX0_placeIn_36 : decode cX0_placeIn 36 = .ok (.ireturn, 1) := by decide +kernel
set_option maxRecDepth 20000 in
theorem ggX0_passesIn_X0_placeIn : GoodIn wsX0_passesIn wsX0_placeIn := goodIn_r _ [5, 6, 7, 8, 9, 10, 11, 12, 13, 14, 15, 16, 17, 18, 19, 20, 21, 22] (by decide +kernel) (by decide +kernel)
set_option maxRecDepth 20000 in
theorem gX0_passesIn_X0_placeIn : GoodIn wsX0_passesIn (wsV RX0 107 RX0 yX0_placeIn wsX0_placeIn) := goodIn_app (goodIn_of _ (by decide +kernel)) ggX0_passesIn_X0_placeIn
theorem dX0_passesIn_0 : decode cX0_passesIn 0 = .ok (.aload_n 1, 1) := by decide +kernel
theorem dX0_passesIn_1 : decode cX0_passesIn 1 = .ok (.iload_n 2, 1) := by decide +kernel
theorem dX0_passesIn_2 : decode cX0_passesIn 2 = .ok (.iaload, 1) := by decide +kernel
theorem dX0_passesIn_3 : decode cX0_passesIn 3 = .ok (.iconst (-1), 1) := by decide +kernel
theorem dX0_passesIn_4 : decode cX0_passesIn 4 = .ok (.if_icmp .eq 17, 3) := by decide +kernel
theorem dX0_passesIn_7 : decode cX0_passesIn 7 = .ok (.aload_n 0, 1) := by decide +kernel
theorem dX0_passesIn_8 : decode cX0_passesIn 8 = .ok (.aload_n 1, 1) := by decide +kernel
theorem dX0_passesIn_9 : decode cX0_passesIn 9 = .ok (.iload_n 2, 1) := by decide +kernel
theorem dX0_passesIn_10 : decode cX0_passesIn 10 = .ok (.invokevirtual 107, 3) := by decide +kernel
theorem dX0_passesIn_13 : decode cX0_passesIn 13 = .ok (.iload_n 3, 1) := by decide +kernel
theorem dX0_passesIn_14 : decode cX0_passesIn 14 = .ok (.if_icmp .gt 7, 3) := by decide +kernel
theorem dX0_passesIn_17 : decode cX0_passesIn 17 = .ok (.iconst 1, 1) := by decide +kernel
theorem dX0_passesIn_18 : decode cX0_passesIn 18 = .ok (.goto 4, 3) := by decide +kernel
theorem dX0_passesIn_21 : decode cX0_passesIn 21 = .ok (.iconst 0, 1) := by decide +kernel
theorem dX0_passesIn_22 : decode cX0_passesIn 22 = .ok (.ireturn, 1) := by decide +kernel
set_option maxRecDepth 20000 in
theorem ggX0_passedBits_X0_fillScores : GoodIn wsX0_passedBits wsX0_fillScores := goodIn_r _ [7, 1, 2, 8, 9, 10, 6, 11, 12, 13, 14, 15, 16, 17, 18, 19, 20, 21, 22, 23, 24, 25, 26, 27, 28, 29, 30, 31, 32, 33, 34, 35, 36, 37, 38, 39, 40, 41, 42, 43, 44, 45, 46, 47, 48, 49, 50, 51, 52, 53, 54, 55, 56, 57, 58, 59, 60, 61, 62, 63, 64, 65, 66, 67, 68, 69, 70, 71, 72, 73, 74, 75, 76, 77, 78, 79, 80, 89, 90, 91, 92, 93, 94, 95, 96, 97, 98, 99, 100, 101, 102, 103, 104] (by decide +kernel) (by decide +kernel)
set_option maxRecDepth 20000 in
theorem gX0_passedBits_X0_fillScores : GoodIn wsX0_passedBits (wsV RX0 103 RX0 yX0_fillScores wsX0_fillScores) := goodIn_app (goodIn_of _ (by decide +kernel)) ggX0_passedBits_X0_fillScores
set_option maxRecDepth 20000 in
theorem ggX0_passedBits_X0_passesIn : GoodIn wsX0_passedBits wsX0_passesIn := goodIn_r _ [84, 85, 86, 87, 6, 88, 1, 89, 90, 91, 92, 93, 94, 95, 96, 97, 98, 99, 100, 101, 102, 103, 104] (by decide +kernel) (by decide +kernel)
set_option maxRecDepth 20000 in
theorem gX0_passedBits_X0_passesIn : GoodIn wsX0_passedBits (wsV RX0 131 RX0 yX0_passesIn wsX0_passesIn) := goodIn_app (goodIn_of _ (by decide +kernel)) ggX0_passedBits_X0_passesIn
theorem dX0_passedBits_0 : decode cX0_passedBits 0 = .ok (.aload_n 0, 1) := by decide +kernel
theorem dX0_passedBits_1 : decode cX0_passedBits 1 = .ok (.iload_n 1, 1) := by decide +kernel
theorem dX0_passedBits_2 : decode cX0_passedBits 2 = .ok (.iload_n 2, 1) := by decide +kernel
theorem dX0_passedBits_3 : decode cX0_passedBits 3 = .ok (.invokevirtual 103, 3) := by decide +kernel
theorem dX0_passedBits_6 : decode cX0_passedBits 6 = .ok (.iconst 0, 1) := by decide +kernel
theorem dX0_passedBits_7 : decode cX0_passedBits 7 = .ok (.istore 4, 2) := by decide +kernel
theorem dX0_passedBits_9 : decode cX0_passedBits 9 = .ok (.iconst 0, 1) := by decide +kernel
theorem dX0_passedBits_10 : decode cX0_passedBits 10 = .ok (.istore 5, 2) := by decide +kernel
theorem dX0_passedBits_12 : decode cX0_passedBits 12 = .ok (.iload 5, 2) := by decide +kernel
theorem dX0_passedBits_14 : decode cX0_passedBits 14 = .ok (.aload_n 0, 1) := by decide +kernel
theorem dX0_passedBits_15 : decode cX0_passedBits 15 = .ok (.getfield 7, 3) := by decide +kernel
theorem dX0_passedBits_18 : decode cX0_passedBits 18 = .ok (.if_icmp .ge 32, 3) := by decide +kernel
theorem dX0_passedBits_21 : decode cX0_passedBits 21 = .ok (.aload_n 0, 1) := by decide +kernel
theorem dX0_passedBits_22 : decode cX0_passedBits 22 = .ok (.aload_n 0, 1) := by decide +kernel
theorem dX0_passedBits_23 : decode cX0_passedBits 23 = .ok (.getfield 50, 3) := by decide +kernel
theorem dX0_passedBits_26 : decode cX0_passedBits 26 = .ok (.iload 5, 2) := by decide +kernel
theorem dX0_passedBits_28 : decode cX0_passedBits 28 = .ok (.iload_n 3, 1) := by decide +kernel
theorem dX0_passedBits_29 : decode cX0_passedBits 29 = .ok (.invokevirtual 131, 3) := by decide +kernel
theorem dX0_passedBits_32 : decode cX0_passedBits 32 = .ok (.ifCond .eq 12, 3) := by decide +kernel
theorem dX0_passedBits_35 : decode cX0_passedBits 35 = .ok (.iload 4, 2) := by decide +kernel
theorem dX0_passedBits_37 : decode cX0_passedBits 37 = .ok (.iconst 1, 1) := by decide +kernel
theorem dX0_passedBits_38 : decode cX0_passedBits 38 = .ok (.iload 5, 2) := by decide +kernel
theorem dX0_passedBits_40 : decode cX0_passedBits 40 = .ok (.ishl, 1) := by decide +kernel
theorem dX0_passedBits_41 : decode cX0_passedBits 41 = .ok (.ior, 1) := by decide +kernel
theorem dX0_passedBits_42 : decode cX0_passedBits 42 = .ok (.istore 4, 2) := by decide +kernel
theorem dX0_passedBits_44 : decode cX0_passedBits 44 = .ok (.iinc 5 1, 3) := by decide +kernel
theorem dX0_passedBits_47 : decode cX0_passedBits 47 = .ok (.goto (-35), 3) := by decide +kernel
theorem dX0_passedBits_50 : decode cX0_passedBits 50 = .ok (.iload 4, 2) := by decide +kernel
theorem dX0_passedBits_52 : decode cX0_passedBits 52 = .ok (.ireturn, 1) := by decide +kernel
set_option maxRecDepth 20000 in
theorem ggX0_totalOf_X0_scoreOf : GoodIn wsX0_totalOf wsX0_scoreOf := goodIn_r _ [6, 7, 8, 9, 10, 11, 12, 5, 13, 14, 15, 16, 17, 18, 19, 20, 21, 22, 23, 24, 25, 26, 27, 28, 29, 30, 31, 32, 33, 34, 35, 36, 37, 38, 39, 40, 41, 42, 43, 44, 45, 46, 47, 48, 49, 50, 51, 52, 53, 54, 55, 56, 57, 58, 59, 60, 61, 62, 63, 64, 65, 66, 67, 68, 69, 70, 71, 72, 73, 74, 75, 76, 77, 78, 79, 80, 81, 82, 83, 84, 85, 86, 87, 88, 89, 90, 91, 92] (by decide +kernel) (by decide +kernel)
set_option maxRecDepth 20000 in
theorem gX0_totalOf_X0_scoreOf : GoodIn wsX0_totalOf (wsV RX0 97 RX0 yX0_scoreOf wsX0_scoreOf) := goodIn_app (goodIn_of _ (by decide +kernel)) ggX0_totalOf_X0_scoreOf
theorem dX0_totalOf_0 : decode cX0_totalOf 0 = .ok (.iconst 0, 1) := by decide +kernel
theorem dX0_totalOf_1 : decode cX0_totalOf 1 = .ok (.istore_n 2, 1) := by decide +kernel
theorem dX0_totalOf_2 : decode cX0_totalOf 2 = .ok (.iconst 0, 1) := by decide +kernel
theorem dX0_totalOf_3 : decode cX0_totalOf 3 = .ok (.istore_n 3, 1) := by decide +kernel
theorem dX0_totalOf_4 : decode cX0_totalOf 4 = .ok (.iload_n 3, 1) := by decide +kernel
theorem dX0_totalOf_5 : decode cX0_totalOf 5 = .ok (.iconst 3, 1) := by decide +kernel
theorem dX0_totalOf_6 : decode cX0_totalOf 6 = .ok (.if_icmp .ge 47, 3) := by decide +kernel
theorem dX0_totalOf_9 : decode cX0_totalOf 9 = .ok (.aload_n 0, 1) := by decide +kernel
theorem dX0_totalOf_10 : decode cX0_totalOf 10 = .ok (.getfield 29, 3) := by decide +kernel
theorem dX0_totalOf_13 : decode cX0_totalOf 13 = .ok (.iload_n 3, 1) := by decide +kernel
theorem dX0_totalOf_14 : decode cX0_totalOf 14 = .ok (.iaload, 1) := by decide +kernel
theorem dX0_totalOf_15 : decode cX0_totalOf 15 = .ok (.ifCond .le 32, 3) := by decide +kernel
theorem dX0_totalOf_18 : decode cX0_totalOf 18 = .ok (.aload_n 0, 1) := by decide +kernel
theorem dX0_totalOf_19 : decode cX0_totalOf 19 = .ok (.iload_n 3, 1) := by decide +kernel
theorem dX0_totalOf_20 : decode cX0_totalOf 20 = .ok (.iconst 0, 1) := by decide +kernel
theorem dX0_totalOf_21 : decode cX0_totalOf 21 = .ok (.iload_n 1, 1) := by decide +kernel
theorem dX0_totalOf_22 : decode cX0_totalOf 22 = .ok (.invokevirtual 97, 3) := by decide +kernel
theorem dX0_totalOf_25 : decode cX0_totalOf 25 = .ok (.istore 4, 2) := by decide +kernel
theorem dX0_totalOf_27 : decode cX0_totalOf 27 = .ok (.iload 4, 2) := by decide +kernel
theorem dX0_totalOf_29 : decode cX0_totalOf 29 = .ok (.iconst (-1), 1) := by decide +kernel
theorem dX0_totalOf_30 : decode cX0_totalOf 30 = .ok (.if_icmp .ne 5, 3) := by decide +kernel
theorem dX0_totalOf_33 : decode cX0_totalOf 33 = .ok (.iconst (-1), 1) := by decide +kernel
theorem dX0_totalOf_34 : decode cX0_totalOf 34 = .ok (.ireturn, 1) := by decide +kernel
theorem dX0_totalOf_35 : decode cX0_totalOf 35 = .ok (.iload_n 2, 1) := by decide +kernel
theorem dX0_totalOf_36 : decode cX0_totalOf 36 = .ok (.aload_n 0, 1) := by decide +kernel
theorem dX0_totalOf_37 : decode cX0_totalOf 37 = .ok (.getfield 29, 3) := by decide +kernel
theorem dX0_totalOf_40 : decode cX0_totalOf 40 = .ok (.iload_n 3, 1) := by decide +kernel
theorem dX0_totalOf_41 : decode cX0_totalOf 41 = .ok (.iaload, 1) := by decide +kernel
theorem dX0_totalOf_42 : decode cX0_totalOf 42 = .ok (.iload 4, 2) := by decide +kernel
theorem dX0_totalOf_44 : decode cX0_totalOf 44 = .ok (.imul, 1) := by decide +kernel
theorem dX0_totalOf_45 : decode cX0_totalOf 45 = .ok (.iadd, 1) := by decide +kernel
theorem dX0_totalOf_46 : decode cX0_totalOf 46 = .ok (.istore_n 2, 1) := by decide +kernel
theorem dX0_totalOf_47 : decode cX0_totalOf 47 = .ok (.iinc 3 1, 3) := by decide +kernel
theorem dX0_totalOf_50 : decode cX0_totalOf 50 = .ok (.goto (-46), 3) := by decide +kernel
theorem dX0_totalOf_53 : decode cX0_totalOf 53 = .ok (.iload_n 2, 1) := by decide +kernel
theorem dX0_totalOf_54 : decode cX0_totalOf 54 = .ok (.ireturn, 1) := by decide +kernel
set_option maxRecDepth 20000 in
theorem ggX0_fillTotals_X0_totalOf : GoodIn wsX0_fillTotals wsX0_totalOf := goodIn_r _ [7, 8, 9, 10, 11, 6, 12, 13, 14, 15, 16, 17, 18, 19, 20, 21, 22, 23, 24, 25, 26, 27, 28, 29, 30, 31, 32, 33, 34, 35, 36, 37, 38, 39, 40, 41, 42, 43, 44, 45, 46, 47, 48, 49, 50, 51, 52, 53, 54, 55, 56, 57, 58, 1, 59, 60, 61, 62, 63, 64, 65, 66, 67, 68, 69, 70, 71, 72, 73, 74, 75, 76, 77, 78, 79, 80, 81, 82, 83, 84, 85, 86, 87, 88, 89, 90, 91, 92, 93, 94, 95, 96, 97] (by decide +kernel) (by decide +kernel)
set_option maxRecDepth 20000 in
theorem gX0_fillTotals_X0_totalOf : GoodIn wsX0_fillTotals (wsV RX0 135 RX0 yX0_totalOf wsX0_totalOf) := goodIn_app (goodIn_of _ (by decide +kernel)) ggX0_fillTotals_X0_totalOf
theorem dX0_fillTotals_0 : decode cX0_fillTotals 0 = .ok (.iconst 0, 1) := by decide +kernel
theorem dX0_fillTotals_1 : decode cX0_fillTotals 1 = .ok (.istore_n 1, 1) := by decide +kernel
theorem dX0_fillTotals_2 : decode cX0_fillTotals 2 = .ok (.iload_n 1, 1) := by decide +kernel
theorem dX0_fillTotals_3 : decode cX0_fillTotals 3 = .ok (.aload_n 0, 1) := by decide +kernel
theorem dX0_fillTotals_4 : decode cX0_fillTotals 4 = .ok (.getfield 7, 3) := by decide +kernel
theorem dX0_fillTotals_7 : decode cX0_fillTotals 7 = .ok (.if_icmp .ge 20, 3) := by decide +kernel
theorem dX0_fillTotals_10 : decode cX0_fillTotals 10 = .ok (.aload_n 0, 1) := by decide +kernel
theorem dX0_fillTotals_11 : decode cX0_fillTotals 11 = .ok (.getfield 53, 3) := by decide +kernel
theorem dX0_fillTotals_14 : decode cX0_fillTotals 14 = .ok (.iload_n 1, 1) := by decide +kernel
theorem dX0_fillTotals_15 : decode cX0_fillTotals 15 = .ok (.aload_n 0, 1) := by decide +kernel
theorem dX0_fillTotals_16 : decode cX0_fillTotals 16 = .ok (.iload_n 1, 1) := by decide +kernel
theorem dX0_fillTotals_17 : decode cX0_fillTotals 17 = .ok (.invokevirtual 135, 3) := by decide +kernel
theorem dX0_fillTotals_20 : decode cX0_fillTotals 20 = .ok (.iastore, 1) := by decide +kernel
theorem dX0_fillTotals_21 : decode cX0_fillTotals 21 = .ok (.iinc 1 1, 3) := by decide +kernel
theorem dX0_fillTotals_24 : decode cX0_fillTotals 24 = .ok (.goto (-22), 3) := by decide +kernel
theorem dX0_fillTotals_27 : decode cX0_fillTotals 27 = .ok (.return_, 1) := by decide +kernel
set_option maxRecDepth 20000 in
theorem ggX0_shareOf_X0_placeIn : GoodIn wsX0_shareOf wsX0_placeIn := goodIn_r _ [8, 2, 9, 10, 11, 12, 13, 14, 15, 16, 17, 18, 19, 20, 21, 22, 23, 24] (by decide +kernel) (by decide +kernel)
set_option maxRecDepth 20000 in
theorem gX0_shareOf_X0_placeIn : GoodIn wsX0_shareOf (wsV RX0 107 RX0 yX0_placeIn wsX0_placeIn) := goodIn_app (goodIn_of _ (by decide +kernel)) ggX0_shareOf_X0_placeIn
theorem dX0_shareOf_0 : decode cX0_shareOf 0 = .ok (.aload_n 0, 1) := by decide +kernel
theorem dX0_shareOf_1 : decode cX0_shareOf 1 = .ok (.getfield 53, 3) := by decide +kernel
theorem dX0_shareOf_4 : decode cX0_shareOf 4 = .ok (.iload_n 1, 1) := by decide +kernel
theorem dX0_shareOf_5 : decode cX0_shareOf 5 = .ok (.iaload, 1) := by decide +kernel
theorem dX0_shareOf_6 : decode cX0_shareOf 6 = .ok (.iconst (-1), 1) := by decide +kernel
theorem dX0_shareOf_7 : decode cX0_shareOf 7 = .ok (.if_icmp .ne 5, 3) := by decide +kernel
theorem dX0_shareOf_10 : decode cX0_shareOf 10 = .ok (.iconst 0, 1) := by decide +kernel
theorem dX0_shareOf_11 : decode cX0_shareOf 11 = .ok (.ireturn, 1) := by decide +kernel
theorem dX0_shareOf_12 : decode cX0_shareOf 12 = .ok (.iconst 0, 1) := by decide +kernel
theorem dX0_shareOf_13 : decode cX0_shareOf 13 = .ok (.istore_n 2, 1) := by decide +kernel
theorem dX0_shareOf_14 : decode cX0_shareOf 14 = .ok (.iconst 0, 1) := by decide +kernel
theorem dX0_shareOf_15 : decode cX0_shareOf 15 = .ok (.istore_n 3, 1) := by decide +kernel
theorem dX0_shareOf_16 : decode cX0_shareOf 16 = .ok (.iload_n 3, 1) := by decide +kernel
theorem dX0_shareOf_17 : decode cX0_shareOf 17 = .ok (.aload_n 0, 1) := by decide +kernel
theorem dX0_shareOf_18 : decode cX0_shareOf 18 = .ok (.getfield 7, 3) := by decide +kernel
theorem dX0_shareOf_21 : decode cX0_shareOf 21 = .ok (.if_icmp .ge 27, 3) := by decide +kernel
theorem dX0_shareOf_24 : decode cX0_shareOf 24 = .ok (.aload_n 0, 1) := by decide +kernel
theorem dX0_shareOf_25 : decode cX0_shareOf 25 = .ok (.getfield 53, 3) := by decide +kernel
theorem dX0_shareOf_28 : decode cX0_shareOf 28 = .ok (.iload_n 3, 1) := by decide +kernel
theorem dX0_shareOf_29 : decode cX0_shareOf 29 = .ok (.iaload, 1) := by decide +kernel
theorem dX0_shareOf_30 : decode cX0_shareOf 30 = .ok (.aload_n 0, 1) := by decide +kernel
theorem dX0_shareOf_31 : decode cX0_shareOf 31 = .ok (.getfield 53, 3) := by decide +kernel
theorem dX0_shareOf_34 : decode cX0_shareOf 34 = .ok (.iload_n 1, 1) := by decide +kernel
theorem dX0_shareOf_35 : decode cX0_shareOf 35 = .ok (.iaload, 1) := by decide +kernel
theorem dX0_shareOf_36 : decode cX0_shareOf 36 = .ok (.if_icmp .ne 6, 3) := by decide +kernel
theorem dX0_shareOf_39 : decode cX0_shareOf 39 = .ok (.iinc 2 1, 3) := by decide +kernel
theorem dX0_shareOf_42 : decode cX0_shareOf 42 = .ok (.iinc 3 1, 3) := by decide +kernel
theorem dX0_shareOf_45 : decode cX0_shareOf 45 = .ok (.goto (-29), 3) := by decide +kernel
theorem dX0_shareOf_48 : decode cX0_shareOf 48 = .ok (.iload_n 2, 1) := by decide +kernel
theorem dX0_shareOf_49 : decode cX0_shareOf 49 = .ok (.iconst 1, 1) := by decide +kernel
theorem dX0_shareOf_50 : decode cX0_shareOf 50 = .ok (.if_icmp .ge 5, 3) := by decide +kernel
theorem dX0_shareOf_53 : decode cX0_shareOf 53 = .ok (.iconst 0, 1) := by decide +kernel
theorem dX0_shareOf_54 : decode cX0_shareOf 54 = .ok (.ireturn, 1) := by decide +kernel
theorem dX0_shareOf_55 : decode cX0_shareOf 55 = .ok (.aload_n 0, 1) := by decide +kernel
theorem dX0_shareOf_56 : decode cX0_shareOf 56 = .ok (.aload_n 0, 1) := by decide +kernel
theorem dX0_shareOf_57 : decode cX0_shareOf 57 = .ok (.getfield 53, 3) := by decide +kernel
theorem dX0_shareOf_60 : decode cX0_shareOf 60 = .ok (.iload_n 1, 1) := by decide +kernel
theorem dX0_shareOf_61 : decode cX0_shareOf 61 = .ok (.invokevirtual 107, 3) := by decide +kernel
theorem dX0_shareOf_64 : decode cX0_shareOf 64 = .ok (.iconst 1, 1) := by decide +kernel
theorem dX0_shareOf_65 : decode cX0_shareOf 65 = .ok (.isub, 1) := by decide +kernel
theorem dX0_shareOf_66 : decode cX0_shareOf 66 = .ok (.istore_n 3, 1) := by decide +kernel
theorem dX0_shareOf_67 : decode cX0_shareOf 67 = .ok (.iconst 0, 1) := by decide +kernel
theorem dX0_shareOf_68 : decode cX0_shareOf 68 = .ok (.istore 4, 2) := by decide +kernel
theorem dX0_shareOf_70 : decode cX0_shareOf 70 = .ok (.iload_n 3, 1) := by decide +kernel
theorem dX0_shareOf_71 : decode cX0_shareOf 71 = .ok (.istore 5, 2) := by decide +kernel
theorem dX0_shareOf_73 : decode cX0_shareOf 73 = .ok (.iload 5, 2) := by decide +kernel
theorem dX0_shareOf_75 : decode cX0_shareOf 75 = .ok (.iload_n 3, 1) := by decide +kernel
theorem dX0_shareOf_76 : decode cX0_shareOf 76 = .ok (.iload_n 2, 1) := by decide +kernel
theorem dX0_shareOf_77 : decode cX0_shareOf 77 = .ok (.iadd, 1) := by decide +kernel
theorem dX0_shareOf_78 : decode cX0_shareOf 78 = .ok (.if_icmp .ge 28, 3) := by decide +kernel
theorem dX0_shareOf_81 : decode cX0_shareOf 81 = .ok (.iload 5, 2) := by decide +kernel
theorem dX0_shareOf_83 : decode cX0_shareOf 83 = .ok (.bipush 6, 2) := by decide +kernel
theorem dX0_shareOf_85 : decode cX0_shareOf 85 = .ok (.if_icmp .ge 21, 3) := by decide +kernel
theorem dX0_shareOf_88 : decode cX0_shareOf 88 = .ok (.iload 4, 2) := by decide +kernel
theorem dX0_shareOf_90 : decode cX0_shareOf 90 = .ok (.aload_n 0, 1) := by decide +kernel
theorem dX0_shareOf_91 : decode cX0_shareOf 91 = .ok (.getfield 32, 3) := by decide +kernel
theorem dX0_shareOf_94 : decode cX0_shareOf 94 = .ok (.iload 5, 2) := by decide +kernel
theorem dX0_shareOf_96 : decode cX0_shareOf 96 = .ok (.iaload, 1) := by decide +kernel
theorem dX0_shareOf_97 : decode cX0_shareOf 97 = .ok (.iadd, 1) := by decide +kernel
theorem dX0_shareOf_98 : decode cX0_shareOf 98 = .ok (.istore 4, 2) := by decide +kernel
theorem dX0_shareOf_100 : decode cX0_shareOf 100 = .ok (.iinc 5 1, 3) := by decide +kernel
theorem dX0_shareOf_103 : decode cX0_shareOf 103 = .ok (.goto (-30), 3) := by decide +kernel
theorem dX0_shareOf_106 : decode cX0_shareOf 106 = .ok (.iload 4, 2) := by decide +kernel
theorem dX0_shareOf_108 : decode cX0_shareOf 108 = .ok (.iload_n 2, 1) := by decide +kernel
theorem dX0_shareOf_109 : decode cX0_shareOf 109 = .ok (.idiv, 1) := by decide +kernel
theorem dX0_shareOf_110 : decode cX0_shareOf 110 = .ok (.ireturn, 1) := by decide +kernel
set_option maxRecDepth 20000 in
theorem ggX0_fillFitting_X0_programmeCellOf : GoodIn wsX0_fillFitting wsX0_programmeCellOf := goodIn_r _ [8] (by decide +kernel) (by decide +kernel)
set_option maxRecDepth 20000 in
theorem gX0_fillFitting_X0_programmeCellOf : GoodIn wsX0_fillFitting (va_wsS RX0 152 yX0_programmeCellOf wsX0_programmeCellOf) := goodIn_app (goodIn_of _ (by decide +kernel)) ggX0_fillFitting_X0_programmeCellOf
set_option maxRecDepth 20000 in
theorem ggX0_fillFitting_X0_minutesOf : GoodIn wsX0_fillFitting wsX0_minutesOf := goodIn_r _ [12, 13, 17, 18, 19, 20, 21, 22, 23, 24, 25, 26, 27, 28, 29, 30, 31, 32] (by decide +kernel) (by decide +kernel)
set_option maxRecDepth 20000 in
theorem gX0_fillFitting_X0_minutesOf : GoodIn wsX0_fillFitting (wsV RX0 229 RX0 yX0_minutesOf wsX0_minutesOf) := goodIn_app (goodIn_of _ (by decide +kernel)) ggX0_fillFitting_X0_minutesOf
set_option maxRecDepth 20000 in
theorem ggX0_fillFitting_X0_isWithin : GoodIn wsX0_fillFitting wsX0_isWithin := goodIn_r _ [16] (by decide +kernel) (by decide +kernel)
set_option maxRecDepth 20000 in
theorem gX0_fillFitting_X0_isWithin : GoodIn wsX0_fillFitting (va_wsS RX0 68 yX0_isWithin wsX0_isWithin) := goodIn_app (goodIn_of _ (by decide +kernel)) ggX0_fillFitting_X0_isWithin
theorem dX0_fillFitting_0 : decode cX0_fillFitting 0 = .ok (.iconst 0, 1) := by decide +kernel
theorem dX0_fillFitting_1 : decode cX0_fillFitting 1 = .ok (.istore_n 3, 1) := by decide +kernel
theorem dX0_fillFitting_2 : decode cX0_fillFitting 2 = .ok (.iload_n 3, 1) := by decide +kernel
theorem dX0_fillFitting_3 : decode cX0_fillFitting 3 = .ok (.aload_n 0, 1) := by decide +kernel
theorem dX0_fillFitting_4 : decode cX0_fillFitting 4 = .ok (.getfield 7, 3) := by decide +kernel
theorem dX0_fillFitting_7 : decode cX0_fillFitting 7 = .ok (.if_icmp .ge 78, 3) := by decide +kernel
theorem dX0_fillFitting_10 : decode cX0_fillFitting 10 = .ok (.iconst 0, 1) := by decide +kernel
theorem dX0_fillFitting_11 : decode cX0_fillFitting 11 = .ok (.istore 4, 2) := by decide +kernel
theorem dX0_fillFitting_13 : decode cX0_fillFitting 13 = .ok (.iload 4, 2) := by decide +kernel
theorem dX0_fillFitting_15 : decode cX0_fillFitting 15 = .ok (.aload_n 0, 1) := by decide +kernel
theorem dX0_fillFitting_16 : decode cX0_fillFitting 16 = .ok (.getfield 41, 3) := by decide +kernel
theorem dX0_fillFitting_19 : decode cX0_fillFitting 19 = .ok (.iload_n 3, 1) := by decide +kernel
theorem dX0_fillFitting_20 : decode cX0_fillFitting 20 = .ok (.iaload, 1) := by decide +kernel
theorem dX0_fillFitting_21 : decode cX0_fillFitting 21 = .ok (.if_icmp .ge 58, 3) := by decide +kernel
theorem dX0_fillFitting_24 : decode cX0_fillFitting 24 = .ok (.iload_n 3, 1) := by decide +kernel
theorem dX0_fillFitting_25 : decode cX0_fillFitting 25 = .ok (.iload 4, 2) := by decide +kernel
theorem dX0_fillFitting_27 : decode cX0_fillFitting 27 = .ok (.invokestatic 152, 3) := by decide +kernel
theorem dX0_fillFitting_30 : decode cX0_fillFitting 30 = .ok (.istore 5, 2) := by decide +kernel
theorem dX0_fillFitting_32 : decode cX0_fillFitting 32 = .ok (.aload_n 0, 1) := by decide +kernel
theorem dX0_fillFitting_33 : decode cX0_fillFitting 33 = .ok (.aload_n 0, 1) := by decide +kernel
theorem dX0_fillFitting_34 : decode cX0_fillFitting 34 = .ok (.getfield 38, 3) := by decide +kernel
theorem dX0_fillFitting_37 : decode cX0_fillFitting 37 = .ok (.iload 5, 2) := by decide +kernel
theorem dX0_fillFitting_39 : decode cX0_fillFitting 39 = .ok (.iaload, 1) := by decide +kernel
theorem dX0_fillFitting_40 : decode cX0_fillFitting 40 = .ok (.invokevirtual 229, 3) := by decide +kernel
theorem dX0_fillFitting_43 : decode cX0_fillFitting 43 = .ok (.iload_n 1, 1) := by decide +kernel
theorem dX0_fillFitting_44 : decode cX0_fillFitting 44 = .ok (.iload_n 2, 1) := by decide +kernel
theorem dX0_fillFitting_45 : decode cX0_fillFitting 45 = .ok (.invokestatic 68, 3) := by decide +kernel
theorem dX0_fillFitting_48 : decode cX0_fillFitting 48 = .ok (.istore 6, 2) := by decide +kernel
theorem dX0_fillFitting_50 : decode cX0_fillFitting 50 = .ok (.aload_n 0, 1) := by decide +kernel
theorem dX0_fillFitting_51 : decode cX0_fillFitting 51 = .ok (.getfield 56, 3) := by decide +kernel
theorem dX0_fillFitting_54 : decode cX0_fillFitting 54 = .ok (.iload 5, 2) := by decide +kernel
theorem dX0_fillFitting_56 : decode cX0_fillFitting 56 = .ok (.iload 6, 2) := by decide +kernel
theorem dX0_fillFitting_58 : decode cX0_fillFitting 58 = .ok (.ifCond .eq 13, 3) := by decide +kernel
theorem dX0_fillFitting_61 : decode cX0_fillFitting 61 = .ok (.aload_n 0, 1) := by decide +kernel
theorem dX0_fillFitting_62 : decode cX0_fillFitting 62 = .ok (.getfield 38, 3) := by decide +kernel
theorem dX0_fillFitting_65 : decode cX0_fillFitting 65 = .ok (.iload 5, 2) := by decide +kernel
theorem dX0_fillFitting_67 : decode cX0_fillFitting 67 = .ok (.iaload, 1) := by decide +kernel
theorem dX0_fillFitting_68 : decode cX0_fillFitting 68 = .ok (.goto 4, 3) := by decide +kernel
theorem dX0_fillFitting_71 : decode cX0_fillFitting 71 = .ok (.iconst 0, 1) := by decide +kernel
theorem dX0_fillFitting_72 : decode cX0_fillFitting 72 = .ok (.iastore, 1) := by decide +kernel
theorem dX0_fillFitting_73 : decode cX0_fillFitting 73 = .ok (.iinc 4 1, 3) := by decide +kernel
theorem dX0_fillFitting_76 : decode cX0_fillFitting 76 = .ok (.goto (-63), 3) := by decide +kernel
theorem dX0_fillFitting_79 : decode cX0_fillFitting 79 = .ok (.iinc 3 1, 3) := by decide +kernel
theorem dX0_fillFitting_82 : decode cX0_fillFitting 82 = .ok (.goto (-80), 3) := by decide +kernel
theorem dX0_fillFitting_85 : decode cX0_fillFitting 85 = .ok (.return_, 1) := by decide +kernel
theorem dX0_minutesOf_0 : decode cX0_minutesOf 0 = .ok (.iconst 0, 1) := by decide +kernel
theorem dX0_minutesOf_1 : decode cX0_minutesOf 1 = .ok (.istore_n 2, 1) := by decide +kernel
theorem dX0_minutesOf_2 : decode cX0_minutesOf 2 = .ok (.iconst 0, 1) := by decide +kernel
theorem dX0_minutesOf_3 : decode cX0_minutesOf 3 = .ok (.istore_n 3, 1) := by decide +kernel
theorem dX0_minutesOf_4 : decode cX0_minutesOf 4 = .ok (.iload_n 3, 1) := by decide +kernel
theorem dX0_minutesOf_5 : decode cX0_minutesOf 5 = .ok (.bipush 12, 2) := by decide +kernel
theorem dX0_minutesOf_7 : decode cX0_minutesOf 7 = .ok (.if_icmp .ge 27, 3) := by decide +kernel
theorem dX0_minutesOf_10 : decode cX0_minutesOf 10 = .ok (.iload_n 1, 1) := by decide +kernel
theorem dX0_minutesOf_11 : decode cX0_minutesOf 11 = .ok (.iload_n 3, 1) := by decide +kernel
theorem dX0_minutesOf_12 : decode cX0_minutesOf 12 = .ok (.ishr, 1) := by decide +kernel
theorem dX0_minutesOf_13 : decode cX0_minutesOf 13 = .ok (.iconst 1, 1) := by decide +kernel
theorem dX0_minutesOf_14 : decode cX0_minutesOf 14 = .ok (.iand, 1) := by decide +kernel
theorem dX0_minutesOf_15 : decode cX0_minutesOf 15 = .ok (.iconst 1, 1) := by decide +kernel
theorem dX0_minutesOf_16 : decode cX0_minutesOf 16 = .ok (.if_icmp .ne 12, 3) := by decide +kernel
theorem dX0_minutesOf_19 : decode cX0_minutesOf 19 = .ok (.iload_n 2, 1) := by decide +kernel
theorem dX0_minutesOf_20 : decode cX0_minutesOf 20 = .ok (.aload_n 0, 1) := by decide +kernel
theorem dX0_minutesOf_21 : decode cX0_minutesOf 21 = .ok (.getfield 35, 3) := by decide +kernel
theorem dX0_minutesOf_24 : decode cX0_minutesOf 24 = .ok (.iload_n 3, 1) := by decide +kernel
theorem dX0_minutesOf_25 : decode cX0_minutesOf 25 = .ok (.iaload, 1) := by decide +kernel
theorem dX0_minutesOf_26 : decode cX0_minutesOf 26 = .ok (.iadd, 1) := by decide +kernel
theorem dX0_minutesOf_27 : decode cX0_minutesOf 27 = .ok (.istore_n 2, 1) := by decide +kernel
theorem dX0_minutesOf_28 : decode cX0_minutesOf 28 = .ok (.iinc 3 1, 3) := by decide +kernel
theorem dX0_minutesOf_31 : decode cX0_minutesOf 31 = .ok (.goto (-27), 3) := by decide +kernel
theorem dX0_minutesOf_34 : decode cX0_minutesOf 34 = .ok (.iload_n 2, 1) := by decide +kernel
theorem dX0_minutesOf_35 : decode cX0_minutesOf 35 = .ok (.ireturn, 1) := by decide +kernel
set_option maxRecDepth 20000 in
theorem ggX0_choosesFrom_X0_choosesWith : GoodIn wsX0_choosesFrom wsX0_choosesWith := goodIn_r _ [7, 8, 9, 10, 11, 6, 12, 13, 14, 15, 0, 1, 2, 3, 4, 5, 16, 17, 18, 19, 20, 21, 22, 23, 24, 25, 26, 27, 28, 29, 30, 31] (by decide +kernel) (by decide +kernel)
set_option maxRecDepth 20000 in
theorem gX0_choosesFrom_X0_choosesWith : GoodIn wsX0_choosesFrom (wsV RX0 232 RX0 yX0_choosesWith wsX0_choosesWith) := goodIn_app (goodIn_of _ (by decide +kernel)) ggX0_choosesFrom_X0_choosesWith
theorem dX0_choosesFrom_0 : decode cX0_choosesFrom 0 = .ok (.iload_n 1, 1) := by decide +kernel
theorem dX0_choosesFrom_1 : decode cX0_choosesFrom 1 = .ok (.aload_n 0, 1) := by decide +kernel
theorem dX0_choosesFrom_2 : decode cX0_choosesFrom 2 = .ok (.getfield 7, 3) := by decide +kernel
theorem dX0_choosesFrom_5 : decode cX0_choosesFrom 5 = .ok (.if_icmp .lt 5, 3) := by decide +kernel
theorem dX0_choosesFrom_8 : decode cX0_choosesFrom 8 = .ok (.iconst 1, 1) := by decide +kernel
theorem dX0_choosesFrom_9 : decode cX0_choosesFrom 9 = .ok (.ireturn, 1) := by decide +kernel
theorem dX0_choosesFrom_10 : decode cX0_choosesFrom 10 = .ok (.iconst 0, 1) := by decide +kernel
theorem dX0_choosesFrom_11 : decode cX0_choosesFrom 11 = .ok (.istore 5, 2) := by decide +kernel
theorem dX0_choosesFrom_13 : decode cX0_choosesFrom 13 = .ok (.iload 5, 2) := by decide +kernel
theorem dX0_choosesFrom_15 : decode cX0_choosesFrom 15 = .ok (.aload_n 0, 1) := by decide +kernel
theorem dX0_choosesFrom_16 : decode cX0_choosesFrom 16 = .ok (.getfield 41, 3) := by decide +kernel
theorem dX0_choosesFrom_19 : decode cX0_choosesFrom 19 = .ok (.iload_n 1, 1) := by decide +kernel
theorem dX0_choosesFrom_20 : decode cX0_choosesFrom 20 = .ok (.iaload, 1) := by decide +kernel
theorem dX0_choosesFrom_21 : decode cX0_choosesFrom 21 = .ok (.if_icmp .ge 25, 3) := by decide +kernel
theorem dX0_choosesFrom_24 : decode cX0_choosesFrom 24 = .ok (.aload_n 0, 1) := by decide +kernel
theorem dX0_choosesFrom_25 : decode cX0_choosesFrom 25 = .ok (.iload_n 1, 1) := by decide +kernel
theorem dX0_choosesFrom_26 : decode cX0_choosesFrom 26 = .ok (.iload 5, 2) := by decide +kernel
theorem dX0_choosesFrom_28 : decode cX0_choosesFrom 28 = .ok (.iload_n 2, 1) := by decide +kernel
theorem dX0_choosesFrom_29 : decode cX0_choosesFrom 29 = .ok (.iload_n 3, 1) := by decide +kernel
theorem dX0_choosesFrom_30 : decode cX0_choosesFrom 30 = .ok (.iload 4, 2) := by decide +kernel
theorem dX0_choosesFrom_32 : decode cX0_choosesFrom 32 = .ok (.invokevirtual 232, 3) := by decide +kernel
theorem dX0_choosesFrom_35 : decode cX0_choosesFrom 35 = .ok (.ifCond .eq 5, 3) := by decide +kernel
theorem dX0_choosesFrom_38 : decode cX0_choosesFrom 38 = .ok (.iconst 1, 1) := by decide +kernel
theorem dX0_choosesFrom_39 : decode cX0_choosesFrom 39 = .ok (.ireturn, 1) := by decide +kernel
theorem dX0_choosesFrom_40 : decode cX0_choosesFrom 40 = .ok (.iinc 5 1, 3) := by decide +kernel
theorem dX0_choosesFrom_43 : decode cX0_choosesFrom 43 = .ok (.goto (-30), 3) := by decide +kernel
theorem dX0_choosesFrom_46 : decode cX0_choosesFrom 46 = .ok (.iconst 0, 1) := by decide +kernel
theorem dX0_choosesFrom_47 : decode cX0_choosesFrom 47 = .ok (.ireturn, 1) := by decide +kernel
set_option maxRecDepth 20000 in
theorem ggX0_choosesWith_X0_programmeCellOf : GoodIn wsX0_choosesWith wsX0_programmeCellOf := goodIn_r _ [6] (by decide +kernel) (by decide +kernel)
set_option maxRecDepth 20000 in
theorem gX0_choosesWith_X0_programmeCellOf : GoodIn wsX0_choosesWith (va_wsS RX0 152 yX0_programmeCellOf wsX0_programmeCellOf) := goodIn_app (goodIn_of _ (by decide +kernel)) ggX0_choosesWith_X0_programmeCellOf
set_option maxRecDepth 20000 in
theorem ggX0_choosesWith_X0_choosesFrom : GoodIn wsX0_choosesWith wsX0_choosesFrom := goodIn_r _ [10, 11, 12, 13, 14, 15, 5, 0, 1, 2, 3, 4, 6, 7, 8, 9, 16, 17, 18, 19, 20, 21, 22, 23, 24, 25, 26, 27, 28, 29, 30, 31] (by decide +kernel) (by decide +kernel)
set_option maxRecDepth 20000 in
theorem gX0_choosesWith_X0_choosesFrom : GoodIn wsX0_choosesWith (wsV RX0 158 RX0 yX0_choosesFrom wsX0_choosesFrom) := goodIn_app (goodIn_of _ (by decide +kernel)) ggX0_choosesWith_X0_choosesFrom
theorem dX0_choosesWith_0 : decode cX0_choosesWith 0 = .ok (.aload_n 0, 1) := by decide +kernel
theorem dX0_choosesWith_1 : decode cX0_choosesWith 1 = .ok (.getfield 56, 3) := by decide +kernel
theorem dX0_choosesWith_4 : decode cX0_choosesWith 4 = .ok (.iload_n 1, 1) := by decide +kernel
theorem dX0_choosesWith_5 : decode cX0_choosesWith 5 = .ok (.iload_n 2, 1) := by decide +kernel
theorem dX0_choosesWith_6 : decode cX0_choosesWith 6 = .ok (.invokestatic 152, 3) := by decide +kernel
theorem dX0_choosesWith_9 : decode cX0_choosesWith 9 = .ok (.iaload, 1) := by decide +kernel
theorem dX0_choosesWith_10 : decode cX0_choosesWith 10 = .ok (.istore 6, 2) := by decide +kernel
theorem dX0_choosesWith_12 : decode cX0_choosesWith 12 = .ok (.iload 6, 2) := by decide +kernel
theorem dX0_choosesWith_14 : decode cX0_choosesWith 14 = .ok (.ifCond .eq 11, 3) := by decide +kernel
theorem dX0_choosesWith_17 : decode cX0_choosesWith 17 = .ok (.iload 6, 2) := by decide +kernel
theorem dX0_choosesWith_19 : decode cX0_choosesWith 19 = .ok (.iload 5, 2) := by decide +kernel
theorem dX0_choosesWith_21 : decode cX0_choosesWith 21 = .ok (.iand, 1) := by decide +kernel
theorem dX0_choosesWith_22 : decode cX0_choosesWith 22 = .ok (.ifCond .eq 5, 3) := by decide +kernel
theorem dX0_choosesWith_25 : decode cX0_choosesWith 25 = .ok (.iconst 0, 1) := by decide +kernel
theorem dX0_choosesWith_26 : decode cX0_choosesWith 26 = .ok (.ireturn, 1) := by decide +kernel
theorem dX0_choosesWith_27 : decode cX0_choosesWith 27 = .ok (.aload_n 0, 1) := by decide +kernel
theorem dX0_choosesWith_28 : decode cX0_choosesWith 28 = .ok (.iload_n 1, 1) := by decide +kernel
theorem dX0_choosesWith_29 : decode cX0_choosesWith 29 = .ok (.iconst 1, 1) := by decide +kernel
theorem dX0_choosesWith_30 : decode cX0_choosesWith 30 = .ok (.iadd, 1) := by decide +kernel
theorem dX0_choosesWith_31 : decode cX0_choosesWith 31 = .ok (.iload_n 3, 1) := by decide +kernel
theorem dX0_choosesWith_32 : decode cX0_choosesWith 32 = .ok (.iload 6, 2) := by decide +kernel
theorem dX0_choosesWith_34 : decode cX0_choosesWith 34 = .ok (.ior, 1) := by decide +kernel
theorem dX0_choosesWith_35 : decode cX0_choosesWith 35 = .ok (.iload 4, 2) := by decide +kernel
theorem dX0_choosesWith_37 : decode cX0_choosesWith 37 = .ok (.iload_n 3, 1) := by decide +kernel
theorem dX0_choosesWith_38 : decode cX0_choosesWith 38 = .ok (.iload 6, 2) := by decide +kernel
theorem dX0_choosesWith_40 : decode cX0_choosesWith 40 = .ok (.iand, 1) := by decide +kernel
theorem dX0_choosesWith_41 : decode cX0_choosesWith 41 = .ok (.ior, 1) := by decide +kernel
theorem dX0_choosesWith_42 : decode cX0_choosesWith 42 = .ok (.iload 5, 2) := by decide +kernel
theorem dX0_choosesWith_44 : decode cX0_choosesWith 44 = .ok (.iload 4, 2) := by decide +kernel
theorem dX0_choosesWith_46 : decode cX0_choosesWith 46 = .ok (.iload 6, 2) := by decide +kernel
theorem dX0_choosesWith_48 : decode cX0_choosesWith 48 = .ok (.iand, 1) := by decide +kernel
theorem dX0_choosesWith_49 : decode cX0_choosesWith 49 = .ok (.ior, 1) := by decide +kernel
theorem dX0_choosesWith_50 : decode cX0_choosesWith 50 = .ok (.invokevirtual 158, 3) := by decide +kernel
theorem dX0_choosesWith_53 : decode cX0_choosesWith 53 = .ok (.ifCond .ne 5, 3) := by decide +kernel
theorem dX0_choosesWith_56 : decode cX0_choosesWith 56 = .ok (.iconst 0, 1) := by decide +kernel
theorem dX0_choosesWith_57 : decode cX0_choosesWith 57 = .ok (.ireturn, 1) := by decide +kernel
theorem dX0_choosesWith_58 : decode cX0_choosesWith 58 = .ok (.aload_n 0, 1) := by decide +kernel
theorem dX0_choosesWith_59 : decode cX0_choosesWith 59 = .ok (.getfield 44, 3) := by decide +kernel
theorem dX0_choosesWith_62 : decode cX0_choosesWith 62 = .ok (.iload_n 1, 1) := by decide +kernel
theorem dX0_choosesWith_63 : decode cX0_choosesWith 63 = .ok (.iload_n 2, 1) := by decide +kernel
theorem dX0_choosesWith_64 : decode cX0_choosesWith 64 = .ok (.iastore, 1) := by decide +kernel
theorem dX0_choosesWith_65 : decode cX0_choosesWith 65 = .ok (.iconst 1, 1) := by decide +kernel
theorem dX0_choosesWith_66 : decode cX0_choosesWith 66 = .ok (.ireturn, 1) := by decide +kernel
theorem dX0_factorial_0 : decode cX0_factorial 0 = .ok (.iconst 1, 1) := by decide +kernel
theorem dX0_factorial_1 : decode cX0_factorial 1 = .ok (.istore_n 1, 1) := by decide +kernel
theorem dX0_factorial_2 : decode cX0_factorial 2 = .ok (.iconst 2, 1) := by decide +kernel
theorem dX0_factorial_3 : decode cX0_factorial 3 = .ok (.istore_n 2, 1) := by decide +kernel
theorem dX0_factorial_4 : decode cX0_factorial 4 = .ok (.iload_n 2, 1) := by decide +kernel
theorem dX0_factorial_5 : decode cX0_factorial 5 = .ok (.iload_n 0, 1) := by decide +kernel
theorem dX0_factorial_6 : decode cX0_factorial 6 = .ok (.if_icmp .gt 13, 3) := by decide +kernel
theorem dX0_factorial_9 : decode cX0_factorial 9 = .ok (.iload_n 1, 1) := by decide +kernel
theorem dX0_factorial_10 : decode cX0_factorial 10 = .ok (.iload_n 2, 1) := by decide +kernel
theorem dX0_factorial_11 : decode cX0_factorial 11 = .ok (.imul, 1) := by decide +kernel
theorem dX0_factorial_12 : decode cX0_factorial 12 = .ok (.istore_n 1, 1) := by decide +kernel
theorem dX0_factorial_13 : decode cX0_factorial 13 = .ok (.iinc 2 1, 3) := by decide +kernel
theorem dX0_factorial_16 : decode cX0_factorial 16 = .ok (.goto (-12), 3) := by decide +kernel
theorem dX0_factorial_19 : decode cX0_factorial 19 = .ok (.iload_n 1, 1) := by decide +kernel
theorem dX0_factorial_20 : decode cX0_factorial 20 = .ok (.ireturn, 1) := by decide +kernel
theorem dX0_bitOf_0 : decode cX0_bitOf 0 = .ok (.iconst 0, 1) := by decide +kernel
theorem dX0_bitOf_1 : decode cX0_bitOf 1 = .ok (.istore_n 2, 1) := by decide +kernel
theorem dX0_bitOf_2 : decode cX0_bitOf 2 = .ok (.iconst 0, 1) := by decide +kernel
theorem dX0_bitOf_3 : decode cX0_bitOf 3 = .ok (.istore_n 3, 1) := by decide +kernel
theorem dX0_bitOf_4 : decode cX0_bitOf 4 = .ok (.iload_n 3, 1) := by decide +kernel
theorem dX0_bitOf_5 : decode cX0_bitOf 5 = .ok (.bipush 10, 2) := by decide +kernel
theorem dX0_bitOf_7 : decode cX0_bitOf 7 = .ok (.if_icmp .ge 28, 3) := by decide +kernel
theorem dX0_bitOf_10 : decode cX0_bitOf 10 = .ok (.iload_n 0, 1) := by decide +kernel
theorem dX0_bitOf_11 : decode cX0_bitOf 11 = .ok (.iload_n 3, 1) := by decide +kernel
theorem dX0_bitOf_12 : decode cX0_bitOf 12 = .ok (.ishr, 1) := by decide +kernel
theorem dX0_bitOf_13 : decode cX0_bitOf 13 = .ok (.iconst 1, 1) := by decide +kernel
theorem dX0_bitOf_14 : decode cX0_bitOf 14 = .ok (.iand, 1) := by decide +kernel
theorem dX0_bitOf_15 : decode cX0_bitOf 15 = .ok (.iconst 1, 1) := by decide +kernel
theorem dX0_bitOf_16 : decode cX0_bitOf 16 = .ok (.if_icmp .ne 13, 3) := by decide +kernel
theorem dX0_bitOf_19 : decode cX0_bitOf 19 = .ok (.iload_n 2, 1) := by decide +kernel
theorem dX0_bitOf_20 : decode cX0_bitOf 20 = .ok (.iload_n 1, 1) := by decide +kernel
theorem dX0_bitOf_21 : decode cX0_bitOf 21 = .ok (.if_icmp .ne 5, 3) := by decide +kernel
theorem dX0_bitOf_24 : decode cX0_bitOf 24 = .ok (.iload_n 3, 1) := by decide +kernel
theorem dX0_bitOf_25 : decode cX0_bitOf 25 = .ok (.ireturn, 1) := by decide +kernel
theorem dX0_bitOf_26 : decode cX0_bitOf 26 = .ok (.iinc 2 1, 3) := by decide +kernel
theorem dX0_bitOf_29 : decode cX0_bitOf 29 = .ok (.iinc 3 1, 3) := by decide +kernel
theorem dX0_bitOf_32 : decode cX0_bitOf 32 = .ok (.goto (-28), 3) := by decide +kernel
theorem dX0_bitOf_35 : decode cX0_bitOf 35 = .ok (.iconst (-1), 1) := by decide +kernel
theorem dX0_bitOf_36 : decode cX0_bitOf 36 = .ok (.ireturn, 1) := by decide +kernel
theorem dX0_countMarks_0 : decode cX0_countMarks 0 = .ok (.iconst 0, 1) := by decide +kernel
theorem dX0_countMarks_1 : decode cX0_countMarks 1 = .ok (.istore_n 1, 1) := by decide +kernel
theorem dX0_countMarks_2 : decode cX0_countMarks 2 = .ok (.iconst 0, 1) := by decide +kernel
theorem dX0_countMarks_3 : decode cX0_countMarks 3 = .ok (.istore_n 2, 1) := by decide +kernel
theorem dX0_countMarks_4 : decode cX0_countMarks 4 = .ok (.iload_n 2, 1) := by decide +kernel
theorem dX0_countMarks_5 : decode cX0_countMarks 5 = .ok (.aload_n 0, 1) := by decide +kernel
theorem dX0_countMarks_6 : decode cX0_countMarks 6 = .ok (.getfield 16, 3) := by decide +kernel
theorem dX0_countMarks_9 : decode cX0_countMarks 9 = .ok (.arraylength, 1) := by decide +kernel
theorem dX0_countMarks_10 : decode cX0_countMarks 10 = .ok (.if_icmp .ge 22, 3) := by decide +kernel
theorem dX0_countMarks_13 : decode cX0_countMarks 13 = .ok (.aload_n 0, 1) := by decide +kernel
theorem dX0_countMarks_14 : decode cX0_countMarks 14 = .ok (.getfield 16, 3) := by decide +kernel
theorem dX0_countMarks_17 : decode cX0_countMarks 17 = .ok (.iload_n 2, 1) := by decide +kernel
theorem dX0_countMarks_18 : decode cX0_countMarks 18 = .ok (.iaload, 1) := by decide +kernel
theorem dX0_countMarks_19 : decode cX0_countMarks 19 = .ok (.iconst (-1), 1) := by decide +kernel
theorem dX0_countMarks_20 : decode cX0_countMarks 20 = .ok (.if_icmp .eq 6, 3) := by decide +kernel
theorem dX0_countMarks_23 : decode cX0_countMarks 23 = .ok (.iinc 1 1, 3) := by decide +kernel
theorem dX0_countMarks_26 : decode cX0_countMarks 26 = .ok (.iinc 2 1, 3) := by decide +kernel
theorem dX0_countMarks_29 : decode cX0_countMarks 29 = .ok (.goto (-25), 3) := by decide +kernel
theorem dX0_countMarks_32 : decode cX0_countMarks 32 = .ok (.iload_n 1, 1) := by decide +kernel
theorem dX0_countMarks_33 : decode cX0_countMarks 33 = .ok (.ireturn, 1) := by decide +kernel
theorem dX0_sumOf_0 : decode cX0_sumOf 0 = .ok (.iconst 0, 1) := by decide +kernel
theorem dX0_sumOf_1 : decode cX0_sumOf 1 = .ok (.istore_n 1, 1) := by decide +kernel
theorem dX0_sumOf_2 : decode cX0_sumOf 2 = .ok (.iconst 0, 1) := by decide +kernel
theorem dX0_sumOf_3 : decode cX0_sumOf 3 = .ok (.istore_n 2, 1) := by decide +kernel
theorem dX0_sumOf_4 : decode cX0_sumOf 4 = .ok (.iload_n 2, 1) := by decide +kernel
theorem dX0_sumOf_5 : decode cX0_sumOf 5 = .ok (.aload_n 0, 1) := by decide +kernel
theorem dX0_sumOf_6 : decode cX0_sumOf 6 = .ok (.arraylength, 1) := by decide +kernel
theorem dX0_sumOf_7 : decode cX0_sumOf 7 = .ok (.if_icmp .ge 15, 3) := by decide +kernel
theorem dX0_sumOf_10 : decode cX0_sumOf 10 = .ok (.iload_n 1, 1) := by decide +kernel
theorem dX0_sumOf_11 : decode cX0_sumOf 11 = .ok (.aload_n 0, 1) := by decide +kernel
theorem dX0_sumOf_12 : decode cX0_sumOf 12 = .ok (.iload_n 2, 1) := by decide +kernel
theorem dX0_sumOf_13 : decode cX0_sumOf 13 = .ok (.iaload, 1) := by decide +kernel
theorem dX0_sumOf_14 : decode cX0_sumOf 14 = .ok (.iadd, 1) := by decide +kernel
theorem dX0_sumOf_15 : decode cX0_sumOf 15 = .ok (.istore_n 1, 1) := by decide +kernel
theorem dX0_sumOf_16 : decode cX0_sumOf 16 = .ok (.iinc 2 1, 3) := by decide +kernel
theorem dX0_sumOf_19 : decode cX0_sumOf 19 = .ok (.goto (-15), 3) := by decide +kernel
theorem dX0_sumOf_22 : decode cX0_sumOf 22 = .ok (.iload_n 1, 1) := by decide +kernel
theorem dX0_sumOf_23 : decode cX0_sumOf 23 = .ok (.ireturn, 1) := by decide +kernel
theorem dX0_mixed_0 : decode cX0_mixed 0 = .ok (.ldc2_w 236, 3) := by decide +kernel
theorem dX0_mixed_3 : decode cX0_mixed 3 = .ok (.lload_n 0, 1) := by decide +kernel
theorem dX0_mixed_4 : decode cX0_mixed 4 = .ok (.lmul, 1) := by decide +kernel
theorem dX0_mixed_5 : decode cX0_mixed 5 = .ok (.lload_n 2, 1) := by decide +kernel
theorem dX0_mixed_6 : decode cX0_mixed 6 = .ok (.ladd, 1) := by decide +kernel
theorem dX0_mixed_7 : decode cX0_mixed 7 = .ok (.lreturn, 1) := by decide +kernel
set_option maxRecDepth 20000 in
theorem ggX0_mixedRow_X0_mixed : GoodIn wsX0_mixedRow wsX0_mixed := goodIn_r _ [4, 5] (by decide +kernel) (by decide +kernel)
set_option maxRecDepth 20000 in
theorem gX0_mixedRow_X0_mixed : GoodIn wsX0_mixedRow (va_wsS RX0 174 yX0_mixed wsX0_mixed) := goodIn_app (goodIn_of _ (by decide +kernel)) ggX0_mixedRow_X0_mixed
theorem dX0_mixedRow_0 : decode cX0_mixedRow 0 = .ok (.lload_n 0, 1) := by decide +kernel
theorem dX0_mixedRow_1 : decode cX0_mixedRow 1 = .ok (.lstore_n 3, 1) := by decide +kernel
theorem dX0_mixedRow_2 : decode cX0_mixedRow 2 = .ok (.iconst 0, 1) := by decide +kernel
theorem dX0_mixedRow_3 : decode cX0_mixedRow 3 = .ok (.istore 5, 2) := by decide +kernel
theorem dX0_mixedRow_5 : decode cX0_mixedRow 5 = .ok (.iload 5, 2) := by decide +kernel
theorem dX0_mixedRow_7 : decode cX0_mixedRow 7 = .ok (.aload_n 2, 1) := by decide +kernel
theorem dX0_mixedRow_8 : decode cX0_mixedRow 8 = .ok (.arraylength, 1) := by decide +kernel
theorem dX0_mixedRow_9 : decode cX0_mixedRow 9 = .ok (.if_icmp .ge 19, 3) := by decide +kernel
theorem dX0_mixedRow_12 : decode cX0_mixedRow 12 = .ok (.lload_n 3, 1) := by decide +kernel
theorem dX0_mixedRow_13 : decode cX0_mixedRow 13 = .ok (.aload_n 2, 1) := by decide +kernel
theorem dX0_mixedRow_14 : decode cX0_mixedRow 14 = .ok (.iload 5, 2) := by decide +kernel
theorem dX0_mixedRow_16 : decode cX0_mixedRow 16 = .ok (.iaload, 1) := by decide +kernel
theorem dX0_mixedRow_17 : decode cX0_mixedRow 17 = .ok (.i2l, 1) := by decide +kernel
theorem dX0_mixedRow_18 : decode cX0_mixedRow 18 = .ok (.invokestatic 174, 3) := by decide +kernel
theorem dX0_mixedRow_21 : decode cX0_mixedRow 21 = .ok (.lstore_n 3, 1) := by decide +kernel
theorem dX0_mixedRow_22 : decode cX0_mixedRow 22 = .ok (.iinc 5 1, 3) := by decide +kernel
theorem dX0_mixedRow_25 : decode cX0_mixedRow 25 = .ok (.goto (-20), 3) := by decide +kernel
theorem dX0_mixedRow_28 : decode cX0_mixedRow 28 = .ok (.lload_n 3, 1) := by decide +kernel
theorem dX0_mixedRow_29 : decode cX0_mixedRow 29 = .ok (.lreturn, 1) := by decide +kernel
set_option maxRecDepth 20000 in
theorem ggX0_mixedRound_X0_cellOf : GoodIn wsX0_mixedRound wsX0_cellOf := goodIn_r _ [8] (by decide +kernel) (by decide +kernel)
set_option maxRecDepth 20000 in
theorem gX0_mixedRound_X0_cellOf : GoodIn wsX0_mixedRound (va_wsS RX0 82 yX0_cellOf wsX0_cellOf) := goodIn_app (goodIn_of _ (by decide +kernel)) ggX0_mixedRound_X0_cellOf
set_option maxRecDepth 20000 in
theorem ggX0_mixedRound_X0_mixed : GoodIn wsX0_mixedRound wsX0_mixed := goodIn_r _ [11, 12] (by decide +kernel) (by decide +kernel)
set_option maxRecDepth 20000 in
theorem gX0_mixedRound_X0_mixed : GoodIn wsX0_mixedRound (va_wsS RX0 174 yX0_mixed wsX0_mixed) := goodIn_app (goodIn_of _ (by decide +kernel)) ggX0_mixedRound_X0_mixed
theorem dX0_mixedRound_0 : decode cX0_mixedRound 0 = .ok (.lload_n 1, 1) := by decide +kernel
theorem dX0_mixedRound_1 : decode cX0_mixedRound 1 = .ok (.lstore 4, 2) := by decide +kernel
theorem dX0_mixedRound_3 : decode cX0_mixedRound 3 = .ok (.iconst 0, 1) := by decide +kernel
theorem dX0_mixedRound_4 : decode cX0_mixedRound 4 = .ok (.istore 6, 2) := by decide +kernel
theorem dX0_mixedRound_6 : decode cX0_mixedRound 6 = .ok (.iload 6, 2) := by decide +kernel
theorem dX0_mixedRound_8 : decode cX0_mixedRound 8 = .ok (.aload_n 0, 1) := by decide +kernel
theorem dX0_mixedRound_9 : decode cX0_mixedRound 9 = .ok (.getfield 13, 3) := by decide +kernel
theorem dX0_mixedRound_12 : decode cX0_mixedRound 12 = .ok (.if_icmp .ge 63, 3) := by decide +kernel
theorem dX0_mixedRound_15 : decode cX0_mixedRound 15 = .ok (.iconst 0, 1) := by decide +kernel
theorem dX0_mixedRound_16 : decode cX0_mixedRound 16 = .ok (.istore 7, 2) := by decide +kernel
theorem dX0_mixedRound_18 : decode cX0_mixedRound 18 = .ok (.iload 7, 2) := by decide +kernel
theorem dX0_mixedRound_20 : decode cX0_mixedRound 20 = .ok (.aload_n 0, 1) := by decide +kernel
theorem dX0_mixedRound_21 : decode cX0_mixedRound 21 = .ok (.getfield 7, 3) := by decide +kernel
theorem dX0_mixedRound_24 : decode cX0_mixedRound 24 = .ok (.if_icmp .ge 45, 3) := by decide +kernel
theorem dX0_mixedRound_27 : decode cX0_mixedRound 27 = .ok (.iload_n 3, 1) := by decide +kernel
theorem dX0_mixedRound_28 : decode cX0_mixedRound 28 = .ok (.iload 6, 2) := by decide +kernel
theorem dX0_mixedRound_30 : decode cX0_mixedRound 30 = .ok (.iload 7, 2) := by decide +kernel
theorem dX0_mixedRound_32 : decode cX0_mixedRound 32 = .ok (.invokestatic 82, 3) := by decide +kernel
theorem dX0_mixedRound_35 : decode cX0_mixedRound 35 = .ok (.istore 8, 2) := by decide +kernel
theorem dX0_mixedRound_37 : decode cX0_mixedRound 37 = .ok (.lload 4, 2) := by decide +kernel
theorem dX0_mixedRound_39 : decode cX0_mixedRound 39 = .ok (.aload_n 0, 1) := by decide +kernel
theorem dX0_mixedRound_40 : decode cX0_mixedRound 40 = .ok (.getfield 16, 3) := by decide +kernel
theorem dX0_mixedRound_43 : decode cX0_mixedRound 43 = .ok (.iload 8, 2) := by decide +kernel
theorem dX0_mixedRound_45 : decode cX0_mixedRound 45 = .ok (.iaload, 1) := by decide +kernel
theorem dX0_mixedRound_46 : decode cX0_mixedRound 46 = .ok (.i2l, 1) := by decide +kernel
theorem dX0_mixedRound_47 : decode cX0_mixedRound 47 = .ok (.invokestatic 174, 3) := by decide +kernel
theorem dX0_mixedRound_50 : decode cX0_mixedRound 50 = .ok (.aload_n 0, 1) := by decide +kernel
theorem dX0_mixedRound_51 : decode cX0_mixedRound 51 = .ok (.getfield 20, 3) := by decide +kernel
theorem dX0_mixedRound_54 : decode cX0_mixedRound 54 = .ok (.iload 8, 2) := by decide +kernel
theorem dX0_mixedRound_56 : decode cX0_mixedRound 56 = .ok (.iaload, 1) := by decide +kernel
theorem dX0_mixedRound_57 : decode cX0_mixedRound 57 = .ok (.i2l, 1) := by decide +kernel
theorem dX0_mixedRound_58 : decode cX0_mixedRound 58 = .ok (.invokestatic 174, 3) := by decide +kernel
theorem dX0_mixedRound_61 : decode cX0_mixedRound 61 = .ok (.lstore 4, 2) := by decide +kernel
theorem dX0_mixedRound_63 : decode cX0_mixedRound 63 = .ok (.iinc 7 1, 3) := by decide +kernel
theorem dX0_mixedRound_66 : decode cX0_mixedRound 66 = .ok (.goto (-48), 3) := by decide +kernel
theorem dX0_mixedRound_69 : decode cX0_mixedRound 69 = .ok (.iinc 6 1, 3) := by decide +kernel
theorem dX0_mixedRound_72 : decode cX0_mixedRound 72 = .ok (.goto (-66), 3) := by decide +kernel
theorem dX0_mixedRound_75 : decode cX0_mixedRound 75 = .ok (.lload 4, 2) := by decide +kernel
theorem dX0_mixedRound_77 : decode cX0_mixedRound 77 = .ok (.lreturn, 1) := by decide +kernel

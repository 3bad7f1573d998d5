theorem dX2_init_0 : decode cX2_init 0 = .ok (.aload_n 0, 1) := by decide +kernel
theorem dX2_init_1 : decode cX2_init 1 = .ok (.invokespecial 1, 3) := by decide +kernel
theorem dX2_init_4 : decode cX2_init 4 = .ok (.aload_n 0, 1) := by decide +kernel
theorem dX2_init_5 : decode cX2_init 5 = .ok (.bipush 100, 2) := by decide +kernel
theorem dX2_init_7 : decode cX2_init 7 = .ok (.newarray .int, 2) := by decide +kernel
theorem dX2_init_9 : decode cX2_init 9 = .ok (.putfield 7, 3) := by decide +kernel
theorem dX2_init_12 : decode cX2_init 12 = .ok (.aload_n 0, 1) := by decide +kernel
theorem dX2_init_13 : decode cX2_init 13 = .ok (.bipush 100, 2) := by decide +kernel
theorem dX2_init_15 : decode cX2_init 15 = .ok (.newarray .int, 2) := by decide +kernel
theorem dX2_init_17 : decode cX2_init 17 = .ok (.putfield 13, 3) := by decide +kernel
theorem dX2_init_20 : decode cX2_init 20 = .ok (.aload_n 0, 1) := by decide +kernel
theorem dX2_init_21 : decode cX2_init 21 = .ok (.iconst 4, 1) := by decide +kernel
theorem dX2_init_22 : decode cX2_init 22 = .ok (.newarray .int, 2) := by decide +kernel
theorem dX2_init_24 : decode cX2_init 24 = .ok (.putfield 16, 3) := by decide +kernel
theorem dX2_init_27 : decode cX2_init 27 = .ok (.aload_n 0, 1) := by decide +kernel
theorem dX2_init_28 : decode cX2_init 28 = .ok (.iconst 4, 1) := by decide +kernel
theorem dX2_init_29 : decode cX2_init 29 = .ok (.newarray .int, 2) := by decide +kernel
theorem dX2_init_31 : decode cX2_init 31 = .ok (.putfield 19, 3) := by decide +kernel
theorem dX2_init_34 : decode cX2_init 34 = .ok (.aload_n 0, 1) := by decide +kernel
theorem dX2_init_35 : decode cX2_init 35 = .ok (.bipush 10, 2) := by decide +kernel
theorem dX2_init_37 : decode cX2_init 37 = .ok (.newarray .long, 2) := by decide +kernel
theorem dX2_init_39 : decode cX2_init 39 = .ok (.putfield 22, 3) := by decide +kernel
theorem dX2_init_42 : decode cX2_init 42 = .ok (.aload_n 0, 1) := by decide +kernel
theorem dX2_init_43 : decode cX2_init 43 = .ok (.bipush 10, 2) := by decide +kernel
theorem dX2_init_45 : decode cX2_init 45 = .ok (.newarray .int, 2) := by decide +kernel
theorem dX2_init_47 : decode cX2_init 47 = .ok (.putfield 26, 3) := by decide +kernel
theorem dX2_init_50 : decode cX2_init 50 = .ok (.aload_n 0, 1) := by decide +kernel
theorem dX2_init_51 : decode cX2_init 51 = .ok (.iload_n 1, 1) := by decide +kernel
theorem dX2_init_52 : decode cX2_init 52 = .ok (.iconst 1, 1) := by decide +kernel
theorem dX2_init_53 : decode cX2_init 53 = .ok (.if_icmp .ge 7, 3) := by decide +kernel
theorem dX2_init_56 : decode cX2_init 56 = .ok (.iconst 1, 1) := by decide +kernel
theorem dX2_init_57 : decode cX2_init 57 = .ok (.goto 15, 3) := by decide +kernel
theorem dX2_init_60 : decode cX2_init 60 = .ok (.iload_n 1, 1) := by decide +kernel
theorem dX2_init_61 : decode cX2_init 61 = .ok (.bipush 10, 2) := by decide +kernel
theorem dX2_init_63 : decode cX2_init 63 = .ok (.if_icmp .le 8, 3) := by decide +kernel
theorem dX2_init_66 : decode cX2_init 66 = .ok (.bipush 10, 2) := by decide +kernel
theorem dX2_init_68 : decode cX2_init 68 = .ok (.goto 4, 3) := by decide +kernel
theorem dX2_init_71 : decode cX2_init 71 = .ok (.iload_n 1, 1) := by decide +kernel
theorem dX2_init_72 : decode cX2_init 72 = .ok (.putfield 29, 3) := by decide +kernel
theorem dX2_init_75 : decode cX2_init 75 = .ok (.aload_n 0, 1) := by decide +kernel
theorem dX2_init_76 : decode cX2_init 76 = .ok (.iload_n 2, 1) := by decide +kernel
theorem dX2_init_77 : decode cX2_init 77 = .ok (.iconst 1, 1) := by decide +kernel
theorem dX2_init_78 : decode cX2_init 78 = .ok (.if_icmp .ge 7, 3) := by decide +kernel
theorem dX2_init_81 : decode cX2_init 81 = .ok (.iconst 1, 1) := by decide +kernel
theorem dX2_init_82 : decode cX2_init 82 = .ok (.goto 15, 3) := by decide +kernel
theorem dX2_init_85 : decode cX2_init 85 = .ok (.iload_n 2, 1) := by decide +kernel
theorem dX2_init_86 : decode cX2_init 86 = .ok (.bipush 10, 2) := by decide +kernel
theorem dX2_init_88 : decode cX2_init 88 = .ok (.if_icmp .le 8, 3) := by decide +kernel
theorem dX2_init_91 : decode cX2_init 91 = .ok (.bipush 10, 2) := by decide +kernel
theorem dX2_init_93 : decode cX2_init 93 = .ok (.goto 4, 3) := by decide +kernel
theorem dX2_init_96 : decode cX2_init 96 = .ok (.iload_n 2, 1) := by decide +kernel
theorem dX2_init_97 : decode cX2_init 97 = .ok (.putfield 33, 3) := by decide +kernel
theorem dX2_init_100 : decode cX2_init 100 = .ok (.return_, 1) := by decide +kernel
theorem dX2_thrown_0 : decode cX2_thrown 0 = .ok (.aload_n 0, 1) := by decide +kernel
theorem dX2_thrown_1 : decode cX2_thrown 1 = .ok (.getfield 36, 3) := by decide +kernel
theorem dX2_thrown_4 : decode cX2_thrown 4 = .ok (.ireturn, 1) := by decide +kernel
theorem dX2_in_0 : decode cX2_in 0 = .ok (.iload_n 0, 1) := by decide +kernel
theorem dX2_in_1 : decode cX2_in 1 = .ok (.iload_n 1, 1) := by decide +kernel
theorem dX2_in_2 : decode cX2_in 2 = .ok (.if_icmp .lt 12, 3) := by decide +kernel
theorem dX2_in_5 : decode cX2_in 5 = .ok (.iload_n 0, 1) := by decide +kernel
theorem dX2_in_6 : decode cX2_in 6 = .ok (.iload_n 2, 1) := by decide +kernel
theorem dX2_in_7 : decode cX2_in 7 = .ok (.if_icmp .gt 7, 3) := by decide +kernel
theorem dX2_in_10 : decode cX2_in 10 = .ok (.iconst 1, 1) := by decide +kernel
theorem dX2_in_11 : decode cX2_in 11 = .ok (.goto 4, 3) := by decide +kernel
theorem dX2_in_14 : decode cX2_in 14 = .ok (.iconst 0, 1) := by decide +kernel
theorem dX2_in_15 : decode cX2_in 15 = .ok (.ireturn, 1) := by decide +kernel
set_option maxRecDepth 20000 in
theorem ggX2_isCell_X2_in : GoodIn wsX2_isCell wsX2_in := goodIn_r _ [6] (by decide +kernel) (by decide +kernel)
set_option maxRecDepth 20000 in
theorem gX2_isCell_X2_in : GoodIn wsX2_isCell (va_wsS RX2 39 yX2_in wsX2_in) := goodIn_app (goodIn_of _ (by decide +kernel)) ggX2_isCell_X2_in
theorem dX2_isCell_0 : decode cX2_isCell 0 = .ok (.iload_n 1, 1) := by decide +kernel
theorem dX2_isCell_1 : decode cX2_isCell 1 = .ok (.iconst 0, 1) := by decide +kernel
theorem dX2_isCell_2 : decode cX2_isCell 2 = .ok (.aload_n 0, 1) := by decide +kernel
theorem dX2_isCell_3 : decode cX2_isCell 3 = .ok (.getfield 29, 3) := by decide +kernel
theorem dX2_isCell_6 : decode cX2_isCell 6 = .ok (.iconst 1, 1) := by decide +kernel
theorem dX2_isCell_7 : decode cX2_isCell 7 = .ok (.isub, 1) := by decide +kernel
theorem dX2_isCell_8 : decode cX2_isCell 8 = .ok (.invokestatic 39, 3) := by decide +kernel
theorem dX2_isCell_11 : decode cX2_isCell 11 = .ok (.ifCond .eq 21, 3) := by decide +kernel
theorem dX2_isCell_14 : decode cX2_isCell 14 = .ok (.iload_n 2, 1) := by decide +kernel
theorem dX2_isCell_15 : decode cX2_isCell 15 = .ok (.iconst 0, 1) := by decide +kernel
theorem dX2_isCell_16 : decode cX2_isCell 16 = .ok (.aload_n 0, 1) := by decide +kernel
theorem dX2_isCell_17 : decode cX2_isCell 17 = .ok (.getfield 33, 3) := by decide +kernel
theorem dX2_isCell_20 : decode cX2_isCell 20 = .ok (.iconst 1, 1) := by decide +kernel
theorem dX2_isCell_21 : decode cX2_isCell 21 = .ok (.isub, 1) := by decide +kernel
theorem dX2_isCell_22 : decode cX2_isCell 22 = .ok (.invokestatic 39, 3) := by decide +kernel
theorem dX2_isCell_25 : decode cX2_isCell 25 = .ok (.ifCond .eq 7, 3) := by decide +kernel
theorem dX2_isCell_28 : decode cX2_isCell 28 = .ok (.iconst 1, 1) := by decide +kernel
theorem dX2_isCell_29 : decode cX2_isCell 29 = .ok (.goto 4, 3) := by decide +kernel
theorem dX2_isCell_32 : decode cX2_isCell 32 = .ok (.iconst 0, 1) := by decide +kernel
theorem dX2_isCell_33 : decode cX2_isCell 33 = .ok (.ireturn, 1) := by decide +kernel
theorem dX2_may_0 : decode cX2_may 0 = .ok (.aload_n 0, 1) := by decide +kernel
theorem dX2_may_1 : decode cX2_may 1 = .ok (.iload_n 1, 1) := by decide +kernel
theorem dX2_may_2 : decode cX2_may 2 = .ok (.ifCond .eq 7, 3) := by decide +kernel
theorem dX2_may_5 : decode cX2_may 5 = .ok (.iconst 0, 1) := by decide +kernel
theorem dX2_may_6 : decode cX2_may 6 = .ok (.goto 4, 3) := by decide +kernel
theorem dX2_may_9 : decode cX2_may 9 = .ok (.iconst 1, 1) := by decide +kernel
theorem dX2_may_10 : decode cX2_may 10 = .ok (.putfield 36, 3) := by decide +kernel
theorem dX2_may_13 : decode cX2_may 13 = .ok (.iload_n 1, 1) := by decide +kernel
theorem dX2_may_14 : decode cX2_may 14 = .ok (.ireturn, 1) := by decide +kernel
set_option maxRecDepth 20000 in
theorem ggX2_box_X2_isCell : GoodIn wsX2_box wsX2_isCell := goodIn_r _ [7, 8, 9, 10, 11, 6, 12, 18, 19, 20, 21, 22, 23, 24, 25, 26, 27, 28, 29, 30, 31, 32] (by decide +kernel) (by decide +kernel)
set_option maxRecDepth 20000 in
theorem gX2_box_X2_isCell : GoodIn wsX2_box (wsV RX2 43 RX2 yX2_isCell wsX2_isCell) := goodIn_app (goodIn_of _ (by decide +kernel)) ggX2_box_X2_isCell
set_option maxRecDepth 20000 in
theorem ggX2_box_X2_in : GoodIn wsX2_box wsX2_in := goodIn_r _ [12] (by decide +kernel) (by decide +kernel)
set_option maxRecDepth 20000 in
theorem gX2_box_X2_in : GoodIn wsX2_box (va_wsS RX2 39 yX2_in wsX2_in) := goodIn_app (goodIn_of _ (by decide +kernel)) ggX2_box_X2_in
set_option maxRecDepth 20000 in
theorem ggX2_box_X2_may : GoodIn wsX2_box wsX2_may := goodIn_r _ [16, 17, 18, 19, 20, 21, 22, 23, 24, 25, 26, 27, 28, 29, 30, 31, 32] (by decide +kernel) (by decide +kernel)
set_option maxRecDepth 20000 in
theorem gX2_box_X2_may : GoodIn wsX2_box (wsV RX2 47 RX2 yX2_may wsX2_may) := goodIn_app (goodIn_of _ (by decide +kernel)) ggX2_box_X2_may
theorem dX2_box_0 : decode cX2_box 0 = .ok (.aload_n 0, 1) := by decide +kernel
theorem dX2_box_1 : decode cX2_box 1 = .ok (.aload_n 0, 1) := by decide +kernel
theorem dX2_box_2 : decode cX2_box 2 = .ok (.iload_n 1, 1) := by decide +kernel
theorem dX2_box_3 : decode cX2_box 3 = .ok (.iload_n 2, 1) := by decide +kernel
theorem dX2_box_4 : decode cX2_box 4 = .ok (.invokevirtual 43, 3) := by decide +kernel
theorem dX2_box_7 : decode cX2_box 7 = .ok (.ifCond .eq 39, 3) := by decide +kernel
theorem dX2_box_10 : decode cX2_box 10 = .ok (.aload_n 0, 1) := by decide +kernel
theorem dX2_box_11 : decode cX2_box 11 = .ok (.iload_n 3, 1) := by decide +kernel
theorem dX2_box_12 : decode cX2_box 12 = .ok (.iload 4, 2) := by decide +kernel
theorem dX2_box_14 : decode cX2_box 14 = .ok (.invokevirtual 43, 3) := by decide +kernel
theorem dX2_box_17 : decode cX2_box 17 = .ok (.ifCond .eq 29, 3) := by decide +kernel
theorem dX2_box_20 : decode cX2_box 20 = .ok (.iload_n 1, 1) := by decide +kernel
theorem dX2_box_21 : decode cX2_box 21 = .ok (.iload_n 3, 1) := by decide +kernel
theorem dX2_box_22 : decode cX2_box 22 = .ok (.if_icmp .gt 24, 3) := by decide +kernel
theorem dX2_box_25 : decode cX2_box 25 = .ok (.iload_n 2, 1) := by decide +kernel
theorem dX2_box_26 : decode cX2_box 26 = .ok (.iload 4, 2) := by decide +kernel
theorem dX2_box_28 : decode cX2_box 28 = .ok (.if_icmp .gt 18, 3) := by decide +kernel
theorem dX2_box_31 : decode cX2_box 31 = .ok (.iload 5, 2) := by decide +kernel
theorem dX2_box_33 : decode cX2_box 33 = .ok (.iconst 0, 1) := by decide +kernel
theorem dX2_box_34 : decode cX2_box 34 = .ok (.bipush 20, 2) := by decide +kernel
theorem dX2_box_36 : decode cX2_box 36 = .ok (.invokestatic 39, 3) := by decide +kernel
theorem dX2_box_39 : decode cX2_box 39 = .ok (.ifCond .eq 7, 3) := by decide +kernel
theorem dX2_box_42 : decode cX2_box 42 = .ok (.iconst 1, 1) := by decide +kernel
theorem dX2_box_43 : decode cX2_box 43 = .ok (.goto 4, 3) := by decide +kernel
theorem dX2_box_46 : decode cX2_box 46 = .ok (.iconst 0, 1) := by decide +kernel
theorem dX2_box_47 : decode cX2_box 47 = .ok (.invokevirtual 47, 3) := by decide +kernel
theorem dX2_box_50 : decode cX2_box 50 = .ok (.ifCond .ne 5, 3) := by decide +kernel
theorem dX2_box_53 : decode cX2_box 53 = .ok (.iconst 0, 1) := by decide +kernel
theorem dX2_box_54 : decode cX2_box 54 = .ok (.ireturn, 1) := by decide +kernel
theorem dX2_box_55 : decode cX2_box 55 = .ok (.aload_n 0, 1) := by decide +kernel
theorem dX2_box_56 : decode cX2_box 56 = .ok (.iconst 0, 1) := by decide +kernel
theorem dX2_box_57 : decode cX2_box 57 = .ok (.putfield 51, 3) := by decide +kernel
theorem dX2_box_60 : decode cX2_box 60 = .ok (.iload_n 2, 1) := by decide +kernel
theorem dX2_box_61 : decode cX2_box 61 = .ok (.istore 6, 2) := by decide +kernel
theorem dX2_box_63 : decode cX2_box 63 = .ok (.iload 6, 2) := by decide +kernel
theorem dX2_box_65 : decode cX2_box 65 = .ok (.iload 4, 2) := by decide +kernel
theorem dX2_box_67 : decode cX2_box 67 = .ok (.if_icmp .gt 39, 3) := by decide +kernel
theorem dX2_box_70 : decode cX2_box 70 = .ok (.iload_n 1, 1) := by decide +kernel
theorem dX2_box_71 : decode cX2_box 71 = .ok (.istore 7, 2) := by decide +kernel
theorem dX2_box_73 : decode cX2_box 73 = .ok (.iload 7, 2) := by decide +kernel
theorem dX2_box_75 : decode cX2_box 75 = .ok (.iload_n 3, 1) := by decide +kernel
theorem dX2_box_76 : decode cX2_box 76 = .ok (.if_icmp .gt 24, 3) := by decide +kernel
theorem dX2_box_79 : decode cX2_box 79 = .ok (.aload_n 0, 1) := by decide +kernel
theorem dX2_box_80 : decode cX2_box 80 = .ok (.getfield 7, 3) := by decide +kernel
theorem dX2_box_83 : decode cX2_box 83 = .ok (.bipush 10, 2) := by decide +kernel
theorem dX2_box_85 : decode cX2_box 85 = .ok (.iload 6, 2) := by decide +kernel
theorem dX2_box_87 : decode cX2_box 87 = .ok (.imul, 1) := by decide +kernel
theorem dX2_box_88 : decode cX2_box 88 = .ok (.iload 7, 2) := by decide +kernel
theorem dX2_box_90 : decode cX2_box 90 = .ok (.iadd, 1) := by decide +kernel
theorem dX2_box_91 : decode cX2_box 91 = .ok (.iload 5, 2) := by decide +kernel
theorem dX2_box_93 : decode cX2_box 93 = .ok (.iastore, 1) := by decide +kernel
theorem dX2_box_94 : decode cX2_box 94 = .ok (.iinc 7 1, 3) := by decide +kernel
theorem dX2_box_97 : decode cX2_box 97 = .ok (.goto (-24), 3) := by decide +kernel
theorem dX2_box_100 : decode cX2_box 100 = .ok (.iinc 6 1, 3) := by decide +kernel
theorem dX2_box_103 : decode cX2_box 103 = .ok (.goto (-40), 3) := by decide +kernel
theorem dX2_box_106 : decode cX2_box 106 = .ok (.iconst 0, 1) := by decide +kernel
theorem dX2_box_107 : decode cX2_box 107 = .ok (.istore 6, 2) := by decide +kernel
theorem dX2_box_109 : decode cX2_box 109 = .ok (.iconst 0, 1) := by decide +kernel
theorem dX2_box_110 : decode cX2_box 110 = .ok (.istore 7, 2) := by decide +kernel
theorem dX2_box_112 : decode cX2_box 112 = .ok (.iload 7, 2) := by decide +kernel
theorem dX2_box_114 : decode cX2_box 114 = .ok (.bipush 100, 2) := by decide +kernel
theorem dX2_box_116 : decode cX2_box 116 = .ok (.if_icmp .ge 30, 3) := by decide +kernel
theorem dX2_box_119 : decode cX2_box 119 = .ok (.aload_n 0, 1) := by decide +kernel
theorem dX2_box_120 : decode cX2_box 120 = .ok (.getfield 7, 3) := by decide +kernel
theorem dX2_box_123 : decode cX2_box 123 = .ok (.iload 7, 2) := by decide +kernel
theorem dX2_box_125 : decode cX2_box 125 = .ok (.iaload, 1) := by decide +kernel
theorem dX2_box_126 : decode cX2_box 126 = .ok (.ifCond .le 10, 3) := by decide +kernel
theorem dX2_box_129 : decode cX2_box 129 = .ok (.iload 6, 2) := by decide +kernel
theorem dX2_box_131 : decode cX2_box 131 = .ok (.iconst 1, 1) := by decide +kernel
theorem dX2_box_132 : decode cX2_box 132 = .ok (.iadd, 1) := by decide +kernel
theorem dX2_box_133 : decode cX2_box 133 = .ok (.goto 5, 3) := by decide +kernel
theorem dX2_box_136 : decode cX2_box 136 = .ok (.iload 6, 2) := by decide +kernel
theorem dX2_box_138 : decode cX2_box 138 = .ok (.istore 6, 2) := by decide +kernel
theorem dX2_box_140 : decode cX2_box 140 = .ok (.iinc 7 1, 3) := by decide +kernel
theorem dX2_box_143 : decode cX2_box 143 = .ok (.goto (-31), 3) := by decide +kernel
theorem dX2_box_146 : decode cX2_box 146 = .ok (.iload 6, 2) := by decide +kernel
theorem dX2_box_148 : decode cX2_box 148 = .ok (.ireturn, 1) := by decide +kernel
set_option maxRecDepth 20000 in
theorem ggX2_side_X2_in : GoodIn wsX2_side wsX2_in := goodIn_r _ [7] (by decide +kernel) (by decide +kernel)
set_option maxRecDepth 20000 in
theorem gX2_side_X2_in : GoodIn wsX2_side (va_wsS RX2 39 yX2_in wsX2_in) := goodIn_app (goodIn_of _ (by decide +kernel)) ggX2_side_X2_in
set_option maxRecDepth 20000 in
theorem ggX2_side_X2_may : GoodIn wsX2_side wsX2_may := goodIn_r _ [11, 12, 13, 14, 15, 16, 17, 18, 19, 20, 21, 22, 23, 24, 25, 26, 27] (by decide +kernel) (by decide +kernel)
set_option maxRecDepth 20000 in
theorem gX2_side_X2_may : GoodIn wsX2_side (wsV RX2 47 RX2 yX2_may wsX2_may) := goodIn_app (goodIn_of _ (by decide +kernel)) ggX2_side_X2_may
theorem dX2_side_0 : decode cX2_side 0 = .ok (.aload_n 0, 1) := by decide +kernel
theorem dX2_side_1 : decode cX2_side 1 = .ok (.iload_n 1, 1) := by decide +kernel
theorem dX2_side_2 : decode cX2_side 2 = .ok (.iconst 0, 1) := by decide +kernel
theorem dX2_side_3 : decode cX2_side 3 = .ok (.iconst 3, 1) := by decide +kernel
theorem dX2_side_4 : decode cX2_side 4 = .ok (.invokestatic 39, 3) := by decide +kernel
theorem dX2_side_7 : decode cX2_side 7 = .ok (.ifCond .eq 30, 3) := by decide +kernel
theorem dX2_side_10 : decode cX2_side 10 = .ok (.iload_n 2, 1) := by decide +kernel
theorem dX2_side_11 : decode cX2_side 11 = .ok (.sipush (-10000), 3) := by decide +kernel
theorem dX2_side_14 : decode cX2_side 14 = .ok (.sipush 10000, 3) := by decide +kernel
theorem dX2_side_17 : decode cX2_side 17 = .ok (.invokestatic 39, 3) := by decide +kernel
theorem dX2_side_20 : decode cX2_side 20 = .ok (.ifCond .eq 17, 3) := by decide +kernel
theorem dX2_side_23 : decode cX2_side 23 = .ok (.iload_n 3, 1) := by decide +kernel
theorem dX2_side_24 : decode cX2_side 24 = .ok (.iconst 0, 1) := by decide +kernel
theorem dX2_side_25 : decode cX2_side 25 = .ok (.bipush 20, 2) := by decide +kernel
theorem dX2_side_27 : decode cX2_side 27 = .ok (.invokestatic 39, 3) := by decide +kernel
theorem dX2_side_30 : decode cX2_side 30 = .ok (.ifCond .eq 7, 3) := by decide +kernel
theorem dX2_side_33 : decode cX2_side 33 = .ok (.iconst 1, 1) := by decide +kernel
theorem dX2_side_34 : decode cX2_side 34 = .ok (.goto 4, 3) := by decide +kernel
theorem dX2_side_37 : decode cX2_side 37 = .ok (.iconst 0, 1) := by decide +kernel
theorem dX2_side_38 : decode cX2_side 38 = .ok (.invokevirtual 47, 3) := by decide +kernel
theorem dX2_side_41 : decode cX2_side 41 = .ok (.ifCond .ne 5, 3) := by decide +kernel
theorem dX2_side_44 : decode cX2_side 44 = .ok (.iconst 0, 1) := by decide +kernel
theorem dX2_side_45 : decode cX2_side 45 = .ok (.ireturn, 1) := by decide +kernel
theorem dX2_side_46 : decode cX2_side 46 = .ok (.aload_n 0, 1) := by decide +kernel
theorem dX2_side_47 : decode cX2_side 47 = .ok (.iconst 0, 1) := by decide +kernel
theorem dX2_side_48 : decode cX2_side 48 = .ok (.putfield 51, 3) := by decide +kernel
theorem dX2_side_51 : decode cX2_side 51 = .ok (.aload_n 0, 1) := by decide +kernel
theorem dX2_side_52 : decode cX2_side 52 = .ok (.getfield 19, 3) := by decide +kernel
theorem dX2_side_55 : decode cX2_side 55 = .ok (.iload_n 1, 1) := by decide +kernel
theorem dX2_side_56 : decode cX2_side 56 = .ok (.iaload, 1) := by decide +kernel
theorem dX2_side_57 : decode cX2_side 57 = .ok (.istore 4, 2) := by decide +kernel
theorem dX2_side_59 : decode cX2_side 59 = .ok (.aload_n 0, 1) := by decide +kernel
theorem dX2_side_60 : decode cX2_side 60 = .ok (.getfield 16, 3) := by decide +kernel
theorem dX2_side_63 : decode cX2_side 63 = .ok (.iload_n 1, 1) := by decide +kernel
theorem dX2_side_64 : decode cX2_side 64 = .ok (.iload_n 2, 1) := by decide +kernel
theorem dX2_side_65 : decode cX2_side 65 = .ok (.iastore, 1) := by decide +kernel
theorem dX2_side_66 : decode cX2_side 66 = .ok (.aload_n 0, 1) := by decide +kernel
theorem dX2_side_67 : decode cX2_side 67 = .ok (.getfield 19, 3) := by decide +kernel
theorem dX2_side_70 : decode cX2_side 70 = .ok (.iload_n 1, 1) := by decide +kernel
theorem dX2_side_71 : decode cX2_side 71 = .ok (.iload_n 3, 1) := by decide +kernel
theorem dX2_side_72 : decode cX2_side 72 = .ok (.iastore, 1) := by decide +kernel
theorem dX2_side_73 : decode cX2_side 73 = .ok (.iload 4, 2) := by decide +kernel
theorem dX2_side_75 : decode cX2_side 75 = .ok (.ireturn, 1) := by decide +kernel
set_option maxRecDepth 20000 in
theorem ggX2_leads_X2_isCell : GoodIn wsX2_leads wsX2_isCell := goodIn_r _ [6, 7, 8, 9, 10, 5, 11, 17, 18, 19, 20, 21, 22, 23, 24, 25, 26, 27, 28, 29, 30, 31] (by decide +kernel) (by decide +kernel)
set_option maxRecDepth 20000 in
theorem gX2_leads_X2_isCell : GoodIn wsX2_leads (wsV RX2 43 RX2 yX2_isCell wsX2_isCell) := goodIn_app (goodIn_of _ (by decide +kernel)) ggX2_leads_X2_isCell
set_option maxRecDepth 20000 in
theorem ggX2_leads_X2_may : GoodIn wsX2_leads wsX2_may := goodIn_r _ [15, 16, 17, 18, 19, 20, 21, 22, 23, 24, 25, 26, 27, 28, 29, 30, 31] (by decide +kernel) (by decide +kernel)
set_option maxRecDepth 20000 in
theorem gX2_leads_X2_may : GoodIn wsX2_leads (wsV RX2 47 RX2 yX2_may wsX2_may) := goodIn_app (goodIn_of _ (by decide +kernel)) ggX2_leads_X2_may
theorem dX2_leads_0 : decode cX2_leads 0 = .ok (.aload_n 0, 1) := by decide +kernel
theorem dX2_leads_1 : decode cX2_leads 1 = .ok (.aload_n 0, 1) := by decide +kernel
theorem dX2_leads_2 : decode cX2_leads 2 = .ok (.iload_n 1, 1) := by decide +kernel
theorem dX2_leads_3 : decode cX2_leads 3 = .ok (.iload_n 2, 1) := by decide +kernel
theorem dX2_leads_4 : decode cX2_leads 4 = .ok (.invokevirtual 43, 3) := by decide +kernel
theorem dX2_leads_7 : decode cX2_leads 7 = .ok (.invokevirtual 47, 3) := by decide +kernel
theorem dX2_leads_10 : decode cX2_leads 10 = .ok (.ifCond .eq 17, 3) := by decide +kernel
theorem dX2_leads_13 : decode cX2_leads 13 = .ok (.aload_n 0, 1) := by decide +kernel
theorem dX2_leads_14 : decode cX2_leads 14 = .ok (.getfield 7, 3) := by decide +kernel
theorem dX2_leads_17 : decode cX2_leads 17 = .ok (.bipush 10, 2) := by decide +kernel
theorem dX2_leads_19 : decode cX2_leads 19 = .ok (.iload_n 2, 1) := by decide +kernel
theorem dX2_leads_20 : decode cX2_leads 20 = .ok (.imul, 1) := by decide +kernel
theorem dX2_leads_21 : decode cX2_leads 21 = .ok (.iload_n 1, 1) := by decide +kernel
theorem dX2_leads_22 : decode cX2_leads 22 = .ok (.iadd, 1) := by decide +kernel
theorem dX2_leads_23 : decode cX2_leads 23 = .ok (.iaload, 1) := by decide +kernel
theorem dX2_leads_24 : decode cX2_leads 24 = .ok (.goto 4, 3) := by decide +kernel
theorem dX2_leads_27 : decode cX2_leads 27 = .ok (.iconst 0, 1) := by decide +kernel
theorem dX2_leads_28 : decode cX2_leads 28 = .ok (.ireturn, 1) := by decide +kernel
theorem dX2_together_0 : decode cX2_together 0 = .ok (.iload_n 0, 1) := by decide +kernel
theorem dX2_together_1 : decode cX2_together 1 = .ok (.ifCond .le 19, 3) := by decide +kernel
theorem dX2_together_4 : decode cX2_together 4 = .ok (.iload_n 1, 1) := by decide +kernel
theorem dX2_together_5 : decode cX2_together 5 = .ok (.ifCond .le 15, 3) := by decide +kernel
theorem dX2_together_8 : decode cX2_together 8 = .ok (.iconst 2, 1) := by decide +kernel
theorem dX2_together_9 : decode cX2_together 9 = .ok (.iload_n 0, 1) := by decide +kernel
theorem dX2_together_10 : decode cX2_together 10 = .ok (.imul, 1) := by decide +kernel
theorem dX2_together_11 : decode cX2_together 11 = .ok (.iload_n 1, 1) := by decide +kernel
theorem dX2_together_12 : decode cX2_together 12 = .ok (.imul, 1) := by decide +kernel
theorem dX2_together_13 : decode cX2_together 13 = .ok (.iload_n 0, 1) := by decide +kernel
theorem dX2_together_14 : decode cX2_together 14 = .ok (.iload_n 1, 1) := by decide +kernel
theorem dX2_together_15 : decode cX2_together 15 = .ok (.iadd, 1) := by decide +kernel
theorem dX2_together_16 : decode cX2_together 16 = .ok (.idiv, 1) := by decide +kernel
theorem dX2_together_17 : decode cX2_together 17 = .ok (.goto 4, 3) := by decide +kernel
theorem dX2_together_20 : decode cX2_together 20 = .ok (.iconst 0, 1) := by decide +kernel
theorem dX2_together_21 : decode cX2_together 21 = .ok (.ireturn, 1) := by decide +kernel
set_option maxRecDepth 20000 in
theorem ggX2_addCell_X2_isCell : GoodIn wsX2_addCell wsX2_isCell := goodIn_r _ [9, 10, 11, 12, 13, 8, 14, 18, 19, 20, 21, 22, 23, 24, 25, 26, 27, 28, 29, 30, 31, 32] (by decide +kernel) (by decide +kernel)
set_option maxRecDepth 20000 in
theorem gX2_addCell_X2_isCell : GoodIn wsX2_addCell (wsV RX2 43 RX2 yX2_isCell wsX2_isCell) := goodIn_app (goodIn_of _ (by decide +kernel)) ggX2_addCell_X2_isCell
set_option maxRecDepth 20000 in
theorem ggX2_addCell_X2_together : GoodIn wsX2_addCell wsX2_together := goodIn_r _ [17] (by decide +kernel) (by decide +kernel)
set_option maxRecDepth 20000 in
theorem gX2_addCell_X2_together : GoodIn wsX2_addCell (va_wsS RX2 55 yX2_together wsX2_together) := goodIn_app (goodIn_of _ (by decide +kernel)) ggX2_addCell_X2_together
theorem dX2_addCell_0 : decode cX2_addCell 0 = .ok (.aload_n 0, 1) := by decide +kernel
theorem dX2_addCell_1 : decode cX2_addCell 1 = .ok (.iload_n 2, 1) := by decide +kernel
theorem dX2_addCell_2 : decode cX2_addCell 2 = .ok (.iload_n 3, 1) := by decide +kernel
theorem dX2_addCell_3 : decode cX2_addCell 3 = .ok (.invokevirtual 43, 3) := by decide +kernel
theorem dX2_addCell_6 : decode cX2_addCell 6 = .ok (.ifCond .eq 57, 3) := by decide +kernel
theorem dX2_addCell_9 : decode cX2_addCell 9 = .ok (.iload_n 1, 1) := by decide +kernel
theorem dX2_addCell_10 : decode cX2_addCell 10 = .ok (.aload_n 0, 1) := by decide +kernel
theorem dX2_addCell_11 : decode cX2_addCell 11 = .ok (.getfield 7, 3) := by decide +kernel
theorem dX2_addCell_14 : decode cX2_addCell 14 = .ok (.bipush 10, 2) := by decide +kernel
theorem dX2_addCell_16 : decode cX2_addCell 16 = .ok (.iload_n 3, 1) := by decide +kernel
theorem dX2_addCell_17 : decode cX2_addCell 17 = .ok (.imul, 1) := by decide +kernel
theorem dX2_addCell_18 : decode cX2_addCell 18 = .ok (.iload_n 2, 1) := by decide +kernel
theorem dX2_addCell_19 : decode cX2_addCell 19 = .ok (.iadd, 1) := by decide +kernel
theorem dX2_addCell_20 : decode cX2_addCell 20 = .ok (.iaload, 1) := by decide +kernel
theorem dX2_addCell_21 : decode cX2_addCell 21 = .ok (.invokestatic 55, 3) := by decide +kernel
theorem dX2_addCell_24 : decode cX2_addCell 24 = .ok (.istore 4, 2) := by decide +kernel
theorem dX2_addCell_26 : decode cX2_addCell 26 = .ok (.aload_n 0, 1) := by decide +kernel
theorem dX2_addCell_27 : decode cX2_addCell 27 = .ok (.aload_n 0, 1) := by decide +kernel
theorem dX2_addCell_28 : decode cX2_addCell 28 = .ok (.getfield 59, 3) := by decide +kernel
theorem dX2_addCell_31 : decode cX2_addCell 31 = .ok (.iload 4, 2) := by decide +kernel
theorem dX2_addCell_33 : decode cX2_addCell 33 = .ok (.i2l, 1) := by decide +kernel
theorem dX2_addCell_34 : decode cX2_addCell 34 = .ok (.aload_n 0, 1) := by decide +kernel
theorem dX2_addCell_35 : decode cX2_addCell 35 = .ok (.getfield 13, 3) := by decide +kernel
theorem dX2_addCell_38 : decode cX2_addCell 38 = .ok (.bipush 10, 2) := by decide +kernel
theorem dX2_addCell_40 : decode cX2_addCell 40 = .ok (.iload_n 3, 1) := by decide +kernel
theorem dX2_addCell_41 : decode cX2_addCell 41 = .ok (.imul, 1) := by decide +kernel
theorem dX2_addCell_42 : decode cX2_addCell 42 = .ok (.iload_n 2, 1) := by decide +kernel
theorem dX2_addCell_43 : decode cX2_addCell 43 = .ok (.iadd, 1) := by decide +kernel
theorem dX2_addCell_44 : decode cX2_addCell 44 = .ok (.iaload, 1) := by decide +kernel
theorem dX2_addCell_45 : decode cX2_addCell 45 = .ok (.i2l, 1) := by decide +kernel
theorem dX2_addCell_46 : decode cX2_addCell 46 = .ok (.lmul, 1) := by decide +kernel
theorem dX2_addCell_47 : decode cX2_addCell 47 = .ok (.ladd, 1) := by decide +kernel
theorem dX2_addCell_48 : decode cX2_addCell 48 = .ok (.putfield 59, 3) := by decide +kernel
theorem dX2_addCell_51 : decode cX2_addCell 51 = .ok (.aload_n 0, 1) := by decide +kernel
theorem dX2_addCell_52 : decode cX2_addCell 52 = .ok (.aload_n 0, 1) := by decide +kernel
theorem dX2_addCell_53 : decode cX2_addCell 53 = .ok (.getfield 63, 3) := by decide +kernel
theorem dX2_addCell_56 : decode cX2_addCell 56 = .ok (.iload 4, 2) := by decide +kernel
theorem dX2_addCell_58 : decode cX2_addCell 58 = .ok (.i2l, 1) := by decide +kernel
theorem dX2_addCell_59 : decode cX2_addCell 59 = .ok (.ladd, 1) := by decide +kernel
theorem dX2_addCell_60 : decode cX2_addCell 60 = .ok (.putfield 63, 3) := by decide +kernel
theorem dX2_addCell_63 : decode cX2_addCell 63 = .ok (.return_, 1) := by decide +kernel
theorem dX2_isBeside_0 : decode cX2_isBeside 0 = .ok (.iload_n 1, 1) := by decide +kernel
theorem dX2_isBeside_1 : decode cX2_isBeside 1 = .ok (.ifCond .ne 15, 3) := by decide +kernel
theorem dX2_isBeside_4 : decode cX2_isBeside 4 = .ok (.iload_n 3, 1) := by decide +kernel
theorem dX2_isBeside_5 : decode cX2_isBeside 5 = .ok (.ifCond .ne 7, 3) := by decide +kernel
theorem dX2_isBeside_8 : decode cX2_isBeside 8 = .ok (.iconst 1, 1) := by decide +kernel
theorem dX2_isBeside_9 : decode cX2_isBeside 9 = .ok (.goto 62, 3) := by decide +kernel
theorem dX2_isBeside_12 : decode cX2_isBeside 12 = .ok (.iconst 0, 1) := by decide +kernel
theorem dX2_isBeside_13 : decode cX2_isBeside 13 = .ok (.goto 58, 3) := by decide +kernel
theorem dX2_isBeside_16 : decode cX2_isBeside 16 = .ok (.iload_n 1, 1) := by decide +kernel
theorem dX2_isBeside_17 : decode cX2_isBeside 17 = .ok (.iconst 1, 1) := by decide +kernel
theorem dX2_isBeside_18 : decode cX2_isBeside 18 = .ok (.if_icmp .ne 21, 3) := by decide +kernel
theorem dX2_isBeside_21 : decode cX2_isBeside 21 = .ok (.iload_n 2, 1) := by decide +kernel
theorem dX2_isBeside_22 : decode cX2_isBeside 22 = .ok (.aload_n 0, 1) := by decide +kernel
theorem dX2_isBeside_23 : decode cX2_isBeside 23 = .ok (.getfield 29, 3) := by decide +kernel
theorem dX2_isBeside_26 : decode cX2_isBeside 26 = .ok (.iconst 1, 1) := by decide +kernel
theorem dX2_isBeside_27 : decode cX2_isBeside 27 = .ok (.isub, 1) := by decide +kernel
theorem dX2_isBeside_28 : decode cX2_isBeside 28 = .ok (.if_icmp .ne 7, 3) := by decide +kernel
theorem dX2_isBeside_31 : decode cX2_isBeside 31 = .ok (.iconst 1, 1) := by decide +kernel
theorem dX2_isBeside_32 : decode cX2_isBeside 32 = .ok (.goto 39, 3) := by decide +kernel
theorem dX2_isBeside_35 : decode cX2_isBeside 35 = .ok (.iconst 0, 1) := by decide +kernel
theorem dX2_isBeside_36 : decode cX2_isBeside 36 = .ok (.goto 35, 3) := by decide +kernel
theorem dX2_isBeside_39 : decode cX2_isBeside 39 = .ok (.iload_n 1, 1) := by decide +kernel
theorem dX2_isBeside_40 : decode cX2_isBeside 40 = .ok (.iconst 2, 1) := by decide +kernel
theorem dX2_isBeside_41 : decode cX2_isBeside 41 = .ok (.if_icmp .ne 21, 3) := by decide +kernel
theorem dX2_isBeside_44 : decode cX2_isBeside 44 = .ok (.iload_n 3, 1) := by decide +kernel
theorem dX2_isBeside_45 : decode cX2_isBeside 45 = .ok (.aload_n 0, 1) := by decide +kernel
theorem dX2_isBeside_46 : decode cX2_isBeside 46 = .ok (.getfield 33, 3) := by decide +kernel
theorem dX2_isBeside_49 : decode cX2_isBeside 49 = .ok (.iconst 1, 1) := by decide +kernel
theorem dX2_isBeside_50 : decode cX2_isBeside 50 = .ok (.isub, 1) := by decide +kernel
theorem dX2_isBeside_51 : decode cX2_isBeside 51 = .ok (.if_icmp .ne 7, 3) := by decide +kernel
theorem dX2_isBeside_54 : decode cX2_isBeside 54 = .ok (.iconst 1, 1) := by decide +kernel
theorem dX2_isBeside_55 : decode cX2_isBeside 55 = .ok (.goto 16, 3) := by decide +kernel
theorem dX2_isBeside_58 : decode cX2_isBeside 58 = .ok (.iconst 0, 1) := by decide +kernel
theorem dX2_isBeside_59 : decode cX2_isBeside 59 = .ok (.goto 12, 3) := by decide +kernel
theorem dX2_isBeside_62 : decode cX2_isBeside 62 = .ok (.iload_n 2, 1) := by decide +kernel
theorem dX2_isBeside_63 : decode cX2_isBeside 63 = .ok (.ifCond .ne 7, 3) := by decide +kernel
theorem dX2_isBeside_66 : decode cX2_isBeside 66 = .ok (.iconst 1, 1) := by decide +kernel
theorem dX2_isBeside_67 : decode cX2_isBeside 67 = .ok (.goto 4, 3) := by decide +kernel
theorem dX2_isBeside_70 : decode cX2_isBeside 70 = .ok (.iconst 0, 1) := by decide +kernel
theorem dX2_isBeside_71 : decode cX2_isBeside 71 = .ok (.ireturn, 1) := by decide +kernel
set_option maxRecDepth 20000 in
theorem ggX2_made_X2_addCell : GoodIn wsX2_made wsX2_addCell := goodIn_r _ [11, 1, 2, 12, 3, 13, 14, 15, 10, 16, 17, 18, 19, 20, 21, 22, 23, 24, 29, 30, 31, 32, 33, 34, 35, 36, 37, 38, 39, 40, 41, 42, 43] (by decide +kernel) (by decide +kernel)
set_option maxRecDepth 20000 in
theorem gX2_made_X2_addCell : GoodIn wsX2_made (wsV RX2 66 RX2 yX2_addCell wsX2_addCell) := goodIn_app (goodIn_of _ (by decide +kernel)) ggX2_made_X2_addCell
set_option maxRecDepth 20000 in
theorem ggX2_made_X2_isBeside : GoodIn wsX2_made wsX2_isBeside := goodIn_r _ [28, 17, 18, 29, 30, 31, 32, 33, 34, 35, 36, 37, 38, 39, 40, 41, 42, 43] (by decide +kernel) (by decide +kernel)
set_option maxRecDepth 20000 in
theorem gX2_made_X2_isBeside : GoodIn wsX2_made (wsV RX2 70 RX2 yX2_isBeside wsX2_isBeside) := goodIn_app (goodIn_of _ (by decide +kernel)) ggX2_made_X2_isBeside
set_option maxRecDepth 20000 in
theorem ggX2_made_X2_together : GoodIn wsX2_made wsX2_together := goodIn_r _ [24] (by decide +kernel) (by decide +kernel)
set_option maxRecDepth 20000 in
theorem gX2_made_X2_together : GoodIn wsX2_made (va_wsS RX2 55 yX2_together wsX2_together) := goodIn_app (goodIn_of _ (by decide +kernel)) ggX2_made_X2_together
theorem dX2_made_0 : decode cX2_made 0 = .ok (.aload_n 0, 1) := by decide +kernel
theorem dX2_made_1 : decode cX2_made 1 = .ok (.getfield 7, 3) := by decide +kernel
theorem dX2_made_4 : decode cX2_made 4 = .ok (.bipush 10, 2) := by decide +kernel
theorem dX2_made_6 : decode cX2_made 6 = .ok (.iload_n 2, 1) := by decide +kernel
theorem dX2_made_7 : decode cX2_made 7 = .ok (.imul, 1) := by decide +kernel
theorem dX2_made_8 : decode cX2_made 8 = .ok (.iload_n 1, 1) := by decide +kernel
theorem dX2_made_9 : decode cX2_made 9 = .ok (.iadd, 1) := by decide +kernel
theorem dX2_made_10 : decode cX2_made 10 = .ok (.iaload, 1) := by decide +kernel
theorem dX2_made_11 : decode cX2_made 11 = .ok (.istore_n 3, 1) := by decide +kernel
theorem dX2_made_12 : decode cX2_made 12 = .ok (.aload_n 0, 1) := by decide +kernel
theorem dX2_made_13 : decode cX2_made 13 = .ok (.lconst 0, 1) := by decide +kernel
theorem dX2_made_14 : decode cX2_made 14 = .ok (.putfield 59, 3) := by decide +kernel
theorem dX2_made_17 : decode cX2_made 17 = .ok (.aload_n 0, 1) := by decide +kernel
theorem dX2_made_18 : decode cX2_made 18 = .ok (.lconst 0, 1) := by decide +kernel
theorem dX2_made_19 : decode cX2_made 19 = .ok (.putfield 63, 3) := by decide +kernel
theorem dX2_made_22 : decode cX2_made 22 = .ok (.aload_n 0, 1) := by decide +kernel
theorem dX2_made_23 : decode cX2_made 23 = .ok (.iload_n 3, 1) := by decide +kernel
theorem dX2_made_24 : decode cX2_made 24 = .ok (.iload_n 1, 1) := by decide +kernel
theorem dX2_made_25 : decode cX2_made 25 = .ok (.iconst 1, 1) := by decide +kernel
theorem dX2_made_26 : decode cX2_made 26 = .ok (.isub, 1) := by decide +kernel
theorem dX2_made_27 : decode cX2_made 27 = .ok (.iload_n 2, 1) := by decide +kernel
theorem dX2_made_28 : decode cX2_made 28 = .ok (.invokevirtual 66, 3) := by decide +kernel
theorem dX2_made_31 : decode cX2_made 31 = .ok (.aload_n 0, 1) := by decide +kernel
theorem dX2_made_32 : decode cX2_made 32 = .ok (.iload_n 3, 1) := by decide +kernel
theorem dX2_made_33 : decode cX2_made 33 = .ok (.iload_n 1, 1) := by decide +kernel
theorem dX2_made_34 : decode cX2_made 34 = .ok (.iconst 1, 1) := by decide +kernel
theorem dX2_made_35 : decode cX2_made 35 = .ok (.iadd, 1) := by decide +kernel
theorem dX2_made_36 : decode cX2_made 36 = .ok (.iload_n 2, 1) := by decide +kernel
theorem dX2_made_37 : decode cX2_made 37 = .ok (.invokevirtual 66, 3) := by decide +kernel
theorem dX2_made_40 : decode cX2_made 40 = .ok (.aload_n 0, 1) := by decide +kernel
theorem dX2_made_41 : decode cX2_made 41 = .ok (.iload_n 3, 1) := by decide +kernel
theorem dX2_made_42 : decode cX2_made 42 = .ok (.iload_n 1, 1) := by decide +kernel
theorem dX2_made_43 : decode cX2_made 43 = .ok (.iload_n 2, 1) := by decide +kernel
theorem dX2_made_44 : decode cX2_made 44 = .ok (.iconst 1, 1) := by decide +kernel
theorem dX2_made_45 : decode cX2_made 45 = .ok (.isub, 1) := by decide +kernel
theorem dX2_made_46 : decode cX2_made 46 = .ok (.invokevirtual 66, 3) := by decide +kernel
theorem dX2_made_49 : decode cX2_made 49 = .ok (.aload_n 0, 1) := by decide +kernel
theorem dX2_made_50 : decode cX2_made 50 = .ok (.iload_n 3, 1) := by decide +kernel
theorem dX2_made_51 : decode cX2_made 51 = .ok (.iload_n 1, 1) := by decide +kernel
theorem dX2_made_52 : decode cX2_made 52 = .ok (.iload_n 2, 1) := by decide +kernel
theorem dX2_made_53 : decode cX2_made 53 = .ok (.iconst 1, 1) := by decide +kernel
theorem dX2_made_54 : decode cX2_made 54 = .ok (.iadd, 1) := by decide +kernel
theorem dX2_made_55 : decode cX2_made 55 = .ok (.invokevirtual 66, 3) := by decide +kernel
theorem dX2_made_58 : decode cX2_made 58 = .ok (.iconst 0, 1) := by decide +kernel
theorem dX2_made_59 : decode cX2_made 59 = .ok (.istore 4, 2) := by decide +kernel
theorem dX2_made_61 : decode cX2_made 61 = .ok (.iload 4, 2) := by decide +kernel
theorem dX2_made_63 : decode cX2_made 63 = .ok (.iconst 4, 1) := by decide +kernel
theorem dX2_made_64 : decode cX2_made 64 = .ok (.if_icmp .ge 70, 3) := by decide +kernel
theorem dX2_made_67 : decode cX2_made 67 = .ok (.aload_n 0, 1) := by decide +kernel
theorem dX2_made_68 : decode cX2_made 68 = .ok (.iload 4, 2) := by decide +kernel
theorem dX2_made_70 : decode cX2_made 70 = .ok (.iload_n 1, 1) := by decide +kernel
theorem dX2_made_71 : decode cX2_made 71 = .ok (.iload_n 2, 1) := by decide +kernel
theorem dX2_made_72 : decode cX2_made 72 = .ok (.invokevirtual 70, 3) := by decide +kernel
theorem dX2_made_75 : decode cX2_made 75 = .ok (.ifCond .eq 17, 3) := by decide +kernel
theorem dX2_made_78 : decode cX2_made 78 = .ok (.iload_n 3, 1) := by decide +kernel
theorem dX2_made_79 : decode cX2_made 79 = .ok (.aload_n 0, 1) := by decide +kernel
theorem dX2_made_80 : decode cX2_made 80 = .ok (.getfield 19, 3) := by decide +kernel
theorem dX2_made_83 : decode cX2_made 83 = .ok (.iload 4, 2) := by decide +kernel
theorem dX2_made_85 : decode cX2_made 85 = .ok (.iaload, 1) := by decide +kernel
theorem dX2_made_86 : decode cX2_made 86 = .ok (.invokestatic 55, 3) := by decide +kernel
theorem dX2_made_89 : decode cX2_made 89 = .ok (.goto 4, 3) := by decide +kernel
theorem dX2_made_92 : decode cX2_made 92 = .ok (.iconst 0, 1) := by decide +kernel
theorem dX2_made_93 : decode cX2_made 93 = .ok (.istore 5, 2) := by decide +kernel
theorem dX2_made_95 : decode cX2_made 95 = .ok (.aload_n 0, 1) := by decide +kernel
theorem dX2_made_96 : decode cX2_made 96 = .ok (.aload_n 0, 1) := by decide +kernel
theorem dX2_made_97 : decode cX2_made 97 = .ok (.getfield 59, 3) := by decide +kernel
theorem dX2_made_100 : decode cX2_made 100 = .ok (.iload 5, 2) := by decide +kernel
theorem dX2_made_102 : decode cX2_made 102 = .ok (.i2l, 1) := by decide +kernel
theorem dX2_made_103 : decode cX2_made 103 = .ok (.aload_n 0, 1) := by decide +kernel
theorem dX2_made_104 : decode cX2_made 104 = .ok (.getfield 16, 3) := by decide +kernel
theorem dX2_made_107 : decode cX2_made 107 = .ok (.iload 4, 2) := by decide +kernel
theorem dX2_made_109 : decode cX2_made 109 = .ok (.iaload, 1) := by decide +kernel
theorem dX2_made_110 : decode cX2_made 110 = .ok (.i2l, 1) := by decide +kernel
theorem dX2_made_111 : decode cX2_made 111 = .ok (.lmul, 1) := by decide +kernel
theorem dX2_made_112 : decode cX2_made 112 = .ok (.ladd, 1) := by decide +kernel
theorem dX2_made_113 : decode cX2_made 113 = .ok (.putfield 59, 3) := by decide +kernel
theorem dX2_made_116 : decode cX2_made 116 = .ok (.aload_n 0, 1) := by decide +kernel
theorem dX2_made_117 : decode cX2_made 117 = .ok (.aload_n 0, 1) := by decide +kernel
theorem dX2_made_118 : decode cX2_made 118 = .ok (.getfield 63, 3) := by decide +kernel
theorem dX2_made_121 : decode cX2_made 121 = .ok (.iload 5, 2) := by decide +kernel
theorem dX2_made_123 : decode cX2_made 123 = .ok (.i2l, 1) := by decide +kernel
theorem dX2_made_124 : decode cX2_made 124 = .ok (.ladd, 1) := by decide +kernel
theorem dX2_made_125 : decode cX2_made 125 = .ok (.putfield 63, 3) := by decide +kernel
theorem dX2_made_128 : decode cX2_made 128 = .ok (.iinc 4 1, 3) := by decide +kernel
theorem dX2_made_131 : decode cX2_made 131 = .ok (.goto (-70), 3) := by decide +kernel
theorem dX2_made_134 : decode cX2_made 134 = .ok (.aload_n 0, 1) := by decide +kernel
theorem dX2_made_135 : decode cX2_made 135 = .ok (.getfield 63, 3) := by decide +kernel
theorem dX2_made_138 : decode cX2_made 138 = .ok (.lconst 0, 1) := by decide +kernel
theorem dX2_made_139 : decode cX2_made 139 = .ok (.lcmp, 1) := by decide +kernel
theorem dX2_made_140 : decode cX2_made 140 = .ok (.ifCond .ne 8, 3) := by decide +kernel
theorem dX2_made_143 : decode cX2_made 143 = .ok (.aload_n 0, 1) := by decide +kernel
theorem dX2_made_144 : decode cX2_made 144 = .ok (.getfield 73, 3) := by decide +kernel
theorem dX2_made_147 : decode cX2_made 147 = .ok (.ireturn, 1) := by decide +kernel
theorem dX2_made_148 : decode cX2_made 148 = .ok (.aload_n 0, 1) := by decide +kernel
theorem dX2_made_149 : decode cX2_made 149 = .ok (.getfield 59, 3) := by decide +kernel
theorem dX2_made_152 : decode cX2_made 152 = .ok (.aload_n 0, 1) := by decide +kernel
theorem dX2_made_153 : decode cX2_made 153 = .ok (.getfield 63, 3) := by decide +kernel
theorem dX2_made_156 : decode cX2_made 156 = .ok (.ldiv, 1) := by decide +kernel
theorem dX2_made_157 : decode cX2_made 157 = .ok (.lstore 4, 2) := by decide +kernel
theorem dX2_made_159 : decode cX2_made 159 = .ok (.aload_n 0, 1) := by decide +kernel
theorem dX2_made_160 : decode cX2_made 160 = .ok (.getfield 59, 3) := by decide +kernel
theorem dX2_made_163 : decode cX2_made 163 = .ok (.lconst 0, 1) := by decide +kernel
theorem dX2_made_164 : decode cX2_made 164 = .ok (.lcmp, 1) := by decide +kernel
theorem dX2_made_165 : decode cX2_made 165 = .ok (.ifCond .ge 25, 3) := by decide +kernel
theorem dX2_made_168 : decode cX2_made 168 = .ok (.lload 4, 2) := by decide +kernel
theorem dX2_made_170 : decode cX2_made 170 = .ok (.aload_n 0, 1) := by decide +kernel
theorem dX2_made_171 : decode cX2_made 171 = .ok (.getfield 63, 3) := by decide +kernel
theorem dX2_made_174 : decode cX2_made 174 = .ok (.lmul, 1) := by decide +kernel
theorem dX2_made_175 : decode cX2_made 175 = .ok (.aload_n 0, 1) := by decide +kernel
theorem dX2_made_176 : decode cX2_made 176 = .ok (.getfield 59, 3) := by decide +kernel
theorem dX2_made_179 : decode cX2_made 179 = .ok (.lcmp, 1) := by decide +kernel
theorem dX2_made_180 : decode cX2_made 180 = .ok (.ifCond .eq 10, 3) := by decide +kernel
theorem dX2_made_183 : decode cX2_made 183 = .ok (.lload 4, 2) := by decide +kernel
theorem dX2_made_185 : decode cX2_made 185 = .ok (.lconst 1, 1) := by decide +kernel
theorem dX2_made_186 : decode cX2_made 186 = .ok (.lsub, 1) := by decide +kernel
theorem dX2_made_187 : decode cX2_made 187 = .ok (.goto 5, 3) := by decide +kernel
theorem dX2_made_190 : decode cX2_made 190 = .ok (.lload 4, 2) := by decide +kernel
theorem dX2_made_192 : decode cX2_made 192 = .ok (.l2i, 1) := by decide +kernel
theorem dX2_made_193 : decode cX2_made 193 = .ok (.ireturn, 1) := by decide +kernel
set_option maxRecDepth 20000 in
theorem ggX2_warms_X2_made : GoodIn wsX2_warms wsX2_made := goodIn_r _ [8, 2, 9, 10, 11, 12, 13, 14, 15, 16, 7, 17, 3, 18, 19, 20, 21, 1, 22, 23, 24, 25, 26, 27, 28, 29, 30, 31, 32, 33, 34, 35, 36, 37, 38, 39, 40, 41, 42, 43, 44, 45, 46, 47] (by decide +kernel) (by decide +kernel)
set_option maxRecDepth 20000 in
theorem gX2_warms_X2_made : GoodIn wsX2_warms (wsV RX2 76 RX2 yX2_made wsX2_made) := goodIn_app (goodIn_of _ (by decide +kernel)) ggX2_warms_X2_made
theorem dX2_warms_0 : decode cX2_warms 0 = .ok (.iload_n 1, 1) := by decide +kernel
theorem dX2_warms_1 : decode cX2_warms 1 = .ok (.aload_n 0, 1) := by decide +kernel
theorem dX2_warms_2 : decode cX2_warms 2 = .ok (.getfield 29, 3) := by decide +kernel
theorem dX2_warms_5 : decode cX2_warms 5 = .ok (.irem, 1) := by decide +kernel
theorem dX2_warms_6 : decode cX2_warms 6 = .ok (.istore_n 2, 1) := by decide +kernel
theorem dX2_warms_7 : decode cX2_warms 7 = .ok (.iload_n 1, 1) := by decide +kernel
theorem dX2_warms_8 : decode cX2_warms 8 = .ok (.aload_n 0, 1) := by decide +kernel
theorem dX2_warms_9 : decode cX2_warms 9 = .ok (.getfield 29, 3) := by decide +kernel
theorem dX2_warms_12 : decode cX2_warms 12 = .ok (.idiv, 1) := by decide +kernel
theorem dX2_warms_13 : decode cX2_warms 13 = .ok (.istore_n 3, 1) := by decide +kernel
theorem dX2_warms_14 : decode cX2_warms 14 = .ok (.aload_n 0, 1) := by decide +kernel
theorem dX2_warms_15 : decode cX2_warms 15 = .ok (.getfield 7, 3) := by decide +kernel
theorem dX2_warms_18 : decode cX2_warms 18 = .ok (.bipush 10, 2) := by decide +kernel
theorem dX2_warms_20 : decode cX2_warms 20 = .ok (.iload_n 3, 1) := by decide +kernel
theorem dX2_warms_21 : decode cX2_warms 21 = .ok (.imul, 1) := by decide +kernel
theorem dX2_warms_22 : decode cX2_warms 22 = .ok (.iload_n 2, 1) := by decide +kernel
theorem dX2_warms_23 : decode cX2_warms 23 = .ok (.iadd, 1) := by decide +kernel
theorem dX2_warms_24 : decode cX2_warms 24 = .ok (.iaload, 1) := by decide +kernel
theorem dX2_warms_25 : decode cX2_warms 25 = .ok (.ifCond .ne 5, 3) := by decide +kernel
theorem dX2_warms_28 : decode cX2_warms 28 = .ok (.iconst 0, 1) := by decide +kernel
theorem dX2_warms_29 : decode cX2_warms 29 = .ok (.ireturn, 1) := by decide +kernel
theorem dX2_warms_30 : decode cX2_warms 30 = .ok (.aload_n 0, 1) := by decide +kernel
theorem dX2_warms_31 : decode cX2_warms 31 = .ok (.iload_n 2, 1) := by decide +kernel
theorem dX2_warms_32 : decode cX2_warms 32 = .ok (.iload_n 3, 1) := by decide +kernel
theorem dX2_warms_33 : decode cX2_warms 33 = .ok (.invokevirtual 76, 3) := by decide +kernel
theorem dX2_warms_36 : decode cX2_warms 36 = .ok (.istore 4, 2) := by decide +kernel
theorem dX2_warms_38 : decode cX2_warms 38 = .ok (.iload 4, 2) := by decide +kernel
theorem dX2_warms_40 : decode cX2_warms 40 = .ok (.aload_n 0, 1) := by decide +kernel
theorem dX2_warms_41 : decode cX2_warms 41 = .ok (.getfield 13, 3) := by decide +kernel
theorem dX2_warms_44 : decode cX2_warms 44 = .ok (.bipush 10, 2) := by decide +kernel
theorem dX2_warms_46 : decode cX2_warms 46 = .ok (.iload_n 3, 1) := by decide +kernel
theorem dX2_warms_47 : decode cX2_warms 47 = .ok (.imul, 1) := by decide +kernel
theorem dX2_warms_48 : decode cX2_warms 48 = .ok (.iload_n 2, 1) := by decide +kernel
theorem dX2_warms_49 : decode cX2_warms 49 = .ok (.iadd, 1) := by decide +kernel
theorem dX2_warms_50 : decode cX2_warms 50 = .ok (.iaload, 1) := by decide +kernel
theorem dX2_warms_51 : decode cX2_warms 51 = .ok (.if_icmp .le 7, 3) := by decide +kernel
theorem dX2_warms_54 : decode cX2_warms 54 = .ok (.iconst 1, 1) := by decide +kernel
theorem dX2_warms_55 : decode cX2_warms 55 = .ok (.goto 4, 3) := by decide +kernel
theorem dX2_warms_58 : decode cX2_warms 58 = .ok (.iconst 0, 1) := by decide +kernel
theorem dX2_warms_59 : decode cX2_warms 59 = .ok (.istore 5, 2) := by decide +kernel
theorem dX2_warms_61 : decode cX2_warms 61 = .ok (.aload_n 0, 1) := by decide +kernel
theorem dX2_warms_62 : decode cX2_warms 62 = .ok (.getfield 13, 3) := by decide +kernel
theorem dX2_warms_65 : decode cX2_warms 65 = .ok (.bipush 10, 2) := by decide +kernel
theorem dX2_warms_67 : decode cX2_warms 67 = .ok (.iload_n 3, 1) := by decide +kernel
theorem dX2_warms_68 : decode cX2_warms 68 = .ok (.imul, 1) := by decide +kernel
theorem dX2_warms_69 : decode cX2_warms 69 = .ok (.iload_n 2, 1) := by decide +kernel
theorem dX2_warms_70 : decode cX2_warms 70 = .ok (.iadd, 1) := by decide +kernel
theorem dX2_warms_71 : decode cX2_warms 71 = .ok (.iload 5, 2) := by decide +kernel
theorem dX2_warms_73 : decode cX2_warms 73 = .ok (.ifCond .eq 8, 3) := by decide +kernel
theorem dX2_warms_76 : decode cX2_warms 76 = .ok (.iload 4, 2) := by decide +kernel
theorem dX2_warms_78 : decode cX2_warms 78 = .ok (.goto 14, 3) := by decide +kernel
theorem dX2_warms_81 : decode cX2_warms 81 = .ok (.aload_n 0, 1) := by decide +kernel
theorem dX2_warms_82 : decode cX2_warms 82 = .ok (.getfield 13, 3) := by decide +kernel
theorem dX2_warms_85 : decode cX2_warms 85 = .ok (.bipush 10, 2) := by decide +kernel
theorem dX2_warms_87 : decode cX2_warms 87 = .ok (.iload_n 3, 1) := by decide +kernel
theorem dX2_warms_88 : decode cX2_warms 88 = .ok (.imul, 1) := by decide +kernel
theorem dX2_warms_89 : decode cX2_warms 89 = .ok (.iload_n 2, 1) := by decide +kernel
theorem dX2_warms_90 : decode cX2_warms 90 = .ok (.iadd, 1) := by decide +kernel
theorem dX2_warms_91 : decode cX2_warms 91 = .ok (.iaload, 1) := by decide +kernel
theorem dX2_warms_92 : decode cX2_warms 92 = .ok (.iastore, 1) := by decide +kernel
theorem dX2_warms_93 : decode cX2_warms 93 = .ok (.iload 5, 2) := by decide +kernel
theorem dX2_warms_95 : decode cX2_warms 95 = .ok (.ireturn, 1) := by decide +kernel
set_option maxRecDepth 20000 in
theorem ggX2_settle_X2_warms : GoodIn wsX2_settle wsX2_warms := goodIn_r _ [13, 7, 14, 6, 15, 16, 17, 12, 18, 19, 20, 4, 5, 2, 21, 22, 23, 24, 25, 26, 27, 28, 8, 29, 30, 31, 32, 33, 34, 35, 36, 37, 38, 39, 40, 41, 42, 43, 44, 45, 46, 47, 48, 49, 50, 51, 52, 53] (by decide +kernel) (by decide +kernel)
set_option maxRecDepth 20000 in
theorem gX2_settle_X2_warms : GoodIn wsX2_settle (wsV RX2 82 RX2 yX2_warms wsX2_warms) := goodIn_app (goodIn_of _ (by decide +kernel)) ggX2_settle_X2_warms
theorem dX2_settle_0 : decode cX2_settle 0 = .ok (.aload_n 0, 1) := by decide +kernel
theorem dX2_settle_1 : decode cX2_settle 1 = .ok (.getfield 51, 3) := by decide +kernel
theorem dX2_settle_4 : decode cX2_settle 4 = .ok (.ifCond .eq 4, 3) := by decide +kernel
theorem dX2_settle_7 : decode cX2_settle 7 = .ok (.return_, 1) := by decide +kernel
theorem dX2_settle_8 : decode cX2_settle 8 = .ok (.aload_n 0, 1) := by decide +kernel
theorem dX2_settle_9 : decode cX2_settle 9 = .ok (.iconst 1, 1) := by decide +kernel
theorem dX2_settle_10 : decode cX2_settle 10 = .ok (.putfield 51, 3) := by decide +kernel
theorem dX2_settle_13 : decode cX2_settle 13 = .ok (.iconst 0, 1) := by decide +kernel
theorem dX2_settle_14 : decode cX2_settle 14 = .ok (.istore_n 1, 1) := by decide +kernel
theorem dX2_settle_15 : decode cX2_settle 15 = .ok (.aload_n 0, 1) := by decide +kernel
theorem dX2_settle_16 : decode cX2_settle 16 = .ok (.iconst 0, 1) := by decide +kernel
theorem dX2_settle_17 : decode cX2_settle 17 = .ok (.putfield 73, 3) := by decide +kernel
theorem dX2_settle_20 : decode cX2_settle 20 = .ok (.aload_n 0, 1) := by decide +kernel
theorem dX2_settle_21 : decode cX2_settle 21 = .ok (.iconst 0, 1) := by decide +kernel
theorem dX2_settle_22 : decode cX2_settle 22 = .ok (.putfield 79, 3) := by decide +kernel
theorem dX2_settle_25 : decode cX2_settle 25 = .ok (.iconst 0, 1) := by decide +kernel
theorem dX2_settle_26 : decode cX2_settle 26 = .ok (.istore_n 2, 1) := by decide +kernel
theorem dX2_settle_27 : decode cX2_settle 27 = .ok (.iload_n 2, 1) := by decide +kernel
theorem dX2_settle_28 : decode cX2_settle 28 = .ok (.iconst 4, 1) := by decide +kernel
theorem dX2_settle_29 : decode cX2_settle 29 = .ok (.if_icmp .ge 88, 3) := by decide +kernel
theorem dX2_settle_32 : decode cX2_settle 32 = .ok (.aload_n 0, 1) := by decide +kernel
theorem dX2_settle_33 : decode cX2_settle 33 = .ok (.getfield 19, 3) := by decide +kernel
theorem dX2_settle_36 : decode cX2_settle 36 = .ok (.iload_n 2, 1) := by decide +kernel
theorem dX2_settle_37 : decode cX2_settle 37 = .ok (.iaload, 1) := by decide +kernel
theorem dX2_settle_38 : decode cX2_settle 38 = .ok (.ifCond .le 73, 3) := by decide +kernel
theorem dX2_settle_41 : decode cX2_settle 41 = .ok (.aload_n 0, 1) := by decide +kernel
theorem dX2_settle_42 : decode cX2_settle 42 = .ok (.iload_n 1, 1) := by decide +kernel
theorem dX2_settle_43 : decode cX2_settle 43 = .ok (.ifCond .eq 23, 3) := by decide +kernel
theorem dX2_settle_46 : decode cX2_settle 46 = .ok (.aload_n 0, 1) := by decide +kernel
theorem dX2_settle_47 : decode cX2_settle 47 = .ok (.getfield 73, 3) := by decide +kernel
theorem dX2_settle_50 : decode cX2_settle 50 = .ok (.aload_n 0, 1) := by decide +kernel
theorem dX2_settle_51 : decode cX2_settle 51 = .ok (.getfield 16, 3) := by decide +kernel
theorem dX2_settle_54 : decode cX2_settle 54 = .ok (.iload_n 2, 1) := by decide +kernel
theorem dX2_settle_55 : decode cX2_settle 55 = .ok (.iaload, 1) := by decide +kernel
theorem dX2_settle_56 : decode cX2_settle 56 = .ok (.if_icmp .ge 10, 3) := by decide +kernel
theorem dX2_settle_59 : decode cX2_settle 59 = .ok (.aload_n 0, 1) := by decide +kernel
theorem dX2_settle_60 : decode cX2_settle 60 = .ok (.getfield 73, 3) := by decide +kernel
theorem dX2_settle_63 : decode cX2_settle 63 = .ok (.goto 9, 3) := by decide +kernel
theorem dX2_settle_66 : decode cX2_settle 66 = .ok (.aload_n 0, 1) := by decide +kernel
theorem dX2_settle_67 : decode cX2_settle 67 = .ok (.getfield 16, 3) := by decide +kernel
theorem dX2_settle_70 : decode cX2_settle 70 = .ok (.iload_n 2, 1) := by decide +kernel
theorem dX2_settle_71 : decode cX2_settle 71 = .ok (.iaload, 1) := by decide +kernel
theorem dX2_settle_72 : decode cX2_settle 72 = .ok (.putfield 73, 3) := by decide +kernel
theorem dX2_settle_75 : decode cX2_settle 75 = .ok (.aload_n 0, 1) := by decide +kernel
theorem dX2_settle_76 : decode cX2_settle 76 = .ok (.iload_n 1, 1) := by decide +kernel
theorem dX2_settle_77 : decode cX2_settle 77 = .ok (.ifCond .eq 23, 3) := by decide +kernel
theorem dX2_settle_80 : decode cX2_settle 80 = .ok (.aload_n 0, 1) := by decide +kernel
theorem dX2_settle_81 : decode cX2_settle 81 = .ok (.getfield 79, 3) := by decide +kernel
theorem dX2_settle_84 : decode cX2_settle 84 = .ok (.aload_n 0, 1) := by decide +kernel
theorem dX2_settle_85 : decode cX2_settle 85 = .ok (.getfield 16, 3) := by decide +kernel
theorem dX2_settle_88 : decode cX2_settle 88 = .ok (.iload_n 2, 1) := by decide +kernel
theorem dX2_settle_89 : decode cX2_settle 89 = .ok (.iaload, 1) := by decide +kernel
theorem dX2_settle_90 : decode cX2_settle 90 = .ok (.if_icmp .le 10, 3) := by decide +kernel
theorem dX2_settle_93 : decode cX2_settle 93 = .ok (.aload_n 0, 1) := by decide +kernel
theorem dX2_settle_94 : decode cX2_settle 94 = .ok (.getfield 79, 3) := by decide +kernel
theorem dX2_settle_97 : decode cX2_settle 97 = .ok (.goto 9, 3) := by decide +kernel
theorem dX2_settle_100 : decode cX2_settle 100 = .ok (.aload_n 0, 1) := by decide +kernel
theorem dX2_settle_101 : decode cX2_settle 101 = .ok (.getfield 16, 3) := by decide +kernel
theorem dX2_settle_104 : decode cX2_settle 104 = .ok (.iload_n 2, 1) := by decide +kernel
theorem dX2_settle_105 : decode cX2_settle 105 = .ok (.iaload, 1) := by decide +kernel
theorem dX2_settle_106 : decode cX2_settle 106 = .ok (.putfield 79, 3) := by decide +kernel
theorem dX2_settle_109 : decode cX2_settle 109 = .ok (.iconst 1, 1) := by decide +kernel
theorem dX2_settle_110 : decode cX2_settle 110 = .ok (.istore_n 1, 1) := by decide +kernel
theorem dX2_settle_111 : decode cX2_settle 111 = .ok (.iinc 2 1, 3) := by decide +kernel
theorem dX2_settle_114 : decode cX2_settle 114 = .ok (.goto (-87), 3) := by decide +kernel
theorem dX2_settle_117 : decode cX2_settle 117 = .ok (.iconst 0, 1) := by decide +kernel
theorem dX2_settle_118 : decode cX2_settle 118 = .ok (.istore_n 2, 1) := by decide +kernel
theorem dX2_settle_119 : decode cX2_settle 119 = .ok (.iload_n 2, 1) := by decide +kernel
theorem dX2_settle_120 : decode cX2_settle 120 = .ok (.bipush 100, 2) := by decide +kernel
theorem dX2_settle_122 : decode cX2_settle 122 = .ok (.if_icmp .ge 19, 3) := by decide +kernel
theorem dX2_settle_125 : decode cX2_settle 125 = .ok (.aload_n 0, 1) := by decide +kernel
theorem dX2_settle_126 : decode cX2_settle 126 = .ok (.getfield 13, 3) := by decide +kernel
theorem dX2_settle_129 : decode cX2_settle 129 = .ok (.iload_n 2, 1) := by decide +kernel
theorem dX2_settle_130 : decode cX2_settle 130 = .ok (.aload_n 0, 1) := by decide +kernel
theorem dX2_settle_131 : decode cX2_settle 131 = .ok (.getfield 73, 3) := by decide +kernel
theorem dX2_settle_134 : decode cX2_settle 134 = .ok (.iastore, 1) := by decide +kernel
theorem dX2_settle_135 : decode cX2_settle 135 = .ok (.iinc 2 1, 3) := by decide +kernel
theorem dX2_settle_138 : decode cX2_settle 138 = .ok (.goto (-19), 3) := by decide +kernel
theorem dX2_settle_141 : decode cX2_settle 141 = .ok (.iconst 1, 1) := by decide +kernel
theorem dX2_settle_142 : decode cX2_settle 142 = .ok (.istore_n 2, 1) := by decide +kernel
theorem dX2_settle_143 : decode cX2_settle 143 = .ok (.iload_n 2, 1) := by decide +kernel
theorem dX2_settle_144 : decode cX2_settle 144 = .ok (.ifCond .eq 87, 3) := by decide +kernel
theorem dX2_settle_147 : decode cX2_settle 147 = .ok (.iconst 0, 1) := by decide +kernel
theorem dX2_settle_148 : decode cX2_settle 148 = .ok (.istore_n 2, 1) := by decide +kernel
theorem dX2_settle_149 : decode cX2_settle 149 = .ok (.iconst 0, 1) := by decide +kernel
theorem dX2_settle_150 : decode cX2_settle 150 = .ok (.istore_n 3, 1) := by decide +kernel
theorem dX2_settle_151 : decode cX2_settle 151 = .ok (.iload_n 3, 1) := by decide +kernel
theorem dX2_settle_152 : decode cX2_settle 152 = .ok (.aload_n 0, 1) := by decide +kernel
theorem dX2_settle_153 : decode cX2_settle 153 = .ok (.getfield 29, 3) := by decide +kernel
theorem dX2_settle_156 : decode cX2_settle 156 = .ok (.aload_n 0, 1) := by decide +kernel
theorem dX2_settle_157 : decode cX2_settle 157 = .ok (.getfield 33, 3) := by decide +kernel
theorem dX2_settle_160 : decode cX2_settle 160 = .ok (.imul, 1) := by decide +kernel
theorem dX2_settle_161 : decode cX2_settle 161 = .ok (.if_icmp .ge 27, 3) := by decide +kernel
theorem dX2_settle_164 : decode cX2_settle 164 = .ok (.aload_n 0, 1) := by decide +kernel
theorem dX2_settle_165 : decode cX2_settle 165 = .ok (.iload_n 3, 1) := by decide +kernel
theorem dX2_settle_166 : decode cX2_settle 166 = .ok (.invokevirtual 82, 3) := by decide +kernel
theorem dX2_settle_169 : decode cX2_settle 169 = .ok (.ifCond .ne 7, 3) := by decide +kernel
theorem dX2_settle_172 : decode cX2_settle 172 = .ok (.iload_n 2, 1) := by decide +kernel
theorem dX2_settle_173 : decode cX2_settle 173 = .ok (.ifCond .eq 7, 3) := by decide +kernel
theorem dX2_settle_176 : decode cX2_settle 176 = .ok (.iconst 1, 1) := by decide +kernel
theorem dX2_settle_177 : decode cX2_settle 177 = .ok (.goto 4, 3) := by decide +kernel
theorem dX2_settle_180 : decode cX2_settle 180 = .ok (.iconst 0, 1) := by decide +kernel
theorem dX2_settle_181 : decode cX2_settle 181 = .ok (.istore_n 2, 1) := by decide +kernel
theorem dX2_settle_182 : decode cX2_settle 182 = .ok (.iinc 3 1, 3) := by decide +kernel
theorem dX2_settle_185 : decode cX2_settle 185 = .ok (.goto (-34), 3) := by decide +kernel
theorem dX2_settle_188 : decode cX2_settle 188 = .ok (.aload_n 0, 1) := by decide +kernel
theorem dX2_settle_189 : decode cX2_settle 189 = .ok (.getfield 29, 3) := by decide +kernel
theorem dX2_settle_192 : decode cX2_settle 192 = .ok (.aload_n 0, 1) := by decide +kernel
theorem dX2_settle_193 : decode cX2_settle 193 = .ok (.getfield 33, 3) := by decide +kernel
theorem dX2_settle_196 : decode cX2_settle 196 = .ok (.imul, 1) := by decide +kernel
theorem dX2_settle_197 : decode cX2_settle 197 = .ok (.iconst 1, 1) := by decide +kernel
theorem dX2_settle_198 : decode cX2_settle 198 = .ok (.isub, 1) := by decide +kernel
theorem dX2_settle_199 : decode cX2_settle 199 = .ok (.istore_n 3, 1) := by decide +kernel
theorem dX2_settle_200 : decode cX2_settle 200 = .ok (.iload_n 3, 1) := by decide +kernel
theorem dX2_settle_201 : decode cX2_settle 201 = .ok (.ifCond .lt 27, 3) := by decide +kernel
theorem dX2_settle_204 : decode cX2_settle 204 = .ok (.aload_n 0, 1) := by decide +kernel
theorem dX2_settle_205 : decode cX2_settle 205 = .ok (.iload_n 3, 1) := by decide +kernel
theorem dX2_settle_206 : decode cX2_settle 206 = .ok (.invokevirtual 82, 3) := by decide +kernel
theorem dX2_settle_209 : decode cX2_settle 209 = .ok (.ifCond .ne 7, 3) := by decide +kernel
theorem dX2_settle_212 : decode cX2_settle 212 = .ok (.iload_n 2, 1) := by decide +kernel
theorem dX2_settle_213 : decode cX2_settle 213 = .ok (.ifCond .eq 7, 3) := by decide +kernel
theorem dX2_settle_216 : decode cX2_settle 216 = .ok (.iconst 1, 1) := by decide +kernel
theorem dX2_settle_217 : decode cX2_settle 217 = .ok (.goto 4, 3) := by decide +kernel
theorem dX2_settle_220 : decode cX2_settle 220 = .ok (.iconst 0, 1) := by decide +kernel
theorem dX2_settle_221 : decode cX2_settle 221 = .ok (.istore_n 2, 1) := by decide +kernel
theorem dX2_settle_222 : decode cX2_settle 222 = .ok (.iinc 3 (-1), 3) := by decide +kernel
theorem dX2_settle_225 : decode cX2_settle 225 = .ok (.goto (-25), 3) := by decide +kernel
theorem dX2_settle_228 : decode cX2_settle 228 = .ok (.goto (-85), 3) := by decide +kernel
theorem dX2_settle_231 : decode cX2_settle 231 = .ok (.return_, 1) := by decide +kernel
theorem dX2_warmthOf_0 : decode cX2_warmthOf 0 = .ok (.aload_n 0, 1) := by decide +kernel
theorem dX2_warmthOf_1 : decode cX2_warmthOf 1 = .ok (.getfield 7, 3) := by decide +kernel
theorem dX2_warmthOf_4 : decode cX2_warmthOf 4 = .ok (.bipush 10, 2) := by decide +kernel
theorem dX2_warmthOf_6 : decode cX2_warmthOf 6 = .ok (.iload_n 2, 1) := by decide +kernel
theorem dX2_warmthOf_7 : decode cX2_warmthOf 7 = .ok (.imul, 1) := by decide +kernel
theorem dX2_warmthOf_8 : decode cX2_warmthOf 8 = .ok (.iload_n 1, 1) := by decide +kernel
theorem dX2_warmthOf_9 : decode cX2_warmthOf 9 = .ok (.iadd, 1) := by decide +kernel
theorem dX2_warmthOf_10 : decode cX2_warmthOf 10 = .ok (.iaload, 1) := by decide +kernel
theorem dX2_warmthOf_11 : decode cX2_warmthOf 11 = .ok (.ifCond .le 17, 3) := by decide +kernel
theorem dX2_warmthOf_14 : decode cX2_warmthOf 14 = .ok (.aload_n 0, 1) := by decide +kernel
theorem dX2_warmthOf_15 : decode cX2_warmthOf 15 = .ok (.getfield 13, 3) := by decide +kernel
theorem dX2_warmthOf_18 : decode cX2_warmthOf 18 = .ok (.bipush 10, 2) := by decide +kernel
theorem dX2_warmthOf_20 : decode cX2_warmthOf 20 = .ok (.iload_n 2, 1) := by decide +kernel
theorem dX2_warmthOf_21 : decode cX2_warmthOf 21 = .ok (.imul, 1) := by decide +kernel
theorem dX2_warmthOf_22 : decode cX2_warmthOf 22 = .ok (.iload_n 1, 1) := by decide +kernel
theorem dX2_warmthOf_23 : decode cX2_warmthOf 23 = .ok (.iadd, 1) := by decide +kernel
theorem dX2_warmthOf_24 : decode cX2_warmthOf 24 = .ok (.iaload, 1) := by decide +kernel
theorem dX2_warmthOf_25 : decode cX2_warmthOf 25 = .ok (.goto 5, 3) := by decide +kernel
theorem dX2_warmthOf_28 : decode cX2_warmthOf 28 = .ok (.ldc 86, 2) := by decide +kernel
theorem dX2_warmthOf_30 : decode cX2_warmthOf 30 = .ok (.ireturn, 1) := by decide +kernel
set_option maxRecDepth 20000 in
theorem ggX2_warmth_X2_isCell : GoodIn wsX2_warmth wsX2_isCell := goodIn_r _ [5, 6, 7, 8, 9, 4, 10, 53, 54, 55, 56, 57, 58, 59, 60, 61, 62, 63, 64, 65, 66, 67] (by decide +kernel) (by decide +kernel)
set_option maxRecDepth 20000 in
theorem gX2_warmth_X2_isCell : GoodIn wsX2_warmth (wsV RX2 43 RX2 yX2_isCell wsX2_isCell) := goodIn_app (goodIn_of _ (by decide +kernel)) ggX2_warmth_X2_isCell
set_option maxRecDepth 20000 in
theorem ggX2_warmth_X2_may : GoodIn wsX2_warmth wsX2_may := goodIn_r _ [14, 15, 53, 54, 55, 56, 57, 58, 59, 60, 61, 62, 63, 64, 65, 66, 67] (by decide +kernel) (by decide +kernel)
set_option maxRecDepth 20000 in
theorem gX2_warmth_X2_may : GoodIn wsX2_warmth (wsV RX2 47 RX2 yX2_may wsX2_may) := goodIn_app (goodIn_of _ (by decide +kernel)) ggX2_warmth_X2_may
set_option maxRecDepth 20000 in
theorem ggX2_warmth_X2_settle : GoodIn wsX2_warmth wsX2_settle := goodIn_r _ [19, 20, 21, 22, 23, 24, 25, 6, 7, 26, 27, 28, 4, 29, 30, 31, 32, 33, 34, 35, 36, 37, 38, 39, 40, 1, 2, 3, 5, 8, 9, 10, 41, 42, 43, 44, 45, 46, 47, 53, 54, 55, 56, 57, 58, 59, 60, 61, 62, 63, 64, 65, 66, 67] (by decide +kernel) (by decide +kernel)
set_option maxRecDepth 20000 in
theorem gX2_warmth_X2_settle : GoodIn wsX2_warmth (wsV RX2 87 RX2 yX2_settle wsX2_settle) := goodIn_app (goodIn_of _ (by decide +kernel)) ggX2_warmth_X2_settle
set_option maxRecDepth 20000 in
theorem ggX2_warmth_X2_warmthOf : GoodIn wsX2_warmth wsX2_warmthOf := goodIn_r _ [51, 30, 25, 52, 53, 54, 55, 56, 57, 58, 59, 60, 61, 62, 63, 64, 65, 66, 67] (by decide +kernel) (by decide +kernel)
set_option maxRecDepth 20000 in
theorem gX2_warmth_X2_warmthOf : GoodIn wsX2_warmth (wsV RX2 90 RX2 yX2_warmthOf wsX2_warmthOf) := goodIn_app (goodIn_of _ (by decide +kernel)) ggX2_warmth_X2_warmthOf
theorem dX2_warmth_0 : decode cX2_warmth 0 = .ok (.aload_n 0, 1) := by decide +kernel
theorem dX2_warmth_1 : decode cX2_warmth 1 = .ok (.aload_n 0, 1) := by decide +kernel
theorem dX2_warmth_2 : decode cX2_warmth 2 = .ok (.iload_n 1, 1) := by decide +kernel
theorem dX2_warmth_3 : decode cX2_warmth 3 = .ok (.iload_n 2, 1) := by decide +kernel
theorem dX2_warmth_4 : decode cX2_warmth 4 = .ok (.invokevirtual 43, 3) := by decide +kernel
theorem dX2_warmth_7 : decode cX2_warmth 7 = .ok (.invokevirtual 47, 3) := by decide +kernel
theorem dX2_warmth_10 : decode cX2_warmth 10 = .ok (.ifCond .ne 5, 3) := by decide +kernel
theorem dX2_warmth_13 : decode cX2_warmth 13 = .ok (.iconst 0, 1) := by decide +kernel
theorem dX2_warmth_14 : decode cX2_warmth 14 = .ok (.ireturn, 1) := by decide +kernel
theorem dX2_warmth_15 : decode cX2_warmth 15 = .ok (.aload_n 0, 1) := by decide +kernel
theorem dX2_warmth_16 : decode cX2_warmth 16 = .ok (.invokevirtual 87, 3) := by decide +kernel
theorem dX2_warmth_19 : decode cX2_warmth 19 = .ok (.aload_n 0, 1) := by decide +kernel
theorem dX2_warmth_20 : decode cX2_warmth 20 = .ok (.iload_n 1, 1) := by decide +kernel
theorem dX2_warmth_21 : decode cX2_warmth 21 = .ok (.iload_n 2, 1) := by decide +kernel
theorem dX2_warmth_22 : decode cX2_warmth 22 = .ok (.invokevirtual 90, 3) := by decide +kernel
theorem dX2_warmth_25 : decode cX2_warmth 25 = .ok (.ireturn, 1) := by decide +kernel
set_option maxRecDepth 20000 in
theorem ggX2_flowOf_X2_isBeside : GoodIn wsX2_flowOf wsX2_isBeside := goodIn_r _ [11, 2, 1, 15, 16, 17, 18, 19, 20, 21, 22, 23, 24, 25, 26, 27, 28, 29] (by decide +kernel) (by decide +kernel)
set_option maxRecDepth 20000 in
theorem gX2_flowOf_X2_isBeside : GoodIn wsX2_flowOf (wsV RX2 70 RX2 yX2_isBeside wsX2_isBeside) := goodIn_app (goodIn_of _ (by decide +kernel)) ggX2_flowOf_X2_isBeside
set_option maxRecDepth 20000 in
theorem ggX2_flowOf_X2_together : GoodIn wsX2_flowOf wsX2_together := goodIn_r _ [14] (by decide +kernel) (by decide +kernel)
set_option maxRecDepth 20000 in
theorem gX2_flowOf_X2_together : GoodIn wsX2_flowOf (va_wsS RX2 55 yX2_together wsX2_together) := goodIn_app (goodIn_of _ (by decide +kernel)) ggX2_flowOf_X2_together
theorem dX2_flowOf_0 : decode cX2_flowOf 0 = .ok (.lconst 0, 1) := by decide +kernel
theorem dX2_flowOf_1 : decode cX2_flowOf 1 = .ok (.lstore_n 2, 1) := by decide +kernel
theorem dX2_flowOf_2 : decode cX2_flowOf 2 = .ok (.iconst 0, 1) := by decide +kernel
theorem dX2_flowOf_3 : decode cX2_flowOf 3 = .ok (.istore 4, 2) := by decide +kernel
theorem dX2_flowOf_5 : decode cX2_flowOf 5 = .ok (.iload 4, 2) := by decide +kernel
theorem dX2_flowOf_7 : decode cX2_flowOf 7 = .ok (.aload_n 0, 1) := by decide +kernel
theorem dX2_flowOf_8 : decode cX2_flowOf 8 = .ok (.getfield 33, 3) := by decide +kernel
theorem dX2_flowOf_11 : decode cX2_flowOf 11 = .ok (.if_icmp .ge 87, 3) := by decide +kernel
theorem dX2_flowOf_14 : decode cX2_flowOf 14 = .ok (.iconst 0, 1) := by decide +kernel
theorem dX2_flowOf_15 : decode cX2_flowOf 15 = .ok (.istore 5, 2) := by decide +kernel
theorem dX2_flowOf_17 : decode cX2_flowOf 17 = .ok (.iload 5, 2) := by decide +kernel
theorem dX2_flowOf_19 : decode cX2_flowOf 19 = .ok (.aload_n 0, 1) := by decide +kernel
theorem dX2_flowOf_20 : decode cX2_flowOf 20 = .ok (.getfield 29, 3) := by decide +kernel
theorem dX2_flowOf_23 : decode cX2_flowOf 23 = .ok (.if_icmp .ge 69, 3) := by decide +kernel
theorem dX2_flowOf_26 : decode cX2_flowOf 26 = .ok (.aload_n 0, 1) := by decide +kernel
theorem dX2_flowOf_27 : decode cX2_flowOf 27 = .ok (.iload_n 1, 1) := by decide +kernel
theorem dX2_flowOf_28 : decode cX2_flowOf 28 = .ok (.iload 5, 2) := by decide +kernel
theorem dX2_flowOf_30 : decode cX2_flowOf 30 = .ok (.iload 4, 2) := by decide +kernel
theorem dX2_flowOf_32 : decode cX2_flowOf 32 = .ok (.invokevirtual 70, 3) := by decide +kernel
theorem dX2_flowOf_35 : decode cX2_flowOf 35 = .ok (.ifCond .eq 51, 3) := by decide +kernel
theorem dX2_flowOf_38 : decode cX2_flowOf 38 = .ok (.lload_n 2, 1) := by decide +kernel
theorem dX2_flowOf_39 : decode cX2_flowOf 39 = .ok (.aload_n 0, 1) := by decide +kernel
theorem dX2_flowOf_40 : decode cX2_flowOf 40 = .ok (.getfield 7, 3) := by decide +kernel
theorem dX2_flowOf_43 : decode cX2_flowOf 43 = .ok (.bipush 10, 2) := by decide +kernel
theorem dX2_flowOf_45 : decode cX2_flowOf 45 = .ok (.iload 4, 2) := by decide +kernel
theorem dX2_flowOf_47 : decode cX2_flowOf 47 = .ok (.imul, 1) := by decide +kernel
theorem dX2_flowOf_48 : decode cX2_flowOf 48 = .ok (.iload 5, 2) := by decide +kernel
theorem dX2_flowOf_50 : decode cX2_flowOf 50 = .ok (.iadd, 1) := by decide +kernel
theorem dX2_flowOf_51 : decode cX2_flowOf 51 = .ok (.iaload, 1) := by decide +kernel
theorem dX2_flowOf_52 : decode cX2_flowOf 52 = .ok (.aload_n 0, 1) := by decide +kernel
theorem dX2_flowOf_53 : decode cX2_flowOf 53 = .ok (.getfield 19, 3) := by decide +kernel
theorem dX2_flowOf_56 : decode cX2_flowOf 56 = .ok (.iload_n 1, 1) := by decide +kernel
theorem dX2_flowOf_57 : decode cX2_flowOf 57 = .ok (.iaload, 1) := by decide +kernel
theorem dX2_flowOf_58 : decode cX2_flowOf 58 = .ok (.invokestatic 55, 3) := by decide +kernel
theorem dX2_flowOf_61 : decode cX2_flowOf 61 = .ok (.i2l, 1) := by decide +kernel
theorem dX2_flowOf_62 : decode cX2_flowOf 62 = .ok (.aload_n 0, 1) := by decide +kernel
theorem dX2_flowOf_63 : decode cX2_flowOf 63 = .ok (.getfield 16, 3) := by decide +kernel
theorem dX2_flowOf_66 : decode cX2_flowOf 66 = .ok (.iload_n 1, 1) := by decide +kernel
theorem dX2_flowOf_67 : decode cX2_flowOf 67 = .ok (.iaload, 1) := by decide +kernel
theorem dX2_flowOf_68 : decode cX2_flowOf 68 = .ok (.aload_n 0, 1) := by decide +kernel
theorem dX2_flowOf_69 : decode cX2_flowOf 69 = .ok (.getfield 13, 3) := by decide +kernel
theorem dX2_flowOf_72 : decode cX2_flowOf 72 = .ok (.bipush 10, 2) := by decide +kernel
theorem dX2_flowOf_74 : decode cX2_flowOf 74 = .ok (.iload 4, 2) := by decide +kernel
theorem dX2_flowOf_76 : decode cX2_flowOf 76 = .ok (.imul, 1) := by decide +kernel
theorem dX2_flowOf_77 : decode cX2_flowOf 77 = .ok (.iload 5, 2) := by decide +kernel
theorem dX2_flowOf_79 : decode cX2_flowOf 79 = .ok (.iadd, 1) := by decide +kernel
theorem dX2_flowOf_80 : decode cX2_flowOf 80 = .ok (.iaload, 1) := by decide +kernel
theorem dX2_flowOf_81 : decode cX2_flowOf 81 = .ok (.isub, 1) := by decide +kernel
theorem dX2_flowOf_82 : decode cX2_flowOf 82 = .ok (.i2l, 1) := by decide +kernel
theorem dX2_flowOf_83 : decode cX2_flowOf 83 = .ok (.lmul, 1) := by decide +kernel
theorem dX2_flowOf_84 : decode cX2_flowOf 84 = .ok (.ladd, 1) := by decide +kernel
theorem dX2_flowOf_85 : decode cX2_flowOf 85 = .ok (.lstore_n 2, 1) := by decide +kernel
theorem dX2_flowOf_86 : decode cX2_flowOf 86 = .ok (.iinc 5 1, 3) := by decide +kernel
theorem dX2_flowOf_89 : decode cX2_flowOf 89 = .ok (.goto (-72), 3) := by decide +kernel
theorem dX2_flowOf_92 : decode cX2_flowOf 92 = .ok (.iinc 4 1, 3) := by decide +kernel
theorem dX2_flowOf_95 : decode cX2_flowOf 95 = .ok (.goto (-90), 3) := by decide +kernel
theorem dX2_flowOf_98 : decode cX2_flowOf 98 = .ok (.lload_n 2, 1) := by decide +kernel
theorem dX2_flowOf_99 : decode cX2_flowOf 99 = .ok (.lreturn, 1) := by decide +kernel
set_option maxRecDepth 20000 in
theorem ggX2_flow_X2_in : GoodIn wsX2_flow wsX2_in := goodIn_r _ [4] (by decide +kernel) (by decide +kernel)
set_option maxRecDepth 20000 in
theorem gX2_flow_X2_in : GoodIn wsX2_flow (va_wsS RX2 39 yX2_in wsX2_in) := goodIn_app (goodIn_of _ (by decide +kernel)) ggX2_flow_X2_in
set_option maxRecDepth 20000 in
theorem ggX2_flow_X2_may : GoodIn wsX2_flow wsX2_may := goodIn_r _ [8, 9, 52, 53, 54, 55, 56, 57, 58, 59, 60, 61, 62, 63, 64, 65, 66] (by decide +kernel) (by decide +kernel)
set_option maxRecDepth 20000 in
theorem gX2_flow_X2_may : GoodIn wsX2_flow (wsV RX2 47 RX2 yX2_may wsX2_may) := goodIn_app (goodIn_of _ (by decide +kernel)) ggX2_flow_X2_may
set_option maxRecDepth 20000 in
theorem ggX2_flow_X2_settle : GoodIn wsX2_flow wsX2_settle := goodIn_r _ [13, 14, 15, 16, 17, 18, 19, 20, 21, 22, 23, 24, 3, 25, 26, 27, 28, 29, 30, 31, 32, 33, 34, 35, 36, 37, 38, 39, 40, 1, 2, 4, 41, 42, 43, 44, 45, 46, 47, 52, 53, 54, 55, 56, 57, 58, 59, 60, 61, 62, 63, 64, 65, 66] (by decide +kernel) (by decide +kernel)
set_option maxRecDepth 20000 in
theorem gX2_flow_X2_settle : GoodIn wsX2_flow (wsV RX2 87 RX2 yX2_settle wsX2_settle) := goodIn_app (goodIn_of _ (by decide +kernel)) ggX2_flow_X2_settle
set_option maxRecDepth 20000 in
theorem ggX2_flow_X2_flowOf : GoodIn wsX2_flow wsX2_flowOf := goodIn_r _ [51, 21, 20, 26, 17, 18, 19, 44, 45, 46, 3, 47, 41, 42, 43, 52, 53, 54, 55, 56, 57, 58, 59, 60, 61, 62, 63, 64, 65, 66] (by decide +kernel) (by decide +kernel)
set_option maxRecDepth 20000 in
theorem gX2_flow_X2_flowOf : GoodIn wsX2_flow (wsV RX2 93 RX2 yX2_flowOf wsX2_flowOf) := goodIn_app (goodIn_of _ (by decide +kernel)) ggX2_flow_X2_flowOf
theorem dX2_flow_0 : decode cX2_flow 0 = .ok (.aload_n 0, 1) := by decide +kernel
theorem dX2_flow_1 : decode cX2_flow 1 = .ok (.iload_n 1, 1) := by decide +kernel
theorem dX2_flow_2 : decode cX2_flow 2 = .ok (.iconst 0, 1) := by decide +kernel
theorem dX2_flow_3 : decode cX2_flow 3 = .ok (.iconst 3, 1) := by decide +kernel
theorem dX2_flow_4 : decode cX2_flow 4 = .ok (.invokestatic 39, 3) := by decide +kernel
theorem dX2_flow_7 : decode cX2_flow 7 = .ok (.invokevirtual 47, 3) := by decide +kernel
theorem dX2_flow_10 : decode cX2_flow 10 = .ok (.ifCond .ne 5, 3) := by decide +kernel
theorem dX2_flow_13 : decode cX2_flow 13 = .ok (.lconst 0, 1) := by decide +kernel
theorem dX2_flow_14 : decode cX2_flow 14 = .ok (.lreturn, 1) := by decide +kernel
theorem dX2_flow_15 : decode cX2_flow 15 = .ok (.aload_n 0, 1) := by decide +kernel
theorem dX2_flow_16 : decode cX2_flow 16 = .ok (.invokevirtual 87, 3) := by decide +kernel
theorem dX2_flow_19 : decode cX2_flow 19 = .ok (.aload_n 0, 1) := by decide +kernel
theorem dX2_flow_20 : decode cX2_flow 20 = .ok (.iload_n 1, 1) := by decide +kernel
theorem dX2_flow_21 : decode cX2_flow 21 = .ok (.invokevirtual 93, 3) := by decide +kernel
theorem dX2_flow_24 : decode cX2_flow 24 = .ok (.lreturn, 1) := by decide +kernel
set_option maxRecDepth 20000 in
theorem ggX2_heat_X2_settle : GoodIn wsX2_heat wsX2_settle := goodIn_r _ [5, 6, 7, 8, 9, 10, 11, 12, 13, 14, 15, 16, 4, 17, 18, 19, 20, 21, 22, 23, 24, 25, 26, 27, 28, 29, 30, 31, 32, 33, 34, 35, 36, 37, 38, 39, 40, 41, 42, 47, 48, 49, 50, 51, 52, 53, 54, 55, 56, 57, 58, 59, 60, 61] (by decide +kernel) (by decide +kernel)
set_option maxRecDepth 20000 in
theorem gX2_heat_X2_settle : GoodIn wsX2_heat (wsV RX2 87 RX2 yX2_settle wsX2_settle) := goodIn_app (goodIn_of _ (by decide +kernel)) ggX2_heat_X2_settle
set_option maxRecDepth 20000 in
theorem ggX2_heat_X2_flowOf : GoodIn wsX2_heat wsX2_flowOf := goodIn_r _ [46, 13, 12, 18, 9, 10, 11, 39, 40, 41, 4, 42, 36, 37, 38, 47, 48, 49, 50, 51, 52, 53, 54, 55, 56, 57, 58, 59, 60, 61] (by decide +kernel) (by decide +kernel)
set_option maxRecDepth 20000 in
theorem gX2_heat_X2_flowOf : GoodIn wsX2_heat (wsV RX2 93 RX2 yX2_flowOf wsX2_flowOf) := goodIn_app (goodIn_of _ (by decide +kernel)) ggX2_heat_X2_flowOf
theorem dX2_heat_0 : decode cX2_heat 0 = .ok (.aload_n 0, 1) := by decide +kernel
theorem dX2_heat_1 : decode cX2_heat 1 = .ok (.invokevirtual 87, 3) := by decide +kernel
theorem dX2_heat_4 : decode cX2_heat 4 = .ok (.lconst 0, 1) := by decide +kernel
theorem dX2_heat_5 : decode cX2_heat 5 = .ok (.lstore_n 1, 1) := by decide +kernel
theorem dX2_heat_6 : decode cX2_heat 6 = .ok (.iconst 0, 1) := by decide +kernel
theorem dX2_heat_7 : decode cX2_heat 7 = .ok (.istore_n 3, 1) := by decide +kernel
theorem dX2_heat_8 : decode cX2_heat 8 = .ok (.iload_n 3, 1) := by decide +kernel
theorem dX2_heat_9 : decode cX2_heat 9 = .ok (.iconst 4, 1) := by decide +kernel
theorem dX2_heat_10 : decode cX2_heat 10 = .ok (.if_icmp .ge 31, 3) := by decide +kernel
theorem dX2_heat_13 : decode cX2_heat 13 = .ok (.aload_n 0, 1) := by decide +kernel
theorem dX2_heat_14 : decode cX2_heat 14 = .ok (.iload_n 3, 1) := by decide +kernel
theorem dX2_heat_15 : decode cX2_heat 15 = .ok (.invokevirtual 93, 3) := by decide +kernel
theorem dX2_heat_18 : decode cX2_heat 18 = .ok (.lconst 0, 1) := by decide +kernel
theorem dX2_heat_19 : decode cX2_heat 19 = .ok (.lcmp, 1) := by decide +kernel
theorem dX2_heat_20 : decode cX2_heat 20 = .ok (.ifCond .le 13, 3) := by decide +kernel
theorem dX2_heat_23 : decode cX2_heat 23 = .ok (.lload_n 1, 1) := by decide +kernel
theorem dX2_heat_24 : decode cX2_heat 24 = .ok (.aload_n 0, 1) := by decide +kernel
theorem dX2_heat_25 : decode cX2_heat 25 = .ok (.iload_n 3, 1) := by decide +kernel
theorem dX2_heat_26 : decode cX2_heat 26 = .ok (.invokevirtual 93, 3) := by decide +kernel
theorem dX2_heat_29 : decode cX2_heat 29 = .ok (.ladd, 1) := by decide +kernel
theorem dX2_heat_30 : decode cX2_heat 30 = .ok (.goto 4, 3) := by decide +kernel
theorem dX2_heat_33 : decode cX2_heat 33 = .ok (.lload_n 1, 1) := by decide +kernel
theorem dX2_heat_34 : decode cX2_heat 34 = .ok (.lstore_n 1, 1) := by decide +kernel
theorem dX2_heat_35 : decode cX2_heat 35 = .ok (.iinc 3 1, 3) := by decide +kernel
theorem dX2_heat_38 : decode cX2_heat 38 = .ok (.goto (-30), 3) := by decide +kernel
theorem dX2_heat_41 : decode cX2_heat 41 = .ok (.lload_n 1, 1) := by decide +kernel
theorem dX2_heat_42 : decode cX2_heat 42 = .ok (.lreturn, 1) := by decide +kernel
set_option maxRecDepth 20000 in
theorem ggX2_told_X2_in : GoodIn wsX2_told wsX2_in := goodIn_r _ [9] (by decide +kernel) (by decide +kernel)
set_option maxRecDepth 20000 in
theorem gX2_told_X2_in : GoodIn wsX2_told (va_wsS RX2 39 yX2_in wsX2_in) := goodIn_app (goodIn_of _ (by decide +kernel)) ggX2_told_X2_in
set_option maxRecDepth 20000 in
theorem ggX2_told_X2_may : GoodIn wsX2_told wsX2_may := goodIn_r _ [13, 14, 56, 57, 58, 59, 60, 61, 62, 63, 64, 65, 66, 67, 68, 69, 70] (by decide +kernel) (by decide +kernel)
set_option maxRecDepth 20000 in
theorem gX2_told_X2_may : GoodIn wsX2_told (wsV RX2 47 RX2 yX2_may wsX2_may) := goodIn_app (goodIn_of _ (by decide +kernel)) ggX2_told_X2_may
set_option maxRecDepth 20000 in
theorem ggX2_told_X2_heat : GoodIn wsX2_told wsX2_heat := goodIn_r _ [18, 19, 20, 21, 8, 22, 23, 24, 25, 26, 27, 4, 2, 1, 28, 29, 30, 31, 3, 32, 33, 34, 35, 36, 5, 37, 38, 39, 40, 41, 42, 43, 44, 6, 7, 9, 45, 46, 47, 48, 49, 50, 51, 52, 53, 54, 55, 56, 57, 58, 59, 60, 61, 62, 63, 64, 65, 66, 67, 68, 69, 70] (by decide +kernel) (by decide +kernel)
set_option maxRecDepth 20000 in
theorem gX2_told_X2_heat : GoodIn wsX2_told (wsV RX2 97 RX2 yX2_heat wsX2_heat) := goodIn_app (goodIn_of _ (by decide +kernel)) ggX2_told_X2_heat
set_option maxRecDepth 20000 in
theorem ggX2_told_X2_settle : GoodIn wsX2_told wsX2_settle := goodIn_r _ [22, 23, 24, 25, 26, 27, 4, 2, 1, 28, 29, 30, 8, 31, 3, 32, 33, 34, 35, 36, 5, 37, 38, 39, 40, 41, 42, 43, 44, 6, 7, 9, 45, 46, 47, 48, 49, 50, 51, 56, 57, 58, 59, 60, 61, 62, 63, 64, 65, 66, 67, 68, 69, 70] (by decide +kernel) (by decide +kernel)
set_option maxRecDepth 20000 in
theorem gX2_told_X2_settle : GoodIn wsX2_told (wsV RX2 87 RX2 yX2_settle wsX2_settle) := goodIn_app (goodIn_of _ (by decide +kernel)) ggX2_told_X2_settle
set_option maxRecDepth 20000 in
theorem ggX2_told_X2_flowOf : GoodIn wsX2_told wsX2_flowOf := goodIn_r _ [55, 1, 2, 3, 26, 27, 4, 48, 49, 50, 8, 51, 45, 46, 47, 56, 57, 58, 59, 60, 61, 62, 63, 64, 65, 66, 67, 68, 69, 70] (by decide +kernel) (by decide +kernel)
set_option maxRecDepth 20000 in
theorem gX2_told_X2_flowOf : GoodIn wsX2_told (wsV RX2 93 RX2 yX2_flowOf wsX2_flowOf) := goodIn_app (goodIn_of _ (by decide +kernel)) ggX2_told_X2_flowOf
set_option maxRecDepth 20000 in
theorem ggX2_told_X2_made : GoodIn wsX2_told wsX2_made := goodIn_r _ [35, 3, 36, 5, 26, 27, 24, 37, 38, 39, 8, 40, 4, 41, 42, 43, 44, 2, 1, 6, 7, 9, 45, 46, 47, 48, 49, 50, 51, 56, 57, 58, 59, 60, 61, 62, 63, 64, 65, 66, 67, 68, 69, 70] (by decide +kernel) (by decide +kernel)
set_option maxRecDepth 20000 in
theorem gX2_told_X2_made : GoodIn wsX2_told (wsV RX2 76 RX2 yX2_made wsX2_made) := goodIn_app (goodIn_of _ (by decide +kernel)) ggX2_told_X2_made
theorem dX2_told_0 : decode cX2_told 0 = .ok (.aload_n 0, 1) := by decide +kernel
theorem dX2_told_1 : decode cX2_told 1 = .ok (.iload_n 1, 1) := by decide +kernel
theorem dX2_told_2 : decode cX2_told 2 = .ok (.iconst 0, 1) := by decide +kernel
theorem dX2_told_3 : decode cX2_told 3 = .ok (.iconst 3, 1) := by decide +kernel
theorem dX2_told_4 : decode cX2_told 4 = .ok (.invokestatic 39, 3) := by decide +kernel
theorem dX2_told_7 : decode cX2_told 7 = .ok (.invokevirtual 47, 3) := by decide +kernel
theorem dX2_told_10 : decode cX2_told 10 = .ok (.ifCond .ne 5, 3) := by decide +kernel
theorem dX2_told_13 : decode cX2_told 13 = .ok (.lconst 0, 1) := by decide +kernel
theorem dX2_told_14 : decode cX2_told 14 = .ok (.lreturn, 1) := by decide +kernel
theorem dX2_told_15 : decode cX2_told 15 = .ok (.iload_n 1, 1) := by decide +kernel
theorem dX2_told_16 : decode cX2_told 16 = .ok (.ifCond .ne 8, 3) := by decide +kernel
theorem dX2_told_19 : decode cX2_told 19 = .ok (.aload_n 0, 1) := by decide +kernel
theorem dX2_told_20 : decode cX2_told 20 = .ok (.invokevirtual 97, 3) := by decide +kernel
theorem dX2_told_23 : decode cX2_told 23 = .ok (.lreturn, 1) := by decide +kernel
theorem dX2_told_24 : decode cX2_told 24 = .ok (.aload_n 0, 1) := by decide +kernel
theorem dX2_told_25 : decode cX2_told 25 = .ok (.invokevirtual 87, 3) := by decide +kernel
theorem dX2_told_28 : decode cX2_told 28 = .ok (.iload_n 1, 1) := by decide +kernel
theorem dX2_told_29 : decode cX2_told 29 = .ok (.iconst 1, 1) := by decide +kernel
theorem dX2_told_30 : decode cX2_told 30 = .ok (.if_icmp .ne 27, 3) := by decide +kernel
theorem dX2_told_33 : decode cX2_told 33 = .ok (.aload_n 0, 1) := by decide +kernel
theorem dX2_told_34 : decode cX2_told 34 = .ok (.iconst 0, 1) := by decide +kernel
theorem dX2_told_35 : decode cX2_told 35 = .ok (.invokevirtual 93, 3) := by decide +kernel
theorem dX2_told_38 : decode cX2_told 38 = .ok (.aload_n 0, 1) := by decide +kernel
theorem dX2_told_39 : decode cX2_told 39 = .ok (.iconst 1, 1) := by decide +kernel
theorem dX2_told_40 : decode cX2_told 40 = .ok (.invokevirtual 93, 3) := by decide +kernel
theorem dX2_told_43 : decode cX2_told 43 = .ok (.ladd, 1) := by decide +kernel
theorem dX2_told_44 : decode cX2_told 44 = .ok (.aload_n 0, 1) := by decide +kernel
theorem dX2_told_45 : decode cX2_told 45 = .ok (.iconst 2, 1) := by decide +kernel
theorem dX2_told_46 : decode cX2_told 46 = .ok (.invokevirtual 93, 3) := by decide +kernel
theorem dX2_told_49 : decode cX2_told 49 = .ok (.ladd, 1) := by decide +kernel
theorem dX2_told_50 : decode cX2_told 50 = .ok (.aload_n 0, 1) := by decide +kernel
theorem dX2_told_51 : decode cX2_told 51 = .ok (.iconst 3, 1) := by decide +kernel
theorem dX2_told_52 : decode cX2_told 52 = .ok (.invokevirtual 93, 3) := by decide +kernel
theorem dX2_told_55 : decode cX2_told 55 = .ok (.ladd, 1) := by decide +kernel
theorem dX2_told_56 : decode cX2_told 56 = .ok (.lreturn, 1) := by decide +kernel
theorem dX2_told_57 : decode cX2_told 57 = .ok (.lconst 0, 1) := by decide +kernel
theorem dX2_told_58 : decode cX2_told 58 = .ok (.lstore_n 2, 1) := by decide +kernel
theorem dX2_told_59 : decode cX2_told 59 = .ok (.iconst 0, 1) := by decide +kernel
theorem dX2_told_60 : decode cX2_told 60 = .ok (.istore 4, 2) := by decide +kernel
theorem dX2_told_62 : decode cX2_told 62 = .ok (.iconst 0, 1) := by decide +kernel
theorem dX2_told_63 : decode cX2_told 63 = .ok (.istore 5, 2) := by decide +kernel
theorem dX2_told_65 : decode cX2_told 65 = .ok (.iload 5, 2) := by decide +kernel
theorem dX2_told_67 : decode cX2_told 67 = .ok (.aload_n 0, 1) := by decide +kernel
theorem dX2_told_68 : decode cX2_told 68 = .ok (.getfield 33, 3) := by decide +kernel
theorem dX2_told_71 : decode cX2_told 71 = .ok (.if_icmp .ge 89, 3) := by decide +kernel
theorem dX2_told_74 : decode cX2_told 74 = .ok (.iconst 0, 1) := by decide +kernel
theorem dX2_told_75 : decode cX2_told 75 = .ok (.istore 6, 2) := by decide +kernel
theorem dX2_told_77 : decode cX2_told 77 = .ok (.iload 6, 2) := by decide +kernel
theorem dX2_told_79 : decode cX2_told 79 = .ok (.aload_n 0, 1) := by decide +kernel
theorem dX2_told_80 : decode cX2_told 80 = .ok (.getfield 29, 3) := by decide +kernel
theorem dX2_told_83 : decode cX2_told 83 = .ok (.if_icmp .ge 71, 3) := by decide +kernel
theorem dX2_told_86 : decode cX2_told 86 = .ok (.aload_n 0, 1) := by decide +kernel
theorem dX2_told_87 : decode cX2_told 87 = .ok (.getfield 7, 3) := by decide +kernel
theorem dX2_told_90 : decode cX2_told 90 = .ok (.bipush 10, 2) := by decide +kernel
theorem dX2_told_92 : decode cX2_told 92 = .ok (.iload 5, 2) := by decide +kernel
theorem dX2_told_94 : decode cX2_told 94 = .ok (.imul, 1) := by decide +kernel
theorem dX2_told_95 : decode cX2_told 95 = .ok (.iload 6, 2) := by decide +kernel
theorem dX2_told_97 : decode cX2_told 97 = .ok (.iadd, 1) := by decide +kernel
theorem dX2_told_98 : decode cX2_told 98 = .ok (.iaload, 1) := by decide +kernel
theorem dX2_told_99 : decode cX2_told 99 = .ok (.ifCond .le 49, 3) := by decide +kernel
theorem dX2_told_102 : decode cX2_told 102 = .ok (.lload_n 2, 1) := by decide +kernel
theorem dX2_told_103 : decode cX2_told 103 = .ok (.aload_n 0, 1) := by decide +kernel
theorem dX2_told_104 : decode cX2_told 104 = .ok (.getfield 13, 3) := by decide +kernel
theorem dX2_told_107 : decode cX2_told 107 = .ok (.bipush 10, 2) := by decide +kernel
theorem dX2_told_109 : decode cX2_told 109 = .ok (.iload 5, 2) := by decide +kernel
theorem dX2_told_111 : decode cX2_told 111 = .ok (.imul, 1) := by decide +kernel
theorem dX2_told_112 : decode cX2_told 112 = .ok (.iload 6, 2) := by decide +kernel
theorem dX2_told_114 : decode cX2_told 114 = .ok (.iadd, 1) := by decide +kernel
theorem dX2_told_115 : decode cX2_told 115 = .ok (.iaload, 1) := by decide +kernel
theorem dX2_told_116 : decode cX2_told 116 = .ok (.i2l, 1) := by decide +kernel
theorem dX2_told_117 : decode cX2_told 117 = .ok (.ladd, 1) := by decide +kernel
theorem dX2_told_118 : decode cX2_told 118 = .ok (.lstore_n 2, 1) := by decide +kernel
theorem dX2_told_119 : decode cX2_told 119 = .ok (.aload_n 0, 1) := by decide +kernel
theorem dX2_told_120 : decode cX2_told 120 = .ok (.iload 6, 2) := by decide +kernel
theorem dX2_told_122 : decode cX2_told 122 = .ok (.iload 5, 2) := by decide +kernel
theorem dX2_told_124 : decode cX2_told 124 = .ok (.invokevirtual 76, 3) := by decide +kernel
theorem dX2_told_127 : decode cX2_told 127 = .ok (.pop, 1) := by decide +kernel
theorem dX2_told_128 : decode cX2_told 128 = .ok (.aload_n 0, 1) := by decide +kernel
theorem dX2_told_129 : decode cX2_told 129 = .ok (.getfield 63, 3) := by decide +kernel
theorem dX2_told_132 : decode cX2_told 132 = .ok (.lconst 0, 1) := by decide +kernel
theorem dX2_told_133 : decode cX2_told 133 = .ok (.lcmp, 1) := by decide +kernel
theorem dX2_told_134 : decode cX2_told 134 = .ok (.ifCond .ne 10, 3) := by decide +kernel
theorem dX2_told_137 : decode cX2_told 137 = .ok (.iload 4, 2) := by decide +kernel
theorem dX2_told_139 : decode cX2_told 139 = .ok (.iconst 1, 1) := by decide +kernel
theorem dX2_told_140 : decode cX2_told 140 = .ok (.iadd, 1) := by decide +kernel
theorem dX2_told_141 : decode cX2_told 141 = .ok (.goto 5, 3) := by decide +kernel
theorem dX2_told_144 : decode cX2_told 144 = .ok (.iload 4, 2) := by decide +kernel
theorem dX2_told_146 : decode cX2_told 146 = .ok (.istore 4, 2) := by decide +kernel
theorem dX2_told_148 : decode cX2_told 148 = .ok (.iinc 6 1, 3) := by decide +kernel
theorem dX2_told_151 : decode cX2_told 151 = .ok (.goto (-74), 3) := by decide +kernel
theorem dX2_told_154 : decode cX2_told 154 = .ok (.iinc 5 1, 3) := by decide +kernel
theorem dX2_told_157 : decode cX2_told 157 = .ok (.goto (-92), 3) := by decide +kernel
theorem dX2_told_160 : decode cX2_told 160 = .ok (.iload_n 1, 1) := by decide +kernel
theorem dX2_told_161 : decode cX2_told 161 = .ok (.iconst 2, 1) := by decide +kernel
theorem dX2_told_162 : decode cX2_told 162 = .ok (.if_icmp .ne 7, 3) := by decide +kernel
theorem dX2_told_165 : decode cX2_told 165 = .ok (.lload_n 2, 1) := by decide +kernel
theorem dX2_told_166 : decode cX2_told 166 = .ok (.goto 6, 3) := by decide +kernel
theorem dX2_told_169 : decode cX2_told 169 = .ok (.iload 4, 2) := by decide +kernel
theorem dX2_told_171 : decode cX2_told 171 = .ok (.i2l, 1) := by decide +kernel
theorem dX2_told_172 : decode cX2_told 172 = .ok (.lreturn, 1) := by decide +kernel
set_option maxRecDepth 20000 in
theorem ggX2_coldest_X2_settle : GoodIn wsX2_coldest wsX2_settle := goodIn_r _ [8, 9, 10, 11, 12, 13, 14, 1, 2, 15, 16, 17, 7, 18, 19, 20, 21, 22, 23, 24, 25, 26, 27, 28, 29, 30, 31, 32, 33, 34, 35, 36, 37, 38, 39, 40, 41, 42, 43, 52, 53, 54, 55, 56, 57, 58, 59, 60, 61, 62, 63, 64, 65, 66] (by decide +kernel) (by decide +kernel)
set_option maxRecDepth 20000 in
theorem gX2_coldest_X2_settle : GoodIn wsX2_coldest (wsV RX2 87 RX2 yX2_settle wsX2_settle) := goodIn_app (goodIn_of _ (by decide +kernel)) ggX2_coldest_X2_settle
set_option maxRecDepth 20000 in
theorem ggX2_coldest_X2_faceOf : GoodIn wsX2_coldest wsX2_faceOf := goodIn_r _ [47, 1, 2, 48, 49, 50, 7, 51, 19, 14, 3, 52, 53, 54, 55, 56, 57, 58, 59, 60, 61, 62, 63, 64, 65, 66] (by decide +kernel) (by decide +kernel)
set_option maxRecDepth 20000 in
theorem gX2_coldest_X2_faceOf : GoodIn wsX2_coldest (wsV RX2 101 RX2 yX2_faceOf wsX2_faceOf) := goodIn_app (goodIn_of _ (by decide +kernel)) ggX2_coldest_X2_faceOf
theorem dX2_coldest_0 : decode cX2_coldest 0 = .ok (.aload_n 0, 1) := by decide +kernel
theorem dX2_coldest_1 : decode cX2_coldest 1 = .ok (.invokevirtual 87, 3) := by decide +kernel
theorem dX2_coldest_4 : decode cX2_coldest 4 = .ok (.iload_n 1, 1) := by decide +kernel
theorem dX2_coldest_5 : decode cX2_coldest 5 = .ok (.iconst 2, 1) := by decide +kernel
theorem dX2_coldest_6 : decode cX2_coldest 6 = .ok (.irem, 1) := by decide +kernel
theorem dX2_coldest_7 : decode cX2_coldest 7 = .ok (.ifCond .ne 10, 3) := by decide +kernel
theorem dX2_coldest_10 : decode cX2_coldest 10 = .ok (.aload_n 0, 1) := by decide +kernel
theorem dX2_coldest_11 : decode cX2_coldest 11 = .ok (.getfield 29, 3) := by decide +kernel
theorem dX2_coldest_14 : decode cX2_coldest 14 = .ok (.goto 7, 3) := by decide +kernel
theorem dX2_coldest_17 : decode cX2_coldest 17 = .ok (.aload_n 0, 1) := by decide +kernel
theorem dX2_coldest_18 : decode cX2_coldest 18 = .ok (.getfield 33, 3) := by decide +kernel
theorem dX2_coldest_21 : decode cX2_coldest 21 = .ok (.istore_n 2, 1) := by decide +kernel
theorem dX2_coldest_22 : decode cX2_coldest 22 = .ok (.iconst (-1), 1) := by decide +kernel
theorem dX2_coldest_23 : decode cX2_coldest 23 = .ok (.istore_n 3, 1) := by decide +kernel
theorem dX2_coldest_24 : decode cX2_coldest 24 = .ok (.iconst 0, 1) := by decide +kernel
theorem dX2_coldest_25 : decode cX2_coldest 25 = .ok (.istore 4, 2) := by decide +kernel
theorem dX2_coldest_27 : decode cX2_coldest 27 = .ok (.iload 4, 2) := by decide +kernel
theorem dX2_coldest_29 : decode cX2_coldest 29 = .ok (.iload_n 2, 1) := by decide +kernel
theorem dX2_coldest_30 : decode cX2_coldest 30 = .ok (.if_icmp .ge 44, 3) := by decide +kernel
theorem dX2_coldest_33 : decode cX2_coldest 33 = .ok (.aload_n 0, 1) := by decide +kernel
theorem dX2_coldest_34 : decode cX2_coldest 34 = .ok (.iload_n 1, 1) := by decide +kernel
theorem dX2_coldest_35 : decode cX2_coldest 35 = .ok (.iload 4, 2) := by decide +kernel
theorem dX2_coldest_37 : decode cX2_coldest 37 = .ok (.invokevirtual 101, 3) := by decide +kernel
theorem dX2_coldest_40 : decode cX2_coldest 40 = .ok (.ldc 86, 2) := by decide +kernel
theorem dX2_coldest_42 : decode cX2_coldest 42 = .ok (.if_icmp .eq 26, 3) := by decide +kernel
theorem dX2_coldest_45 : decode cX2_coldest 45 = .ok (.iload_n 3, 1) := by decide +kernel
theorem dX2_coldest_46 : decode cX2_coldest 46 = .ok (.ifCond .lt 19, 3) := by decide +kernel
theorem dX2_coldest_49 : decode cX2_coldest 49 = .ok (.aload_n 0, 1) := by decide +kernel
theorem dX2_coldest_50 : decode cX2_coldest 50 = .ok (.iload_n 1, 1) := by decide +kernel
theorem dX2_coldest_51 : decode cX2_coldest 51 = .ok (.iload 4, 2) := by decide +kernel
theorem dX2_coldest_53 : decode cX2_coldest 53 = .ok (.invokevirtual 101, 3) := by decide +kernel
theorem dX2_coldest_56 : decode cX2_coldest 56 = .ok (.aload_n 0, 1) := by decide +kernel
theorem dX2_coldest_57 : decode cX2_coldest 57 = .ok (.iload_n 1, 1) := by decide +kernel
theorem dX2_coldest_58 : decode cX2_coldest 58 = .ok (.iload_n 3, 1) := by decide +kernel
theorem dX2_coldest_59 : decode cX2_coldest 59 = .ok (.invokevirtual 101, 3) := by decide +kernel
theorem dX2_coldest_62 : decode cX2_coldest 62 = .ok (.if_icmp .ge 6, 3) := by decide +kernel
theorem dX2_coldest_65 : decode cX2_coldest 65 = .ok (.iload 4, 2) := by decide +kernel
theorem dX2_coldest_67 : decode cX2_coldest 67 = .ok (.istore_n 3, 1) := by decide +kernel
theorem dX2_coldest_68 : decode cX2_coldest 68 = .ok (.iinc 4 1, 3) := by decide +kernel
theorem dX2_coldest_71 : decode cX2_coldest 71 = .ok (.goto (-44), 3) := by decide +kernel
theorem dX2_coldest_74 : decode cX2_coldest 74 = .ok (.iload_n 3, 1) := by decide +kernel
theorem dX2_coldest_75 : decode cX2_coldest 75 = .ok (.ireturn, 1) := by decide +kernel
set_option maxRecDepth 20000 in
theorem ggX2_faceOf_X2_warmthOf : GoodIn wsX2_faceOf wsX2_warmthOf := goodIn_r _ [7, 8, 9, 10, 11, 12, 13, 14, 15, 16, 17, 18, 19, 20, 21, 22, 23, 24, 25] (by decide +kernel) (by decide +kernel)
set_option maxRecDepth 20000 in
theorem gX2_faceOf_X2_warmthOf : GoodIn wsX2_faceOf (wsV RX2 90 RX2 yX2_warmthOf wsX2_warmthOf) := goodIn_app (goodIn_of _ (by decide +kernel)) ggX2_faceOf_X2_warmthOf
theorem dX2_faceOf_0 : decode cX2_faceOf 0 = .ok (.iload_n 1, 1) := by decide +kernel
theorem dX2_faceOf_1 : decode cX2_faceOf 1 = .ok (.ifCond .ne 12, 3) := by decide +kernel
theorem dX2_faceOf_4 : decode cX2_faceOf 4 = .ok (.aload_n 0, 1) := by decide +kernel
theorem dX2_faceOf_5 : decode cX2_faceOf 5 = .ok (.iload_n 2, 1) := by decide +kernel
theorem dX2_faceOf_6 : decode cX2_faceOf 6 = .ok (.iconst 0, 1) := by decide +kernel
theorem dX2_faceOf_7 : decode cX2_faceOf 7 = .ok (.invokevirtual 90, 3) := by decide +kernel
theorem dX2_faceOf_10 : decode cX2_faceOf 10 = .ok (.goto 47, 3) := by decide +kernel
theorem dX2_faceOf_13 : decode cX2_faceOf 13 = .ok (.iload_n 1, 1) := by decide +kernel
theorem dX2_faceOf_14 : decode cX2_faceOf 14 = .ok (.iconst 1, 1) := by decide +kernel
theorem dX2_faceOf_15 : decode cX2_faceOf 15 = .ok (.if_icmp .ne 17, 3) := by decide +kernel
theorem dX2_faceOf_18 : decode cX2_faceOf 18 = .ok (.aload_n 0, 1) := by decide +kernel
theorem dX2_faceOf_19 : decode cX2_faceOf 19 = .ok (.aload_n 0, 1) := by decide +kernel
theorem dX2_faceOf_20 : decode cX2_faceOf 20 = .ok (.getfield 29, 3) := by decide +kernel
theorem dX2_faceOf_23 : decode cX2_faceOf 23 = .ok (.iconst 1, 1) := by decide +kernel
theorem dX2_faceOf_24 : decode cX2_faceOf 24 = .ok (.isub, 1) := by decide +kernel
theorem dX2_faceOf_25 : decode cX2_faceOf 25 = .ok (.iload_n 2, 1) := by decide +kernel
theorem dX2_faceOf_26 : decode cX2_faceOf 26 = .ok (.invokevirtual 90, 3) := by decide +kernel
theorem dX2_faceOf_29 : decode cX2_faceOf 29 = .ok (.goto 28, 3) := by decide +kernel
theorem dX2_faceOf_32 : decode cX2_faceOf 32 = .ok (.iload_n 1, 1) := by decide +kernel
theorem dX2_faceOf_33 : decode cX2_faceOf 33 = .ok (.iconst 2, 1) := by decide +kernel
theorem dX2_faceOf_34 : decode cX2_faceOf 34 = .ok (.if_icmp .ne 17, 3) := by decide +kernel
theorem dX2_faceOf_37 : decode cX2_faceOf 37 = .ok (.aload_n 0, 1) := by decide +kernel
theorem dX2_faceOf_38 : decode cX2_faceOf 38 = .ok (.iload_n 2, 1) := by decide +kernel
theorem dX2_faceOf_39 : decode cX2_faceOf 39 = .ok (.aload_n 0, 1) := by decide +kernel
theorem dX2_faceOf_40 : decode cX2_faceOf 40 = .ok (.getfield 33, 3) := by decide +kernel
theorem dX2_faceOf_43 : decode cX2_faceOf 43 = .ok (.iconst 1, 1) := by decide +kernel
theorem dX2_faceOf_44 : decode cX2_faceOf 44 = .ok (.isub, 1) := by decide +kernel
theorem dX2_faceOf_45 : decode cX2_faceOf 45 = .ok (.invokevirtual 90, 3) := by decide +kernel
theorem dX2_faceOf_48 : decode cX2_faceOf 48 = .ok (.goto 9, 3) := by decide +kernel
theorem dX2_faceOf_51 : decode cX2_faceOf 51 = .ok (.aload_n 0, 1) := by decide +kernel
theorem dX2_faceOf_52 : decode cX2_faceOf 52 = .ok (.iconst 0, 1) := by decide +kernel
theorem dX2_faceOf_53 : decode cX2_faceOf 53 = .ok (.iload_n 2, 1) := by decide +kernel
theorem dX2_faceOf_54 : decode cX2_faceOf 54 = .ok (.invokevirtual 90, 3) := by decide +kernel
theorem dX2_faceOf_57 : decode cX2_faceOf 57 = .ok (.ireturn, 1) := by decide +kernel
set_option maxRecDepth 20000 in
theorem ggX2_least_X2_in : GoodIn wsX2_least wsX2_in := goodIn_r _ [5] (by decide +kernel) (by decide +kernel)
set_option maxRecDepth 20000 in
theorem gX2_least_X2_in : GoodIn wsX2_least (va_wsS RX2 39 yX2_in wsX2_in) := goodIn_app (goodIn_of _ (by decide +kernel)) ggX2_least_X2_in
set_option maxRecDepth 20000 in
theorem ggX2_least_X2_may : GoodIn wsX2_least wsX2_may := goodIn_r _ [9, 10, 61, 62, 63, 64, 65, 66, 67, 68, 69, 70, 71, 72, 73, 74, 75] (by decide +kernel) (by decide +kernel)
set_option maxRecDepth 20000 in
theorem gX2_least_X2_may : GoodIn wsX2_least (wsV RX2 47 RX2 yX2_may wsX2_may) := goodIn_app (goodIn_of _ (by decide +kernel)) ggX2_least_X2_may
set_option maxRecDepth 20000 in
theorem ggX2_least_X2_coldest : GoodIn wsX2_least wsX2_coldest := goodIn_r _ [14, 15, 16, 1, 17, 18, 19, 4, 20, 21, 22, 23, 24, 25, 26, 27, 28, 29, 30, 31, 32, 33, 34, 35, 36, 37, 38, 39, 40, 41, 42, 43, 44, 45, 2, 3, 5, 46, 47, 48, 49, 50, 51, 52, 53, 54, 55, 56, 57, 58, 59, 60, 61, 62, 63, 64, 65, 66, 67, 68, 69, 70, 71, 72, 73, 74, 75] (by decide +kernel) (by decide +kernel)
set_option maxRecDepth 20000 in
theorem gX2_least_X2_coldest : GoodIn wsX2_least (wsV RX2 104 RX2 yX2_coldest wsX2_coldest) := goodIn_app (goodIn_of _ (by decide +kernel)) ggX2_least_X2_coldest
set_option maxRecDepth 20000 in
theorem ggX2_least_X2_faceOf : GoodIn wsX2_least wsX2_faceOf := goodIn_r _ [56, 15, 16, 57, 58, 59, 4, 60, 31, 26, 1, 61, 62, 63, 64, 65, 66, 67, 68, 69, 70, 71, 72, 73, 74, 75] (by decide +kernel) (by decide +kernel)
set_option maxRecDepth 20000 in
theorem gX2_least_X2_faceOf : GoodIn wsX2_least (wsV RX2 101 RX2 yX2_faceOf wsX2_faceOf) := goodIn_app (goodIn_of _ (by decide +kernel)) ggX2_least_X2_faceOf
theorem dX2_least_0 : decode cX2_least 0 = .ok (.aload_n 0, 1) := by decide +kernel
theorem dX2_least_1 : decode cX2_least 1 = .ok (.iload_n 1, 1) := by decide +kernel
theorem dX2_least_2 : decode cX2_least 2 = .ok (.iconst 0, 1) := by decide +kernel
theorem dX2_least_3 : decode cX2_least 3 = .ok (.iconst 3, 1) := by decide +kernel
theorem dX2_least_4 : decode cX2_least 4 = .ok (.invokestatic 39, 3) := by decide +kernel
theorem dX2_least_7 : decode cX2_least 7 = .ok (.ifCond .eq 16, 3) := by decide +kernel
theorem dX2_least_10 : decode cX2_least 10 = .ok (.iload_n 2, 1) := by decide +kernel
theorem dX2_least_11 : decode cX2_least 11 = .ok (.iconst 0, 1) := by decide +kernel
theorem dX2_least_12 : decode cX2_least 12 = .ok (.iconst 1, 1) := by decide +kernel
theorem dX2_least_13 : decode cX2_least 13 = .ok (.invokestatic 39, 3) := by decide +kernel
theorem dX2_least_16 : decode cX2_least 16 = .ok (.ifCond .eq 7, 3) := by decide +kernel
theorem dX2_least_19 : decode cX2_least 19 = .ok (.iconst 1, 1) := by decide +kernel
theorem dX2_least_20 : decode cX2_least 20 = .ok (.goto 4, 3) := by decide +kernel
theorem dX2_least_23 : decode cX2_least 23 = .ok (.iconst 0, 1) := by decide +kernel
theorem dX2_least_24 : decode cX2_least 24 = .ok (.invokevirtual 47, 3) := by decide +kernel
theorem dX2_least_27 : decode cX2_least 27 = .ok (.ifCond .ne 5, 3) := by decide +kernel
theorem dX2_least_30 : decode cX2_least 30 = .ok (.iconst 0, 1) := by decide +kernel
theorem dX2_least_31 : decode cX2_least 31 = .ok (.ireturn, 1) := by decide +kernel
theorem dX2_least_32 : decode cX2_least 32 = .ok (.aload_n 0, 1) := by decide +kernel
theorem dX2_least_33 : decode cX2_least 33 = .ok (.iload_n 1, 1) := by decide +kernel
theorem dX2_least_34 : decode cX2_least 34 = .ok (.invokevirtual 104, 3) := by decide +kernel
theorem dX2_least_37 : decode cX2_least 37 = .ok (.istore_n 3, 1) := by decide +kernel
theorem dX2_least_38 : decode cX2_least 38 = .ok (.iload_n 3, 1) := by decide +kernel
theorem dX2_least_39 : decode cX2_least 39 = .ok (.ifCond .ge 8, 3) := by decide +kernel
theorem dX2_least_42 : decode cX2_least 42 = .ok (.ldc 86, 2) := by decide +kernel
theorem dX2_least_44 : decode cX2_least 44 = .ok (.goto 17, 3) := by decide +kernel
theorem dX2_least_47 : decode cX2_least 47 = .ok (.iload_n 2, 1) := by decide +kernel
theorem dX2_least_48 : decode cX2_least 48 = .ok (.ifCond .ne 12, 3) := by decide +kernel
theorem dX2_least_51 : decode cX2_least 51 = .ok (.aload_n 0, 1) := by decide +kernel
theorem dX2_least_52 : decode cX2_least 52 = .ok (.iload_n 1, 1) := by decide +kernel
theorem dX2_least_53 : decode cX2_least 53 = .ok (.iload_n 3, 1) := by decide +kernel
theorem dX2_least_54 : decode cX2_least 54 = .ok (.invokevirtual 101, 3) := by decide +kernel
theorem dX2_least_57 : decode cX2_least 57 = .ok (.goto 4, 3) := by decide +kernel
theorem dX2_least_60 : decode cX2_least 60 = .ok (.iload_n 3, 1) := by decide +kernel
theorem dX2_least_61 : decode cX2_least 61 = .ok (.ireturn, 1) := by decide +kernel
set_option maxRecDepth 20000 in
theorem ggX2_factor_X2_in : GoodIn wsX2_factor wsX2_in := goodIn_r _ [6] (by decide +kernel) (by decide +kernel)
set_option maxRecDepth 20000 in
theorem gX2_factor_X2_in : GoodIn wsX2_factor (va_wsS RX2 39 yX2_in wsX2_in) := goodIn_app (goodIn_of _ (by decide +kernel)) ggX2_factor_X2_in
set_option maxRecDepth 20000 in
theorem ggX2_factor_X2_may : GoodIn wsX2_factor wsX2_may := goodIn_r _ [10, 11, 61, 62, 63, 64, 65, 66, 67, 68, 69, 70, 71, 72, 73, 74, 75] (by decide +kernel) (by decide +kernel)
set_option maxRecDepth 20000 in
theorem gX2_factor_X2_may : GoodIn wsX2_factor (wsV RX2 47 RX2 yX2_may wsX2_may) := goodIn_app (goodIn_of _ (by decide +kernel)) ggX2_factor_X2_may
set_option maxRecDepth 20000 in
theorem ggX2_factor_X2_coldest : GoodIn wsX2_factor wsX2_coldest := goodIn_r _ [15, 16, 17, 18, 19, 20, 21, 5, 22, 23, 1, 2, 24, 25, 26, 27, 28, 29, 30, 31, 32, 33, 34, 35, 36, 37, 38, 39, 40, 41, 42, 43, 44, 45, 3, 4, 6, 46, 47, 48, 49, 50, 51, 52, 53, 54, 55, 56, 57, 58, 59, 60, 61, 62, 63, 64, 65, 66, 67, 68, 69, 70, 71, 72, 73, 74, 75] (by decide +kernel) (by decide +kernel)
set_option maxRecDepth 20000 in
theorem gX2_factor_X2_coldest : GoodIn wsX2_factor (wsV RX2 104 RX2 yX2_coldest wsX2_coldest) := goodIn_app (goodIn_of _ (by decide +kernel)) ggX2_factor_X2_coldest
set_option maxRecDepth 20000 in
theorem ggX2_factor_X2_faceOf : GoodIn wsX2_factor wsX2_faceOf := goodIn_r _ [56, 16, 17, 57, 58, 59, 5, 60, 31, 26, 18, 61, 62, 63, 64, 65, 66, 67, 68, 69, 70, 71, 72, 73, 74, 75] (by decide +kernel) (by decide +kernel)
set_option maxRecDepth 20000 in
theorem gX2_factor_X2_faceOf : GoodIn wsX2_factor (wsV RX2 101 RX2 yX2_faceOf wsX2_faceOf) := goodIn_app (goodIn_of _ (by decide +kernel)) ggX2_factor_X2_faceOf
theorem dX2_factor_0 : decode cX2_factor 0 = .ok (.aload_n 0, 1) := by decide +kernel
theorem dX2_factor_1 : decode cX2_factor 1 = .ok (.iload_n 1, 1) := by decide +kernel
theorem dX2_factor_2 : decode cX2_factor 2 = .ok (.iconst 0, 1) := by decide +kernel
theorem dX2_factor_3 : decode cX2_factor 3 = .ok (.iconst 3, 1) := by decide +kernel
theorem dX2_factor_4 : decode cX2_factor 4 = .ok (.invokestatic 39, 3) := by decide +kernel
theorem dX2_factor_7 : decode cX2_factor 7 = .ok (.ifCond .eq 16, 3) := by decide +kernel
theorem dX2_factor_10 : decode cX2_factor 10 = .ok (.iload_n 2, 1) := by decide +kernel
theorem dX2_factor_11 : decode cX2_factor 11 = .ok (.iconst 0, 1) := by decide +kernel
theorem dX2_factor_12 : decode cX2_factor 12 = .ok (.iconst 1, 1) := by decide +kernel
theorem dX2_factor_13 : decode cX2_factor 13 = .ok (.invokestatic 39, 3) := by decide +kernel
theorem dX2_factor_16 : decode cX2_factor 16 = .ok (.ifCond .eq 7, 3) := by decide +kernel
theorem dX2_factor_19 : decode cX2_factor 19 = .ok (.iconst 1, 1) := by decide +kernel
theorem dX2_factor_20 : decode cX2_factor 20 = .ok (.goto 4, 3) := by decide +kernel
theorem dX2_factor_23 : decode cX2_factor 23 = .ok (.iconst 0, 1) := by decide +kernel
theorem dX2_factor_24 : decode cX2_factor 24 = .ok (.invokevirtual 47, 3) := by decide +kernel
theorem dX2_factor_27 : decode cX2_factor 27 = .ok (.ifCond .ne 5, 3) := by decide +kernel
theorem dX2_factor_30 : decode cX2_factor 30 = .ok (.iconst 0, 1) := by decide +kernel
theorem dX2_factor_31 : decode cX2_factor 31 = .ok (.ireturn, 1) := by decide +kernel
theorem dX2_factor_32 : decode cX2_factor 32 = .ok (.aload_n 0, 1) := by decide +kernel
theorem dX2_factor_33 : decode cX2_factor 33 = .ok (.iload_n 1, 1) := by decide +kernel
theorem dX2_factor_34 : decode cX2_factor 34 = .ok (.invokevirtual 104, 3) := by decide +kernel
theorem dX2_factor_37 : decode cX2_factor 37 = .ok (.istore_n 3, 1) := by decide +kernel
theorem dX2_factor_38 : decode cX2_factor 38 = .ok (.iload_n 3, 1) := by decide +kernel
theorem dX2_factor_39 : decode cX2_factor 39 = .ok (.ifCond .ge 7, 3) := by decide +kernel
theorem dX2_factor_42 : decode cX2_factor 42 = .ok (.iconst 0, 1) := by decide +kernel
theorem dX2_factor_43 : decode cX2_factor 43 = .ok (.goto 14, 3) := by decide +kernel
theorem dX2_factor_46 : decode cX2_factor 46 = .ok (.aload_n 0, 1) := by decide +kernel
theorem dX2_factor_47 : decode cX2_factor 47 = .ok (.iload_n 1, 1) := by decide +kernel
theorem dX2_factor_48 : decode cX2_factor 48 = .ok (.iload_n 3, 1) := by decide +kernel
theorem dX2_factor_49 : decode cX2_factor 49 = .ok (.invokevirtual 101, 3) := by decide +kernel
theorem dX2_factor_52 : decode cX2_factor 52 = .ok (.aload_n 0, 1) := by decide +kernel
theorem dX2_factor_53 : decode cX2_factor 53 = .ok (.getfield 73, 3) := by decide +kernel
theorem dX2_factor_56 : decode cX2_factor 56 = .ok (.isub, 1) := by decide +kernel
theorem dX2_factor_57 : decode cX2_factor 57 = .ok (.istore 4, 2) := by decide +kernel
theorem dX2_factor_59 : decode cX2_factor 59 = .ok (.iload_n 3, 1) := by decide +kernel
theorem dX2_factor_60 : decode cX2_factor 60 = .ok (.ifCond .lt 14, 3) := by decide +kernel
theorem dX2_factor_63 : decode cX2_factor 63 = .ok (.aload_n 0, 1) := by decide +kernel
theorem dX2_factor_64 : decode cX2_factor 64 = .ok (.getfield 79, 3) := by decide +kernel
theorem dX2_factor_67 : decode cX2_factor 67 = .ok (.aload_n 0, 1) := by decide +kernel
theorem dX2_factor_68 : decode cX2_factor 68 = .ok (.getfield 73, 3) := by decide +kernel
theorem dX2_factor_71 : decode cX2_factor 71 = .ok (.if_icmp .ne 7, 3) := by decide +kernel
theorem dX2_factor_74 : decode cX2_factor 74 = .ok (.iconst 1, 1) := by decide +kernel
theorem dX2_factor_75 : decode cX2_factor 75 = .ok (.goto 12, 3) := by decide +kernel
theorem dX2_factor_78 : decode cX2_factor 78 = .ok (.aload_n 0, 1) := by decide +kernel
theorem dX2_factor_79 : decode cX2_factor 79 = .ok (.getfield 79, 3) := by decide +kernel
theorem dX2_factor_82 : decode cX2_factor 82 = .ok (.aload_n 0, 1) := by decide +kernel
theorem dX2_factor_83 : decode cX2_factor 83 = .ok (.getfield 73, 3) := by decide +kernel
theorem dX2_factor_86 : decode cX2_factor 86 = .ok (.isub, 1) := by decide +kernel
theorem dX2_factor_87 : decode cX2_factor 87 = .ok (.istore 5, 2) := by decide +kernel
theorem dX2_factor_89 : decode cX2_factor 89 = .ok (.aload_n 0, 1) := by decide +kernel
theorem dX2_factor_90 : decode cX2_factor 90 = .ok (.getfield 79, 3) := by decide +kernel
theorem dX2_factor_93 : decode cX2_factor 93 = .ok (.aload_n 0, 1) := by decide +kernel
theorem dX2_factor_94 : decode cX2_factor 94 = .ok (.getfield 73, 3) := by decide +kernel
theorem dX2_factor_97 : decode cX2_factor 97 = .ok (.if_icmp .ne 7, 3) := by decide +kernel
theorem dX2_factor_100 : decode cX2_factor 100 = .ok (.iconst 0, 1) := by decide +kernel
theorem dX2_factor_101 : decode cX2_factor 101 = .ok (.goto 5, 3) := by decide +kernel
theorem dX2_factor_104 : decode cX2_factor 104 = .ok (.iload 4, 2) := by decide +kernel
theorem dX2_factor_106 : decode cX2_factor 106 = .ok (.istore 4, 2) := by decide +kernel
theorem dX2_factor_108 : decode cX2_factor 108 = .ok (.iload 4, 2) := by decide +kernel
theorem dX2_factor_110 : decode cX2_factor 110 = .ok (.istore 6, 2) := by decide +kernel
theorem dX2_factor_112 : decode cX2_factor 112 = .ok (.iload 5, 2) := by decide +kernel
theorem dX2_factor_114 : decode cX2_factor 114 = .ok (.istore 7, 2) := by decide +kernel
theorem dX2_factor_116 : decode cX2_factor 116 = .ok (.iload 7, 2) := by decide +kernel
theorem dX2_factor_118 : decode cX2_factor 118 = .ok (.ifCond .eq 21, 3) := by decide +kernel
theorem dX2_factor_121 : decode cX2_factor 121 = .ok (.iload 6, 2) := by decide +kernel
theorem dX2_factor_123 : decode cX2_factor 123 = .ok (.iload 7, 2) := by decide +kernel
theorem dX2_factor_125 : decode cX2_factor 125 = .ok (.irem, 1) := by decide +kernel
theorem dX2_factor_126 : decode cX2_factor 126 = .ok (.istore 8, 2) := by decide +kernel
theorem dX2_factor_128 : decode cX2_factor 128 = .ok (.iload 7, 2) := by decide +kernel
theorem dX2_factor_130 : decode cX2_factor 130 = .ok (.istore 6, 2) := by decide +kernel
theorem dX2_factor_132 : decode cX2_factor 132 = .ok (.iload 8, 2) := by decide +kernel
theorem dX2_factor_134 : decode cX2_factor 134 = .ok (.istore 7, 2) := by decide +kernel
theorem dX2_factor_136 : decode cX2_factor 136 = .ok (.goto (-20), 3) := by decide +kernel
theorem dX2_factor_139 : decode cX2_factor 139 = .ok (.iload_n 2, 1) := by decide +kernel
theorem dX2_factor_140 : decode cX2_factor 140 = .ok (.ifCond .ne 11, 3) := by decide +kernel
theorem dX2_factor_143 : decode cX2_factor 143 = .ok (.iload 4, 2) := by decide +kernel
theorem dX2_factor_145 : decode cX2_factor 145 = .ok (.iload 6, 2) := by decide +kernel
theorem dX2_factor_147 : decode cX2_factor 147 = .ok (.idiv, 1) := by decide +kernel
theorem dX2_factor_148 : decode cX2_factor 148 = .ok (.goto 8, 3) := by decide +kernel
theorem dX2_factor_151 : decode cX2_factor 151 = .ok (.iload 5, 2) := by decide +kernel
theorem dX2_factor_153 : decode cX2_factor 153 = .ok (.iload 6, 2) := by decide +kernel
theorem dX2_factor_155 : decode cX2_factor 155 = .ok (.idiv, 1) := by decide +kernel
theorem dX2_factor_156 : decode cX2_factor 156 = .ok (.ireturn, 1) := by decide +kernel
set_option maxRecDepth 20000 in
theorem ggX2_colder_X2_in : GoodIn wsX2_colder wsX2_in := goodIn_r _ [8] (by decide +kernel) (by decide +kernel)
set_option maxRecDepth 20000 in
theorem gX2_colder_X2_in : GoodIn wsX2_colder (va_wsS RX2 39 yX2_in wsX2_in) := goodIn_app (goodIn_of _ (by decide +kernel)) ggX2_colder_X2_in
set_option maxRecDepth 20000 in
theorem ggX2_colder_X2_may : GoodIn wsX2_colder wsX2_may := goodIn_r _ [12, 13, 48, 49, 50, 51, 52, 53, 54, 55, 56, 57, 58, 59, 60, 61, 62] (by decide +kernel) (by decide +kernel)
set_option maxRecDepth 20000 in
theorem gX2_colder_X2_may : GoodIn wsX2_colder (wsV RX2 47 RX2 yX2_may wsX2_may) := goodIn_app (goodIn_of _ (by decide +kernel)) ggX2_colder_X2_may
set_option maxRecDepth 20000 in
theorem ggX2_colder_X2_settle : GoodIn wsX2_colder wsX2_settle := goodIn_r _ [17, 18, 19, 20, 21, 22, 4, 2, 1, 23, 24, 25, 7, 26, 3, 27, 28, 29, 30, 31, 32, 33, 34, 35, 36, 37, 38, 39, 40, 5, 6, 8, 41, 42, 43, 44, 45, 46, 47, 48, 49, 50, 51, 52, 53, 54, 55, 56, 57, 58, 59, 60, 61, 62] (by decide +kernel) (by decide +kernel)
set_option maxRecDepth 20000 in
theorem gX2_colder_X2_settle : GoodIn wsX2_colder (wsV RX2 87 RX2 yX2_settle wsX2_settle) := goodIn_app (goodIn_of _ (by decide +kernel)) ggX2_colder_X2_settle
theorem dX2_colder_0 : decode cX2_colder 0 = .ok (.aload_n 0, 1) := by decide +kernel
theorem dX2_colder_1 : decode cX2_colder 1 = .ok (.iload_n 1, 1) := by decide +kernel
theorem dX2_colder_2 : decode cX2_colder 2 = .ok (.sipush (-10000), 3) := by decide +kernel
theorem dX2_colder_5 : decode cX2_colder 5 = .ok (.sipush 10000, 3) := by decide +kernel
theorem dX2_colder_8 : decode cX2_colder 8 = .ok (.invokestatic 39, 3) := by decide +kernel
theorem dX2_colder_11 : decode cX2_colder 11 = .ok (.invokevirtual 47, 3) := by decide +kernel
theorem dX2_colder_14 : decode cX2_colder 14 = .ok (.ifCond .ne 5, 3) := by decide +kernel
theorem dX2_colder_17 : decode cX2_colder 17 = .ok (.iconst 0, 1) := by decide +kernel
theorem dX2_colder_18 : decode cX2_colder 18 = .ok (.ireturn, 1) := by decide +kernel
theorem dX2_colder_19 : decode cX2_colder 19 = .ok (.aload_n 0, 1) := by decide +kernel
theorem dX2_colder_20 : decode cX2_colder 20 = .ok (.invokevirtual 87, 3) := by decide +kernel
theorem dX2_colder_23 : decode cX2_colder 23 = .ok (.iconst 0, 1) := by decide +kernel
theorem dX2_colder_24 : decode cX2_colder 24 = .ok (.istore_n 2, 1) := by decide +kernel
theorem dX2_colder_25 : decode cX2_colder 25 = .ok (.iconst 0, 1) := by decide +kernel
theorem dX2_colder_26 : decode cX2_colder 26 = .ok (.istore_n 3, 1) := by decide +kernel
theorem dX2_colder_27 : decode cX2_colder 27 = .ok (.iload_n 3, 1) := by decide +kernel
theorem dX2_colder_28 : decode cX2_colder 28 = .ok (.aload_n 0, 1) := by decide +kernel
theorem dX2_colder_29 : decode cX2_colder 29 = .ok (.getfield 33, 3) := by decide +kernel
theorem dX2_colder_32 : decode cX2_colder 32 = .ok (.if_icmp .ge 66, 3) := by decide +kernel
theorem dX2_colder_35 : decode cX2_colder 35 = .ok (.iconst 0, 1) := by decide +kernel
theorem dX2_colder_36 : decode cX2_colder 36 = .ok (.istore 4, 2) := by decide +kernel
theorem dX2_colder_38 : decode cX2_colder 38 = .ok (.iload 4, 2) := by decide +kernel
theorem dX2_colder_40 : decode cX2_colder 40 = .ok (.aload_n 0, 1) := by decide +kernel
theorem dX2_colder_41 : decode cX2_colder 41 = .ok (.getfield 29, 3) := by decide +kernel
theorem dX2_colder_44 : decode cX2_colder 44 = .ok (.if_icmp .ge 48, 3) := by decide +kernel
theorem dX2_colder_47 : decode cX2_colder 47 = .ok (.aload_n 0, 1) := by decide +kernel
theorem dX2_colder_48 : decode cX2_colder 48 = .ok (.getfield 7, 3) := by decide +kernel
theorem dX2_colder_51 : decode cX2_colder 51 = .ok (.bipush 10, 2) := by decide +kernel
theorem dX2_colder_53 : decode cX2_colder 53 = .ok (.iload_n 3, 1) := by decide +kernel
theorem dX2_colder_54 : decode cX2_colder 54 = .ok (.imul, 1) := by decide +kernel
theorem dX2_colder_55 : decode cX2_colder 55 = .ok (.iload 4, 2) := by decide +kernel
theorem dX2_colder_57 : decode cX2_colder 57 = .ok (.iadd, 1) := by decide +kernel
theorem dX2_colder_58 : decode cX2_colder 58 = .ok (.iaload, 1) := by decide +kernel
theorem dX2_colder_59 : decode cX2_colder 59 = .ok (.ifCond .le 25, 3) := by decide +kernel
theorem dX2_colder_62 : decode cX2_colder 62 = .ok (.aload_n 0, 1) := by decide +kernel
theorem dX2_colder_63 : decode cX2_colder 63 = .ok (.getfield 13, 3) := by decide +kernel
theorem dX2_colder_66 : decode cX2_colder 66 = .ok (.bipush 10, 2) := by decide +kernel
theorem dX2_colder_68 : decode cX2_colder 68 = .ok (.iload_n 3, 1) := by decide +kernel
theorem dX2_colder_69 : decode cX2_colder 69 = .ok (.imul, 1) := by decide +kernel
theorem dX2_colder_70 : decode cX2_colder 70 = .ok (.iload 4, 2) := by decide +kernel
theorem dX2_colder_72 : decode cX2_colder 72 = .ok (.iadd, 1) := by decide +kernel
theorem dX2_colder_73 : decode cX2_colder 73 = .ok (.iaload, 1) := by decide +kernel
theorem dX2_colder_74 : decode cX2_colder 74 = .ok (.iload_n 1, 1) := by decide +kernel
theorem dX2_colder_75 : decode cX2_colder 75 = .ok (.if_icmp .ge 9, 3) := by decide +kernel
theorem dX2_colder_78 : decode cX2_colder 78 = .ok (.iload_n 2, 1) := by decide +kernel
theorem dX2_colder_79 : decode cX2_colder 79 = .ok (.iconst 1, 1) := by decide +kernel
theorem dX2_colder_80 : decode cX2_colder 80 = .ok (.iadd, 1) := by decide +kernel
theorem dX2_colder_81 : decode cX2_colder 81 = .ok (.goto 4, 3) := by decide +kernel
theorem dX2_colder_84 : decode cX2_colder 84 = .ok (.iload_n 2, 1) := by decide +kernel
theorem dX2_colder_85 : decode cX2_colder 85 = .ok (.istore_n 2, 1) := by decide +kernel
theorem dX2_colder_86 : decode cX2_colder 86 = .ok (.iinc 4 1, 3) := by decide +kernel
theorem dX2_colder_89 : decode cX2_colder 89 = .ok (.goto (-51), 3) := by decide +kernel
theorem dX2_colder_92 : decode cX2_colder 92 = .ok (.iinc 3 1, 3) := by decide +kernel
theorem dX2_colder_95 : decode cX2_colder 95 = .ok (.goto (-68), 3) := by decide +kernel
theorem dX2_colder_98 : decode cX2_colder 98 = .ok (.iload_n 2, 1) := by decide +kernel
theorem dX2_colder_99 : decode cX2_colder 99 = .ok (.ireturn, 1) := by decide +kernel
set_option maxRecDepth 20000 in
theorem ggX2_mirrored_X2_in : GoodIn wsX2_mirrored wsX2_in := goodIn_r _ [6] (by decide +kernel) (by decide +kernel)
set_option maxRecDepth 20000 in
theorem gX2_mirrored_X2_in : GoodIn wsX2_mirrored (va_wsS RX2 39 yX2_in wsX2_in) := goodIn_app (goodIn_of _ (by decide +kernel)) ggX2_mirrored_X2_in
set_option maxRecDepth 20000 in
theorem ggX2_mirrored_X2_may : GoodIn wsX2_mirrored wsX2_may := goodIn_r _ [10, 11, 53, 54, 55, 56, 57, 58, 59, 60, 61, 62, 63, 64, 65, 66, 67] (by decide +kernel) (by decide +kernel)
set_option maxRecDepth 20000 in
theorem gX2_mirrored_X2_may : GoodIn wsX2_mirrored (wsV RX2 47 RX2 yX2_may wsX2_may) := goodIn_app (goodIn_of _ (by decide +kernel)) ggX2_mirrored_X2_may
set_option maxRecDepth 20000 in
theorem ggX2_mirrored_X2_settle : GoodIn wsX2_mirrored wsX2_settle := goodIn_r _ [15, 16, 17, 18, 19, 20, 21, 2, 1, 22, 23, 24, 5, 25, 26, 27, 28, 29, 30, 31, 32, 33, 34, 35, 36, 37, 38, 39, 40, 3, 4, 6, 41, 42, 43, 44, 45, 46, 47, 53, 54, 55, 56, 57, 58, 59, 60, 61, 62, 63, 64, 65, 66, 67] (by decide +kernel) (by decide +kernel)
set_option maxRecDepth 20000 in
theorem gX2_mirrored_X2_settle : GoodIn wsX2_mirrored (wsV RX2 87 RX2 yX2_settle wsX2_settle) := goodIn_app (goodIn_of _ (by decide +kernel)) ggX2_mirrored_X2_settle
set_option maxRecDepth 20000 in
theorem ggX2_mirrored_X2_warmthOf : GoodIn wsX2_mirrored wsX2_warmthOf := goodIn_r _ [51, 26, 21, 52, 53, 54, 55, 56, 57, 58, 59, 60, 61, 62, 63, 64, 65, 66, 67] (by decide +kernel) (by decide +kernel)
set_option maxRecDepth 20000 in
theorem gX2_mirrored_X2_warmthOf : GoodIn wsX2_mirrored (wsV RX2 90 RX2 yX2_warmthOf wsX2_warmthOf) := goodIn_app (goodIn_of _ (by decide +kernel)) ggX2_mirrored_X2_warmthOf
theorem dX2_mirrored_0 : decode cX2_mirrored 0 = .ok (.aload_n 0, 1) := by decide +kernel
theorem dX2_mirrored_1 : decode cX2_mirrored 1 = .ok (.iload_n 1, 1) := by decide +kernel
theorem dX2_mirrored_2 : decode cX2_mirrored 2 = .ok (.iconst 0, 1) := by decide +kernel
theorem dX2_mirrored_3 : decode cX2_mirrored 3 = .ok (.iconst 1, 1) := by decide +kernel
theorem dX2_mirrored_4 : decode cX2_mirrored 4 = .ok (.invokestatic 39, 3) := by decide +kernel
theorem dX2_mirrored_7 : decode cX2_mirrored 7 = .ok (.invokevirtual 47, 3) := by decide +kernel
theorem dX2_mirrored_10 : decode cX2_mirrored 10 = .ok (.ifCond .ne 5, 3) := by decide +kernel
theorem dX2_mirrored_13 : decode cX2_mirrored 13 = .ok (.iconst 0, 1) := by decide +kernel
theorem dX2_mirrored_14 : decode cX2_mirrored 14 = .ok (.ireturn, 1) := by decide +kernel
theorem dX2_mirrored_15 : decode cX2_mirrored 15 = .ok (.aload_n 0, 1) := by decide +kernel
theorem dX2_mirrored_16 : decode cX2_mirrored 16 = .ok (.invokevirtual 87, 3) := by decide +kernel
theorem dX2_mirrored_19 : decode cX2_mirrored 19 = .ok (.iconst 1, 1) := by decide +kernel
theorem dX2_mirrored_20 : decode cX2_mirrored 20 = .ok (.istore_n 2, 1) := by decide +kernel
theorem dX2_mirrored_21 : decode cX2_mirrored 21 = .ok (.iconst 0, 1) := by decide +kernel
theorem dX2_mirrored_22 : decode cX2_mirrored 22 = .ok (.istore_n 3, 1) := by decide +kernel
theorem dX2_mirrored_23 : decode cX2_mirrored 23 = .ok (.iload_n 3, 1) := by decide +kernel
theorem dX2_mirrored_24 : decode cX2_mirrored 24 = .ok (.aload_n 0, 1) := by decide +kernel
theorem dX2_mirrored_25 : decode cX2_mirrored 25 = .ok (.getfield 33, 3) := by decide +kernel
theorem dX2_mirrored_28 : decode cX2_mirrored 28 = .ok (.if_icmp .ge 82, 3) := by decide +kernel
theorem dX2_mirrored_31 : decode cX2_mirrored 31 = .ok (.iconst 0, 1) := by decide +kernel
theorem dX2_mirrored_32 : decode cX2_mirrored 32 = .ok (.istore 4, 2) := by decide +kernel
theorem dX2_mirrored_34 : decode cX2_mirrored 34 = .ok (.iload 4, 2) := by decide +kernel
theorem dX2_mirrored_36 : decode cX2_mirrored 36 = .ok (.aload_n 0, 1) := by decide +kernel
theorem dX2_mirrored_37 : decode cX2_mirrored 37 = .ok (.getfield 29, 3) := by decide +kernel
theorem dX2_mirrored_40 : decode cX2_mirrored 40 = .ok (.if_icmp .ge 64, 3) := by decide +kernel
theorem dX2_mirrored_43 : decode cX2_mirrored 43 = .ok (.iload_n 2, 1) := by decide +kernel
theorem dX2_mirrored_44 : decode cX2_mirrored 44 = .ok (.ifCond .eq 52, 3) := by decide +kernel
theorem dX2_mirrored_47 : decode cX2_mirrored 47 = .ok (.aload_n 0, 1) := by decide +kernel
theorem dX2_mirrored_48 : decode cX2_mirrored 48 = .ok (.iload 4, 2) := by decide +kernel
theorem dX2_mirrored_50 : decode cX2_mirrored 50 = .ok (.iload_n 3, 1) := by decide +kernel
theorem dX2_mirrored_51 : decode cX2_mirrored 51 = .ok (.invokevirtual 90, 3) := by decide +kernel
theorem dX2_mirrored_54 : decode cX2_mirrored 54 = .ok (.iload_n 1, 1) := by decide +kernel
theorem dX2_mirrored_55 : decode cX2_mirrored 55 = .ok (.ifCond .ne 20, 3) := by decide +kernel
theorem dX2_mirrored_58 : decode cX2_mirrored 58 = .ok (.aload_n 0, 1) := by decide +kernel
theorem dX2_mirrored_59 : decode cX2_mirrored 59 = .ok (.aload_n 0, 1) := by decide +kernel
theorem dX2_mirrored_60 : decode cX2_mirrored 60 = .ok (.getfield 29, 3) := by decide +kernel
theorem dX2_mirrored_63 : decode cX2_mirrored 63 = .ok (.iconst 1, 1) := by decide +kernel
theorem dX2_mirrored_64 : decode cX2_mirrored 64 = .ok (.isub, 1) := by decide +kernel
theorem dX2_mirrored_65 : decode cX2_mirrored 65 = .ok (.iload 4, 2) := by decide +kernel
theorem dX2_mirrored_67 : decode cX2_mirrored 67 = .ok (.isub, 1) := by decide +kernel
theorem dX2_mirrored_68 : decode cX2_mirrored 68 = .ok (.iload_n 3, 1) := by decide +kernel
theorem dX2_mirrored_69 : decode cX2_mirrored 69 = .ok (.invokevirtual 90, 3) := by decide +kernel
theorem dX2_mirrored_72 : decode cX2_mirrored 72 = .ok (.goto 17, 3) := by decide +kernel
theorem dX2_mirrored_75 : decode cX2_mirrored 75 = .ok (.aload_n 0, 1) := by decide +kernel
theorem dX2_mirrored_76 : decode cX2_mirrored 76 = .ok (.iload 4, 2) := by decide +kernel
theorem dX2_mirrored_78 : decode cX2_mirrored 78 = .ok (.aload_n 0, 1) := by decide +kernel
theorem dX2_mirrored_79 : decode cX2_mirrored 79 = .ok (.getfield 33, 3) := by decide +kernel
theorem dX2_mirrored_82 : decode cX2_mirrored 82 = .ok (.iconst 1, 1) := by decide +kernel
theorem dX2_mirrored_83 : decode cX2_mirrored 83 = .ok (.isub, 1) := by decide +kernel
theorem dX2_mirrored_84 : decode cX2_mirrored 84 = .ok (.iload_n 3, 1) := by decide +kernel
theorem dX2_mirrored_85 : decode cX2_mirrored 85 = .ok (.isub, 1) := by decide +kernel
theorem dX2_mirrored_86 : decode cX2_mirrored 86 = .ok (.invokevirtual 90, 3) := by decide +kernel
theorem dX2_mirrored_89 : decode cX2_mirrored 89 = .ok (.if_icmp .ne 7, 3) := by decide +kernel
theorem dX2_mirrored_92 : decode cX2_mirrored 92 = .ok (.iconst 1, 1) := by decide +kernel
theorem dX2_mirrored_93 : decode cX2_mirrored 93 = .ok (.goto 4, 3) := by decide +kernel
theorem dX2_mirrored_96 : decode cX2_mirrored 96 = .ok (.iconst 0, 1) := by decide +kernel
theorem dX2_mirrored_97 : decode cX2_mirrored 97 = .ok (.istore_n 2, 1) := by decide +kernel
theorem dX2_mirrored_98 : decode cX2_mirrored 98 = .ok (.iinc 4 1, 3) := by decide +kernel
theorem dX2_mirrored_101 : decode cX2_mirrored 101 = .ok (.goto (-67), 3) := by decide +kernel
theorem dX2_mirrored_104 : decode cX2_mirrored 104 = .ok (.iinc 3 1, 3) := by decide +kernel
theorem dX2_mirrored_107 : decode cX2_mirrored 107 = .ok (.goto (-84), 3) := by decide +kernel
theorem dX2_mirrored_110 : decode cX2_mirrored 110 = .ok (.iload_n 2, 1) := by decide +kernel
theorem dX2_mirrored_111 : decode cX2_mirrored 111 = .ok (.ireturn, 1) := by decide +kernel
set_option maxRecDepth 20000 in
theorem ggX2_joint_X2_may : GoodIn wsX2_joint wsX2_may := goodIn_r _ [8, 9, 59, 60, 61, 62, 63, 64, 65, 66, 67, 68, 69, 70, 71, 72, 73] (by decide +kernel) (by decide +kernel)
set_option maxRecDepth 20000 in
theorem gX2_joint_X2_may : GoodIn wsX2_joint (wsV RX2 47 RX2 yX2_may wsX2_may) := goodIn_app (goodIn_of _ (by decide +kernel)) ggX2_joint_X2_may
set_option maxRecDepth 20000 in
theorem ggX2_joint_X2_heat : GoodIn wsX2_joint wsX2_heat := goodIn_r _ [13, 14, 15, 16, 7, 17, 18, 19, 20, 21, 22, 23, 24, 25, 26, 27, 28, 29, 30, 31, 32, 33, 34, 35, 36, 37, 38, 39, 40, 41, 42, 43, 44, 45, 46, 47, 48, 49, 50, 51, 52, 53, 54, 55, 56, 57, 58, 59, 60, 61, 62, 63, 64, 65, 66, 67, 68, 69, 70, 71, 72, 73] (by decide +kernel) (by decide +kernel)
set_option maxRecDepth 20000 in
theorem gX2_joint_X2_heat : GoodIn wsX2_joint (wsV RX2 97 RX2 yX2_heat wsX2_heat) := goodIn_app (goodIn_of _ (by decide +kernel)) ggX2_joint_X2_heat
theorem dX2_joint_0 : decode cX2_joint 0 = .ok (.aload_n 0, 1) := by decide +kernel
theorem dX2_joint_1 : decode cX2_joint 1 = .ok (.aload_n 0, 1) := by decide +kernel
theorem dX2_joint_2 : decode cX2_joint 2 = .ok (.getfield 108, 3) := by decide +kernel
theorem dX2_joint_5 : decode cX2_joint 5 = .ok (.bipush 10, 2) := by decide +kernel
theorem dX2_joint_7 : decode cX2_joint 7 = .ok (.if_icmp .ge 7, 3) := by decide +kernel
theorem dX2_joint_10 : decode cX2_joint 10 = .ok (.iconst 1, 1) := by decide +kernel
theorem dX2_joint_11 : decode cX2_joint 11 = .ok (.goto 4, 3) := by decide +kernel
theorem dX2_joint_14 : decode cX2_joint 14 = .ok (.iconst 0, 1) := by decide +kernel
theorem dX2_joint_15 : decode cX2_joint 15 = .ok (.invokevirtual 47, 3) := by decide +kernel
theorem dX2_joint_18 : decode cX2_joint 18 = .ok (.ifCond .ne 5, 3) := by decide +kernel
theorem dX2_joint_21 : decode cX2_joint 21 = .ok (.iconst 0, 1) := by decide +kernel
theorem dX2_joint_22 : decode cX2_joint 22 = .ok (.ireturn, 1) := by decide +kernel
theorem dX2_joint_23 : decode cX2_joint 23 = .ok (.aload_n 0, 1) := by decide +kernel
theorem dX2_joint_24 : decode cX2_joint 24 = .ok (.getfield 22, 3) := by decide +kernel
theorem dX2_joint_27 : decode cX2_joint 27 = .ok (.aload_n 0, 1) := by decide +kernel
theorem dX2_joint_28 : decode cX2_joint 28 = .ok (.getfield 108, 3) := by decide +kernel
theorem dX2_joint_31 : decode cX2_joint 31 = .ok (.aload_n 0, 1) := by decide +kernel
theorem dX2_joint_32 : decode cX2_joint 32 = .ok (.invokevirtual 97, 3) := by decide +kernel
theorem dX2_joint_35 : decode cX2_joint 35 = .ok (.lastore, 1) := by decide +kernel
theorem dX2_joint_36 : decode cX2_joint 36 = .ok (.aload_n 0, 1) := by decide +kernel
theorem dX2_joint_37 : decode cX2_joint 37 = .ok (.getfield 26, 3) := by decide +kernel
theorem dX2_joint_40 : decode cX2_joint 40 = .ok (.aload_n 0, 1) := by decide +kernel
theorem dX2_joint_41 : decode cX2_joint 41 = .ok (.getfield 108, 3) := by decide +kernel
theorem dX2_joint_44 : decode cX2_joint 44 = .ok (.iconst 0, 1) := by decide +kernel
theorem dX2_joint_45 : decode cX2_joint 45 = .ok (.iastore, 1) := by decide +kernel
theorem dX2_joint_46 : decode cX2_joint 46 = .ok (.aload_n 0, 1) := by decide +kernel
theorem dX2_joint_47 : decode cX2_joint 47 = .ok (.dup, 1) := by decide +kernel
theorem dX2_joint_48 : decode cX2_joint 48 = .ok (.getfield 108, 3) := by decide +kernel
theorem dX2_joint_51 : decode cX2_joint 51 = .ok (.iconst 1, 1) := by decide +kernel
theorem dX2_joint_52 : decode cX2_joint 52 = .ok (.iadd, 1) := by decide +kernel
theorem dX2_joint_53 : decode cX2_joint 53 = .ok (.putfield 108, 3) := by decide +kernel
theorem dX2_joint_56 : decode cX2_joint 56 = .ok (.aload_n 0, 1) := by decide +kernel
theorem dX2_joint_57 : decode cX2_joint 57 = .ok (.getfield 108, 3) := by decide +kernel
theorem dX2_joint_60 : decode cX2_joint 60 = .ok (.iconst 1, 1) := by decide +kernel
theorem dX2_joint_61 : decode cX2_joint 61 = .ok (.isub, 1) := by decide +kernel
theorem dX2_joint_62 : decode cX2_joint 62 = .ok (.ireturn, 1) := by decide +kernel
set_option maxRecDepth 20000 in
theorem ggX2_length_X2_in : GoodIn wsX2_length wsX2_in := goodIn_r _ [6] (by decide +kernel) (by decide +kernel)
set_option maxRecDepth 20000 in
theorem gX2_length_X2_in : GoodIn wsX2_length (va_wsS RX2 39 yX2_in wsX2_in) := goodIn_app (goodIn_of _ (by decide +kernel)) ggX2_length_X2_in
set_option maxRecDepth 20000 in
theorem ggX2_length_X2_may : GoodIn wsX2_length wsX2_may := goodIn_r _ [10, 11, 12, 13, 14, 15, 16, 17, 18, 19, 20, 21, 22, 23, 24, 25, 26] (by decide +kernel) (by decide +kernel)
set_option maxRecDepth 20000 in
theorem gX2_length_X2_may : GoodIn wsX2_length (wsV RX2 47 RX2 yX2_may wsX2_may) := goodIn_app (goodIn_of _ (by decide +kernel)) ggX2_length_X2_may
theorem dX2_length_0 : decode cX2_length 0 = .ok (.aload_n 0, 1) := by decide +kernel
theorem dX2_length_1 : decode cX2_length 1 = .ok (.iload_n 1, 1) := by decide +kernel
theorem dX2_length_2 : decode cX2_length 2 = .ok (.iconst 0, 1) := by decide +kernel
theorem dX2_length_3 : decode cX2_length 3 = .ok (.aload_n 0, 1) := by decide +kernel
theorem dX2_length_4 : decode cX2_length 4 = .ok (.getfield 108, 3) := by decide +kernel
theorem dX2_length_7 : decode cX2_length 7 = .ok (.iconst 1, 1) := by decide +kernel
theorem dX2_length_8 : decode cX2_length 8 = .ok (.isub, 1) := by decide +kernel
theorem dX2_length_9 : decode cX2_length 9 = .ok (.invokestatic 39, 3) := by decide +kernel
theorem dX2_length_12 : decode cX2_length 12 = .ok (.ifCond .eq 18, 3) := by decide +kernel
theorem dX2_length_15 : decode cX2_length 15 = .ok (.iload_n 2, 1) := by decide +kernel
theorem dX2_length_16 : decode cX2_length 16 = .ok (.iconst 0, 1) := by decide +kernel
theorem dX2_length_17 : decode cX2_length 17 = .ok (.sipush 1000, 3) := by decide +kernel
theorem dX2_length_20 : decode cX2_length 20 = .ok (.invokestatic 39, 3) := by decide +kernel
theorem dX2_length_23 : decode cX2_length 23 = .ok (.ifCond .eq 7, 3) := by decide +kernel
theorem dX2_length_26 : decode cX2_length 26 = .ok (.iconst 1, 1) := by decide +kernel
theorem dX2_length_27 : decode cX2_length 27 = .ok (.goto 4, 3) := by decide +kernel
theorem dX2_length_30 : decode cX2_length 30 = .ok (.iconst 0, 1) := by decide +kernel
theorem dX2_length_31 : decode cX2_length 31 = .ok (.invokevirtual 47, 3) := by decide +kernel
theorem dX2_length_34 : decode cX2_length 34 = .ok (.ifCond .ne 5, 3) := by decide +kernel
theorem dX2_length_37 : decode cX2_length 37 = .ok (.iconst 0, 1) := by decide +kernel
theorem dX2_length_38 : decode cX2_length 38 = .ok (.ireturn, 1) := by decide +kernel
theorem dX2_length_39 : decode cX2_length 39 = .ok (.aload_n 0, 1) := by decide +kernel
theorem dX2_length_40 : decode cX2_length 40 = .ok (.getfield 26, 3) := by decide +kernel
theorem dX2_length_43 : decode cX2_length 43 = .ok (.iload_n 1, 1) := by decide +kernel
theorem dX2_length_44 : decode cX2_length 44 = .ok (.iaload, 1) := by decide +kernel
theorem dX2_length_45 : decode cX2_length 45 = .ok (.istore_n 3, 1) := by decide +kernel
theorem dX2_length_46 : decode cX2_length 46 = .ok (.aload_n 0, 1) := by decide +kernel
theorem dX2_length_47 : decode cX2_length 47 = .ok (.getfield 26, 3) := by decide +kernel
theorem dX2_length_50 : decode cX2_length 50 = .ok (.iload_n 1, 1) := by decide +kernel
theorem dX2_length_51 : decode cX2_length 51 = .ok (.iload_n 2, 1) := by decide +kernel
theorem dX2_length_52 : decode cX2_length 52 = .ok (.iastore, 1) := by decide +kernel
theorem dX2_length_53 : decode cX2_length 53 = .ok (.iload_n 3, 1) := by decide +kernel
theorem dX2_length_54 : decode cX2_length 54 = .ok (.ireturn, 1) := by decide +kernel
set_option maxRecDepth 20000 in
theorem ggX2_differs_X2_in : GoodIn wsX2_differs wsX2_in := goodIn_r _ [6] (by decide +kernel) (by decide +kernel)
set_option maxRecDepth 20000 in
theorem gX2_differs_X2_in : GoodIn wsX2_differs (va_wsS RX2 39 yX2_in wsX2_in) := goodIn_app (goodIn_of _ (by decide +kernel)) ggX2_differs_X2_in
set_option maxRecDepth 20000 in
theorem ggX2_differs_X2_may : GoodIn wsX2_differs wsX2_may := goodIn_r _ [10, 11, 58, 59, 60, 61, 62, 63, 64, 65, 66, 67, 68, 69, 70, 71, 72] (by decide +kernel) (by decide +kernel)
set_option maxRecDepth 20000 in
theorem gX2_differs_X2_may : GoodIn wsX2_differs (wsV RX2 47 RX2 yX2_may wsX2_may) := goodIn_app (goodIn_of _ (by decide +kernel)) ggX2_differs_X2_may
set_option maxRecDepth 20000 in
theorem ggX2_differs_X2_heat : GoodIn wsX2_differs wsX2_heat := goodIn_r _ [15, 16, 17, 18, 5, 19, 20, 21, 22, 23, 24, 25, 26, 27, 28, 29, 30, 31, 32, 33, 34, 35, 36, 37, 38, 39, 40, 41, 42, 43, 44, 45, 46, 3, 4, 6, 47, 48, 49, 50, 51, 52, 53, 54, 55, 56, 57, 58, 59, 60, 61, 62, 63, 64, 65, 66, 67, 68, 69, 70, 71, 72] (by decide +kernel) (by decide +kernel)
set_option maxRecDepth 20000 in
theorem gX2_differs_X2_heat : GoodIn wsX2_differs (wsV RX2 97 RX2 yX2_heat wsX2_heat) := goodIn_app (goodIn_of _ (by decide +kernel)) ggX2_differs_X2_heat
theorem dX2_differs_0 : decode cX2_differs 0 = .ok (.aload_n 0, 1) := by decide +kernel
theorem dX2_differs_1 : decode cX2_differs 1 = .ok (.iload_n 1, 1) := by decide +kernel
theorem dX2_differs_2 : decode cX2_differs 2 = .ok (.iconst 0, 1) := by decide +kernel
theorem dX2_differs_3 : decode cX2_differs 3 = .ok (.aload_n 0, 1) := by decide +kernel
theorem dX2_differs_4 : decode cX2_differs 4 = .ok (.getfield 108, 3) := by decide +kernel
theorem dX2_differs_7 : decode cX2_differs 7 = .ok (.iconst 1, 1) := by decide +kernel
theorem dX2_differs_8 : decode cX2_differs 8 = .ok (.isub, 1) := by decide +kernel
theorem dX2_differs_9 : decode cX2_differs 9 = .ok (.invokestatic 39, 3) := by decide +kernel
theorem dX2_differs_12 : decode cX2_differs 12 = .ok (.invokevirtual 47, 3) := by decide +kernel
theorem dX2_differs_15 : decode cX2_differs 15 = .ok (.ifCond .eq 17, 3) := by decide +kernel
theorem dX2_differs_18 : decode cX2_differs 18 = .ok (.aload_n 0, 1) := by decide +kernel
theorem dX2_differs_19 : decode cX2_differs 19 = .ok (.invokevirtual 97, 3) := by decide +kernel
theorem dX2_differs_22 : decode cX2_differs 22 = .ok (.aload_n 0, 1) := by decide +kernel
theorem dX2_differs_23 : decode cX2_differs 23 = .ok (.getfield 22, 3) := by decide +kernel
theorem dX2_differs_26 : decode cX2_differs 26 = .ok (.iload_n 1, 1) := by decide +kernel
theorem dX2_differs_27 : decode cX2_differs 27 = .ok (.laload, 1) := by decide +kernel
theorem dX2_differs_28 : decode cX2_differs 28 = .ok (.lsub, 1) := by decide +kernel
theorem dX2_differs_29 : decode cX2_differs 29 = .ok (.goto 4, 3) := by decide +kernel
theorem dX2_differs_32 : decode cX2_differs 32 = .ok (.lconst 0, 1) := by decide +kernel
theorem dX2_differs_33 : decode cX2_differs 33 = .ok (.lreturn, 1) := by decide +kernel
theorem dX2_sum_0 : decode cX2_sum 0 = .ok (.aload_n 0, 1) := by decide +kernel
theorem dX2_sum_1 : decode cX2_sum 1 = .ok (.iconst 0, 1) := by decide +kernel
theorem dX2_sum_2 : decode cX2_sum 2 = .ok (.putfield 36, 3) := by decide +kernel
theorem dX2_sum_5 : decode cX2_sum 5 = .ok (.lconst 0, 1) := by decide +kernel
theorem dX2_sum_6 : decode cX2_sum 6 = .ok (.lstore_n 1, 1) := by decide +kernel
theorem dX2_sum_7 : decode cX2_sum 7 = .ok (.iconst 0, 1) := by decide +kernel
theorem dX2_sum_8 : decode cX2_sum 8 = .ok (.istore_n 3, 1) := by decide +kernel
theorem dX2_sum_9 : decode cX2_sum 9 = .ok (.iload_n 3, 1) := by decide +kernel
theorem dX2_sum_10 : decode cX2_sum 10 = .ok (.aload_n 0, 1) := by decide +kernel
theorem dX2_sum_11 : decode cX2_sum 11 = .ok (.getfield 108, 3) := by decide +kernel
theorem dX2_sum_14 : decode cX2_sum 14 = .ok (.if_icmp .ge 26, 3) := by decide +kernel
theorem dX2_sum_17 : decode cX2_sum 17 = .ok (.lload_n 1, 1) := by decide +kernel
theorem dX2_sum_18 : decode cX2_sum 18 = .ok (.aload_n 0, 1) := by decide +kernel
theorem dX2_sum_19 : decode cX2_sum 19 = .ok (.getfield 22, 3) := by decide +kernel
theorem dX2_sum_22 : decode cX2_sum 22 = .ok (.iload_n 3, 1) := by decide +kernel
theorem dX2_sum_23 : decode cX2_sum 23 = .ok (.laload, 1) := by decide +kernel
theorem dX2_sum_24 : decode cX2_sum 24 = .ok (.aload_n 0, 1) := by decide +kernel
theorem dX2_sum_25 : decode cX2_sum 25 = .ok (.getfield 26, 3) := by decide +kernel
theorem dX2_sum_28 : decode cX2_sum 28 = .ok (.iload_n 3, 1) := by decide +kernel
theorem dX2_sum_29 : decode cX2_sum 29 = .ok (.iaload, 1) := by decide +kernel
theorem dX2_sum_30 : decode cX2_sum 30 = .ok (.i2l, 1) := by decide +kernel
theorem dX2_sum_31 : decode cX2_sum 31 = .ok (.lmul, 1) := by decide +kernel
theorem dX2_sum_32 : decode cX2_sum 32 = .ok (.ladd, 1) := by decide +kernel
theorem dX2_sum_33 : decode cX2_sum 33 = .ok (.lstore_n 1, 1) := by decide +kernel
theorem dX2_sum_34 : decode cX2_sum 34 = .ok (.iinc 3 1, 3) := by decide +kernel
theorem dX2_sum_37 : decode cX2_sum 37 = .ok (.goto (-28), 3) := by decide +kernel
theorem dX2_sum_40 : decode cX2_sum 40 = .ok (.lload_n 1, 1) := by decide +kernel
theorem dX2_sum_41 : decode cX2_sum 41 = .ok (.lreturn, 1) := by decide +kernel

set_option maxRecDepth 20000 in
theorem ggX1_init_X0_init : GoodIn wsX1_init wsX0_init := goodIn_r _ [22, 23, 2, 3, 6, 24, 25, 26, 27, 28, 29, 30, 31, 32, 33, 34, 35, 36, 37, 42, 43, 44, 45, 46, 47, 48, 49, 50, 51, 52, 53, 54, 55] (by decide +kernel) (by decide +kernel)
set_option maxRecDepth 20000 in
theorem gX1_init_X0_init : GoodIn wsX1_init (wsX0_init) := ggX1_init_X0_init
theorem dX1_init_0 : decode cX1_init 0 = .ok (.aload_n 0, 1) := by decide +kernel
theorem dX1_init_1 : decode cX1_init 1 = .ok (.invokespecial 1, 3) := by decide +kernel
theorem dX1_init_4 : decode cX1_init 4 = .ok (.aload_n 0, 1) := by decide +kernel
theorem dX1_init_5 : decode cX1_init 5 = .ok (.bipush 10, 2) := by decide +kernel
theorem dX1_init_7 : decode cX1_init 7 = .ok (.newarray .long, 2) := by decide +kernel
theorem dX1_init_9 : decode cX1_init 9 = .ok (.putfield 9, 3) := by decide +kernel
theorem dX1_init_12 : decode cX1_init 12 = .ok (.aload_n 0, 1) := by decide +kernel
theorem dX1_init_13 : decode cX1_init 13 = .ok (.bipush 10, 2) := by decide +kernel
theorem dX1_init_15 : decode cX1_init 15 = .ok (.newarray .int, 2) := by decide +kernel
theorem dX1_init_17 : decode cX1_init 17 = .ok (.putfield 13, 3) := by decide +kernel
theorem dX1_init_20 : decode cX1_init 20 = .ok (.aload_n 0, 1) := by decide +kernel
theorem dX1_init_21 : decode cX1_init 21 = .ok (.iconst 0, 1) := by decide +kernel
theorem dX1_init_22 : decode cX1_init 22 = .ok (.putfield 17, 3) := by decide +kernel
theorem dX1_init_25 : decode cX1_init 25 = .ok (.aload_n 0, 1) := by decide +kernel
theorem dX1_init_26 : decode cX1_init 26 = .ok (.new 21, 3) := by decide +kernel
theorem dX1_init_29 : decode cX1_init 29 = .ok (.dup, 1) := by decide +kernel
theorem dX1_init_30 : decode cX1_init 30 = .ok (.iconst 1, 1) := by decide +kernel
theorem dX1_init_31 : decode cX1_init 31 = .ok (.bipush 10, 2) := by decide +kernel
theorem dX1_init_33 : decode cX1_init 33 = .ok (.iload_n 1, 1) := by decide +kernel
theorem dX1_init_34 : decode cX1_init 34 = .ok (.invokestatic 23, 3) := by decide +kernel
theorem dX1_init_37 : decode cX1_init 37 = .ok (.invokestatic 29, 3) := by decide +kernel
theorem dX1_init_40 : decode cX1_init 40 = .ok (.iconst 1, 1) := by decide +kernel
theorem dX1_init_41 : decode cX1_init 41 = .ok (.bipush 10, 2) := by decide +kernel
theorem dX1_init_43 : decode cX1_init 43 = .ok (.iload_n 2, 1) := by decide +kernel
theorem dX1_init_44 : decode cX1_init 44 = .ok (.invokestatic 23, 3) := by decide +kernel
theorem dX1_init_47 : decode cX1_init 47 = .ok (.invokestatic 29, 3) := by decide +kernel
theorem dX1_init_50 : decode cX1_init 50 = .ok (.invokespecial 32, 3) := by decide +kernel
theorem dX1_init_53 : decode cX1_init 53 = .ok (.putfield 35, 3) := by decide +kernel
theorem dX1_init_56 : decode cX1_init 56 = .ok (.return_, 1) := by decide +kernel
set_option maxRecDepth 20000 in
theorem ggX1_box_X0_holds : GoodIn wsX1_box wsX0_holds := goodIn_r _ [8, 9, 10, 38, 39, 40, 41, 42, 43, 44, 45, 46, 47, 48, 49, 50, 51] (by decide +kernel) (by decide +kernel)
set_option maxRecDepth 20000 in
theorem gX1_box_X0_holds : GoodIn wsX1_box (wsV RX1 39 RX0 yX0_holds wsX0_holds) := goodIn_app (goodIn_of _ (by decide +kernel)) ggX1_box_X0_holds
set_option maxRecDepth 20000 in
theorem ggX1_box_X1_isWithin : GoodIn wsX1_box wsX1_isWithin := goodIn_r _ [14] (by decide +kernel) (by decide +kernel)
set_option maxRecDepth 20000 in
theorem gX1_box_X1_isWithin : GoodIn wsX1_box (va_wsS RX1 52 yX1_isWithin wsX1_isWithin) := goodIn_app (goodIn_of _ (by decide +kernel)) ggX1_box_X1_isWithin
set_option maxRecDepth 20000 in
theorem ggX1_box_X0_fill : GoodIn wsX1_box wsX0_fill := goodIn_r _ [18, 19, 20, 21, 22, 23, 7, 24, 25, 38, 39, 40, 41, 42, 43, 44, 45, 46, 47, 48, 49, 50, 51] (by decide +kernel) (by decide +kernel)
set_option maxRecDepth 20000 in
theorem gX1_box_X0_fill : GoodIn wsX1_box (wsV RX1 58 RX0 yX0_fill wsX0_fill) := goodIn_app (goodIn_of _ (by decide +kernel)) ggX1_box_X0_fill
set_option maxRecDepth 20000 in
theorem ggX1_box_X0_countThere : GoodIn wsX1_box wsX0_countThere := goodIn_r _ [29, 10, 9, 30, 31, 32, 7, 33, 19, 21, 22, 23, 24, 25, 38, 39, 40, 41, 42, 43, 44, 45, 46, 47, 48, 49, 50, 51] (by decide +kernel) (by decide +kernel)
set_option maxRecDepth 20000 in
theorem gX1_box_X0_countThere : GoodIn wsX1_box (wsV RX1 62 RX0 yX0_countThere wsX0_countThere) := goodIn_app (goodIn_of _ (by decide +kernel)) ggX1_box_X0_countThere
theorem dX1_box_0 : decode cX1_box 0 = .ok (.aload_n 0, 1) := by decide +kernel
theorem dX1_box_1 : decode cX1_box 1 = .ok (.getfield 35, 3) := by decide +kernel
theorem dX1_box_4 : decode cX1_box 4 = .ok (.iload_n 1, 1) := by decide +kernel
theorem dX1_box_5 : decode cX1_box 5 = .ok (.iload_n 2, 1) := by decide +kernel
theorem dX1_box_6 : decode cX1_box 6 = .ok (.invokevirtual 39, 3) := by decide +kernel
theorem dX1_box_9 : decode cX1_box 9 = .ok (.ifCond .eq 16, 3) := by decide +kernel
theorem dX1_box_12 : decode cX1_box 12 = .ok (.aload_n 0, 1) := by decide +kernel
theorem dX1_box_13 : decode cX1_box 13 = .ok (.getfield 35, 3) := by decide +kernel
theorem dX1_box_16 : decode cX1_box 16 = .ok (.iload_n 3, 1) := by decide +kernel
theorem dX1_box_17 : decode cX1_box 17 = .ok (.iload 4, 2) := by decide +kernel
theorem dX1_box_19 : decode cX1_box 19 = .ok (.invokevirtual 39, 3) := by decide +kernel
theorem dX1_box_22 : decode cX1_box 22 = .ok (.ifCond .ne 13, 3) := by decide +kernel
theorem dX1_box_25 : decode cX1_box 25 = .ok (.new 43, 3) := by decide +kernel
theorem dX1_box_28 : decode cX1_box 28 = .ok (.dup, 1) := by decide +kernel
theorem dX1_box_29 : decode cX1_box 29 = .ok (.ldc 45, 2) := by decide +kernel
theorem dX1_box_31 : decode cX1_box 31 = .ok (.invokespecial 47, 3) := by decide +kernel
theorem dX1_box_34 : decode cX1_box 34 = .ok (.athrow, 1) := by decide +kernel
theorem dX1_box_35 : decode cX1_box 35 = .ok (.iload_n 1, 1) := by decide +kernel
theorem dX1_box_36 : decode cX1_box 36 = .ok (.iload_n 3, 1) := by decide +kernel
theorem dX1_box_37 : decode cX1_box 37 = .ok (.if_icmp .gt 9, 3) := by decide +kernel
theorem dX1_box_40 : decode cX1_box 40 = .ok (.iload_n 2, 1) := by decide +kernel
theorem dX1_box_41 : decode cX1_box 41 = .ok (.iload 4, 2) := by decide +kernel
theorem dX1_box_43 : decode cX1_box 43 = .ok (.if_icmp .le 13, 3) := by decide +kernel
theorem dX1_box_46 : decode cX1_box 46 = .ok (.new 43, 3) := by decide +kernel
theorem dX1_box_49 : decode cX1_box 49 = .ok (.dup, 1) := by decide +kernel
theorem dX1_box_50 : decode cX1_box 50 = .ok (.ldc 50, 2) := by decide +kernel
theorem dX1_box_52 : decode cX1_box 52 = .ok (.invokespecial 47, 3) := by decide +kernel
theorem dX1_box_55 : decode cX1_box 55 = .ok (.athrow, 1) := by decide +kernel
theorem dX1_box_56 : decode cX1_box 56 = .ok (.iload 5, 2) := by decide +kernel
theorem dX1_box_58 : decode cX1_box 58 = .ok (.iconst 0, 1) := by decide +kernel
theorem dX1_box_59 : decode cX1_box 59 = .ok (.bipush 20, 2) := by decide +kernel
theorem dX1_box_61 : decode cX1_box 61 = .ok (.invokestatic 52, 3) := by decide +kernel
theorem dX1_box_64 : decode cX1_box 64 = .ok (.ifCond .ne 13, 3) := by decide +kernel
theorem dX1_box_67 : decode cX1_box 67 = .ok (.new 43, 3) := by decide +kernel
theorem dX1_box_70 : decode cX1_box 70 = .ok (.dup, 1) := by decide +kernel
theorem dX1_box_71 : decode cX1_box 71 = .ok (.ldc 56, 2) := by decide +kernel
theorem dX1_box_73 : decode cX1_box 73 = .ok (.invokespecial 47, 3) := by decide +kernel
theorem dX1_box_76 : decode cX1_box 76 = .ok (.athrow, 1) := by decide +kernel
theorem dX1_box_77 : decode cX1_box 77 = .ok (.aload_n 0, 1) := by decide +kernel
theorem dX1_box_78 : decode cX1_box 78 = .ok (.getfield 35, 3) := by decide +kernel
theorem dX1_box_81 : decode cX1_box 81 = .ok (.iload_n 1, 1) := by decide +kernel
theorem dX1_box_82 : decode cX1_box 82 = .ok (.iload_n 2, 1) := by decide +kernel
theorem dX1_box_83 : decode cX1_box 83 = .ok (.iload_n 3, 1) := by decide +kernel
theorem dX1_box_84 : decode cX1_box 84 = .ok (.iload 4, 2) := by decide +kernel
theorem dX1_box_86 : decode cX1_box 86 = .ok (.iload 5, 2) := by decide +kernel
theorem dX1_box_88 : decode cX1_box 88 = .ok (.invokevirtual 58, 3) := by decide +kernel
theorem dX1_box_91 : decode cX1_box 91 = .ok (.aload_n 0, 1) := by decide +kernel
theorem dX1_box_92 : decode cX1_box 92 = .ok (.getfield 35, 3) := by decide +kernel
theorem dX1_box_95 : decode cX1_box 95 = .ok (.invokevirtual 62, 3) := by decide +kernel
theorem dX1_box_98 : decode cX1_box 98 = .ok (.ireturn, 1) := by decide +kernel
set_option maxRecDepth 20000 in
theorem ggX1_side_X1_isSide : GoodIn wsX1_side wsX1_isSide := goodIn_r _ [7, 8, 9, 6, 10] (by decide +kernel) (by decide +kernel)
set_option maxRecDepth 20000 in
theorem gX1_side_X1_isSide : GoodIn wsX1_side (va_wsS RX1 66 yX1_isSide wsX1_isSide) := goodIn_app (goodIn_of _ (by decide +kernel)) ggX1_side_X1_isSide
set_option maxRecDepth 20000 in
theorem ggX1_side_X1_isWithin : GoodIn wsX1_side wsX1_isWithin := goodIn_r _ [10] (by decide +kernel) (by decide +kernel)
set_option maxRecDepth 20000 in
theorem gX1_side_X1_isWithin : GoodIn wsX1_side (va_wsS RX1 52 yX1_isWithin wsX1_isWithin) := goodIn_app (goodIn_of _ (by decide +kernel)) ggX1_side_X1_isWithin
set_option maxRecDepth 20000 in
theorem ggX1_side_X0_changeSide : GoodIn wsX1_side wsX0_changeSide := goodIn_r _ [15, 16, 17, 18, 19, 20, 21, 22, 23, 14, 24, 25, 26, 27, 28, 29, 30, 31, 32, 33, 34, 35, 36, 37, 38, 39, 44, 45, 46, 47, 48, 49, 50, 51, 52, 53, 54, 55, 56, 57] (by decide +kernel) (by decide +kernel)
set_option maxRecDepth 20000 in
theorem gX1_side_X0_changeSide : GoodIn wsX1_side (wsV RX1 76 RX0 yX0_changeSide wsX0_changeSide) := goodIn_app (goodIn_of _ (by decide +kernel)) ggX1_side_X0_changeSide
theorem dX1_side_0 : decode cX1_side 0 = .ok (.iload_n 1, 1) := by decide +kernel
theorem dX1_side_1 : decode cX1_side 1 = .ok (.invokestatic 66, 3) := by decide +kernel
theorem dX1_side_4 : decode cX1_side 4 = .ok (.ifCond .ne 13, 3) := by decide +kernel
theorem dX1_side_7 : decode cX1_side 7 = .ok (.new 43, 3) := by decide +kernel
theorem dX1_side_10 : decode cX1_side 10 = .ok (.dup, 1) := by decide +kernel
theorem dX1_side_11 : decode cX1_side 11 = .ok (.ldc 70, 2) := by decide +kernel
theorem dX1_side_13 : decode cX1_side 13 = .ok (.invokespecial 47, 3) := by decide +kernel
theorem dX1_side_16 : decode cX1_side 16 = .ok (.athrow, 1) := by decide +kernel
theorem dX1_side_17 : decode cX1_side 17 = .ok (.iload_n 2, 1) := by decide +kernel
theorem dX1_side_18 : decode cX1_side 18 = .ok (.sipush (-10000), 3) := by decide +kernel
theorem dX1_side_21 : decode cX1_side 21 = .ok (.sipush 10000, 3) := by decide +kernel
theorem dX1_side_24 : decode cX1_side 24 = .ok (.invokestatic 52, 3) := by decide +kernel
theorem dX1_side_27 : decode cX1_side 27 = .ok (.ifCond .ne 13, 3) := by decide +kernel
theorem dX1_side_30 : decode cX1_side 30 = .ok (.new 43, 3) := by decide +kernel
theorem dX1_side_33 : decode cX1_side 33 = .ok (.dup, 1) := by decide +kernel
theorem dX1_side_34 : decode cX1_side 34 = .ok (.ldc 72, 2) := by decide +kernel
theorem dX1_side_36 : decode cX1_side 36 = .ok (.invokespecial 47, 3) := by decide +kernel
theorem dX1_side_39 : decode cX1_side 39 = .ok (.athrow, 1) := by decide +kernel
theorem dX1_side_40 : decode cX1_side 40 = .ok (.iload_n 3, 1) := by decide +kernel
theorem dX1_side_41 : decode cX1_side 41 = .ok (.iconst 0, 1) := by decide +kernel
theorem dX1_side_42 : decode cX1_side 42 = .ok (.bipush 20, 2) := by decide +kernel
theorem dX1_side_44 : decode cX1_side 44 = .ok (.invokestatic 52, 3) := by decide +kernel
theorem dX1_side_47 : decode cX1_side 47 = .ok (.ifCond .ne 13, 3) := by decide +kernel
theorem dX1_side_50 : decode cX1_side 50 = .ok (.new 43, 3) := by decide +kernel
theorem dX1_side_53 : decode cX1_side 53 = .ok (.dup, 1) := by decide +kernel
theorem dX1_side_54 : decode cX1_side 54 = .ok (.ldc 74, 2) := by decide +kernel
theorem dX1_side_56 : decode cX1_side 56 = .ok (.invokespecial 47, 3) := by decide +kernel
theorem dX1_side_59 : decode cX1_side 59 = .ok (.athrow, 1) := by decide +kernel
theorem dX1_side_60 : decode cX1_side 60 = .ok (.aload_n 0, 1) := by decide +kernel
theorem dX1_side_61 : decode cX1_side 61 = .ok (.getfield 35, 3) := by decide +kernel
theorem dX1_side_64 : decode cX1_side 64 = .ok (.iload_n 1, 1) := by decide +kernel
theorem dX1_side_65 : decode cX1_side 65 = .ok (.iload_n 2, 1) := by decide +kernel
theorem dX1_side_66 : decode cX1_side 66 = .ok (.iload_n 3, 1) := by decide +kernel
theorem dX1_side_67 : decode cX1_side 67 = .ok (.invokevirtual 76, 3) := by decide +kernel
theorem dX1_side_70 : decode cX1_side 70 = .ok (.ireturn, 1) := by decide +kernel
set_option maxRecDepth 20000 in
theorem ggX1_leads_X0_holds : GoodIn wsX1_leads wsX0_holds := goodIn_r _ [8, 9, 10, 25, 26, 27, 28, 29, 30, 31, 32, 33, 34, 35, 36, 37, 38] (by decide +kernel) (by decide +kernel)
set_option maxRecDepth 20000 in
theorem gX1_leads_X0_holds : GoodIn wsX1_leads (wsV RX1 39 RX0 yX0_holds wsX0_holds) := goodIn_app (goodIn_of _ (by decide +kernel)) ggX1_leads_X0_holds
set_option maxRecDepth 20000 in
theorem ggX1_leads_X0_leadsAt : GoodIn wsX1_leads wsX0_leadsAt := goodIn_r _ [14, 15, 16, 17, 18, 7, 19, 20, 25, 26, 27, 28, 29, 30, 31, 32, 33, 34, 35, 36, 37, 38] (by decide +kernel) (by decide +kernel)
set_option maxRecDepth 20000 in
theorem gX1_leads_X0_leadsAt : GoodIn wsX1_leads (wsV RX1 80 RX0 yX0_leadsAt wsX0_leadsAt) := goodIn_app (goodIn_of _ (by decide +kernel)) ggX1_leads_X0_leadsAt
theorem dX1_leads_0 : decode cX1_leads 0 = .ok (.aload_n 0, 1) := by decide +kernel
theorem dX1_leads_1 : decode cX1_leads 1 = .ok (.getfield 35, 3) := by decide +kernel
theorem dX1_leads_4 : decode cX1_leads 4 = .ok (.iload_n 1, 1) := by decide +kernel
theorem dX1_leads_5 : decode cX1_leads 5 = .ok (.iload_n 2, 1) := by decide +kernel
theorem dX1_leads_6 : decode cX1_leads 6 = .ok (.invokevirtual 39, 3) := by decide +kernel
theorem dX1_leads_9 : decode cX1_leads 9 = .ok (.ifCond .ne 13, 3) := by decide +kernel
theorem dX1_leads_12 : decode cX1_leads 12 = .ok (.new 43, 3) := by decide +kernel
theorem dX1_leads_15 : decode cX1_leads 15 = .ok (.dup, 1) := by decide +kernel
theorem dX1_leads_16 : decode cX1_leads 16 = .ok (.ldc 45, 2) := by decide +kernel
theorem dX1_leads_18 : decode cX1_leads 18 = .ok (.invokespecial 47, 3) := by decide +kernel
theorem dX1_leads_21 : decode cX1_leads 21 = .ok (.athrow, 1) := by decide +kernel
theorem dX1_leads_22 : decode cX1_leads 22 = .ok (.aload_n 0, 1) := by decide +kernel
theorem dX1_leads_23 : decode cX1_leads 23 = .ok (.getfield 35, 3) := by decide +kernel
theorem dX1_leads_26 : decode cX1_leads 26 = .ok (.iload_n 1, 1) := by decide +kernel
theorem dX1_leads_27 : decode cX1_leads 27 = .ok (.iload_n 2, 1) := by decide +kernel
theorem dX1_leads_28 : decode cX1_leads 28 = .ok (.invokevirtual 80, 3) := by decide +kernel
theorem dX1_leads_31 : decode cX1_leads 31 = .ok (.ireturn, 1) := by decide +kernel
set_option maxRecDepth 20000 in
theorem ggX1_warmth_X0_holds : GoodIn wsX1_warmth wsX0_holds := goodIn_r _ [8, 9, 10, 74, 75, 76, 77, 78, 79, 80, 81, 82, 83, 84, 85, 86, 87] (by decide +kernel) (by decide +kernel)
set_option maxRecDepth 20000 in
theorem gX1_warmth_X0_holds : GoodIn wsX1_warmth (wsV RX1 39 RX0 yX0_holds wsX0_holds) := goodIn_app (goodIn_of _ (by decide +kernel)) ggX1_warmth_X0_holds
set_option maxRecDepth 20000 in
theorem ggX1_warmth_X0_settle : GoodIn wsX1_warmth wsX0_settle := goodIn_r _ [14, 15, 9, 10, 16, 17, 18, 19, 20, 7, 21, 22, 23, 24, 25, 26, 27, 28, 29, 30, 31, 32, 33, 34, 35, 36, 37, 38, 39, 40, 41, 42, 43, 44, 45, 46, 47, 48, 49, 50, 51, 52, 53, 54, 55, 56, 57, 58, 59, 60, 61, 62, 63, 64, 74, 75, 76, 77, 78, 79, 80, 81, 82, 83, 84, 85, 86, 87] (by decide +kernel) (by decide +kernel)
set_option maxRecDepth 20000 in
theorem gX1_warmth_X0_settle : GoodIn wsX1_warmth (wsV RX1 83 RX0 yX0_settle wsX0_settle) := goodIn_app (goodIn_of _ (by decide +kernel)) ggX1_warmth_X0_settle
set_option maxRecDepth 20000 in
theorem ggX1_warmth_X0_warmthAt : GoodIn wsX1_warmth wsX0_warmthAt := goodIn_r _ [68, 36, 50, 69, 39, 40, 41, 7, 42, 38, 74, 75, 76, 77, 78, 79, 80, 81, 82, 83, 84, 85, 86, 87] (by decide +kernel) (by decide +kernel)
set_option maxRecDepth 20000 in
theorem gX1_warmth_X0_warmthAt : GoodIn wsX1_warmth (wsV RX1 86 RX0 yX0_warmthAt wsX0_warmthAt) := goodIn_app (goodIn_of _ (by decide +kernel)) ggX1_warmth_X0_warmthAt
theorem dX1_warmth_0 : decode cX1_warmth 0 = .ok (.aload_n 0, 1) := by decide +kernel
theorem dX1_warmth_1 : decode cX1_warmth 1 = .ok (.getfield 35, 3) := by decide +kernel
theorem dX1_warmth_4 : decode cX1_warmth 4 = .ok (.iload_n 1, 1) := by decide +kernel
theorem dX1_warmth_5 : decode cX1_warmth 5 = .ok (.iload_n 2, 1) := by decide +kernel
theorem dX1_warmth_6 : decode cX1_warmth 6 = .ok (.invokevirtual 39, 3) := by decide +kernel
theorem dX1_warmth_9 : decode cX1_warmth 9 = .ok (.ifCond .ne 13, 3) := by decide +kernel
theorem dX1_warmth_12 : decode cX1_warmth 12 = .ok (.new 43, 3) := by decide +kernel
theorem dX1_warmth_15 : decode cX1_warmth 15 = .ok (.dup, 1) := by decide +kernel
theorem dX1_warmth_16 : decode cX1_warmth 16 = .ok (.ldc 45, 2) := by decide +kernel
theorem dX1_warmth_18 : decode cX1_warmth 18 = .ok (.invokespecial 47, 3) := by decide +kernel
theorem dX1_warmth_21 : decode cX1_warmth 21 = .ok (.athrow, 1) := by decide +kernel
theorem dX1_warmth_22 : decode cX1_warmth 22 = .ok (.aload_n 0, 1) := by decide +kernel
theorem dX1_warmth_23 : decode cX1_warmth 23 = .ok (.getfield 35, 3) := by decide +kernel
theorem dX1_warmth_26 : decode cX1_warmth 26 = .ok (.invokevirtual 83, 3) := by decide +kernel
theorem dX1_warmth_29 : decode cX1_warmth 29 = .ok (.aload_n 0, 1) := by decide +kernel
theorem dX1_warmth_30 : decode cX1_warmth 30 = .ok (.getfield 35, 3) := by decide +kernel
theorem dX1_warmth_33 : decode cX1_warmth 33 = .ok (.iload_n 1, 1) := by decide +kernel
theorem dX1_warmth_34 : decode cX1_warmth 34 = .ok (.iload_n 2, 1) := by decide +kernel
theorem dX1_warmth_35 : decode cX1_warmth 35 = .ok (.invokevirtual 86, 3) := by decide +kernel
theorem dX1_warmth_38 : decode cX1_warmth 38 = .ok (.ireturn, 1) := by decide +kernel
set_option maxRecDepth 20000 in
theorem ggX1_flow_X1_isSide : GoodIn wsX1_flow wsX1_isSide := goodIn_r _ [7, 8, 9, 6, 10] (by decide +kernel) (by decide +kernel)
set_option maxRecDepth 20000 in
theorem gX1_flow_X1_isSide : GoodIn wsX1_flow (va_wsS RX1 66 yX1_isSide wsX1_isSide) := goodIn_app (goodIn_of _ (by decide +kernel)) ggX1_flow_X1_isSide
set_option maxRecDepth 20000 in
theorem ggX1_flow_X0_settle : GoodIn wsX1_flow wsX0_settle := goodIn_r _ [15, 16, 17, 18, 19, 20, 21, 22, 23, 14, 24, 25, 26, 27, 28, 29, 30, 31, 32, 33, 34, 35, 36, 37, 38, 39, 40, 41, 42, 43, 44, 45, 46, 47, 48, 49, 50, 51, 52, 53, 54, 55, 56, 57, 58, 59, 60, 61, 62, 63, 64, 65, 66, 67, 84, 85, 86, 87, 88, 89, 90, 91, 92, 93, 94, 95, 96, 97] (by decide +kernel) (by decide +kernel)
set_option maxRecDepth 20000 in
theorem gX1_flow_X0_settle : GoodIn wsX1_flow (wsV RX1 83 RX0 yX0_settle wsX0_settle) := goodIn_app (goodIn_of _ (by decide +kernel)) ggX1_flow_X0_settle
set_option maxRecDepth 20000 in
theorem ggX1_flow_X0_flowOf : GoodIn wsX1_flow wsX0_flowOf := goodIn_r _ [71, 39, 25, 26, 53, 72, 73, 74, 14, 75, 17, 18, 76, 77, 78, 79, 42, 43, 44, 45, 41, 46, 47, 48, 84, 85, 86, 87, 88, 89, 90, 91, 92, 93, 94, 95, 96, 97] (by decide +kernel) (by decide +kernel)
set_option maxRecDepth 20000 in
theorem gX1_flow_X0_flowOf : GoodIn wsX1_flow (wsV RX1 89 RX0 yX0_flowOf wsX0_flowOf) := goodIn_app (goodIn_of _ (by decide +kernel)) ggX1_flow_X0_flowOf
theorem dX1_flow_0 : decode cX1_flow 0 = .ok (.iload_n 1, 1) := by decide +kernel
theorem dX1_flow_1 : decode cX1_flow 1 = .ok (.invokestatic 66, 3) := by decide +kernel
theorem dX1_flow_4 : decode cX1_flow 4 = .ok (.ifCond .ne 13, 3) := by decide +kernel
theorem dX1_flow_7 : decode cX1_flow 7 = .ok (.new 43, 3) := by decide +kernel
theorem dX1_flow_10 : decode cX1_flow 10 = .ok (.dup, 1) := by decide +kernel
theorem dX1_flow_11 : decode cX1_flow 11 = .ok (.ldc 70, 2) := by decide +kernel
theorem dX1_flow_13 : decode cX1_flow 13 = .ok (.invokespecial 47, 3) := by decide +kernel
theorem dX1_flow_16 : decode cX1_flow 16 = .ok (.athrow, 1) := by decide +kernel
theorem dX1_flow_17 : decode cX1_flow 17 = .ok (.aload_n 0, 1) := by decide +kernel
theorem dX1_flow_18 : decode cX1_flow 18 = .ok (.getfield 35, 3) := by decide +kernel
theorem dX1_flow_21 : decode cX1_flow 21 = .ok (.invokevirtual 83, 3) := by decide +kernel
theorem dX1_flow_24 : decode cX1_flow 24 = .ok (.aload_n 0, 1) := by decide +kernel
theorem dX1_flow_25 : decode cX1_flow 25 = .ok (.getfield 35, 3) := by decide +kernel
theorem dX1_flow_28 : decode cX1_flow 28 = .ok (.iload_n 1, 1) := by decide +kernel
theorem dX1_flow_29 : decode cX1_flow 29 = .ok (.invokevirtual 89, 3) := by decide +kernel
theorem dX1_flow_32 : decode cX1_flow 32 = .ok (.lreturn, 1) := by decide +kernel
set_option maxRecDepth 20000 in
theorem ggX1_told_X1_isWithin : GoodIn wsX1_told wsX1_isWithin := goodIn_r _ [7] (by decide +kernel) (by decide +kernel)
set_option maxRecDepth 20000 in
theorem gX1_told_X1_isWithin : GoodIn wsX1_told (va_wsS RX1 52 yX1_isWithin wsX1_isWithin) := goodIn_app (goodIn_of _ (by decide +kernel)) ggX1_told_X1_isWithin
set_option maxRecDepth 20000 in
theorem ggX1_told_X0_settle : GoodIn wsX1_told wsX0_settle := goodIn_r _ [12, 13, 14, 15, 16, 17, 18, 19, 20, 11, 21, 22, 23, 24, 25, 26, 27, 28, 29, 30, 31, 32, 33, 34, 35, 36, 37, 38, 39, 40, 41, 42, 43, 44, 45, 46, 47, 48, 49, 50, 51, 52, 53, 54, 55, 56, 57, 58, 59, 60, 61, 62, 63, 64, 109, 110, 111, 112, 113, 114, 115, 116, 117, 118, 119, 120, 121, 122] (by decide +kernel) (by decide +kernel)
set_option maxRecDepth 20000 in
theorem gX1_told_X0_settle : GoodIn wsX1_told (wsV RX1 83 RX0 yX0_settle wsX0_settle) := goodIn_app (goodIn_of _ (by decide +kernel)) ggX1_told_X0_settle
set_option maxRecDepth 20000 in
theorem ggX1_told_X0_heat : GoodIn wsX1_told wsX0_heat := goodIn_r _ [68, 69, 70, 26, 71, 72, 73, 74, 11, 75, 36, 22, 23, 50, 76, 77, 78, 79, 14, 15, 80, 81, 82, 83, 39, 40, 41, 42, 38, 43, 44, 45, 109, 110, 111, 112, 113, 114, 115, 116, 117, 118, 119, 120, 121, 122] (by decide +kernel) (by decide +kernel)
set_option maxRecDepth 20000 in
theorem gX1_told_X0_heat : GoodIn wsX1_told (wsV RX1 95 RX0 yX0_heat wsX0_heat) := goodIn_app (goodIn_of _ (by decide +kernel)) ggX1_told_X0_heat
set_option maxRecDepth 20000 in
theorem ggX1_told_X0_rest : GoodIn wsX1_told wsX0_rest := goodIn_r _ [87, 72, 73, 74, 11, 75, 36, 22, 23, 50, 76, 77, 78, 79, 14, 15, 80, 81, 82, 83, 39, 40, 41, 42, 38, 43, 44, 45, 109, 110, 111, 112, 113, 114, 115, 116, 117, 118, 119, 120, 121, 122] (by decide +kernel) (by decide +kernel)
set_option maxRecDepth 20000 in
theorem gX1_told_X0_rest : GoodIn wsX1_told (wsV RX1 99 RX0 yX0_rest wsX0_rest) := goodIn_app (goodIn_of _ (by decide +kernel)) ggX1_told_X0_rest
set_option maxRecDepth 20000 in
theorem ggX1_told_X0_sumOfWarmths : GoodIn wsX1_told wsX0_sumOfWarmths := goodIn_r _ [91, 15, 14, 92, 93, 94, 11, 95, 36, 39, 40, 41, 42, 38, 96, 97, 98, 99, 50, 100, 109, 110, 111, 112, 113, 114, 115, 116, 117, 118, 119, 120, 121, 122] (by decide +kernel) (by decide +kernel)
set_option maxRecDepth 20000 in
theorem gX1_told_X0_sumOfWarmths : GoodIn wsX1_told (wsV RX1 102 RX0 yX0_sumOfWarmths wsX0_sumOfWarmths) := goodIn_app (goodIn_of _ (by decide +kernel)) ggX1_told_X0_sumOfWarmths
set_option maxRecDepth 20000 in
theorem ggX1_told_X0_countAlone : GoodIn wsX1_told wsX0_countAlone := goodIn_r _ [104, 15, 14, 55, 92, 93, 94, 11, 95, 36, 39, 40, 41, 42, 38, 109, 110, 111, 112, 113, 114, 115, 116, 117, 118, 119, 120, 121, 122] (by decide +kernel) (by decide +kernel)
set_option maxRecDepth 20000 in
theorem gX1_told_X0_countAlone : GoodIn wsX1_told (wsV RX1 105 RX0 yX0_countAlone wsX0_countAlone) := goodIn_app (goodIn_of _ (by decide +kernel)) ggX1_told_X0_countAlone
theorem dX1_told_0 : decode cX1_told 0 = .ok (.iload_n 1, 1) := by decide +kernel
theorem dX1_told_1 : decode cX1_told 1 = .ok (.iconst 0, 1) := by decide +kernel
theorem dX1_told_2 : decode cX1_told 2 = .ok (.iconst 3, 1) := by decide +kernel
theorem dX1_told_3 : decode cX1_told 3 = .ok (.invokestatic 52, 3) := by decide +kernel
theorem dX1_told_6 : decode cX1_told 6 = .ok (.ifCond .ne 13, 3) := by decide +kernel
theorem dX1_told_9 : decode cX1_told 9 = .ok (.new 43, 3) := by decide +kernel
theorem dX1_told_12 : decode cX1_told 12 = .ok (.dup, 1) := by decide +kernel
theorem dX1_told_13 : decode cX1_told 13 = .ok (.ldc 93, 2) := by decide +kernel
theorem dX1_told_15 : decode cX1_told 15 = .ok (.invokespecial 47, 3) := by decide +kernel
theorem dX1_told_18 : decode cX1_told 18 = .ok (.athrow, 1) := by decide +kernel
theorem dX1_told_19 : decode cX1_told 19 = .ok (.aload_n 0, 1) := by decide +kernel
theorem dX1_told_20 : decode cX1_told 20 = .ok (.getfield 35, 3) := by decide +kernel
theorem dX1_told_23 : decode cX1_told 23 = .ok (.invokevirtual 83, 3) := by decide +kernel
theorem dX1_told_26 : decode cX1_told 26 = .ok (.iload_n 1, 1) := by decide +kernel
theorem dX1_told_27 : decode cX1_told 27 = .ok (.tableswitch 49 0 2 #[25, 33, 41], 25) := by decide +kernel
theorem dX1_told_52 : decode cX1_told 52 = .ok (.aload_n 0, 1) := by decide +kernel
theorem dX1_told_53 : decode cX1_told 53 = .ok (.getfield 35, 3) := by decide +kernel
theorem dX1_told_56 : decode cX1_told 56 = .ok (.invokevirtual 95, 3) := by decide +kernel
theorem dX1_told_59 : decode cX1_told 59 = .ok (.lreturn, 1) := by decide +kernel
theorem dX1_told_60 : decode cX1_told 60 = .ok (.aload_n 0, 1) := by decide +kernel
theorem dX1_told_61 : decode cX1_told 61 = .ok (.getfield 35, 3) := by decide +kernel
theorem dX1_told_64 : decode cX1_told 64 = .ok (.invokevirtual 99, 3) := by decide +kernel
theorem dX1_told_67 : decode cX1_told 67 = .ok (.lreturn, 1) := by decide +kernel
theorem dX1_told_68 : decode cX1_told 68 = .ok (.aload_n 0, 1) := by decide +kernel
theorem dX1_told_69 : decode cX1_told 69 = .ok (.getfield 35, 3) := by decide +kernel
theorem dX1_told_72 : decode cX1_told 72 = .ok (.invokevirtual 102, 3) := by decide +kernel
theorem dX1_told_75 : decode cX1_told 75 = .ok (.lreturn, 1) := by decide +kernel
theorem dX1_told_76 : decode cX1_told 76 = .ok (.aload_n 0, 1) := by decide +kernel
theorem dX1_told_77 : decode cX1_told 77 = .ok (.getfield 35, 3) := by decide +kernel
theorem dX1_told_80 : decode cX1_told 80 = .ok (.invokevirtual 105, 3) := by decide +kernel
theorem dX1_told_83 : decode cX1_told 83 = .ok (.i2l, 1) := by decide +kernel
theorem dX1_told_84 : decode cX1_told 84 = .ok (.lreturn, 1) := by decide +kernel
set_option maxRecDepth 20000 in
theorem ggX1_least_X1_isSide : GoodIn wsX1_least wsX1_isSide := goodIn_r _ [8, 9, 10, 7, 11] (by decide +kernel) (by decide +kernel)
set_option maxRecDepth 20000 in
theorem gX1_least_X1_isSide : GoodIn wsX1_least (va_wsS RX1 66 yX1_isSide wsX1_isSide) := goodIn_app (goodIn_of _ (by decide +kernel)) ggX1_least_X1_isSide
set_option maxRecDepth 20000 in
theorem ggX1_least_X1_isWithin : GoodIn wsX1_least wsX1_isWithin := goodIn_r _ [11] (by decide +kernel) (by decide +kernel)
set_option maxRecDepth 20000 in
theorem gX1_least_X1_isWithin : GoodIn wsX1_least (va_wsS RX1 52 yX1_isWithin wsX1_isWithin) := goodIn_app (goodIn_of _ (by decide +kernel)) ggX1_least_X1_isWithin
set_option maxRecDepth 20000 in
theorem ggX1_least_X0_settle : GoodIn wsX1_least wsX0_settle := goodIn_r _ [16, 17, 18, 19, 20, 21, 22, 23, 24, 15, 25, 26, 27, 28, 29, 30, 31, 32, 33, 34, 35, 36, 37, 38, 39, 40, 41, 42, 43, 44, 45, 46, 47, 48, 49, 50, 51, 52, 53, 54, 55, 56, 57, 58, 59, 60, 61, 62, 63, 64, 65, 66, 67, 68, 90, 91, 92, 93, 94, 95, 96, 97, 98, 99, 100, 101, 102, 103] (by decide +kernel) (by decide +kernel)
set_option maxRecDepth 20000 in
theorem gX1_least_X0_settle : GoodIn wsX1_least (wsV RX1 83 RX0 yX0_settle wsX0_settle) := goodIn_app (goodIn_of _ (by decide +kernel)) ggX1_least_X0_settle
set_option maxRecDepth 20000 in
theorem ggX1_least_X0_coldestAlong : GoodIn wsX1_least wsX0_coldestAlong := goodIn_r _ [72, 40, 73, 74, 75, 15, 76, 18, 19, 77, 78, 79, 80, 43, 44, 45, 46, 42, 81, 82, 83, 84, 54, 90, 91, 92, 93, 94, 95, 96, 97, 98, 99, 100, 101, 102, 103] (by decide +kernel) (by decide +kernel)
set_option maxRecDepth 20000 in
theorem gX1_least_X0_coldestAlong : GoodIn wsX1_least (wsV RX1 108 RX0 yX0_coldestAlong wsX0_coldestAlong) := goodIn_app (goodIn_of _ (by decide +kernel)) ggX1_least_X0_coldestAlong
set_option maxRecDepth 20000 in
theorem ggX1_least_X0_warmthAlong : GoodIn wsX1_least wsX0_warmthAlong := goodIn_r _ [84, 54, 77, 78, 79, 15, 80, 18, 19, 43, 44, 45, 46, 42, 90, 91, 92, 93, 94, 95, 96, 97, 98, 99, 100, 101, 102, 103] (by decide +kernel) (by decide +kernel)
set_option maxRecDepth 20000 in
theorem gX1_least_X0_warmthAlong : GoodIn wsX1_least (wsV RX1 113 RX0 yX0_warmthAlong wsX0_warmthAlong) := goodIn_app (goodIn_of _ (by decide +kernel)) ggX1_least_X0_warmthAlong
theorem dX1_least_0 : decode cX1_least 0 = .ok (.iload_n 1, 1) := by decide +kernel
theorem dX1_least_1 : decode cX1_least 1 = .ok (.invokestatic 66, 3) := by decide +kernel
theorem dX1_least_4 : decode cX1_least 4 = .ok (.ifCond .ne 13, 3) := by decide +kernel
theorem dX1_least_7 : decode cX1_least 7 = .ok (.new 43, 3) := by decide +kernel
theorem dX1_least_10 : decode cX1_least 10 = .ok (.dup, 1) := by decide +kernel
theorem dX1_least_11 : decode cX1_least 11 = .ok (.ldc 70, 2) := by decide +kernel
theorem dX1_least_13 : decode cX1_least 13 = .ok (.invokespecial 47, 3) := by decide +kernel
theorem dX1_least_16 : decode cX1_least 16 = .ok (.athrow, 1) := by decide +kernel
theorem dX1_least_17 : decode cX1_least 17 = .ok (.iload_n 2, 1) := by decide +kernel
theorem dX1_least_18 : decode cX1_least 18 = .ok (.iconst 0, 1) := by decide +kernel
theorem dX1_least_19 : decode cX1_least 19 = .ok (.iconst 1, 1) := by decide +kernel
theorem dX1_least_20 : decode cX1_least 20 = .ok (.invokestatic 52, 3) := by decide +kernel
theorem dX1_least_23 : decode cX1_least 23 = .ok (.ifCond .ne 13, 3) := by decide +kernel
theorem dX1_least_26 : decode cX1_least 26 = .ok (.new 43, 3) := by decide +kernel
theorem dX1_least_29 : decode cX1_least 29 = .ok (.dup, 1) := by decide +kernel
theorem dX1_least_30 : decode cX1_least 30 = .ok (.ldc 93, 2) := by decide +kernel
theorem dX1_least_32 : decode cX1_least 32 = .ok (.invokespecial 47, 3) := by decide +kernel
theorem dX1_least_35 : decode cX1_least 35 = .ok (.athrow, 1) := by decide +kernel
theorem dX1_least_36 : decode cX1_least 36 = .ok (.aload_n 0, 1) := by decide +kernel
theorem dX1_least_37 : decode cX1_least 37 = .ok (.getfield 35, 3) := by decide +kernel
theorem dX1_least_40 : decode cX1_least 40 = .ok (.invokevirtual 83, 3) := by decide +kernel
theorem dX1_least_43 : decode cX1_least 43 = .ok (.aload_n 0, 1) := by decide +kernel
theorem dX1_least_44 : decode cX1_least 44 = .ok (.getfield 35, 3) := by decide +kernel
theorem dX1_least_47 : decode cX1_least 47 = .ok (.iload_n 1, 1) := by decide +kernel
theorem dX1_least_48 : decode cX1_least 48 = .ok (.invokevirtual 108, 3) := by decide +kernel
theorem dX1_least_51 : decode cX1_least 51 = .ok (.istore_n 3, 1) := by decide +kernel
theorem dX1_least_52 : decode cX1_least 52 = .ok (.iload_n 3, 1) := by decide +kernel
theorem dX1_least_53 : decode cX1_least 53 = .ok (.ifCond .ge 6, 3) := by decide +kernel
theorem dX1_least_56 : decode cX1_least 56 = .ok (.ldc 112, 2) := by decide +kernel
theorem dX1_least_58 : decode cX1_least 58 = .ok (.ireturn, 1) := by decide +kernel
theorem dX1_least_59 : decode cX1_least 59 = .ok (.iload_n 2, 1) := by decide +kernel
theorem dX1_least_60 : decode cX1_least 60 = .ok (.ifCond .ne 15, 3) := by decide +kernel
theorem dX1_least_63 : decode cX1_least 63 = .ok (.aload_n 0, 1) := by decide +kernel
theorem dX1_least_64 : decode cX1_least 64 = .ok (.getfield 35, 3) := by decide +kernel
theorem dX1_least_67 : decode cX1_least 67 = .ok (.iload_n 1, 1) := by decide +kernel
theorem dX1_least_68 : decode cX1_least 68 = .ok (.iload_n 3, 1) := by decide +kernel
theorem dX1_least_69 : decode cX1_least 69 = .ok (.invokevirtual 113, 3) := by decide +kernel
theorem dX1_least_72 : decode cX1_least 72 = .ok (.goto 4, 3) := by decide +kernel
theorem dX1_least_75 : decode cX1_least 75 = .ok (.iload_n 3, 1) := by decide +kernel
theorem dX1_least_76 : decode cX1_least 76 = .ok (.ireturn, 1) := by decide +kernel
set_option maxRecDepth 20000 in
theorem ggX1_factor_X1_isSide : GoodIn wsX1_factor wsX1_isSide := goodIn_r _ [7, 8, 9, 6, 10] (by decide +kernel) (by decide +kernel)
set_option maxRecDepth 20000 in
theorem gX1_factor_X1_isSide : GoodIn wsX1_factor (va_wsS RX1 66 yX1_isSide wsX1_isSide) := goodIn_app (goodIn_of _ (by decide +kernel)) ggX1_factor_X1_isSide
set_option maxRecDepth 20000 in
theorem ggX1_factor_X1_isWithin : GoodIn wsX1_factor wsX1_isWithin := goodIn_r _ [10] (by decide +kernel) (by decide +kernel)
set_option maxRecDepth 20000 in
theorem gX1_factor_X1_isWithin : GoodIn wsX1_factor (va_wsS RX1 52 yX1_isWithin wsX1_isWithin) := goodIn_app (goodIn_of _ (by decide +kernel)) ggX1_factor_X1_isWithin
set_option maxRecDepth 20000 in
theorem ggX1_factor_X0_settle : GoodIn wsX1_factor wsX0_settle := goodIn_r _ [15, 16, 17, 18, 19, 20, 21, 22, 23, 14, 24, 25, 26, 27, 28, 29, 30, 31, 32, 33, 34, 35, 36, 37, 38, 39, 40, 41, 42, 43, 44, 45, 46, 47, 48, 49, 50, 51, 52, 53, 54, 55, 56, 57, 58, 59, 60, 61, 62, 63, 64, 65, 66, 67, 99, 100, 101, 102, 103, 104, 105, 106, 107, 108, 109, 110, 111, 112] (by decide +kernel) (by decide +kernel)
set_option maxRecDepth 20000 in
theorem gX1_factor_X0_settle : GoodIn wsX1_factor (wsV RX1 83 RX0 yX0_settle wsX0_settle) := goodIn_app (goodIn_of _ (by decide +kernel)) ggX1_factor_X0_settle
set_option maxRecDepth 20000 in
theorem ggX1_factor_X0_coldestAlong : GoodIn wsX1_factor wsX0_coldestAlong := goodIn_r _ [71, 39, 72, 73, 74, 14, 75, 17, 18, 76, 77, 78, 79, 42, 43, 44, 45, 41, 80, 81, 82, 83, 53, 99, 100, 101, 102, 103, 104, 105, 106, 107, 108, 109, 110, 111, 112] (by decide +kernel) (by decide +kernel)
set_option maxRecDepth 20000 in
theorem gX1_factor_X0_coldestAlong : GoodIn wsX1_factor (wsV RX1 108 RX0 yX0_coldestAlong wsX0_coldestAlong) := goodIn_app (goodIn_of _ (by decide +kernel)) ggX1_factor_X0_coldestAlong
set_option maxRecDepth 20000 in
theorem ggX1_factor_X0_aboveLow : GoodIn wsX1_factor wsX0_aboveLow := goodIn_r _ [87, 20, 80, 81, 82, 14, 83, 53, 76, 77, 78, 79, 17, 18, 42, 43, 44, 45, 41, 99, 100, 101, 102, 103, 104, 105, 106, 107, 108, 109, 110, 111, 112] (by decide +kernel) (by decide +kernel)
set_option maxRecDepth 20000 in
theorem gX1_factor_X0_aboveLow : GoodIn wsX1_factor (wsV RX1 118 RX0 yX0_aboveLow wsX0_aboveLow) := goodIn_app (goodIn_of _ (by decide +kernel)) ggX1_factor_X0_aboveLow
set_option maxRecDepth 20000 in
theorem ggX1_factor_X0_highAboveLow : GoodIn wsX1_factor wsX0_highAboveLow := goodIn_r _ [91, 19, 20, 99, 100, 101, 102, 103, 104, 105, 106, 107, 108, 109, 110, 111, 112] (by decide +kernel) (by decide +kernel)
set_option maxRecDepth 20000 in
theorem gX1_factor_X0_highAboveLow : GoodIn wsX1_factor (wsV RX1 121 RX0 yX0_highAboveLow wsX0_highAboveLow) := goodIn_app (goodIn_of _ (by decide +kernel)) ggX1_factor_X0_highAboveLow
set_option maxRecDepth 20000 in
theorem ggX1_factor_X1_commonDivisor : GoodIn wsX1_factor wsX1_commonDivisor := goodIn_r _ [94] (by decide +kernel) (by decide +kernel)
set_option maxRecDepth 20000 in
theorem gX1_factor_X1_commonDivisor : GoodIn wsX1_factor (va_wsS RX1 124 yX1_commonDivisor wsX1_commonDivisor) := goodIn_app (goodIn_of _ (by decide +kernel)) ggX1_factor_X1_commonDivisor
theorem dX1_factor_0 : decode cX1_factor 0 = .ok (.iload_n 1, 1) := by decide +kernel
theorem dX1_factor_1 : decode cX1_factor 1 = .ok (.invokestatic 66, 3) := by decide +kernel
theorem dX1_factor_4 : decode cX1_factor 4 = .ok (.ifCond .ne 13, 3) := by decide +kernel
theorem dX1_factor_7 : decode cX1_factor 7 = .ok (.new 43, 3) := by decide +kernel
theorem dX1_factor_10 : decode cX1_factor 10 = .ok (.dup, 1) := by decide +kernel
theorem dX1_factor_11 : decode cX1_factor 11 = .ok (.ldc 70, 2) := by decide +kernel
theorem dX1_factor_13 : decode cX1_factor 13 = .ok (.invokespecial 47, 3) := by decide +kernel
theorem dX1_factor_16 : decode cX1_factor 16 = .ok (.athrow, 1) := by decide +kernel
theorem dX1_factor_17 : decode cX1_factor 17 = .ok (.iload_n 2, 1) := by decide +kernel
theorem dX1_factor_18 : decode cX1_factor 18 = .ok (.iconst 0, 1) := by decide +kernel
theorem dX1_factor_19 : decode cX1_factor 19 = .ok (.iconst 1, 1) := by decide +kernel
theorem dX1_factor_20 : decode cX1_factor 20 = .ok (.invokestatic 52, 3) := by decide +kernel
theorem dX1_factor_23 : decode cX1_factor 23 = .ok (.ifCond .ne 13, 3) := by decide +kernel
theorem dX1_factor_26 : decode cX1_factor 26 = .ok (.new 43, 3) := by decide +kernel
theorem dX1_factor_29 : decode cX1_factor 29 = .ok (.dup, 1) := by decide +kernel
theorem dX1_factor_30 : decode cX1_factor 30 = .ok (.ldc 116, 2) := by decide +kernel
theorem dX1_factor_32 : decode cX1_factor 32 = .ok (.invokespecial 47, 3) := by decide +kernel
theorem dX1_factor_35 : decode cX1_factor 35 = .ok (.athrow, 1) := by decide +kernel
theorem dX1_factor_36 : decode cX1_factor 36 = .ok (.aload_n 0, 1) := by decide +kernel
theorem dX1_factor_37 : decode cX1_factor 37 = .ok (.getfield 35, 3) := by decide +kernel
theorem dX1_factor_40 : decode cX1_factor 40 = .ok (.invokevirtual 83, 3) := by decide +kernel
theorem dX1_factor_43 : decode cX1_factor 43 = .ok (.aload_n 0, 1) := by decide +kernel
theorem dX1_factor_44 : decode cX1_factor 44 = .ok (.getfield 35, 3) := by decide +kernel
theorem dX1_factor_47 : decode cX1_factor 47 = .ok (.iload_n 1, 1) := by decide +kernel
theorem dX1_factor_48 : decode cX1_factor 48 = .ok (.invokevirtual 108, 3) := by decide +kernel
theorem dX1_factor_51 : decode cX1_factor 51 = .ok (.istore_n 3, 1) := by decide +kernel
theorem dX1_factor_52 : decode cX1_factor 52 = .ok (.iload_n 3, 1) := by decide +kernel
theorem dX1_factor_53 : decode cX1_factor 53 = .ok (.ifCond .ge 7, 3) := by decide +kernel
theorem dX1_factor_56 : decode cX1_factor 56 = .ok (.iconst 0, 1) := by decide +kernel
theorem dX1_factor_57 : decode cX1_factor 57 = .ok (.goto 12, 3) := by decide +kernel
theorem dX1_factor_60 : decode cX1_factor 60 = .ok (.aload_n 0, 1) := by decide +kernel
theorem dX1_factor_61 : decode cX1_factor 61 = .ok (.getfield 35, 3) := by decide +kernel
theorem dX1_factor_64 : decode cX1_factor 64 = .ok (.iload_n 1, 1) := by decide +kernel
theorem dX1_factor_65 : decode cX1_factor 65 = .ok (.iload_n 3, 1) := by decide +kernel
theorem dX1_factor_66 : decode cX1_factor 66 = .ok (.invokevirtual 118, 3) := by decide +kernel
theorem dX1_factor_69 : decode cX1_factor 69 = .ok (.istore 4, 2) := by decide +kernel
theorem dX1_factor_71 : decode cX1_factor 71 = .ok (.iload_n 3, 1) := by decide +kernel
theorem dX1_factor_72 : decode cX1_factor 72 = .ok (.ifCond .ge 7, 3) := by decide +kernel
theorem dX1_factor_75 : decode cX1_factor 75 = .ok (.iconst 0, 1) := by decide +kernel
theorem dX1_factor_76 : decode cX1_factor 76 = .ok (.goto 10, 3) := by decide +kernel
theorem dX1_factor_79 : decode cX1_factor 79 = .ok (.aload_n 0, 1) := by decide +kernel
theorem dX1_factor_80 : decode cX1_factor 80 = .ok (.getfield 35, 3) := by decide +kernel
theorem dX1_factor_83 : decode cX1_factor 83 = .ok (.invokevirtual 121, 3) := by decide +kernel
theorem dX1_factor_86 : decode cX1_factor 86 = .ok (.istore 5, 2) := by decide +kernel
theorem dX1_factor_88 : decode cX1_factor 88 = .ok (.iload 4, 2) := by decide +kernel
theorem dX1_factor_90 : decode cX1_factor 90 = .ok (.iload 5, 2) := by decide +kernel
theorem dX1_factor_92 : decode cX1_factor 92 = .ok (.invokestatic 124, 3) := by decide +kernel
theorem dX1_factor_95 : decode cX1_factor 95 = .ok (.istore 6, 2) := by decide +kernel
theorem dX1_factor_97 : decode cX1_factor 97 = .ok (.iload 5, 2) := by decide +kernel
theorem dX1_factor_99 : decode cX1_factor 99 = .ok (.ifCond .eq 8, 3) := by decide +kernel
theorem dX1_factor_102 : decode cX1_factor 102 = .ok (.iload 6, 2) := by decide +kernel
theorem dX1_factor_104 : decode cX1_factor 104 = .ok (.ifCond .ne 13, 3) := by decide +kernel
theorem dX1_factor_107 : decode cX1_factor 107 = .ok (.iload_n 2, 1) := by decide +kernel
theorem dX1_factor_108 : decode cX1_factor 108 = .ok (.ifCond .ne 7, 3) := by decide +kernel
theorem dX1_factor_111 : decode cX1_factor 111 = .ok (.iconst 0, 1) := by decide +kernel
theorem dX1_factor_112 : decode cX1_factor 112 = .ok (.goto 4, 3) := by decide +kernel
theorem dX1_factor_115 : decode cX1_factor 115 = .ok (.iconst 1, 1) := by decide +kernel
theorem dX1_factor_116 : decode cX1_factor 116 = .ok (.ireturn, 1) := by decide +kernel
theorem dX1_factor_117 : decode cX1_factor 117 = .ok (.iload_n 2, 1) := by decide +kernel
theorem dX1_factor_118 : decode cX1_factor 118 = .ok (.ifCond .ne 11, 3) := by decide +kernel
theorem dX1_factor_121 : decode cX1_factor 121 = .ok (.iload 4, 2) := by decide +kernel
theorem dX1_factor_123 : decode cX1_factor 123 = .ok (.iload 6, 2) := by decide +kernel
theorem dX1_factor_125 : decode cX1_factor 125 = .ok (.idiv, 1) := by decide +kernel
theorem dX1_factor_126 : decode cX1_factor 126 = .ok (.goto 8, 3) := by decide +kernel
theorem dX1_factor_129 : decode cX1_factor 129 = .ok (.iload 5, 2) := by decide +kernel
theorem dX1_factor_131 : decode cX1_factor 131 = .ok (.iload 6, 2) := by decide +kernel
theorem dX1_factor_133 : decode cX1_factor 133 = .ok (.idiv, 1) := by decide +kernel
theorem dX1_factor_134 : decode cX1_factor 134 = .ok (.ireturn, 1) := by decide +kernel
set_option maxRecDepth 20000 in
theorem ggX1_colder_X1_isWithin : GoodIn wsX1_colder wsX1_isWithin := goodIn_r _ [7] (by decide +kernel) (by decide +kernel)
set_option maxRecDepth 20000 in
theorem gX1_colder_X1_isWithin : GoodIn wsX1_colder (va_wsS RX1 52 yX1_isWithin wsX1_isWithin) := goodIn_app (goodIn_of _ (by decide +kernel)) ggX1_colder_X1_isWithin
set_option maxRecDepth 20000 in
theorem ggX1_colder_X0_settle : GoodIn wsX1_colder wsX0_settle := goodIn_r _ [12, 13, 14, 15, 16, 17, 18, 19, 20, 11, 21, 22, 23, 24, 25, 26, 27, 28, 29, 30, 31, 32, 33, 34, 35, 36, 37, 38, 39, 40, 41, 42, 43, 44, 45, 46, 47, 48, 49, 50, 51, 52, 53, 54, 55, 56, 57, 58, 59, 60, 61, 62, 63, 64, 82, 83, 84, 85, 86, 87, 88, 89, 90, 91, 92, 93, 94, 95] (by decide +kernel) (by decide +kernel)
set_option maxRecDepth 20000 in
theorem gX1_colder_X0_settle : GoodIn wsX1_colder (wsV RX1 83 RX0 yX0_settle wsX0_settle) := goodIn_app (goodIn_of _ (by decide +kernel)) ggX1_colder_X0_settle
set_option maxRecDepth 20000 in
theorem ggX1_colder_X0_countColder : GoodIn wsX1_colder wsX0_countColder := goodIn_r _ [68, 15, 14, 69, 70, 71, 11, 72, 36, 39, 40, 41, 42, 38, 73, 74, 75, 76, 50, 77, 82, 83, 84, 85, 86, 87, 88, 89, 90, 91, 92, 93, 94, 95] (by decide +kernel) (by decide +kernel)
set_option maxRecDepth 20000 in
theorem gX1_colder_X0_countColder : GoodIn wsX1_colder (wsV RX1 127 RX0 yX0_countColder wsX0_countColder) := goodIn_app (goodIn_of _ (by decide +kernel)) ggX1_colder_X0_countColder
theorem dX1_colder_0 : decode cX1_colder 0 = .ok (.iload_n 1, 1) := by decide +kernel
theorem dX1_colder_1 : decode cX1_colder 1 = .ok (.sipush (-10000), 3) := by decide +kernel
theorem dX1_colder_4 : decode cX1_colder 4 = .ok (.sipush 10000, 3) := by decide +kernel
theorem dX1_colder_7 : decode cX1_colder 7 = .ok (.invokestatic 52, 3) := by decide +kernel
theorem dX1_colder_10 : decode cX1_colder 10 = .ok (.ifCond .ne 13, 3) := by decide +kernel
theorem dX1_colder_13 : decode cX1_colder 13 = .ok (.new 43, 3) := by decide +kernel
theorem dX1_colder_16 : decode cX1_colder 16 = .ok (.dup, 1) := by decide +kernel
theorem dX1_colder_17 : decode cX1_colder 17 = .ok (.ldc 72, 2) := by decide +kernel
theorem dX1_colder_19 : decode cX1_colder 19 = .ok (.invokespecial 47, 3) := by decide +kernel
theorem dX1_colder_22 : decode cX1_colder 22 = .ok (.athrow, 1) := by decide +kernel
theorem dX1_colder_23 : decode cX1_colder 23 = .ok (.aload_n 0, 1) := by decide +kernel
theorem dX1_colder_24 : decode cX1_colder 24 = .ok (.getfield 35, 3) := by decide +kernel
theorem dX1_colder_27 : decode cX1_colder 27 = .ok (.invokevirtual 83, 3) := by decide +kernel
theorem dX1_colder_30 : decode cX1_colder 30 = .ok (.aload_n 0, 1) := by decide +kernel
theorem dX1_colder_31 : decode cX1_colder 31 = .ok (.getfield 35, 3) := by decide +kernel
theorem dX1_colder_34 : decode cX1_colder 34 = .ok (.iload_n 1, 1) := by decide +kernel
theorem dX1_colder_35 : decode cX1_colder 35 = .ok (.invokevirtual 127, 3) := by decide +kernel
theorem dX1_colder_38 : decode cX1_colder 38 = .ok (.ireturn, 1) := by decide +kernel
set_option maxRecDepth 20000 in
theorem ggX1_mirrored_X1_isWithin : GoodIn wsX1_mirrored wsX1_isWithin := goodIn_r _ [7] (by decide +kernel) (by decide +kernel)
set_option maxRecDepth 20000 in
theorem gX1_mirrored_X1_isWithin : GoodIn wsX1_mirrored (va_wsS RX1 52 yX1_isWithin wsX1_isWithin) := goodIn_app (goodIn_of _ (by decide +kernel)) ggX1_mirrored_X1_isWithin
set_option maxRecDepth 20000 in
theorem ggX1_mirrored_X0_settle : GoodIn wsX1_mirrored wsX0_settle := goodIn_r _ [12, 13, 14, 15, 16, 17, 18, 19, 20, 11, 21, 22, 23, 24, 25, 26, 27, 28, 29, 30, 31, 32, 33, 34, 35, 36, 37, 38, 39, 40, 41, 42, 43, 44, 45, 46, 47, 48, 49, 50, 51, 52, 53, 54, 55, 56, 57, 58, 59, 60, 61, 62, 63, 64, 82, 83, 84, 85, 86, 87, 88, 89, 90, 91, 92, 93, 94, 95] (by decide +kernel) (by decide +kernel)
set_option maxRecDepth 20000 in
theorem gX1_mirrored_X0_settle : GoodIn wsX1_mirrored (wsV RX1 83 RX0 yX0_settle wsX0_settle) := goodIn_app (goodIn_of _ (by decide +kernel)) ggX1_mirrored_X0_settle
set_option maxRecDepth 20000 in
theorem ggX1_mirrored_X0_rowsMirror : GoodIn wsX1_mirrored wsX0_rowsMirror := goodIn_r _ [68, 15, 14, 69, 70, 71, 11, 72, 36, 50, 73, 39, 40, 41, 42, 38, 82, 83, 84, 85, 86, 87, 88, 89, 90, 91, 92, 93, 94, 95] (by decide +kernel) (by decide +kernel)
set_option maxRecDepth 20000 in
theorem gX1_mirrored_X0_rowsMirror : GoodIn wsX1_mirrored (wsV RX1 132 RX0 yX0_rowsMirror wsX0_rowsMirror) := goodIn_app (goodIn_of _ (by decide +kernel)) ggX1_mirrored_X0_rowsMirror
set_option maxRecDepth 20000 in
theorem ggX1_mirrored_X0_columnsMirror : GoodIn wsX1_mirrored wsX0_columnsMirror := goodIn_r _ [77, 15, 14, 69, 70, 71, 11, 72, 36, 50, 73, 39, 40, 41, 42, 38, 82, 83, 84, 85, 86, 87, 88, 89, 90, 91, 92, 93, 94, 95] (by decide +kernel) (by decide +kernel)
set_option maxRecDepth 20000 in
theorem gX1_mirrored_X0_columnsMirror : GoodIn wsX1_mirrored (wsV RX1 136 RX0 yX0_columnsMirror wsX0_columnsMirror) := goodIn_app (goodIn_of _ (by decide +kernel)) ggX1_mirrored_X0_columnsMirror
theorem dX1_mirrored_0 : decode cX1_mirrored 0 = .ok (.iload_n 1, 1) := by decide +kernel
theorem dX1_mirrored_1 : decode cX1_mirrored 1 = .ok (.iconst 0, 1) := by decide +kernel
theorem dX1_mirrored_2 : decode cX1_mirrored 2 = .ok (.iconst 1, 1) := by decide +kernel
theorem dX1_mirrored_3 : decode cX1_mirrored 3 = .ok (.invokestatic 52, 3) := by decide +kernel
theorem dX1_mirrored_6 : decode cX1_mirrored 6 = .ok (.ifCond .ne 13, 3) := by decide +kernel
theorem dX1_mirrored_9 : decode cX1_mirrored 9 = .ok (.new 43, 3) := by decide +kernel
theorem dX1_mirrored_12 : decode cX1_mirrored 12 = .ok (.dup, 1) := by decide +kernel
theorem dX1_mirrored_13 : decode cX1_mirrored 13 = .ok (.ldc 130, 2) := by decide +kernel
theorem dX1_mirrored_15 : decode cX1_mirrored 15 = .ok (.invokespecial 47, 3) := by decide +kernel
theorem dX1_mirrored_18 : decode cX1_mirrored 18 = .ok (.athrow, 1) := by decide +kernel
theorem dX1_mirrored_19 : decode cX1_mirrored 19 = .ok (.aload_n 0, 1) := by decide +kernel
theorem dX1_mirrored_20 : decode cX1_mirrored 20 = .ok (.getfield 35, 3) := by decide +kernel
theorem dX1_mirrored_23 : decode cX1_mirrored 23 = .ok (.invokevirtual 83, 3) := by decide +kernel
theorem dX1_mirrored_26 : decode cX1_mirrored 26 = .ok (.iload_n 1, 1) := by decide +kernel
theorem dX1_mirrored_27 : decode cX1_mirrored 27 = .ok (.ifCond .ne 13, 3) := by decide +kernel
theorem dX1_mirrored_30 : decode cX1_mirrored 30 = .ok (.aload_n 0, 1) := by decide +kernel
theorem dX1_mirrored_31 : decode cX1_mirrored 31 = .ok (.getfield 35, 3) := by decide +kernel
theorem dX1_mirrored_34 : decode cX1_mirrored 34 = .ok (.invokevirtual 132, 3) := by decide +kernel
theorem dX1_mirrored_37 : decode cX1_mirrored 37 = .ok (.goto 10, 3) := by decide +kernel
theorem dX1_mirrored_40 : decode cX1_mirrored 40 = .ok (.aload_n 0, 1) := by decide +kernel
theorem dX1_mirrored_41 : decode cX1_mirrored 41 = .ok (.getfield 35, 3) := by decide +kernel
theorem dX1_mirrored_44 : decode cX1_mirrored 44 = .ok (.invokevirtual 136, 3) := by decide +kernel
theorem dX1_mirrored_47 : decode cX1_mirrored 47 = .ok (.ireturn, 1) := by decide +kernel
set_option maxRecDepth 20000 in
theorem ggX1_joint_X0_settle : GoodIn wsX1_joint wsX0_settle := goodIn_r _ [11, 12, 13, 14, 15, 16, 17, 18, 19, 10, 20, 21, 22, 23, 24, 25, 26, 27, 28, 29, 30, 31, 32, 33, 34, 35, 36, 37, 38, 39, 40, 41, 42, 43, 44, 45, 46, 47, 48, 49, 50, 51, 52, 53, 54, 55, 56, 57, 58, 59, 60, 61, 62, 63, 87, 88, 89, 90, 91, 92, 93, 94, 95, 96, 97, 98, 99, 100] (by decide +kernel) (by decide +kernel)
set_option maxRecDepth 20000 in
theorem gX1_joint_X0_settle : GoodIn wsX1_joint (wsV RX1 83 RX0 yX0_settle wsX0_settle) := goodIn_app (goodIn_of _ (by decide +kernel)) ggX1_joint_X0_settle
set_option maxRecDepth 20000 in
theorem ggX1_joint_X0_heat : GoodIn wsX1_joint wsX0_heat := goodIn_r _ [67, 68, 69, 25, 70, 71, 72, 73, 10, 74, 35, 21, 22, 49, 75, 76, 77, 78, 13, 14, 79, 80, 81, 82, 38, 39, 40, 41, 37, 42, 43, 44, 87, 88, 89, 90, 91, 92, 93, 94, 95, 96, 97, 98, 99, 100] (by decide +kernel) (by decide +kernel)
set_option maxRecDepth 20000 in
theorem gX1_joint_X0_heat : GoodIn wsX1_joint (wsV RX1 95 RX0 yX0_heat wsX0_heat) := goodIn_app (goodIn_of _ (by decide +kernel)) ggX1_joint_X0_heat
theorem dX1_joint_0 : decode cX1_joint 0 = .ok (.aload_n 0, 1) := by decide +kernel
theorem dX1_joint_1 : decode cX1_joint 1 = .ok (.getfield 17, 3) := by decide +kernel
theorem dX1_joint_4 : decode cX1_joint 4 = .ok (.bipush 10, 2) := by decide +kernel
theorem dX1_joint_6 : decode cX1_joint 6 = .ok (.if_icmp .lt 13, 3) := by decide +kernel
theorem dX1_joint_9 : decode cX1_joint 9 = .ok (.new 139, 3) := by decide +kernel
theorem dX1_joint_12 : decode cX1_joint 12 = .ok (.dup, 1) := by decide +kernel
theorem dX1_joint_13 : decode cX1_joint 13 = .ok (.ldc 141, 2) := by decide +kernel
theorem dX1_joint_15 : decode cX1_joint 15 = .ok (.invokespecial 143, 3) := by decide +kernel
theorem dX1_joint_18 : decode cX1_joint 18 = .ok (.athrow, 1) := by decide +kernel
theorem dX1_joint_19 : decode cX1_joint 19 = .ok (.aload_n 0, 1) := by decide +kernel
theorem dX1_joint_20 : decode cX1_joint 20 = .ok (.getfield 35, 3) := by decide +kernel
theorem dX1_joint_23 : decode cX1_joint 23 = .ok (.invokevirtual 83, 3) := by decide +kernel
theorem dX1_joint_26 : decode cX1_joint 26 = .ok (.aload_n 0, 1) := by decide +kernel
theorem dX1_joint_27 : decode cX1_joint 27 = .ok (.getfield 9, 3) := by decide +kernel
theorem dX1_joint_30 : decode cX1_joint 30 = .ok (.aload_n 0, 1) := by decide +kernel
theorem dX1_joint_31 : decode cX1_joint 31 = .ok (.getfield 17, 3) := by decide +kernel
theorem dX1_joint_34 : decode cX1_joint 34 = .ok (.aload_n 0, 1) := by decide +kernel
theorem dX1_joint_35 : decode cX1_joint 35 = .ok (.getfield 35, 3) := by decide +kernel
theorem dX1_joint_38 : decode cX1_joint 38 = .ok (.invokevirtual 95, 3) := by decide +kernel
theorem dX1_joint_41 : decode cX1_joint 41 = .ok (.lastore, 1) := by decide +kernel
theorem dX1_joint_42 : decode cX1_joint 42 = .ok (.aload_n 0, 1) := by decide +kernel
theorem dX1_joint_43 : decode cX1_joint 43 = .ok (.getfield 13, 3) := by decide +kernel
theorem dX1_joint_46 : decode cX1_joint 46 = .ok (.aload_n 0, 1) := by decide +kernel
theorem dX1_joint_47 : decode cX1_joint 47 = .ok (.getfield 17, 3) := by decide +kernel
theorem dX1_joint_50 : decode cX1_joint 50 = .ok (.iconst 0, 1) := by decide +kernel
theorem dX1_joint_51 : decode cX1_joint 51 = .ok (.iastore, 1) := by decide +kernel
theorem dX1_joint_52 : decode cX1_joint 52 = .ok (.aload_n 0, 1) := by decide +kernel
theorem dX1_joint_53 : decode cX1_joint 53 = .ok (.dup, 1) := by decide +kernel
theorem dX1_joint_54 : decode cX1_joint 54 = .ok (.getfield 17, 3) := by decide +kernel
theorem dX1_joint_57 : decode cX1_joint 57 = .ok (.iconst 1, 1) := by decide +kernel
theorem dX1_joint_58 : decode cX1_joint 58 = .ok (.iadd, 1) := by decide +kernel
theorem dX1_joint_59 : decode cX1_joint 59 = .ok (.putfield 17, 3) := by decide +kernel
theorem dX1_joint_62 : decode cX1_joint 62 = .ok (.aload_n 0, 1) := by decide +kernel
theorem dX1_joint_63 : decode cX1_joint 63 = .ok (.getfield 17, 3) := by decide +kernel
theorem dX1_joint_66 : decode cX1_joint 66 = .ok (.iconst 1, 1) := by decide +kernel
theorem dX1_joint_67 : decode cX1_joint 67 = .ok (.isub, 1) := by decide +kernel
theorem dX1_joint_68 : decode cX1_joint 68 = .ok (.ireturn, 1) := by decide +kernel
set_option maxRecDepth 20000 in
theorem ggX1_length_X1_isJoint : GoodIn wsX1_length wsX1_isJoint := goodIn_r _ [8, 9, 10, 11, 7, 12, 13, 14, 15, 16] (by decide +kernel) (by decide +kernel)
set_option maxRecDepth 20000 in
theorem gX1_length_X1_isJoint : GoodIn wsX1_length (wsV RX1 144 RX1 yX1_isJoint wsX1_isJoint) := goodIn_app (goodIn_of _ (by decide +kernel)) ggX1_length_X1_isJoint
set_option maxRecDepth 20000 in
theorem ggX1_length_X1_isWithin : GoodIn wsX1_length wsX1_isWithin := goodIn_r _ [12] (by decide +kernel) (by decide +kernel)
set_option maxRecDepth 20000 in
theorem gX1_length_X1_isWithin : GoodIn wsX1_length (va_wsS RX1 52 yX1_isWithin wsX1_isWithin) := goodIn_app (goodIn_of _ (by decide +kernel)) ggX1_length_X1_isWithin
theorem dX1_length_0 : decode cX1_length 0 = .ok (.aload_n 0, 1) := by decide +kernel
theorem dX1_length_1 : decode cX1_length 1 = .ok (.iload_n 1, 1) := by decide +kernel
theorem dX1_length_2 : decode cX1_length 2 = .ok (.invokevirtual 144, 3) := by decide +kernel
theorem dX1_length_5 : decode cX1_length 5 = .ok (.ifCond .ne 13, 3) := by decide +kernel
theorem dX1_length_8 : decode cX1_length 8 = .ok (.new 43, 3) := by decide +kernel
theorem dX1_length_11 : decode cX1_length 11 = .ok (.dup, 1) := by decide +kernel
theorem dX1_length_12 : decode cX1_length 12 = .ok (.ldc 147, 2) := by decide +kernel
theorem dX1_length_14 : decode cX1_length 14 = .ok (.invokespecial 47, 3) := by decide +kernel
theorem dX1_length_17 : decode cX1_length 17 = .ok (.athrow, 1) := by decide +kernel
theorem dX1_length_18 : decode cX1_length 18 = .ok (.iload_n 2, 1) := by decide +kernel
theorem dX1_length_19 : decode cX1_length 19 = .ok (.iconst 0, 1) := by decide +kernel
theorem dX1_length_20 : decode cX1_length 20 = .ok (.sipush 1000, 3) := by decide +kernel
theorem dX1_length_23 : decode cX1_length 23 = .ok (.invokestatic 52, 3) := by decide +kernel
theorem dX1_length_26 : decode cX1_length 26 = .ok (.ifCond .ne 13, 3) := by decide +kernel
theorem dX1_length_29 : decode cX1_length 29 = .ok (.new 43, 3) := by decide +kernel
theorem dX1_length_32 : decode cX1_length 32 = .ok (.dup, 1) := by decide +kernel
theorem dX1_length_33 : decode cX1_length 33 = .ok (.ldc 149, 2) := by decide +kernel
theorem dX1_length_35 : decode cX1_length 35 = .ok (.invokespecial 47, 3) := by decide +kernel
theorem dX1_length_38 : decode cX1_length 38 = .ok (.athrow, 1) := by decide +kernel
theorem dX1_length_39 : decode cX1_length 39 = .ok (.aload_n 0, 1) := by decide +kernel
theorem dX1_length_40 : decode cX1_length 40 = .ok (.getfield 13, 3) := by decide +kernel
theorem dX1_length_43 : decode cX1_length 43 = .ok (.iload_n 1, 1) := by decide +kernel
theorem dX1_length_44 : decode cX1_length 44 = .ok (.iaload, 1) := by decide +kernel
theorem dX1_length_45 : decode cX1_length 45 = .ok (.istore_n 3, 1) := by decide +kernel
theorem dX1_length_46 : decode cX1_length 46 = .ok (.aload_n 0, 1) := by decide +kernel
theorem dX1_length_47 : decode cX1_length 47 = .ok (.getfield 13, 3) := by decide +kernel
theorem dX1_length_50 : decode cX1_length 50 = .ok (.iload_n 1, 1) := by decide +kernel
theorem dX1_length_51 : decode cX1_length 51 = .ok (.iload_n 2, 1) := by decide +kernel
theorem dX1_length_52 : decode cX1_length 52 = .ok (.iastore, 1) := by decide +kernel
theorem dX1_length_53 : decode cX1_length 53 = .ok (.iload_n 3, 1) := by decide +kernel
theorem dX1_length_54 : decode cX1_length 54 = .ok (.ireturn, 1) := by decide +kernel
set_option maxRecDepth 20000 in
theorem ggX1_differs_X1_isJoint : GoodIn wsX1_differs wsX1_isJoint := goodIn_r _ [9, 10, 11, 12, 8, 13, 90, 91, 92, 93] (by decide +kernel) (by decide +kernel)
set_option maxRecDepth 20000 in
theorem gX1_differs_X1_isJoint : GoodIn wsX1_differs (wsV RX1 144 RX1 yX1_isJoint wsX1_isJoint) := goodIn_app (goodIn_of _ (by decide +kernel)) ggX1_differs_X1_isJoint
set_option maxRecDepth 20000 in
theorem ggX1_differs_X0_settle : GoodIn wsX1_differs wsX0_settle := goodIn_r _ [18, 19, 20, 21, 22, 23, 24, 25, 26, 17, 27, 28, 29, 30, 31, 32, 33, 34, 35, 36, 37, 38, 39, 40, 41, 42, 43, 44, 45, 46, 47, 48, 49, 50, 51, 52, 53, 54, 55, 56, 57, 58, 59, 60, 61, 62, 63, 64, 65, 66, 67, 68, 69, 70, 94, 95, 96, 97, 98, 99, 100, 101, 102, 103, 104, 105, 106, 107] (by decide +kernel) (by decide +kernel)
set_option maxRecDepth 20000 in
theorem gX1_differs_X0_settle : GoodIn wsX1_differs (wsV RX1 83 RX0 yX0_settle wsX0_settle) := goodIn_app (goodIn_of _ (by decide +kernel)) ggX1_differs_X0_settle
set_option maxRecDepth 20000 in
theorem ggX1_differs_X0_heat : GoodIn wsX1_differs wsX0_heat := goodIn_r _ [74, 75, 76, 32, 77, 78, 79, 80, 17, 81, 42, 28, 29, 56, 82, 83, 84, 85, 20, 21, 86, 87, 88, 89, 45, 46, 47, 48, 44, 49, 50, 51, 94, 95, 96, 97, 98, 99, 100, 101, 102, 103, 104, 105, 106, 107] (by decide +kernel) (by decide +kernel)
set_option maxRecDepth 20000 in
theorem gX1_differs_X0_heat : GoodIn wsX1_differs (wsV RX1 95 RX0 yX0_heat wsX0_heat) := goodIn_app (goodIn_of _ (by decide +kernel)) ggX1_differs_X0_heat
theorem dX1_differs_0 : decode cX1_differs 0 = .ok (.aload_n 0, 1) := by decide +kernel
theorem dX1_differs_1 : decode cX1_differs 1 = .ok (.iload_n 1, 1) := by decide +kernel
theorem dX1_differs_2 : decode cX1_differs 2 = .ok (.invokevirtual 144, 3) := by decide +kernel
theorem dX1_differs_5 : decode cX1_differs 5 = .ok (.ifCond .ne 13, 3) := by decide +kernel
theorem dX1_differs_8 : decode cX1_differs 8 = .ok (.new 43, 3) := by decide +kernel
theorem dX1_differs_11 : decode cX1_differs 11 = .ok (.dup, 1) := by decide +kernel
theorem dX1_differs_12 : decode cX1_differs 12 = .ok (.ldc 147, 2) := by decide +kernel
theorem dX1_differs_14 : decode cX1_differs 14 = .ok (.invokespecial 47, 3) := by decide +kernel
theorem dX1_differs_17 : decode cX1_differs 17 = .ok (.athrow, 1) := by decide +kernel
theorem dX1_differs_18 : decode cX1_differs 18 = .ok (.aload_n 0, 1) := by decide +kernel
theorem dX1_differs_19 : decode cX1_differs 19 = .ok (.getfield 35, 3) := by decide +kernel
theorem dX1_differs_22 : decode cX1_differs 22 = .ok (.invokevirtual 83, 3) := by decide +kernel
theorem dX1_differs_25 : decode cX1_differs 25 = .ok (.aload_n 0, 1) := by decide +kernel
theorem dX1_differs_26 : decode cX1_differs 26 = .ok (.getfield 35, 3) := by decide +kernel
theorem dX1_differs_29 : decode cX1_differs 29 = .ok (.invokevirtual 95, 3) := by decide +kernel
theorem dX1_differs_32 : decode cX1_differs 32 = .ok (.aload_n 0, 1) := by decide +kernel
theorem dX1_differs_33 : decode cX1_differs 33 = .ok (.getfield 9, 3) := by decide +kernel
theorem dX1_differs_36 : decode cX1_differs 36 = .ok (.iload_n 1, 1) := by decide +kernel
theorem dX1_differs_37 : decode cX1_differs 37 = .ok (.laload, 1) := by decide +kernel
theorem dX1_differs_38 : decode cX1_differs 38 = .ok (.lsub, 1) := by decide +kernel
theorem dX1_differs_39 : decode cX1_differs 39 = .ok (.lreturn, 1) := by decide +kernel
theorem dX1_sum_0 : decode cX1_sum 0 = .ok (.lconst 0, 1) := by decide +kernel
theorem dX1_sum_1 : decode cX1_sum 1 = .ok (.lstore_n 1, 1) := by decide +kernel
theorem dX1_sum_2 : decode cX1_sum 2 = .ok (.iconst 0, 1) := by decide +kernel
theorem dX1_sum_3 : decode cX1_sum 3 = .ok (.istore_n 3, 1) := by decide +kernel
theorem dX1_sum_4 : decode cX1_sum 4 = .ok (.iload_n 3, 1) := by decide +kernel
theorem dX1_sum_5 : decode cX1_sum 5 = .ok (.aload_n 0, 1) := by decide +kernel
theorem dX1_sum_6 : decode cX1_sum 6 = .ok (.getfield 17, 3) := by decide +kernel
theorem dX1_sum_9 : decode cX1_sum 9 = .ok (.if_icmp .ge 26, 3) := by decide +kernel
theorem dX1_sum_12 : decode cX1_sum 12 = .ok (.lload_n 1, 1) := by decide +kernel
theorem dX1_sum_13 : decode cX1_sum 13 = .ok (.aload_n 0, 1) := by decide +kernel
theorem dX1_sum_14 : decode cX1_sum 14 = .ok (.getfield 9, 3) := by decide +kernel
theorem dX1_sum_17 : decode cX1_sum 17 = .ok (.iload_n 3, 1) := by decide +kernel
theorem dX1_sum_18 : decode cX1_sum 18 = .ok (.laload, 1) := by decide +kernel
theorem dX1_sum_19 : decode cX1_sum 19 = .ok (.aload_n 0, 1) := by decide +kernel
theorem dX1_sum_20 : decode cX1_sum 20 = .ok (.getfield 13, 3) := by decide +kernel
theorem dX1_sum_23 : decode cX1_sum 23 = .ok (.iload_n 3, 1) := by decide +kernel
theorem dX1_sum_24 : decode cX1_sum 24 = .ok (.iaload, 1) := by decide +kernel
theorem dX1_sum_25 : decode cX1_sum 25 = .ok (.i2l, 1) := by decide +kernel
theorem dX1_sum_26 : decode cX1_sum 26 = .ok (.lmul, 1) := by decide +kernel
theorem dX1_sum_27 : decode cX1_sum 27 = .ok (.ladd, 1) := by decide +kernel
theorem dX1_sum_28 : decode cX1_sum 28 = .ok (.lstore_n 1, 1) := by decide +kernel
theorem dX1_sum_29 : decode cX1_sum 29 = .ok (.iinc 3 1, 3) := by decide +kernel
theorem dX1_sum_32 : decode cX1_sum 32 = .ok (.goto (-28), 3) := by decide +kernel
theorem dX1_sum_35 : decode cX1_sum 35 = .ok (.lload_n 1, 1) := by decide +kernel
theorem dX1_sum_36 : decode cX1_sum 36 = .ok (.lreturn, 1) := by decide +kernel
set_option maxRecDepth 20000 in
theorem ggX1_isJoint_X1_isWithin : GoodIn wsX1_isJoint wsX1_isWithin := goodIn_r _ [5] (by decide +kernel) (by decide +kernel)
set_option maxRecDepth 20000 in
theorem gX1_isJoint_X1_isWithin : GoodIn wsX1_isJoint (va_wsS RX1 52 yX1_isWithin wsX1_isWithin) := goodIn_app (goodIn_of _ (by decide +kernel)) ggX1_isJoint_X1_isWithin
theorem dX1_isJoint_0 : decode cX1_isJoint 0 = .ok (.iload_n 1, 1) := by decide +kernel
theorem dX1_isJoint_1 : decode cX1_isJoint 1 = .ok (.iconst 0, 1) := by decide +kernel
theorem dX1_isJoint_2 : decode cX1_isJoint 2 = .ok (.aload_n 0, 1) := by decide +kernel
theorem dX1_isJoint_3 : decode cX1_isJoint 3 = .ok (.getfield 17, 3) := by decide +kernel
theorem dX1_isJoint_6 : decode cX1_isJoint 6 = .ok (.iconst 1, 1) := by decide +kernel
theorem dX1_isJoint_7 : decode cX1_isJoint 7 = .ok (.isub, 1) := by decide +kernel
theorem dX1_isJoint_8 : decode cX1_isJoint 8 = .ok (.invokestatic 52, 3) := by decide +kernel
theorem dX1_isJoint_11 : decode cX1_isJoint 11 = .ok (.ireturn, 1) := by decide +kernel
set_option maxRecDepth 20000 in
theorem ggX1_isSide_X1_isWithin : GoodIn wsX1_isSide wsX1_isWithin := goodIn_r _ [4] (by decide +kernel) (by decide +kernel)
set_option maxRecDepth 20000 in
theorem gX1_isSide_X1_isWithin : GoodIn wsX1_isSide (va_wsS RX1 52 yX1_isWithin wsX1_isWithin) := goodIn_app (goodIn_of _ (by decide +kernel)) ggX1_isSide_X1_isWithin
theorem dX1_isSide_0 : decode cX1_isSide 0 = .ok (.iload_n 0, 1) := by decide +kernel
theorem dX1_isSide_1 : decode cX1_isSide 1 = .ok (.iconst 0, 1) := by decide +kernel
theorem dX1_isSide_2 : decode cX1_isSide 2 = .ok (.iconst 3, 1) := by decide +kernel
theorem dX1_isSide_3 : decode cX1_isSide 3 = .ok (.invokestatic 52, 3) := by decide +kernel
theorem dX1_isSide_6 : decode cX1_isSide 6 = .ok (.ireturn, 1) := by decide +kernel
theorem dX1_isWithin_0 : decode cX1_isWithin 0 = .ok (.iload_n 0, 1) := by decide +kernel
theorem dX1_isWithin_1 : decode cX1_isWithin 1 = .ok (.iload_n 1, 1) := by decide +kernel
theorem dX1_isWithin_2 : decode cX1_isWithin 2 = .ok (.if_icmp .lt 12, 3) := by decide +kernel
theorem dX1_isWithin_5 : decode cX1_isWithin 5 = .ok (.iload_n 0, 1) := by decide +kernel
theorem dX1_isWithin_6 : decode cX1_isWithin 6 = .ok (.iload_n 2, 1) := by decide +kernel
theorem dX1_isWithin_7 : decode cX1_isWithin 7 = .ok (.if_icmp .gt 7, 3) := by decide +kernel
theorem dX1_isWithin_10 : decode cX1_isWithin 10 = .ok (.iconst 1, 1) := by decide +kernel
theorem dX1_isWithin_11 : decode cX1_isWithin 11 = .ok (.goto 4, 3) := by decide +kernel
theorem dX1_isWithin_14 : decode cX1_isWithin 14 = .ok (.iconst 0, 1) := by decide +kernel
theorem dX1_isWithin_15 : decode cX1_isWithin 15 = .ok (.ireturn, 1) := by decide +kernel
theorem dX1_commonDivisor_0 : decode cX1_commonDivisor 0 = .ok (.iload_n 0, 1) := by decide +kernel
theorem dX1_commonDivisor_1 : decode cX1_commonDivisor 1 = .ok (.istore_n 2, 1) := by decide +kernel
theorem dX1_commonDivisor_2 : decode cX1_commonDivisor 2 = .ok (.iload_n 1, 1) := by decide +kernel
theorem dX1_commonDivisor_3 : decode cX1_commonDivisor 3 = .ok (.istore_n 3, 1) := by decide +kernel
theorem dX1_commonDivisor_4 : decode cX1_commonDivisor 4 = .ok (.iconst 0, 1) := by decide +kernel
theorem dX1_commonDivisor_5 : decode cX1_commonDivisor 5 = .ok (.istore 4, 2) := by decide +kernel
theorem dX1_commonDivisor_7 : decode cX1_commonDivisor 7 = .ok (.iload 4, 2) := by decide +kernel
theorem dX1_commonDivisor_9 : decode cX1_commonDivisor 9 = .ok (.bipush 64, 2) := by decide +kernel
theorem dX1_commonDivisor_11 : decode cX1_commonDivisor 11 = .ok (.if_icmp .ge 23, 3) := by decide +kernel
theorem dX1_commonDivisor_14 : decode cX1_commonDivisor 14 = .ok (.iload_n 3, 1) := by decide +kernel
theorem dX1_commonDivisor_15 : decode cX1_commonDivisor 15 = .ok (.ifCond .eq 19, 3) := by decide +kernel
theorem dX1_commonDivisor_18 : decode cX1_commonDivisor 18 = .ok (.iload_n 2, 1) := by decide +kernel
theorem dX1_commonDivisor_19 : decode cX1_commonDivisor 19 = .ok (.iload_n 3, 1) := by decide +kernel
theorem dX1_commonDivisor_20 : decode cX1_commonDivisor 20 = .ok (.irem, 1) := by decide +kernel
theorem dX1_commonDivisor_21 : decode cX1_commonDivisor 21 = .ok (.istore 5, 2) := by decide +kernel
theorem dX1_commonDivisor_23 : decode cX1_commonDivisor 23 = .ok (.iload_n 3, 1) := by decide +kernel
theorem dX1_commonDivisor_24 : decode cX1_commonDivisor 24 = .ok (.istore_n 2, 1) := by decide +kernel
theorem dX1_commonDivisor_25 : decode cX1_commonDivisor 25 = .ok (.iload 5, 2) := by decide +kernel
theorem dX1_commonDivisor_27 : decode cX1_commonDivisor 27 = .ok (.istore_n 3, 1) := by decide +kernel
theorem dX1_commonDivisor_28 : decode cX1_commonDivisor 28 = .ok (.iinc 4 1, 3) := by decide +kernel
theorem dX1_commonDivisor_31 : decode cX1_commonDivisor 31 = .ok (.goto (-24), 3) := by decide +kernel
theorem dX1_commonDivisor_34 : decode cX1_commonDivisor 34 = .ok (.iload_n 2, 1) := by decide +kernel
theorem dX1_commonDivisor_35 : decode cX1_commonDivisor 35 = .ok (.ireturn, 1) := by decide +kernel
theorem dJ9_max_7cf53_0 : decode cJ9_max_7cf53 0 = .ok (.iload_n 0, 1) := by decide +kernel
theorem dJ9_max_7cf53_1 : decode cJ9_max_7cf53 1 = .ok (.iload_n 1, 1) := by decide +kernel
theorem dJ9_max_7cf53_2 : decode cJ9_max_7cf53 2 = .ok (.if_icmp .lt 7, 3) := by decide +kernel
theorem dJ9_max_7cf53_5 : decode cJ9_max_7cf53 5 = .ok (.iload_n 0, 1) := by decide +kernel
theorem dJ9_max_7cf53_6 : decode cJ9_max_7cf53 6 = .ok (.goto 4, 3) := by decide +kernel
theorem dJ9_max_7cf53_9 : decode cJ9_max_7cf53 9 = .ok (.iload_n 1, 1) := by decide +kernel
theorem dJ9_max_7cf53_10 : decode cJ9_max_7cf53 10 = .ok (.ireturn, 1) := by decide +kernel
theorem dJ9_max_f86c9_0 : decode cJ9_max_f86c9 0 = .ok (.lload_n 0, 1) := by decide +kernel
theorem dJ9_max_f86c9_1 : decode cJ9_max_f86c9 1 = .ok (.lload_n 2, 1) := by decide +kernel
theorem dJ9_max_f86c9_2 : decode cJ9_max_f86c9 2 = .ok (.lcmp, 1) := by decide +kernel
theorem dJ9_max_f86c9_3 : decode cJ9_max_f86c9 3 = .ok (.ifCond .lt 7, 3) := by decide +kernel
theorem dJ9_max_f86c9_6 : decode cJ9_max_f86c9 6 = .ok (.lload_n 0, 1) := by decide +kernel
theorem dJ9_max_f86c9_7 : decode cJ9_max_f86c9 7 = .ok (.goto 4, 3) := by decide +kernel
theorem dJ9_max_f86c9_10 : decode cJ9_max_f86c9 10 = .ok (.lload_n 2, 1) := by decide +kernel
theorem dJ9_max_f86c9_11 : decode cJ9_max_f86c9 11 = .ok (.lreturn, 1) := by decide +kernel
theorem dJ9_min_7cf53_0 : decode cJ9_min_7cf53 0 = .ok (.iload_n 0, 1) := by decide +kernel
theorem dJ9_min_7cf53_1 : decode cJ9_min_7cf53 1 = .ok (.iload_n 1, 1) := by decide +kernel
theorem dJ9_min_7cf53_2 : decode cJ9_min_7cf53 2 = .ok (.if_icmp .gt 7, 3) := by decide +kernel
theorem dJ9_min_7cf53_5 : decode cJ9_min_7cf53 5 = .ok (.iload_n 0, 1) := by decide +kernel
theorem dJ9_min_7cf53_6 : decode cJ9_min_7cf53 6 = .ok (.goto 4, 3) := by decide +kernel
theorem dJ9_min_7cf53_9 : decode cJ9_min_7cf53 9 = .ok (.iload_n 1, 1) := by decide +kernel
theorem dJ9_min_7cf53_10 : decode cJ9_min_7cf53 10 = .ok (.ireturn, 1) := by decide +kernel

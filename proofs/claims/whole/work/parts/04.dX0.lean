theorem dX0_init_0 : decode cX0_init 0 = .ok (.aload_n 0, 1) := by decide +kernel
theorem dX0_init_1 : decode cX0_init 1 = .ok (.invokespecial 3, 3) := by decide +kernel
theorem dX0_init_4 : decode cX0_init 4 = .ok (.aload_n 0, 1) := by decide +kernel
theorem dX0_init_5 : decode cX0_init 5 = .ok (.iconst 4, 1) := by decide +kernel
theorem dX0_init_6 : decode cX0_init 6 = .ok (.newarray .int, 2) := by decide +kernel
theorem dX0_init_8 : decode cX0_init 8 = .ok (.putfield 9, 3) := by decide +kernel
theorem dX0_init_11 : decode cX0_init 11 = .ok (.aload_n 0, 1) := by decide +kernel
theorem dX0_init_12 : decode cX0_init 12 = .ok (.iconst 4, 1) := by decide +kernel
theorem dX0_init_13 : decode cX0_init 13 = .ok (.newarray .int, 2) := by decide +kernel
theorem dX0_init_15 : decode cX0_init 15 = .ok (.putfield 15, 3) := by decide +kernel
theorem dX0_init_18 : decode cX0_init 18 = .ok (.aload_n 0, 1) := by decide +kernel
theorem dX0_init_19 : decode cX0_init 19 = .ok (.iconst 0, 1) := by decide +kernel
theorem dX0_init_20 : decode cX0_init 20 = .ok (.putfield 18, 3) := by decide +kernel
theorem dX0_init_23 : decode cX0_init 23 = .ok (.aload_n 0, 1) := by decide +kernel
theorem dX0_init_24 : decode cX0_init 24 = .ok (.iconst 0, 1) := by decide +kernel
theorem dX0_init_25 : decode cX0_init 25 = .ok (.putfield 22, 3) := by decide +kernel
theorem dX0_init_28 : decode cX0_init 28 = .ok (.aload_n 0, 1) := by decide +kernel
theorem dX0_init_29 : decode cX0_init 29 = .ok (.iconst 0, 1) := by decide +kernel
theorem dX0_init_30 : decode cX0_init 30 = .ok (.putfield 25, 3) := by decide +kernel
theorem dX0_init_33 : decode cX0_init 33 = .ok (.aload_n 0, 1) := by decide +kernel
theorem dX0_init_34 : decode cX0_init 34 = .ok (.iload_n 1, 1) := by decide +kernel
theorem dX0_init_35 : decode cX0_init 35 = .ok (.putfield 29, 3) := by decide +kernel
theorem dX0_init_38 : decode cX0_init 38 = .ok (.aload_n 0, 1) := by decide +kernel
theorem dX0_init_39 : decode cX0_init 39 = .ok (.iload_n 2, 1) := by decide +kernel
theorem dX0_init_40 : decode cX0_init 40 = .ok (.putfield 32, 3) := by decide +kernel
theorem dX0_init_43 : decode cX0_init 43 = .ok (.aload_n 0, 1) := by decide +kernel
theorem dX0_init_44 : decode cX0_init 44 = .ok (.iload_n 1, 1) := by decide +kernel
theorem dX0_init_45 : decode cX0_init 45 = .ok (.iconst 2, 1) := by decide +kernel
theorem dX0_init_46 : decode cX0_init 46 = .ok (.iadd, 1) := by decide +kernel
theorem dX0_init_47 : decode cX0_init 47 = .ok (.putfield 35, 3) := by decide +kernel
theorem dX0_init_50 : decode cX0_init 50 = .ok (.iload_n 1, 1) := by decide +kernel
theorem dX0_init_51 : decode cX0_init 51 = .ok (.iconst 2, 1) := by decide +kernel
theorem dX0_init_52 : decode cX0_init 52 = .ok (.iadd, 1) := by decide +kernel
theorem dX0_init_53 : decode cX0_init 53 = .ok (.iload_n 2, 1) := by decide +kernel
theorem dX0_init_54 : decode cX0_init 54 = .ok (.iconst 2, 1) := by decide +kernel
theorem dX0_init_55 : decode cX0_init 55 = .ok (.iadd, 1) := by decide +kernel
theorem dX0_init_56 : decode cX0_init 56 = .ok (.imul, 1) := by decide +kernel
theorem dX0_init_57 : decode cX0_init 57 = .ok (.istore_n 3, 1) := by decide +kernel
theorem dX0_init_58 : decode cX0_init 58 = .ok (.aload_n 0, 1) := by decide +kernel
theorem dX0_init_59 : decode cX0_init 59 = .ok (.iload_n 3, 1) := by decide +kernel
theorem dX0_init_60 : decode cX0_init 60 = .ok (.newarray .int, 2) := by decide +kernel
theorem dX0_init_62 : decode cX0_init 62 = .ok (.putfield 38, 3) := by decide +kernel
theorem dX0_init_65 : decode cX0_init 65 = .ok (.aload_n 0, 1) := by decide +kernel
theorem dX0_init_66 : decode cX0_init 66 = .ok (.iload_n 3, 1) := by decide +kernel
theorem dX0_init_67 : decode cX0_init 67 = .ok (.newarray .int, 2) := by decide +kernel
theorem dX0_init_69 : decode cX0_init 69 = .ok (.putfield 41, 3) := by decide +kernel
theorem dX0_init_72 : decode cX0_init 72 = .ok (.aload_n 0, 1) := by decide +kernel
theorem dX0_init_73 : decode cX0_init 73 = .ok (.iload_n 3, 1) := by decide +kernel
theorem dX0_init_74 : decode cX0_init 74 = .ok (.newarray .int, 2) := by decide +kernel
theorem dX0_init_76 : decode cX0_init 76 = .ok (.putfield 44, 3) := by decide +kernel
theorem dX0_init_79 : decode cX0_init 79 = .ok (.aload_n 0, 1) := by decide +kernel
theorem dX0_init_80 : decode cX0_init 80 = .ok (.iload_n 3, 1) := by decide +kernel
theorem dX0_init_81 : decode cX0_init 81 = .ok (.newarray .int, 2) := by decide +kernel
theorem dX0_init_83 : decode cX0_init 83 = .ok (.putfield 47, 3) := by decide +kernel
theorem dX0_init_86 : decode cX0_init 86 = .ok (.aload_n 0, 1) := by decide +kernel
theorem dX0_init_87 : decode cX0_init 87 = .ok (.iload_n 3, 1) := by decide +kernel
theorem dX0_init_88 : decode cX0_init 88 = .ok (.newarray .int, 2) := by decide +kernel
theorem dX0_init_90 : decode cX0_init 90 = .ok (.putfield 50, 3) := by decide +kernel
theorem dX0_init_93 : decode cX0_init 93 = .ok (.aload_n 0, 1) := by decide +kernel
theorem dX0_init_94 : decode cX0_init 94 = .ok (.iload_n 3, 1) := by decide +kernel
theorem dX0_init_95 : decode cX0_init 95 = .ok (.newarray .int, 2) := by decide +kernel
theorem dX0_init_97 : decode cX0_init 97 = .ok (.putfield 53, 3) := by decide +kernel
theorem dX0_init_100 : decode cX0_init 100 = .ok (.return_, 1) := by decide +kernel
theorem dX0_holds_0 : decode cX0_holds 0 = .ok (.iload_n 1, 1) := by decide +kernel
theorem dX0_holds_1 : decode cX0_holds 1 = .ok (.ifCond .lt 27, 3) := by decide +kernel
theorem dX0_holds_4 : decode cX0_holds 4 = .ok (.iload_n 1, 1) := by decide +kernel
theorem dX0_holds_5 : decode cX0_holds 5 = .ok (.aload_n 0, 1) := by decide +kernel
theorem dX0_holds_6 : decode cX0_holds 6 = .ok (.getfield 29, 3) := by decide +kernel
theorem dX0_holds_9 : decode cX0_holds 9 = .ok (.if_icmp .ge 19, 3) := by decide +kernel
theorem dX0_holds_12 : decode cX0_holds 12 = .ok (.iload_n 2, 1) := by decide +kernel
theorem dX0_holds_13 : decode cX0_holds 13 = .ok (.ifCond .lt 15, 3) := by decide +kernel
theorem dX0_holds_16 : decode cX0_holds 16 = .ok (.iload_n 2, 1) := by decide +kernel
theorem dX0_holds_17 : decode cX0_holds 17 = .ok (.aload_n 0, 1) := by decide +kernel
theorem dX0_holds_18 : decode cX0_holds 18 = .ok (.getfield 32, 3) := by decide +kernel
theorem dX0_holds_21 : decode cX0_holds 21 = .ok (.if_icmp .ge 7, 3) := by decide +kernel
theorem dX0_holds_24 : decode cX0_holds 24 = .ok (.iconst 1, 1) := by decide +kernel
theorem dX0_holds_25 : decode cX0_holds 25 = .ok (.goto 4, 3) := by decide +kernel
theorem dX0_holds_28 : decode cX0_holds 28 = .ok (.iconst 0, 1) := by decide +kernel
theorem dX0_holds_29 : decode cX0_holds 29 = .ok (.ireturn, 1) := by decide +kernel
set_option maxRecDepth 20000 in
theorem ggX0_leadsAt_X0_place : GoodIn wsX0_leadsAt wsX0_place := goodIn_r _ [6, 7, 8, 9, 10, 11, 12, 13, 14, 15, 16, 17, 18, 19, 20, 21] (by decide +kernel) (by decide +kernel)
set_option maxRecDepth 20000 in
theorem gX0_leadsAt_X0_place : GoodIn wsX0_leadsAt (wsV RX0 56 RX0 yX0_place wsX0_place) := goodIn_app (goodIn_of _ (by decide +kernel)) ggX0_leadsAt_X0_place
theorem dX0_leadsAt_0 : decode cX0_leadsAt 0 = .ok (.aload_n 0, 1) := by decide +kernel
theorem dX0_leadsAt_1 : decode cX0_leadsAt 1 = .ok (.getfield 38, 3) := by decide +kernel
theorem dX0_leadsAt_4 : decode cX0_leadsAt 4 = .ok (.aload_n 0, 1) := by decide +kernel
theorem dX0_leadsAt_5 : decode cX0_leadsAt 5 = .ok (.iload_n 1, 1) := by decide +kernel
theorem dX0_leadsAt_6 : decode cX0_leadsAt 6 = .ok (.iload_n 2, 1) := by decide +kernel
theorem dX0_leadsAt_7 : decode cX0_leadsAt 7 = .ok (.invokevirtual 56, 3) := by decide +kernel
theorem dX0_leadsAt_10 : decode cX0_leadsAt 10 = .ok (.iaload, 1) := by decide +kernel
theorem dX0_leadsAt_11 : decode cX0_leadsAt 11 = .ok (.ireturn, 1) := by decide +kernel
set_option maxRecDepth 20000 in
theorem ggX0_warmthAt_X0_place : GoodIn wsX0_warmthAt wsX0_place := goodIn_r _ [8, 9, 10, 11, 12, 13, 14, 15, 16, 17, 18, 19, 20, 21, 22, 23] (by decide +kernel) (by decide +kernel)
set_option maxRecDepth 20000 in
theorem gX0_warmthAt_X0_place : GoodIn wsX0_warmthAt (wsV RX0 56 RX0 yX0_place wsX0_place) := goodIn_app (goodIn_of _ (by decide +kernel)) ggX0_warmthAt_X0_place
theorem dX0_warmthAt_0 : decode cX0_warmthAt 0 = .ok (.aload_n 0, 1) := by decide +kernel
theorem dX0_warmthAt_1 : decode cX0_warmthAt 1 = .ok (.iload_n 1, 1) := by decide +kernel
theorem dX0_warmthAt_2 : decode cX0_warmthAt 2 = .ok (.iload_n 2, 1) := by decide +kernel
theorem dX0_warmthAt_3 : decode cX0_warmthAt 3 = .ok (.invokevirtual 56, 3) := by decide +kernel
theorem dX0_warmthAt_6 : decode cX0_warmthAt 6 = .ok (.istore_n 3, 1) := by decide +kernel
theorem dX0_warmthAt_7 : decode cX0_warmthAt 7 = .ok (.aload_n 0, 1) := by decide +kernel
theorem dX0_warmthAt_8 : decode cX0_warmthAt 8 = .ok (.getfield 38, 3) := by decide +kernel
theorem dX0_warmthAt_11 : decode cX0_warmthAt 11 = .ok (.iload_n 3, 1) := by decide +kernel
theorem dX0_warmthAt_12 : decode cX0_warmthAt 12 = .ok (.iaload, 1) := by decide +kernel
theorem dX0_warmthAt_13 : decode cX0_warmthAt 13 = .ok (.ifCond .le 12, 3) := by decide +kernel
theorem dX0_warmthAt_16 : decode cX0_warmthAt 16 = .ok (.aload_n 0, 1) := by decide +kernel
theorem dX0_warmthAt_17 : decode cX0_warmthAt 17 = .ok (.getfield 41, 3) := by decide +kernel
theorem dX0_warmthAt_20 : decode cX0_warmthAt 20 = .ok (.iload_n 3, 1) := by decide +kernel
theorem dX0_warmthAt_21 : decode cX0_warmthAt 21 = .ok (.iaload, 1) := by decide +kernel
theorem dX0_warmthAt_22 : decode cX0_warmthAt 22 = .ok (.goto 5, 3) := by decide +kernel
theorem dX0_warmthAt_25 : decode cX0_warmthAt 25 = .ok (.ldc 60, 2) := by decide +kernel
theorem dX0_warmthAt_27 : decode cX0_warmthAt 27 = .ok (.ireturn, 1) := by decide +kernel
set_option maxRecDepth 20000 in
theorem ggX0_fill_X0_place : GoodIn wsX0_fill wsX0_place := goodIn_r _ [7, 8, 9, 10, 11, 12, 13, 14, 15, 16, 17, 18, 19, 20, 21, 22] (by decide +kernel) (by decide +kernel)
set_option maxRecDepth 20000 in
theorem gX0_fill_X0_place : GoodIn wsX0_fill (wsV RX0 56 RX0 yX0_place wsX0_place) := goodIn_app (goodIn_of _ (by decide +kernel)) ggX0_fill_X0_place
theorem dX0_fill_0 : decode cX0_fill 0 = .ok (.iload_n 2, 1) := by decide +kernel
theorem dX0_fill_1 : decode cX0_fill 1 = .ok (.istore 6, 2) := by decide +kernel
theorem dX0_fill_3 : decode cX0_fill 3 = .ok (.iload 6, 2) := by decide +kernel
theorem dX0_fill_5 : decode cX0_fill 5 = .ok (.iload 4, 2) := by decide +kernel
theorem dX0_fill_7 : decode cX0_fill 7 = .ok (.if_icmp .gt 39, 3) := by decide +kernel
theorem dX0_fill_10 : decode cX0_fill 10 = .ok (.iload_n 1, 1) := by decide +kernel
theorem dX0_fill_11 : decode cX0_fill 11 = .ok (.istore 7, 2) := by decide +kernel
theorem dX0_fill_13 : decode cX0_fill 13 = .ok (.iload 7, 2) := by decide +kernel
theorem dX0_fill_15 : decode cX0_fill 15 = .ok (.iload_n 3, 1) := by decide +kernel
theorem dX0_fill_16 : decode cX0_fill 16 = .ok (.if_icmp .gt 24, 3) := by decide +kernel
theorem dX0_fill_19 : decode cX0_fill 19 = .ok (.aload_n 0, 1) := by decide +kernel
theorem dX0_fill_20 : decode cX0_fill 20 = .ok (.getfield 38, 3) := by decide +kernel
theorem dX0_fill_23 : decode cX0_fill 23 = .ok (.aload_n 0, 1) := by decide +kernel
theorem dX0_fill_24 : decode cX0_fill 24 = .ok (.iload 7, 2) := by decide +kernel
theorem dX0_fill_26 : decode cX0_fill 26 = .ok (.iload 6, 2) := by decide +kernel
theorem dX0_fill_28 : decode cX0_fill 28 = .ok (.invokevirtual 56, 3) := by decide +kernel
theorem dX0_fill_31 : decode cX0_fill 31 = .ok (.iload 5, 2) := by decide +kernel
theorem dX0_fill_33 : decode cX0_fill 33 = .ok (.iastore, 1) := by decide +kernel
theorem dX0_fill_34 : decode cX0_fill 34 = .ok (.iinc 7 1, 3) := by decide +kernel
theorem dX0_fill_37 : decode cX0_fill 37 = .ok (.goto (-24), 3) := by decide +kernel
theorem dX0_fill_40 : decode cX0_fill 40 = .ok (.iinc 6 1, 3) := by decide +kernel
theorem dX0_fill_43 : decode cX0_fill 43 = .ok (.goto (-40), 3) := by decide +kernel
theorem dX0_fill_46 : decode cX0_fill 46 = .ok (.aload_n 0, 1) := by decide +kernel
theorem dX0_fill_47 : decode cX0_fill 47 = .ok (.iconst 0, 1) := by decide +kernel
theorem dX0_fill_48 : decode cX0_fill 48 = .ok (.putfield 25, 3) := by decide +kernel
theorem dX0_fill_51 : decode cX0_fill 51 = .ok (.return_, 1) := by decide +kernel
set_option maxRecDepth 20000 in
theorem ggX0_changeSide_X0_countAlong : GoodIn wsX0_changeSide wsX0_countAlong := goodIn_r _ [10, 11, 12, 26, 27, 28, 29, 30, 31, 32, 33, 34, 35, 36, 37, 38, 39] (by decide +kernel) (by decide +kernel)
set_option maxRecDepth 20000 in
theorem gX0_changeSide_X0_countAlong : GoodIn wsX0_changeSide (wsV RX0 61 RX0 yX0_countAlong wsX0_countAlong) := goodIn_app (goodIn_of _ (by decide +kernel)) ggX0_changeSide_X0_countAlong
set_option maxRecDepth 20000 in
theorem ggX0_changeSide_X0_cellAlong : GoodIn wsX0_changeSide wsX0_cellAlong := goodIn_r _ [16, 11, 12, 17, 18, 19, 9, 20, 21, 26, 27, 28, 29, 30, 31, 32, 33, 34, 35, 36, 37, 38, 39] (by decide +kernel) (by decide +kernel)
set_option maxRecDepth 20000 in
theorem gX0_changeSide_X0_cellAlong : GoodIn wsX0_changeSide (wsV RX0 65 RX0 yX0_cellAlong wsX0_cellAlong) := goodIn_app (goodIn_of _ (by decide +kernel)) ggX0_changeSide_X0_cellAlong
set_option maxRecDepth 20000 in
theorem ggX0_changeSide_X0_outward : GoodIn wsX0_changeSide wsX0_outward := goodIn_r _ [25, 21, 26, 27, 28, 29, 30, 31, 32, 33, 34, 35, 36, 37, 38, 39] (by decide +kernel) (by decide +kernel)
set_option maxRecDepth 20000 in
theorem gX0_changeSide_X0_outward : GoodIn wsX0_changeSide (wsV RX0 68 RX0 yX0_outward wsX0_outward) := goodIn_app (goodIn_of _ (by decide +kernel)) ggX0_changeSide_X0_outward
theorem dX0_changeSide_0 : decode cX0_changeSide 0 = .ok (.aload_n 0, 1) := by decide +kernel
theorem dX0_changeSide_1 : decode cX0_changeSide 1 = .ok (.getfield 15, 3) := by decide +kernel
theorem dX0_changeSide_4 : decode cX0_changeSide 4 = .ok (.iload_n 1, 1) := by decide +kernel
theorem dX0_changeSide_5 : decode cX0_changeSide 5 = .ok (.iaload, 1) := by decide +kernel
theorem dX0_changeSide_6 : decode cX0_changeSide 6 = .ok (.istore 4, 2) := by decide +kernel
theorem dX0_changeSide_8 : decode cX0_changeSide 8 = .ok (.aload_n 0, 1) := by decide +kernel
theorem dX0_changeSide_9 : decode cX0_changeSide 9 = .ok (.getfield 9, 3) := by decide +kernel
theorem dX0_changeSide_12 : decode cX0_changeSide 12 = .ok (.iload_n 1, 1) := by decide +kernel
theorem dX0_changeSide_13 : decode cX0_changeSide 13 = .ok (.iload_n 2, 1) := by decide +kernel
theorem dX0_changeSide_14 : decode cX0_changeSide 14 = .ok (.iastore, 1) := by decide +kernel
theorem dX0_changeSide_15 : decode cX0_changeSide 15 = .ok (.aload_n 0, 1) := by decide +kernel
theorem dX0_changeSide_16 : decode cX0_changeSide 16 = .ok (.getfield 15, 3) := by decide +kernel
theorem dX0_changeSide_19 : decode cX0_changeSide 19 = .ok (.iload_n 1, 1) := by decide +kernel
theorem dX0_changeSide_20 : decode cX0_changeSide 20 = .ok (.iload_n 3, 1) := by decide +kernel
theorem dX0_changeSide_21 : decode cX0_changeSide 21 = .ok (.iastore, 1) := by decide +kernel
theorem dX0_changeSide_22 : decode cX0_changeSide 22 = .ok (.aload_n 0, 1) := by decide +kernel
theorem dX0_changeSide_23 : decode cX0_changeSide 23 = .ok (.iload_n 1, 1) := by decide +kernel
theorem dX0_changeSide_24 : decode cX0_changeSide 24 = .ok (.invokevirtual 61, 3) := by decide +kernel
theorem dX0_changeSide_27 : decode cX0_changeSide 27 = .ok (.istore 5, 2) := by decide +kernel
theorem dX0_changeSide_29 : decode cX0_changeSide 29 = .ok (.iconst 0, 1) := by decide +kernel
theorem dX0_changeSide_30 : decode cX0_changeSide 30 = .ok (.istore 6, 2) := by decide +kernel
theorem dX0_changeSide_32 : decode cX0_changeSide 32 = .ok (.iload 6, 2) := by decide +kernel
theorem dX0_changeSide_34 : decode cX0_changeSide 34 = .ok (.iload 5, 2) := by decide +kernel
theorem dX0_changeSide_36 : decode cX0_changeSide 36 = .ok (.if_icmp .ge 40, 3) := by decide +kernel
theorem dX0_changeSide_39 : decode cX0_changeSide 39 = .ok (.aload_n 0, 1) := by decide +kernel
theorem dX0_changeSide_40 : decode cX0_changeSide 40 = .ok (.iload_n 1, 1) := by decide +kernel
theorem dX0_changeSide_41 : decode cX0_changeSide 41 = .ok (.iload 6, 2) := by decide +kernel
theorem dX0_changeSide_43 : decode cX0_changeSide 43 = .ok (.invokevirtual 65, 3) := by decide +kernel
theorem dX0_changeSide_46 : decode cX0_changeSide 46 = .ok (.aload_n 0, 1) := by decide +kernel
theorem dX0_changeSide_47 : decode cX0_changeSide 47 = .ok (.iload_n 1, 1) := by decide +kernel
theorem dX0_changeSide_48 : decode cX0_changeSide 48 = .ok (.invokevirtual 68, 3) := by decide +kernel
theorem dX0_changeSide_51 : decode cX0_changeSide 51 = .ok (.iadd, 1) := by decide +kernel
theorem dX0_changeSide_52 : decode cX0_changeSide 52 = .ok (.istore 7, 2) := by decide +kernel
theorem dX0_changeSide_54 : decode cX0_changeSide 54 = .ok (.aload_n 0, 1) := by decide +kernel
theorem dX0_changeSide_55 : decode cX0_changeSide 55 = .ok (.getfield 38, 3) := by decide +kernel
theorem dX0_changeSide_58 : decode cX0_changeSide 58 = .ok (.iload 7, 2) := by decide +kernel
theorem dX0_changeSide_60 : decode cX0_changeSide 60 = .ok (.iload_n 3, 1) := by decide +kernel
theorem dX0_changeSide_61 : decode cX0_changeSide 61 = .ok (.iastore, 1) := by decide +kernel
theorem dX0_changeSide_62 : decode cX0_changeSide 62 = .ok (.aload_n 0, 1) := by decide +kernel
theorem dX0_changeSide_63 : decode cX0_changeSide 63 = .ok (.getfield 41, 3) := by decide +kernel
theorem dX0_changeSide_66 : decode cX0_changeSide 66 = .ok (.iload 7, 2) := by decide +kernel
theorem dX0_changeSide_68 : decode cX0_changeSide 68 = .ok (.iload_n 2, 1) := by decide +kernel
theorem dX0_changeSide_69 : decode cX0_changeSide 69 = .ok (.iastore, 1) := by decide +kernel
theorem dX0_changeSide_70 : decode cX0_changeSide 70 = .ok (.iinc 6 1, 3) := by decide +kernel
theorem dX0_changeSide_73 : decode cX0_changeSide 73 = .ok (.goto (-41), 3) := by decide +kernel
theorem dX0_changeSide_76 : decode cX0_changeSide 76 = .ok (.aload_n 0, 1) := by decide +kernel
theorem dX0_changeSide_77 : decode cX0_changeSide 77 = .ok (.iconst 0, 1) := by decide +kernel
theorem dX0_changeSide_78 : decode cX0_changeSide 78 = .ok (.putfield 25, 3) := by decide +kernel
theorem dX0_changeSide_81 : decode cX0_changeSide 81 = .ok (.iload 4, 2) := by decide +kernel
theorem dX0_changeSide_83 : decode cX0_changeSide 83 = .ok (.ireturn, 1) := by decide +kernel
set_option maxRecDepth 20000 in
theorem ggX0_settle_X0_findLowAndHigh : GoodIn wsX0_settle wsX0_findLowAndHigh := goodIn_r _ [10, 5, 4, 11, 12, 13, 14, 15, 16, 17, 18, 19, 54, 55, 56, 57, 58, 59, 60, 61, 62, 63, 64, 65, 66, 67] (by decide +kernel) (by decide +kernel)
set_option maxRecDepth 20000 in
theorem gX0_settle_X0_findLowAndHigh : GoodIn wsX0_settle (wsV RX0 71 RX0 yX0_findLowAndHigh wsX0_findLowAndHigh) := goodIn_app (goodIn_of _ (by decide +kernel)) ggX0_settle_X0_findLowAndHigh
set_option maxRecDepth 20000 in
theorem ggX0_settle_X0_joinNeighbours : GoodIn wsX0_settle wsX0_joinNeighbours := goodIn_r _ [23, 3, 2, 24, 25, 26, 27, 28, 29, 30, 9, 31, 32, 33, 34, 54, 55, 56, 57, 58, 59, 60, 61, 62, 63, 64, 65, 66, 67] (by decide +kernel) (by decide +kernel)
set_option maxRecDepth 20000 in
theorem gX0_settle_X0_joinNeighbours : GoodIn wsX0_settle (wsV RX0 74 RX0 yX0_joinNeighbours wsX0_joinNeighbours) := goodIn_app (goodIn_of _ (by decide +kernel)) ggX0_settle_X0_joinNeighbours
set_option maxRecDepth 20000 in
theorem ggX0_settle_X0_startAtLow : GoodIn wsX0_settle wsX0_startAtLow := goodIn_r _ [38, 3, 2, 39, 5, 28, 29, 30, 9, 31, 27, 40, 41, 42, 43, 24, 26, 44, 45, 54, 55, 56, 57, 58, 59, 60, 61, 62, 63, 64, 65, 66, 67] (by decide +kernel) (by decide +kernel)
set_option maxRecDepth 20000 in
theorem gX0_settle_X0_startAtLow : GoodIn wsX0_settle (wsV RX0 77 RX0 yX0_startAtLow wsX0_startAtLow) := goodIn_app (goodIn_of _ (by decide +kernel)) ggX0_settle_X0_startAtLow
set_option maxRecDepth 20000 in
theorem ggX0_settle_X0_raiseAll : GoodIn wsX0_settle wsX0_raiseAll := goodIn_r _ [49, 3, 2, 44, 45, 28, 29, 30, 9, 31, 27, 50, 51, 52, 53, 39, 24, 26, 54, 55, 56, 57, 58, 59, 60, 61, 62, 63, 64, 65, 66, 67] (by decide +kernel) (by decide +kernel)
set_option maxRecDepth 20000 in
theorem gX0_settle_X0_raiseAll : GoodIn wsX0_settle (wsV RX0 80 RX0 yX0_raiseAll wsX0_raiseAll) := goodIn_app (goodIn_of _ (by decide +kernel)) ggX0_settle_X0_raiseAll
theorem dX0_settle_0 : decode cX0_settle 0 = .ok (.aload_n 0, 1) := by decide +kernel
theorem dX0_settle_1 : decode cX0_settle 1 = .ok (.getfield 25, 3) := by decide +kernel
theorem dX0_settle_4 : decode cX0_settle 4 = .ok (.ifCond .eq 4, 3) := by decide +kernel
theorem dX0_settle_7 : decode cX0_settle 7 = .ok (.return_, 1) := by decide +kernel
theorem dX0_settle_8 : decode cX0_settle 8 = .ok (.aload_n 0, 1) := by decide +kernel
theorem dX0_settle_9 : decode cX0_settle 9 = .ok (.invokevirtual 71, 3) := by decide +kernel
theorem dX0_settle_12 : decode cX0_settle 12 = .ok (.aload_n 0, 1) := by decide +kernel
theorem dX0_settle_13 : decode cX0_settle 13 = .ok (.invokevirtual 74, 3) := by decide +kernel
theorem dX0_settle_16 : decode cX0_settle 16 = .ok (.aload_n 0, 1) := by decide +kernel
theorem dX0_settle_17 : decode cX0_settle 17 = .ok (.invokevirtual 77, 3) := by decide +kernel
theorem dX0_settle_20 : decode cX0_settle 20 = .ok (.aload_n 0, 1) := by decide +kernel
theorem dX0_settle_21 : decode cX0_settle 21 = .ok (.getfield 29, 3) := by decide +kernel
theorem dX0_settle_24 : decode cX0_settle 24 = .ok (.aload_n 0, 1) := by decide +kernel
theorem dX0_settle_25 : decode cX0_settle 25 = .ok (.getfield 32, 3) := by decide +kernel
theorem dX0_settle_28 : decode cX0_settle 28 = .ok (.imul, 1) := by decide +kernel
theorem dX0_settle_29 : decode cX0_settle 29 = .ok (.aload_n 0, 1) := by decide +kernel
theorem dX0_settle_30 : decode cX0_settle 30 = .ok (.getfield 22, 3) := by decide +kernel
theorem dX0_settle_33 : decode cX0_settle 33 = .ok (.aload_n 0, 1) := by decide +kernel
theorem dX0_settle_34 : decode cX0_settle 34 = .ok (.getfield 18, 3) := by decide +kernel
theorem dX0_settle_37 : decode cX0_settle 37 = .ok (.isub, 1) := by decide +kernel
theorem dX0_settle_38 : decode cX0_settle 38 = .ok (.imul, 1) := by decide +kernel
theorem dX0_settle_39 : decode cX0_settle 39 = .ok (.iconst 1, 1) := by decide +kernel
theorem dX0_settle_40 : decode cX0_settle 40 = .ok (.iadd, 1) := by decide +kernel
theorem dX0_settle_41 : decode cX0_settle 41 = .ok (.istore_n 1, 1) := by decide +kernel
theorem dX0_settle_42 : decode cX0_settle 42 = .ok (.iconst 1, 1) := by decide +kernel
theorem dX0_settle_43 : decode cX0_settle 43 = .ok (.istore_n 2, 1) := by decide +kernel
theorem dX0_settle_44 : decode cX0_settle 44 = .ok (.iconst 0, 1) := by decide +kernel
theorem dX0_settle_45 : decode cX0_settle 45 = .ok (.istore_n 3, 1) := by decide +kernel
theorem dX0_settle_46 : decode cX0_settle 46 = .ok (.iload_n 3, 1) := by decide +kernel
theorem dX0_settle_47 : decode cX0_settle 47 = .ok (.iload_n 1, 1) := by decide +kernel
theorem dX0_settle_48 : decode cX0_settle 48 = .ok (.if_icmp .ge 18, 3) := by decide +kernel
theorem dX0_settle_51 : decode cX0_settle 51 = .ok (.iload_n 2, 1) := by decide +kernel
theorem dX0_settle_52 : decode cX0_settle 52 = .ok (.ifCond .eq 14, 3) := by decide +kernel
theorem dX0_settle_55 : decode cX0_settle 55 = .ok (.aload_n 0, 1) := by decide +kernel
theorem dX0_settle_56 : decode cX0_settle 56 = .ok (.invokevirtual 80, 3) := by decide +kernel
theorem dX0_settle_59 : decode cX0_settle 59 = .ok (.istore_n 2, 1) := by decide +kernel
theorem dX0_settle_60 : decode cX0_settle 60 = .ok (.iinc 3 1, 3) := by decide +kernel
theorem dX0_settle_63 : decode cX0_settle 63 = .ok (.goto (-17), 3) := by decide +kernel
theorem dX0_settle_66 : decode cX0_settle 66 = .ok (.aload_n 0, 1) := by decide +kernel
theorem dX0_settle_67 : decode cX0_settle 67 = .ok (.iconst 1, 1) := by decide +kernel
theorem dX0_settle_68 : decode cX0_settle 68 = .ok (.putfield 25, 3) := by decide +kernel
theorem dX0_settle_71 : decode cX0_settle 71 = .ok (.return_, 1) := by decide +kernel
set_option maxRecDepth 20000 in
theorem ggX0_countThere_X0_leadsAt : GoodIn wsX0_countThere wsX0_leadsAt := goodIn_r _ [7, 8, 9, 10, 11, 6, 12, 13, 14, 15, 16, 17, 18, 19, 20, 21, 22, 23, 24, 25, 26, 27] (by decide +kernel) (by decide +kernel)
set_option maxRecDepth 20000 in
theorem gX0_countThere_X0_leadsAt : GoodIn wsX0_countThere (wsV RX0 84 RX0 yX0_leadsAt wsX0_leadsAt) := goodIn_app (goodIn_of _ (by decide +kernel)) ggX0_countThere_X0_leadsAt
theorem dX0_countThere_0 : decode cX0_countThere 0 = .ok (.iconst 0, 1) := by decide +kernel
theorem dX0_countThere_1 : decode cX0_countThere 1 = .ok (.istore_n 1, 1) := by decide +kernel
theorem dX0_countThere_2 : decode cX0_countThere 2 = .ok (.iconst 0, 1) := by decide +kernel
theorem dX0_countThere_3 : decode cX0_countThere 3 = .ok (.istore_n 2, 1) := by decide +kernel
theorem dX0_countThere_4 : decode cX0_countThere 4 = .ok (.iload_n 2, 1) := by decide +kernel
theorem dX0_countThere_5 : decode cX0_countThere 5 = .ok (.aload_n 0, 1) := by decide +kernel
theorem dX0_countThere_6 : decode cX0_countThere 6 = .ok (.getfield 32, 3) := by decide +kernel
theorem dX0_countThere_9 : decode cX0_countThere 9 = .ok (.if_icmp .ge 42, 3) := by decide +kernel
theorem dX0_countThere_12 : decode cX0_countThere 12 = .ok (.iconst 0, 1) := by decide +kernel
theorem dX0_countThere_13 : decode cX0_countThere 13 = .ok (.istore_n 3, 1) := by decide +kernel
theorem dX0_countThere_14 : decode cX0_countThere 14 = .ok (.iload_n 3, 1) := by decide +kernel
theorem dX0_countThere_15 : decode cX0_countThere 15 = .ok (.aload_n 0, 1) := by decide +kernel
theorem dX0_countThere_16 : decode cX0_countThere 16 = .ok (.getfield 29, 3) := by decide +kernel
theorem dX0_countThere_19 : decode cX0_countThere 19 = .ok (.if_icmp .ge 26, 3) := by decide +kernel
theorem dX0_countThere_22 : decode cX0_countThere 22 = .ok (.iload_n 1, 1) := by decide +kernel
theorem dX0_countThere_23 : decode cX0_countThere 23 = .ok (.aload_n 0, 1) := by decide +kernel
theorem dX0_countThere_24 : decode cX0_countThere 24 = .ok (.iload_n 3, 1) := by decide +kernel
theorem dX0_countThere_25 : decode cX0_countThere 25 = .ok (.iload_n 2, 1) := by decide +kernel
theorem dX0_countThere_26 : decode cX0_countThere 26 = .ok (.invokevirtual 84, 3) := by decide +kernel
theorem dX0_countThere_29 : decode cX0_countThere 29 = .ok (.ifCond .le 7, 3) := by decide +kernel
theorem dX0_countThere_32 : decode cX0_countThere 32 = .ok (.iconst 1, 1) := by decide +kernel
theorem dX0_countThere_33 : decode cX0_countThere 33 = .ok (.goto 4, 3) := by decide +kernel
theorem dX0_countThere_36 : decode cX0_countThere 36 = .ok (.iconst 0, 1) := by decide +kernel
theorem dX0_countThere_37 : decode cX0_countThere 37 = .ok (.iadd, 1) := by decide +kernel
theorem dX0_countThere_38 : decode cX0_countThere 38 = .ok (.istore_n 1, 1) := by decide +kernel
theorem dX0_countThere_39 : decode cX0_countThere 39 = .ok (.iinc 3 1, 3) := by decide +kernel
theorem dX0_countThere_42 : decode cX0_countThere 42 = .ok (.goto (-28), 3) := by decide +kernel
theorem dX0_countThere_45 : decode cX0_countThere 45 = .ok (.iinc 2 1, 3) := by decide +kernel
theorem dX0_countThere_48 : decode cX0_countThere 48 = .ok (.goto (-44), 3) := by decide +kernel
theorem dX0_countThere_51 : decode cX0_countThere 51 = .ok (.iload_n 1, 1) := by decide +kernel
theorem dX0_countThere_52 : decode cX0_countThere 52 = .ok (.ireturn, 1) := by decide +kernel
set_option maxRecDepth 20000 in
theorem ggX0_countAlone_X0_leadsAt : GoodIn wsX0_countAlone wsX0_leadsAt := goodIn_r _ [8, 9, 10, 11, 12, 7, 13, 14, 15, 16, 17, 18, 19, 20, 21, 22, 23, 24, 25, 26, 27, 28] (by decide +kernel) (by decide +kernel)
set_option maxRecDepth 20000 in
theorem gX0_countAlone_X0_leadsAt : GoodIn wsX0_countAlone (wsV RX0 84 RX0 yX0_leadsAt wsX0_leadsAt) := goodIn_app (goodIn_of _ (by decide +kernel)) ggX0_countAlone_X0_leadsAt
set_option maxRecDepth 20000 in
theorem ggX0_countAlone_X0_place : GoodIn wsX0_countAlone wsX0_place := goodIn_r _ [13, 14, 15, 16, 17, 18, 19, 20, 21, 22, 23, 24, 25, 26, 27, 28] (by decide +kernel) (by decide +kernel)
set_option maxRecDepth 20000 in
theorem gX0_countAlone_X0_place : GoodIn wsX0_countAlone (wsV RX0 56 RX0 yX0_place wsX0_place) := goodIn_app (goodIn_of _ (by decide +kernel)) ggX0_countAlone_X0_place
theorem dX0_countAlone_0 : decode cX0_countAlone 0 = .ok (.iconst 0, 1) := by decide +kernel
theorem dX0_countAlone_1 : decode cX0_countAlone 1 = .ok (.istore_n 1, 1) := by decide +kernel
theorem dX0_countAlone_2 : decode cX0_countAlone 2 = .ok (.iconst 0, 1) := by decide +kernel
theorem dX0_countAlone_3 : decode cX0_countAlone 3 = .ok (.istore_n 2, 1) := by decide +kernel
theorem dX0_countAlone_4 : decode cX0_countAlone 4 = .ok (.iload_n 2, 1) := by decide +kernel
theorem dX0_countAlone_5 : decode cX0_countAlone 5 = .ok (.aload_n 0, 1) := by decide +kernel
theorem dX0_countAlone_6 : decode cX0_countAlone 6 = .ok (.getfield 32, 3) := by decide +kernel
theorem dX0_countAlone_9 : decode cX0_countAlone 9 = .ok (.if_icmp .ge 56, 3) := by decide +kernel
theorem dX0_countAlone_12 : decode cX0_countAlone 12 = .ok (.iconst 0, 1) := by decide +kernel
theorem dX0_countAlone_13 : decode cX0_countAlone 13 = .ok (.istore_n 3, 1) := by decide +kernel
theorem dX0_countAlone_14 : decode cX0_countAlone 14 = .ok (.iload_n 3, 1) := by decide +kernel
theorem dX0_countAlone_15 : decode cX0_countAlone 15 = .ok (.aload_n 0, 1) := by decide +kernel
theorem dX0_countAlone_16 : decode cX0_countAlone 16 = .ok (.getfield 29, 3) := by decide +kernel
theorem dX0_countAlone_19 : decode cX0_countAlone 19 = .ok (.if_icmp .ge 40, 3) := by decide +kernel
theorem dX0_countAlone_22 : decode cX0_countAlone 22 = .ok (.iload_n 1, 1) := by decide +kernel
theorem dX0_countAlone_23 : decode cX0_countAlone 23 = .ok (.aload_n 0, 1) := by decide +kernel
theorem dX0_countAlone_24 : decode cX0_countAlone 24 = .ok (.iload_n 3, 1) := by decide +kernel
theorem dX0_countAlone_25 : decode cX0_countAlone 25 = .ok (.iload_n 2, 1) := by decide +kernel
theorem dX0_countAlone_26 : decode cX0_countAlone 26 = .ok (.invokevirtual 84, 3) := by decide +kernel
theorem dX0_countAlone_29 : decode cX0_countAlone 29 = .ok (.ifCond .le 21, 3) := by decide +kernel
theorem dX0_countAlone_32 : decode cX0_countAlone 32 = .ok (.aload_n 0, 1) := by decide +kernel
theorem dX0_countAlone_33 : decode cX0_countAlone 33 = .ok (.getfield 50, 3) := by decide +kernel
theorem dX0_countAlone_36 : decode cX0_countAlone 36 = .ok (.aload_n 0, 1) := by decide +kernel
theorem dX0_countAlone_37 : decode cX0_countAlone 37 = .ok (.iload_n 3, 1) := by decide +kernel
theorem dX0_countAlone_38 : decode cX0_countAlone 38 = .ok (.iload_n 2, 1) := by decide +kernel
theorem dX0_countAlone_39 : decode cX0_countAlone 39 = .ok (.invokevirtual 56, 3) := by decide +kernel
theorem dX0_countAlone_42 : decode cX0_countAlone 42 = .ok (.iaload, 1) := by decide +kernel
theorem dX0_countAlone_43 : decode cX0_countAlone 43 = .ok (.ifCond .ne 7, 3) := by decide +kernel
theorem dX0_countAlone_46 : decode cX0_countAlone 46 = .ok (.iconst 1, 1) := by decide +kernel
theorem dX0_countAlone_47 : decode cX0_countAlone 47 = .ok (.goto 4, 3) := by decide +kernel
theorem dX0_countAlone_50 : decode cX0_countAlone 50 = .ok (.iconst 0, 1) := by decide +kernel
theorem dX0_countAlone_51 : decode cX0_countAlone 51 = .ok (.iadd, 1) := by decide +kernel
theorem dX0_countAlone_52 : decode cX0_countAlone 52 = .ok (.istore_n 1, 1) := by decide +kernel
theorem dX0_countAlone_53 : decode cX0_countAlone 53 = .ok (.iinc 3 1, 3) := by decide +kernel
theorem dX0_countAlone_56 : decode cX0_countAlone 56 = .ok (.goto (-42), 3) := by decide +kernel
theorem dX0_countAlone_59 : decode cX0_countAlone 59 = .ok (.iinc 2 1, 3) := by decide +kernel
theorem dX0_countAlone_62 : decode cX0_countAlone 62 = .ok (.goto (-58), 3) := by decide +kernel
theorem dX0_countAlone_65 : decode cX0_countAlone 65 = .ok (.iload_n 1, 1) := by decide +kernel
theorem dX0_countAlone_66 : decode cX0_countAlone 66 = .ok (.ireturn, 1) := by decide +kernel
set_option maxRecDepth 20000 in
theorem ggX0_countColder_X0_leadsAt : GoodIn wsX0_countColder wsX0_leadsAt := goodIn_r _ [7, 8, 9, 10, 11, 6, 12, 13, 20, 21, 22, 23, 24, 25, 26, 27, 28, 29, 30, 31, 32, 33] (by decide +kernel) (by decide +kernel)
set_option maxRecDepth 20000 in
theorem gX0_countColder_X0_leadsAt : GoodIn wsX0_countColder (wsV RX0 84 RX0 yX0_leadsAt wsX0_leadsAt) := goodIn_app (goodIn_of _ (by decide +kernel)) ggX0_countColder_X0_leadsAt
set_option maxRecDepth 20000 in
theorem ggX0_countColder_X0_warmthAt : GoodIn wsX0_countColder wsX0_warmthAt := goodIn_r _ [17, 8, 18, 19, 9, 10, 11, 6, 12, 13, 20, 21, 22, 23, 24, 25, 26, 27, 28, 29, 30, 31, 32, 33] (by decide +kernel) (by decide +kernel)
set_option maxRecDepth 20000 in
theorem gX0_countColder_X0_warmthAt : GoodIn wsX0_countColder (wsV RX0 87 RX0 yX0_warmthAt wsX0_warmthAt) := goodIn_app (goodIn_of _ (by decide +kernel)) ggX0_countColder_X0_warmthAt
theorem dX0_countColder_0 : decode cX0_countColder 0 = .ok (.iconst 0, 1) := by decide +kernel
theorem dX0_countColder_1 : decode cX0_countColder 1 = .ok (.istore_n 2, 1) := by decide +kernel
theorem dX0_countColder_2 : decode cX0_countColder 2 = .ok (.iconst 0, 1) := by decide +kernel
theorem dX0_countColder_3 : decode cX0_countColder 3 = .ok (.istore_n 3, 1) := by decide +kernel
theorem dX0_countColder_4 : decode cX0_countColder 4 = .ok (.iload_n 3, 1) := by decide +kernel
theorem dX0_countColder_5 : decode cX0_countColder 5 = .ok (.aload_n 0, 1) := by decide +kernel
theorem dX0_countColder_6 : decode cX0_countColder 6 = .ok (.getfield 32, 3) := by decide +kernel
theorem dX0_countColder_9 : decode cX0_countColder 9 = .ok (.if_icmp .ge 56, 3) := by decide +kernel
theorem dX0_countColder_12 : decode cX0_countColder 12 = .ok (.iconst 0, 1) := by decide +kernel
theorem dX0_countColder_13 : decode cX0_countColder 13 = .ok (.istore 4, 2) := by decide +kernel
theorem dX0_countColder_15 : decode cX0_countColder 15 = .ok (.iload 4, 2) := by decide +kernel
theorem dX0_countColder_17 : decode cX0_countColder 17 = .ok (.aload_n 0, 1) := by decide +kernel
theorem dX0_countColder_18 : decode cX0_countColder 18 = .ok (.getfield 29, 3) := by decide +kernel
theorem dX0_countColder_21 : decode cX0_countColder 21 = .ok (.if_icmp .ge 38, 3) := by decide +kernel
theorem dX0_countColder_24 : decode cX0_countColder 24 = .ok (.iload_n 2, 1) := by decide +kernel
theorem dX0_countColder_25 : decode cX0_countColder 25 = .ok (.aload_n 0, 1) := by decide +kernel
theorem dX0_countColder_26 : decode cX0_countColder 26 = .ok (.iload 4, 2) := by decide +kernel
theorem dX0_countColder_28 : decode cX0_countColder 28 = .ok (.iload_n 3, 1) := by decide +kernel
theorem dX0_countColder_29 : decode cX0_countColder 29 = .ok (.invokevirtual 84, 3) := by decide +kernel
theorem dX0_countColder_32 : decode cX0_countColder 32 = .ok (.ifCond .le 18, 3) := by decide +kernel
theorem dX0_countColder_35 : decode cX0_countColder 35 = .ok (.aload_n 0, 1) := by decide +kernel
theorem dX0_countColder_36 : decode cX0_countColder 36 = .ok (.iload 4, 2) := by decide +kernel
theorem dX0_countColder_38 : decode cX0_countColder 38 = .ok (.iload_n 3, 1) := by decide +kernel
theorem dX0_countColder_39 : decode cX0_countColder 39 = .ok (.invokevirtual 87, 3) := by decide +kernel
theorem dX0_countColder_42 : decode cX0_countColder 42 = .ok (.iload_n 1, 1) := by decide +kernel
theorem dX0_countColder_43 : decode cX0_countColder 43 = .ok (.if_icmp .ge 7, 3) := by decide +kernel
theorem dX0_countColder_46 : decode cX0_countColder 46 = .ok (.iconst 1, 1) := by decide +kernel
theorem dX0_countColder_47 : decode cX0_countColder 47 = .ok (.goto 4, 3) := by decide +kernel
theorem dX0_countColder_50 : decode cX0_countColder 50 = .ok (.iconst 0, 1) := by decide +kernel
theorem dX0_countColder_51 : decode cX0_countColder 51 = .ok (.iadd, 1) := by decide +kernel
theorem dX0_countColder_52 : decode cX0_countColder 52 = .ok (.istore_n 2, 1) := by decide +kernel
theorem dX0_countColder_53 : decode cX0_countColder 53 = .ok (.iinc 4 1, 3) := by decide +kernel
theorem dX0_countColder_56 : decode cX0_countColder 56 = .ok (.goto (-41), 3) := by decide +kernel
theorem dX0_countColder_59 : decode cX0_countColder 59 = .ok (.iinc 3 1, 3) := by decide +kernel
theorem dX0_countColder_62 : decode cX0_countColder 62 = .ok (.goto (-58), 3) := by decide +kernel
theorem dX0_countColder_65 : decode cX0_countColder 65 = .ok (.iload_n 2, 1) := by decide +kernel
theorem dX0_countColder_66 : decode cX0_countColder 66 = .ok (.ireturn, 1) := by decide +kernel
set_option maxRecDepth 20000 in
theorem ggX0_sumOfWarmths_X0_leadsAt : GoodIn wsX0_sumOfWarmths wsX0_leadsAt := goodIn_r _ [7, 8, 9, 10, 11, 6, 12, 13, 20, 21, 22, 23, 24, 25, 26, 27, 28, 29, 30, 31, 32, 33] (by decide +kernel) (by decide +kernel)
set_option maxRecDepth 20000 in
theorem gX0_sumOfWarmths_X0_leadsAt : GoodIn wsX0_sumOfWarmths (wsV RX0 84 RX0 yX0_leadsAt wsX0_leadsAt) := goodIn_app (goodIn_of _ (by decide +kernel)) ggX0_sumOfWarmths_X0_leadsAt
set_option maxRecDepth 20000 in
theorem ggX0_sumOfWarmths_X0_warmthAt : GoodIn wsX0_sumOfWarmths wsX0_warmthAt := goodIn_r _ [17, 8, 18, 19, 9, 10, 11, 6, 12, 13, 20, 21, 22, 23, 24, 25, 26, 27, 28, 29, 30, 31, 32, 33] (by decide +kernel) (by decide +kernel)
set_option maxRecDepth 20000 in
theorem gX0_sumOfWarmths_X0_warmthAt : GoodIn wsX0_sumOfWarmths (wsV RX0 87 RX0 yX0_warmthAt wsX0_warmthAt) := goodIn_app (goodIn_of _ (by decide +kernel)) ggX0_sumOfWarmths_X0_warmthAt
theorem dX0_sumOfWarmths_0 : decode cX0_sumOfWarmths 0 = .ok (.lconst 0, 1) := by decide +kernel
theorem dX0_sumOfWarmths_1 : decode cX0_sumOfWarmths 1 = .ok (.lstore_n 1, 1) := by decide +kernel
theorem dX0_sumOfWarmths_2 : decode cX0_sumOfWarmths 2 = .ok (.iconst 0, 1) := by decide +kernel
theorem dX0_sumOfWarmths_3 : decode cX0_sumOfWarmths 3 = .ok (.istore_n 3, 1) := by decide +kernel
theorem dX0_sumOfWarmths_4 : decode cX0_sumOfWarmths 4 = .ok (.iload_n 3, 1) := by decide +kernel
theorem dX0_sumOfWarmths_5 : decode cX0_sumOfWarmths 5 = .ok (.aload_n 0, 1) := by decide +kernel
theorem dX0_sumOfWarmths_6 : decode cX0_sumOfWarmths 6 = .ok (.getfield 32, 3) := by decide +kernel
theorem dX0_sumOfWarmths_9 : decode cX0_sumOfWarmths 9 = .ok (.if_icmp .ge 52, 3) := by decide +kernel
theorem dX0_sumOfWarmths_12 : decode cX0_sumOfWarmths 12 = .ok (.iconst 0, 1) := by decide +kernel
theorem dX0_sumOfWarmths_13 : decode cX0_sumOfWarmths 13 = .ok (.istore 4, 2) := by decide +kernel
theorem dX0_sumOfWarmths_15 : decode cX0_sumOfWarmths 15 = .ok (.iload 4, 2) := by decide +kernel
theorem dX0_sumOfWarmths_17 : decode cX0_sumOfWarmths 17 = .ok (.aload_n 0, 1) := by decide +kernel
theorem dX0_sumOfWarmths_18 : decode cX0_sumOfWarmths 18 = .ok (.getfield 29, 3) := by decide +kernel
theorem dX0_sumOfWarmths_21 : decode cX0_sumOfWarmths 21 = .ok (.if_icmp .ge 34, 3) := by decide +kernel
theorem dX0_sumOfWarmths_24 : decode cX0_sumOfWarmths 24 = .ok (.lload_n 1, 1) := by decide +kernel
theorem dX0_sumOfWarmths_25 : decode cX0_sumOfWarmths 25 = .ok (.aload_n 0, 1) := by decide +kernel
theorem dX0_sumOfWarmths_26 : decode cX0_sumOfWarmths 26 = .ok (.iload 4, 2) := by decide +kernel
theorem dX0_sumOfWarmths_28 : decode cX0_sumOfWarmths 28 = .ok (.iload_n 3, 1) := by decide +kernel
theorem dX0_sumOfWarmths_29 : decode cX0_sumOfWarmths 29 = .ok (.invokevirtual 84, 3) := by decide +kernel
theorem dX0_sumOfWarmths_32 : decode cX0_sumOfWarmths 32 = .ok (.ifCond .le 14, 3) := by decide +kernel
theorem dX0_sumOfWarmths_35 : decode cX0_sumOfWarmths 35 = .ok (.aload_n 0, 1) := by decide +kernel
theorem dX0_sumOfWarmths_36 : decode cX0_sumOfWarmths 36 = .ok (.iload 4, 2) := by decide +kernel
theorem dX0_sumOfWarmths_38 : decode cX0_sumOfWarmths 38 = .ok (.iload_n 3, 1) := by decide +kernel
theorem dX0_sumOfWarmths_39 : decode cX0_sumOfWarmths 39 = .ok (.invokevirtual 87, 3) := by decide +kernel
theorem dX0_sumOfWarmths_42 : decode cX0_sumOfWarmths 42 = .ok (.i2l, 1) := by decide +kernel
theorem dX0_sumOfWarmths_43 : decode cX0_sumOfWarmths 43 = .ok (.goto 4, 3) := by decide +kernel
theorem dX0_sumOfWarmths_46 : decode cX0_sumOfWarmths 46 = .ok (.lconst 0, 1) := by decide +kernel
theorem dX0_sumOfWarmths_47 : decode cX0_sumOfWarmths 47 = .ok (.ladd, 1) := by decide +kernel
theorem dX0_sumOfWarmths_48 : decode cX0_sumOfWarmths 48 = .ok (.lstore_n 1, 1) := by decide +kernel
theorem dX0_sumOfWarmths_49 : decode cX0_sumOfWarmths 49 = .ok (.iinc 4 1, 3) := by decide +kernel
theorem dX0_sumOfWarmths_52 : decode cX0_sumOfWarmths 52 = .ok (.goto (-37), 3) := by decide +kernel
theorem dX0_sumOfWarmths_55 : decode cX0_sumOfWarmths 55 = .ok (.iinc 3 1, 3) := by decide +kernel
theorem dX0_sumOfWarmths_58 : decode cX0_sumOfWarmths 58 = .ok (.goto (-54), 3) := by decide +kernel
theorem dX0_sumOfWarmths_61 : decode cX0_sumOfWarmths 61 = .ok (.lload_n 1, 1) := by decide +kernel
theorem dX0_sumOfWarmths_62 : decode cX0_sumOfWarmths 62 = .ok (.lreturn, 1) := by decide +kernel
set_option maxRecDepth 20000 in
theorem ggX0_rowsMirror_X0_warmthAt : GoodIn wsX0_rowsMirror wsX0_warmthAt := goodIn_r _ [7, 8, 9, 10, 11, 12, 13, 6, 14, 15, 16, 17, 18, 19, 20, 21, 22, 23, 24, 25, 26, 27, 28, 29] (by decide +kernel) (by decide +kernel)
set_option maxRecDepth 20000 in
theorem gX0_rowsMirror_X0_warmthAt : GoodIn wsX0_rowsMirror (wsV RX0 87 RX0 yX0_warmthAt wsX0_warmthAt) := goodIn_app (goodIn_of _ (by decide +kernel)) ggX0_rowsMirror_X0_warmthAt
theorem dX0_rowsMirror_0 : decode cX0_rowsMirror 0 = .ok (.iconst 0, 1) := by decide +kernel
theorem dX0_rowsMirror_1 : decode cX0_rowsMirror 1 = .ok (.istore_n 1, 1) := by decide +kernel
theorem dX0_rowsMirror_2 : decode cX0_rowsMirror 2 = .ok (.iload_n 1, 1) := by decide +kernel
theorem dX0_rowsMirror_3 : decode cX0_rowsMirror 3 = .ok (.aload_n 0, 1) := by decide +kernel
theorem dX0_rowsMirror_4 : decode cX0_rowsMirror 4 = .ok (.getfield 32, 3) := by decide +kernel
theorem dX0_rowsMirror_7 : decode cX0_rowsMirror 7 = .ok (.if_icmp .ge 49, 3) := by decide +kernel
theorem dX0_rowsMirror_10 : decode cX0_rowsMirror 10 = .ok (.iconst 0, 1) := by decide +kernel
theorem dX0_rowsMirror_11 : decode cX0_rowsMirror 11 = .ok (.istore_n 2, 1) := by decide +kernel
theorem dX0_rowsMirror_12 : decode cX0_rowsMirror 12 = .ok (.iload_n 2, 1) := by decide +kernel
theorem dX0_rowsMirror_13 : decode cX0_rowsMirror 13 = .ok (.aload_n 0, 1) := by decide +kernel
theorem dX0_rowsMirror_14 : decode cX0_rowsMirror 14 = .ok (.getfield 29, 3) := by decide +kernel
theorem dX0_rowsMirror_17 : decode cX0_rowsMirror 17 = .ok (.if_icmp .ge 33, 3) := by decide +kernel
theorem dX0_rowsMirror_20 : decode cX0_rowsMirror 20 = .ok (.aload_n 0, 1) := by decide +kernel
theorem dX0_rowsMirror_21 : decode cX0_rowsMirror 21 = .ok (.iload_n 2, 1) := by decide +kernel
theorem dX0_rowsMirror_22 : decode cX0_rowsMirror 22 = .ok (.iload_n 1, 1) := by decide +kernel
theorem dX0_rowsMirror_23 : decode cX0_rowsMirror 23 = .ok (.invokevirtual 87, 3) := by decide +kernel
theorem dX0_rowsMirror_26 : decode cX0_rowsMirror 26 = .ok (.aload_n 0, 1) := by decide +kernel
theorem dX0_rowsMirror_27 : decode cX0_rowsMirror 27 = .ok (.aload_n 0, 1) := by decide +kernel
theorem dX0_rowsMirror_28 : decode cX0_rowsMirror 28 = .ok (.getfield 29, 3) := by decide +kernel
theorem dX0_rowsMirror_31 : decode cX0_rowsMirror 31 = .ok (.iconst 1, 1) := by decide +kernel
theorem dX0_rowsMirror_32 : decode cX0_rowsMirror 32 = .ok (.isub, 1) := by decide +kernel
theorem dX0_rowsMirror_33 : decode cX0_rowsMirror 33 = .ok (.iload_n 2, 1) := by decide +kernel
theorem dX0_rowsMirror_34 : decode cX0_rowsMirror 34 = .ok (.isub, 1) := by decide +kernel
theorem dX0_rowsMirror_35 : decode cX0_rowsMirror 35 = .ok (.iload_n 1, 1) := by decide +kernel
theorem dX0_rowsMirror_36 : decode cX0_rowsMirror 36 = .ok (.invokevirtual 87, 3) := by decide +kernel
theorem dX0_rowsMirror_39 : decode cX0_rowsMirror 39 = .ok (.if_icmp .eq 5, 3) := by decide +kernel
theorem dX0_rowsMirror_42 : decode cX0_rowsMirror 42 = .ok (.iconst 0, 1) := by decide +kernel
theorem dX0_rowsMirror_43 : decode cX0_rowsMirror 43 = .ok (.ireturn, 1) := by decide +kernel
theorem dX0_rowsMirror_44 : decode cX0_rowsMirror 44 = .ok (.iinc 2 1, 3) := by decide +kernel
theorem dX0_rowsMirror_47 : decode cX0_rowsMirror 47 = .ok (.goto (-35), 3) := by decide +kernel
theorem dX0_rowsMirror_50 : decode cX0_rowsMirror 50 = .ok (.iinc 1 1, 3) := by decide +kernel
theorem dX0_rowsMirror_53 : decode cX0_rowsMirror 53 = .ok (.goto (-51), 3) := by decide +kernel
theorem dX0_rowsMirror_56 : decode cX0_rowsMirror 56 = .ok (.iconst 1, 1) := by decide +kernel
theorem dX0_rowsMirror_57 : decode cX0_rowsMirror 57 = .ok (.ireturn, 1) := by decide +kernel
set_option maxRecDepth 20000 in
theorem ggX0_columnsMirror_X0_warmthAt : GoodIn wsX0_columnsMirror wsX0_warmthAt := goodIn_r _ [7, 8, 9, 10, 11, 12, 13, 6, 14, 15, 16, 17, 18, 19, 20, 21, 22, 23, 24, 25, 26, 27, 28, 29] (by decide +kernel) (by decide +kernel)
set_option maxRecDepth 20000 in
theorem gX0_columnsMirror_X0_warmthAt : GoodIn wsX0_columnsMirror (wsV RX0 87 RX0 yX0_warmthAt wsX0_warmthAt) := goodIn_app (goodIn_of _ (by decide +kernel)) ggX0_columnsMirror_X0_warmthAt
theorem dX0_columnsMirror_0 : decode cX0_columnsMirror 0 = .ok (.iconst 0, 1) := by decide +kernel
theorem dX0_columnsMirror_1 : decode cX0_columnsMirror 1 = .ok (.istore_n 1, 1) := by decide +kernel
theorem dX0_columnsMirror_2 : decode cX0_columnsMirror 2 = .ok (.iload_n 1, 1) := by decide +kernel
theorem dX0_columnsMirror_3 : decode cX0_columnsMirror 3 = .ok (.aload_n 0, 1) := by decide +kernel
theorem dX0_columnsMirror_4 : decode cX0_columnsMirror 4 = .ok (.getfield 32, 3) := by decide +kernel
theorem dX0_columnsMirror_7 : decode cX0_columnsMirror 7 = .ok (.if_icmp .ge 49, 3) := by decide +kernel
theorem dX0_columnsMirror_10 : decode cX0_columnsMirror 10 = .ok (.iconst 0, 1) := by decide +kernel
theorem dX0_columnsMirror_11 : decode cX0_columnsMirror 11 = .ok (.istore_n 2, 1) := by decide +kernel
theorem dX0_columnsMirror_12 : decode cX0_columnsMirror 12 = .ok (.iload_n 2, 1) := by decide +kernel
theorem dX0_columnsMirror_13 : decode cX0_columnsMirror 13 = .ok (.aload_n 0, 1) := by decide +kernel
theorem dX0_columnsMirror_14 : decode cX0_columnsMirror 14 = .ok (.getfield 29, 3) := by decide +kernel
theorem dX0_columnsMirror_17 : decode cX0_columnsMirror 17 = .ok (.if_icmp .ge 33, 3) := by decide +kernel
theorem dX0_columnsMirror_20 : decode cX0_columnsMirror 20 = .ok (.aload_n 0, 1) := by decide +kernel
theorem dX0_columnsMirror_21 : decode cX0_columnsMirror 21 = .ok (.iload_n 2, 1) := by decide +kernel
theorem dX0_columnsMirror_22 : decode cX0_columnsMirror 22 = .ok (.iload_n 1, 1) := by decide +kernel
theorem dX0_columnsMirror_23 : decode cX0_columnsMirror 23 = .ok (.invokevirtual 87, 3) := by decide +kernel
theorem dX0_columnsMirror_26 : decode cX0_columnsMirror 26 = .ok (.aload_n 0, 1) := by decide +kernel
theorem dX0_columnsMirror_27 : decode cX0_columnsMirror 27 = .ok (.iload_n 2, 1) := by decide +kernel
theorem dX0_columnsMirror_28 : decode cX0_columnsMirror 28 = .ok (.aload_n 0, 1) := by decide +kernel
theorem dX0_columnsMirror_29 : decode cX0_columnsMirror 29 = .ok (.getfield 32, 3) := by decide +kernel
theorem dX0_columnsMirror_32 : decode cX0_columnsMirror 32 = .ok (.iconst 1, 1) := by decide +kernel
theorem dX0_columnsMirror_33 : decode cX0_columnsMirror 33 = .ok (.isub, 1) := by decide +kernel
theorem dX0_columnsMirror_34 : decode cX0_columnsMirror 34 = .ok (.iload_n 1, 1) := by decide +kernel
theorem dX0_columnsMirror_35 : decode cX0_columnsMirror 35 = .ok (.isub, 1) := by decide +kernel
theorem dX0_columnsMirror_36 : decode cX0_columnsMirror 36 = .ok (.invokevirtual 87, 3) := by decide +kernel
theorem dX0_columnsMirror_39 : decode cX0_columnsMirror 39 = .ok (.if_icmp .eq 5, 3) := by decide +kernel
theorem dX0_columnsMirror_42 : decode cX0_columnsMirror 42 = .ok (.iconst 0, 1) := by decide +kernel
theorem dX0_columnsMirror_43 : decode cX0_columnsMirror 43 = .ok (.ireturn, 1) := by decide +kernel
theorem dX0_columnsMirror_44 : decode cX0_columnsMirror 44 = .ok (.iinc 2 1, 3) := by decide +kernel
theorem dX0_columnsMirror_47 : decode cX0_columnsMirror 47 = .ok (.goto (-35), 3) := by decide +kernel
theorem dX0_columnsMirror_50 : decode cX0_columnsMirror 50 = .ok (.iinc 1 1, 3) := by decide +kernel
theorem dX0_columnsMirror_53 : decode cX0_columnsMirror 53 = .ok (.goto (-51), 3) := by decide +kernel
theorem dX0_columnsMirror_56 : decode cX0_columnsMirror 56 = .ok (.iconst 1, 1) := by decide +kernel
theorem dX0_columnsMirror_57 : decode cX0_columnsMirror 57 = .ok (.ireturn, 1) := by decide +kernel
set_option maxRecDepth 20000 in
theorem ggX0_flowOf_X0_countAlong : GoodIn wsX0_flowOf wsX0_countAlong := goodIn_r _ [9, 10, 11, 24, 25, 26, 27, 28, 29, 30, 31, 32, 33, 34, 35, 36, 37] (by decide +kernel) (by decide +kernel)
set_option maxRecDepth 20000 in
theorem gX0_flowOf_X0_countAlong : GoodIn wsX0_flowOf (wsV RX0 61 RX0 yX0_countAlong wsX0_countAlong) := goodIn_app (goodIn_of _ (by decide +kernel)) ggX0_flowOf_X0_countAlong
set_option maxRecDepth 20000 in
theorem ggX0_flowOf_X0_cellAlong : GoodIn wsX0_flowOf wsX0_cellAlong := goodIn_r _ [15, 10, 11, 16, 17, 18, 8, 19, 20, 24, 25, 26, 27, 28, 29, 30, 31, 32, 33, 34, 35, 36, 37] (by decide +kernel) (by decide +kernel)
set_option maxRecDepth 20000 in
theorem gX0_flowOf_X0_cellAlong : GoodIn wsX0_flowOf (wsV RX0 65 RX0 yX0_cellAlong wsX0_cellAlong) := goodIn_app (goodIn_of _ (by decide +kernel)) ggX0_flowOf_X0_cellAlong
set_option maxRecDepth 20000 in
theorem ggX0_flowOf_X0_couple : GoodIn wsX0_flowOf wsX0_couple := goodIn_r _ [23] (by decide +kernel) (by decide +kernel)
set_option maxRecDepth 20000 in
theorem gX0_flowOf_X0_couple : GoodIn wsX0_flowOf (va_wsS RX0 90 yX0_couple wsX0_couple) := goodIn_app (goodIn_of _ (by decide +kernel)) ggX0_flowOf_X0_couple
theorem dX0_flowOf_0 : decode cX0_flowOf 0 = .ok (.lconst 0, 1) := by decide +kernel
theorem dX0_flowOf_1 : decode cX0_flowOf 1 = .ok (.lstore_n 2, 1) := by decide +kernel
theorem dX0_flowOf_2 : decode cX0_flowOf 2 = .ok (.aload_n 0, 1) := by decide +kernel
theorem dX0_flowOf_3 : decode cX0_flowOf 3 = .ok (.iload_n 1, 1) := by decide +kernel
theorem dX0_flowOf_4 : decode cX0_flowOf 4 = .ok (.invokevirtual 61, 3) := by decide +kernel
theorem dX0_flowOf_7 : decode cX0_flowOf 7 = .ok (.istore 4, 2) := by decide +kernel
theorem dX0_flowOf_9 : decode cX0_flowOf 9 = .ok (.iconst 0, 1) := by decide +kernel
theorem dX0_flowOf_10 : decode cX0_flowOf 10 = .ok (.istore 5, 2) := by decide +kernel
theorem dX0_flowOf_12 : decode cX0_flowOf 12 = .ok (.iload 5, 2) := by decide +kernel
theorem dX0_flowOf_14 : decode cX0_flowOf 14 = .ok (.iload 4, 2) := by decide +kernel
theorem dX0_flowOf_16 : decode cX0_flowOf 16 = .ok (.if_icmp .ge 53, 3) := by decide +kernel
theorem dX0_flowOf_19 : decode cX0_flowOf 19 = .ok (.aload_n 0, 1) := by decide +kernel
theorem dX0_flowOf_20 : decode cX0_flowOf 20 = .ok (.iload_n 1, 1) := by decide +kernel
theorem dX0_flowOf_21 : decode cX0_flowOf 21 = .ok (.iload 5, 2) := by decide +kernel
theorem dX0_flowOf_23 : decode cX0_flowOf 23 = .ok (.invokevirtual 65, 3) := by decide +kernel
theorem dX0_flowOf_26 : decode cX0_flowOf 26 = .ok (.istore 6, 2) := by decide +kernel
theorem dX0_flowOf_28 : decode cX0_flowOf 28 = .ok (.lload_n 2, 1) := by decide +kernel
theorem dX0_flowOf_29 : decode cX0_flowOf 29 = .ok (.aload_n 0, 1) := by decide +kernel
theorem dX0_flowOf_30 : decode cX0_flowOf 30 = .ok (.getfield 38, 3) := by decide +kernel
theorem dX0_flowOf_33 : decode cX0_flowOf 33 = .ok (.iload 6, 2) := by decide +kernel
theorem dX0_flowOf_35 : decode cX0_flowOf 35 = .ok (.iaload, 1) := by decide +kernel
theorem dX0_flowOf_36 : decode cX0_flowOf 36 = .ok (.aload_n 0, 1) := by decide +kernel
theorem dX0_flowOf_37 : decode cX0_flowOf 37 = .ok (.getfield 15, 3) := by decide +kernel
theorem dX0_flowOf_40 : decode cX0_flowOf 40 = .ok (.iload_n 1, 1) := by decide +kernel
theorem dX0_flowOf_41 : decode cX0_flowOf 41 = .ok (.iaload, 1) := by decide +kernel
theorem dX0_flowOf_42 : decode cX0_flowOf 42 = .ok (.invokestatic 90, 3) := by decide +kernel
theorem dX0_flowOf_45 : decode cX0_flowOf 45 = .ok (.aload_n 0, 1) := by decide +kernel
theorem dX0_flowOf_46 : decode cX0_flowOf 46 = .ok (.getfield 9, 3) := by decide +kernel
theorem dX0_flowOf_49 : decode cX0_flowOf 49 = .ok (.iload_n 1, 1) := by decide +kernel
theorem dX0_flowOf_50 : decode cX0_flowOf 50 = .ok (.iaload, 1) := by decide +kernel
theorem dX0_flowOf_51 : decode cX0_flowOf 51 = .ok (.aload_n 0, 1) := by decide +kernel
theorem dX0_flowOf_52 : decode cX0_flowOf 52 = .ok (.getfield 41, 3) := by decide +kernel
theorem dX0_flowOf_55 : decode cX0_flowOf 55 = .ok (.iload 6, 2) := by decide +kernel
theorem dX0_flowOf_57 : decode cX0_flowOf 57 = .ok (.iaload, 1) := by decide +kernel
theorem dX0_flowOf_58 : decode cX0_flowOf 58 = .ok (.isub, 1) := by decide +kernel
theorem dX0_flowOf_59 : decode cX0_flowOf 59 = .ok (.imul, 1) := by decide +kernel
theorem dX0_flowOf_60 : decode cX0_flowOf 60 = .ok (.i2l, 1) := by decide +kernel
theorem dX0_flowOf_61 : decode cX0_flowOf 61 = .ok (.ladd, 1) := by decide +kernel
theorem dX0_flowOf_62 : decode cX0_flowOf 62 = .ok (.lstore_n 2, 1) := by decide +kernel
theorem dX0_flowOf_63 : decode cX0_flowOf 63 = .ok (.iinc 5 1, 3) := by decide +kernel
theorem dX0_flowOf_66 : decode cX0_flowOf 66 = .ok (.goto (-54), 3) := by decide +kernel
theorem dX0_flowOf_69 : decode cX0_flowOf 69 = .ok (.lload_n 2, 1) := by decide +kernel
theorem dX0_flowOf_70 : decode cX0_flowOf 70 = .ok (.lreturn, 1) := by decide +kernel
set_option maxRecDepth 20000 in
theorem ggX0_heat_X0_flowOf : GoodIn wsX0_heat wsX0_flowOf := goodIn_r _ [9, 10, 11, 12, 13, 14, 15, 16, 8, 17, 18, 19, 20, 21, 22, 23, 24, 25, 26, 27, 28, 29, 30, 31, 32, 33, 34, 35, 36, 37, 38, 39, 40, 41, 42, 43, 44, 45] (by decide +kernel) (by decide +kernel)
set_option maxRecDepth 20000 in
theorem gX0_heat_X0_flowOf : GoodIn wsX0_heat (wsV RX0 93 RX0 yX0_flowOf wsX0_flowOf) := goodIn_app (goodIn_of _ (by decide +kernel)) ggX0_heat_X0_flowOf
theorem dX0_heat_0 : decode cX0_heat 0 = .ok (.lconst 0, 1) := by decide +kernel
theorem dX0_heat_1 : decode cX0_heat 1 = .ok (.lstore_n 1, 1) := by decide +kernel
theorem dX0_heat_2 : decode cX0_heat 2 = .ok (.iconst 0, 1) := by decide +kernel
theorem dX0_heat_3 : decode cX0_heat 3 = .ok (.istore_n 3, 1) := by decide +kernel
theorem dX0_heat_4 : decode cX0_heat 4 = .ok (.iload_n 3, 1) := by decide +kernel
theorem dX0_heat_5 : decode cX0_heat 5 = .ok (.iconst 4, 1) := by decide +kernel
theorem dX0_heat_6 : decode cX0_heat 6 = .ok (.if_icmp .ge 21, 3) := by decide +kernel
theorem dX0_heat_9 : decode cX0_heat 9 = .ok (.lload_n 1, 1) := by decide +kernel
theorem dX0_heat_10 : decode cX0_heat 10 = .ok (.lconst 0, 1) := by decide +kernel
theorem dX0_heat_11 : decode cX0_heat 11 = .ok (.aload_n 0, 1) := by decide +kernel
theorem dX0_heat_12 : decode cX0_heat 12 = .ok (.iload_n 3, 1) := by decide +kernel
theorem dX0_heat_13 : decode cX0_heat 13 = .ok (.invokevirtual 93, 3) := by decide +kernel
theorem dX0_heat_16 : decode cX0_heat 16 = .ok (.invokestatic 97, 3) := by decide +kernel
theorem dX0_heat_19 : decode cX0_heat 19 = .ok (.ladd, 1) := by decide +kernel
theorem dX0_heat_20 : decode cX0_heat 20 = .ok (.lstore_n 1, 1) := by decide +kernel
theorem dX0_heat_21 : decode cX0_heat 21 = .ok (.iinc 3 1, 3) := by decide +kernel
theorem dX0_heat_24 : decode cX0_heat 24 = .ok (.goto (-20), 3) := by decide +kernel
theorem dX0_heat_27 : decode cX0_heat 27 = .ok (.lload_n 1, 1) := by decide +kernel
theorem dX0_heat_28 : decode cX0_heat 28 = .ok (.lreturn, 1) := by decide +kernel
set_option maxRecDepth 20000 in
theorem ggX0_rest_X0_flowOf : GoodIn wsX0_rest wsX0_flowOf := goodIn_r _ [5, 6, 7, 8, 9, 10, 11, 12, 4, 13, 14, 15, 16, 17, 18, 19, 20, 21, 22, 23, 24, 25, 26, 27, 28, 29, 30, 31, 32, 33, 34, 35, 36, 37, 38, 39, 40, 41] (by decide +kernel) (by decide +kernel)
set_option maxRecDepth 20000 in
theorem gX0_rest_X0_flowOf : GoodIn wsX0_rest (wsV RX0 93 RX0 yX0_flowOf wsX0_flowOf) := goodIn_app (goodIn_of _ (by decide +kernel)) ggX0_rest_X0_flowOf
theorem dX0_rest_0 : decode cX0_rest 0 = .ok (.lconst 0, 1) := by decide +kernel
theorem dX0_rest_1 : decode cX0_rest 1 = .ok (.lstore_n 1, 1) := by decide +kernel
theorem dX0_rest_2 : decode cX0_rest 2 = .ok (.iconst 0, 1) := by decide +kernel
theorem dX0_rest_3 : decode cX0_rest 3 = .ok (.istore_n 3, 1) := by decide +kernel
theorem dX0_rest_4 : decode cX0_rest 4 = .ok (.iload_n 3, 1) := by decide +kernel
theorem dX0_rest_5 : decode cX0_rest 5 = .ok (.iconst 4, 1) := by decide +kernel
theorem dX0_rest_6 : decode cX0_rest 6 = .ok (.if_icmp .ge 17, 3) := by decide +kernel
theorem dX0_rest_9 : decode cX0_rest 9 = .ok (.lload_n 1, 1) := by decide +kernel
theorem dX0_rest_10 : decode cX0_rest 10 = .ok (.aload_n 0, 1) := by decide +kernel
theorem dX0_rest_11 : decode cX0_rest 11 = .ok (.iload_n 3, 1) := by decide +kernel
theorem dX0_rest_12 : decode cX0_rest 12 = .ok (.invokevirtual 93, 3) := by decide +kernel
theorem dX0_rest_15 : decode cX0_rest 15 = .ok (.ladd, 1) := by decide +kernel
theorem dX0_rest_16 : decode cX0_rest 16 = .ok (.lstore_n 1, 1) := by decide +kernel
theorem dX0_rest_17 : decode cX0_rest 17 = .ok (.iinc 3 1, 3) := by decide +kernel
theorem dX0_rest_20 : decode cX0_rest 20 = .ok (.goto (-16), 3) := by decide +kernel
theorem dX0_rest_23 : decode cX0_rest 23 = .ok (.lload_n 1, 1) := by decide +kernel
theorem dX0_rest_24 : decode cX0_rest 24 = .ok (.lreturn, 1) := by decide +kernel
set_option maxRecDepth 20000 in
theorem ggX0_coldestAlong_X0_countAlong : GoodIn wsX0_coldestAlong wsX0_countAlong := goodIn_r _ [6, 7, 8, 23, 24, 25, 26, 27, 28, 29, 30, 31, 32, 33, 34, 35, 36] (by decide +kernel) (by decide +kernel)
set_option maxRecDepth 20000 in
theorem gX0_coldestAlong_X0_countAlong : GoodIn wsX0_coldestAlong (wsV RX0 61 RX0 yX0_countAlong wsX0_countAlong) := goodIn_app (goodIn_of _ (by decide +kernel)) ggX0_coldestAlong_X0_countAlong
set_option maxRecDepth 20000 in
theorem ggX0_coldestAlong_X0_cellAlong : GoodIn wsX0_coldestAlong wsX0_cellAlong := goodIn_r _ [12, 7, 8, 13, 14, 15, 5, 16, 17, 23, 24, 25, 26, 27, 28, 29, 30, 31, 32, 33, 34, 35, 36] (by decide +kernel) (by decide +kernel)
set_option maxRecDepth 20000 in
theorem gX0_coldestAlong_X0_cellAlong : GoodIn wsX0_coldestAlong (wsV RX0 65 RX0 yX0_cellAlong wsX0_cellAlong) := goodIn_app (goodIn_of _ (by decide +kernel)) ggX0_coldestAlong_X0_cellAlong
set_option maxRecDepth 20000 in
theorem ggX0_coldestAlong_X0_warmthAlong : GoodIn wsX0_coldestAlong wsX0_warmthAlong := goodIn_r _ [21, 22, 9, 10, 11, 5, 12, 7, 8, 13, 14, 15, 16, 17, 23, 24, 25, 26, 27, 28, 29, 30, 31, 32, 33, 34, 35, 36] (by decide +kernel) (by decide +kernel)
set_option maxRecDepth 20000 in
theorem gX0_coldestAlong_X0_warmthAlong : GoodIn wsX0_coldestAlong (wsV RX0 103 RX0 yX0_warmthAlong wsX0_warmthAlong) := goodIn_app (goodIn_of _ (by decide +kernel)) ggX0_coldestAlong_X0_warmthAlong
theorem dX0_coldestAlong_0 : decode cX0_coldestAlong 0 = .ok (.iconst (-1), 1) := by decide +kernel
theorem dX0_coldestAlong_1 : decode cX0_coldestAlong 1 = .ok (.istore_n 2, 1) := by decide +kernel
theorem dX0_coldestAlong_2 : decode cX0_coldestAlong 2 = .ok (.aload_n 0, 1) := by decide +kernel
theorem dX0_coldestAlong_3 : decode cX0_coldestAlong 3 = .ok (.iload_n 1, 1) := by decide +kernel
theorem dX0_coldestAlong_4 : decode cX0_coldestAlong 4 = .ok (.invokevirtual 61, 3) := by decide +kernel
theorem dX0_coldestAlong_7 : decode cX0_coldestAlong 7 = .ok (.istore_n 3, 1) := by decide +kernel
theorem dX0_coldestAlong_8 : decode cX0_coldestAlong 8 = .ok (.iconst 0, 1) := by decide +kernel
theorem dX0_coldestAlong_9 : decode cX0_coldestAlong 9 = .ok (.istore 4, 2) := by decide +kernel
theorem dX0_coldestAlong_11 : decode cX0_coldestAlong 11 = .ok (.iload 4, 2) := by decide +kernel
theorem dX0_coldestAlong_13 : decode cX0_coldestAlong 13 = .ok (.iload_n 3, 1) := by decide +kernel
theorem dX0_coldestAlong_14 : decode cX0_coldestAlong 14 = .ok (.if_icmp .ge 59, 3) := by decide +kernel
theorem dX0_coldestAlong_17 : decode cX0_coldestAlong 17 = .ok (.aload_n 0, 1) := by decide +kernel
theorem dX0_coldestAlong_18 : decode cX0_coldestAlong 18 = .ok (.getfield 38, 3) := by decide +kernel
theorem dX0_coldestAlong_21 : decode cX0_coldestAlong 21 = .ok (.aload_n 0, 1) := by decide +kernel
theorem dX0_coldestAlong_22 : decode cX0_coldestAlong 22 = .ok (.iload_n 1, 1) := by decide +kernel
theorem dX0_coldestAlong_23 : decode cX0_coldestAlong 23 = .ok (.iload 4, 2) := by decide +kernel
theorem dX0_coldestAlong_25 : decode cX0_coldestAlong 25 = .ok (.invokevirtual 65, 3) := by decide +kernel
theorem dX0_coldestAlong_28 : decode cX0_coldestAlong 28 = .ok (.iaload, 1) := by decide +kernel
theorem dX0_coldestAlong_29 : decode cX0_coldestAlong 29 = .ok (.ifCond .le 7, 3) := by decide +kernel
theorem dX0_coldestAlong_32 : decode cX0_coldestAlong 32 = .ok (.iconst 1, 1) := by decide +kernel
theorem dX0_coldestAlong_33 : decode cX0_coldestAlong 33 = .ok (.goto 4, 3) := by decide +kernel
theorem dX0_coldestAlong_36 : decode cX0_coldestAlong 36 = .ok (.iconst 0, 1) := by decide +kernel
theorem dX0_coldestAlong_37 : decode cX0_coldestAlong 37 = .ok (.istore 5, 2) := by decide +kernel
theorem dX0_coldestAlong_39 : decode cX0_coldestAlong 39 = .ok (.iload 5, 2) := by decide +kernel
theorem dX0_coldestAlong_41 : decode cX0_coldestAlong 41 = .ok (.ifCond .eq 26, 3) := by decide +kernel
theorem dX0_coldestAlong_44 : decode cX0_coldestAlong 44 = .ok (.iload_n 2, 1) := by decide +kernel
theorem dX0_coldestAlong_45 : decode cX0_coldestAlong 45 = .ok (.ifCond .lt 19, 3) := by decide +kernel
theorem dX0_coldestAlong_48 : decode cX0_coldestAlong 48 = .ok (.aload_n 0, 1) := by decide +kernel
theorem dX0_coldestAlong_49 : decode cX0_coldestAlong 49 = .ok (.iload_n 1, 1) := by decide +kernel
theorem dX0_coldestAlong_50 : decode cX0_coldestAlong 50 = .ok (.iload 4, 2) := by decide +kernel
theorem dX0_coldestAlong_52 : decode cX0_coldestAlong 52 = .ok (.invokevirtual 103, 3) := by decide +kernel
theorem dX0_coldestAlong_55 : decode cX0_coldestAlong 55 = .ok (.aload_n 0, 1) := by decide +kernel
theorem dX0_coldestAlong_56 : decode cX0_coldestAlong 56 = .ok (.iload_n 1, 1) := by decide +kernel
theorem dX0_coldestAlong_57 : decode cX0_coldestAlong 57 = .ok (.iload_n 2, 1) := by decide +kernel
theorem dX0_coldestAlong_58 : decode cX0_coldestAlong 58 = .ok (.invokevirtual 103, 3) := by decide +kernel
theorem dX0_coldestAlong_61 : decode cX0_coldestAlong 61 = .ok (.if_icmp .ge 6, 3) := by decide +kernel
theorem dX0_coldestAlong_64 : decode cX0_coldestAlong 64 = .ok (.iload 4, 2) := by decide +kernel
theorem dX0_coldestAlong_66 : decode cX0_coldestAlong 66 = .ok (.istore_n 2, 1) := by decide +kernel
theorem dX0_coldestAlong_67 : decode cX0_coldestAlong 67 = .ok (.iinc 4 1, 3) := by decide +kernel
theorem dX0_coldestAlong_70 : decode cX0_coldestAlong 70 = .ok (.goto (-59), 3) := by decide +kernel
theorem dX0_coldestAlong_73 : decode cX0_coldestAlong 73 = .ok (.iload_n 2, 1) := by decide +kernel
theorem dX0_coldestAlong_74 : decode cX0_coldestAlong 74 = .ok (.ireturn, 1) := by decide +kernel
set_option maxRecDepth 20000 in
theorem ggX0_warmthAlong_X0_cellAlong : GoodIn wsX0_warmthAlong wsX0_cellAlong := goodIn_r _ [6, 7, 8, 9, 10, 11, 5, 12, 13, 14, 15, 16, 17, 18, 19, 20, 21, 22, 23, 24, 25, 26, 27] (by decide +kernel) (by decide +kernel)
set_option maxRecDepth 20000 in
theorem gX0_warmthAlong_X0_cellAlong : GoodIn wsX0_warmthAlong (wsV RX0 65 RX0 yX0_cellAlong wsX0_cellAlong) := goodIn_app (goodIn_of _ (by decide +kernel)) ggX0_warmthAlong_X0_cellAlong
theorem dX0_warmthAlong_0 : decode cX0_warmthAlong 0 = .ok (.aload_n 0, 1) := by decide +kernel
theorem dX0_warmthAlong_1 : decode cX0_warmthAlong 1 = .ok (.getfield 41, 3) := by decide +kernel
theorem dX0_warmthAlong_4 : decode cX0_warmthAlong 4 = .ok (.aload_n 0, 1) := by decide +kernel
theorem dX0_warmthAlong_5 : decode cX0_warmthAlong 5 = .ok (.iload_n 1, 1) := by decide +kernel
theorem dX0_warmthAlong_6 : decode cX0_warmthAlong 6 = .ok (.iload_n 2, 1) := by decide +kernel
theorem dX0_warmthAlong_7 : decode cX0_warmthAlong 7 = .ok (.invokevirtual 65, 3) := by decide +kernel
theorem dX0_warmthAlong_10 : decode cX0_warmthAlong 10 = .ok (.iaload, 1) := by decide +kernel
theorem dX0_warmthAlong_11 : decode cX0_warmthAlong 11 = .ok (.ireturn, 1) := by decide +kernel
set_option maxRecDepth 20000 in
theorem ggX0_aboveLow_X0_warmthAlong : GoodIn wsX0_aboveLow wsX0_warmthAlong := goodIn_r _ [6, 7, 8, 9, 10, 5, 11, 12, 13, 14, 15, 16, 17, 18, 19, 20, 21, 22, 23, 24, 25, 26, 27, 28, 29, 30, 31, 32] (by decide +kernel) (by decide +kernel)
set_option maxRecDepth 20000 in
theorem gX0_aboveLow_X0_warmthAlong : GoodIn wsX0_aboveLow (wsV RX0 103 RX0 yX0_warmthAlong wsX0_warmthAlong) := goodIn_app (goodIn_of _ (by decide +kernel)) ggX0_aboveLow_X0_warmthAlong
theorem dX0_aboveLow_0 : decode cX0_aboveLow 0 = .ok (.aload_n 0, 1) := by decide +kernel
theorem dX0_aboveLow_1 : decode cX0_aboveLow 1 = .ok (.iload_n 1, 1) := by decide +kernel
theorem dX0_aboveLow_2 : decode cX0_aboveLow 2 = .ok (.iload_n 2, 1) := by decide +kernel
theorem dX0_aboveLow_3 : decode cX0_aboveLow 3 = .ok (.invokevirtual 103, 3) := by decide +kernel
theorem dX0_aboveLow_6 : decode cX0_aboveLow 6 = .ok (.aload_n 0, 1) := by decide +kernel
theorem dX0_aboveLow_7 : decode cX0_aboveLow 7 = .ok (.getfield 18, 3) := by decide +kernel
theorem dX0_aboveLow_10 : decode cX0_aboveLow 10 = .ok (.isub, 1) := by decide +kernel
theorem dX0_aboveLow_11 : decode cX0_aboveLow 11 = .ok (.ireturn, 1) := by decide +kernel
theorem dX0_highAboveLow_0 : decode cX0_highAboveLow 0 = .ok (.aload_n 0, 1) := by decide +kernel
theorem dX0_highAboveLow_1 : decode cX0_highAboveLow 1 = .ok (.getfield 22, 3) := by decide +kernel
theorem dX0_highAboveLow_4 : decode cX0_highAboveLow 4 = .ok (.aload_n 0, 1) := by decide +kernel
theorem dX0_highAboveLow_5 : decode cX0_highAboveLow 5 = .ok (.getfield 18, 3) := by decide +kernel
theorem dX0_highAboveLow_8 : decode cX0_highAboveLow 8 = .ok (.isub, 1) := by decide +kernel
theorem dX0_highAboveLow_9 : decode cX0_highAboveLow 9 = .ok (.ireturn, 1) := by decide +kernel
theorem dX0_place_0 : decode cX0_place 0 = .ok (.iload_n 2, 1) := by decide +kernel
theorem dX0_place_1 : decode cX0_place 1 = .ok (.iconst 1, 1) := by decide +kernel
theorem dX0_place_2 : decode cX0_place 2 = .ok (.iadd, 1) := by decide +kernel
theorem dX0_place_3 : decode cX0_place 3 = .ok (.aload_n 0, 1) := by decide +kernel
theorem dX0_place_4 : decode cX0_place 4 = .ok (.getfield 35, 3) := by decide +kernel
theorem dX0_place_7 : decode cX0_place 7 = .ok (.imul, 1) := by decide +kernel
theorem dX0_place_8 : decode cX0_place 8 = .ok (.iload_n 1, 1) := by decide +kernel
theorem dX0_place_9 : decode cX0_place 9 = .ok (.iadd, 1) := by decide +kernel
theorem dX0_place_10 : decode cX0_place 10 = .ok (.iconst 1, 1) := by decide +kernel
theorem dX0_place_11 : decode cX0_place 11 = .ok (.iadd, 1) := by decide +kernel
theorem dX0_place_12 : decode cX0_place 12 = .ok (.ireturn, 1) := by decide +kernel
theorem dX0_countAlong_0 : decode cX0_countAlong 0 = .ok (.iload_n 1, 1) := by decide +kernel
theorem dX0_countAlong_1 : decode cX0_countAlong 1 = .ok (.ifCond .eq 8, 3) := by decide +kernel
theorem dX0_countAlong_4 : decode cX0_countAlong 4 = .ok (.iload_n 1, 1) := by decide +kernel
theorem dX0_countAlong_5 : decode cX0_countAlong 5 = .ok (.iconst 2, 1) := by decide +kernel
theorem dX0_countAlong_6 : decode cX0_countAlong 6 = .ok (.if_icmp .ne 10, 3) := by decide +kernel
theorem dX0_countAlong_9 : decode cX0_countAlong 9 = .ok (.aload_n 0, 1) := by decide +kernel
theorem dX0_countAlong_10 : decode cX0_countAlong 10 = .ok (.getfield 29, 3) := by decide +kernel
theorem dX0_countAlong_13 : decode cX0_countAlong 13 = .ok (.goto 7, 3) := by decide +kernel
theorem dX0_countAlong_16 : decode cX0_countAlong 16 = .ok (.aload_n 0, 1) := by decide +kernel
theorem dX0_countAlong_17 : decode cX0_countAlong 17 = .ok (.getfield 32, 3) := by decide +kernel
theorem dX0_countAlong_20 : decode cX0_countAlong 20 = .ok (.ireturn, 1) := by decide +kernel
set_option maxRecDepth 20000 in
theorem ggX0_cellAlong_X0_place : GoodIn wsX0_cellAlong wsX0_place := goodIn_r _ [7, 8, 9, 10, 11, 12, 13, 14, 15, 16, 17, 18, 19, 20, 21, 22] (by decide +kernel) (by decide +kernel)
set_option maxRecDepth 20000 in
theorem gX0_cellAlong_X0_place : GoodIn wsX0_cellAlong (wsV RX0 56 RX0 yX0_place wsX0_place) := goodIn_app (goodIn_of _ (by decide +kernel)) ggX0_cellAlong_X0_place
theorem dX0_cellAlong_0 : decode cX0_cellAlong 0 = .ok (.iload_n 1, 1) := by decide +kernel
theorem dX0_cellAlong_1 : decode cX0_cellAlong 1 = .ok (.tableswitch 58 0 2 #[27, 34, 46], 27) := by decide +kernel
theorem dX0_cellAlong_28 : decode cX0_cellAlong 28 = .ok (.aload_n 0, 1) := by decide +kernel
theorem dX0_cellAlong_29 : decode cX0_cellAlong 29 = .ok (.iload_n 2, 1) := by decide +kernel
theorem dX0_cellAlong_30 : decode cX0_cellAlong 30 = .ok (.iconst 0, 1) := by decide +kernel
theorem dX0_cellAlong_31 : decode cX0_cellAlong 31 = .ok (.invokevirtual 56, 3) := by decide +kernel
theorem dX0_cellAlong_34 : decode cX0_cellAlong 34 = .ok (.ireturn, 1) := by decide +kernel
theorem dX0_cellAlong_35 : decode cX0_cellAlong 35 = .ok (.aload_n 0, 1) := by decide +kernel
theorem dX0_cellAlong_36 : decode cX0_cellAlong 36 = .ok (.aload_n 0, 1) := by decide +kernel
theorem dX0_cellAlong_37 : decode cX0_cellAlong 37 = .ok (.getfield 29, 3) := by decide +kernel
theorem dX0_cellAlong_40 : decode cX0_cellAlong 40 = .ok (.iconst 1, 1) := by decide +kernel
theorem dX0_cellAlong_41 : decode cX0_cellAlong 41 = .ok (.isub, 1) := by decide +kernel
theorem dX0_cellAlong_42 : decode cX0_cellAlong 42 = .ok (.iload_n 2, 1) := by decide +kernel
theorem dX0_cellAlong_43 : decode cX0_cellAlong 43 = .ok (.invokevirtual 56, 3) := by decide +kernel
theorem dX0_cellAlong_46 : decode cX0_cellAlong 46 = .ok (.ireturn, 1) := by decide +kernel
theorem dX0_cellAlong_47 : decode cX0_cellAlong 47 = .ok (.aload_n 0, 1) := by decide +kernel
theorem dX0_cellAlong_48 : decode cX0_cellAlong 48 = .ok (.iload_n 2, 1) := by decide +kernel
theorem dX0_cellAlong_49 : decode cX0_cellAlong 49 = .ok (.aload_n 0, 1) := by decide +kernel
theorem dX0_cellAlong_50 : decode cX0_cellAlong 50 = .ok (.getfield 32, 3) := by decide +kernel
theorem dX0_cellAlong_53 : decode cX0_cellAlong 53 = .ok (.iconst 1, 1) := by decide +kernel
theorem dX0_cellAlong_54 : decode cX0_cellAlong 54 = .ok (.isub, 1) := by decide +kernel
theorem dX0_cellAlong_55 : decode cX0_cellAlong 55 = .ok (.invokevirtual 56, 3) := by decide +kernel
theorem dX0_cellAlong_58 : decode cX0_cellAlong 58 = .ok (.ireturn, 1) := by decide +kernel
theorem dX0_cellAlong_59 : decode cX0_cellAlong 59 = .ok (.aload_n 0, 1) := by decide +kernel
theorem dX0_cellAlong_60 : decode cX0_cellAlong 60 = .ok (.iconst 0, 1) := by decide +kernel
theorem dX0_cellAlong_61 : decode cX0_cellAlong 61 = .ok (.iload_n 2, 1) := by decide +kernel
theorem dX0_cellAlong_62 : decode cX0_cellAlong 62 = .ok (.invokevirtual 56, 3) := by decide +kernel
theorem dX0_cellAlong_65 : decode cX0_cellAlong 65 = .ok (.ireturn, 1) := by decide +kernel
theorem dX0_outward_0 : decode cX0_outward 0 = .ok (.iload_n 1, 1) := by decide +kernel
theorem dX0_outward_1 : decode cX0_outward 1 = .ok (.tableswitch 40 0 2 #[27, 33, 35], 27) := by decide +kernel
theorem dX0_outward_28 : decode cX0_outward 28 = .ok (.aload_n 0, 1) := by decide +kernel
theorem dX0_outward_29 : decode cX0_outward 29 = .ok (.getfield 35, 3) := by decide +kernel
theorem dX0_outward_32 : decode cX0_outward 32 = .ok (.ineg, 1) := by decide +kernel
theorem dX0_outward_33 : decode cX0_outward 33 = .ok (.ireturn, 1) := by decide +kernel
theorem dX0_outward_34 : decode cX0_outward 34 = .ok (.iconst 1, 1) := by decide +kernel
theorem dX0_outward_35 : decode cX0_outward 35 = .ok (.ireturn, 1) := by decide +kernel
theorem dX0_outward_36 : decode cX0_outward 36 = .ok (.aload_n 0, 1) := by decide +kernel
theorem dX0_outward_37 : decode cX0_outward 37 = .ok (.getfield 35, 3) := by decide +kernel
theorem dX0_outward_40 : decode cX0_outward 40 = .ok (.ireturn, 1) := by decide +kernel
theorem dX0_outward_41 : decode cX0_outward 41 = .ok (.iconst (-1), 1) := by decide +kernel
theorem dX0_outward_42 : decode cX0_outward 42 = .ok (.ireturn, 1) := by decide +kernel
theorem dX0_findLowAndHigh_0 : decode cX0_findLowAndHigh 0 = .ok (.iconst 0, 1) := by decide +kernel
theorem dX0_findLowAndHigh_1 : decode cX0_findLowAndHigh 1 = .ok (.istore_n 1, 1) := by decide +kernel
theorem dX0_findLowAndHigh_2 : decode cX0_findLowAndHigh 2 = .ok (.aload_n 0, 1) := by decide +kernel
theorem dX0_findLowAndHigh_3 : decode cX0_findLowAndHigh 3 = .ok (.iconst 0, 1) := by decide +kernel
theorem dX0_findLowAndHigh_4 : decode cX0_findLowAndHigh 4 = .ok (.putfield 18, 3) := by decide +kernel
theorem dX0_findLowAndHigh_7 : decode cX0_findLowAndHigh 7 = .ok (.aload_n 0, 1) := by decide +kernel
theorem dX0_findLowAndHigh_8 : decode cX0_findLowAndHigh 8 = .ok (.iconst 0, 1) := by decide +kernel
theorem dX0_findLowAndHigh_9 : decode cX0_findLowAndHigh 9 = .ok (.putfield 22, 3) := by decide +kernel
theorem dX0_findLowAndHigh_12 : decode cX0_findLowAndHigh 12 = .ok (.iconst 0, 1) := by decide +kernel
theorem dX0_findLowAndHigh_13 : decode cX0_findLowAndHigh 13 = .ok (.istore_n 2, 1) := by decide +kernel
theorem dX0_findLowAndHigh_14 : decode cX0_findLowAndHigh 14 = .ok (.iload_n 2, 1) := by decide +kernel
theorem dX0_findLowAndHigh_15 : decode cX0_findLowAndHigh 15 = .ok (.iconst 4, 1) := by decide +kernel
theorem dX0_findLowAndHigh_16 : decode cX0_findLowAndHigh 16 = .ok (.if_icmp .ge 80, 3) := by decide +kernel
theorem dX0_findLowAndHigh_19 : decode cX0_findLowAndHigh 19 = .ok (.aload_n 0, 1) := by decide +kernel
theorem dX0_findLowAndHigh_20 : decode cX0_findLowAndHigh 20 = .ok (.getfield 15, 3) := by decide +kernel
theorem dX0_findLowAndHigh_23 : decode cX0_findLowAndHigh 23 = .ok (.iload_n 2, 1) := by decide +kernel
theorem dX0_findLowAndHigh_24 : decode cX0_findLowAndHigh 24 = .ok (.iaload, 1) := by decide +kernel
theorem dX0_findLowAndHigh_25 : decode cX0_findLowAndHigh 25 = .ok (.ifCond .le 65, 3) := by decide +kernel
theorem dX0_findLowAndHigh_28 : decode cX0_findLowAndHigh 28 = .ok (.aload_n 0, 1) := by decide +kernel
theorem dX0_findLowAndHigh_29 : decode cX0_findLowAndHigh 29 = .ok (.iload_n 1, 1) := by decide +kernel
theorem dX0_findLowAndHigh_30 : decode cX0_findLowAndHigh 30 = .ok (.ifCond .eq 19, 3) := by decide +kernel
theorem dX0_findLowAndHigh_33 : decode cX0_findLowAndHigh 33 = .ok (.aload_n 0, 1) := by decide +kernel
theorem dX0_findLowAndHigh_34 : decode cX0_findLowAndHigh 34 = .ok (.getfield 18, 3) := by decide +kernel
theorem dX0_findLowAndHigh_37 : decode cX0_findLowAndHigh 37 = .ok (.aload_n 0, 1) := by decide +kernel
theorem dX0_findLowAndHigh_38 : decode cX0_findLowAndHigh 38 = .ok (.getfield 9, 3) := by decide +kernel
theorem dX0_findLowAndHigh_41 : decode cX0_findLowAndHigh 41 = .ok (.iload_n 2, 1) := by decide +kernel
theorem dX0_findLowAndHigh_42 : decode cX0_findLowAndHigh 42 = .ok (.iaload, 1) := by decide +kernel
theorem dX0_findLowAndHigh_43 : decode cX0_findLowAndHigh 43 = .ok (.invokestatic 106, 3) := by decide +kernel
theorem dX0_findLowAndHigh_46 : decode cX0_findLowAndHigh 46 = .ok (.goto 9, 3) := by decide +kernel
theorem dX0_findLowAndHigh_49 : decode cX0_findLowAndHigh 49 = .ok (.aload_n 0, 1) := by decide +kernel
theorem dX0_findLowAndHigh_50 : decode cX0_findLowAndHigh 50 = .ok (.getfield 9, 3) := by decide +kernel
theorem dX0_findLowAndHigh_53 : decode cX0_findLowAndHigh 53 = .ok (.iload_n 2, 1) := by decide +kernel
theorem dX0_findLowAndHigh_54 : decode cX0_findLowAndHigh 54 = .ok (.iaload, 1) := by decide +kernel
theorem dX0_findLowAndHigh_55 : decode cX0_findLowAndHigh 55 = .ok (.putfield 18, 3) := by decide +kernel
theorem dX0_findLowAndHigh_58 : decode cX0_findLowAndHigh 58 = .ok (.aload_n 0, 1) := by decide +kernel
theorem dX0_findLowAndHigh_59 : decode cX0_findLowAndHigh 59 = .ok (.iload_n 1, 1) := by decide +kernel
theorem dX0_findLowAndHigh_60 : decode cX0_findLowAndHigh 60 = .ok (.ifCond .eq 19, 3) := by decide +kernel
theorem dX0_findLowAndHigh_63 : decode cX0_findLowAndHigh 63 = .ok (.aload_n 0, 1) := by decide +kernel
theorem dX0_findLowAndHigh_64 : decode cX0_findLowAndHigh 64 = .ok (.getfield 22, 3) := by decide +kernel
theorem dX0_findLowAndHigh_67 : decode cX0_findLowAndHigh 67 = .ok (.aload_n 0, 1) := by decide +kernel
theorem dX0_findLowAndHigh_68 : decode cX0_findLowAndHigh 68 = .ok (.getfield 9, 3) := by decide +kernel
theorem dX0_findLowAndHigh_71 : decode cX0_findLowAndHigh 71 = .ok (.iload_n 2, 1) := by decide +kernel
theorem dX0_findLowAndHigh_72 : decode cX0_findLowAndHigh 72 = .ok (.iaload, 1) := by decide +kernel
theorem dX0_findLowAndHigh_73 : decode cX0_findLowAndHigh 73 = .ok (.invokestatic 109, 3) := by decide +kernel
theorem dX0_findLowAndHigh_76 : decode cX0_findLowAndHigh 76 = .ok (.goto 9, 3) := by decide +kernel
theorem dX0_findLowAndHigh_79 : decode cX0_findLowAndHigh 79 = .ok (.aload_n 0, 1) := by decide +kernel
theorem dX0_findLowAndHigh_80 : decode cX0_findLowAndHigh 80 = .ok (.getfield 9, 3) := by decide +kernel
theorem dX0_findLowAndHigh_83 : decode cX0_findLowAndHigh 83 = .ok (.iload_n 2, 1) := by decide +kernel
theorem dX0_findLowAndHigh_84 : decode cX0_findLowAndHigh 84 = .ok (.iaload, 1) := by decide +kernel
theorem dX0_findLowAndHigh_85 : decode cX0_findLowAndHigh 85 = .ok (.putfield 22, 3) := by decide +kernel
theorem dX0_findLowAndHigh_88 : decode cX0_findLowAndHigh 88 = .ok (.iconst 1, 1) := by decide +kernel
theorem dX0_findLowAndHigh_89 : decode cX0_findLowAndHigh 89 = .ok (.istore_n 1, 1) := by decide +kernel
theorem dX0_findLowAndHigh_90 : decode cX0_findLowAndHigh 90 = .ok (.iinc 2 1, 3) := by decide +kernel
theorem dX0_findLowAndHigh_93 : decode cX0_findLowAndHigh 93 = .ok (.goto (-79), 3) := by decide +kernel
theorem dX0_findLowAndHigh_96 : decode cX0_findLowAndHigh 96 = .ok (.return_, 1) := by decide +kernel
set_option maxRecDepth 20000 in
theorem ggX0_joinNeighbours_X0_place : GoodIn wsX0_joinNeighbours wsX0_place := goodIn_r _ [11, 6, 15, 16, 17, 18, 19, 20, 21, 22, 23, 24, 25, 26, 27, 28] (by decide +kernel) (by decide +kernel)
set_option maxRecDepth 20000 in
theorem gX0_joinNeighbours_X0_place : GoodIn wsX0_joinNeighbours (wsV RX0 56 RX0 yX0_place wsX0_place) := goodIn_app (goodIn_of _ (by decide +kernel)) ggX0_joinNeighbours_X0_place
set_option maxRecDepth 20000 in
theorem ggX0_joinNeighbours_X0_couple : GoodIn wsX0_joinNeighbours wsX0_couple := goodIn_r _ [14] (by decide +kernel) (by decide +kernel)
set_option maxRecDepth 20000 in
theorem gX0_joinNeighbours_X0_couple : GoodIn wsX0_joinNeighbours (va_wsS RX0 90 yX0_couple wsX0_couple) := goodIn_app (goodIn_of _ (by decide +kernel)) ggX0_joinNeighbours_X0_couple
theorem dX0_joinNeighbours_0 : decode cX0_joinNeighbours 0 = .ok (.iconst 0, 1) := by decide +kernel
theorem dX0_joinNeighbours_1 : decode cX0_joinNeighbours 1 = .ok (.istore_n 1, 1) := by decide +kernel
theorem dX0_joinNeighbours_2 : decode cX0_joinNeighbours 2 = .ok (.iload_n 1, 1) := by decide +kernel
theorem dX0_joinNeighbours_3 : decode cX0_joinNeighbours 3 = .ok (.aload_n 0, 1) := by decide +kernel
theorem dX0_joinNeighbours_4 : decode cX0_joinNeighbours 4 = .ok (.getfield 32, 3) := by decide +kernel
theorem dX0_joinNeighbours_7 : decode cX0_joinNeighbours 7 = .ok (.if_icmp .ge 55, 3) := by decide +kernel
theorem dX0_joinNeighbours_10 : decode cX0_joinNeighbours 10 = .ok (.iconst (-1), 1) := by decide +kernel
theorem dX0_joinNeighbours_11 : decode cX0_joinNeighbours 11 = .ok (.istore_n 2, 1) := by decide +kernel
theorem dX0_joinNeighbours_12 : decode cX0_joinNeighbours 12 = .ok (.iload_n 2, 1) := by decide +kernel
theorem dX0_joinNeighbours_13 : decode cX0_joinNeighbours 13 = .ok (.aload_n 0, 1) := by decide +kernel
theorem dX0_joinNeighbours_14 : decode cX0_joinNeighbours 14 = .ok (.getfield 29, 3) := by decide +kernel
theorem dX0_joinNeighbours_17 : decode cX0_joinNeighbours 17 = .ok (.if_icmp .ge 39, 3) := by decide +kernel
theorem dX0_joinNeighbours_20 : decode cX0_joinNeighbours 20 = .ok (.aload_n 0, 1) := by decide +kernel
theorem dX0_joinNeighbours_21 : decode cX0_joinNeighbours 21 = .ok (.iload_n 2, 1) := by decide +kernel
theorem dX0_joinNeighbours_22 : decode cX0_joinNeighbours 22 = .ok (.iload_n 1, 1) := by decide +kernel
theorem dX0_joinNeighbours_23 : decode cX0_joinNeighbours 23 = .ok (.invokevirtual 56, 3) := by decide +kernel
theorem dX0_joinNeighbours_26 : decode cX0_joinNeighbours 26 = .ok (.istore_n 3, 1) := by decide +kernel
theorem dX0_joinNeighbours_27 : decode cX0_joinNeighbours 27 = .ok (.aload_n 0, 1) := by decide +kernel
theorem dX0_joinNeighbours_28 : decode cX0_joinNeighbours 28 = .ok (.getfield 44, 3) := by decide +kernel
theorem dX0_joinNeighbours_31 : decode cX0_joinNeighbours 31 = .ok (.iload_n 3, 1) := by decide +kernel
theorem dX0_joinNeighbours_32 : decode cX0_joinNeighbours 32 = .ok (.aload_n 0, 1) := by decide +kernel
theorem dX0_joinNeighbours_33 : decode cX0_joinNeighbours 33 = .ok (.getfield 38, 3) := by decide +kernel
theorem dX0_joinNeighbours_36 : decode cX0_joinNeighbours 36 = .ok (.iload_n 3, 1) := by decide +kernel
theorem dX0_joinNeighbours_37 : decode cX0_joinNeighbours 37 = .ok (.iaload, 1) := by decide +kernel
theorem dX0_joinNeighbours_38 : decode cX0_joinNeighbours 38 = .ok (.aload_n 0, 1) := by decide +kernel
theorem dX0_joinNeighbours_39 : decode cX0_joinNeighbours 39 = .ok (.getfield 38, 3) := by decide +kernel
theorem dX0_joinNeighbours_42 : decode cX0_joinNeighbours 42 = .ok (.iload_n 3, 1) := by decide +kernel
theorem dX0_joinNeighbours_43 : decode cX0_joinNeighbours 43 = .ok (.iconst 1, 1) := by decide +kernel
theorem dX0_joinNeighbours_44 : decode cX0_joinNeighbours 44 = .ok (.iadd, 1) := by decide +kernel
theorem dX0_joinNeighbours_45 : decode cX0_joinNeighbours 45 = .ok (.iaload, 1) := by decide +kernel
theorem dX0_joinNeighbours_46 : decode cX0_joinNeighbours 46 = .ok (.invokestatic 90, 3) := by decide +kernel
theorem dX0_joinNeighbours_49 : decode cX0_joinNeighbours 49 = .ok (.iastore, 1) := by decide +kernel
theorem dX0_joinNeighbours_50 : decode cX0_joinNeighbours 50 = .ok (.iinc 2 1, 3) := by decide +kernel
theorem dX0_joinNeighbours_53 : decode cX0_joinNeighbours 53 = .ok (.goto (-41), 3) := by decide +kernel
theorem dX0_joinNeighbours_56 : decode cX0_joinNeighbours 56 = .ok (.iinc 1 1, 3) := by decide +kernel
theorem dX0_joinNeighbours_59 : decode cX0_joinNeighbours 59 = .ok (.goto (-57), 3) := by decide +kernel
theorem dX0_joinNeighbours_62 : decode cX0_joinNeighbours 62 = .ok (.iconst (-1), 1) := by decide +kernel
theorem dX0_joinNeighbours_63 : decode cX0_joinNeighbours 63 = .ok (.istore_n 1, 1) := by decide +kernel
theorem dX0_joinNeighbours_64 : decode cX0_joinNeighbours 64 = .ok (.iload_n 1, 1) := by decide +kernel
theorem dX0_joinNeighbours_65 : decode cX0_joinNeighbours 65 = .ok (.aload_n 0, 1) := by decide +kernel
theorem dX0_joinNeighbours_66 : decode cX0_joinNeighbours 66 = .ok (.getfield 32, 3) := by decide +kernel
theorem dX0_joinNeighbours_69 : decode cX0_joinNeighbours 69 = .ok (.if_icmp .ge 58, 3) := by decide +kernel
theorem dX0_joinNeighbours_72 : decode cX0_joinNeighbours 72 = .ok (.iconst 0, 1) := by decide +kernel
theorem dX0_joinNeighbours_73 : decode cX0_joinNeighbours 73 = .ok (.istore_n 2, 1) := by decide +kernel
theorem dX0_joinNeighbours_74 : decode cX0_joinNeighbours 74 = .ok (.iload_n 2, 1) := by decide +kernel
theorem dX0_joinNeighbours_75 : decode cX0_joinNeighbours 75 = .ok (.aload_n 0, 1) := by decide +kernel
theorem dX0_joinNeighbours_76 : decode cX0_joinNeighbours 76 = .ok (.getfield 29, 3) := by decide +kernel
theorem dX0_joinNeighbours_79 : decode cX0_joinNeighbours 79 = .ok (.if_icmp .ge 42, 3) := by decide +kernel
theorem dX0_joinNeighbours_82 : decode cX0_joinNeighbours 82 = .ok (.aload_n 0, 1) := by decide +kernel
theorem dX0_joinNeighbours_83 : decode cX0_joinNeighbours 83 = .ok (.iload_n 2, 1) := by decide +kernel
theorem dX0_joinNeighbours_84 : decode cX0_joinNeighbours 84 = .ok (.iload_n 1, 1) := by decide +kernel
theorem dX0_joinNeighbours_85 : decode cX0_joinNeighbours 85 = .ok (.invokevirtual 56, 3) := by decide +kernel
theorem dX0_joinNeighbours_88 : decode cX0_joinNeighbours 88 = .ok (.istore_n 3, 1) := by decide +kernel
theorem dX0_joinNeighbours_89 : decode cX0_joinNeighbours 89 = .ok (.aload_n 0, 1) := by decide +kernel
theorem dX0_joinNeighbours_90 : decode cX0_joinNeighbours 90 = .ok (.getfield 47, 3) := by decide +kernel
theorem dX0_joinNeighbours_93 : decode cX0_joinNeighbours 93 = .ok (.iload_n 3, 1) := by decide +kernel
theorem dX0_joinNeighbours_94 : decode cX0_joinNeighbours 94 = .ok (.aload_n 0, 1) := by decide +kernel
theorem dX0_joinNeighbours_95 : decode cX0_joinNeighbours 95 = .ok (.getfield 38, 3) := by decide +kernel
theorem dX0_joinNeighbours_98 : decode cX0_joinNeighbours 98 = .ok (.iload_n 3, 1) := by decide +kernel
theorem dX0_joinNeighbours_99 : decode cX0_joinNeighbours 99 = .ok (.iaload, 1) := by decide +kernel
theorem dX0_joinNeighbours_100 : decode cX0_joinNeighbours 100 = .ok (.aload_n 0, 1) := by decide +kernel
theorem dX0_joinNeighbours_101 : decode cX0_joinNeighbours 101 = .ok (.getfield 38, 3) := by decide +kernel
theorem dX0_joinNeighbours_104 : decode cX0_joinNeighbours 104 = .ok (.iload_n 3, 1) := by decide +kernel
theorem dX0_joinNeighbours_105 : decode cX0_joinNeighbours 105 = .ok (.aload_n 0, 1) := by decide +kernel
theorem dX0_joinNeighbours_106 : decode cX0_joinNeighbours 106 = .ok (.getfield 35, 3) := by decide +kernel
theorem dX0_joinNeighbours_109 : decode cX0_joinNeighbours 109 = .ok (.iadd, 1) := by decide +kernel
theorem dX0_joinNeighbours_110 : decode cX0_joinNeighbours 110 = .ok (.iaload, 1) := by decide +kernel
theorem dX0_joinNeighbours_111 : decode cX0_joinNeighbours 111 = .ok (.invokestatic 90, 3) := by decide +kernel
theorem dX0_joinNeighbours_114 : decode cX0_joinNeighbours 114 = .ok (.iastore, 1) := by decide +kernel
theorem dX0_joinNeighbours_115 : decode cX0_joinNeighbours 115 = .ok (.iinc 2 1, 3) := by decide +kernel
theorem dX0_joinNeighbours_118 : decode cX0_joinNeighbours 118 = .ok (.goto (-44), 3) := by decide +kernel
theorem dX0_joinNeighbours_121 : decode cX0_joinNeighbours 121 = .ok (.iinc 1 1, 3) := by decide +kernel
theorem dX0_joinNeighbours_124 : decode cX0_joinNeighbours 124 = .ok (.goto (-60), 3) := by decide +kernel
theorem dX0_joinNeighbours_127 : decode cX0_joinNeighbours 127 = .ok (.return_, 1) := by decide +kernel
set_option maxRecDepth 20000 in
theorem ggX0_startAtLow_X0_place : GoodIn wsX0_startAtLow wsX0_place := goodIn_r _ [9, 10, 19, 20, 21, 22, 23, 24, 25, 26, 27, 28, 29, 30, 31, 32] (by decide +kernel) (by decide +kernel)
set_option maxRecDepth 20000 in
theorem gX0_startAtLow_X0_place : GoodIn wsX0_startAtLow (wsV RX0 56 RX0 yX0_place wsX0_place) := goodIn_app (goodIn_of _ (by decide +kernel)) ggX0_startAtLow_X0_place
set_option maxRecDepth 20000 in
theorem ggX0_startAtLow_X0_weigh : GoodIn wsX0_startAtLow wsX0_weigh := goodIn_r _ [14, 15, 16, 10, 17, 18, 3, 4, 19, 20, 21, 22, 23, 24, 25, 26, 27, 28, 29, 30, 31, 32] (by decide +kernel) (by decide +kernel)
set_option maxRecDepth 20000 in
theorem gX0_startAtLow_X0_weigh : GoodIn wsX0_startAtLow (wsV RX0 111 RX0 yX0_weigh wsX0_weigh) := goodIn_app (goodIn_of _ (by decide +kernel)) ggX0_startAtLow_X0_weigh
theorem dX0_startAtLow_0 : decode cX0_startAtLow 0 = .ok (.iconst 0, 1) := by decide +kernel
theorem dX0_startAtLow_1 : decode cX0_startAtLow 1 = .ok (.istore_n 1, 1) := by decide +kernel
theorem dX0_startAtLow_2 : decode cX0_startAtLow 2 = .ok (.iload_n 1, 1) := by decide +kernel
theorem dX0_startAtLow_3 : decode cX0_startAtLow 3 = .ok (.aload_n 0, 1) := by decide +kernel
theorem dX0_startAtLow_4 : decode cX0_startAtLow 4 = .ok (.getfield 32, 3) := by decide +kernel
theorem dX0_startAtLow_7 : decode cX0_startAtLow 7 = .ok (.if_icmp .ge 40, 3) := by decide +kernel
theorem dX0_startAtLow_10 : decode cX0_startAtLow 10 = .ok (.iconst 0, 1) := by decide +kernel
theorem dX0_startAtLow_11 : decode cX0_startAtLow 11 = .ok (.istore_n 2, 1) := by decide +kernel
theorem dX0_startAtLow_12 : decode cX0_startAtLow 12 = .ok (.iload_n 2, 1) := by decide +kernel
theorem dX0_startAtLow_13 : decode cX0_startAtLow 13 = .ok (.aload_n 0, 1) := by decide +kernel
theorem dX0_startAtLow_14 : decode cX0_startAtLow 14 = .ok (.getfield 29, 3) := by decide +kernel
theorem dX0_startAtLow_17 : decode cX0_startAtLow 17 = .ok (.if_icmp .ge 24, 3) := by decide +kernel
theorem dX0_startAtLow_20 : decode cX0_startAtLow 20 = .ok (.aload_n 0, 1) := by decide +kernel
theorem dX0_startAtLow_21 : decode cX0_startAtLow 21 = .ok (.getfield 41, 3) := by decide +kernel
theorem dX0_startAtLow_24 : decode cX0_startAtLow 24 = .ok (.aload_n 0, 1) := by decide +kernel
theorem dX0_startAtLow_25 : decode cX0_startAtLow 25 = .ok (.iload_n 2, 1) := by decide +kernel
theorem dX0_startAtLow_26 : decode cX0_startAtLow 26 = .ok (.iload_n 1, 1) := by decide +kernel
theorem dX0_startAtLow_27 : decode cX0_startAtLow 27 = .ok (.invokevirtual 56, 3) := by decide +kernel
theorem dX0_startAtLow_30 : decode cX0_startAtLow 30 = .ok (.aload_n 0, 1) := by decide +kernel
theorem dX0_startAtLow_31 : decode cX0_startAtLow 31 = .ok (.getfield 18, 3) := by decide +kernel
theorem dX0_startAtLow_34 : decode cX0_startAtLow 34 = .ok (.iastore, 1) := by decide +kernel
theorem dX0_startAtLow_35 : decode cX0_startAtLow 35 = .ok (.iinc 2 1, 3) := by decide +kernel
theorem dX0_startAtLow_38 : decode cX0_startAtLow 38 = .ok (.goto (-26), 3) := by decide +kernel
theorem dX0_startAtLow_41 : decode cX0_startAtLow 41 = .ok (.iinc 1 1, 3) := by decide +kernel
theorem dX0_startAtLow_44 : decode cX0_startAtLow 44 = .ok (.goto (-42), 3) := by decide +kernel
theorem dX0_startAtLow_47 : decode cX0_startAtLow 47 = .ok (.iconst 0, 1) := by decide +kernel
theorem dX0_startAtLow_48 : decode cX0_startAtLow 48 = .ok (.istore_n 1, 1) := by decide +kernel
theorem dX0_startAtLow_49 : decode cX0_startAtLow 49 = .ok (.iload_n 1, 1) := by decide +kernel
theorem dX0_startAtLow_50 : decode cX0_startAtLow 50 = .ok (.aload_n 0, 1) := by decide +kernel
theorem dX0_startAtLow_51 : decode cX0_startAtLow 51 = .ok (.getfield 32, 3) := by decide +kernel
theorem dX0_startAtLow_54 : decode cX0_startAtLow 54 = .ok (.if_icmp .ge 35, 3) := by decide +kernel
theorem dX0_startAtLow_57 : decode cX0_startAtLow 57 = .ok (.iconst 0, 1) := by decide +kernel
theorem dX0_startAtLow_58 : decode cX0_startAtLow 58 = .ok (.istore_n 2, 1) := by decide +kernel
theorem dX0_startAtLow_59 : decode cX0_startAtLow 59 = .ok (.iload_n 2, 1) := by decide +kernel
theorem dX0_startAtLow_60 : decode cX0_startAtLow 60 = .ok (.aload_n 0, 1) := by decide +kernel
theorem dX0_startAtLow_61 : decode cX0_startAtLow 61 = .ok (.getfield 29, 3) := by decide +kernel
theorem dX0_startAtLow_64 : decode cX0_startAtLow 64 = .ok (.if_icmp .ge 19, 3) := by decide +kernel
theorem dX0_startAtLow_67 : decode cX0_startAtLow 67 = .ok (.aload_n 0, 1) := by decide +kernel
theorem dX0_startAtLow_68 : decode cX0_startAtLow 68 = .ok (.aload_n 0, 1) := by decide +kernel
theorem dX0_startAtLow_69 : decode cX0_startAtLow 69 = .ok (.iload_n 2, 1) := by decide +kernel
theorem dX0_startAtLow_70 : decode cX0_startAtLow 70 = .ok (.iload_n 1, 1) := by decide +kernel
theorem dX0_startAtLow_71 : decode cX0_startAtLow 71 = .ok (.invokevirtual 56, 3) := by decide +kernel
theorem dX0_startAtLow_74 : decode cX0_startAtLow 74 = .ok (.invokevirtual 111, 3) := by decide +kernel
theorem dX0_startAtLow_77 : decode cX0_startAtLow 77 = .ok (.iinc 2 1, 3) := by decide +kernel
theorem dX0_startAtLow_80 : decode cX0_startAtLow 80 = .ok (.goto (-21), 3) := by decide +kernel
theorem dX0_startAtLow_83 : decode cX0_startAtLow 83 = .ok (.iinc 1 1, 3) := by decide +kernel
theorem dX0_startAtLow_86 : decode cX0_startAtLow 86 = .ok (.goto (-37), 3) := by decide +kernel
theorem dX0_startAtLow_89 : decode cX0_startAtLow 89 = .ok (.return_, 1) := by decide +kernel
theorem dX0_weigh_0 : decode cX0_weigh 0 = .ok (.aload_n 0, 1) := by decide +kernel
theorem dX0_weigh_1 : decode cX0_weigh 1 = .ok (.getfield 44, 3) := by decide +kernel
theorem dX0_weigh_4 : decode cX0_weigh 4 = .ok (.iload_n 1, 1) := by decide +kernel
theorem dX0_weigh_5 : decode cX0_weigh 5 = .ok (.iaload, 1) := by decide +kernel
theorem dX0_weigh_6 : decode cX0_weigh 6 = .ok (.istore_n 2, 1) := by decide +kernel
theorem dX0_weigh_7 : decode cX0_weigh 7 = .ok (.aload_n 0, 1) := by decide +kernel
theorem dX0_weigh_8 : decode cX0_weigh 8 = .ok (.getfield 44, 3) := by decide +kernel
theorem dX0_weigh_11 : decode cX0_weigh 11 = .ok (.iload_n 1, 1) := by decide +kernel
theorem dX0_weigh_12 : decode cX0_weigh 12 = .ok (.iconst 1, 1) := by decide +kernel
theorem dX0_weigh_13 : decode cX0_weigh 13 = .ok (.isub, 1) := by decide +kernel
theorem dX0_weigh_14 : decode cX0_weigh 14 = .ok (.iaload, 1) := by decide +kernel
theorem dX0_weigh_15 : decode cX0_weigh 15 = .ok (.istore_n 3, 1) := by decide +kernel
theorem dX0_weigh_16 : decode cX0_weigh 16 = .ok (.aload_n 0, 1) := by decide +kernel
theorem dX0_weigh_17 : decode cX0_weigh 17 = .ok (.getfield 47, 3) := by decide +kernel
theorem dX0_weigh_20 : decode cX0_weigh 20 = .ok (.iload_n 1, 1) := by decide +kernel
theorem dX0_weigh_21 : decode cX0_weigh 21 = .ok (.iaload, 1) := by decide +kernel
theorem dX0_weigh_22 : decode cX0_weigh 22 = .ok (.istore 4, 2) := by decide +kernel
theorem dX0_weigh_24 : decode cX0_weigh 24 = .ok (.aload_n 0, 1) := by decide +kernel
theorem dX0_weigh_25 : decode cX0_weigh 25 = .ok (.getfield 47, 3) := by decide +kernel
theorem dX0_weigh_28 : decode cX0_weigh 28 = .ok (.iload_n 1, 1) := by decide +kernel
theorem dX0_weigh_29 : decode cX0_weigh 29 = .ok (.aload_n 0, 1) := by decide +kernel
theorem dX0_weigh_30 : decode cX0_weigh 30 = .ok (.getfield 35, 3) := by decide +kernel
theorem dX0_weigh_33 : decode cX0_weigh 33 = .ok (.isub, 1) := by decide +kernel
theorem dX0_weigh_34 : decode cX0_weigh 34 = .ok (.iaload, 1) := by decide +kernel
theorem dX0_weigh_35 : decode cX0_weigh 35 = .ok (.istore 5, 2) := by decide +kernel
theorem dX0_weigh_37 : decode cX0_weigh 37 = .ok (.aload_n 0, 1) := by decide +kernel
theorem dX0_weigh_38 : decode cX0_weigh 38 = .ok (.getfield 50, 3) := by decide +kernel
theorem dX0_weigh_41 : decode cX0_weigh 41 = .ok (.iload_n 1, 1) := by decide +kernel
theorem dX0_weigh_42 : decode cX0_weigh 42 = .ok (.iload_n 2, 1) := by decide +kernel
theorem dX0_weigh_43 : decode cX0_weigh 43 = .ok (.iload_n 3, 1) := by decide +kernel
theorem dX0_weigh_44 : decode cX0_weigh 44 = .ok (.iadd, 1) := by decide +kernel
theorem dX0_weigh_45 : decode cX0_weigh 45 = .ok (.iload 4, 2) := by decide +kernel
theorem dX0_weigh_47 : decode cX0_weigh 47 = .ok (.iadd, 1) := by decide +kernel
theorem dX0_weigh_48 : decode cX0_weigh 48 = .ok (.iload 5, 2) := by decide +kernel
theorem dX0_weigh_50 : decode cX0_weigh 50 = .ok (.iadd, 1) := by decide +kernel
theorem dX0_weigh_51 : decode cX0_weigh 51 = .ok (.iastore, 1) := by decide +kernel
theorem dX0_weigh_52 : decode cX0_weigh 52 = .ok (.aload_n 0, 1) := by decide +kernel
theorem dX0_weigh_53 : decode cX0_weigh 53 = .ok (.getfield 53, 3) := by decide +kernel
theorem dX0_weigh_56 : decode cX0_weigh 56 = .ok (.iload_n 1, 1) := by decide +kernel
theorem dX0_weigh_57 : decode cX0_weigh 57 = .ok (.iload_n 2, 1) := by decide +kernel
theorem dX0_weigh_58 : decode cX0_weigh 58 = .ok (.aload_n 0, 1) := by decide +kernel
theorem dX0_weigh_59 : decode cX0_weigh 59 = .ok (.getfield 41, 3) := by decide +kernel
theorem dX0_weigh_62 : decode cX0_weigh 62 = .ok (.iload_n 1, 1) := by decide +kernel
theorem dX0_weigh_63 : decode cX0_weigh 63 = .ok (.iconst 1, 1) := by decide +kernel
theorem dX0_weigh_64 : decode cX0_weigh 64 = .ok (.iadd, 1) := by decide +kernel
theorem dX0_weigh_65 : decode cX0_weigh 65 = .ok (.iaload, 1) := by decide +kernel
theorem dX0_weigh_66 : decode cX0_weigh 66 = .ok (.aload_n 0, 1) := by decide +kernel
theorem dX0_weigh_67 : decode cX0_weigh 67 = .ok (.getfield 18, 3) := by decide +kernel
theorem dX0_weigh_70 : decode cX0_weigh 70 = .ok (.isub, 1) := by decide +kernel
theorem dX0_weigh_71 : decode cX0_weigh 71 = .ok (.imul, 1) := by decide +kernel
theorem dX0_weigh_72 : decode cX0_weigh 72 = .ok (.iload_n 3, 1) := by decide +kernel
theorem dX0_weigh_73 : decode cX0_weigh 73 = .ok (.aload_n 0, 1) := by decide +kernel
theorem dX0_weigh_74 : decode cX0_weigh 74 = .ok (.getfield 41, 3) := by decide +kernel
theorem dX0_weigh_77 : decode cX0_weigh 77 = .ok (.iload_n 1, 1) := by decide +kernel
theorem dX0_weigh_78 : decode cX0_weigh 78 = .ok (.iconst 1, 1) := by decide +kernel
theorem dX0_weigh_79 : decode cX0_weigh 79 = .ok (.isub, 1) := by decide +kernel
theorem dX0_weigh_80 : decode cX0_weigh 80 = .ok (.iaload, 1) := by decide +kernel
theorem dX0_weigh_81 : decode cX0_weigh 81 = .ok (.aload_n 0, 1) := by decide +kernel
theorem dX0_weigh_82 : decode cX0_weigh 82 = .ok (.getfield 18, 3) := by decide +kernel
theorem dX0_weigh_85 : decode cX0_weigh 85 = .ok (.isub, 1) := by decide +kernel
theorem dX0_weigh_86 : decode cX0_weigh 86 = .ok (.imul, 1) := by decide +kernel
theorem dX0_weigh_87 : decode cX0_weigh 87 = .ok (.iadd, 1) := by decide +kernel
theorem dX0_weigh_88 : decode cX0_weigh 88 = .ok (.iload 4, 2) := by decide +kernel
theorem dX0_weigh_90 : decode cX0_weigh 90 = .ok (.aload_n 0, 1) := by decide +kernel
theorem dX0_weigh_91 : decode cX0_weigh 91 = .ok (.getfield 41, 3) := by decide +kernel
theorem dX0_weigh_94 : decode cX0_weigh 94 = .ok (.iload_n 1, 1) := by decide +kernel
theorem dX0_weigh_95 : decode cX0_weigh 95 = .ok (.aload_n 0, 1) := by decide +kernel
theorem dX0_weigh_96 : decode cX0_weigh 96 = .ok (.getfield 35, 3) := by decide +kernel
theorem dX0_weigh_99 : decode cX0_weigh 99 = .ok (.iadd, 1) := by decide +kernel
theorem dX0_weigh_100 : decode cX0_weigh 100 = .ok (.iaload, 1) := by decide +kernel
theorem dX0_weigh_101 : decode cX0_weigh 101 = .ok (.aload_n 0, 1) := by decide +kernel
theorem dX0_weigh_102 : decode cX0_weigh 102 = .ok (.getfield 18, 3) := by decide +kernel
theorem dX0_weigh_105 : decode cX0_weigh 105 = .ok (.isub, 1) := by decide +kernel
theorem dX0_weigh_106 : decode cX0_weigh 106 = .ok (.imul, 1) := by decide +kernel
theorem dX0_weigh_107 : decode cX0_weigh 107 = .ok (.iadd, 1) := by decide +kernel
theorem dX0_weigh_108 : decode cX0_weigh 108 = .ok (.iload 5, 2) := by decide +kernel
theorem dX0_weigh_110 : decode cX0_weigh 110 = .ok (.aload_n 0, 1) := by decide +kernel
theorem dX0_weigh_111 : decode cX0_weigh 111 = .ok (.getfield 41, 3) := by decide +kernel
theorem dX0_weigh_114 : decode cX0_weigh 114 = .ok (.iload_n 1, 1) := by decide +kernel
theorem dX0_weigh_115 : decode cX0_weigh 115 = .ok (.aload_n 0, 1) := by decide +kernel
theorem dX0_weigh_116 : decode cX0_weigh 116 = .ok (.getfield 35, 3) := by decide +kernel
theorem dX0_weigh_119 : decode cX0_weigh 119 = .ok (.isub, 1) := by decide +kernel
theorem dX0_weigh_120 : decode cX0_weigh 120 = .ok (.iaload, 1) := by decide +kernel
theorem dX0_weigh_121 : decode cX0_weigh 121 = .ok (.aload_n 0, 1) := by decide +kernel
theorem dX0_weigh_122 : decode cX0_weigh 122 = .ok (.getfield 18, 3) := by decide +kernel
theorem dX0_weigh_125 : decode cX0_weigh 125 = .ok (.isub, 1) := by decide +kernel
theorem dX0_weigh_126 : decode cX0_weigh 126 = .ok (.imul, 1) := by decide +kernel
theorem dX0_weigh_127 : decode cX0_weigh 127 = .ok (.iadd, 1) := by decide +kernel
theorem dX0_weigh_128 : decode cX0_weigh 128 = .ok (.iastore, 1) := by decide +kernel
theorem dX0_weigh_129 : decode cX0_weigh 129 = .ok (.return_, 1) := by decide +kernel
set_option maxRecDepth 20000 in
theorem ggX0_raiseAll_X0_place : GoodIn wsX0_raiseAll wsX0_place := goodIn_r _ [9, 10, 18, 19, 20, 21, 22, 23, 24, 25, 26, 27, 28, 29, 30, 31] (by decide +kernel) (by decide +kernel)
set_option maxRecDepth 20000 in
theorem gX0_raiseAll_X0_place : GoodIn wsX0_raiseAll (wsV RX0 56 RX0 yX0_place wsX0_place) := goodIn_app (goodIn_of _ (by decide +kernel)) ggX0_raiseAll_X0_place
set_option maxRecDepth 20000 in
theorem ggX0_raiseAll_X0_raise : GoodIn wsX0_raiseAll wsX0_raise := goodIn_r _ [14, 15, 4, 3, 16, 10, 17, 18, 19, 20, 21, 22, 23, 24, 25, 26, 27, 28, 29, 30, 31] (by decide +kernel) (by decide +kernel)
set_option maxRecDepth 20000 in
theorem gX0_raiseAll_X0_raise : GoodIn wsX0_raiseAll (wsV RX0 115 RX0 yX0_raise wsX0_raise) := goodIn_app (goodIn_of _ (by decide +kernel)) ggX0_raiseAll_X0_raise
theorem dX0_raiseAll_0 : decode cX0_raiseAll 0 = .ok (.iconst 0, 1) := by decide +kernel
theorem dX0_raiseAll_1 : decode cX0_raiseAll 1 = .ok (.istore_n 1, 1) := by decide +kernel
theorem dX0_raiseAll_2 : decode cX0_raiseAll 2 = .ok (.iconst 0, 1) := by decide +kernel
theorem dX0_raiseAll_3 : decode cX0_raiseAll 3 = .ok (.istore_n 2, 1) := by decide +kernel
theorem dX0_raiseAll_4 : decode cX0_raiseAll 4 = .ok (.iload_n 2, 1) := by decide +kernel
theorem dX0_raiseAll_5 : decode cX0_raiseAll 5 = .ok (.aload_n 0, 1) := by decide +kernel
theorem dX0_raiseAll_6 : decode cX0_raiseAll 6 = .ok (.getfield 32, 3) := by decide +kernel
theorem dX0_raiseAll_9 : decode cX0_raiseAll 9 = .ok (.if_icmp .ge 86, 3) := by decide +kernel
theorem dX0_raiseAll_12 : decode cX0_raiseAll 12 = .ok (.aload_n 0, 1) := by decide +kernel
theorem dX0_raiseAll_13 : decode cX0_raiseAll 13 = .ok (.iconst 0, 1) := by decide +kernel
theorem dX0_raiseAll_14 : decode cX0_raiseAll 14 = .ok (.iload_n 2, 1) := by decide +kernel
theorem dX0_raiseAll_15 : decode cX0_raiseAll 15 = .ok (.invokevirtual 56, 3) := by decide +kernel
theorem dX0_raiseAll_18 : decode cX0_raiseAll 18 = .ok (.istore_n 3, 1) := by decide +kernel
theorem dX0_raiseAll_19 : decode cX0_raiseAll 19 = .ok (.iload_n 3, 1) := by decide +kernel
theorem dX0_raiseAll_20 : decode cX0_raiseAll 20 = .ok (.istore 4, 2) := by decide +kernel
theorem dX0_raiseAll_22 : decode cX0_raiseAll 22 = .ok (.iload 4, 2) := by decide +kernel
theorem dX0_raiseAll_24 : decode cX0_raiseAll 24 = .ok (.iload_n 3, 1) := by decide +kernel
theorem dX0_raiseAll_25 : decode cX0_raiseAll 25 = .ok (.aload_n 0, 1) := by decide +kernel
theorem dX0_raiseAll_26 : decode cX0_raiseAll 26 = .ok (.getfield 29, 3) := by decide +kernel
theorem dX0_raiseAll_29 : decode cX0_raiseAll 29 = .ok (.iadd, 1) := by decide +kernel
theorem dX0_raiseAll_30 : decode cX0_raiseAll 30 = .ok (.if_icmp .ge 59, 3) := by decide +kernel
theorem dX0_raiseAll_33 : decode cX0_raiseAll 33 = .ok (.aload_n 0, 1) := by decide +kernel
theorem dX0_raiseAll_34 : decode cX0_raiseAll 34 = .ok (.getfield 50, 3) := by decide +kernel
theorem dX0_raiseAll_37 : decode cX0_raiseAll 37 = .ok (.iload 4, 2) := by decide +kernel
theorem dX0_raiseAll_39 : decode cX0_raiseAll 39 = .ok (.iaload, 1) := by decide +kernel
theorem dX0_raiseAll_40 : decode cX0_raiseAll 40 = .ok (.ifCond .le 43, 3) := by decide +kernel
theorem dX0_raiseAll_43 : decode cX0_raiseAll 43 = .ok (.aload_n 0, 1) := by decide +kernel
theorem dX0_raiseAll_44 : decode cX0_raiseAll 44 = .ok (.getfield 53, 3) := by decide +kernel
theorem dX0_raiseAll_47 : decode cX0_raiseAll 47 = .ok (.iload 4, 2) := by decide +kernel
theorem dX0_raiseAll_49 : decode cX0_raiseAll 49 = .ok (.iaload, 1) := by decide +kernel
theorem dX0_raiseAll_50 : decode cX0_raiseAll 50 = .ok (.aload_n 0, 1) := by decide +kernel
theorem dX0_raiseAll_51 : decode cX0_raiseAll 51 = .ok (.getfield 50, 3) := by decide +kernel
theorem dX0_raiseAll_54 : decode cX0_raiseAll 54 = .ok (.iload 4, 2) := by decide +kernel
theorem dX0_raiseAll_56 : decode cX0_raiseAll 56 = .ok (.iaload, 1) := by decide +kernel
theorem dX0_raiseAll_57 : decode cX0_raiseAll 57 = .ok (.if_icmp .lt 26, 3) := by decide +kernel
theorem dX0_raiseAll_60 : decode cX0_raiseAll 60 = .ok (.aload_n 0, 1) := by decide +kernel
theorem dX0_raiseAll_61 : decode cX0_raiseAll 61 = .ok (.iload 4, 2) := by decide +kernel
theorem dX0_raiseAll_63 : decode cX0_raiseAll 63 = .ok (.aload_n 0, 1) := by decide +kernel
theorem dX0_raiseAll_64 : decode cX0_raiseAll 64 = .ok (.getfield 53, 3) := by decide +kernel
theorem dX0_raiseAll_67 : decode cX0_raiseAll 67 = .ok (.iload 4, 2) := by decide +kernel
theorem dX0_raiseAll_69 : decode cX0_raiseAll 69 = .ok (.iaload, 1) := by decide +kernel
theorem dX0_raiseAll_70 : decode cX0_raiseAll 70 = .ok (.aload_n 0, 1) := by decide +kernel
theorem dX0_raiseAll_71 : decode cX0_raiseAll 71 = .ok (.getfield 50, 3) := by decide +kernel
theorem dX0_raiseAll_74 : decode cX0_raiseAll 74 = .ok (.iload 4, 2) := by decide +kernel
theorem dX0_raiseAll_76 : decode cX0_raiseAll 76 = .ok (.iaload, 1) := by decide +kernel
theorem dX0_raiseAll_77 : decode cX0_raiseAll 77 = .ok (.idiv, 1) := by decide +kernel
theorem dX0_raiseAll_78 : decode cX0_raiseAll 78 = .ok (.invokevirtual 115, 3) := by decide +kernel
theorem dX0_raiseAll_81 : decode cX0_raiseAll 81 = .ok (.iconst 1, 1) := by decide +kernel
theorem dX0_raiseAll_82 : decode cX0_raiseAll 82 = .ok (.istore_n 1, 1) := by decide +kernel
theorem dX0_raiseAll_83 : decode cX0_raiseAll 83 = .ok (.iinc 4 1, 3) := by decide +kernel
theorem dX0_raiseAll_86 : decode cX0_raiseAll 86 = .ok (.goto (-64), 3) := by decide +kernel
theorem dX0_raiseAll_89 : decode cX0_raiseAll 89 = .ok (.iinc 2 1, 3) := by decide +kernel
theorem dX0_raiseAll_92 : decode cX0_raiseAll 92 = .ok (.goto (-88), 3) := by decide +kernel
theorem dX0_raiseAll_95 : decode cX0_raiseAll 95 = .ok (.iload_n 1, 1) := by decide +kernel
theorem dX0_raiseAll_96 : decode cX0_raiseAll 96 = .ok (.ireturn, 1) := by decide +kernel
theorem dX0_raise_0 : decode cX0_raise 0 = .ok (.aload_n 0, 1) := by decide +kernel
theorem dX0_raise_1 : decode cX0_raise 1 = .ok (.getfield 41, 3) := by decide +kernel
theorem dX0_raise_4 : decode cX0_raise 4 = .ok (.iload_n 1, 1) := by decide +kernel
theorem dX0_raise_5 : decode cX0_raise 5 = .ok (.dup2, 1) := by decide +kernel
theorem dX0_raise_6 : decode cX0_raise 6 = .ok (.iaload, 1) := by decide +kernel
theorem dX0_raise_7 : decode cX0_raise 7 = .ok (.iload_n 2, 1) := by decide +kernel
theorem dX0_raise_8 : decode cX0_raise 8 = .ok (.iadd, 1) := by decide +kernel
theorem dX0_raise_9 : decode cX0_raise 9 = .ok (.iastore, 1) := by decide +kernel
theorem dX0_raise_10 : decode cX0_raise 10 = .ok (.aload_n 0, 1) := by decide +kernel
theorem dX0_raise_11 : decode cX0_raise 11 = .ok (.getfield 53, 3) := by decide +kernel
theorem dX0_raise_14 : decode cX0_raise 14 = .ok (.iload_n 1, 1) := by decide +kernel
theorem dX0_raise_15 : decode cX0_raise 15 = .ok (.dup2, 1) := by decide +kernel
theorem dX0_raise_16 : decode cX0_raise 16 = .ok (.iaload, 1) := by decide +kernel
theorem dX0_raise_17 : decode cX0_raise 17 = .ok (.iload_n 2, 1) := by decide +kernel
theorem dX0_raise_18 : decode cX0_raise 18 = .ok (.aload_n 0, 1) := by decide +kernel
theorem dX0_raise_19 : decode cX0_raise 19 = .ok (.getfield 50, 3) := by decide +kernel
theorem dX0_raise_22 : decode cX0_raise 22 = .ok (.iload_n 1, 1) := by decide +kernel
theorem dX0_raise_23 : decode cX0_raise 23 = .ok (.iaload, 1) := by decide +kernel
theorem dX0_raise_24 : decode cX0_raise 24 = .ok (.imul, 1) := by decide +kernel
theorem dX0_raise_25 : decode cX0_raise 25 = .ok (.isub, 1) := by decide +kernel
theorem dX0_raise_26 : decode cX0_raise 26 = .ok (.iastore, 1) := by decide +kernel
theorem dX0_raise_27 : decode cX0_raise 27 = .ok (.aload_n 0, 1) := by decide +kernel
theorem dX0_raise_28 : decode cX0_raise 28 = .ok (.getfield 53, 3) := by decide +kernel
theorem dX0_raise_31 : decode cX0_raise 31 = .ok (.iload_n 1, 1) := by decide +kernel
theorem dX0_raise_32 : decode cX0_raise 32 = .ok (.iconst 1, 1) := by decide +kernel
theorem dX0_raise_33 : decode cX0_raise 33 = .ok (.iadd, 1) := by decide +kernel
theorem dX0_raise_34 : decode cX0_raise 34 = .ok (.dup2, 1) := by decide +kernel
theorem dX0_raise_35 : decode cX0_raise 35 = .ok (.iaload, 1) := by decide +kernel
theorem dX0_raise_36 : decode cX0_raise 36 = .ok (.iload_n 2, 1) := by decide +kernel
theorem dX0_raise_37 : decode cX0_raise 37 = .ok (.aload_n 0, 1) := by decide +kernel
theorem dX0_raise_38 : decode cX0_raise 38 = .ok (.getfield 44, 3) := by decide +kernel
theorem dX0_raise_41 : decode cX0_raise 41 = .ok (.iload_n 1, 1) := by decide +kernel
theorem dX0_raise_42 : decode cX0_raise 42 = .ok (.iaload, 1) := by decide +kernel
theorem dX0_raise_43 : decode cX0_raise 43 = .ok (.imul, 1) := by decide +kernel
theorem dX0_raise_44 : decode cX0_raise 44 = .ok (.iadd, 1) := by decide +kernel
theorem dX0_raise_45 : decode cX0_raise 45 = .ok (.iastore, 1) := by decide +kernel
theorem dX0_raise_46 : decode cX0_raise 46 = .ok (.aload_n 0, 1) := by decide +kernel
theorem dX0_raise_47 : decode cX0_raise 47 = .ok (.getfield 53, 3) := by decide +kernel
theorem dX0_raise_50 : decode cX0_raise 50 = .ok (.iload_n 1, 1) := by decide +kernel
theorem dX0_raise_51 : decode cX0_raise 51 = .ok (.iconst 1, 1) := by decide +kernel
theorem dX0_raise_52 : decode cX0_raise 52 = .ok (.isub, 1) := by decide +kernel
theorem dX0_raise_53 : decode cX0_raise 53 = .ok (.dup2, 1) := by decide +kernel
theorem dX0_raise_54 : decode cX0_raise 54 = .ok (.iaload, 1) := by decide +kernel
theorem dX0_raise_55 : decode cX0_raise 55 = .ok (.iload_n 2, 1) := by decide +kernel
theorem dX0_raise_56 : decode cX0_raise 56 = .ok (.aload_n 0, 1) := by decide +kernel
theorem dX0_raise_57 : decode cX0_raise 57 = .ok (.getfield 44, 3) := by decide +kernel
theorem dX0_raise_60 : decode cX0_raise 60 = .ok (.iload_n 1, 1) := by decide +kernel
theorem dX0_raise_61 : decode cX0_raise 61 = .ok (.iconst 1, 1) := by decide +kernel
theorem dX0_raise_62 : decode cX0_raise 62 = .ok (.isub, 1) := by decide +kernel
theorem dX0_raise_63 : decode cX0_raise 63 = .ok (.iaload, 1) := by decide +kernel
theorem dX0_raise_64 : decode cX0_raise 64 = .ok (.imul, 1) := by decide +kernel
theorem dX0_raise_65 : decode cX0_raise 65 = .ok (.iadd, 1) := by decide +kernel
theorem dX0_raise_66 : decode cX0_raise 66 = .ok (.iastore, 1) := by decide +kernel
theorem dX0_raise_67 : decode cX0_raise 67 = .ok (.aload_n 0, 1) := by decide +kernel
theorem dX0_raise_68 : decode cX0_raise 68 = .ok (.getfield 53, 3) := by decide +kernel
theorem dX0_raise_71 : decode cX0_raise 71 = .ok (.iload_n 1, 1) := by decide +kernel
theorem dX0_raise_72 : decode cX0_raise 72 = .ok (.aload_n 0, 1) := by decide +kernel
theorem dX0_raise_73 : decode cX0_raise 73 = .ok (.getfield 35, 3) := by decide +kernel
theorem dX0_raise_76 : decode cX0_raise 76 = .ok (.iadd, 1) := by decide +kernel
theorem dX0_raise_77 : decode cX0_raise 77 = .ok (.dup2, 1) := by decide +kernel
theorem dX0_raise_78 : decode cX0_raise 78 = .ok (.iaload, 1) := by decide +kernel
theorem dX0_raise_79 : decode cX0_raise 79 = .ok (.iload_n 2, 1) := by decide +kernel
theorem dX0_raise_80 : decode cX0_raise 80 = .ok (.aload_n 0, 1) := by decide +kernel
theorem dX0_raise_81 : decode cX0_raise 81 = .ok (.getfield 47, 3) := by decide +kernel
theorem dX0_raise_84 : decode cX0_raise 84 = .ok (.iload_n 1, 1) := by decide +kernel
theorem dX0_raise_85 : decode cX0_raise 85 = .ok (.iaload, 1) := by decide +kernel
theorem dX0_raise_86 : decode cX0_raise 86 = .ok (.imul, 1) := by decide +kernel
theorem dX0_raise_87 : decode cX0_raise 87 = .ok (.iadd, 1) := by decide +kernel
theorem dX0_raise_88 : decode cX0_raise 88 = .ok (.iastore, 1) := by decide +kernel
theorem dX0_raise_89 : decode cX0_raise 89 = .ok (.aload_n 0, 1) := by decide +kernel
theorem dX0_raise_90 : decode cX0_raise 90 = .ok (.getfield 53, 3) := by decide +kernel
theorem dX0_raise_93 : decode cX0_raise 93 = .ok (.iload_n 1, 1) := by decide +kernel
theorem dX0_raise_94 : decode cX0_raise 94 = .ok (.aload_n 0, 1) := by decide +kernel
theorem dX0_raise_95 : decode cX0_raise 95 = .ok (.getfield 35, 3) := by decide +kernel
theorem dX0_raise_98 : decode cX0_raise 98 = .ok (.isub, 1) := by decide +kernel
theorem dX0_raise_99 : decode cX0_raise 99 = .ok (.dup2, 1) := by decide +kernel
theorem dX0_raise_100 : decode cX0_raise 100 = .ok (.iaload, 1) := by decide +kernel
theorem dX0_raise_101 : decode cX0_raise 101 = .ok (.iload_n 2, 1) := by decide +kernel
theorem dX0_raise_102 : decode cX0_raise 102 = .ok (.aload_n 0, 1) := by decide +kernel
theorem dX0_raise_103 : decode cX0_raise 103 = .ok (.getfield 47, 3) := by decide +kernel
theorem dX0_raise_106 : decode cX0_raise 106 = .ok (.iload_n 1, 1) := by decide +kernel
theorem dX0_raise_107 : decode cX0_raise 107 = .ok (.aload_n 0, 1) := by decide +kernel
theorem dX0_raise_108 : decode cX0_raise 108 = .ok (.getfield 35, 3) := by decide +kernel
theorem dX0_raise_111 : decode cX0_raise 111 = .ok (.isub, 1) := by decide +kernel
theorem dX0_raise_112 : decode cX0_raise 112 = .ok (.iaload, 1) := by decide +kernel
theorem dX0_raise_113 : decode cX0_raise 113 = .ok (.imul, 1) := by decide +kernel
theorem dX0_raise_114 : decode cX0_raise 114 = .ok (.iadd, 1) := by decide +kernel
theorem dX0_raise_115 : decode cX0_raise 115 = .ok (.iastore, 1) := by decide +kernel
theorem dX0_raise_116 : decode cX0_raise 116 = .ok (.return_, 1) := by decide +kernel
theorem dX0_couple_0 : decode cX0_couple 0 = .ok (.iload_n 0, 1) := by decide +kernel
theorem dX0_couple_1 : decode cX0_couple 1 = .ok (.ifCond .le 19, 3) := by decide +kernel
theorem dX0_couple_4 : decode cX0_couple 4 = .ok (.iload_n 1, 1) := by decide +kernel
theorem dX0_couple_5 : decode cX0_couple 5 = .ok (.ifCond .le 15, 3) := by decide +kernel
theorem dX0_couple_8 : decode cX0_couple 8 = .ok (.iconst 2, 1) := by decide +kernel
theorem dX0_couple_9 : decode cX0_couple 9 = .ok (.iload_n 0, 1) := by decide +kernel
theorem dX0_couple_10 : decode cX0_couple 10 = .ok (.imul, 1) := by decide +kernel
theorem dX0_couple_11 : decode cX0_couple 11 = .ok (.iload_n 1, 1) := by decide +kernel
theorem dX0_couple_12 : decode cX0_couple 12 = .ok (.imul, 1) := by decide +kernel
theorem dX0_couple_13 : decode cX0_couple 13 = .ok (.iload_n 0, 1) := by decide +kernel
theorem dX0_couple_14 : decode cX0_couple 14 = .ok (.iload_n 1, 1) := by decide +kernel
theorem dX0_couple_15 : decode cX0_couple 15 = .ok (.iadd, 1) := by decide +kernel
theorem dX0_couple_16 : decode cX0_couple 16 = .ok (.idiv, 1) := by decide +kernel
theorem dX0_couple_17 : decode cX0_couple 17 = .ok (.goto 4, 3) := by decide +kernel
theorem dX0_couple_20 : decode cX0_couple 20 = .ok (.iconst 0, 1) := by decide +kernel
theorem dX0_couple_21 : decode cX0_couple 21 = .ok (.ireturn, 1) := by decide +kernel

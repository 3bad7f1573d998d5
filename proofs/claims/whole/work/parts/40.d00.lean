theorem dL_cell_0 : decode cL_cell 0 = .ok (.iload_n 1, 1) := by decide +kernel
theorem dL_cell_1 : decode cL_cell 1 = .ok (.aload_n 0, 1) := by decide +kernel
theorem dL_cell_2 : decode cL_cell 2 = .ok (.arraylength, 1) := by decide +kernel
theorem dL_cell_3 : decode cL_cell 3 = .ok (.if_icmp .ge 9, 3) := by decide +kernel
theorem dL_cell_6 : decode cL_cell 6 = .ok (.aload_n 0, 1) := by decide +kernel
theorem dL_cell_7 : decode cL_cell 7 = .ok (.iload_n 1, 1) := by decide +kernel
theorem dL_cell_8 : decode cL_cell 8 = .ok (.iaload, 1) := by decide +kernel
theorem dL_cell_9 : decode cL_cell 9 = .ok (.goto 4, 3) := by decide +kernel
theorem dL_cell_12 : decode cL_cell 12 = .ok (.iconst 0, 1) := by decide +kernel
theorem dL_cell_13 : decode cL_cell 13 = .ok (.ireturn, 1) := by decide +kernel
theorem dL_box_0 : decode cL_box 0 = .ok (.aload 6, 2) := by decide +kernel
theorem dL_box_2 : decode cL_box 2 = .ok (.iconst 0, 1) := by decide +kernel
theorem dL_box_3 : decode cL_box 3 = .ok (.aload_n 0, 1) := by decide +kernel
theorem dL_box_4 : decode cL_box 4 = .ok (.iload_n 1, 1) := by decide +kernel
theorem dL_box_5 : decode cL_box 5 = .ok (.iload_n 2, 1) := by decide +kernel
theorem dL_box_6 : decode cL_box 6 = .ok (.iload_n 3, 1) := by decide +kernel
theorem dL_box_7 : decode cL_box 7 = .ok (.iload 4, 2) := by decide +kernel
theorem dL_box_9 : decode cL_box 9 = .ok (.iload 5, 2) := by decide +kernel
theorem dL_box_11 : decode cL_box 11 = .ok (.invokevirtual 7, 3) := by decide +kernel
theorem dL_box_14 : decode cL_box 14 = .ok (.i2l, 1) := by decide +kernel
theorem dL_box_15 : decode cL_box 15 = .ok (.lastore, 1) := by decide +kernel
theorem dL_box_16 : decode cL_box 16 = .ok (.goto 7, 3) := by decide +kernel
theorem dL_box_19 : decode cL_box 19 = .ok (.astore 7, 2) := by decide +kernel
theorem dL_box_21 : decode cL_box 21 = .ok (.iconst 1, 1) := by decide +kernel
theorem dL_box_22 : decode cL_box 22 = .ok (.ireturn, 1) := by decide +kernel
theorem dL_box_23 : decode cL_box 23 = .ok (.iconst 0, 1) := by decide +kernel
theorem dL_box_24 : decode cL_box 24 = .ok (.ireturn, 1) := by decide +kernel
theorem dL_side_0 : decode cL_side 0 = .ok (.aload 4, 2) := by decide +kernel
theorem dL_side_2 : decode cL_side 2 = .ok (.iconst 0, 1) := by decide +kernel
theorem dL_side_3 : decode cL_side 3 = .ok (.aload_n 0, 1) := by decide +kernel
theorem dL_side_4 : decode cL_side 4 = .ok (.iload_n 1, 1) := by decide +kernel
theorem dL_side_5 : decode cL_side 5 = .ok (.iload_n 2, 1) := by decide +kernel
theorem dL_side_6 : decode cL_side 6 = .ok (.iload_n 3, 1) := by decide +kernel
theorem dL_side_7 : decode cL_side 7 = .ok (.invokevirtual 15, 3) := by decide +kernel
theorem dL_side_10 : decode cL_side 10 = .ok (.i2l, 1) := by decide +kernel
theorem dL_side_11 : decode cL_side 11 = .ok (.lastore, 1) := by decide +kernel
theorem dL_side_12 : decode cL_side 12 = .ok (.goto 7, 3) := by decide +kernel
theorem dL_side_15 : decode cL_side 15 = .ok (.astore 5, 2) := by decide +kernel
theorem dL_side_17 : decode cL_side 17 = .ok (.iconst 1, 1) := by decide +kernel
theorem dL_side_18 : decode cL_side 18 = .ok (.ireturn, 1) := by decide +kernel
theorem dL_side_19 : decode cL_side 19 = .ok (.iconst 0, 1) := by decide +kernel
theorem dL_side_20 : decode cL_side 20 = .ok (.ireturn, 1) := by decide +kernel
theorem dL_leads_0 : decode cL_leads 0 = .ok (.aload_n 3, 1) := by decide +kernel
theorem dL_leads_1 : decode cL_leads 1 = .ok (.iconst 0, 1) := by decide +kernel
theorem dL_leads_2 : decode cL_leads 2 = .ok (.aload_n 0, 1) := by decide +kernel
theorem dL_leads_3 : decode cL_leads 3 = .ok (.iload_n 1, 1) := by decide +kernel
theorem dL_leads_4 : decode cL_leads 4 = .ok (.iload_n 2, 1) := by decide +kernel
theorem dL_leads_5 : decode cL_leads 5 = .ok (.invokevirtual 19, 3) := by decide +kernel
theorem dL_leads_8 : decode cL_leads 8 = .ok (.i2l, 1) := by decide +kernel
theorem dL_leads_9 : decode cL_leads 9 = .ok (.lastore, 1) := by decide +kernel
theorem dL_leads_10 : decode cL_leads 10 = .ok (.goto 7, 3) := by decide +kernel
theorem dL_leads_13 : decode cL_leads 13 = .ok (.astore 4, 2) := by decide +kernel
theorem dL_leads_15 : decode cL_leads 15 = .ok (.iconst 1, 1) := by decide +kernel
theorem dL_leads_16 : decode cL_leads 16 = .ok (.ireturn, 1) := by decide +kernel
theorem dL_leads_17 : decode cL_leads 17 = .ok (.iconst 0, 1) := by decide +kernel
theorem dL_leads_18 : decode cL_leads 18 = .ok (.ireturn, 1) := by decide +kernel
theorem dL_warmth_0 : decode cL_warmth 0 = .ok (.aload_n 3, 1) := by decide +kernel
theorem dL_warmth_1 : decode cL_warmth 1 = .ok (.iconst 0, 1) := by decide +kernel
theorem dL_warmth_2 : decode cL_warmth 2 = .ok (.aload_n 0, 1) := by decide +kernel
theorem dL_warmth_3 : decode cL_warmth 3 = .ok (.iload_n 1, 1) := by decide +kernel
theorem dL_warmth_4 : decode cL_warmth 4 = .ok (.iload_n 2, 1) := by decide +kernel
theorem dL_warmth_5 : decode cL_warmth 5 = .ok (.invokevirtual 23, 3) := by decide +kernel
theorem dL_warmth_8 : decode cL_warmth 8 = .ok (.i2l, 1) := by decide +kernel
theorem dL_warmth_9 : decode cL_warmth 9 = .ok (.lastore, 1) := by decide +kernel
theorem dL_warmth_10 : decode cL_warmth 10 = .ok (.goto 7, 3) := by decide +kernel
theorem dL_warmth_13 : decode cL_warmth 13 = .ok (.astore 4, 2) := by decide +kernel
theorem dL_warmth_15 : decode cL_warmth 15 = .ok (.iconst 1, 1) := by decide +kernel
theorem dL_warmth_16 : decode cL_warmth 16 = .ok (.ireturn, 1) := by decide +kernel
theorem dL_warmth_17 : decode cL_warmth 17 = .ok (.iconst 0, 1) := by decide +kernel
theorem dL_warmth_18 : decode cL_warmth 18 = .ok (.ireturn, 1) := by decide +kernel
theorem dL_flow_0 : decode cL_flow 0 = .ok (.aload_n 2, 1) := by decide +kernel
theorem dL_flow_1 : decode cL_flow 1 = .ok (.iconst 0, 1) := by decide +kernel
theorem dL_flow_2 : decode cL_flow 2 = .ok (.aload_n 0, 1) := by decide +kernel
theorem dL_flow_3 : decode cL_flow 3 = .ok (.iload_n 1, 1) := by decide +kernel
theorem dL_flow_4 : decode cL_flow 4 = .ok (.invokevirtual 26, 3) := by decide +kernel
theorem dL_flow_7 : decode cL_flow 7 = .ok (.lastore, 1) := by decide +kernel
theorem dL_flow_8 : decode cL_flow 8 = .ok (.goto 6, 3) := by decide +kernel
theorem dL_flow_11 : decode cL_flow 11 = .ok (.astore_n 3, 1) := by decide +kernel
theorem dL_flow_12 : decode cL_flow 12 = .ok (.iconst 1, 1) := by decide +kernel
theorem dL_flow_13 : decode cL_flow 13 = .ok (.ireturn, 1) := by decide +kernel
theorem dL_flow_14 : decode cL_flow 14 = .ok (.iconst 0, 1) := by decide +kernel
theorem dL_flow_15 : decode cL_flow 15 = .ok (.ireturn, 1) := by decide +kernel
theorem dL_told_0 : decode cL_told 0 = .ok (.aload_n 2, 1) := by decide +kernel
theorem dL_told_1 : decode cL_told 1 = .ok (.iconst 0, 1) := by decide +kernel
theorem dL_told_2 : decode cL_told 2 = .ok (.aload_n 0, 1) := by decide +kernel
theorem dL_told_3 : decode cL_told 3 = .ok (.iload_n 1, 1) := by decide +kernel
theorem dL_told_4 : decode cL_told 4 = .ok (.invokevirtual 30, 3) := by decide +kernel
theorem dL_told_7 : decode cL_told 7 = .ok (.lastore, 1) := by decide +kernel
theorem dL_told_8 : decode cL_told 8 = .ok (.goto 6, 3) := by decide +kernel
theorem dL_told_11 : decode cL_told 11 = .ok (.astore_n 3, 1) := by decide +kernel
theorem dL_told_12 : decode cL_told 12 = .ok (.iconst 1, 1) := by decide +kernel
theorem dL_told_13 : decode cL_told 13 = .ok (.ireturn, 1) := by decide +kernel
theorem dL_told_14 : decode cL_told 14 = .ok (.iconst 0, 1) := by decide +kernel
theorem dL_told_15 : decode cL_told 15 = .ok (.ireturn, 1) := by decide +kernel
theorem dL_least_0 : decode cL_least 0 = .ok (.aload_n 3, 1) := by decide +kernel
theorem dL_least_1 : decode cL_least 1 = .ok (.iconst 0, 1) := by decide +kernel
theorem dL_least_2 : decode cL_least 2 = .ok (.aload_n 0, 1) := by decide +kernel
theorem dL_least_3 : decode cL_least 3 = .ok (.iload_n 1, 1) := by decide +kernel
theorem dL_least_4 : decode cL_least 4 = .ok (.iload_n 2, 1) := by decide +kernel
theorem dL_least_5 : decode cL_least 5 = .ok (.invokevirtual 33, 3) := by decide +kernel
theorem dL_least_8 : decode cL_least 8 = .ok (.i2l, 1) := by decide +kernel
theorem dL_least_9 : decode cL_least 9 = .ok (.lastore, 1) := by decide +kernel
theorem dL_least_10 : decode cL_least 10 = .ok (.goto 7, 3) := by decide +kernel
theorem dL_least_13 : decode cL_least 13 = .ok (.astore 4, 2) := by decide +kernel
theorem dL_least_15 : decode cL_least 15 = .ok (.iconst 1, 1) := by decide +kernel
theorem dL_least_16 : decode cL_least 16 = .ok (.ireturn, 1) := by decide +kernel
theorem dL_least_17 : decode cL_least 17 = .ok (.iconst 0, 1) := by decide +kernel
theorem dL_least_18 : decode cL_least 18 = .ok (.ireturn, 1) := by decide +kernel
theorem dL_factor_0 : decode cL_factor 0 = .ok (.aload_n 3, 1) := by decide +kernel
theorem dL_factor_1 : decode cL_factor 1 = .ok (.iconst 0, 1) := by decide +kernel
theorem dL_factor_2 : decode cL_factor 2 = .ok (.aload_n 0, 1) := by decide +kernel
theorem dL_factor_3 : decode cL_factor 3 = .ok (.iload_n 1, 1) := by decide +kernel
theorem dL_factor_4 : decode cL_factor 4 = .ok (.iload_n 2, 1) := by decide +kernel
theorem dL_factor_5 : decode cL_factor 5 = .ok (.invokevirtual 36, 3) := by decide +kernel
theorem dL_factor_8 : decode cL_factor 8 = .ok (.i2l, 1) := by decide +kernel
theorem dL_factor_9 : decode cL_factor 9 = .ok (.lastore, 1) := by decide +kernel
theorem dL_factor_10 : decode cL_factor 10 = .ok (.goto 7, 3) := by decide +kernel
theorem dL_factor_13 : decode cL_factor 13 = .ok (.astore 4, 2) := by decide +kernel
theorem dL_factor_15 : decode cL_factor 15 = .ok (.iconst 1, 1) := by decide +kernel
theorem dL_factor_16 : decode cL_factor 16 = .ok (.ireturn, 1) := by decide +kernel

theorem dL_factor_17 : decode cL_factor 17 = .ok (.iconst 0, 1) := by decide +kernel
theorem dL_factor_18 : decode cL_factor 18 = .ok (.ireturn, 1) := by decide +kernel
theorem dL_colder_0 : decode cL_colder 0 = .ok (.aload_n 2, 1) := by decide +kernel
theorem dL_colder_1 : decode cL_colder 1 = .ok (.iconst 0, 1) := by decide +kernel
theorem dL_colder_2 : decode cL_colder 2 = .ok (.aload_n 0, 1) := by decide +kernel
theorem dL_colder_3 : decode cL_colder 3 = .ok (.iload_n 1, 1) := by decide +kernel
theorem dL_colder_4 : decode cL_colder 4 = .ok (.invokevirtual 39, 3) := by decide +kernel
theorem dL_colder_7 : decode cL_colder 7 = .ok (.i2l, 1) := by decide +kernel
theorem dL_colder_8 : decode cL_colder 8 = .ok (.lastore, 1) := by decide +kernel
theorem dL_colder_9 : decode cL_colder 9 = .ok (.goto 6, 3) := by decide +kernel
theorem dL_colder_12 : decode cL_colder 12 = .ok (.astore_n 3, 1) := by decide +kernel
theorem dL_colder_13 : decode cL_colder 13 = .ok (.iconst 1, 1) := by decide +kernel
theorem dL_colder_14 : decode cL_colder 14 = .ok (.ireturn, 1) := by decide +kernel
theorem dL_colder_15 : decode cL_colder 15 = .ok (.iconst 0, 1) := by decide +kernel
theorem dL_colder_16 : decode cL_colder 16 = .ok (.ireturn, 1) := by decide +kernel
theorem dL_mirrored_0 : decode cL_mirrored 0 = .ok (.aload_n 2, 1) := by decide +kernel
theorem dL_mirrored_1 : decode cL_mirrored 1 = .ok (.iconst 0, 1) := by decide +kernel
theorem dL_mirrored_2 : decode cL_mirrored 2 = .ok (.aload_n 0, 1) := by decide +kernel
theorem dL_mirrored_3 : decode cL_mirrored 3 = .ok (.iload_n 1, 1) := by decide +kernel
theorem dL_mirrored_4 : decode cL_mirrored 4 = .ok (.invokevirtual 43, 3) := by decide +kernel
theorem dL_mirrored_7 : decode cL_mirrored 7 = .ok (.ifCond .eq 7, 3) := by decide +kernel
theorem dL_mirrored_10 : decode cL_mirrored 10 = .ok (.lconst 1, 1) := by decide +kernel
theorem dL_mirrored_11 : decode cL_mirrored 11 = .ok (.goto 4, 3) := by decide +kernel
theorem dL_mirrored_14 : decode cL_mirrored 14 = .ok (.lconst 0, 1) := by decide +kernel
theorem dL_mirrored_15 : decode cL_mirrored 15 = .ok (.lastore, 1) := by decide +kernel
theorem dL_mirrored_16 : decode cL_mirrored 16 = .ok (.goto 6, 3) := by decide +kernel
theorem dL_mirrored_19 : decode cL_mirrored 19 = .ok (.astore_n 3, 1) := by decide +kernel
theorem dL_mirrored_20 : decode cL_mirrored 20 = .ok (.iconst 1, 1) := by decide +kernel
theorem dL_mirrored_21 : decode cL_mirrored 21 = .ok (.ireturn, 1) := by decide +kernel
theorem dL_mirrored_22 : decode cL_mirrored 22 = .ok (.iconst 0, 1) := by decide +kernel
theorem dL_mirrored_23 : decode cL_mirrored 23 = .ok (.ireturn, 1) := by decide +kernel
theorem dL_joint_0 : decode cL_joint 0 = .ok (.aload_n 1, 1) := by decide +kernel
theorem dL_joint_1 : decode cL_joint 1 = .ok (.iconst 0, 1) := by decide +kernel
theorem dL_joint_2 : decode cL_joint 2 = .ok (.aload_n 0, 1) := by decide +kernel
theorem dL_joint_3 : decode cL_joint 3 = .ok (.invokevirtual 47, 3) := by decide +kernel
theorem dL_joint_6 : decode cL_joint 6 = .ok (.i2l, 1) := by decide +kernel
theorem dL_joint_7 : decode cL_joint 7 = .ok (.lastore, 1) := by decide +kernel
theorem dL_joint_8 : decode cL_joint 8 = .ok (.goto 6, 3) := by decide +kernel
theorem dL_joint_11 : decode cL_joint 11 = .ok (.astore_n 2, 1) := by decide +kernel
theorem dL_joint_12 : decode cL_joint 12 = .ok (.iconst 1, 1) := by decide +kernel
theorem dL_joint_13 : decode cL_joint 13 = .ok (.ireturn, 1) := by decide +kernel
theorem dL_joint_14 : decode cL_joint 14 = .ok (.iconst 0, 1) := by decide +kernel
theorem dL_joint_15 : decode cL_joint 15 = .ok (.ireturn, 1) := by decide +kernel
theorem dL_length_0 : decode cL_length 0 = .ok (.aload_n 3, 1) := by decide +kernel
theorem dL_length_1 : decode cL_length 1 = .ok (.iconst 0, 1) := by decide +kernel
theorem dL_length_2 : decode cL_length 2 = .ok (.aload_n 0, 1) := by decide +kernel
theorem dL_length_3 : decode cL_length 3 = .ok (.iload_n 1, 1) := by decide +kernel
theorem dL_length_4 : decode cL_length 4 = .ok (.iload_n 2, 1) := by decide +kernel
theorem dL_length_5 : decode cL_length 5 = .ok (.invokevirtual 53, 3) := by decide +kernel
theorem dL_length_8 : decode cL_length 8 = .ok (.i2l, 1) := by decide +kernel
theorem dL_length_9 : decode cL_length 9 = .ok (.lastore, 1) := by decide +kernel
theorem dL_length_10 : decode cL_length 10 = .ok (.goto 7, 3) := by decide +kernel
theorem dL_length_13 : decode cL_length 13 = .ok (.astore 4, 2) := by decide +kernel
theorem dL_length_15 : decode cL_length 15 = .ok (.iconst 1, 1) := by decide +kernel
theorem dL_length_16 : decode cL_length 16 = .ok (.ireturn, 1) := by decide +kernel
theorem dL_length_17 : decode cL_length 17 = .ok (.iconst 0, 1) := by decide +kernel
theorem dL_length_18 : decode cL_length 18 = .ok (.ireturn, 1) := by decide +kernel
theorem dL_differs_0 : decode cL_differs 0 = .ok (.aload_n 2, 1) := by decide +kernel
theorem dL_differs_1 : decode cL_differs 1 = .ok (.iconst 0, 1) := by decide +kernel
theorem dL_differs_2 : decode cL_differs 2 = .ok (.aload_n 0, 1) := by decide +kernel
theorem dL_differs_3 : decode cL_differs 3 = .ok (.iload_n 1, 1) := by decide +kernel
theorem dL_differs_4 : decode cL_differs 4 = .ok (.invokevirtual 56, 3) := by decide +kernel
theorem dL_differs_7 : decode cL_differs 7 = .ok (.lastore, 1) := by decide +kernel
theorem dL_differs_8 : decode cL_differs 8 = .ok (.goto 6, 3) := by decide +kernel
theorem dL_differs_11 : decode cL_differs 11 = .ok (.astore_n 3, 1) := by decide +kernel
theorem dL_differs_12 : decode cL_differs 12 = .ok (.iconst 1, 1) := by decide +kernel
theorem dL_differs_13 : decode cL_differs 13 = .ok (.ireturn, 1) := by decide +kernel
theorem dL_differs_14 : decode cL_differs 14 = .ok (.iconst 0, 1) := by decide +kernel
theorem dL_differs_15 : decode cL_differs 15 = .ok (.ireturn, 1) := by decide +kernel
theorem dL_law_0 : decode cL_law 0 = .ok (.new 8, 3) := by decide +kernel
theorem dL_law_3 : decode cL_law 3 = .ok (.dup, 1) := by decide +kernel
theorem dL_law_4 : decode cL_law 4 = .ok (.aload_n 0, 1) := by decide +kernel
theorem dL_law_5 : decode cL_law 5 = .ok (.iconst 0, 1) := by decide +kernel
theorem dL_law_6 : decode cL_law 6 = .ok (.invokestatic 59, 3) := by decide +kernel
theorem dL_law_9 : decode cL_law 9 = .ok (.aload_n 0, 1) := by decide +kernel
theorem dL_law_10 : decode cL_law 10 = .ok (.iconst 1, 1) := by decide +kernel
theorem dL_law_11 : decode cL_law 11 = .ok (.invokestatic 59, 3) := by decide +kernel
theorem dL_law_14 : decode cL_law 14 = .ok (.invokespecial 65, 3) := by decide +kernel
theorem dL_law_17 : decode cL_law 17 = .ok (.astore_n 1, 1) := by decide +kernel
theorem dL_law_18 : decode cL_law 18 = .ok (.new 68, 3) := by decide +kernel
theorem dL_law_21 : decode cL_law 21 = .ok (.dup, 1) := by decide +kernel
theorem dL_law_22 : decode cL_law 22 = .ok (.aload_n 0, 1) := by decide +kernel
theorem dL_law_23 : decode cL_law 23 = .ok (.iconst 0, 1) := by decide +kernel
theorem dL_law_24 : decode cL_law 24 = .ok (.invokestatic 59, 3) := by decide +kernel
theorem dL_law_27 : decode cL_law 27 = .ok (.aload_n 0, 1) := by decide +kernel
theorem dL_law_28 : decode cL_law 28 = .ok (.iconst 1, 1) := by decide +kernel
theorem dL_law_29 : decode cL_law 29 = .ok (.invokestatic 59, 3) := by decide +kernel
theorem dL_law_32 : decode cL_law 32 = .ok (.invokespecial 70, 3) := by decide +kernel
theorem dL_law_35 : decode cL_law 35 = .ok (.astore_n 2, 1) := by decide +kernel
theorem dL_law_36 : decode cL_law 36 = .ok (.iconst 1, 1) := by decide +kernel
theorem dL_law_37 : decode cL_law 37 = .ok (.newarray .long, 2) := by decide +kernel
theorem dL_law_39 : decode cL_law 39 = .ok (.astore_n 3, 1) := by decide +kernel
theorem dL_law_40 : decode cL_law 40 = .ok (.iconst 2, 1) := by decide +kernel
theorem dL_law_41 : decode cL_law 41 = .ok (.istore 4, 2) := by decide +kernel
theorem dL_law_43 : decode cL_law 43 = .ok (.iload 4, 2) := by decide +kernel
theorem dL_law_45 : decode cL_law 45 = .ok (.aload_n 0, 1) := by decide +kernel
theorem dL_law_46 : decode cL_law 46 = .ok (.arraylength, 1) := by decide +kernel
theorem dL_law_47 : decode cL_law 47 = .ok (.bipush 6, 2) := by decide +kernel
theorem dL_law_49 : decode cL_law 49 = .ok (.isub, 1) := by decide +kernel
theorem dL_law_50 : decode cL_law 50 = .ok (.if_icmp .gt 954, 3) := by decide +kernel
theorem dL_law_53 : decode cL_law 53 = .ok (.aload_n 0, 1) := by decide +kernel
theorem dL_law_54 : decode cL_law 54 = .ok (.iload 4, 2) := by decide +kernel
theorem dL_law_56 : decode cL_law 56 = .ok (.iaload, 1) := by decide +kernel
theorem dL_law_57 : decode cL_law 57 = .ok (.bipush 15, 2) := by decide +kernel
theorem dL_law_59 : decode cL_law 59 = .ok (.iand, 1) := by decide +kernel
theorem dL_law_60 : decode cL_law 60 = .ok (.tableswitch 938 0 13 #[72, 176, 256, 324, 392, 447, 502, 570, 638, 694, 757, 801, 869, 924], 72) := by decide +kernel
theorem dL_law_132 : decode cL_law 132 = .ok (.aload_n 1, 1) := by decide +kernel
theorem dL_law_133 : decode cL_law 133 = .ok (.aload_n 0, 1) := by decide +kernel
theorem dL_law_134 : decode cL_law 134 = .ok (.iload 4, 2) := by decide +kernel
theorem dL_law_136 : decode cL_law 136 = .ok (.iconst 1, 1) := by decide +kernel
theorem dL_law_137 : decode cL_law 137 = .ok (.iadd, 1) := by decide +kernel
theorem dL_law_138 : decode cL_law 138 = .ok (.iaload, 1) := by decide +kernel
theorem dL_law_139 : decode cL_law 139 = .ok (.aload_n 0, 1) := by decide +kernel
theorem dL_law_140 : decode cL_law 140 = .ok (.iload 4, 2) := by decide +kernel
theorem dL_law_142 : decode cL_law 142 = .ok (.iconst 2, 1) := by decide +kernel
theorem dL_law_143 : decode cL_law 143 = .ok (.iadd, 1) := by decide +kernel
theorem dL_law_144 : decode cL_law 144 = .ok (.iaload, 1) := by decide +kernel
theorem dL_law_145 : decode cL_law 145 = .ok (.aload_n 0, 1) := by decide +kernel
theorem dL_law_146 : decode cL_law 146 = .ok (.iload 4, 2) := by decide +kernel
theorem dL_law_148 : decode cL_law 148 = .ok (.iconst 3, 1) := by decide +kernel

theorem dL_addKnot_0 : decode cL_addKnot 0 = .ok (.aload 4, 2) := by decide +kernel
theorem dL_addKnot_2 : decode cL_addKnot 2 = .ok (.iconst 0, 1) := by decide +kernel
theorem dL_addKnot_3 : decode cL_addKnot 3 = .ok (.aload_n 0, 1) := by decide +kernel
theorem dL_addKnot_4 : decode cL_addKnot 4 = .ok (.iload_n 1, 1) := by decide +kernel
theorem dL_addKnot_5 : decode cL_addKnot 5 = .ok (.iload_n 2, 1) := by decide +kernel
theorem dL_addKnot_6 : decode cL_addKnot 6 = .ok (.iload_n 3, 1) := by decide +kernel
theorem dL_addKnot_7 : decode cL_addKnot 7 = .ok (.invokevirtual 7, 3) := by decide +kernel
theorem dL_addKnot_10 : decode cL_addKnot 10 = .ok (.i2l, 1) := by decide +kernel
theorem dL_addKnot_11 : decode cL_addKnot 11 = .ok (.lastore, 1) := by decide +kernel
theorem dL_addKnot_12 : decode cL_addKnot 12 = .ok (.goto 15, 3) := by decide +kernel
theorem dL_addKnot_15 : decode cL_addKnot 15 = .ok (.astore 5, 2) := by decide +kernel
theorem dL_addKnot_17 : decode cL_addKnot 17 = .ok (.iconst 1, 1) := by decide +kernel
theorem dL_addKnot_18 : decode cL_addKnot 18 = .ok (.ireturn, 1) := by decide +kernel
theorem dL_addKnot_19 : decode cL_addKnot 19 = .ok (.astore 5, 2) := by decide +kernel
theorem dL_addKnot_21 : decode cL_addKnot 21 = .ok (.iconst 2, 1) := by decide +kernel
theorem dL_addKnot_22 : decode cL_addKnot 22 = .ok (.ireturn, 1) := by decide +kernel
theorem dL_addKnot_23 : decode cL_addKnot 23 = .ok (.astore 5, 2) := by decide +kernel
theorem dL_addKnot_25 : decode cL_addKnot 25 = .ok (.iconst 3, 1) := by decide +kernel
theorem dL_addKnot_26 : decode cL_addKnot 26 = .ok (.ireturn, 1) := by decide +kernel
theorem dL_addKnot_27 : decode cL_addKnot 27 = .ok (.iconst 0, 1) := by decide +kernel
theorem dL_addKnot_28 : decode cL_addKnot 28 = .ok (.ireturn, 1) := by decide +kernel
theorem dL_setSpill_0 : decode cL_setSpill 0 = .ok (.aload 4, 2) := by decide +kernel
theorem dL_setSpill_2 : decode cL_setSpill 2 = .ok (.iconst 0, 1) := by decide +kernel
theorem dL_setSpill_3 : decode cL_setSpill 3 = .ok (.aload_n 0, 1) := by decide +kernel
theorem dL_setSpill_4 : decode cL_setSpill 4 = .ok (.iload_n 1, 1) := by decide +kernel
theorem dL_setSpill_5 : decode cL_setSpill 5 = .ok (.iload_n 2, 1) := by decide +kernel
theorem dL_setSpill_6 : decode cL_setSpill 6 = .ok (.iload_n 3, 1) := by decide +kernel
theorem dL_setSpill_7 : decode cL_setSpill 7 = .ok (.invokevirtual 19, 3) := by decide +kernel
theorem dL_setSpill_10 : decode cL_setSpill 10 = .ok (.i2l, 1) := by decide +kernel
theorem dL_setSpill_11 : decode cL_setSpill 11 = .ok (.lastore, 1) := by decide +kernel
theorem dL_setSpill_12 : decode cL_setSpill 12 = .ok (.goto 11, 3) := by decide +kernel
theorem dL_setSpill_15 : decode cL_setSpill 15 = .ok (.astore 5, 2) := by decide +kernel
theorem dL_setSpill_17 : decode cL_setSpill 17 = .ok (.iconst 1, 1) := by decide +kernel
theorem dL_setSpill_18 : decode cL_setSpill 18 = .ok (.ireturn, 1) := by decide +kernel
theorem dL_setSpill_19 : decode cL_setSpill 19 = .ok (.astore 5, 2) := by decide +kernel
theorem dL_setSpill_21 : decode cL_setSpill 21 = .ok (.iconst 2, 1) := by decide +kernel
theorem dL_setSpill_22 : decode cL_setSpill 22 = .ok (.ireturn, 1) := by decide +kernel
theorem dL_setSpill_23 : decode cL_setSpill 23 = .ok (.iconst 0, 1) := by decide +kernel
theorem dL_setSpill_24 : decode cL_setSpill 24 = .ok (.ireturn, 1) := by decide +kernel
theorem dL_tie_0 : decode cL_tie 0 = .ok (.aload_n 3, 1) := by decide +kernel
theorem dL_tie_1 : decode cL_tie 1 = .ok (.iconst 0, 1) := by decide +kernel
theorem dL_tie_2 : decode cL_tie 2 = .ok (.aload_n 0, 1) := by decide +kernel
theorem dL_tie_3 : decode cL_tie 3 = .ok (.iload_n 1, 1) := by decide +kernel
theorem dL_tie_4 : decode cL_tie 4 = .ok (.iload_n 2, 1) := by decide +kernel
theorem dL_tie_5 : decode cL_tie 5 = .ok (.invokevirtual 22, 3) := by decide +kernel
theorem dL_tie_8 : decode cL_tie 8 = .ok (.i2l, 1) := by decide +kernel
theorem dL_tie_9 : decode cL_tie 9 = .ok (.lastore, 1) := by decide +kernel
theorem dL_tie_10 : decode cL_tie 10 = .ok (.goto 15, 3) := by decide +kernel
theorem dL_tie_13 : decode cL_tie 13 = .ok (.astore 4, 2) := by decide +kernel
theorem dL_tie_15 : decode cL_tie 15 = .ok (.iconst 1, 1) := by decide +kernel
theorem dL_tie_16 : decode cL_tie 16 = .ok (.ireturn, 1) := by decide +kernel
theorem dL_tie_17 : decode cL_tie 17 = .ok (.astore 4, 2) := by decide +kernel
theorem dL_tie_19 : decode cL_tie 19 = .ok (.iconst 2, 1) := by decide +kernel
theorem dL_tie_20 : decode cL_tie 20 = .ok (.ireturn, 1) := by decide +kernel
theorem dL_tie_21 : decode cL_tie 21 = .ok (.astore 4, 2) := by decide +kernel
theorem dL_tie_23 : decode cL_tie 23 = .ok (.iconst 3, 1) := by decide +kernel
theorem dL_tie_24 : decode cL_tie 24 = .ok (.ireturn, 1) := by decide +kernel
theorem dL_tie_25 : decode cL_tie 25 = .ok (.iconst 0, 1) := by decide +kernel
theorem dL_tie_26 : decode cL_tie 26 = .ok (.ireturn, 1) := by decide +kernel
theorem dL_join_0 : decode cL_join 0 = .ok (.aload 4, 2) := by decide +kernel
theorem dL_join_2 : decode cL_join 2 = .ok (.iconst 0, 1) := by decide +kernel
theorem dL_join_3 : decode cL_join 3 = .ok (.aload_n 0, 1) := by decide +kernel
theorem dL_join_4 : decode cL_join 4 = .ok (.iload_n 1, 1) := by decide +kernel
theorem dL_join_5 : decode cL_join 5 = .ok (.iload_n 2, 1) := by decide +kernel
theorem dL_join_6 : decode cL_join 6 = .ok (.iload_n 3, 1) := by decide +kernel
theorem dL_join_7 : decode cL_join 7 = .ok (.invokevirtual 26, 3) := by decide +kernel
theorem dL_join_10 : decode cL_join 10 = .ok (.i2l, 1) := by decide +kernel
theorem dL_join_11 : decode cL_join 11 = .ok (.lastore, 1) := by decide +kernel
theorem dL_join_12 : decode cL_join 12 = .ok (.goto 15, 3) := by decide +kernel
theorem dL_join_15 : decode cL_join 15 = .ok (.astore 5, 2) := by decide +kernel
theorem dL_join_17 : decode cL_join 17 = .ok (.iconst 1, 1) := by decide +kernel
theorem dL_join_18 : decode cL_join 18 = .ok (.ireturn, 1) := by decide +kernel
theorem dL_join_19 : decode cL_join 19 = .ok (.astore 5, 2) := by decide +kernel
theorem dL_join_21 : decode cL_join 21 = .ok (.iconst 2, 1) := by decide +kernel
theorem dL_join_22 : decode cL_join 22 = .ok (.ireturn, 1) := by decide +kernel
theorem dL_join_23 : decode cL_join 23 = .ok (.astore 5, 2) := by decide +kernel
theorem dL_join_25 : decode cL_join 25 = .ok (.iconst 3, 1) := by decide +kernel
theorem dL_join_26 : decode cL_join 26 = .ok (.ireturn, 1) := by decide +kernel
theorem dL_join_27 : decode cL_join 27 = .ok (.iconst 0, 1) := by decide +kernel
theorem dL_join_28 : decode cL_join 28 = .ok (.ireturn, 1) := by decide +kernel
theorem dL_retie_0 : decode cL_retie 0 = .ok (.aload 4, 2) := by decide +kernel
theorem dL_retie_2 : decode cL_retie 2 = .ok (.iconst 0, 1) := by decide +kernel
theorem dL_retie_3 : decode cL_retie 3 = .ok (.aload_n 0, 1) := by decide +kernel
theorem dL_retie_4 : decode cL_retie 4 = .ok (.iload_n 1, 1) := by decide +kernel
theorem dL_retie_5 : decode cL_retie 5 = .ok (.iload_n 2, 1) := by decide +kernel
theorem dL_retie_6 : decode cL_retie 6 = .ok (.iload_n 3, 1) := by decide +kernel
theorem dL_retie_7 : decode cL_retie 7 = .ok (.invokevirtual 29, 3) := by decide +kernel
theorem dL_retie_10 : decode cL_retie 10 = .ok (.i2l, 1) := by decide +kernel
theorem dL_retie_11 : decode cL_retie 11 = .ok (.lastore, 1) := by decide +kernel
theorem dL_retie_12 : decode cL_retie 12 = .ok (.goto 11, 3) := by decide +kernel
theorem dL_retie_15 : decode cL_retie 15 = .ok (.astore 5, 2) := by decide +kernel
theorem dL_retie_17 : decode cL_retie 17 = .ok (.iconst 1, 1) := by decide +kernel
theorem dL_retie_18 : decode cL_retie 18 = .ok (.ireturn, 1) := by decide +kernel
theorem dL_retie_19 : decode cL_retie 19 = .ok (.astore 5, 2) := by decide +kernel
theorem dL_retie_21 : decode cL_retie 21 = .ok (.iconst 2, 1) := by decide +kernel
theorem dL_retie_22 : decode cL_retie 22 = .ok (.ireturn, 1) := by decide +kernel
theorem dL_retie_23 : decode cL_retie 23 = .ok (.iconst 0, 1) := by decide +kernel
theorem dL_retie_24 : decode cL_retie 24 = .ok (.ireturn, 1) := by decide +kernel
theorem dL_pull_0 : decode cL_pull 0 = .ok (.aload_n 3, 1) := by decide +kernel
theorem dL_pull_1 : decode cL_pull 1 = .ok (.iconst 0, 1) := by decide +kernel
theorem dL_pull_2 : decode cL_pull 2 = .ok (.aload_n 0, 1) := by decide +kernel
theorem dL_pull_3 : decode cL_pull 3 = .ok (.iload_n 1, 1) := by decide +kernel
theorem dL_pull_4 : decode cL_pull 4 = .ok (.iload_n 2, 1) := by decide +kernel
theorem dL_pull_5 : decode cL_pull 5 = .ok (.invokevirtual 32, 3) := by decide +kernel
theorem dL_pull_8 : decode cL_pull 8 = .ok (.i2l, 1) := by decide +kernel
theorem dL_pull_9 : decode cL_pull 9 = .ok (.lastore, 1) := by decide +kernel
theorem dL_pull_10 : decode cL_pull 10 = .ok (.goto 15, 3) := by decide +kernel
theorem dL_pull_13 : decode cL_pull 13 = .ok (.astore 4, 2) := by decide +kernel
theorem dL_pull_15 : decode cL_pull 15 = .ok (.iconst 1, 1) := by decide +kernel
theorem dL_pull_16 : decode cL_pull 16 = .ok (.ireturn, 1) := by decide +kernel
theorem dL_pull_17 : decode cL_pull 17 = .ok (.astore 4, 2) := by decide +kernel
theorem dL_pull_19 : decode cL_pull 19 = .ok (.iconst 2, 1) := by decide +kernel
theorem dL_pull_20 : decode cL_pull 20 = .ok (.ireturn, 1) := by decide +kernel
theorem dL_pull_21 : decode cL_pull 21 = .ok (.astore 4, 2) := by decide +kernel
theorem dL_pull_23 : decode cL_pull 23 = .ok (.iconst 3, 1) := by decide +kernel
theorem dL_pull_24 : decode cL_pull 24 = .ok (.ireturn, 1) := by decide +kernel
theorem dL_pull_25 : decode cL_pull 25 = .ok (.iconst 0, 1) := by decide +kernel
theorem dL_pull_26 : decode cL_pull 26 = .ok (.ireturn, 1) := by decide +kernel
theorem dL_knotsOf_0 : decode cL_knotsOf 0 = .ok (.aload_n 2, 1) := by decide +kernel
theorem dL_knotsOf_1 : decode cL_knotsOf 1 = .ok (.iconst 0, 1) := by decide +kernel
theorem dL_knotsOf_2 : decode cL_knotsOf 2 = .ok (.aload_n 0, 1) := by decide +kernel
theorem dL_knotsOf_3 : decode cL_knotsOf 3 = .ok (.iload_n 1, 1) := by decide +kernel
theorem dL_knotsOf_4 : decode cL_knotsOf 4 = .ok (.invokevirtual 35, 3) := by decide +kernel
theorem dL_knotsOf_7 : decode cL_knotsOf 7 = .ok (.i2l, 1) := by decide +kernel
theorem dL_knotsOf_8 : decode cL_knotsOf 8 = .ok (.lastore, 1) := by decide +kernel
theorem dL_knotsOf_9 : decode cL_knotsOf 9 = .ok (.goto 6, 3) := by decide +kernel
theorem dL_knotsOf_12 : decode cL_knotsOf 12 = .ok (.astore_n 3, 1) := by decide +kernel
theorem dL_knotsOf_13 : decode cL_knotsOf 13 = .ok (.iconst 1, 1) := by decide +kernel
theorem dL_knotsOf_14 : decode cL_knotsOf 14 = .ok (.ireturn, 1) := by decide +kernel
theorem dL_knotsOf_15 : decode cL_knotsOf 15 = .ok (.iconst 0, 1) := by decide +kernel
theorem dL_knotsOf_16 : decode cL_knotsOf 16 = .ok (.ireturn, 1) := by decide +kernel
theorem dL_kindOf_0 : decode cL_kindOf 0 = .ok (.aload_n 2, 1) := by decide +kernel
theorem dL_kindOf_1 : decode cL_kindOf 1 = .ok (.iconst 0, 1) := by decide +kernel
theorem dL_kindOf_2 : decode cL_kindOf 2 = .ok (.aload_n 0, 1) := by decide +kernel
theorem dL_kindOf_3 : decode cL_kindOf 3 = .ok (.iload_n 1, 1) := by decide +kernel
theorem dL_kindOf_4 : decode cL_kindOf 4 = .ok (.invokevirtual 39, 3) := by decide +kernel
theorem dL_kindOf_7 : decode cL_kindOf 7 = .ok (.i2l, 1) := by decide +kernel
theorem dL_kindOf_8 : decode cL_kindOf 8 = .ok (.lastore, 1) := by decide +kernel
theorem dL_kindOf_9 : decode cL_kindOf 9 = .ok (.goto 6, 3) := by decide +kernel
theorem dL_kindOf_12 : decode cL_kindOf 12 = .ok (.astore_n 3, 1) := by decide +kernel
theorem dL_kindOf_13 : decode cL_kindOf 13 = .ok (.iconst 1, 1) := by decide +kernel
theorem dL_kindOf_14 : decode cL_kindOf 14 = .ok (.ireturn, 1) := by decide +kernel
theorem dL_kindOf_15 : decode cL_kindOf 15 = .ok (.iconst 0, 1) := by decide +kernel
theorem dL_kindOf_16 : decode cL_kindOf 16 = .ok (.ireturn, 1) := by decide +kernel
theorem dL_efficiencyOf_0 : decode cL_efficiencyOf 0 = .ok (.aload_n 2, 1) := by decide +kernel
theorem dL_efficiencyOf_1 : decode cL_efficiencyOf 1 = .ok (.iconst 0, 1) := by decide +kernel
theorem dL_efficiencyOf_2 : decode cL_efficiencyOf 2 = .ok (.aload_n 0, 1) := by decide +kernel
theorem dL_efficiencyOf_3 : decode cL_efficiencyOf 3 = .ok (.iload_n 1, 1) := by decide +kernel
theorem dL_efficiencyOf_4 : decode cL_efficiencyOf 4 = .ok (.invokevirtual 42, 3) := by decide +kernel
theorem dL_efficiencyOf_7 : decode cL_efficiencyOf 7 = .ok (.i2l, 1) := by decide +kernel
theorem dL_efficiencyOf_8 : decode cL_efficiencyOf 8 = .ok (.lastore, 1) := by decide +kernel
theorem dL_efficiencyOf_9 : decode cL_efficiencyOf 9 = .ok (.goto 6, 3) := by decide +kernel
theorem dL_efficiencyOf_12 : decode cL_efficiencyOf 12 = .ok (.astore_n 3, 1) := by decide +kernel
theorem dL_efficiencyOf_13 : decode cL_efficiencyOf 13 = .ok (.iconst 1, 1) := by decide +kernel
theorem dL_efficiencyOf_14 : decode cL_efficiencyOf 14 = .ok (.ireturn, 1) := by decide +kernel
theorem dL_efficiencyOf_15 : decode cL_efficiencyOf 15 = .ok (.iconst 0, 1) := by decide +kernel
theorem dL_efficiencyOf_16 : decode cL_efficiencyOf 16 = .ok (.ireturn, 1) := by decide +kernel
theorem dL_crossingsOf_0 : decode cL_crossingsOf 0 = .ok (.aload_n 2, 1) := by decide +kernel
theorem dL_crossingsOf_1 : decode cL_crossingsOf 1 = .ok (.iconst 0, 1) := by decide +kernel
theorem dL_crossingsOf_2 : decode cL_crossingsOf 2 = .ok (.aload_n 0, 1) := by decide +kernel
theorem dL_crossingsOf_3 : decode cL_crossingsOf 3 = .ok (.iload_n 1, 1) := by decide +kernel
theorem dL_crossingsOf_4 : decode cL_crossingsOf 4 = .ok (.invokevirtual 45, 3) := by decide +kernel
theorem dL_crossingsOf_7 : decode cL_crossingsOf 7 = .ok (.i2l, 1) := by decide +kernel
theorem dL_crossingsOf_8 : decode cL_crossingsOf 8 = .ok (.lastore, 1) := by decide +kernel
theorem dL_crossingsOf_9 : decode cL_crossingsOf 9 = .ok (.goto 6, 3) := by decide +kernel
theorem dL_crossingsOf_12 : decode cL_crossingsOf 12 = .ok (.astore_n 3, 1) := by decide +kernel
theorem dL_crossingsOf_13 : decode cL_crossingsOf 13 = .ok (.iconst 1, 1) := by decide +kernel
theorem dL_crossingsOf_14 : decode cL_crossingsOf 14 = .ok (.ireturn, 1) := by decide +kernel
theorem dL_crossingsOf_15 : decode cL_crossingsOf 15 = .ok (.iconst 0, 1) := by decide +kernel
theorem dL_crossingsOf_16 : decode cL_crossingsOf 16 = .ok (.ireturn, 1) := by decide +kernel
theorem dL_spillsAt_0 : decode cL_spillsAt 0 = .ok (.aload_n 2, 1) := by decide +kernel
theorem dL_spillsAt_1 : decode cL_spillsAt 1 = .ok (.iconst 0, 1) := by decide +kernel
theorem dL_spillsAt_2 : decode cL_spillsAt 2 = .ok (.aload_n 0, 1) := by decide +kernel
theorem dL_spillsAt_3 : decode cL_spillsAt 3 = .ok (.iload_n 1, 1) := by decide +kernel
theorem dL_spillsAt_4 : decode cL_spillsAt 4 = .ok (.invokevirtual 48, 3) := by decide +kernel
theorem dL_spillsAt_7 : decode cL_spillsAt 7 = .ok (.i2l, 1) := by decide +kernel
theorem dL_spillsAt_8 : decode cL_spillsAt 8 = .ok (.lastore, 1) := by decide +kernel
theorem dL_spillsAt_9 : decode cL_spillsAt 9 = .ok (.goto 6, 3) := by decide +kernel
theorem dL_spillsAt_12 : decode cL_spillsAt 12 = .ok (.astore_n 3, 1) := by decide +kernel
theorem dL_spillsAt_13 : decode cL_spillsAt 13 = .ok (.iconst 1, 1) := by decide +kernel
theorem dL_spillsAt_14 : decode cL_spillsAt 14 = .ok (.ireturn, 1) := by decide +kernel
theorem dL_spillsAt_15 : decode cL_spillsAt 15 = .ok (.iconst 0, 1) := by decide +kernel
theorem dL_spillsAt_16 : decode cL_spillsAt 16 = .ok (.ireturn, 1) := by decide +kernel
theorem dL_spillsInto_0 : decode cL_spillsInto 0 = .ok (.aload_n 2, 1) := by decide +kernel
theorem dL_spillsInto_1 : decode cL_spillsInto 1 = .ok (.iconst 0, 1) := by decide +kernel
theorem dL_spillsInto_2 : decode cL_spillsInto 2 = .ok (.aload_n 0, 1) := by decide +kernel
theorem dL_spillsInto_3 : decode cL_spillsInto 3 = .ok (.iload_n 1, 1) := by decide +kernel
theorem dL_spillsInto_4 : decode cL_spillsInto 4 = .ok (.invokevirtual 51, 3) := by decide +kernel
theorem dL_spillsInto_7 : decode cL_spillsInto 7 = .ok (.i2l, 1) := by decide +kernel
theorem dL_spillsInto_8 : decode cL_spillsInto 8 = .ok (.lastore, 1) := by decide +kernel
theorem dL_spillsInto_9 : decode cL_spillsInto 9 = .ok (.goto 6, 3) := by decide +kernel
theorem dL_spillsInto_12 : decode cL_spillsInto 12 = .ok (.astore_n 3, 1) := by decide +kernel
theorem dL_spillsInto_13 : decode cL_spillsInto 13 = .ok (.iconst 1, 1) := by decide +kernel
theorem dL_spillsInto_14 : decode cL_spillsInto 14 = .ok (.ireturn, 1) := by decide +kernel
theorem dL_spillsInto_15 : decode cL_spillsInto 15 = .ok (.iconst 0, 1) := by decide +kernel
theorem dL_spillsInto_16 : decode cL_spillsInto 16 = .ok (.ireturn, 1) := by decide +kernel
theorem dL_rankOf_0 : decode cL_rankOf 0 = .ok (.aload_n 2, 1) := by decide +kernel
theorem dL_rankOf_1 : decode cL_rankOf 1 = .ok (.iconst 0, 1) := by decide +kernel
theorem dL_rankOf_2 : decode cL_rankOf 2 = .ok (.aload_n 0, 1) := by decide +kernel
theorem dL_rankOf_3 : decode cL_rankOf 3 = .ok (.iload_n 1, 1) := by decide +kernel
theorem dL_rankOf_4 : decode cL_rankOf 4 = .ok (.invokevirtual 54, 3) := by decide +kernel
theorem dL_rankOf_7 : decode cL_rankOf 7 = .ok (.i2l, 1) := by decide +kernel
theorem dL_rankOf_8 : decode cL_rankOf 8 = .ok (.lastore, 1) := by decide +kernel
theorem dL_rankOf_9 : decode cL_rankOf 9 = .ok (.goto 6, 3) := by decide +kernel
theorem dL_rankOf_12 : decode cL_rankOf 12 = .ok (.astore_n 3, 1) := by decide +kernel
theorem dL_rankOf_13 : decode cL_rankOf 13 = .ok (.iconst 1, 1) := by decide +kernel
theorem dL_rankOf_14 : decode cL_rankOf 14 = .ok (.ireturn, 1) := by decide +kernel
theorem dL_rankOf_15 : decode cL_rankOf 15 = .ok (.iconst 0, 1) := by decide +kernel
theorem dL_rankOf_16 : decode cL_rankOf 16 = .ok (.ireturn, 1) := by decide +kernel
theorem dL_knotAt_0 : decode cL_knotAt 0 = .ok (.aload_n 3, 1) := by decide +kernel
theorem dL_knotAt_1 : decode cL_knotAt 1 = .ok (.iconst 0, 1) := by decide +kernel
theorem dL_knotAt_2 : decode cL_knotAt 2 = .ok (.aload_n 0, 1) := by decide +kernel
theorem dL_knotAt_3 : decode cL_knotAt 3 = .ok (.iload_n 1, 1) := by decide +kernel
theorem dL_knotAt_4 : decode cL_knotAt 4 = .ok (.iload_n 2, 1) := by decide +kernel
theorem dL_knotAt_5 : decode cL_knotAt 5 = .ok (.invokevirtual 57, 3) := by decide +kernel
theorem dL_knotAt_8 : decode cL_knotAt 8 = .ok (.i2l, 1) := by decide +kernel
theorem dL_knotAt_9 : decode cL_knotAt 9 = .ok (.lastore, 1) := by decide +kernel
theorem dL_knotAt_10 : decode cL_knotAt 10 = .ok (.goto 7, 3) := by decide +kernel
theorem dL_knotAt_13 : decode cL_knotAt 13 = .ok (.astore 4, 2) := by decide +kernel
theorem dL_knotAt_15 : decode cL_knotAt 15 = .ok (.iconst 1, 1) := by decide +kernel
theorem dL_knotAt_16 : decode cL_knotAt 16 = .ok (.ireturn, 1) := by decide +kernel
theorem dL_knotAt_17 : decode cL_knotAt 17 = .ok (.iconst 0, 1) := by decide +kernel
theorem dL_knotAt_18 : decode cL_knotAt 18 = .ok (.ireturn, 1) := by decide +kernel
theorem dL_formOf_0 : decode cL_formOf 0 = .ok (.aload_n 3, 1) := by decide +kernel
theorem dL_formOf_1 : decode cL_formOf 1 = .ok (.iconst 0, 1) := by decide +kernel
theorem dL_formOf_2 : decode cL_formOf 2 = .ok (.aload_n 0, 1) := by decide +kernel
theorem dL_formOf_3 : decode cL_formOf 3 = .ok (.iload_n 1, 1) := by decide +kernel
theorem dL_formOf_4 : decode cL_formOf 4 = .ok (.iload_n 2, 1) := by decide +kernel
theorem dL_formOf_5 : decode cL_formOf 5 = .ok (.invokevirtual 60, 3) := by decide +kernel
theorem dL_formOf_8 : decode cL_formOf 8 = .ok (.i2l, 1) := by decide +kernel
theorem dL_formOf_9 : decode cL_formOf 9 = .ok (.lastore, 1) := by decide +kernel
theorem dL_formOf_10 : decode cL_formOf 10 = .ok (.goto 11, 3) := by decide +kernel
theorem dL_formOf_13 : decode cL_formOf 13 = .ok (.astore 4, 2) := by decide +kernel
theorem dL_formOf_15 : decode cL_formOf 15 = .ok (.iconst 1, 1) := by decide +kernel
theorem dL_formOf_16 : decode cL_formOf 16 = .ok (.ireturn, 1) := by decide +kernel
theorem dL_formOf_17 : decode cL_formOf 17 = .ok (.astore 4, 2) := by decide +kernel
theorem dL_formOf_19 : decode cL_formOf 19 = .ok (.iconst 2, 1) := by decide +kernel
theorem dL_formOf_20 : decode cL_formOf 20 = .ok (.ireturn, 1) := by decide +kernel
theorem dL_formOf_21 : decode cL_formOf 21 = .ok (.iconst 0, 1) := by decide +kernel
theorem dL_formOf_22 : decode cL_formOf 22 = .ok (.ireturn, 1) := by decide +kernel
theorem dL_spills_0 : decode cL_spills 0 = .ok (.aload_n 3, 1) := by decide +kernel
theorem dL_spills_1 : decode cL_spills 1 = .ok (.iconst 0, 1) := by decide +kernel
theorem dL_spills_2 : decode cL_spills 2 = .ok (.aload_n 0, 1) := by decide +kernel
theorem dL_spills_3 : decode cL_spills 3 = .ok (.iload_n 1, 1) := by decide +kernel
theorem dL_spills_4 : decode cL_spills 4 = .ok (.iload_n 2, 1) := by decide +kernel
theorem dL_spills_5 : decode cL_spills 5 = .ok (.invokevirtual 63, 3) := by decide +kernel
theorem dL_spills_8 : decode cL_spills 8 = .ok (.i2l, 1) := by decide +kernel
theorem dL_spills_9 : decode cL_spills 9 = .ok (.lastore, 1) := by decide +kernel
theorem dL_spills_10 : decode cL_spills 10 = .ok (.goto 11, 3) := by decide +kernel
theorem dL_spills_13 : decode cL_spills 13 = .ok (.astore 4, 2) := by decide +kernel
theorem dL_spills_15 : decode cL_spills 15 = .ok (.iconst 1, 1) := by decide +kernel
theorem dL_spills_16 : decode cL_spills 16 = .ok (.ireturn, 1) := by decide +kernel
theorem dL_spills_17 : decode cL_spills 17 = .ok (.astore 4, 2) := by decide +kernel
theorem dL_spills_19 : decode cL_spills 19 = .ok (.iconst 2, 1) := by decide +kernel
theorem dL_spills_20 : decode cL_spills 20 = .ok (.ireturn, 1) := by decide +kernel
theorem dL_spills_21 : decode cL_spills 21 = .ok (.iconst 0, 1) := by decide +kernel
theorem dL_spills_22 : decode cL_spills 22 = .ok (.ireturn, 1) := by decide +kernel
theorem dL_fallsApartAt_0 : decode cL_fallsApartAt 0 = .ok (.aload_n 2, 1) := by decide +kernel
theorem dL_fallsApartAt_1 : decode cL_fallsApartAt 1 = .ok (.iconst 0, 1) := by decide +kernel
theorem dL_fallsApartAt_2 : decode cL_fallsApartAt 2 = .ok (.aload_n 0, 1) := by decide +kernel
theorem dL_fallsApartAt_3 : decode cL_fallsApartAt 3 = .ok (.iload_n 1, 1) := by decide +kernel
theorem dL_fallsApartAt_4 : decode cL_fallsApartAt 4 = .ok (.invokevirtual 66, 3) := by decide +kernel
theorem dL_fallsApartAt_7 : decode cL_fallsApartAt 7 = .ok (.i2l, 1) := by decide +kernel
theorem dL_fallsApartAt_8 : decode cL_fallsApartAt 8 = .ok (.lastore, 1) := by decide +kernel
theorem dL_fallsApartAt_9 : decode cL_fallsApartAt 9 = .ok (.goto 6, 3) := by decide +kernel
theorem dL_fallsApartAt_12 : decode cL_fallsApartAt 12 = .ok (.astore_n 3, 1) := by decide +kernel
theorem dL_fallsApartAt_13 : decode cL_fallsApartAt 13 = .ok (.iconst 1, 1) := by decide +kernel
theorem dL_fallsApartAt_14 : decode cL_fallsApartAt 14 = .ok (.ireturn, 1) := by decide +kernel
theorem dL_fallsApartAt_15 : decode cL_fallsApartAt 15 = .ok (.iconst 0, 1) := by decide +kernel
theorem dL_fallsApartAt_16 : decode cL_fallsApartAt 16 = .ok (.ireturn, 1) := by decide +kernel
theorem dL_ropesOf_0 : decode cL_ropesOf 0 = .ok (.aload_n 2, 1) := by decide +kernel
theorem dL_ropesOf_1 : decode cL_ropesOf 1 = .ok (.iconst 0, 1) := by decide +kernel
theorem dL_ropesOf_2 : decode cL_ropesOf 2 = .ok (.aload_n 0, 1) := by decide +kernel
theorem dL_ropesOf_3 : decode cL_ropesOf 3 = .ok (.iload_n 1, 1) := by decide +kernel
theorem dL_ropesOf_4 : decode cL_ropesOf 4 = .ok (.invokevirtual 69, 3) := by decide +kernel
theorem dL_ropesOf_7 : decode cL_ropesOf 7 = .ok (.i2l, 1) := by decide +kernel
theorem dL_ropesOf_8 : decode cL_ropesOf 8 = .ok (.lastore, 1) := by decide +kernel
theorem dL_ropesOf_9 : decode cL_ropesOf 9 = .ok (.goto 6, 3) := by decide +kernel
theorem dL_ropesOf_12 : decode cL_ropesOf 12 = .ok (.astore_n 3, 1) := by decide +kernel
theorem dL_ropesOf_13 : decode cL_ropesOf 13 = .ok (.iconst 1, 1) := by decide +kernel
theorem dL_ropesOf_14 : decode cL_ropesOf 14 = .ok (.ireturn, 1) := by decide +kernel
theorem dL_ropesOf_15 : decode cL_ropesOf 15 = .ok (.iconst 0, 1) := by decide +kernel
theorem dL_ropesOf_16 : decode cL_ropesOf 16 = .ok (.ireturn, 1) := by decide +kernel
theorem dL_knotOf_0 : decode cL_knotOf 0 = .ok (.aload_n 3, 1) := by decide +kernel
theorem dL_knotOf_1 : decode cL_knotOf 1 = .ok (.iconst 0, 1) := by decide +kernel
theorem dL_knotOf_2 : decode cL_knotOf 2 = .ok (.aload_n 0, 1) := by decide +kernel
theorem dL_knotOf_3 : decode cL_knotOf 3 = .ok (.iload_n 1, 1) := by decide +kernel
theorem dL_knotOf_4 : decode cL_knotOf 4 = .ok (.iload_n 2, 1) := by decide +kernel
theorem dL_knotOf_5 : decode cL_knotOf 5 = .ok (.invokevirtual 72, 3) := by decide +kernel
theorem dL_knotOf_8 : decode cL_knotOf 8 = .ok (.i2l, 1) := by decide +kernel
theorem dL_knotOf_9 : decode cL_knotOf 9 = .ok (.lastore, 1) := by decide +kernel
theorem dL_knotOf_10 : decode cL_knotOf 10 = .ok (.goto 7, 3) := by decide +kernel
theorem dL_knotOf_13 : decode cL_knotOf 13 = .ok (.astore 4, 2) := by decide +kernel
theorem dL_knotOf_15 : decode cL_knotOf 15 = .ok (.iconst 1, 1) := by decide +kernel
theorem dL_knotOf_16 : decode cL_knotOf 16 = .ok (.ireturn, 1) := by decide +kernel
theorem dL_knotOf_17 : decode cL_knotOf 17 = .ok (.iconst 0, 1) := by decide +kernel
theorem dL_knotOf_18 : decode cL_knotOf 18 = .ok (.ireturn, 1) := by decide +kernel
theorem dL_strengthAt_0 : decode cL_strengthAt 0 = .ok (.aload_n 3, 1) := by decide +kernel
theorem dL_strengthAt_1 : decode cL_strengthAt 1 = .ok (.iconst 0, 1) := by decide +kernel
theorem dL_strengthAt_2 : decode cL_strengthAt 2 = .ok (.aload_n 0, 1) := by decide +kernel
theorem dL_strengthAt_3 : decode cL_strengthAt 3 = .ok (.iload_n 1, 1) := by decide +kernel
theorem dL_strengthAt_4 : decode cL_strengthAt 4 = .ok (.iload_n 2, 1) := by decide +kernel
theorem dL_strengthAt_5 : decode cL_strengthAt 5 = .ok (.invokevirtual 75, 3) := by decide +kernel
theorem dL_strengthAt_8 : decode cL_strengthAt 8 = .ok (.i2l, 1) := by decide +kernel
theorem dL_strengthAt_9 : decode cL_strengthAt 9 = .ok (.lastore, 1) := by decide +kernel
theorem dL_strengthAt_10 : decode cL_strengthAt 10 = .ok (.goto 7, 3) := by decide +kernel
theorem dL_strengthAt_13 : decode cL_strengthAt 13 = .ok (.astore 4, 2) := by decide +kernel
theorem dL_strengthAt_15 : decode cL_strengthAt 15 = .ok (.iconst 1, 1) := by decide +kernel
theorem dL_strengthAt_16 : decode cL_strengthAt 16 = .ok (.ireturn, 1) := by decide +kernel
theorem dL_strengthAt_17 : decode cL_strengthAt 17 = .ok (.iconst 0, 1) := by decide +kernel
theorem dL_strengthAt_18 : decode cL_strengthAt 18 = .ok (.ireturn, 1) := by decide +kernel
theorem dL_weakestPlace_0 : decode cL_weakestPlace 0 = .ok (.aload_n 2, 1) := by decide +kernel
theorem dL_weakestPlace_1 : decode cL_weakestPlace 1 = .ok (.iconst 0, 1) := by decide +kernel
theorem dL_weakestPlace_2 : decode cL_weakestPlace 2 = .ok (.aload_n 0, 1) := by decide +kernel
theorem dL_weakestPlace_3 : decode cL_weakestPlace 3 = .ok (.iload_n 1, 1) := by decide +kernel
theorem dL_weakestPlace_4 : decode cL_weakestPlace 4 = .ok (.invokevirtual 78, 3) := by decide +kernel
theorem dL_weakestPlace_7 : decode cL_weakestPlace 7 = .ok (.i2l, 1) := by decide +kernel
theorem dL_weakestPlace_8 : decode cL_weakestPlace 8 = .ok (.lastore, 1) := by decide +kernel
theorem dL_weakestPlace_9 : decode cL_weakestPlace 9 = .ok (.goto 6, 3) := by decide +kernel
theorem dL_weakestPlace_12 : decode cL_weakestPlace 12 = .ok (.astore_n 3, 1) := by decide +kernel
theorem dL_weakestPlace_13 : decode cL_weakestPlace 13 = .ok (.iconst 1, 1) := by decide +kernel
theorem dL_weakestPlace_14 : decode cL_weakestPlace 14 = .ok (.ireturn, 1) := by decide +kernel
theorem dL_weakestPlace_15 : decode cL_weakestPlace 15 = .ok (.iconst 0, 1) := by decide +kernel
theorem dL_weakestPlace_16 : decode cL_weakestPlace 16 = .ok (.ireturn, 1) := by decide +kernel
theorem dL_holds_0 : decode cL_holds 0 = .ok (.aload_n 3, 1) := by decide +kernel
theorem dL_holds_1 : decode cL_holds 1 = .ok (.iconst 0, 1) := by decide +kernel
theorem dL_holds_2 : decode cL_holds 2 = .ok (.aload_n 0, 1) := by decide +kernel
theorem dL_holds_3 : decode cL_holds 3 = .ok (.iload_n 1, 1) := by decide +kernel
theorem dL_holds_4 : decode cL_holds 4 = .ok (.iload_n 2, 1) := by decide +kernel
theorem dL_holds_5 : decode cL_holds 5 = .ok (.invokevirtual 81, 3) := by decide +kernel
theorem dL_holds_8 : decode cL_holds 8 = .ok (.ifCond .eq 7, 3) := by decide +kernel
theorem dL_holds_11 : decode cL_holds 11 = .ok (.lconst 1, 1) := by decide +kernel
theorem dL_holds_12 : decode cL_holds 12 = .ok (.goto 4, 3) := by decide +kernel
theorem dL_holds_15 : decode cL_holds 15 = .ok (.lconst 0, 1) := by decide +kernel
theorem dL_holds_16 : decode cL_holds 16 = .ok (.lastore, 1) := by decide +kernel
theorem dL_holds_17 : decode cL_holds 17 = .ok (.goto 11, 3) := by decide +kernel
theorem dL_holds_20 : decode cL_holds 20 = .ok (.astore 4, 2) := by decide +kernel
theorem dL_holds_22 : decode cL_holds 22 = .ok (.iconst 1, 1) := by decide +kernel
theorem dL_holds_23 : decode cL_holds 23 = .ok (.ireturn, 1) := by decide +kernel
theorem dL_holds_24 : decode cL_holds 24 = .ok (.astore 4, 2) := by decide +kernel
theorem dL_holds_26 : decode cL_holds 26 = .ok (.iconst 2, 1) := by decide +kernel
theorem dL_holds_27 : decode cL_holds 27 = .ok (.ireturn, 1) := by decide +kernel
theorem dL_holds_28 : decode cL_holds 28 = .ok (.iconst 0, 1) := by decide +kernel
theorem dL_holds_29 : decode cL_holds 29 = .ok (.ireturn, 1) := by decide +kernel
theorem dL_holdsUpTo_0 : decode cL_holdsUpTo 0 = .ok (.aload_n 2, 1) := by decide +kernel
theorem dL_holdsUpTo_1 : decode cL_holdsUpTo 1 = .ok (.iconst 0, 1) := by decide +kernel
theorem dL_holdsUpTo_2 : decode cL_holdsUpTo 2 = .ok (.aload_n 0, 1) := by decide +kernel
theorem dL_holdsUpTo_3 : decode cL_holdsUpTo 3 = .ok (.iload_n 1, 1) := by decide +kernel
theorem dL_holdsUpTo_4 : decode cL_holdsUpTo 4 = .ok (.invokevirtual 85, 3) := by decide +kernel
theorem dL_holdsUpTo_7 : decode cL_holdsUpTo 7 = .ok (.i2l, 1) := by decide +kernel
theorem dL_holdsUpTo_8 : decode cL_holdsUpTo 8 = .ok (.lastore, 1) := by decide +kernel
theorem dL_holdsUpTo_9 : decode cL_holdsUpTo 9 = .ok (.goto 6, 3) := by decide +kernel
theorem dL_holdsUpTo_12 : decode cL_holdsUpTo 12 = .ok (.astore_n 3, 1) := by decide +kernel
theorem dL_holdsUpTo_13 : decode cL_holdsUpTo 13 = .ok (.iconst 1, 1) := by decide +kernel
theorem dL_holdsUpTo_14 : decode cL_holdsUpTo 14 = .ok (.ireturn, 1) := by decide +kernel
theorem dL_holdsUpTo_15 : decode cL_holdsUpTo 15 = .ok (.iconst 0, 1) := by decide +kernel
theorem dL_holdsUpTo_16 : decode cL_holdsUpTo 16 = .ok (.ireturn, 1) := by decide +kernel
theorem dL_wouldGiveWay_0 : decode cL_wouldGiveWay 0 = .ok (.aload_n 3, 1) := by decide +kernel
theorem dL_wouldGiveWay_1 : decode cL_wouldGiveWay 1 = .ok (.iconst 0, 1) := by decide +kernel
theorem dL_wouldGiveWay_2 : decode cL_wouldGiveWay 2 = .ok (.aload_n 0, 1) := by decide +kernel
theorem dL_wouldGiveWay_3 : decode cL_wouldGiveWay 3 = .ok (.iload_n 1, 1) := by decide +kernel
theorem dL_wouldGiveWay_4 : decode cL_wouldGiveWay 4 = .ok (.iload_n 2, 1) := by decide +kernel
theorem dL_wouldGiveWay_5 : decode cL_wouldGiveWay 5 = .ok (.invokevirtual 88, 3) := by decide +kernel
theorem dL_wouldGiveWay_8 : decode cL_wouldGiveWay 8 = .ok (.i2l, 1) := by decide +kernel
theorem dL_wouldGiveWay_9 : decode cL_wouldGiveWay 9 = .ok (.lastore, 1) := by decide +kernel
theorem dL_wouldGiveWay_10 : decode cL_wouldGiveWay 10 = .ok (.goto 11, 3) := by decide +kernel
theorem dL_wouldGiveWay_13 : decode cL_wouldGiveWay 13 = .ok (.astore 4, 2) := by decide +kernel
theorem dL_wouldGiveWay_15 : decode cL_wouldGiveWay 15 = .ok (.iconst 1, 1) := by decide +kernel
theorem dL_wouldGiveWay_16 : decode cL_wouldGiveWay 16 = .ok (.ireturn, 1) := by decide +kernel
theorem dL_wouldGiveWay_17 : decode cL_wouldGiveWay 17 = .ok (.astore 4, 2) := by decide +kernel
theorem dL_wouldGiveWay_19 : decode cL_wouldGiveWay 19 = .ok (.iconst 2, 1) := by decide +kernel
theorem dL_wouldGiveWay_20 : decode cL_wouldGiveWay 20 = .ok (.ireturn, 1) := by decide +kernel
theorem dL_wouldGiveWay_21 : decode cL_wouldGiveWay 21 = .ok (.iconst 0, 1) := by decide +kernel
theorem dL_wouldGiveWay_22 : decode cL_wouldGiveWay 22 = .ok (.ireturn, 1) := by decide +kernel
theorem dL_bestKnot_0 : decode cL_bestKnot 0 = .ok (.aload_n 3, 1) := by decide +kernel
theorem dL_bestKnot_1 : decode cL_bestKnot 1 = .ok (.iconst 0, 1) := by decide +kernel
theorem dL_bestKnot_2 : decode cL_bestKnot 2 = .ok (.aload_n 0, 1) := by decide +kernel
theorem dL_bestKnot_3 : decode cL_bestKnot 3 = .ok (.iload_n 1, 1) := by decide +kernel
theorem dL_bestKnot_4 : decode cL_bestKnot 4 = .ok (.iload_n 2, 1) := by decide +kernel
theorem dL_bestKnot_5 : decode cL_bestKnot 5 = .ok (.invokevirtual 91, 3) := by decide +kernel
theorem dL_bestKnot_8 : decode cL_bestKnot 8 = .ok (.i2l, 1) := by decide +kernel
theorem dL_bestKnot_9 : decode cL_bestKnot 9 = .ok (.lastore, 1) := by decide +kernel
theorem dL_bestKnot_10 : decode cL_bestKnot 10 = .ok (.goto 7, 3) := by decide +kernel
theorem dL_bestKnot_13 : decode cL_bestKnot 13 = .ok (.astore 4, 2) := by decide +kernel
theorem dL_bestKnot_15 : decode cL_bestKnot 15 = .ok (.iconst 1, 1) := by decide +kernel
theorem dL_bestKnot_16 : decode cL_bestKnot 16 = .ok (.ireturn, 1) := by decide +kernel
theorem dL_bestKnot_17 : decode cL_bestKnot 17 = .ok (.iconst 0, 1) := by decide +kernel
theorem dL_bestKnot_18 : decode cL_bestKnot 18 = .ok (.ireturn, 1) := by decide +kernel

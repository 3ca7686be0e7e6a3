theorem dX1_init_0 : decode cX1_init 0 = .ok (.aload_n 0, 1) := by decide +kernel
theorem dX1_init_1 : decode cX1_init 1 = .ok (.invokespecial 1, 3) := by decide +kernel
theorem dX1_init_4 : decode cX1_init 4 = .ok (.aload_n 0, 1) := by decide +kernel
theorem dX1_init_5 : decode cX1_init 5 = .ok (.bipush 16, 2) := by decide +kernel
theorem dX1_init_7 : decode cX1_init 7 = .ok (.newarray .int, 2) := by decide +kernel
theorem dX1_init_9 : decode cX1_init 9 = .ok (.putfield 9, 3) := by decide +kernel
theorem dX1_init_12 : decode cX1_init 12 = .ok (.aload_n 0, 1) := by decide +kernel
theorem dX1_init_13 : decode cX1_init 13 = .ok (.bipush 16, 2) := by decide +kernel
theorem dX1_init_15 : decode cX1_init 15 = .ok (.newarray .int, 2) := by decide +kernel
theorem dX1_init_17 : decode cX1_init 17 = .ok (.putfield 13, 3) := by decide +kernel
theorem dX1_init_20 : decode cX1_init 20 = .ok (.aload_n 0, 1) := by decide +kernel
theorem dX1_init_21 : decode cX1_init 21 = .ok (.bipush 16, 2) := by decide +kernel
theorem dX1_init_23 : decode cX1_init 23 = .ok (.newarray .int, 2) := by decide +kernel
theorem dX1_init_25 : decode cX1_init 25 = .ok (.putfield 16, 3) := by decide +kernel
theorem dX1_init_28 : decode cX1_init 28 = .ok (.aload_n 0, 1) := by decide +kernel
theorem dX1_init_29 : decode cX1_init 29 = .ok (.bipush 16, 2) := by decide +kernel
theorem dX1_init_31 : decode cX1_init 31 = .ok (.newarray .int, 2) := by decide +kernel
theorem dX1_init_33 : decode cX1_init 33 = .ok (.putfield 19, 3) := by decide +kernel
theorem dX1_init_36 : decode cX1_init 36 = .ok (.aload_n 0, 1) := by decide +kernel
theorem dX1_init_37 : decode cX1_init 37 = .ok (.bipush 16, 2) := by decide +kernel
theorem dX1_init_39 : decode cX1_init 39 = .ok (.newarray .int, 2) := by decide +kernel
theorem dX1_init_41 : decode cX1_init 41 = .ok (.putfield 22, 3) := by decide +kernel
theorem dX1_init_44 : decode cX1_init 44 = .ok (.aload_n 0, 1) := by decide +kernel
theorem dX1_init_45 : decode cX1_init 45 = .ok (.bipush 6, 2) := by decide +kernel
theorem dX1_init_47 : decode cX1_init 47 = .ok (.newarray .int, 2) := by decide +kernel
theorem dX1_init_49 : decode cX1_init 49 = .ok (.putfield 25, 3) := by decide +kernel
theorem dX1_init_52 : decode cX1_init 52 = .ok (.aload_n 0, 1) := by decide +kernel
theorem dX1_init_53 : decode cX1_init 53 = .ok (.bipush 30, 2) := by decide +kernel
theorem dX1_init_55 : decode cX1_init 55 = .ok (.newarray .int, 2) := by decide +kernel
theorem dX1_init_57 : decode cX1_init 57 = .ok (.putfield 28, 3) := by decide +kernel
theorem dX1_init_60 : decode cX1_init 60 = .ok (.aload_n 0, 1) := by decide +kernel
theorem dX1_init_61 : decode cX1_init 61 = .ok (.bipush 30, 2) := by decide +kernel
theorem dX1_init_63 : decode cX1_init 63 = .ok (.newarray .int, 2) := by decide +kernel
theorem dX1_init_65 : decode cX1_init 65 = .ok (.putfield 31, 3) := by decide +kernel
theorem dX1_init_68 : decode cX1_init 68 = .ok (.return_, 1) := by decide +kernel
theorem dX1_thrown_0 : decode cX1_thrown 0 = .ok (.aload_n 0, 1) := by decide +kernel
theorem dX1_thrown_1 : decode cX1_thrown 1 = .ok (.getfield 34, 3) := by decide +kernel
theorem dX1_thrown_4 : decode cX1_thrown 4 = .ok (.ireturn, 1) := by decide +kernel
theorem dX1_no_0 : decode cX1_no 0 = .ok (.aload_n 0, 1) := by decide +kernel
theorem dX1_no_1 : decode cX1_no 1 = .ok (.iload_n 1, 1) := by decide +kernel
theorem dX1_no_2 : decode cX1_no 2 = .ok (.putfield 34, 3) := by decide +kernel
theorem dX1_no_5 : decode cX1_no 5 = .ok (.iconst 0, 1) := by decide +kernel
theorem dX1_no_6 : decode cX1_no 6 = .ok (.ireturn, 1) := by decide +kernel
theorem dX1_ok_0 : decode cX1_ok 0 = .ok (.aload_n 0, 1) := by decide +kernel
theorem dX1_ok_1 : decode cX1_ok 1 = .ok (.iconst 0, 1) := by decide +kernel
theorem dX1_ok_2 : decode cX1_ok 2 = .ok (.putfield 34, 3) := by decide +kernel
theorem dX1_ok_5 : decode cX1_ok 5 = .ok (.iload_n 1, 1) := by decide +kernel
theorem dX1_ok_6 : decode cX1_ok 6 = .ok (.ireturn, 1) := by decide +kernel
theorem dX1_isIn_0 : decode cX1_isIn 0 = .ok (.iload_n 0, 1) := by decide +kernel
theorem dX1_isIn_1 : decode cX1_isIn 1 = .ok (.iload_n 1, 1) := by decide +kernel
theorem dX1_isIn_2 : decode cX1_isIn 2 = .ok (.if_icmp .lt 12, 3) := by decide +kernel
theorem dX1_isIn_5 : decode cX1_isIn 5 = .ok (.iload_n 0, 1) := by decide +kernel
theorem dX1_isIn_6 : decode cX1_isIn 6 = .ok (.iload_n 2, 1) := by decide +kernel
theorem dX1_isIn_7 : decode cX1_isIn 7 = .ok (.if_icmp .gt 7, 3) := by decide +kernel
theorem dX1_isIn_10 : decode cX1_isIn 10 = .ok (.iconst 1, 1) := by decide +kernel
theorem dX1_isIn_11 : decode cX1_isIn 11 = .ok (.goto 4, 3) := by decide +kernel
theorem dX1_isIn_14 : decode cX1_isIn 14 = .ok (.iconst 0, 1) := by decide +kernel
theorem dX1_isIn_15 : decode cX1_isIn 15 = .ok (.ireturn, 1) := by decide +kernel
theorem dX1_isKnot_0 : decode cX1_isKnot 0 = .ok (.iload_n 1, 1) := by decide +kernel
theorem dX1_isKnot_1 : decode cX1_isKnot 1 = .ok (.iconst 0, 1) := by decide +kernel
theorem dX1_isKnot_2 : decode cX1_isKnot 2 = .ok (.aload_n 0, 1) := by decide +kernel
theorem dX1_isKnot_3 : decode cX1_isKnot 3 = .ok (.getfield 38, 3) := by decide +kernel
theorem dX1_isKnot_6 : decode cX1_isKnot 6 = .ok (.iconst 1, 1) := by decide +kernel
theorem dX1_isKnot_7 : decode cX1_isKnot 7 = .ok (.isub, 1) := by decide +kernel
theorem dX1_isKnot_8 : decode cX1_isKnot 8 = .ok (.invokestatic 41, 3) := by decide +kernel
theorem dX1_isKnot_11 : decode cX1_isKnot 11 = .ok (.ireturn, 1) := by decide +kernel
theorem dX1_isLine_0 : decode cX1_isLine 0 = .ok (.iload_n 1, 1) := by decide +kernel
theorem dX1_isLine_1 : decode cX1_isLine 1 = .ok (.iconst 0, 1) := by decide +kernel
theorem dX1_isLine_2 : decode cX1_isLine 2 = .ok (.aload_n 0, 1) := by decide +kernel
theorem dX1_isLine_3 : decode cX1_isLine 3 = .ok (.getfield 45, 3) := by decide +kernel
theorem dX1_isLine_6 : decode cX1_isLine 6 = .ok (.iconst 1, 1) := by decide +kernel
theorem dX1_isLine_7 : decode cX1_isLine 7 = .ok (.isub, 1) := by decide +kernel
theorem dX1_isLine_8 : decode cX1_isLine 8 = .ok (.invokestatic 41, 3) := by decide +kernel
theorem dX1_isLine_11 : decode cX1_isLine 11 = .ok (.ireturn, 1) := by decide +kernel
theorem dX1_isPlace_0 : decode cX1_isPlace 0 = .ok (.aload_n 0, 1) := by decide +kernel
theorem dX1_isPlace_1 : decode cX1_isPlace 1 = .ok (.iload_n 1, 1) := by decide +kernel
theorem dX1_isPlace_2 : decode cX1_isPlace 2 = .ok (.invokevirtual 48, 3) := by decide +kernel
theorem dX1_isPlace_5 : decode cX1_isPlace 5 = .ok (.ifCond .eq 23, 3) := by decide +kernel
theorem dX1_isPlace_8 : decode cX1_isPlace 8 = .ok (.iload_n 2, 1) := by decide +kernel
theorem dX1_isPlace_9 : decode cX1_isPlace 9 = .ok (.iconst 0, 1) := by decide +kernel
theorem dX1_isPlace_10 : decode cX1_isPlace 10 = .ok (.aload_n 0, 1) := by decide +kernel
theorem dX1_isPlace_11 : decode cX1_isPlace 11 = .ok (.getfield 25, 3) := by decide +kernel
theorem dX1_isPlace_14 : decode cX1_isPlace 14 = .ok (.iload_n 1, 1) := by decide +kernel
theorem dX1_isPlace_15 : decode cX1_isPlace 15 = .ok (.iaload, 1) := by decide +kernel
theorem dX1_isPlace_16 : decode cX1_isPlace 16 = .ok (.iconst 1, 1) := by decide +kernel
theorem dX1_isPlace_17 : decode cX1_isPlace 17 = .ok (.isub, 1) := by decide +kernel
theorem dX1_isPlace_18 : decode cX1_isPlace 18 = .ok (.invokestatic 41, 3) := by decide +kernel
theorem dX1_isPlace_21 : decode cX1_isPlace 21 = .ok (.ifCond .eq 7, 3) := by decide +kernel
theorem dX1_isPlace_24 : decode cX1_isPlace 24 = .ok (.iconst 1, 1) := by decide +kernel
theorem dX1_isPlace_25 : decode cX1_isPlace 25 = .ok (.goto 4, 3) := by decide +kernel
theorem dX1_isPlace_28 : decode cX1_isPlace 28 = .ok (.iconst 0, 1) := by decide +kernel
theorem dX1_isPlace_29 : decode cX1_isPlace 29 = .ok (.ireturn, 1) := by decide +kernel
theorem dX1_isLoad_0 : decode cX1_isLoad 0 = .ok (.iload_n 0, 1) := by decide +kernel
theorem dX1_isLoad_1 : decode cX1_isLoad 1 = .ok (.iconst 1, 1) := by decide +kernel
theorem dX1_isLoad_2 : decode cX1_isLoad 2 = .ok (.sipush 999, 3) := by decide +kernel
theorem dX1_isLoad_5 : decode cX1_isLoad 5 = .ok (.invokestatic 41, 3) := by decide +kernel
theorem dX1_isLoad_8 : decode cX1_isLoad 8 = .ok (.ireturn, 1) := by decide +kernel
theorem dX1_kindAt_0 : decode cX1_kindAt 0 = .ok (.iload_n 0, 1) := by decide +kernel
theorem dX1_kindAt_1 : decode cX1_kindAt 1 = .ok (.ifCond .ne 7, 3) := by decide +kernel
theorem dX1_kindAt_4 : decode cX1_kindAt 4 = .ok (.iconst 1, 1) := by decide +kernel
theorem dX1_kindAt_5 : decode cX1_kindAt 5 = .ok (.goto 4, 3) := by decide +kernel
theorem dX1_kindAt_8 : decode cX1_kindAt 8 = .ok (.iconst 0, 1) := by decide +kernel
theorem dX1_kindAt_9 : decode cX1_kindAt 9 = .ok (.ireturn, 1) := by decide +kernel
theorem dX1_goes_0 : decode cX1_goes 0 = .ok (.aload_n 0, 1) := by decide +kernel
theorem dX1_goes_1 : decode cX1_goes 1 = .ok (.getfield 19, 3) := by decide +kernel
theorem dX1_goes_4 : decode cX1_goes 4 = .ok (.iload_n 1, 1) := by decide +kernel
theorem dX1_goes_5 : decode cX1_goes 5 = .ok (.iaload, 1) := by decide +kernel
theorem dX1_goes_6 : decode cX1_goes 6 = .ok (.ifCond .le 17, 3) := by decide +kernel
theorem dX1_goes_9 : decode cX1_goes 9 = .ok (.aload_n 0, 1) := by decide +kernel
theorem dX1_goes_10 : decode cX1_goes 10 = .ok (.getfield 19, 3) := by decide +kernel
theorem dX1_goes_13 : decode cX1_goes 13 = .ok (.iload_n 1, 1) := by decide +kernel
theorem dX1_goes_14 : decode cX1_goes 14 = .ok (.iaload, 1) := by decide +kernel
theorem dX1_goes_15 : decode cX1_goes 15 = .ok (.iload_n 2, 1) := by decide +kernel
theorem dX1_goes_16 : decode cX1_goes 16 = .ok (.if_icmp .gt 7, 3) := by decide +kernel
theorem dX1_goes_19 : decode cX1_goes 19 = .ok (.iconst 1, 1) := by decide +kernel
theorem dX1_goes_20 : decode cX1_goes 20 = .ok (.goto 4, 3) := by decide +kernel
theorem dX1_goes_23 : decode cX1_goes 23 = .ok (.iconst 0, 1) := by decide +kernel
theorem dX1_goes_24 : decode cX1_goes 24 = .ok (.ireturn, 1) := by decide +kernel
theorem dX1_form_0 : decode cX1_form 0 = .ok (.iload_n 1, 1) := by decide +kernel
theorem dX1_form_1 : decode cX1_form 1 = .ok (.istore_n 3, 1) := by decide +kernel
theorem dX1_form_2 : decode cX1_form 2 = .ok (.iload_n 3, 1) := by decide +kernel
theorem dX1_form_3 : decode cX1_form 3 = .ok (.iconst (-1), 1) := by decide +kernel
theorem dX1_form_4 : decode cX1_form 4 = .ok (.if_icmp .eq 22, 3) := by decide +kernel
theorem dX1_form_7 : decode cX1_form 7 = .ok (.aload_n 0, 1) := by decide +kernel
theorem dX1_form_8 : decode cX1_form 8 = .ok (.iload_n 3, 1) := by decide +kernel
theorem dX1_form_9 : decode cX1_form 9 = .ok (.iload_n 2, 1) := by decide +kernel
theorem dX1_form_10 : decode cX1_form 10 = .ok (.invokevirtual 52, 3) := by decide +kernel
theorem dX1_form_13 : decode cX1_form 13 = .ok (.ifCond .eq 13, 3) := by decide +kernel
theorem dX1_form_16 : decode cX1_form 16 = .ok (.aload_n 0, 1) := by decide +kernel
theorem dX1_form_17 : decode cX1_form 17 = .ok (.getfield 22, 3) := by decide +kernel
theorem dX1_form_20 : decode cX1_form 20 = .ok (.iload_n 3, 1) := by decide +kernel
theorem dX1_form_21 : decode cX1_form 21 = .ok (.iaload, 1) := by decide +kernel
theorem dX1_form_22 : decode cX1_form 22 = .ok (.istore_n 3, 1) := by decide +kernel
theorem dX1_form_23 : decode cX1_form 23 = .ok (.goto (-21), 3) := by decide +kernel
theorem dX1_form_26 : decode cX1_form 26 = .ok (.iload_n 3, 1) := by decide +kernel
theorem dX1_form_27 : decode cX1_form 27 = .ok (.ireturn, 1) := by decide +kernel
theorem dX1_often_0 : decode cX1_often 0 = .ok (.iconst 0, 1) := by decide +kernel
theorem dX1_often_1 : decode cX1_often 1 = .ok (.istore_n 3, 1) := by decide +kernel
theorem dX1_often_2 : decode cX1_often 2 = .ok (.iload_n 1, 1) := by decide +kernel
theorem dX1_often_3 : decode cX1_often 3 = .ok (.istore 4, 2) := by decide +kernel
theorem dX1_often_5 : decode cX1_often 5 = .ok (.iload 4, 2) := by decide +kernel
theorem dX1_often_7 : decode cX1_often 7 = .ok (.iconst (-1), 1) := by decide +kernel
theorem dX1_often_8 : decode cX1_often 8 = .ok (.if_icmp .eq 28, 3) := by decide +kernel
theorem dX1_often_11 : decode cX1_often 11 = .ok (.aload_n 0, 1) := by decide +kernel
theorem dX1_often_12 : decode cX1_often 12 = .ok (.iload 4, 2) := by decide +kernel
theorem dX1_often_14 : decode cX1_often 14 = .ok (.iload_n 2, 1) := by decide +kernel
theorem dX1_often_15 : decode cX1_often 15 = .ok (.invokevirtual 52, 3) := by decide +kernel
theorem dX1_often_18 : decode cX1_often 18 = .ok (.ifCond .eq 18, 3) := by decide +kernel
theorem dX1_often_21 : decode cX1_often 21 = .ok (.iinc 3 1, 3) := by decide +kernel
theorem dX1_often_24 : decode cX1_often 24 = .ok (.aload_n 0, 1) := by decide +kernel
theorem dX1_often_25 : decode cX1_often 25 = .ok (.getfield 22, 3) := by decide +kernel
theorem dX1_often_28 : decode cX1_often 28 = .ok (.iload 4, 2) := by decide +kernel
theorem dX1_often_30 : decode cX1_often 30 = .ok (.iaload, 1) := by decide +kernel
theorem dX1_often_31 : decode cX1_often 31 = .ok (.istore 4, 2) := by decide +kernel
theorem dX1_often_33 : decode cX1_often 33 = .ok (.goto (-28), 3) := by decide +kernel
theorem dX1_often_36 : decode cX1_often 36 = .ok (.iload_n 3, 1) := by decide +kernel
theorem dX1_often_37 : decode cX1_often 37 = .ok (.ireturn, 1) := by decide +kernel
theorem dX1_apart_0 : decode cX1_apart 0 = .ok (.iconst 0, 1) := by decide +kernel
theorem dX1_apart_1 : decode cX1_apart 1 = .ok (.istore_n 2, 1) := by decide +kernel
theorem dX1_apart_2 : decode cX1_apart 2 = .ok (.iload_n 1, 1) := by decide +kernel
theorem dX1_apart_3 : decode cX1_apart 3 = .ok (.istore_n 3, 1) := by decide +kernel
theorem dX1_apart_4 : decode cX1_apart 4 = .ok (.iload_n 3, 1) := by decide +kernel
theorem dX1_apart_5 : decode cX1_apart 5 = .ok (.iconst (-1), 1) := by decide +kernel
theorem dX1_apart_6 : decode cX1_apart 6 = .ok (.if_icmp .eq 35, 3) := by decide +kernel
theorem dX1_apart_9 : decode cX1_apart 9 = .ok (.aload_n 0, 1) := by decide +kernel
theorem dX1_apart_10 : decode cX1_apart 10 = .ok (.getfield 19, 3) := by decide +kernel
theorem dX1_apart_13 : decode cX1_apart 13 = .ok (.iload_n 3, 1) := by decide +kernel
theorem dX1_apart_14 : decode cX1_apart 14 = .ok (.iaload, 1) := by decide +kernel
theorem dX1_apart_15 : decode cX1_apart 15 = .ok (.ifCond .ne 5, 3) := by decide +kernel
theorem dX1_apart_18 : decode cX1_apart 18 = .ok (.iconst 0, 1) := by decide +kernel
theorem dX1_apart_19 : decode cX1_apart 19 = .ok (.ireturn, 1) := by decide +kernel
theorem dX1_apart_20 : decode cX1_apart 20 = .ok (.iload_n 2, 1) := by decide +kernel
theorem dX1_apart_21 : decode cX1_apart 21 = .ok (.aload_n 0, 1) := by decide +kernel
theorem dX1_apart_22 : decode cX1_apart 22 = .ok (.getfield 19, 3) := by decide +kernel
theorem dX1_apart_25 : decode cX1_apart 25 = .ok (.iload_n 3, 1) := by decide +kernel
theorem dX1_apart_26 : decode cX1_apart 26 = .ok (.iaload, 1) := by decide +kernel
theorem dX1_apart_27 : decode cX1_apart 27 = .ok (.invokestatic 56, 3) := by decide +kernel
theorem dX1_apart_30 : decode cX1_apart 30 = .ok (.istore_n 2, 1) := by decide +kernel
theorem dX1_apart_31 : decode cX1_apart 31 = .ok (.aload_n 0, 1) := by decide +kernel
theorem dX1_apart_32 : decode cX1_apart 32 = .ok (.getfield 22, 3) := by decide +kernel
theorem dX1_apart_35 : decode cX1_apart 35 = .ok (.iload_n 3, 1) := by decide +kernel
theorem dX1_apart_36 : decode cX1_apart 36 = .ok (.iaload, 1) := by decide +kernel
theorem dX1_apart_37 : decode cX1_apart 37 = .ok (.istore_n 3, 1) := by decide +kernel
theorem dX1_apart_38 : decode cX1_apart 38 = .ok (.goto (-34), 3) := by decide +kernel
theorem dX1_apart_41 : decode cX1_apart 41 = .ok (.iload_n 2, 1) := by decide +kernel
theorem dX1_apart_42 : decode cX1_apart 42 = .ok (.ireturn, 1) := by decide +kernel
theorem dX1_isAhead_0 : decode cX1_isAhead 0 = .ok (.aload_n 0, 1) := by decide +kernel
theorem dX1_isAhead_1 : decode cX1_isAhead 1 = .ok (.getfield 9, 3) := by decide +kernel
theorem dX1_isAhead_4 : decode cX1_isAhead 4 = .ok (.iload_n 1, 1) := by decide +kernel
theorem dX1_isAhead_5 : decode cX1_isAhead 5 = .ok (.iaload, 1) := by decide +kernel
theorem dX1_isAhead_6 : decode cX1_isAhead 6 = .ok (.aload_n 0, 1) := by decide +kernel
theorem dX1_isAhead_7 : decode cX1_isAhead 7 = .ok (.getfield 9, 3) := by decide +kernel
theorem dX1_isAhead_10 : decode cX1_isAhead 10 = .ok (.iload_n 2, 1) := by decide +kernel
theorem dX1_isAhead_11 : decode cX1_isAhead 11 = .ok (.iaload, 1) := by decide +kernel
theorem dX1_isAhead_12 : decode cX1_isAhead 12 = .ok (.if_icmp .eq 5, 3) := by decide +kernel
theorem dX1_isAhead_15 : decode cX1_isAhead 15 = .ok (.iconst 0, 1) := by decide +kernel
theorem dX1_isAhead_16 : decode cX1_isAhead 16 = .ok (.ireturn, 1) := by decide +kernel
theorem dX1_isAhead_17 : decode cX1_isAhead 17 = .ok (.aload_n 0, 1) := by decide +kernel
theorem dX1_isAhead_18 : decode cX1_isAhead 18 = .ok (.getfield 13, 3) := by decide +kernel
theorem dX1_isAhead_21 : decode cX1_isAhead 21 = .ok (.iload_n 1, 1) := by decide +kernel
theorem dX1_isAhead_22 : decode cX1_isAhead 22 = .ok (.iaload, 1) := by decide +kernel
theorem dX1_isAhead_23 : decode cX1_isAhead 23 = .ok (.aload_n 0, 1) := by decide +kernel
theorem dX1_isAhead_24 : decode cX1_isAhead 24 = .ok (.getfield 13, 3) := by decide +kernel
theorem dX1_isAhead_27 : decode cX1_isAhead 27 = .ok (.iload_n 2, 1) := by decide +kernel
theorem dX1_isAhead_28 : decode cX1_isAhead 28 = .ok (.iaload, 1) := by decide +kernel
theorem dX1_isAhead_29 : decode cX1_isAhead 29 = .ok (.if_icmp .eq 24, 3) := by decide +kernel
theorem dX1_isAhead_32 : decode cX1_isAhead 32 = .ok (.aload_n 0, 1) := by decide +kernel
theorem dX1_isAhead_33 : decode cX1_isAhead 33 = .ok (.getfield 13, 3) := by decide +kernel
theorem dX1_isAhead_36 : decode cX1_isAhead 36 = .ok (.iload_n 1, 1) := by decide +kernel
theorem dX1_isAhead_37 : decode cX1_isAhead 37 = .ok (.iaload, 1) := by decide +kernel
theorem dX1_isAhead_38 : decode cX1_isAhead 38 = .ok (.aload_n 0, 1) := by decide +kernel
theorem dX1_isAhead_39 : decode cX1_isAhead 39 = .ok (.getfield 13, 3) := by decide +kernel
theorem dX1_isAhead_42 : decode cX1_isAhead 42 = .ok (.iload_n 2, 1) := by decide +kernel
theorem dX1_isAhead_43 : decode cX1_isAhead 43 = .ok (.iaload, 1) := by decide +kernel
theorem dX1_isAhead_44 : decode cX1_isAhead 44 = .ok (.if_icmp .le 7, 3) := by decide +kernel
theorem dX1_isAhead_47 : decode cX1_isAhead 47 = .ok (.iconst 1, 1) := by decide +kernel
theorem dX1_isAhead_48 : decode cX1_isAhead 48 = .ok (.goto 4, 3) := by decide +kernel
theorem dX1_isAhead_51 : decode cX1_isAhead 51 = .ok (.iconst 0, 1) := by decide +kernel
theorem dX1_isAhead_52 : decode cX1_isAhead 52 = .ok (.ireturn, 1) := by decide +kernel
theorem dX1_isAhead_53 : decode cX1_isAhead 53 = .ok (.aload_n 0, 1) := by decide +kernel
theorem dX1_isAhead_54 : decode cX1_isAhead 54 = .ok (.getfield 16, 3) := by decide +kernel
theorem dX1_isAhead_57 : decode cX1_isAhead 57 = .ok (.iload_n 1, 1) := by decide +kernel
theorem dX1_isAhead_58 : decode cX1_isAhead 58 = .ok (.iaload, 1) := by decide +kernel
theorem dX1_isAhead_59 : decode cX1_isAhead 59 = .ok (.aload_n 0, 1) := by decide +kernel
theorem dX1_isAhead_60 : decode cX1_isAhead 60 = .ok (.getfield 16, 3) := by decide +kernel
theorem dX1_isAhead_63 : decode cX1_isAhead 63 = .ok (.iload_n 2, 1) := by decide +kernel
theorem dX1_isAhead_64 : decode cX1_isAhead 64 = .ok (.iaload, 1) := by decide +kernel
theorem dX1_isAhead_65 : decode cX1_isAhead 65 = .ok (.if_icmp .lt 23, 3) := by decide +kernel
theorem dX1_isAhead_68 : decode cX1_isAhead 68 = .ok (.aload_n 0, 1) := by decide +kernel
theorem dX1_isAhead_69 : decode cX1_isAhead 69 = .ok (.getfield 16, 3) := by decide +kernel
theorem dX1_isAhead_72 : decode cX1_isAhead 72 = .ok (.iload_n 1, 1) := by decide +kernel
theorem dX1_isAhead_73 : decode cX1_isAhead 73 = .ok (.iaload, 1) := by decide +kernel
theorem dX1_isAhead_74 : decode cX1_isAhead 74 = .ok (.aload_n 0, 1) := by decide +kernel
theorem dX1_isAhead_75 : decode cX1_isAhead 75 = .ok (.getfield 16, 3) := by decide +kernel
theorem dX1_isAhead_78 : decode cX1_isAhead 78 = .ok (.iload_n 2, 1) := by decide +kernel
theorem dX1_isAhead_79 : decode cX1_isAhead 79 = .ok (.iaload, 1) := by decide +kernel
theorem dX1_isAhead_80 : decode cX1_isAhead 80 = .ok (.if_icmp .ne 12, 3) := by decide +kernel
theorem dX1_isAhead_83 : decode cX1_isAhead 83 = .ok (.iload_n 1, 1) := by decide +kernel
theorem dX1_isAhead_84 : decode cX1_isAhead 84 = .ok (.iload_n 2, 1) := by decide +kernel
theorem dX1_isAhead_85 : decode cX1_isAhead 85 = .ok (.if_icmp .ge 7, 3) := by decide +kernel
theorem dX1_isAhead_88 : decode cX1_isAhead 88 = .ok (.iconst 1, 1) := by decide +kernel
theorem dX1_isAhead_89 : decode cX1_isAhead 89 = .ok (.goto 4, 3) := by decide +kernel
theorem dX1_isAhead_92 : decode cX1_isAhead 92 = .ok (.iconst 0, 1) := by decide +kernel
theorem dX1_isAhead_93 : decode cX1_isAhead 93 = .ok (.ireturn, 1) := by decide +kernel
theorem dX1_rank_0 : decode cX1_rank 0 = .ok (.iconst 0, 1) := by decide +kernel
theorem dX1_rank_1 : decode cX1_rank 1 = .ok (.istore_n 2, 1) := by decide +kernel
theorem dX1_rank_2 : decode cX1_rank 2 = .ok (.iconst 0, 1) := by decide +kernel
theorem dX1_rank_3 : decode cX1_rank 3 = .ok (.istore_n 3, 1) := by decide +kernel
theorem dX1_rank_4 : decode cX1_rank 4 = .ok (.iload_n 3, 1) := by decide +kernel
theorem dX1_rank_5 : decode cX1_rank 5 = .ok (.aload_n 0, 1) := by decide +kernel
theorem dX1_rank_6 : decode cX1_rank 6 = .ok (.getfield 38, 3) := by decide +kernel
theorem dX1_rank_9 : decode cX1_rank 9 = .ok (.if_icmp .ge 26, 3) := by decide +kernel
theorem dX1_rank_12 : decode cX1_rank 12 = .ok (.iload_n 2, 1) := by decide +kernel
theorem dX1_rank_13 : decode cX1_rank 13 = .ok (.aload_n 0, 1) := by decide +kernel
theorem dX1_rank_14 : decode cX1_rank 14 = .ok (.iload_n 3, 1) := by decide +kernel
theorem dX1_rank_15 : decode cX1_rank 15 = .ok (.iload_n 1, 1) := by decide +kernel
theorem dX1_rank_16 : decode cX1_rank 16 = .ok (.invokevirtual 62, 3) := by decide +kernel
theorem dX1_rank_19 : decode cX1_rank 19 = .ok (.ifCond .eq 7, 3) := by decide +kernel
theorem dX1_rank_22 : decode cX1_rank 22 = .ok (.iconst 1, 1) := by decide +kernel
theorem dX1_rank_23 : decode cX1_rank 23 = .ok (.goto 4, 3) := by decide +kernel
theorem dX1_rank_26 : decode cX1_rank 26 = .ok (.iconst 0, 1) := by decide +kernel
theorem dX1_rank_27 : decode cX1_rank 27 = .ok (.iadd, 1) := by decide +kernel
theorem dX1_rank_28 : decode cX1_rank 28 = .ok (.istore_n 2, 1) := by decide +kernel
theorem dX1_rank_29 : decode cX1_rank 29 = .ok (.iinc 3 1, 3) := by decide +kernel
theorem dX1_rank_32 : decode cX1_rank 32 = .ok (.goto (-28), 3) := by decide +kernel
theorem dX1_rank_35 : decode cX1_rank 35 = .ok (.iload_n 2, 1) := by decide +kernel
theorem dX1_rank_36 : decode cX1_rank 36 = .ok (.ireturn, 1) := by decide +kernel
theorem dX1_strength_0 : decode cX1_strength 0 = .ok (.aload_n 0, 1) := by decide +kernel
theorem dX1_strength_1 : decode cX1_strength 1 = .ok (.getfield 28, 3) := by decide +kernel
theorem dX1_strength_4 : decode cX1_strength 4 = .ok (.iconst 5, 1) := by decide +kernel
theorem dX1_strength_5 : decode cX1_strength 5 = .ok (.iload_n 1, 1) := by decide +kernel
theorem dX1_strength_6 : decode cX1_strength 6 = .ok (.imul, 1) := by decide +kernel
theorem dX1_strength_7 : decode cX1_strength 7 = .ok (.iload_n 2, 1) := by decide +kernel
theorem dX1_strength_8 : decode cX1_strength 8 = .ok (.iadd, 1) := by decide +kernel
theorem dX1_strength_9 : decode cX1_strength 9 = .ok (.iaload, 1) := by decide +kernel
theorem dX1_strength_10 : decode cX1_strength 10 = .ok (.istore 4, 2) := by decide +kernel
theorem dX1_strength_12 : decode cX1_strength 12 = .ok (.iload_n 2, 1) := by decide +kernel
theorem dX1_strength_13 : decode cX1_strength 13 = .ok (.ifCond .le 22, 3) := by decide +kernel
theorem dX1_strength_16 : decode cX1_strength 16 = .ok (.iload 4, 2) := by decide +kernel
theorem dX1_strength_18 : decode cX1_strength 18 = .ok (.aload_n 0, 1) := by decide +kernel
theorem dX1_strength_19 : decode cX1_strength 19 = .ok (.getfield 28, 3) := by decide +kernel
theorem dX1_strength_22 : decode cX1_strength 22 = .ok (.iconst 5, 1) := by decide +kernel
theorem dX1_strength_23 : decode cX1_strength 23 = .ok (.iload_n 1, 1) := by decide +kernel
theorem dX1_strength_24 : decode cX1_strength 24 = .ok (.imul, 1) := by decide +kernel
theorem dX1_strength_25 : decode cX1_strength 25 = .ok (.iload_n 2, 1) := by decide +kernel
theorem dX1_strength_26 : decode cX1_strength 26 = .ok (.iadd, 1) := by decide +kernel
theorem dX1_strength_27 : decode cX1_strength 27 = .ok (.iconst 1, 1) := by decide +kernel
theorem dX1_strength_28 : decode cX1_strength 28 = .ok (.isub, 1) := by decide +kernel
theorem dX1_strength_29 : decode cX1_strength 29 = .ok (.iaload, 1) := by decide +kernel
theorem dX1_strength_30 : decode cX1_strength 30 = .ok (.invokestatic 65, 3) := by decide +kernel
theorem dX1_strength_33 : decode cX1_strength 33 = .ok (.istore 4, 2) := by decide +kernel
theorem dX1_strength_35 : decode cX1_strength 35 = .ok (.iload 4, 2) := by decide +kernel
theorem dX1_strength_37 : decode cX1_strength 37 = .ok (.aload_n 0, 1) := by decide +kernel
theorem dX1_strength_38 : decode cX1_strength 38 = .ok (.getfield 13, 3) := by decide +kernel
theorem dX1_strength_41 : decode cX1_strength 41 = .ok (.iload_n 3, 1) := by decide +kernel
theorem dX1_strength_42 : decode cX1_strength 42 = .ok (.iaload, 1) := by decide +kernel
theorem dX1_strength_43 : decode cX1_strength 43 = .ok (.imul, 1) := by decide +kernel
theorem dX1_strength_44 : decode cX1_strength 44 = .ok (.bipush 100, 2) := by decide +kernel
theorem dX1_strength_46 : decode cX1_strength 46 = .ok (.idiv, 1) := by decide +kernel
theorem dX1_strength_47 : decode cX1_strength 47 = .ok (.ireturn, 1) := by decide +kernel
theorem dX1_placeHolds_0 : decode cX1_placeHolds 0 = .ok (.aload_n 0, 1) := by decide +kernel
theorem dX1_placeHolds_1 : decode cX1_placeHolds 1 = .ok (.aload_n 0, 1) := by decide +kernel
theorem dX1_placeHolds_2 : decode cX1_placeHolds 2 = .ok (.getfield 31, 3) := by decide +kernel
theorem dX1_placeHolds_5 : decode cX1_placeHolds 5 = .ok (.iconst 5, 1) := by decide +kernel
theorem dX1_placeHolds_6 : decode cX1_placeHolds 6 = .ok (.iload_n 1, 1) := by decide +kernel
theorem dX1_placeHolds_7 : decode cX1_placeHolds 7 = .ok (.imul, 1) := by decide +kernel
theorem dX1_placeHolds_8 : decode cX1_placeHolds 8 = .ok (.iload_n 2, 1) := by decide +kernel
theorem dX1_placeHolds_9 : decode cX1_placeHolds 9 = .ok (.iadd, 1) := by decide +kernel
theorem dX1_placeHolds_10 : decode cX1_placeHolds 10 = .ok (.iaload, 1) := by decide +kernel
theorem dX1_placeHolds_11 : decode cX1_placeHolds 11 = .ok (.iload_n 3, 1) := by decide +kernel
theorem dX1_placeHolds_12 : decode cX1_placeHolds 12 = .ok (.invokevirtual 68, 3) := by decide +kernel
theorem dX1_placeHolds_15 : decode cX1_placeHolds 15 = .ok (.istore 4, 2) := by decide +kernel
theorem dX1_placeHolds_17 : decode cX1_placeHolds 17 = .ok (.iload 4, 2) := by decide +kernel
theorem dX1_placeHolds_19 : decode cX1_placeHolds 19 = .ok (.iconst (-1), 1) := by decide +kernel
theorem dX1_placeHolds_20 : decode cX1_placeHolds 20 = .ok (.if_icmp .eq 19, 3) := by decide +kernel
theorem dX1_placeHolds_23 : decode cX1_placeHolds 23 = .ok (.aload_n 0, 1) := by decide +kernel
theorem dX1_placeHolds_24 : decode cX1_placeHolds 24 = .ok (.iload_n 1, 1) := by decide +kernel
theorem dX1_placeHolds_25 : decode cX1_placeHolds 25 = .ok (.iload_n 2, 1) := by decide +kernel
theorem dX1_placeHolds_26 : decode cX1_placeHolds 26 = .ok (.iload 4, 2) := by decide +kernel
theorem dX1_placeHolds_28 : decode cX1_placeHolds 28 = .ok (.invokevirtual 71, 3) := by decide +kernel
theorem dX1_placeHolds_31 : decode cX1_placeHolds 31 = .ok (.iload_n 3, 1) := by decide +kernel
theorem dX1_placeHolds_32 : decode cX1_placeHolds 32 = .ok (.if_icmp .lt 7, 3) := by decide +kernel
theorem dX1_placeHolds_35 : decode cX1_placeHolds 35 = .ok (.iconst 1, 1) := by decide +kernel
theorem dX1_placeHolds_36 : decode cX1_placeHolds 36 = .ok (.goto 4, 3) := by decide +kernel
theorem dX1_placeHolds_39 : decode cX1_placeHolds 39 = .ok (.iconst 0, 1) := by decide +kernel
theorem dX1_placeHolds_40 : decode cX1_placeHolds 40 = .ok (.ireturn, 1) := by decide +kernel
theorem dX1_giving_0 : decode cX1_giving 0 = .ok (.iconst 0, 1) := by decide +kernel
theorem dX1_giving_1 : decode cX1_giving 1 = .ok (.istore_n 3, 1) := by decide +kernel
theorem dX1_giving_2 : decode cX1_giving 2 = .ok (.iload_n 3, 1) := by decide +kernel
theorem dX1_giving_3 : decode cX1_giving 3 = .ok (.aload_n 0, 1) := by decide +kernel
theorem dX1_giving_4 : decode cX1_giving 4 = .ok (.getfield 25, 3) := by decide +kernel
theorem dX1_giving_7 : decode cX1_giving 7 = .ok (.iload_n 1, 1) := by decide +kernel
theorem dX1_giving_8 : decode cX1_giving 8 = .ok (.iaload, 1) := by decide +kernel
theorem dX1_giving_9 : decode cX1_giving 9 = .ok (.if_icmp .ge 21, 3) := by decide +kernel
theorem dX1_giving_12 : decode cX1_giving 12 = .ok (.aload_n 0, 1) := by decide +kernel
theorem dX1_giving_13 : decode cX1_giving 13 = .ok (.iload_n 1, 1) := by decide +kernel
theorem dX1_giving_14 : decode cX1_giving 14 = .ok (.iload_n 3, 1) := by decide +kernel
theorem dX1_giving_15 : decode cX1_giving 15 = .ok (.iload_n 2, 1) := by decide +kernel
theorem dX1_giving_16 : decode cX1_giving 16 = .ok (.invokevirtual 75, 3) := by decide +kernel
theorem dX1_giving_19 : decode cX1_giving 19 = .ok (.ifCond .ne 5, 3) := by decide +kernel
theorem dX1_giving_22 : decode cX1_giving 22 = .ok (.iload_n 3, 1) := by decide +kernel
theorem dX1_giving_23 : decode cX1_giving 23 = .ok (.ireturn, 1) := by decide +kernel
theorem dX1_giving_24 : decode cX1_giving 24 = .ok (.iinc 3 1, 3) := by decide +kernel
theorem dX1_giving_27 : decode cX1_giving 27 = .ok (.goto (-25), 3) := by decide +kernel
theorem dX1_giving_30 : decode cX1_giving 30 = .ok (.iconst (-1), 1) := by decide +kernel
theorem dX1_giving_31 : decode cX1_giving 31 = .ok (.ireturn, 1) := by decide +kernel
theorem dX1_placeUpTo_0 : decode cX1_placeUpTo 0 = .ok (.iconst 0, 1) := by decide +kernel
theorem dX1_placeUpTo_1 : decode cX1_placeUpTo 1 = .ok (.istore_n 3, 1) := by decide +kernel
theorem dX1_placeUpTo_2 : decode cX1_placeUpTo 2 = .ok (.aload_n 0, 1) := by decide +kernel
theorem dX1_placeUpTo_3 : decode cX1_placeUpTo 3 = .ok (.getfield 31, 3) := by decide +kernel
theorem dX1_placeUpTo_6 : decode cX1_placeUpTo 6 = .ok (.iconst 5, 1) := by decide +kernel
theorem dX1_placeUpTo_7 : decode cX1_placeUpTo 7 = .ok (.iload_n 1, 1) := by decide +kernel
theorem dX1_placeUpTo_8 : decode cX1_placeUpTo 8 = .ok (.imul, 1) := by decide +kernel
theorem dX1_placeUpTo_9 : decode cX1_placeUpTo 9 = .ok (.iload_n 2, 1) := by decide +kernel
theorem dX1_placeUpTo_10 : decode cX1_placeUpTo 10 = .ok (.iadd, 1) := by decide +kernel
theorem dX1_placeUpTo_11 : decode cX1_placeUpTo 11 = .ok (.iaload, 1) := by decide +kernel
theorem dX1_placeUpTo_12 : decode cX1_placeUpTo 12 = .ok (.istore 4, 2) := by decide +kernel
theorem dX1_placeUpTo_14 : decode cX1_placeUpTo 14 = .ok (.iload 4, 2) := by decide +kernel
theorem dX1_placeUpTo_16 : decode cX1_placeUpTo 16 = .ok (.iconst (-1), 1) := by decide +kernel
theorem dX1_placeUpTo_17 : decode cX1_placeUpTo 17 = .ok (.if_icmp .eq 90, 3) := by decide +kernel
theorem dX1_placeUpTo_20 : decode cX1_placeUpTo 20 = .ok (.aload_n 0, 1) := by decide +kernel
theorem dX1_placeUpTo_21 : decode cX1_placeUpTo 21 = .ok (.getfield 19, 3) := by decide +kernel
theorem dX1_placeUpTo_24 : decode cX1_placeUpTo 24 = .ok (.iload 4, 2) := by decide +kernel
theorem dX1_placeUpTo_26 : decode cX1_placeUpTo 26 = .ok (.iaload, 1) := by decide +kernel
theorem dX1_placeUpTo_27 : decode cX1_placeUpTo 27 = .ok (.ifCond .ne 9, 3) := by decide +kernel
theorem dX1_placeUpTo_30 : decode cX1_placeUpTo 30 = .ok (.sipush 999, 3) := by decide +kernel
theorem dX1_placeUpTo_33 : decode cX1_placeUpTo 33 = .ok (.goto 12, 3) := by decide +kernel
theorem dX1_placeUpTo_36 : decode cX1_placeUpTo 36 = .ok (.aload_n 0, 1) := by decide +kernel
theorem dX1_placeUpTo_37 : decode cX1_placeUpTo 37 = .ok (.getfield 19, 3) := by decide +kernel
theorem dX1_placeUpTo_40 : decode cX1_placeUpTo 40 = .ok (.iload 4, 2) := by decide +kernel
theorem dX1_placeUpTo_42 : decode cX1_placeUpTo 42 = .ok (.iaload, 1) := by decide +kernel
theorem dX1_placeUpTo_43 : decode cX1_placeUpTo 43 = .ok (.iconst 1, 1) := by decide +kernel
theorem dX1_placeUpTo_44 : decode cX1_placeUpTo 44 = .ok (.isub, 1) := by decide +kernel
theorem dX1_placeUpTo_45 : decode cX1_placeUpTo 45 = .ok (.istore 5, 2) := by decide +kernel
theorem dX1_placeUpTo_47 : decode cX1_placeUpTo 47 = .ok (.iload 5, 2) := by decide +kernel
theorem dX1_placeUpTo_49 : decode cX1_placeUpTo 49 = .ok (.iload_n 3, 1) := by decide +kernel
theorem dX1_placeUpTo_50 : decode cX1_placeUpTo 50 = .ok (.if_icmp .gt 6, 3) := by decide +kernel
theorem dX1_placeUpTo_53 : decode cX1_placeUpTo 53 = .ok (.goto 42, 3) := by decide +kernel
theorem dX1_placeUpTo_56 : decode cX1_placeUpTo 56 = .ok (.aload_n 0, 1) := by decide +kernel
theorem dX1_placeUpTo_57 : decode cX1_placeUpTo 57 = .ok (.iload_n 1, 1) := by decide +kernel
theorem dX1_placeUpTo_58 : decode cX1_placeUpTo 58 = .ok (.iload_n 2, 1) := by decide +kernel
theorem dX1_placeUpTo_59 : decode cX1_placeUpTo 59 = .ok (.iload 4, 2) := by decide +kernel
theorem dX1_placeUpTo_61 : decode cX1_placeUpTo 61 = .ok (.invokevirtual 71, 3) := by decide +kernel
theorem dX1_placeUpTo_64 : decode cX1_placeUpTo 64 = .ok (.istore 6, 2) := by decide +kernel
theorem dX1_placeUpTo_66 : decode cX1_placeUpTo 66 = .ok (.iload 6, 2) := by decide +kernel
theorem dX1_placeUpTo_68 : decode cX1_placeUpTo 68 = .ok (.iload 5, 2) := by decide +kernel
theorem dX1_placeUpTo_70 : decode cX1_placeUpTo 70 = .ok (.if_icmp .ge 10, 3) := by decide +kernel
theorem dX1_placeUpTo_73 : decode cX1_placeUpTo 73 = .ok (.iload_n 3, 1) := by decide +kernel
theorem dX1_placeUpTo_74 : decode cX1_placeUpTo 74 = .ok (.iload 6, 2) := by decide +kernel
theorem dX1_placeUpTo_76 : decode cX1_placeUpTo 76 = .ok (.invokestatic 56, 3) := by decide +kernel
theorem dX1_placeUpTo_79 : decode cX1_placeUpTo 79 = .ok (.ireturn, 1) := by decide +kernel
theorem dX1_placeUpTo_80 : decode cX1_placeUpTo 80 = .ok (.iload 5, 2) := by decide +kernel
theorem dX1_placeUpTo_82 : decode cX1_placeUpTo 82 = .ok (.istore_n 3, 1) := by decide +kernel
theorem dX1_placeUpTo_83 : decode cX1_placeUpTo 83 = .ok (.iload 5, 2) := by decide +kernel
theorem dX1_placeUpTo_85 : decode cX1_placeUpTo 85 = .ok (.sipush 999, 3) := by decide +kernel
theorem dX1_placeUpTo_88 : decode cX1_placeUpTo 88 = .ok (.if_icmp .ne 7, 3) := by decide +kernel
theorem dX1_placeUpTo_91 : decode cX1_placeUpTo 91 = .ok (.sipush 999, 3) := by decide +kernel
theorem dX1_placeUpTo_94 : decode cX1_placeUpTo 94 = .ok (.ireturn, 1) := by decide +kernel
theorem dX1_placeUpTo_95 : decode cX1_placeUpTo 95 = .ok (.aload_n 0, 1) := by decide +kernel
theorem dX1_placeUpTo_96 : decode cX1_placeUpTo 96 = .ok (.getfield 22, 3) := by decide +kernel
theorem dX1_placeUpTo_99 : decode cX1_placeUpTo 99 = .ok (.iload 4, 2) := by decide +kernel
theorem dX1_placeUpTo_101 : decode cX1_placeUpTo 101 = .ok (.iaload, 1) := by decide +kernel
theorem dX1_placeUpTo_102 : decode cX1_placeUpTo 102 = .ok (.istore 4, 2) := by decide +kernel
theorem dX1_placeUpTo_104 : decode cX1_placeUpTo 104 = .ok (.goto (-90), 3) := by decide +kernel
theorem dX1_placeUpTo_107 : decode cX1_placeUpTo 107 = .ok (.iload_n 3, 1) := by decide +kernel
theorem dX1_placeUpTo_108 : decode cX1_placeUpTo 108 = .ok (.ireturn, 1) := by decide +kernel
theorem dX1_upTo_0 : decode cX1_upTo 0 = .ok (.aload_n 0, 1) := by decide +kernel
theorem dX1_upTo_1 : decode cX1_upTo 1 = .ok (.getfield 25, 3) := by decide +kernel
theorem dX1_upTo_4 : decode cX1_upTo 4 = .ok (.iload_n 1, 1) := by decide +kernel
theorem dX1_upTo_5 : decode cX1_upTo 5 = .ok (.iaload, 1) := by decide +kernel
theorem dX1_upTo_6 : decode cX1_upTo 6 = .ok (.ifCond .ne 7, 3) := by decide +kernel
theorem dX1_upTo_9 : decode cX1_upTo 9 = .ok (.iconst 0, 1) := by decide +kernel
theorem dX1_upTo_10 : decode cX1_upTo 10 = .ok (.goto 6, 3) := by decide +kernel
theorem dX1_upTo_13 : decode cX1_upTo 13 = .ok (.sipush 999, 3) := by decide +kernel
theorem dX1_upTo_16 : decode cX1_upTo 16 = .ok (.istore_n 2, 1) := by decide +kernel
theorem dX1_upTo_17 : decode cX1_upTo 17 = .ok (.iconst 0, 1) := by decide +kernel
theorem dX1_upTo_18 : decode cX1_upTo 18 = .ok (.istore_n 3, 1) := by decide +kernel
theorem dX1_upTo_19 : decode cX1_upTo 19 = .ok (.iload_n 3, 1) := by decide +kernel
theorem dX1_upTo_20 : decode cX1_upTo 20 = .ok (.aload_n 0, 1) := by decide +kernel
theorem dX1_upTo_21 : decode cX1_upTo 21 = .ok (.getfield 25, 3) := by decide +kernel
theorem dX1_upTo_24 : decode cX1_upTo 24 = .ok (.iload_n 1, 1) := by decide +kernel
theorem dX1_upTo_25 : decode cX1_upTo 25 = .ok (.iaload, 1) := by decide +kernel
theorem dX1_upTo_26 : decode cX1_upTo 26 = .ok (.if_icmp .ge 20, 3) := by decide +kernel
theorem dX1_upTo_29 : decode cX1_upTo 29 = .ok (.iload_n 2, 1) := by decide +kernel
theorem dX1_upTo_30 : decode cX1_upTo 30 = .ok (.aload_n 0, 1) := by decide +kernel
theorem dX1_upTo_31 : decode cX1_upTo 31 = .ok (.iload_n 1, 1) := by decide +kernel
theorem dX1_upTo_32 : decode cX1_upTo 32 = .ok (.iload_n 3, 1) := by decide +kernel
theorem dX1_upTo_33 : decode cX1_upTo 33 = .ok (.invokevirtual 78, 3) := by decide +kernel
theorem dX1_upTo_36 : decode cX1_upTo 36 = .ok (.invokestatic 65, 3) := by decide +kernel
theorem dX1_upTo_39 : decode cX1_upTo 39 = .ok (.istore_n 2, 1) := by decide +kernel
theorem dX1_upTo_40 : decode cX1_upTo 40 = .ok (.iinc 3 1, 3) := by decide +kernel
theorem dX1_upTo_43 : decode cX1_upTo 43 = .ok (.goto (-24), 3) := by decide +kernel
theorem dX1_upTo_46 : decode cX1_upTo 46 = .ok (.iload_n 2, 1) := by decide +kernel
theorem dX1_upTo_47 : decode cX1_upTo 47 = .ok (.ireturn, 1) := by decide +kernel
theorem dX1_weakest_0 : decode cX1_weakest 0 = .ok (.iconst (-1), 1) := by decide +kernel
theorem dX1_weakest_1 : decode cX1_weakest 1 = .ok (.istore_n 2, 1) := by decide +kernel
theorem dX1_weakest_2 : decode cX1_weakest 2 = .ok (.iconst 0, 1) := by decide +kernel
theorem dX1_weakest_3 : decode cX1_weakest 3 = .ok (.istore_n 3, 1) := by decide +kernel
theorem dX1_weakest_4 : decode cX1_weakest 4 = .ok (.iload_n 3, 1) := by decide +kernel
theorem dX1_weakest_5 : decode cX1_weakest 5 = .ok (.aload_n 0, 1) := by decide +kernel
theorem dX1_weakest_6 : decode cX1_weakest 6 = .ok (.getfield 25, 3) := by decide +kernel
theorem dX1_weakest_9 : decode cX1_weakest 9 = .ok (.iload_n 1, 1) := by decide +kernel
theorem dX1_weakest_10 : decode cX1_weakest 10 = .ok (.iaload, 1) := by decide +kernel
theorem dX1_weakest_11 : decode cX1_weakest 11 = .ok (.if_icmp .ge 31, 3) := by decide +kernel
theorem dX1_weakest_14 : decode cX1_weakest 14 = .ok (.iload_n 2, 1) := by decide +kernel
theorem dX1_weakest_15 : decode cX1_weakest 15 = .ok (.iconst (-1), 1) := by decide +kernel
theorem dX1_weakest_16 : decode cX1_weakest 16 = .ok (.if_icmp .eq 18, 3) := by decide +kernel
theorem dX1_weakest_19 : decode cX1_weakest 19 = .ok (.aload_n 0, 1) := by decide +kernel
theorem dX1_weakest_20 : decode cX1_weakest 20 = .ok (.iload_n 1, 1) := by decide +kernel
theorem dX1_weakest_21 : decode cX1_weakest 21 = .ok (.iload_n 3, 1) := by decide +kernel
theorem dX1_weakest_22 : decode cX1_weakest 22 = .ok (.invokevirtual 81, 3) := by decide +kernel
theorem dX1_weakest_25 : decode cX1_weakest 25 = .ok (.aload_n 0, 1) := by decide +kernel
theorem dX1_weakest_26 : decode cX1_weakest 26 = .ok (.iload_n 1, 1) := by decide +kernel
theorem dX1_weakest_27 : decode cX1_weakest 27 = .ok (.iload_n 2, 1) := by decide +kernel
theorem dX1_weakest_28 : decode cX1_weakest 28 = .ok (.invokevirtual 81, 3) := by decide +kernel
theorem dX1_weakest_31 : decode cX1_weakest 31 = .ok (.if_icmp .ge 5, 3) := by decide +kernel
theorem dX1_weakest_34 : decode cX1_weakest 34 = .ok (.iload_n 3, 1) := by decide +kernel
theorem dX1_weakest_35 : decode cX1_weakest 35 = .ok (.istore_n 2, 1) := by decide +kernel
theorem dX1_weakest_36 : decode cX1_weakest 36 = .ok (.iinc 3 1, 3) := by decide +kernel
theorem dX1_weakest_39 : decode cX1_weakest 39 = .ok (.goto (-35), 3) := by decide +kernel
theorem dX1_weakest_42 : decode cX1_weakest 42 = .ok (.iload_n 2, 1) := by decide +kernel
theorem dX1_weakest_43 : decode cX1_weakest 43 = .ok (.ireturn, 1) := by decide +kernel
theorem dX1_now_0 : decode cX1_now 0 = .ok (.aload_n 0, 1) := by decide +kernel
theorem dX1_now_1 : decode cX1_now 1 = .ok (.iload_n 1, 1) := by decide +kernel
theorem dX1_now_2 : decode cX1_now 2 = .ok (.iload_n 2, 1) := by decide +kernel
theorem dX1_now_3 : decode cX1_now 3 = .ok (.aload_n 0, 1) := by decide +kernel
theorem dX1_now_4 : decode cX1_now 4 = .ok (.getfield 31, 3) := by decide +kernel
theorem dX1_now_7 : decode cX1_now 7 = .ok (.iconst 5, 1) := by decide +kernel
theorem dX1_now_8 : decode cX1_now 8 = .ok (.iload_n 1, 1) := by decide +kernel
theorem dX1_now_9 : decode cX1_now 9 = .ok (.imul, 1) := by decide +kernel
theorem dX1_now_10 : decode cX1_now 10 = .ok (.iload_n 2, 1) := by decide +kernel
theorem dX1_now_11 : decode cX1_now 11 = .ok (.iadd, 1) := by decide +kernel
theorem dX1_now_12 : decode cX1_now 12 = .ok (.iaload, 1) := by decide +kernel
theorem dX1_now_13 : decode cX1_now 13 = .ok (.invokevirtual 71, 3) := by decide +kernel
theorem dX1_now_16 : decode cX1_now 16 = .ok (.ireturn, 1) := by decide +kernel
theorem dX1_strongest_0 : decode cX1_strongest 0 = .ok (.iconst (-1), 1) := by decide +kernel
theorem dX1_strongest_1 : decode cX1_strongest 1 = .ok (.istore_n 1, 1) := by decide +kernel
theorem dX1_strongest_2 : decode cX1_strongest 2 = .ok (.iconst 0, 1) := by decide +kernel
theorem dX1_strongest_3 : decode cX1_strongest 3 = .ok (.istore_n 2, 1) := by decide +kernel
theorem dX1_strongest_4 : decode cX1_strongest 4 = .ok (.iload_n 2, 1) := by decide +kernel
theorem dX1_strongest_5 : decode cX1_strongest 5 = .ok (.aload_n 0, 1) := by decide +kernel
theorem dX1_strongest_6 : decode cX1_strongest 6 = .ok (.getfield 45, 3) := by decide +kernel
theorem dX1_strongest_9 : decode cX1_strongest 9 = .ok (.if_icmp .ge 29, 3) := by decide +kernel
theorem dX1_strongest_12 : decode cX1_strongest 12 = .ok (.iload_n 1, 1) := by decide +kernel
theorem dX1_strongest_13 : decode cX1_strongest 13 = .ok (.iconst (-1), 1) := by decide +kernel
theorem dX1_strongest_14 : decode cX1_strongest 14 = .ok (.if_icmp .eq 16, 3) := by decide +kernel
theorem dX1_strongest_17 : decode cX1_strongest 17 = .ok (.aload_n 0, 1) := by decide +kernel
theorem dX1_strongest_18 : decode cX1_strongest 18 = .ok (.iload_n 2, 1) := by decide +kernel
theorem dX1_strongest_19 : decode cX1_strongest 19 = .ok (.invokevirtual 84, 3) := by decide +kernel
theorem dX1_strongest_22 : decode cX1_strongest 22 = .ok (.aload_n 0, 1) := by decide +kernel
theorem dX1_strongest_23 : decode cX1_strongest 23 = .ok (.iload_n 1, 1) := by decide +kernel
theorem dX1_strongest_24 : decode cX1_strongest 24 = .ok (.invokevirtual 84, 3) := by decide +kernel
theorem dX1_strongest_27 : decode cX1_strongest 27 = .ok (.if_icmp .le 5, 3) := by decide +kernel
theorem dX1_strongest_30 : decode cX1_strongest 30 = .ok (.iload_n 2, 1) := by decide +kernel
theorem dX1_strongest_31 : decode cX1_strongest 31 = .ok (.istore_n 1, 1) := by decide +kernel
theorem dX1_strongest_32 : decode cX1_strongest 32 = .ok (.iinc 2 1, 3) := by decide +kernel
theorem dX1_strongest_35 : decode cX1_strongest 35 = .ok (.goto (-31), 3) := by decide +kernel
theorem dX1_strongest_38 : decode cX1_strongest 38 = .ok (.iload_n 1, 1) := by decide +kernel
theorem dX1_strongest_39 : decode cX1_strongest 39 = .ok (.ireturn, 1) := by decide +kernel
theorem dX1_addKnot_0 : decode cX1_addKnot 0 = .ok (.aload_n 0, 1) := by decide +kernel
theorem dX1_addKnot_1 : decode cX1_addKnot 1 = .ok (.iconst 0, 1) := by decide +kernel
theorem dX1_addKnot_2 : decode cX1_addKnot 2 = .ok (.putfield 34, 3) := by decide +kernel
theorem dX1_addKnot_5 : decode cX1_addKnot 5 = .ok (.iload_n 1, 1) := by decide +kernel
theorem dX1_addKnot_6 : decode cX1_addKnot 6 = .ok (.iconst 0, 1) := by decide +kernel
theorem dX1_addKnot_7 : decode cX1_addKnot 7 = .ok (.iconst 1, 1) := by decide +kernel
theorem dX1_addKnot_8 : decode cX1_addKnot 8 = .ok (.invokestatic 41, 3) := by decide +kernel
theorem dX1_addKnot_11 : decode cX1_addKnot 11 = .ok (.ifCond .ne 9, 3) := by decide +kernel
theorem dX1_addKnot_14 : decode cX1_addKnot 14 = .ok (.aload_n 0, 1) := by decide +kernel
theorem dX1_addKnot_15 : decode cX1_addKnot 15 = .ok (.iconst 1, 1) := by decide +kernel
theorem dX1_addKnot_16 : decode cX1_addKnot 16 = .ok (.invokevirtual 88, 3) := by decide +kernel
theorem dX1_addKnot_19 : decode cX1_addKnot 19 = .ok (.ireturn, 1) := by decide +kernel
theorem dX1_addKnot_20 : decode cX1_addKnot 20 = .ok (.iload_n 2, 1) := by decide +kernel
theorem dX1_addKnot_21 : decode cX1_addKnot 21 = .ok (.bipush 10, 2) := by decide +kernel
theorem dX1_addKnot_23 : decode cX1_addKnot 23 = .ok (.bipush 100, 2) := by decide +kernel
theorem dX1_addKnot_25 : decode cX1_addKnot 25 = .ok (.invokestatic 41, 3) := by decide +kernel
theorem dX1_addKnot_28 : decode cX1_addKnot 28 = .ok (.ifCond .eq 13, 3) := by decide +kernel
theorem dX1_addKnot_31 : decode cX1_addKnot 31 = .ok (.iload_n 3, 1) := by decide +kernel
theorem dX1_addKnot_32 : decode cX1_addKnot 32 = .ok (.iconst 1, 1) := by decide +kernel
theorem dX1_addKnot_33 : decode cX1_addKnot 33 = .ok (.bipush 9, 2) := by decide +kernel
theorem dX1_addKnot_35 : decode cX1_addKnot 35 = .ok (.invokestatic 41, 3) := by decide +kernel
theorem dX1_addKnot_38 : decode cX1_addKnot 38 = .ok (.ifCond .ne 9, 3) := by decide +kernel
theorem dX1_addKnot_41 : decode cX1_addKnot 41 = .ok (.aload_n 0, 1) := by decide +kernel
theorem dX1_addKnot_42 : decode cX1_addKnot 42 = .ok (.iconst 2, 1) := by decide +kernel
theorem dX1_addKnot_43 : decode cX1_addKnot 43 = .ok (.invokevirtual 88, 3) := by decide +kernel
theorem dX1_addKnot_46 : decode cX1_addKnot 46 = .ok (.ireturn, 1) := by decide +kernel
theorem dX1_addKnot_47 : decode cX1_addKnot 47 = .ok (.aload_n 0, 1) := by decide +kernel
theorem dX1_addKnot_48 : decode cX1_addKnot 48 = .ok (.getfield 38, 3) := by decide +kernel
theorem dX1_addKnot_51 : decode cX1_addKnot 51 = .ok (.bipush 16, 2) := by decide +kernel
theorem dX1_addKnot_53 : decode cX1_addKnot 53 = .ok (.if_icmp .ne 9, 3) := by decide +kernel
theorem dX1_addKnot_56 : decode cX1_addKnot 56 = .ok (.aload_n 0, 1) := by decide +kernel
theorem dX1_addKnot_57 : decode cX1_addKnot 57 = .ok (.iconst 3, 1) := by decide +kernel
theorem dX1_addKnot_58 : decode cX1_addKnot 58 = .ok (.invokevirtual 88, 3) := by decide +kernel
theorem dX1_addKnot_61 : decode cX1_addKnot 61 = .ok (.ireturn, 1) := by decide +kernel
theorem dX1_addKnot_62 : decode cX1_addKnot 62 = .ok (.aload_n 0, 1) := by decide +kernel
theorem dX1_addKnot_63 : decode cX1_addKnot 63 = .ok (.getfield 9, 3) := by decide +kernel
theorem dX1_addKnot_66 : decode cX1_addKnot 66 = .ok (.aload_n 0, 1) := by decide +kernel
theorem dX1_addKnot_67 : decode cX1_addKnot 67 = .ok (.getfield 38, 3) := by decide +kernel
theorem dX1_addKnot_70 : decode cX1_addKnot 70 = .ok (.iload_n 1, 1) := by decide +kernel
theorem dX1_addKnot_71 : decode cX1_addKnot 71 = .ok (.iastore, 1) := by decide +kernel
theorem dX1_addKnot_72 : decode cX1_addKnot 72 = .ok (.aload_n 0, 1) := by decide +kernel
theorem dX1_addKnot_73 : decode cX1_addKnot 73 = .ok (.getfield 13, 3) := by decide +kernel
theorem dX1_addKnot_76 : decode cX1_addKnot 76 = .ok (.aload_n 0, 1) := by decide +kernel
theorem dX1_addKnot_77 : decode cX1_addKnot 77 = .ok (.getfield 38, 3) := by decide +kernel
theorem dX1_addKnot_80 : decode cX1_addKnot 80 = .ok (.iload_n 2, 1) := by decide +kernel
theorem dX1_addKnot_81 : decode cX1_addKnot 81 = .ok (.iastore, 1) := by decide +kernel
theorem dX1_addKnot_82 : decode cX1_addKnot 82 = .ok (.aload_n 0, 1) := by decide +kernel
theorem dX1_addKnot_83 : decode cX1_addKnot 83 = .ok (.getfield 16, 3) := by decide +kernel
theorem dX1_addKnot_86 : decode cX1_addKnot 86 = .ok (.aload_n 0, 1) := by decide +kernel
theorem dX1_addKnot_87 : decode cX1_addKnot 87 = .ok (.getfield 38, 3) := by decide +kernel
theorem dX1_addKnot_90 : decode cX1_addKnot 90 = .ok (.iload_n 3, 1) := by decide +kernel
theorem dX1_addKnot_91 : decode cX1_addKnot 91 = .ok (.iastore, 1) := by decide +kernel
theorem dX1_addKnot_92 : decode cX1_addKnot 92 = .ok (.aload_n 0, 1) := by decide +kernel
theorem dX1_addKnot_93 : decode cX1_addKnot 93 = .ok (.getfield 19, 3) := by decide +kernel
theorem dX1_addKnot_96 : decode cX1_addKnot 96 = .ok (.aload_n 0, 1) := by decide +kernel
theorem dX1_addKnot_97 : decode cX1_addKnot 97 = .ok (.getfield 38, 3) := by decide +kernel
theorem dX1_addKnot_100 : decode cX1_addKnot 100 = .ok (.iconst 0, 1) := by decide +kernel
theorem dX1_addKnot_101 : decode cX1_addKnot 101 = .ok (.iastore, 1) := by decide +kernel
theorem dX1_addKnot_102 : decode cX1_addKnot 102 = .ok (.aload_n 0, 1) := by decide +kernel
theorem dX1_addKnot_103 : decode cX1_addKnot 103 = .ok (.getfield 22, 3) := by decide +kernel
theorem dX1_addKnot_106 : decode cX1_addKnot 106 = .ok (.aload_n 0, 1) := by decide +kernel
theorem dX1_addKnot_107 : decode cX1_addKnot 107 = .ok (.getfield 38, 3) := by decide +kernel
theorem dX1_addKnot_110 : decode cX1_addKnot 110 = .ok (.iconst (-1), 1) := by decide +kernel
theorem dX1_addKnot_111 : decode cX1_addKnot 111 = .ok (.iastore, 1) := by decide +kernel
theorem dX1_addKnot_112 : decode cX1_addKnot 112 = .ok (.aload_n 0, 1) := by decide +kernel
theorem dX1_addKnot_113 : decode cX1_addKnot 113 = .ok (.dup, 1) := by decide +kernel
theorem dX1_addKnot_114 : decode cX1_addKnot 114 = .ok (.getfield 38, 3) := by decide +kernel
theorem dX1_addKnot_117 : decode cX1_addKnot 117 = .ok (.iconst 1, 1) := by decide +kernel
theorem dX1_addKnot_118 : decode cX1_addKnot 118 = .ok (.iadd, 1) := by decide +kernel
theorem dX1_addKnot_119 : decode cX1_addKnot 119 = .ok (.putfield 38, 3) := by decide +kernel
theorem dX1_addKnot_122 : decode cX1_addKnot 122 = .ok (.aload_n 0, 1) := by decide +kernel
theorem dX1_addKnot_123 : decode cX1_addKnot 123 = .ok (.getfield 38, 3) := by decide +kernel
theorem dX1_addKnot_126 : decode cX1_addKnot 126 = .ok (.iconst 1, 1) := by decide +kernel
theorem dX1_addKnot_127 : decode cX1_addKnot 127 = .ok (.isub, 1) := by decide +kernel
theorem dX1_addKnot_128 : decode cX1_addKnot 128 = .ok (.ireturn, 1) := by decide +kernel
theorem dX1_setSpill_0 : decode cX1_setSpill 0 = .ok (.aload_n 0, 1) := by decide +kernel
theorem dX1_setSpill_1 : decode cX1_setSpill 1 = .ok (.iconst 0, 1) := by decide +kernel
theorem dX1_setSpill_2 : decode cX1_setSpill 2 = .ok (.putfield 34, 3) := by decide +kernel
theorem dX1_setSpill_5 : decode cX1_setSpill 5 = .ok (.aload_n 0, 1) := by decide +kernel
theorem dX1_setSpill_6 : decode cX1_setSpill 6 = .ok (.iload_n 1, 1) := by decide +kernel
theorem dX1_setSpill_7 : decode cX1_setSpill 7 = .ok (.invokevirtual 91, 3) := by decide +kernel
theorem dX1_setSpill_10 : decode cX1_setSpill 10 = .ok (.ifCond .ne 9, 3) := by decide +kernel
theorem dX1_setSpill_13 : decode cX1_setSpill 13 = .ok (.aload_n 0, 1) := by decide +kernel
theorem dX1_setSpill_14 : decode cX1_setSpill 14 = .ok (.iconst 1, 1) := by decide +kernel
theorem dX1_setSpill_15 : decode cX1_setSpill 15 = .ok (.invokevirtual 88, 3) := by decide +kernel
theorem dX1_setSpill_18 : decode cX1_setSpill 18 = .ok (.ireturn, 1) := by decide +kernel
theorem dX1_setSpill_19 : decode cX1_setSpill 19 = .ok (.iload_n 2, 1) := by decide +kernel
theorem dX1_setSpill_20 : decode cX1_setSpill 20 = .ok (.invokestatic 94, 3) := by decide +kernel
theorem dX1_setSpill_23 : decode cX1_setSpill 23 = .ok (.ifCond .eq 34, 3) := by decide +kernel
theorem dX1_setSpill_26 : decode cX1_setSpill 26 = .ok (.iload_n 3, 1) := by decide +kernel
theorem dX1_setSpill_27 : decode cX1_setSpill 27 = .ok (.iconst (-1), 1) := by decide +kernel
theorem dX1_setSpill_28 : decode cX1_setSpill 28 = .ok (.iload_n 1, 1) := by decide +kernel
theorem dX1_setSpill_29 : decode cX1_setSpill 29 = .ok (.iconst 1, 1) := by decide +kernel
theorem dX1_setSpill_30 : decode cX1_setSpill 30 = .ok (.isub, 1) := by decide +kernel
theorem dX1_setSpill_31 : decode cX1_setSpill 31 = .ok (.invokestatic 41, 3) := by decide +kernel
theorem dX1_setSpill_34 : decode cX1_setSpill 34 = .ok (.ifCond .eq 23, 3) := by decide +kernel
theorem dX1_setSpill_37 : decode cX1_setSpill 37 = .ok (.iload_n 3, 1) := by decide +kernel
theorem dX1_setSpill_38 : decode cX1_setSpill 38 = .ok (.iconst (-1), 1) := by decide +kernel
theorem dX1_setSpill_39 : decode cX1_setSpill 39 = .ok (.if_icmp .eq 24, 3) := by decide +kernel
theorem dX1_setSpill_42 : decode cX1_setSpill 42 = .ok (.aload_n 0, 1) := by decide +kernel
theorem dX1_setSpill_43 : decode cX1_setSpill 43 = .ok (.getfield 9, 3) := by decide +kernel
theorem dX1_setSpill_46 : decode cX1_setSpill 46 = .ok (.iload_n 3, 1) := by decide +kernel
theorem dX1_setSpill_47 : decode cX1_setSpill 47 = .ok (.iaload, 1) := by decide +kernel
theorem dX1_setSpill_48 : decode cX1_setSpill 48 = .ok (.aload_n 0, 1) := by decide +kernel
theorem dX1_setSpill_49 : decode cX1_setSpill 49 = .ok (.getfield 9, 3) := by decide +kernel
theorem dX1_setSpill_52 : decode cX1_setSpill 52 = .ok (.iload_n 1, 1) := by decide +kernel
theorem dX1_setSpill_53 : decode cX1_setSpill 53 = .ok (.iaload, 1) := by decide +kernel
theorem dX1_setSpill_54 : decode cX1_setSpill 54 = .ok (.if_icmp .eq 9, 3) := by decide +kernel
theorem dX1_setSpill_57 : decode cX1_setSpill 57 = .ok (.aload_n 0, 1) := by decide +kernel
theorem dX1_setSpill_58 : decode cX1_setSpill 58 = .ok (.iconst 2, 1) := by decide +kernel
theorem dX1_setSpill_59 : decode cX1_setSpill 59 = .ok (.invokevirtual 88, 3) := by decide +kernel
theorem dX1_setSpill_62 : decode cX1_setSpill 62 = .ok (.ireturn, 1) := by decide +kernel
theorem dX1_setSpill_63 : decode cX1_setSpill 63 = .ok (.aload_n 0, 1) := by decide +kernel
theorem dX1_setSpill_64 : decode cX1_setSpill 64 = .ok (.getfield 19, 3) := by decide +kernel
theorem dX1_setSpill_67 : decode cX1_setSpill 67 = .ok (.iload_n 1, 1) := by decide +kernel
theorem dX1_setSpill_68 : decode cX1_setSpill 68 = .ok (.iaload, 1) := by decide +kernel
theorem dX1_setSpill_69 : decode cX1_setSpill 69 = .ok (.istore 4, 2) := by decide +kernel
theorem dX1_setSpill_71 : decode cX1_setSpill 71 = .ok (.aload_n 0, 1) := by decide +kernel
theorem dX1_setSpill_72 : decode cX1_setSpill 72 = .ok (.getfield 19, 3) := by decide +kernel
theorem dX1_setSpill_75 : decode cX1_setSpill 75 = .ok (.iload_n 1, 1) := by decide +kernel
theorem dX1_setSpill_76 : decode cX1_setSpill 76 = .ok (.iload_n 2, 1) := by decide +kernel
theorem dX1_setSpill_77 : decode cX1_setSpill 77 = .ok (.iastore, 1) := by decide +kernel
theorem dX1_setSpill_78 : decode cX1_setSpill 78 = .ok (.aload_n 0, 1) := by decide +kernel
theorem dX1_setSpill_79 : decode cX1_setSpill 79 = .ok (.getfield 22, 3) := by decide +kernel
theorem dX1_setSpill_82 : decode cX1_setSpill 82 = .ok (.iload_n 1, 1) := by decide +kernel
theorem dX1_setSpill_83 : decode cX1_setSpill 83 = .ok (.iload_n 3, 1) := by decide +kernel
theorem dX1_setSpill_84 : decode cX1_setSpill 84 = .ok (.iastore, 1) := by decide +kernel
theorem dX1_setSpill_85 : decode cX1_setSpill 85 = .ok (.iload 4, 2) := by decide +kernel
theorem dX1_setSpill_87 : decode cX1_setSpill 87 = .ok (.ireturn, 1) := by decide +kernel
theorem dX1_tie_0 : decode cX1_tie 0 = .ok (.aload_n 0, 1) := by decide +kernel
theorem dX1_tie_1 : decode cX1_tie 1 = .ok (.iconst 0, 1) := by decide +kernel
theorem dX1_tie_2 : decode cX1_tie 2 = .ok (.putfield 34, 3) := by decide +kernel
theorem dX1_tie_5 : decode cX1_tie 5 = .ok (.aload_n 0, 1) := by decide +kernel
theorem dX1_tie_6 : decode cX1_tie 6 = .ok (.iload_n 1, 1) := by decide +kernel
theorem dX1_tie_7 : decode cX1_tie 7 = .ok (.invokevirtual 91, 3) := by decide +kernel
theorem dX1_tie_10 : decode cX1_tie 10 = .ok (.ifCond .ne 9, 3) := by decide +kernel
theorem dX1_tie_13 : decode cX1_tie 13 = .ok (.aload_n 0, 1) := by decide +kernel
theorem dX1_tie_14 : decode cX1_tie 14 = .ok (.iconst 1, 1) := by decide +kernel
theorem dX1_tie_15 : decode cX1_tie 15 = .ok (.invokevirtual 88, 3) := by decide +kernel
theorem dX1_tie_18 : decode cX1_tie 18 = .ok (.ireturn, 1) := by decide +kernel
theorem dX1_tie_19 : decode cX1_tie 19 = .ok (.aload_n 0, 1) := by decide +kernel
theorem dX1_tie_20 : decode cX1_tie 20 = .ok (.getfield 9, 3) := by decide +kernel
theorem dX1_tie_23 : decode cX1_tie 23 = .ok (.iload_n 1, 1) := by decide +kernel
theorem dX1_tie_24 : decode cX1_tie 24 = .ok (.iaload, 1) := by decide +kernel
theorem dX1_tie_25 : decode cX1_tie 25 = .ok (.iconst 1, 1) := by decide +kernel
theorem dX1_tie_26 : decode cX1_tie 26 = .ok (.if_icmp .ne 10, 3) := by decide +kernel
theorem dX1_tie_29 : decode cX1_tie 29 = .ok (.iload_n 2, 1) := by decide +kernel
theorem dX1_tie_30 : decode cX1_tie 30 = .ok (.invokestatic 94, 3) := by decide +kernel
theorem dX1_tie_33 : decode cX1_tie 33 = .ok (.ifCond .ne 9, 3) := by decide +kernel
theorem dX1_tie_36 : decode cX1_tie 36 = .ok (.aload_n 0, 1) := by decide +kernel
theorem dX1_tie_37 : decode cX1_tie 37 = .ok (.iconst 2, 1) := by decide +kernel
theorem dX1_tie_38 : decode cX1_tie 38 = .ok (.invokevirtual 88, 3) := by decide +kernel
theorem dX1_tie_41 : decode cX1_tie 41 = .ok (.ireturn, 1) := by decide +kernel
theorem dX1_tie_42 : decode cX1_tie 42 = .ok (.aload_n 0, 1) := by decide +kernel
theorem dX1_tie_43 : decode cX1_tie 43 = .ok (.getfield 45, 3) := by decide +kernel
theorem dX1_tie_46 : decode cX1_tie 46 = .ok (.bipush 6, 2) := by decide +kernel
theorem dX1_tie_48 : decode cX1_tie 48 = .ok (.if_icmp .ne 9, 3) := by decide +kernel
theorem dX1_tie_51 : decode cX1_tie 51 = .ok (.aload_n 0, 1) := by decide +kernel
theorem dX1_tie_52 : decode cX1_tie 52 = .ok (.iconst 3, 1) := by decide +kernel
theorem dX1_tie_53 : decode cX1_tie 53 = .ok (.invokevirtual 88, 3) := by decide +kernel
theorem dX1_tie_56 : decode cX1_tie 56 = .ok (.ireturn, 1) := by decide +kernel
theorem dX1_tie_57 : decode cX1_tie 57 = .ok (.aload_n 0, 1) := by decide +kernel
theorem dX1_tie_58 : decode cX1_tie 58 = .ok (.getfield 25, 3) := by decide +kernel
theorem dX1_tie_61 : decode cX1_tie 61 = .ok (.aload_n 0, 1) := by decide +kernel
theorem dX1_tie_62 : decode cX1_tie 62 = .ok (.getfield 45, 3) := by decide +kernel
theorem dX1_tie_65 : decode cX1_tie 65 = .ok (.iconst 1, 1) := by decide +kernel
theorem dX1_tie_66 : decode cX1_tie 66 = .ok (.iastore, 1) := by decide +kernel
theorem dX1_tie_67 : decode cX1_tie 67 = .ok (.aload_n 0, 1) := by decide +kernel
theorem dX1_tie_68 : decode cX1_tie 68 = .ok (.getfield 28, 3) := by decide +kernel
theorem dX1_tie_71 : decode cX1_tie 71 = .ok (.iconst 5, 1) := by decide +kernel
theorem dX1_tie_72 : decode cX1_tie 72 = .ok (.aload_n 0, 1) := by decide +kernel
theorem dX1_tie_73 : decode cX1_tie 73 = .ok (.getfield 45, 3) := by decide +kernel
theorem dX1_tie_76 : decode cX1_tie 76 = .ok (.imul, 1) := by decide +kernel
theorem dX1_tie_77 : decode cX1_tie 77 = .ok (.iload_n 2, 1) := by decide +kernel
theorem dX1_tie_78 : decode cX1_tie 78 = .ok (.iastore, 1) := by decide +kernel
theorem dX1_tie_79 : decode cX1_tie 79 = .ok (.aload_n 0, 1) := by decide +kernel
theorem dX1_tie_80 : decode cX1_tie 80 = .ok (.getfield 31, 3) := by decide +kernel
theorem dX1_tie_83 : decode cX1_tie 83 = .ok (.iconst 5, 1) := by decide +kernel
theorem dX1_tie_84 : decode cX1_tie 84 = .ok (.aload_n 0, 1) := by decide +kernel
theorem dX1_tie_85 : decode cX1_tie 85 = .ok (.getfield 45, 3) := by decide +kernel
theorem dX1_tie_88 : decode cX1_tie 88 = .ok (.imul, 1) := by decide +kernel
theorem dX1_tie_89 : decode cX1_tie 89 = .ok (.iload_n 1, 1) := by decide +kernel
theorem dX1_tie_90 : decode cX1_tie 90 = .ok (.iastore, 1) := by decide +kernel
theorem dX1_tie_91 : decode cX1_tie 91 = .ok (.aload_n 0, 1) := by decide +kernel
theorem dX1_tie_92 : decode cX1_tie 92 = .ok (.dup, 1) := by decide +kernel
theorem dX1_tie_93 : decode cX1_tie 93 = .ok (.getfield 45, 3) := by decide +kernel
theorem dX1_tie_96 : decode cX1_tie 96 = .ok (.iconst 1, 1) := by decide +kernel
theorem dX1_tie_97 : decode cX1_tie 97 = .ok (.iadd, 1) := by decide +kernel
theorem dX1_tie_98 : decode cX1_tie 98 = .ok (.putfield 45, 3) := by decide +kernel
theorem dX1_tie_101 : decode cX1_tie 101 = .ok (.aload_n 0, 1) := by decide +kernel
theorem dX1_tie_102 : decode cX1_tie 102 = .ok (.getfield 45, 3) := by decide +kernel
theorem dX1_tie_105 : decode cX1_tie 105 = .ok (.iconst 1, 1) := by decide +kernel
theorem dX1_tie_106 : decode cX1_tie 106 = .ok (.isub, 1) := by decide +kernel
theorem dX1_tie_107 : decode cX1_tie 107 = .ok (.ireturn, 1) := by decide +kernel
theorem dX1_join_0 : decode cX1_join 0 = .ok (.aload_n 0, 1) := by decide +kernel
theorem dX1_join_1 : decode cX1_join 1 = .ok (.iconst 0, 1) := by decide +kernel
theorem dX1_join_2 : decode cX1_join 2 = .ok (.putfield 34, 3) := by decide +kernel
theorem dX1_join_5 : decode cX1_join 5 = .ok (.aload_n 0, 1) := by decide +kernel
theorem dX1_join_6 : decode cX1_join 6 = .ok (.iload_n 1, 1) := by decide +kernel
theorem dX1_join_7 : decode cX1_join 7 = .ok (.invokevirtual 48, 3) := by decide +kernel
theorem dX1_join_10 : decode cX1_join 10 = .ok (.ifCond .eq 11, 3) := by decide +kernel
theorem dX1_join_13 : decode cX1_join 13 = .ok (.aload_n 0, 1) := by decide +kernel
theorem dX1_join_14 : decode cX1_join 14 = .ok (.iload_n 2, 1) := by decide +kernel
theorem dX1_join_15 : decode cX1_join 15 = .ok (.invokevirtual 91, 3) := by decide +kernel
theorem dX1_join_18 : decode cX1_join 18 = .ok (.ifCond .ne 9, 3) := by decide +kernel
theorem dX1_join_21 : decode cX1_join 21 = .ok (.aload_n 0, 1) := by decide +kernel
theorem dX1_join_22 : decode cX1_join 22 = .ok (.iconst 1, 1) := by decide +kernel
theorem dX1_join_23 : decode cX1_join 23 = .ok (.invokevirtual 88, 3) := by decide +kernel
theorem dX1_join_26 : decode cX1_join 26 = .ok (.ireturn, 1) := by decide +kernel
theorem dX1_join_27 : decode cX1_join 27 = .ok (.aload_n 0, 1) := by decide +kernel
theorem dX1_join_28 : decode cX1_join 28 = .ok (.getfield 9, 3) := by decide +kernel
theorem dX1_join_31 : decode cX1_join 31 = .ok (.iload_n 2, 1) := by decide +kernel
theorem dX1_join_32 : decode cX1_join 32 = .ok (.iaload, 1) := by decide +kernel
theorem dX1_join_33 : decode cX1_join 33 = .ok (.ifCond .ne 10, 3) := by decide +kernel
theorem dX1_join_36 : decode cX1_join 36 = .ok (.iload_n 3, 1) := by decide +kernel
theorem dX1_join_37 : decode cX1_join 37 = .ok (.invokestatic 94, 3) := by decide +kernel
theorem dX1_join_40 : decode cX1_join 40 = .ok (.ifCond .ne 9, 3) := by decide +kernel
theorem dX1_join_43 : decode cX1_join 43 = .ok (.aload_n 0, 1) := by decide +kernel
theorem dX1_join_44 : decode cX1_join 44 = .ok (.iconst 2, 1) := by decide +kernel
theorem dX1_join_45 : decode cX1_join 45 = .ok (.invokevirtual 88, 3) := by decide +kernel
theorem dX1_join_48 : decode cX1_join 48 = .ok (.ireturn, 1) := by decide +kernel
theorem dX1_join_49 : decode cX1_join 49 = .ok (.aload_n 0, 1) := by decide +kernel
theorem dX1_join_50 : decode cX1_join 50 = .ok (.getfield 25, 3) := by decide +kernel
theorem dX1_join_53 : decode cX1_join 53 = .ok (.iload_n 1, 1) := by decide +kernel
theorem dX1_join_54 : decode cX1_join 54 = .ok (.iaload, 1) := by decide +kernel
theorem dX1_join_55 : decode cX1_join 55 = .ok (.ifCond .eq 13, 3) := by decide +kernel
theorem dX1_join_58 : decode cX1_join 58 = .ok (.aload_n 0, 1) := by decide +kernel
theorem dX1_join_59 : decode cX1_join 59 = .ok (.getfield 25, 3) := by decide +kernel
theorem dX1_join_62 : decode cX1_join 62 = .ok (.iload_n 1, 1) := by decide +kernel
theorem dX1_join_63 : decode cX1_join 63 = .ok (.iaload, 1) := by decide +kernel
theorem dX1_join_64 : decode cX1_join 64 = .ok (.iconst 5, 1) := by decide +kernel
theorem dX1_join_65 : decode cX1_join 65 = .ok (.if_icmp .ne 9, 3) := by decide +kernel
theorem dX1_join_68 : decode cX1_join 68 = .ok (.aload_n 0, 1) := by decide +kernel
theorem dX1_join_69 : decode cX1_join 69 = .ok (.iconst 3, 1) := by decide +kernel
theorem dX1_join_70 : decode cX1_join 70 = .ok (.invokevirtual 88, 3) := by decide +kernel
theorem dX1_join_73 : decode cX1_join 73 = .ok (.ireturn, 1) := by decide +kernel
theorem dX1_join_74 : decode cX1_join 74 = .ok (.aload_n 0, 1) := by decide +kernel
theorem dX1_join_75 : decode cX1_join 75 = .ok (.getfield 28, 3) := by decide +kernel
theorem dX1_join_78 : decode cX1_join 78 = .ok (.iconst 5, 1) := by decide +kernel
theorem dX1_join_79 : decode cX1_join 79 = .ok (.iload_n 1, 1) := by decide +kernel
theorem dX1_join_80 : decode cX1_join 80 = .ok (.imul, 1) := by decide +kernel
theorem dX1_join_81 : decode cX1_join 81 = .ok (.aload_n 0, 1) := by decide +kernel
theorem dX1_join_82 : decode cX1_join 82 = .ok (.getfield 25, 3) := by decide +kernel
theorem dX1_join_85 : decode cX1_join 85 = .ok (.iload_n 1, 1) := by decide +kernel
theorem dX1_join_86 : decode cX1_join 86 = .ok (.iaload, 1) := by decide +kernel
theorem dX1_join_87 : decode cX1_join 87 = .ok (.iadd, 1) := by decide +kernel
theorem dX1_join_88 : decode cX1_join 88 = .ok (.iload_n 3, 1) := by decide +kernel
theorem dX1_join_89 : decode cX1_join 89 = .ok (.iastore, 1) := by decide +kernel
theorem dX1_join_90 : decode cX1_join 90 = .ok (.aload_n 0, 1) := by decide +kernel
theorem dX1_join_91 : decode cX1_join 91 = .ok (.getfield 31, 3) := by decide +kernel
theorem dX1_join_94 : decode cX1_join 94 = .ok (.iconst 5, 1) := by decide +kernel
theorem dX1_join_95 : decode cX1_join 95 = .ok (.iload_n 1, 1) := by decide +kernel
theorem dX1_join_96 : decode cX1_join 96 = .ok (.imul, 1) := by decide +kernel
theorem dX1_join_97 : decode cX1_join 97 = .ok (.aload_n 0, 1) := by decide +kernel
theorem dX1_join_98 : decode cX1_join 98 = .ok (.getfield 25, 3) := by decide +kernel
theorem dX1_join_101 : decode cX1_join 101 = .ok (.iload_n 1, 1) := by decide +kernel
theorem dX1_join_102 : decode cX1_join 102 = .ok (.iaload, 1) := by decide +kernel
theorem dX1_join_103 : decode cX1_join 103 = .ok (.iadd, 1) := by decide +kernel
theorem dX1_join_104 : decode cX1_join 104 = .ok (.iload_n 2, 1) := by decide +kernel
theorem dX1_join_105 : decode cX1_join 105 = .ok (.iastore, 1) := by decide +kernel
theorem dX1_join_106 : decode cX1_join 106 = .ok (.aload_n 0, 1) := by decide +kernel
theorem dX1_join_107 : decode cX1_join 107 = .ok (.getfield 25, 3) := by decide +kernel
theorem dX1_join_110 : decode cX1_join 110 = .ok (.iload_n 1, 1) := by decide +kernel
theorem dX1_join_111 : decode cX1_join 111 = .ok (.dup2, 1) := by decide +kernel
theorem dX1_join_112 : decode cX1_join 112 = .ok (.iaload, 1) := by decide +kernel
theorem dX1_join_113 : decode cX1_join 113 = .ok (.iconst 1, 1) := by decide +kernel
theorem dX1_join_114 : decode cX1_join 114 = .ok (.iadd, 1) := by decide +kernel
theorem dX1_join_115 : decode cX1_join 115 = .ok (.iastore, 1) := by decide +kernel
theorem dX1_join_116 : decode cX1_join 116 = .ok (.aload_n 0, 1) := by decide +kernel
theorem dX1_join_117 : decode cX1_join 117 = .ok (.getfield 25, 3) := by decide +kernel
theorem dX1_join_120 : decode cX1_join 120 = .ok (.iload_n 1, 1) := by decide +kernel
theorem dX1_join_121 : decode cX1_join 121 = .ok (.iaload, 1) := by decide +kernel
theorem dX1_join_122 : decode cX1_join 122 = .ok (.ireturn, 1) := by decide +kernel
theorem dX1_retie_0 : decode cX1_retie 0 = .ok (.aload_n 0, 1) := by decide +kernel
theorem dX1_retie_1 : decode cX1_retie 1 = .ok (.iconst 0, 1) := by decide +kernel
theorem dX1_retie_2 : decode cX1_retie 2 = .ok (.putfield 34, 3) := by decide +kernel
theorem dX1_retie_5 : decode cX1_retie 5 = .ok (.aload_n 0, 1) := by decide +kernel
theorem dX1_retie_6 : decode cX1_retie 6 = .ok (.iload_n 1, 1) := by decide +kernel
theorem dX1_retie_7 : decode cX1_retie 7 = .ok (.iload_n 2, 1) := by decide +kernel
theorem dX1_retie_8 : decode cX1_retie 8 = .ok (.invokevirtual 97, 3) := by decide +kernel
theorem dX1_retie_11 : decode cX1_retie 11 = .ok (.ifCond .eq 11, 3) := by decide +kernel
theorem dX1_retie_14 : decode cX1_retie 14 = .ok (.aload_n 0, 1) := by decide +kernel
theorem dX1_retie_15 : decode cX1_retie 15 = .ok (.iload_n 3, 1) := by decide +kernel
theorem dX1_retie_16 : decode cX1_retie 16 = .ok (.invokevirtual 91, 3) := by decide +kernel
theorem dX1_retie_19 : decode cX1_retie 19 = .ok (.ifCond .ne 9, 3) := by decide +kernel
theorem dX1_retie_22 : decode cX1_retie 22 = .ok (.aload_n 0, 1) := by decide +kernel
theorem dX1_retie_23 : decode cX1_retie 23 = .ok (.iconst 1, 1) := by decide +kernel
theorem dX1_retie_24 : decode cX1_retie 24 = .ok (.invokevirtual 88, 3) := by decide +kernel
theorem dX1_retie_27 : decode cX1_retie 27 = .ok (.ireturn, 1) := by decide +kernel
theorem dX1_retie_28 : decode cX1_retie 28 = .ok (.aload_n 0, 1) := by decide +kernel
theorem dX1_retie_29 : decode cX1_retie 29 = .ok (.getfield 9, 3) := by decide +kernel
theorem dX1_retie_32 : decode cX1_retie 32 = .ok (.iload_n 3, 1) := by decide +kernel
theorem dX1_retie_33 : decode cX1_retie 33 = .ok (.iaload, 1) := by decide +kernel
theorem dX1_retie_34 : decode cX1_retie 34 = .ok (.iload_n 2, 1) := by decide +kernel
theorem dX1_retie_35 : decode cX1_retie 35 = .ok (.invokestatic 100, 3) := by decide +kernel
theorem dX1_retie_38 : decode cX1_retie 38 = .ok (.if_icmp .eq 9, 3) := by decide +kernel
theorem dX1_retie_41 : decode cX1_retie 41 = .ok (.aload_n 0, 1) := by decide +kernel
theorem dX1_retie_42 : decode cX1_retie 42 = .ok (.iconst 2, 1) := by decide +kernel
theorem dX1_retie_43 : decode cX1_retie 43 = .ok (.invokevirtual 88, 3) := by decide +kernel
theorem dX1_retie_46 : decode cX1_retie 46 = .ok (.ireturn, 1) := by decide +kernel
theorem dX1_retie_47 : decode cX1_retie 47 = .ok (.aload_n 0, 1) := by decide +kernel
theorem dX1_retie_48 : decode cX1_retie 48 = .ok (.getfield 31, 3) := by decide +kernel
theorem dX1_retie_51 : decode cX1_retie 51 = .ok (.iconst 5, 1) := by decide +kernel
theorem dX1_retie_52 : decode cX1_retie 52 = .ok (.iload_n 1, 1) := by decide +kernel
theorem dX1_retie_53 : decode cX1_retie 53 = .ok (.imul, 1) := by decide +kernel
theorem dX1_retie_54 : decode cX1_retie 54 = .ok (.iload_n 2, 1) := by decide +kernel
theorem dX1_retie_55 : decode cX1_retie 55 = .ok (.iadd, 1) := by decide +kernel
theorem dX1_retie_56 : decode cX1_retie 56 = .ok (.iaload, 1) := by decide +kernel
theorem dX1_retie_57 : decode cX1_retie 57 = .ok (.istore 4, 2) := by decide +kernel
theorem dX1_retie_59 : decode cX1_retie 59 = .ok (.aload_n 0, 1) := by decide +kernel
theorem dX1_retie_60 : decode cX1_retie 60 = .ok (.getfield 31, 3) := by decide +kernel
theorem dX1_retie_63 : decode cX1_retie 63 = .ok (.iconst 5, 1) := by decide +kernel
theorem dX1_retie_64 : decode cX1_retie 64 = .ok (.iload_n 1, 1) := by decide +kernel
theorem dX1_retie_65 : decode cX1_retie 65 = .ok (.imul, 1) := by decide +kernel
theorem dX1_retie_66 : decode cX1_retie 66 = .ok (.iload_n 2, 1) := by decide +kernel
theorem dX1_retie_67 : decode cX1_retie 67 = .ok (.iadd, 1) := by decide +kernel
theorem dX1_retie_68 : decode cX1_retie 68 = .ok (.iload_n 3, 1) := by decide +kernel
theorem dX1_retie_69 : decode cX1_retie 69 = .ok (.iastore, 1) := by decide +kernel
theorem dX1_retie_70 : decode cX1_retie 70 = .ok (.iload 4, 2) := by decide +kernel
theorem dX1_retie_72 : decode cX1_retie 72 = .ok (.ireturn, 1) := by decide +kernel
theorem dX1_pull_0 : decode cX1_pull 0 = .ok (.aload_n 0, 1) := by decide +kernel
theorem dX1_pull_1 : decode cX1_pull 1 = .ok (.iconst 0, 1) := by decide +kernel
theorem dX1_pull_2 : decode cX1_pull 2 = .ok (.putfield 34, 3) := by decide +kernel
theorem dX1_pull_5 : decode cX1_pull 5 = .ok (.aload_n 0, 1) := by decide +kernel
theorem dX1_pull_6 : decode cX1_pull 6 = .ok (.iload_n 1, 1) := by decide +kernel
theorem dX1_pull_7 : decode cX1_pull 7 = .ok (.invokevirtual 48, 3) := by decide +kernel
theorem dX1_pull_10 : decode cX1_pull 10 = .ok (.ifCond .ne 9, 3) := by decide +kernel
theorem dX1_pull_13 : decode cX1_pull 13 = .ok (.aload_n 0, 1) := by decide +kernel
theorem dX1_pull_14 : decode cX1_pull 14 = .ok (.iconst 1, 1) := by decide +kernel
theorem dX1_pull_15 : decode cX1_pull 15 = .ok (.invokevirtual 88, 3) := by decide +kernel
theorem dX1_pull_18 : decode cX1_pull 18 = .ok (.ireturn, 1) := by decide +kernel
theorem dX1_pull_19 : decode cX1_pull 19 = .ok (.iload_n 2, 1) := by decide +kernel
theorem dX1_pull_20 : decode cX1_pull 20 = .ok (.invokestatic 94, 3) := by decide +kernel
theorem dX1_pull_23 : decode cX1_pull 23 = .ok (.ifCond .ne 9, 3) := by decide +kernel
theorem dX1_pull_26 : decode cX1_pull 26 = .ok (.aload_n 0, 1) := by decide +kernel
theorem dX1_pull_27 : decode cX1_pull 27 = .ok (.iconst 2, 1) := by decide +kernel
theorem dX1_pull_28 : decode cX1_pull 28 = .ok (.invokevirtual 88, 3) := by decide +kernel
theorem dX1_pull_31 : decode cX1_pull 31 = .ok (.ireturn, 1) := by decide +kernel
theorem dX1_pull_32 : decode cX1_pull 32 = .ok (.aload_n 0, 1) := by decide +kernel
theorem dX1_pull_33 : decode cX1_pull 33 = .ok (.getfield 25, 3) := by decide +kernel
theorem dX1_pull_36 : decode cX1_pull 36 = .ok (.iload_n 1, 1) := by decide +kernel
theorem dX1_pull_37 : decode cX1_pull 37 = .ok (.iaload, 1) := by decide +kernel
theorem dX1_pull_38 : decode cX1_pull 38 = .ok (.ifCond .ne 9, 3) := by decide +kernel
theorem dX1_pull_41 : decode cX1_pull 41 = .ok (.aload_n 0, 1) := by decide +kernel
theorem dX1_pull_42 : decode cX1_pull 42 = .ok (.iconst 3, 1) := by decide +kernel
theorem dX1_pull_43 : decode cX1_pull 43 = .ok (.invokevirtual 88, 3) := by decide +kernel
theorem dX1_pull_46 : decode cX1_pull 46 = .ok (.ireturn, 1) := by decide +kernel
theorem dX1_pull_47 : decode cX1_pull 47 = .ok (.aload_n 0, 1) := by decide +kernel
theorem dX1_pull_48 : decode cX1_pull 48 = .ok (.iload_n 1, 1) := by decide +kernel
theorem dX1_pull_49 : decode cX1_pull 49 = .ok (.iload_n 2, 1) := by decide +kernel
theorem dX1_pull_50 : decode cX1_pull 50 = .ok (.invokevirtual 103, 3) := by decide +kernel
theorem dX1_pull_53 : decode cX1_pull 53 = .ok (.istore_n 3, 1) := by decide +kernel
theorem dX1_pull_54 : decode cX1_pull 54 = .ok (.iload_n 3, 1) := by decide +kernel
theorem dX1_pull_55 : decode cX1_pull 55 = .ok (.iconst (-1), 1) := by decide +kernel
theorem dX1_pull_56 : decode cX1_pull 56 = .ok (.if_icmp .eq 10, 3) := by decide +kernel
theorem dX1_pull_59 : decode cX1_pull 59 = .ok (.aload_n 0, 1) := by decide +kernel
theorem dX1_pull_60 : decode cX1_pull 60 = .ok (.getfield 25, 3) := by decide +kernel
theorem dX1_pull_63 : decode cX1_pull 63 = .ok (.iload_n 1, 1) := by decide +kernel
theorem dX1_pull_64 : decode cX1_pull 64 = .ok (.iload_n 3, 1) := by decide +kernel
theorem dX1_pull_65 : decode cX1_pull 65 = .ok (.iastore, 1) := by decide +kernel
theorem dX1_pull_66 : decode cX1_pull 66 = .ok (.iconst 0, 1) := by decide +kernel
theorem dX1_pull_67 : decode cX1_pull 67 = .ok (.istore 4, 2) := by decide +kernel
theorem dX1_pull_69 : decode cX1_pull 69 = .ok (.iload 4, 2) := by decide +kernel
theorem dX1_pull_71 : decode cX1_pull 71 = .ok (.aload_n 0, 1) := by decide +kernel
theorem dX1_pull_72 : decode cX1_pull 72 = .ok (.getfield 25, 3) := by decide +kernel
theorem dX1_pull_75 : decode cX1_pull 75 = .ok (.iload_n 1, 1) := by decide +kernel
theorem dX1_pull_76 : decode cX1_pull 76 = .ok (.iaload, 1) := by decide +kernel
theorem dX1_pull_77 : decode cX1_pull 77 = .ok (.if_icmp .ge 36, 3) := by decide +kernel
theorem dX1_pull_80 : decode cX1_pull 80 = .ok (.aload_n 0, 1) := by decide +kernel
theorem dX1_pull_81 : decode cX1_pull 81 = .ok (.getfield 31, 3) := by decide +kernel
theorem dX1_pull_84 : decode cX1_pull 84 = .ok (.iconst 5, 1) := by decide +kernel
theorem dX1_pull_85 : decode cX1_pull 85 = .ok (.iload_n 1, 1) := by decide +kernel
theorem dX1_pull_86 : decode cX1_pull 86 = .ok (.imul, 1) := by decide +kernel
theorem dX1_pull_87 : decode cX1_pull 87 = .ok (.iload 4, 2) := by decide +kernel
theorem dX1_pull_89 : decode cX1_pull 89 = .ok (.iadd, 1) := by decide +kernel
theorem dX1_pull_90 : decode cX1_pull 90 = .ok (.aload_n 0, 1) := by decide +kernel
theorem dX1_pull_91 : decode cX1_pull 91 = .ok (.aload_n 0, 1) := by decide +kernel
theorem dX1_pull_92 : decode cX1_pull 92 = .ok (.getfield 31, 3) := by decide +kernel
theorem dX1_pull_95 : decode cX1_pull 95 = .ok (.iconst 5, 1) := by decide +kernel
theorem dX1_pull_96 : decode cX1_pull 96 = .ok (.iload_n 1, 1) := by decide +kernel
theorem dX1_pull_97 : decode cX1_pull 97 = .ok (.imul, 1) := by decide +kernel
theorem dX1_pull_98 : decode cX1_pull 98 = .ok (.iload 4, 2) := by decide +kernel
theorem dX1_pull_100 : decode cX1_pull 100 = .ok (.iadd, 1) := by decide +kernel
theorem dX1_pull_101 : decode cX1_pull 101 = .ok (.iaload, 1) := by decide +kernel
theorem dX1_pull_102 : decode cX1_pull 102 = .ok (.iload_n 2, 1) := by decide +kernel
theorem dX1_pull_103 : decode cX1_pull 103 = .ok (.invokevirtual 68, 3) := by decide +kernel
theorem dX1_pull_106 : decode cX1_pull 106 = .ok (.iastore, 1) := by decide +kernel
theorem dX1_pull_107 : decode cX1_pull 107 = .ok (.iinc 4 1, 3) := by decide +kernel
theorem dX1_pull_110 : decode cX1_pull 110 = .ok (.goto (-41), 3) := by decide +kernel
theorem dX1_pull_113 : decode cX1_pull 113 = .ok (.iload_n 3, 1) := by decide +kernel
theorem dX1_pull_114 : decode cX1_pull 114 = .ok (.ireturn, 1) := by decide +kernel
theorem dX1_knots_0 : decode cX1_knots 0 = .ok (.aload_n 0, 1) := by decide +kernel
theorem dX1_knots_1 : decode cX1_knots 1 = .ok (.aload_n 0, 1) := by decide +kernel
theorem dX1_knots_2 : decode cX1_knots 2 = .ok (.getfield 38, 3) := by decide +kernel
theorem dX1_knots_5 : decode cX1_knots 5 = .ok (.invokevirtual 106, 3) := by decide +kernel
theorem dX1_knots_8 : decode cX1_knots 8 = .ok (.ireturn, 1) := by decide +kernel
theorem dX1_many_0 : decode cX1_many 0 = .ok (.iconst 0, 1) := by decide +kernel
theorem dX1_many_1 : decode cX1_many 1 = .ok (.istore_n 2, 1) := by decide +kernel
theorem dX1_many_2 : decode cX1_many 2 = .ok (.iconst 0, 1) := by decide +kernel
theorem dX1_many_3 : decode cX1_many 3 = .ok (.istore_n 3, 1) := by decide +kernel
theorem dX1_many_4 : decode cX1_many 4 = .ok (.iload_n 3, 1) := by decide +kernel
theorem dX1_many_5 : decode cX1_many 5 = .ok (.aload_n 0, 1) := by decide +kernel
theorem dX1_many_6 : decode cX1_many 6 = .ok (.getfield 38, 3) := by decide +kernel
theorem dX1_many_9 : decode cX1_many 9 = .ok (.if_icmp .ge 27, 3) := by decide +kernel
theorem dX1_many_12 : decode cX1_many 12 = .ok (.iload_n 2, 1) := by decide +kernel
theorem dX1_many_13 : decode cX1_many 13 = .ok (.aload_n 0, 1) := by decide +kernel
theorem dX1_many_14 : decode cX1_many 14 = .ok (.getfield 9, 3) := by decide +kernel
theorem dX1_many_17 : decode cX1_many 17 = .ok (.iload_n 3, 1) := by decide +kernel
theorem dX1_many_18 : decode cX1_many 18 = .ok (.iaload, 1) := by decide +kernel
theorem dX1_many_19 : decode cX1_many 19 = .ok (.iload_n 1, 1) := by decide +kernel
theorem dX1_many_20 : decode cX1_many 20 = .ok (.if_icmp .ne 7, 3) := by decide +kernel
theorem dX1_many_23 : decode cX1_many 23 = .ok (.iconst 1, 1) := by decide +kernel
theorem dX1_many_24 : decode cX1_many 24 = .ok (.goto 4, 3) := by decide +kernel
theorem dX1_many_27 : decode cX1_many 27 = .ok (.iconst 0, 1) := by decide +kernel
theorem dX1_many_28 : decode cX1_many 28 = .ok (.iadd, 1) := by decide +kernel
theorem dX1_many_29 : decode cX1_many 29 = .ok (.istore_n 2, 1) := by decide +kernel
theorem dX1_many_30 : decode cX1_many 30 = .ok (.iinc 3 1, 3) := by decide +kernel
theorem dX1_many_33 : decode cX1_many 33 = .ok (.goto (-29), 3) := by decide +kernel
theorem dX1_many_36 : decode cX1_many 36 = .ok (.iload_n 2, 1) := by decide +kernel
theorem dX1_many_37 : decode cX1_many 37 = .ok (.ireturn, 1) := by decide +kernel
theorem dX1_knotsOf_0 : decode cX1_knotsOf 0 = .ok (.aload_n 0, 1) := by decide +kernel
theorem dX1_knotsOf_1 : decode cX1_knotsOf 1 = .ok (.iconst 0, 1) := by decide +kernel
theorem dX1_knotsOf_2 : decode cX1_knotsOf 2 = .ok (.putfield 34, 3) := by decide +kernel
theorem dX1_knotsOf_5 : decode cX1_knotsOf 5 = .ok (.iload_n 1, 1) := by decide +kernel
theorem dX1_knotsOf_6 : decode cX1_knotsOf 6 = .ok (.iconst 0, 1) := by decide +kernel
theorem dX1_knotsOf_7 : decode cX1_knotsOf 7 = .ok (.iconst 1, 1) := by decide +kernel
theorem dX1_knotsOf_8 : decode cX1_knotsOf 8 = .ok (.invokestatic 41, 3) := by decide +kernel
theorem dX1_knotsOf_11 : decode cX1_knotsOf 11 = .ok (.ifCond .eq 11, 3) := by decide +kernel
theorem dX1_knotsOf_14 : decode cX1_knotsOf 14 = .ok (.aload_n 0, 1) := by decide +kernel
theorem dX1_knotsOf_15 : decode cX1_knotsOf 15 = .ok (.iload_n 1, 1) := by decide +kernel
theorem dX1_knotsOf_16 : decode cX1_knotsOf 16 = .ok (.invokevirtual 109, 3) := by decide +kernel
theorem dX1_knotsOf_19 : decode cX1_knotsOf 19 = .ok (.goto 8, 3) := by decide +kernel
theorem dX1_knotsOf_22 : decode cX1_knotsOf 22 = .ok (.aload_n 0, 1) := by decide +kernel
theorem dX1_knotsOf_23 : decode cX1_knotsOf 23 = .ok (.iconst 1, 1) := by decide +kernel
theorem dX1_knotsOf_24 : decode cX1_knotsOf 24 = .ok (.invokevirtual 88, 3) := by decide +kernel
theorem dX1_knotsOf_27 : decode cX1_knotsOf 27 = .ok (.ireturn, 1) := by decide +kernel
theorem dX1_of_0 : decode cX1_of 0 = .ok (.aload_n 0, 1) := by decide +kernel
theorem dX1_of_1 : decode cX1_of 1 = .ok (.iconst 0, 1) := by decide +kernel
theorem dX1_of_2 : decode cX1_of 2 = .ok (.putfield 34, 3) := by decide +kernel
theorem dX1_of_5 : decode cX1_of 5 = .ok (.aload_n 0, 1) := by decide +kernel
theorem dX1_of_6 : decode cX1_of 6 = .ok (.iload_n 1, 1) := by decide +kernel
theorem dX1_of_7 : decode cX1_of 7 = .ok (.invokevirtual 91, 3) := by decide +kernel
theorem dX1_of_10 : decode cX1_of 10 = .ok (.ifCond .eq 9, 3) := by decide +kernel
theorem dX1_of_13 : decode cX1_of 13 = .ok (.aload_n 2, 1) := by decide +kernel
theorem dX1_of_14 : decode cX1_of 14 = .ok (.iload_n 1, 1) := by decide +kernel
theorem dX1_of_15 : decode cX1_of 15 = .ok (.iaload, 1) := by decide +kernel
theorem dX1_of_16 : decode cX1_of 16 = .ok (.goto 8, 3) := by decide +kernel
theorem dX1_of_19 : decode cX1_of 19 = .ok (.aload_n 0, 1) := by decide +kernel
theorem dX1_of_20 : decode cX1_of 20 = .ok (.iconst 1, 1) := by decide +kernel
theorem dX1_of_21 : decode cX1_of 21 = .ok (.invokevirtual 88, 3) := by decide +kernel
theorem dX1_of_24 : decode cX1_of 24 = .ok (.ireturn, 1) := by decide +kernel
theorem dX1_kindOf_0 : decode cX1_kindOf 0 = .ok (.aload_n 0, 1) := by decide +kernel
theorem dX1_kindOf_1 : decode cX1_kindOf 1 = .ok (.iload_n 1, 1) := by decide +kernel
theorem dX1_kindOf_2 : decode cX1_kindOf 2 = .ok (.aload_n 0, 1) := by decide +kernel
theorem dX1_kindOf_3 : decode cX1_kindOf 3 = .ok (.getfield 9, 3) := by decide +kernel
theorem dX1_kindOf_6 : decode cX1_kindOf 6 = .ok (.invokevirtual 112, 3) := by decide +kernel
theorem dX1_kindOf_9 : decode cX1_kindOf 9 = .ok (.ireturn, 1) := by decide +kernel
theorem dX1_efficiencyOf_0 : decode cX1_efficiencyOf 0 = .ok (.aload_n 0, 1) := by decide +kernel
theorem dX1_efficiencyOf_1 : decode cX1_efficiencyOf 1 = .ok (.iload_n 1, 1) := by decide +kernel
theorem dX1_efficiencyOf_2 : decode cX1_efficiencyOf 2 = .ok (.aload_n 0, 1) := by decide +kernel
theorem dX1_efficiencyOf_3 : decode cX1_efficiencyOf 3 = .ok (.getfield 13, 3) := by decide +kernel
theorem dX1_efficiencyOf_6 : decode cX1_efficiencyOf 6 = .ok (.invokevirtual 112, 3) := by decide +kernel
theorem dX1_efficiencyOf_9 : decode cX1_efficiencyOf 9 = .ok (.ireturn, 1) := by decide +kernel
theorem dX1_crossingsOf_0 : decode cX1_crossingsOf 0 = .ok (.aload_n 0, 1) := by decide +kernel
theorem dX1_crossingsOf_1 : decode cX1_crossingsOf 1 = .ok (.iload_n 1, 1) := by decide +kernel
theorem dX1_crossingsOf_2 : decode cX1_crossingsOf 2 = .ok (.aload_n 0, 1) := by decide +kernel
theorem dX1_crossingsOf_3 : decode cX1_crossingsOf 3 = .ok (.getfield 16, 3) := by decide +kernel
theorem dX1_crossingsOf_6 : decode cX1_crossingsOf 6 = .ok (.invokevirtual 112, 3) := by decide +kernel
theorem dX1_crossingsOf_9 : decode cX1_crossingsOf 9 = .ok (.ireturn, 1) := by decide +kernel
theorem dX1_spillsAt_0 : decode cX1_spillsAt 0 = .ok (.aload_n 0, 1) := by decide +kernel
theorem dX1_spillsAt_1 : decode cX1_spillsAt 1 = .ok (.iload_n 1, 1) := by decide +kernel
theorem dX1_spillsAt_2 : decode cX1_spillsAt 2 = .ok (.aload_n 0, 1) := by decide +kernel
theorem dX1_spillsAt_3 : decode cX1_spillsAt 3 = .ok (.getfield 19, 3) := by decide +kernel
theorem dX1_spillsAt_6 : decode cX1_spillsAt 6 = .ok (.invokevirtual 112, 3) := by decide +kernel
theorem dX1_spillsAt_9 : decode cX1_spillsAt 9 = .ok (.ireturn, 1) := by decide +kernel
theorem dX1_spillsInto_0 : decode cX1_spillsInto 0 = .ok (.aload_n 0, 1) := by decide +kernel
theorem dX1_spillsInto_1 : decode cX1_spillsInto 1 = .ok (.iload_n 1, 1) := by decide +kernel
theorem dX1_spillsInto_2 : decode cX1_spillsInto 2 = .ok (.aload_n 0, 1) := by decide +kernel
theorem dX1_spillsInto_3 : decode cX1_spillsInto 3 = .ok (.getfield 22, 3) := by decide +kernel
theorem dX1_spillsInto_6 : decode cX1_spillsInto 6 = .ok (.invokevirtual 112, 3) := by decide +kernel
theorem dX1_spillsInto_9 : decode cX1_spillsInto 9 = .ok (.ireturn, 1) := by decide +kernel
theorem dX1_rankOf_0 : decode cX1_rankOf 0 = .ok (.aload_n 0, 1) := by decide +kernel
theorem dX1_rankOf_1 : decode cX1_rankOf 1 = .ok (.iconst 0, 1) := by decide +kernel
theorem dX1_rankOf_2 : decode cX1_rankOf 2 = .ok (.putfield 34, 3) := by decide +kernel
theorem dX1_rankOf_5 : decode cX1_rankOf 5 = .ok (.aload_n 0, 1) := by decide +kernel
theorem dX1_rankOf_6 : decode cX1_rankOf 6 = .ok (.iload_n 1, 1) := by decide +kernel
theorem dX1_rankOf_7 : decode cX1_rankOf 7 = .ok (.invokevirtual 91, 3) := by decide +kernel
theorem dX1_rankOf_10 : decode cX1_rankOf 10 = .ok (.ifCond .eq 11, 3) := by decide +kernel
theorem dX1_rankOf_13 : decode cX1_rankOf 13 = .ok (.aload_n 0, 1) := by decide +kernel
theorem dX1_rankOf_14 : decode cX1_rankOf 14 = .ok (.iload_n 1, 1) := by decide +kernel
theorem dX1_rankOf_15 : decode cX1_rankOf 15 = .ok (.invokevirtual 116, 3) := by decide +kernel
theorem dX1_rankOf_18 : decode cX1_rankOf 18 = .ok (.goto 8, 3) := by decide +kernel
theorem dX1_rankOf_21 : decode cX1_rankOf 21 = .ok (.aload_n 0, 1) := by decide +kernel
theorem dX1_rankOf_22 : decode cX1_rankOf 22 = .ok (.iconst 1, 1) := by decide +kernel
theorem dX1_rankOf_23 : decode cX1_rankOf 23 = .ok (.invokevirtual 88, 3) := by decide +kernel
theorem dX1_rankOf_26 : decode cX1_rankOf 26 = .ok (.ireturn, 1) := by decide +kernel
theorem dX1_knotAt_0 : decode cX1_knotAt 0 = .ok (.aload_n 0, 1) := by decide +kernel
theorem dX1_knotAt_1 : decode cX1_knotAt 1 = .ok (.iconst 0, 1) := by decide +kernel
theorem dX1_knotAt_2 : decode cX1_knotAt 2 = .ok (.putfield 34, 3) := by decide +kernel
theorem dX1_knotAt_5 : decode cX1_knotAt 5 = .ok (.iconst 0, 1) := by decide +kernel
theorem dX1_knotAt_6 : decode cX1_knotAt 6 = .ok (.istore_n 3, 1) := by decide +kernel
theorem dX1_knotAt_7 : decode cX1_knotAt 7 = .ok (.iload_n 3, 1) := by decide +kernel
theorem dX1_knotAt_8 : decode cX1_knotAt 8 = .ok (.aload_n 0, 1) := by decide +kernel
theorem dX1_knotAt_9 : decode cX1_knotAt 9 = .ok (.getfield 38, 3) := by decide +kernel
theorem dX1_knotAt_12 : decode cX1_knotAt 12 = .ok (.if_icmp .ge 30, 3) := by decide +kernel
theorem dX1_knotAt_15 : decode cX1_knotAt 15 = .ok (.aload_n 0, 1) := by decide +kernel
theorem dX1_knotAt_16 : decode cX1_knotAt 16 = .ok (.getfield 9, 3) := by decide +kernel
theorem dX1_knotAt_19 : decode cX1_knotAt 19 = .ok (.iload_n 3, 1) := by decide +kernel
theorem dX1_knotAt_20 : decode cX1_knotAt 20 = .ok (.iaload, 1) := by decide +kernel
theorem dX1_knotAt_21 : decode cX1_knotAt 21 = .ok (.iload_n 1, 1) := by decide +kernel
theorem dX1_knotAt_22 : decode cX1_knotAt 22 = .ok (.if_icmp .ne 14, 3) := by decide +kernel
theorem dX1_knotAt_25 : decode cX1_knotAt 25 = .ok (.aload_n 0, 1) := by decide +kernel
theorem dX1_knotAt_26 : decode cX1_knotAt 26 = .ok (.iload_n 3, 1) := by decide +kernel
theorem dX1_knotAt_27 : decode cX1_knotAt 27 = .ok (.invokevirtual 116, 3) := by decide +kernel
theorem dX1_knotAt_30 : decode cX1_knotAt 30 = .ok (.iload_n 2, 1) := by decide +kernel
theorem dX1_knotAt_31 : decode cX1_knotAt 31 = .ok (.if_icmp .ne 5, 3) := by decide +kernel
theorem dX1_knotAt_34 : decode cX1_knotAt 34 = .ok (.iload_n 3, 1) := by decide +kernel
theorem dX1_knotAt_35 : decode cX1_knotAt 35 = .ok (.ireturn, 1) := by decide +kernel
theorem dX1_knotAt_36 : decode cX1_knotAt 36 = .ok (.iinc 3 1, 3) := by decide +kernel
theorem dX1_knotAt_39 : decode cX1_knotAt 39 = .ok (.goto (-32), 3) := by decide +kernel
theorem dX1_knotAt_42 : decode cX1_knotAt 42 = .ok (.aload_n 0, 1) := by decide +kernel
theorem dX1_knotAt_43 : decode cX1_knotAt 43 = .ok (.iconst 1, 1) := by decide +kernel
theorem dX1_knotAt_44 : decode cX1_knotAt 44 = .ok (.invokevirtual 88, 3) := by decide +kernel
theorem dX1_knotAt_47 : decode cX1_knotAt 47 = .ok (.ireturn, 1) := by decide +kernel
theorem dX1_isLoaded_0 : decode cX1_isLoaded 0 = .ok (.aload_n 0, 1) := by decide +kernel
theorem dX1_isLoaded_1 : decode cX1_isLoaded 1 = .ok (.aload_n 0, 1) := by decide +kernel
theorem dX1_isLoaded_2 : decode cX1_isLoaded 2 = .ok (.iload_n 1, 1) := by decide +kernel
theorem dX1_isLoaded_3 : decode cX1_isLoaded 3 = .ok (.invokevirtual 91, 3) := by decide +kernel
theorem dX1_isLoaded_6 : decode cX1_isLoaded 6 = .ok (.ifCond .ne 7, 3) := by decide +kernel
theorem dX1_isLoaded_9 : decode cX1_isLoaded 9 = .ok (.iconst 1, 1) := by decide +kernel
theorem dX1_isLoaded_10 : decode cX1_isLoaded 10 = .ok (.goto 15, 3) := by decide +kernel
theorem dX1_isLoaded_13 : decode cX1_isLoaded 13 = .ok (.iload_n 2, 1) := by decide +kernel
theorem dX1_isLoaded_14 : decode cX1_isLoaded 14 = .ok (.invokestatic 94, 3) := by decide +kernel
theorem dX1_isLoaded_17 : decode cX1_isLoaded 17 = .ok (.ifCond .eq 7, 3) := by decide +kernel
theorem dX1_isLoaded_20 : decode cX1_isLoaded 20 = .ok (.iconst 0, 1) := by decide +kernel
theorem dX1_isLoaded_21 : decode cX1_isLoaded 21 = .ok (.goto 4, 3) := by decide +kernel
theorem dX1_isLoaded_24 : decode cX1_isLoaded 24 = .ok (.iconst 2, 1) := by decide +kernel
theorem dX1_isLoaded_25 : decode cX1_isLoaded 25 = .ok (.putfield 34, 3) := by decide +kernel
theorem dX1_isLoaded_28 : decode cX1_isLoaded 28 = .ok (.aload_n 0, 1) := by decide +kernel
theorem dX1_isLoaded_29 : decode cX1_isLoaded 29 = .ok (.getfield 34, 3) := by decide +kernel
theorem dX1_isLoaded_32 : decode cX1_isLoaded 32 = .ok (.ifCond .ne 7, 3) := by decide +kernel
theorem dX1_isLoaded_35 : decode cX1_isLoaded 35 = .ok (.iconst 1, 1) := by decide +kernel
theorem dX1_isLoaded_36 : decode cX1_isLoaded 36 = .ok (.goto 4, 3) := by decide +kernel
theorem dX1_isLoaded_39 : decode cX1_isLoaded 39 = .ok (.iconst 0, 1) := by decide +kernel
theorem dX1_isLoaded_40 : decode cX1_isLoaded 40 = .ok (.ireturn, 1) := by decide +kernel
theorem dX1_formOf_0 : decode cX1_formOf 0 = .ok (.aload_n 0, 1) := by decide +kernel
theorem dX1_formOf_1 : decode cX1_formOf 1 = .ok (.iload_n 1, 1) := by decide +kernel
theorem dX1_formOf_2 : decode cX1_formOf 2 = .ok (.iload_n 2, 1) := by decide +kernel
theorem dX1_formOf_3 : decode cX1_formOf 3 = .ok (.invokevirtual 119, 3) := by decide +kernel
theorem dX1_formOf_6 : decode cX1_formOf 6 = .ok (.ifCond .eq 12, 3) := by decide +kernel
theorem dX1_formOf_9 : decode cX1_formOf 9 = .ok (.aload_n 0, 1) := by decide +kernel
theorem dX1_formOf_10 : decode cX1_formOf 10 = .ok (.iload_n 1, 1) := by decide +kernel
theorem dX1_formOf_11 : decode cX1_formOf 11 = .ok (.iload_n 2, 1) := by decide +kernel
theorem dX1_formOf_12 : decode cX1_formOf 12 = .ok (.invokevirtual 68, 3) := by decide +kernel
theorem dX1_formOf_15 : decode cX1_formOf 15 = .ok (.goto 4, 3) := by decide +kernel
theorem dX1_formOf_18 : decode cX1_formOf 18 = .ok (.iconst 0, 1) := by decide +kernel
theorem dX1_formOf_19 : decode cX1_formOf 19 = .ok (.ireturn, 1) := by decide +kernel
theorem dX1_spills_0 : decode cX1_spills 0 = .ok (.aload_n 0, 1) := by decide +kernel
theorem dX1_spills_1 : decode cX1_spills 1 = .ok (.iload_n 1, 1) := by decide +kernel
theorem dX1_spills_2 : decode cX1_spills 2 = .ok (.iload_n 2, 1) := by decide +kernel
theorem dX1_spills_3 : decode cX1_spills 3 = .ok (.invokevirtual 119, 3) := by decide +kernel
theorem dX1_spills_6 : decode cX1_spills 6 = .ok (.ifCond .eq 12, 3) := by decide +kernel
theorem dX1_spills_9 : decode cX1_spills 9 = .ok (.aload_n 0, 1) := by decide +kernel
theorem dX1_spills_10 : decode cX1_spills 10 = .ok (.iload_n 1, 1) := by decide +kernel
theorem dX1_spills_11 : decode cX1_spills 11 = .ok (.iload_n 2, 1) := by decide +kernel
theorem dX1_spills_12 : decode cX1_spills 12 = .ok (.invokevirtual 122, 3) := by decide +kernel
theorem dX1_spills_15 : decode cX1_spills 15 = .ok (.goto 4, 3) := by decide +kernel
theorem dX1_spills_18 : decode cX1_spills 18 = .ok (.iconst 0, 1) := by decide +kernel
theorem dX1_spills_19 : decode cX1_spills 19 = .ok (.ireturn, 1) := by decide +kernel
theorem dX1_fallsApartAt_0 : decode cX1_fallsApartAt 0 = .ok (.aload_n 0, 1) := by decide +kernel
theorem dX1_fallsApartAt_1 : decode cX1_fallsApartAt 1 = .ok (.iconst 0, 1) := by decide +kernel
theorem dX1_fallsApartAt_2 : decode cX1_fallsApartAt 2 = .ok (.putfield 34, 3) := by decide +kernel
theorem dX1_fallsApartAt_5 : decode cX1_fallsApartAt 5 = .ok (.aload_n 0, 1) := by decide +kernel
theorem dX1_fallsApartAt_6 : decode cX1_fallsApartAt 6 = .ok (.iload_n 1, 1) := by decide +kernel
theorem dX1_fallsApartAt_7 : decode cX1_fallsApartAt 7 = .ok (.invokevirtual 91, 3) := by decide +kernel
theorem dX1_fallsApartAt_10 : decode cX1_fallsApartAt 10 = .ok (.ifCond .eq 11, 3) := by decide +kernel
theorem dX1_fallsApartAt_13 : decode cX1_fallsApartAt 13 = .ok (.aload_n 0, 1) := by decide +kernel
theorem dX1_fallsApartAt_14 : decode cX1_fallsApartAt 14 = .ok (.iload_n 1, 1) := by decide +kernel
theorem dX1_fallsApartAt_15 : decode cX1_fallsApartAt 15 = .ok (.invokevirtual 125, 3) := by decide +kernel
theorem dX1_fallsApartAt_18 : decode cX1_fallsApartAt 18 = .ok (.goto 8, 3) := by decide +kernel
theorem dX1_fallsApartAt_21 : decode cX1_fallsApartAt 21 = .ok (.aload_n 0, 1) := by decide +kernel
theorem dX1_fallsApartAt_22 : decode cX1_fallsApartAt 22 = .ok (.iconst 1, 1) := by decide +kernel
theorem dX1_fallsApartAt_23 : decode cX1_fallsApartAt 23 = .ok (.invokevirtual 88, 3) := by decide +kernel
theorem dX1_fallsApartAt_26 : decode cX1_fallsApartAt 26 = .ok (.ireturn, 1) := by decide +kernel
theorem dX1_lines_0 : decode cX1_lines 0 = .ok (.aload_n 0, 1) := by decide +kernel
theorem dX1_lines_1 : decode cX1_lines 1 = .ok (.aload_n 0, 1) := by decide +kernel
theorem dX1_lines_2 : decode cX1_lines 2 = .ok (.getfield 45, 3) := by decide +kernel
theorem dX1_lines_5 : decode cX1_lines 5 = .ok (.invokevirtual 106, 3) := by decide +kernel
theorem dX1_lines_8 : decode cX1_lines 8 = .ok (.ireturn, 1) := by decide +kernel
theorem dX1_ropesOf_0 : decode cX1_ropesOf 0 = .ok (.aload_n 0, 1) := by decide +kernel
theorem dX1_ropesOf_1 : decode cX1_ropesOf 1 = .ok (.iconst 0, 1) := by decide +kernel
theorem dX1_ropesOf_2 : decode cX1_ropesOf 2 = .ok (.putfield 34, 3) := by decide +kernel
theorem dX1_ropesOf_5 : decode cX1_ropesOf 5 = .ok (.aload_n 0, 1) := by decide +kernel
theorem dX1_ropesOf_6 : decode cX1_ropesOf 6 = .ok (.iload_n 1, 1) := by decide +kernel
theorem dX1_ropesOf_7 : decode cX1_ropesOf 7 = .ok (.invokevirtual 48, 3) := by decide +kernel
theorem dX1_ropesOf_10 : decode cX1_ropesOf 10 = .ok (.ifCond .eq 12, 3) := by decide +kernel
theorem dX1_ropesOf_13 : decode cX1_ropesOf 13 = .ok (.aload_n 0, 1) := by decide +kernel
theorem dX1_ropesOf_14 : decode cX1_ropesOf 14 = .ok (.getfield 25, 3) := by decide +kernel
theorem dX1_ropesOf_17 : decode cX1_ropesOf 17 = .ok (.iload_n 1, 1) := by decide +kernel
theorem dX1_ropesOf_18 : decode cX1_ropesOf 18 = .ok (.iaload, 1) := by decide +kernel
theorem dX1_ropesOf_19 : decode cX1_ropesOf 19 = .ok (.goto 8, 3) := by decide +kernel
theorem dX1_ropesOf_22 : decode cX1_ropesOf 22 = .ok (.aload_n 0, 1) := by decide +kernel
theorem dX1_ropesOf_23 : decode cX1_ropesOf 23 = .ok (.iconst 1, 1) := by decide +kernel
theorem dX1_ropesOf_24 : decode cX1_ropesOf 24 = .ok (.invokevirtual 88, 3) := by decide +kernel
theorem dX1_ropesOf_27 : decode cX1_ropesOf 27 = .ok (.ireturn, 1) := by decide +kernel
theorem dX1_knotOf_0 : decode cX1_knotOf 0 = .ok (.aload_n 0, 1) := by decide +kernel
theorem dX1_knotOf_1 : decode cX1_knotOf 1 = .ok (.iconst 0, 1) := by decide +kernel
theorem dX1_knotOf_2 : decode cX1_knotOf 2 = .ok (.putfield 34, 3) := by decide +kernel
theorem dX1_knotOf_5 : decode cX1_knotOf 5 = .ok (.aload_n 0, 1) := by decide +kernel
theorem dX1_knotOf_6 : decode cX1_knotOf 6 = .ok (.iload_n 1, 1) := by decide +kernel
theorem dX1_knotOf_7 : decode cX1_knotOf 7 = .ok (.iload_n 2, 1) := by decide +kernel
theorem dX1_knotOf_8 : decode cX1_knotOf 8 = .ok (.invokevirtual 97, 3) := by decide +kernel
theorem dX1_knotOf_11 : decode cX1_knotOf 11 = .ok (.ifCond .eq 16, 3) := by decide +kernel
theorem dX1_knotOf_14 : decode cX1_knotOf 14 = .ok (.aload_n 0, 1) := by decide +kernel
theorem dX1_knotOf_15 : decode cX1_knotOf 15 = .ok (.getfield 31, 3) := by decide +kernel
theorem dX1_knotOf_18 : decode cX1_knotOf 18 = .ok (.iconst 5, 1) := by decide +kernel
theorem dX1_knotOf_19 : decode cX1_knotOf 19 = .ok (.iload_n 1, 1) := by decide +kernel
theorem dX1_knotOf_20 : decode cX1_knotOf 20 = .ok (.imul, 1) := by decide +kernel
theorem dX1_knotOf_21 : decode cX1_knotOf 21 = .ok (.iload_n 2, 1) := by decide +kernel
theorem dX1_knotOf_22 : decode cX1_knotOf 22 = .ok (.iadd, 1) := by decide +kernel
theorem dX1_knotOf_23 : decode cX1_knotOf 23 = .ok (.iaload, 1) := by decide +kernel
theorem dX1_knotOf_24 : decode cX1_knotOf 24 = .ok (.goto 8, 3) := by decide +kernel
theorem dX1_knotOf_27 : decode cX1_knotOf 27 = .ok (.aload_n 0, 1) := by decide +kernel
theorem dX1_knotOf_28 : decode cX1_knotOf 28 = .ok (.iconst 1, 1) := by decide +kernel
theorem dX1_knotOf_29 : decode cX1_knotOf 29 = .ok (.invokevirtual 88, 3) := by decide +kernel
theorem dX1_knotOf_32 : decode cX1_knotOf 32 = .ok (.ireturn, 1) := by decide +kernel
theorem dX1_strengthAt_0 : decode cX1_strengthAt 0 = .ok (.aload_n 0, 1) := by decide +kernel
theorem dX1_strengthAt_1 : decode cX1_strengthAt 1 = .ok (.iconst 0, 1) := by decide +kernel
theorem dX1_strengthAt_2 : decode cX1_strengthAt 2 = .ok (.putfield 34, 3) := by decide +kernel
theorem dX1_strengthAt_5 : decode cX1_strengthAt 5 = .ok (.aload_n 0, 1) := by decide +kernel
theorem dX1_strengthAt_6 : decode cX1_strengthAt 6 = .ok (.iload_n 1, 1) := by decide +kernel
theorem dX1_strengthAt_7 : decode cX1_strengthAt 7 = .ok (.iload_n 2, 1) := by decide +kernel
theorem dX1_strengthAt_8 : decode cX1_strengthAt 8 = .ok (.invokevirtual 97, 3) := by decide +kernel
theorem dX1_strengthAt_11 : decode cX1_strengthAt 11 = .ok (.ifCond .eq 12, 3) := by decide +kernel
theorem dX1_strengthAt_14 : decode cX1_strengthAt 14 = .ok (.aload_n 0, 1) := by decide +kernel
theorem dX1_strengthAt_15 : decode cX1_strengthAt 15 = .ok (.iload_n 1, 1) := by decide +kernel
theorem dX1_strengthAt_16 : decode cX1_strengthAt 16 = .ok (.iload_n 2, 1) := by decide +kernel
theorem dX1_strengthAt_17 : decode cX1_strengthAt 17 = .ok (.invokevirtual 81, 3) := by decide +kernel
theorem dX1_strengthAt_20 : decode cX1_strengthAt 20 = .ok (.goto 8, 3) := by decide +kernel
theorem dX1_strengthAt_23 : decode cX1_strengthAt 23 = .ok (.aload_n 0, 1) := by decide +kernel
theorem dX1_strengthAt_24 : decode cX1_strengthAt 24 = .ok (.iconst 1, 1) := by decide +kernel
theorem dX1_strengthAt_25 : decode cX1_strengthAt 25 = .ok (.invokevirtual 88, 3) := by decide +kernel
theorem dX1_strengthAt_28 : decode cX1_strengthAt 28 = .ok (.ireturn, 1) := by decide +kernel
theorem dX1_weakestPlace_0 : decode cX1_weakestPlace 0 = .ok (.aload_n 0, 1) := by decide +kernel
theorem dX1_weakestPlace_1 : decode cX1_weakestPlace 1 = .ok (.iconst 0, 1) := by decide +kernel
theorem dX1_weakestPlace_2 : decode cX1_weakestPlace 2 = .ok (.putfield 34, 3) := by decide +kernel
theorem dX1_weakestPlace_5 : decode cX1_weakestPlace 5 = .ok (.aload_n 0, 1) := by decide +kernel
theorem dX1_weakestPlace_6 : decode cX1_weakestPlace 6 = .ok (.iload_n 1, 1) := by decide +kernel
theorem dX1_weakestPlace_7 : decode cX1_weakestPlace 7 = .ok (.invokevirtual 48, 3) := by decide +kernel
theorem dX1_weakestPlace_10 : decode cX1_weakestPlace 10 = .ok (.ifCond .eq 11, 3) := by decide +kernel
theorem dX1_weakestPlace_13 : decode cX1_weakestPlace 13 = .ok (.aload_n 0, 1) := by decide +kernel
theorem dX1_weakestPlace_14 : decode cX1_weakestPlace 14 = .ok (.iload_n 1, 1) := by decide +kernel
theorem dX1_weakestPlace_15 : decode cX1_weakestPlace 15 = .ok (.invokevirtual 128, 3) := by decide +kernel
theorem dX1_weakestPlace_18 : decode cX1_weakestPlace 18 = .ok (.goto 8, 3) := by decide +kernel
theorem dX1_weakestPlace_21 : decode cX1_weakestPlace 21 = .ok (.aload_n 0, 1) := by decide +kernel
theorem dX1_weakestPlace_22 : decode cX1_weakestPlace 22 = .ok (.iconst 1, 1) := by decide +kernel
theorem dX1_weakestPlace_23 : decode cX1_weakestPlace 23 = .ok (.invokevirtual 88, 3) := by decide +kernel
theorem dX1_weakestPlace_26 : decode cX1_weakestPlace 26 = .ok (.ireturn, 1) := by decide +kernel
theorem dX1_isPulled_0 : decode cX1_isPulled 0 = .ok (.aload_n 0, 1) := by decide +kernel
theorem dX1_isPulled_1 : decode cX1_isPulled 1 = .ok (.aload_n 0, 1) := by decide +kernel
theorem dX1_isPulled_2 : decode cX1_isPulled 2 = .ok (.iload_n 1, 1) := by decide +kernel
theorem dX1_isPulled_3 : decode cX1_isPulled 3 = .ok (.invokevirtual 48, 3) := by decide +kernel
theorem dX1_isPulled_6 : decode cX1_isPulled 6 = .ok (.ifCond .ne 7, 3) := by decide +kernel
theorem dX1_isPulled_9 : decode cX1_isPulled 9 = .ok (.iconst 1, 1) := by decide +kernel
theorem dX1_isPulled_10 : decode cX1_isPulled 10 = .ok (.goto 15, 3) := by decide +kernel
theorem dX1_isPulled_13 : decode cX1_isPulled 13 = .ok (.iload_n 2, 1) := by decide +kernel
theorem dX1_isPulled_14 : decode cX1_isPulled 14 = .ok (.invokestatic 94, 3) := by decide +kernel
theorem dX1_isPulled_17 : decode cX1_isPulled 17 = .ok (.ifCond .eq 7, 3) := by decide +kernel
theorem dX1_isPulled_20 : decode cX1_isPulled 20 = .ok (.iconst 0, 1) := by decide +kernel
theorem dX1_isPulled_21 : decode cX1_isPulled 21 = .ok (.goto 4, 3) := by decide +kernel
theorem dX1_isPulled_24 : decode cX1_isPulled 24 = .ok (.iconst 2, 1) := by decide +kernel
theorem dX1_isPulled_25 : decode cX1_isPulled 25 = .ok (.putfield 34, 3) := by decide +kernel
theorem dX1_isPulled_28 : decode cX1_isPulled 28 = .ok (.aload_n 0, 1) := by decide +kernel
theorem dX1_isPulled_29 : decode cX1_isPulled 29 = .ok (.getfield 34, 3) := by decide +kernel
theorem dX1_isPulled_32 : decode cX1_isPulled 32 = .ok (.ifCond .ne 7, 3) := by decide +kernel
theorem dX1_isPulled_35 : decode cX1_isPulled 35 = .ok (.iconst 1, 1) := by decide +kernel
theorem dX1_isPulled_36 : decode cX1_isPulled 36 = .ok (.goto 4, 3) := by decide +kernel
theorem dX1_isPulled_39 : decode cX1_isPulled 39 = .ok (.iconst 0, 1) := by decide +kernel
theorem dX1_isPulled_40 : decode cX1_isPulled 40 = .ok (.ireturn, 1) := by decide +kernel
theorem dX1_holds_0 : decode cX1_holds 0 = .ok (.aload_n 0, 1) := by decide +kernel
theorem dX1_holds_1 : decode cX1_holds 1 = .ok (.iload_n 1, 1) := by decide +kernel
theorem dX1_holds_2 : decode cX1_holds 2 = .ok (.iload_n 2, 1) := by decide +kernel
theorem dX1_holds_3 : decode cX1_holds 3 = .ok (.invokevirtual 131, 3) := by decide +kernel
theorem dX1_holds_6 : decode cX1_holds 6 = .ok (.ifCond .eq 26, 3) := by decide +kernel
theorem dX1_holds_9 : decode cX1_holds 9 = .ok (.aload_n 0, 1) := by decide +kernel
theorem dX1_holds_10 : decode cX1_holds 10 = .ok (.getfield 25, 3) := by decide +kernel
theorem dX1_holds_13 : decode cX1_holds 13 = .ok (.iload_n 1, 1) := by decide +kernel
theorem dX1_holds_14 : decode cX1_holds 14 = .ok (.iaload, 1) := by decide +kernel
theorem dX1_holds_15 : decode cX1_holds 15 = .ok (.ifCond .le 17, 3) := by decide +kernel
theorem dX1_holds_18 : decode cX1_holds 18 = .ok (.aload_n 0, 1) := by decide +kernel
theorem dX1_holds_19 : decode cX1_holds 19 = .ok (.iload_n 1, 1) := by decide +kernel
theorem dX1_holds_20 : decode cX1_holds 20 = .ok (.iload_n 2, 1) := by decide +kernel
theorem dX1_holds_21 : decode cX1_holds 21 = .ok (.invokevirtual 103, 3) := by decide +kernel
theorem dX1_holds_24 : decode cX1_holds 24 = .ok (.iconst (-1), 1) := by decide +kernel
theorem dX1_holds_25 : decode cX1_holds 25 = .ok (.if_icmp .ne 7, 3) := by decide +kernel
theorem dX1_holds_28 : decode cX1_holds 28 = .ok (.iconst 1, 1) := by decide +kernel
theorem dX1_holds_29 : decode cX1_holds 29 = .ok (.goto 4, 3) := by decide +kernel
theorem dX1_holds_32 : decode cX1_holds 32 = .ok (.iconst 0, 1) := by decide +kernel
theorem dX1_holds_33 : decode cX1_holds 33 = .ok (.ireturn, 1) := by decide +kernel
theorem dX1_holdsUpTo_0 : decode cX1_holdsUpTo 0 = .ok (.aload_n 0, 1) := by decide +kernel
theorem dX1_holdsUpTo_1 : decode cX1_holdsUpTo 1 = .ok (.iconst 0, 1) := by decide +kernel
theorem dX1_holdsUpTo_2 : decode cX1_holdsUpTo 2 = .ok (.putfield 34, 3) := by decide +kernel
theorem dX1_holdsUpTo_5 : decode cX1_holdsUpTo 5 = .ok (.aload_n 0, 1) := by decide +kernel
theorem dX1_holdsUpTo_6 : decode cX1_holdsUpTo 6 = .ok (.iload_n 1, 1) := by decide +kernel
theorem dX1_holdsUpTo_7 : decode cX1_holdsUpTo 7 = .ok (.invokevirtual 48, 3) := by decide +kernel
theorem dX1_holdsUpTo_10 : decode cX1_holdsUpTo 10 = .ok (.ifCond .eq 11, 3) := by decide +kernel
theorem dX1_holdsUpTo_13 : decode cX1_holdsUpTo 13 = .ok (.aload_n 0, 1) := by decide +kernel
theorem dX1_holdsUpTo_14 : decode cX1_holdsUpTo 14 = .ok (.iload_n 1, 1) := by decide +kernel
theorem dX1_holdsUpTo_15 : decode cX1_holdsUpTo 15 = .ok (.invokevirtual 84, 3) := by decide +kernel
theorem dX1_holdsUpTo_18 : decode cX1_holdsUpTo 18 = .ok (.goto 8, 3) := by decide +kernel
theorem dX1_holdsUpTo_21 : decode cX1_holdsUpTo 21 = .ok (.aload_n 0, 1) := by decide +kernel
theorem dX1_holdsUpTo_22 : decode cX1_holdsUpTo 22 = .ok (.iconst 1, 1) := by decide +kernel
theorem dX1_holdsUpTo_23 : decode cX1_holdsUpTo 23 = .ok (.invokevirtual 88, 3) := by decide +kernel
theorem dX1_holdsUpTo_26 : decode cX1_holdsUpTo 26 = .ok (.ireturn, 1) := by decide +kernel
theorem dX1_wouldGiveWay_0 : decode cX1_wouldGiveWay 0 = .ok (.aload_n 0, 1) := by decide +kernel
theorem dX1_wouldGiveWay_1 : decode cX1_wouldGiveWay 1 = .ok (.iload_n 1, 1) := by decide +kernel
theorem dX1_wouldGiveWay_2 : decode cX1_wouldGiveWay 2 = .ok (.iload_n 2, 1) := by decide +kernel
theorem dX1_wouldGiveWay_3 : decode cX1_wouldGiveWay 3 = .ok (.invokevirtual 131, 3) := by decide +kernel
theorem dX1_wouldGiveWay_6 : decode cX1_wouldGiveWay 6 = .ok (.ifCond .eq 12, 3) := by decide +kernel
theorem dX1_wouldGiveWay_9 : decode cX1_wouldGiveWay 9 = .ok (.aload_n 0, 1) := by decide +kernel
theorem dX1_wouldGiveWay_10 : decode cX1_wouldGiveWay 10 = .ok (.iload_n 1, 1) := by decide +kernel
theorem dX1_wouldGiveWay_11 : decode cX1_wouldGiveWay 11 = .ok (.iload_n 2, 1) := by decide +kernel
theorem dX1_wouldGiveWay_12 : decode cX1_wouldGiveWay 12 = .ok (.invokevirtual 103, 3) := by decide +kernel
theorem dX1_wouldGiveWay_15 : decode cX1_wouldGiveWay 15 = .ok (.goto 4, 3) := by decide +kernel
theorem dX1_wouldGiveWay_18 : decode cX1_wouldGiveWay 18 = .ok (.iconst 0, 1) := by decide +kernel
theorem dX1_wouldGiveWay_19 : decode cX1_wouldGiveWay 19 = .ok (.ireturn, 1) := by decide +kernel
theorem dX1_best_0 : decode cX1_best 0 = .ok (.aload_n 0, 1) := by decide +kernel
theorem dX1_best_1 : decode cX1_best 1 = .ok (.getfield 31, 3) := by decide +kernel
theorem dX1_best_4 : decode cX1_best 4 = .ok (.iconst 5, 1) := by decide +kernel
theorem dX1_best_5 : decode cX1_best 5 = .ok (.iload_n 1, 1) := by decide +kernel
theorem dX1_best_6 : decode cX1_best 6 = .ok (.imul, 1) := by decide +kernel
theorem dX1_best_7 : decode cX1_best 7 = .ok (.iload_n 2, 1) := by decide +kernel
theorem dX1_best_8 : decode cX1_best 8 = .ok (.iadd, 1) := by decide +kernel
theorem dX1_best_9 : decode cX1_best 9 = .ok (.iaload, 1) := by decide +kernel
theorem dX1_best_10 : decode cX1_best 10 = .ok (.istore_n 3, 1) := by decide +kernel
theorem dX1_best_11 : decode cX1_best 11 = .ok (.iconst (-1), 1) := by decide +kernel
theorem dX1_best_12 : decode cX1_best 12 = .ok (.istore 4, 2) := by decide +kernel
theorem dX1_best_14 : decode cX1_best 14 = .ok (.iconst 0, 1) := by decide +kernel
theorem dX1_best_15 : decode cX1_best 15 = .ok (.istore 5, 2) := by decide +kernel
theorem dX1_best_17 : decode cX1_best 17 = .ok (.iconst 0, 1) := by decide +kernel
theorem dX1_best_18 : decode cX1_best 18 = .ok (.istore 6, 2) := by decide +kernel
theorem dX1_best_20 : decode cX1_best 20 = .ok (.iload 6, 2) := by decide +kernel
theorem dX1_best_22 : decode cX1_best 22 = .ok (.aload_n 0, 1) := by decide +kernel
theorem dX1_best_23 : decode cX1_best 23 = .ok (.getfield 38, 3) := by decide +kernel
theorem dX1_best_26 : decode cX1_best 26 = .ok (.if_icmp .ge 91, 3) := by decide +kernel
theorem dX1_best_29 : decode cX1_best 29 = .ok (.aload_n 0, 1) := by decide +kernel
theorem dX1_best_30 : decode cX1_best 30 = .ok (.getfield 9, 3) := by decide +kernel
theorem dX1_best_33 : decode cX1_best 33 = .ok (.iload 6, 2) := by decide +kernel
theorem dX1_best_35 : decode cX1_best 35 = .ok (.iaload, 1) := by decide +kernel
theorem dX1_best_36 : decode cX1_best 36 = .ok (.iload_n 2, 1) := by decide +kernel
theorem dX1_best_37 : decode cX1_best 37 = .ok (.invokestatic 100, 3) := by decide +kernel
theorem dX1_best_40 : decode cX1_best 40 = .ok (.if_icmp .eq 6, 3) := by decide +kernel
theorem dX1_best_43 : decode cX1_best 43 = .ok (.goto 68, 3) := by decide +kernel
theorem dX1_best_46 : decode cX1_best 46 = .ok (.aload_n 0, 1) := by decide +kernel
theorem dX1_best_47 : decode cX1_best 47 = .ok (.getfield 31, 3) := by decide +kernel
theorem dX1_best_50 : decode cX1_best 50 = .ok (.iconst 5, 1) := by decide +kernel
theorem dX1_best_51 : decode cX1_best 51 = .ok (.iload_n 1, 1) := by decide +kernel
theorem dX1_best_52 : decode cX1_best 52 = .ok (.imul, 1) := by decide +kernel
theorem dX1_best_53 : decode cX1_best 53 = .ok (.iload_n 2, 1) := by decide +kernel
theorem dX1_best_54 : decode cX1_best 54 = .ok (.iadd, 1) := by decide +kernel
theorem dX1_best_55 : decode cX1_best 55 = .ok (.iload 6, 2) := by decide +kernel
theorem dX1_best_57 : decode cX1_best 57 = .ok (.iastore, 1) := by decide +kernel
theorem dX1_best_58 : decode cX1_best 58 = .ok (.aload_n 0, 1) := by decide +kernel
theorem dX1_best_59 : decode cX1_best 59 = .ok (.iload_n 1, 1) := by decide +kernel
theorem dX1_best_60 : decode cX1_best 60 = .ok (.invokevirtual 84, 3) := by decide +kernel
theorem dX1_best_63 : decode cX1_best 63 = .ok (.istore 7, 2) := by decide +kernel
theorem dX1_best_65 : decode cX1_best 65 = .ok (.iload 4, 2) := by decide +kernel
theorem dX1_best_67 : decode cX1_best 67 = .ok (.iconst (-1), 1) := by decide +kernel
theorem dX1_best_68 : decode cX1_best 68 = .ok (.if_icmp .eq 35, 3) := by decide +kernel
theorem dX1_best_71 : decode cX1_best 71 = .ok (.iload 7, 2) := by decide +kernel
theorem dX1_best_73 : decode cX1_best 73 = .ok (.iload 5, 2) := by decide +kernel
theorem dX1_best_75 : decode cX1_best 75 = .ok (.if_icmp .lt 36, 3) := by decide +kernel
theorem dX1_best_78 : decode cX1_best 78 = .ok (.iload 7, 2) := by decide +kernel
theorem dX1_best_80 : decode cX1_best 80 = .ok (.iload 5, 2) := by decide +kernel
theorem dX1_best_82 : decode cX1_best 82 = .ok (.if_icmp .ne 21, 3) := by decide +kernel
theorem dX1_best_85 : decode cX1_best 85 = .ok (.aload_n 0, 1) := by decide +kernel
theorem dX1_best_86 : decode cX1_best 86 = .ok (.iload 4, 2) := by decide +kernel
theorem dX1_best_88 : decode cX1_best 88 = .ok (.invokevirtual 116, 3) := by decide +kernel
theorem dX1_best_91 : decode cX1_best 91 = .ok (.aload_n 0, 1) := by decide +kernel
theorem dX1_best_92 : decode cX1_best 92 = .ok (.iload 6, 2) := by decide +kernel
theorem dX1_best_94 : decode cX1_best 94 = .ok (.invokevirtual 116, 3) := by decide +kernel
theorem dX1_best_97 : decode cX1_best 97 = .ok (.if_icmp .ge 6, 3) := by decide +kernel
theorem dX1_best_100 : decode cX1_best 100 = .ok (.goto 11, 3) := by decide +kernel
theorem dX1_best_103 : decode cX1_best 103 = .ok (.iload 6, 2) := by decide +kernel
theorem dX1_best_105 : decode cX1_best 105 = .ok (.istore 4, 2) := by decide +kernel
theorem dX1_best_107 : decode cX1_best 107 = .ok (.iload 7, 2) := by decide +kernel
theorem dX1_best_109 : decode cX1_best 109 = .ok (.istore 5, 2) := by decide +kernel
theorem dX1_best_111 : decode cX1_best 111 = .ok (.iinc 6 1, 3) := by decide +kernel
theorem dX1_best_114 : decode cX1_best 114 = .ok (.goto (-94), 3) := by decide +kernel
theorem dX1_best_117 : decode cX1_best 117 = .ok (.aload_n 0, 1) := by decide +kernel
theorem dX1_best_118 : decode cX1_best 118 = .ok (.getfield 31, 3) := by decide +kernel
theorem dX1_best_121 : decode cX1_best 121 = .ok (.iconst 5, 1) := by decide +kernel
theorem dX1_best_122 : decode cX1_best 122 = .ok (.iload_n 1, 1) := by decide +kernel
theorem dX1_best_123 : decode cX1_best 123 = .ok (.imul, 1) := by decide +kernel
theorem dX1_best_124 : decode cX1_best 124 = .ok (.iload_n 2, 1) := by decide +kernel
theorem dX1_best_125 : decode cX1_best 125 = .ok (.iadd, 1) := by decide +kernel
theorem dX1_best_126 : decode cX1_best 126 = .ok (.iload_n 3, 1) := by decide +kernel
theorem dX1_best_127 : decode cX1_best 127 = .ok (.iastore, 1) := by decide +kernel
theorem dX1_best_128 : decode cX1_best 128 = .ok (.iload 4, 2) := by decide +kernel
theorem dX1_best_130 : decode cX1_best 130 = .ok (.ireturn, 1) := by decide +kernel
theorem dX1_bestKnot_0 : decode cX1_bestKnot 0 = .ok (.aload_n 0, 1) := by decide +kernel
theorem dX1_bestKnot_1 : decode cX1_bestKnot 1 = .ok (.iconst 0, 1) := by decide +kernel
theorem dX1_bestKnot_2 : decode cX1_bestKnot 2 = .ok (.putfield 34, 3) := by decide +kernel
theorem dX1_bestKnot_5 : decode cX1_bestKnot 5 = .ok (.aload_n 0, 1) := by decide +kernel
theorem dX1_bestKnot_6 : decode cX1_bestKnot 6 = .ok (.iload_n 1, 1) := by decide +kernel
theorem dX1_bestKnot_7 : decode cX1_bestKnot 7 = .ok (.iload_n 2, 1) := by decide +kernel
theorem dX1_bestKnot_8 : decode cX1_bestKnot 8 = .ok (.invokevirtual 97, 3) := by decide +kernel
theorem dX1_bestKnot_11 : decode cX1_bestKnot 11 = .ok (.ifCond .eq 12, 3) := by decide +kernel
theorem dX1_bestKnot_14 : decode cX1_bestKnot 14 = .ok (.aload_n 0, 1) := by decide +kernel
theorem dX1_bestKnot_15 : decode cX1_bestKnot 15 = .ok (.iload_n 1, 1) := by decide +kernel
theorem dX1_bestKnot_16 : decode cX1_bestKnot 16 = .ok (.iload_n 2, 1) := by decide +kernel
theorem dX1_bestKnot_17 : decode cX1_bestKnot 17 = .ok (.invokevirtual 134, 3) := by decide +kernel
theorem dX1_bestKnot_20 : decode cX1_bestKnot 20 = .ok (.goto 8, 3) := by decide +kernel
theorem dX1_bestKnot_23 : decode cX1_bestKnot 23 = .ok (.aload_n 0, 1) := by decide +kernel
theorem dX1_bestKnot_24 : decode cX1_bestKnot 24 = .ok (.iconst 1, 1) := by decide +kernel
theorem dX1_bestKnot_25 : decode cX1_bestKnot 25 = .ok (.invokevirtual 88, 3) := by decide +kernel
theorem dX1_bestKnot_28 : decode cX1_bestKnot 28 = .ok (.ireturn, 1) := by decide +kernel
theorem dX1_strongestLine_0 : decode cX1_strongestLine 0 = .ok (.aload_n 0, 1) := by decide +kernel
theorem dX1_strongestLine_1 : decode cX1_strongestLine 1 = .ok (.aload_n 0, 1) := by decide +kernel
theorem dX1_strongestLine_2 : decode cX1_strongestLine 2 = .ok (.invokevirtual 137, 3) := by decide +kernel
theorem dX1_strongestLine_5 : decode cX1_strongestLine 5 = .ok (.invokevirtual 106, 3) := by decide +kernel
theorem dX1_strongestLine_8 : decode cX1_strongestLine 8 = .ok (.ireturn, 1) := by decide +kernel
theorem dX1_meanEfficiency_0 : decode cX1_meanEfficiency 0 = .ok (.aload_n 0, 1) := by decide +kernel
theorem dX1_meanEfficiency_1 : decode cX1_meanEfficiency 1 = .ok (.iconst 0, 1) := by decide +kernel
theorem dX1_meanEfficiency_2 : decode cX1_meanEfficiency 2 = .ok (.putfield 34, 3) := by decide +kernel
theorem dX1_meanEfficiency_5 : decode cX1_meanEfficiency 5 = .ok (.iconst 0, 1) := by decide +kernel
theorem dX1_meanEfficiency_6 : decode cX1_meanEfficiency 6 = .ok (.istore_n 1, 1) := by decide +kernel
theorem dX1_meanEfficiency_7 : decode cX1_meanEfficiency 7 = .ok (.iconst 0, 1) := by decide +kernel
theorem dX1_meanEfficiency_8 : decode cX1_meanEfficiency 8 = .ok (.istore_n 2, 1) := by decide +kernel
theorem dX1_meanEfficiency_9 : decode cX1_meanEfficiency 9 = .ok (.iload_n 2, 1) := by decide +kernel
theorem dX1_meanEfficiency_10 : decode cX1_meanEfficiency 10 = .ok (.aload_n 0, 1) := by decide +kernel
theorem dX1_meanEfficiency_11 : decode cX1_meanEfficiency 11 = .ok (.getfield 38, 3) := by decide +kernel
theorem dX1_meanEfficiency_14 : decode cX1_meanEfficiency 14 = .ok (.if_icmp .ge 18, 3) := by decide +kernel
theorem dX1_meanEfficiency_17 : decode cX1_meanEfficiency 17 = .ok (.iload_n 1, 1) := by decide +kernel
theorem dX1_meanEfficiency_18 : decode cX1_meanEfficiency 18 = .ok (.aload_n 0, 1) := by decide +kernel
theorem dX1_meanEfficiency_19 : decode cX1_meanEfficiency 19 = .ok (.getfield 13, 3) := by decide +kernel
theorem dX1_meanEfficiency_22 : decode cX1_meanEfficiency 22 = .ok (.iload_n 2, 1) := by decide +kernel
theorem dX1_meanEfficiency_23 : decode cX1_meanEfficiency 23 = .ok (.iaload, 1) := by decide +kernel
theorem dX1_meanEfficiency_24 : decode cX1_meanEfficiency 24 = .ok (.iadd, 1) := by decide +kernel
theorem dX1_meanEfficiency_25 : decode cX1_meanEfficiency 25 = .ok (.istore_n 1, 1) := by decide +kernel
theorem dX1_meanEfficiency_26 : decode cX1_meanEfficiency 26 = .ok (.iinc 2 1, 3) := by decide +kernel
theorem dX1_meanEfficiency_29 : decode cX1_meanEfficiency 29 = .ok (.goto (-20), 3) := by decide +kernel
theorem dX1_meanEfficiency_32 : decode cX1_meanEfficiency 32 = .ok (.aload_n 0, 1) := by decide +kernel
theorem dX1_meanEfficiency_33 : decode cX1_meanEfficiency 33 = .ok (.getfield 38, 3) := by decide +kernel
theorem dX1_meanEfficiency_36 : decode cX1_meanEfficiency 36 = .ok (.ifCond .ne 7, 3) := by decide +kernel
theorem dX1_meanEfficiency_39 : decode cX1_meanEfficiency 39 = .ok (.dconst 0, 1) := by decide +kernel
theorem dX1_meanEfficiency_40 : decode cX1_meanEfficiency 40 = .ok (.goto 11, 3) := by decide +kernel
theorem dX1_meanEfficiency_43 : decode cX1_meanEfficiency 43 = .ok (.iload_n 1, 1) := by decide +kernel
theorem dX1_meanEfficiency_44 : decode cX1_meanEfficiency 44 = .ok (.i2d, 1) := by decide +kernel
theorem dX1_meanEfficiency_45 : decode cX1_meanEfficiency 45 = .ok (.aload_n 0, 1) := by decide +kernel
theorem dX1_meanEfficiency_46 : decode cX1_meanEfficiency 46 = .ok (.getfield 38, 3) := by decide +kernel
theorem dX1_meanEfficiency_49 : decode cX1_meanEfficiency 49 = .ok (.i2d, 1) := by decide +kernel
theorem dX1_meanEfficiency_50 : decode cX1_meanEfficiency 50 = .ok (.ddiv, 1) := by decide +kernel
theorem dX1_meanEfficiency_51 : decode cX1_meanEfficiency 51 = .ok (.dreturn, 1) := by decide +kernel
theorem dX1_digest_0 : decode cX1_digest 0 = .ok (.aload_n 0, 1) := by decide +kernel
theorem dX1_digest_1 : decode cX1_digest 1 = .ok (.iconst 0, 1) := by decide +kernel
theorem dX1_digest_2 : decode cX1_digest 2 = .ok (.putfield 34, 3) := by decide +kernel
theorem dX1_digest_5 : decode cX1_digest 5 = .ok (.ldc2_w 141, 3) := by decide +kernel
theorem dX1_digest_8 : decode cX1_digest 8 = .ok (.aload_n 0, 1) := by decide +kernel
theorem dX1_digest_9 : decode cX1_digest 9 = .ok (.getfield 38, 3) := by decide +kernel
theorem dX1_digest_12 : decode cX1_digest 12 = .ok (.i2l, 1) := by decide +kernel
theorem dX1_digest_13 : decode cX1_digest 13 = .ok (.ladd, 1) := by decide +kernel
theorem dX1_digest_14 : decode cX1_digest 14 = .ok (.ldc2_w 143, 3) := by decide +kernel
theorem dX1_digest_17 : decode cX1_digest 17 = .ok (.lmul, 1) := by decide +kernel
theorem dX1_digest_18 : decode cX1_digest 18 = .ok (.aload_n 0, 1) := by decide +kernel
theorem dX1_digest_19 : decode cX1_digest 19 = .ok (.getfield 45, 3) := by decide +kernel
theorem dX1_digest_22 : decode cX1_digest 22 = .ok (.i2l, 1) := by decide +kernel
theorem dX1_digest_23 : decode cX1_digest 23 = .ok (.ladd, 1) := by decide +kernel
theorem dX1_digest_24 : decode cX1_digest 24 = .ok (.ldc2_w 143, 3) := by decide +kernel
theorem dX1_digest_27 : decode cX1_digest 27 = .ok (.lmul, 1) := by decide +kernel
theorem dX1_digest_28 : decode cX1_digest 28 = .ok (.aload_n 0, 1) := by decide +kernel
theorem dX1_digest_29 : decode cX1_digest 29 = .ok (.invokevirtual 137, 3) := by decide +kernel
theorem dX1_digest_32 : decode cX1_digest 32 = .ok (.i2l, 1) := by decide +kernel
theorem dX1_digest_33 : decode cX1_digest 33 = .ok (.ladd, 1) := by decide +kernel
theorem dX1_digest_34 : decode cX1_digest 34 = .ok (.lstore_n 1, 1) := by decide +kernel
theorem dX1_digest_35 : decode cX1_digest 35 = .ok (.iconst 0, 1) := by decide +kernel
theorem dX1_digest_36 : decode cX1_digest 36 = .ok (.istore_n 3, 1) := by decide +kernel
theorem dX1_digest_37 : decode cX1_digest 37 = .ok (.iload_n 3, 1) := by decide +kernel
theorem dX1_digest_38 : decode cX1_digest 38 = .ok (.aload_n 0, 1) := by decide +kernel
theorem dX1_digest_39 : decode cX1_digest 39 = .ok (.getfield 38, 3) := by decide +kernel
theorem dX1_digest_42 : decode cX1_digest 42 = .ok (.if_icmp .ge 119, 3) := by decide +kernel
theorem dX1_digest_45 : decode cX1_digest 45 = .ok (.bipush 7, 2) := by decide +kernel
theorem dX1_digest_47 : decode cX1_digest 47 = .ok (.newarray .int, 2) := by decide +kernel
theorem dX1_digest_49 : decode cX1_digest 49 = .ok (.dup, 1) := by decide +kernel
theorem dX1_digest_50 : decode cX1_digest 50 = .ok (.iconst 0, 1) := by decide +kernel
theorem dX1_digest_51 : decode cX1_digest 51 = .ok (.aload_n 0, 1) := by decide +kernel
theorem dX1_digest_52 : decode cX1_digest 52 = .ok (.getfield 9, 3) := by decide +kernel
theorem dX1_digest_55 : decode cX1_digest 55 = .ok (.iload_n 3, 1) := by decide +kernel
theorem dX1_digest_56 : decode cX1_digest 56 = .ok (.iaload, 1) := by decide +kernel
theorem dX1_digest_57 : decode cX1_digest 57 = .ok (.iastore, 1) := by decide +kernel
theorem dX1_digest_58 : decode cX1_digest 58 = .ok (.dup, 1) := by decide +kernel
theorem dX1_digest_59 : decode cX1_digest 59 = .ok (.iconst 1, 1) := by decide +kernel
theorem dX1_digest_60 : decode cX1_digest 60 = .ok (.aload_n 0, 1) := by decide +kernel
theorem dX1_digest_61 : decode cX1_digest 61 = .ok (.getfield 13, 3) := by decide +kernel
theorem dX1_digest_64 : decode cX1_digest 64 = .ok (.iload_n 3, 1) := by decide +kernel
theorem dX1_digest_65 : decode cX1_digest 65 = .ok (.iaload, 1) := by decide +kernel
theorem dX1_digest_66 : decode cX1_digest 66 = .ok (.iastore, 1) := by decide +kernel
theorem dX1_digest_67 : decode cX1_digest 67 = .ok (.dup, 1) := by decide +kernel
theorem dX1_digest_68 : decode cX1_digest 68 = .ok (.iconst 2, 1) := by decide +kernel
theorem dX1_digest_69 : decode cX1_digest 69 = .ok (.aload_n 0, 1) := by decide +kernel
theorem dX1_digest_70 : decode cX1_digest 70 = .ok (.getfield 16, 3) := by decide +kernel
theorem dX1_digest_73 : decode cX1_digest 73 = .ok (.iload_n 3, 1) := by decide +kernel
theorem dX1_digest_74 : decode cX1_digest 74 = .ok (.iaload, 1) := by decide +kernel
theorem dX1_digest_75 : decode cX1_digest 75 = .ok (.iastore, 1) := by decide +kernel
theorem dX1_digest_76 : decode cX1_digest 76 = .ok (.dup, 1) := by decide +kernel
theorem dX1_digest_77 : decode cX1_digest 77 = .ok (.iconst 3, 1) := by decide +kernel
theorem dX1_digest_78 : decode cX1_digest 78 = .ok (.aload_n 0, 1) := by decide +kernel
theorem dX1_digest_79 : decode cX1_digest 79 = .ok (.getfield 19, 3) := by decide +kernel
theorem dX1_digest_82 : decode cX1_digest 82 = .ok (.iload_n 3, 1) := by decide +kernel
theorem dX1_digest_83 : decode cX1_digest 83 = .ok (.iaload, 1) := by decide +kernel
theorem dX1_digest_84 : decode cX1_digest 84 = .ok (.iastore, 1) := by decide +kernel
theorem dX1_digest_85 : decode cX1_digest 85 = .ok (.dup, 1) := by decide +kernel
theorem dX1_digest_86 : decode cX1_digest 86 = .ok (.iconst 4, 1) := by decide +kernel
theorem dX1_digest_87 : decode cX1_digest 87 = .ok (.aload_n 0, 1) := by decide +kernel
theorem dX1_digest_88 : decode cX1_digest 88 = .ok (.getfield 22, 3) := by decide +kernel
theorem dX1_digest_91 : decode cX1_digest 91 = .ok (.iload_n 3, 1) := by decide +kernel
theorem dX1_digest_92 : decode cX1_digest 92 = .ok (.iaload, 1) := by decide +kernel
theorem dX1_digest_93 : decode cX1_digest 93 = .ok (.iastore, 1) := by decide +kernel
theorem dX1_digest_94 : decode cX1_digest 94 = .ok (.dup, 1) := by decide +kernel
theorem dX1_digest_95 : decode cX1_digest 95 = .ok (.iconst 5, 1) := by decide +kernel
theorem dX1_digest_96 : decode cX1_digest 96 = .ok (.aload_n 0, 1) := by decide +kernel
theorem dX1_digest_97 : decode cX1_digest 97 = .ok (.iload_n 3, 1) := by decide +kernel
theorem dX1_digest_98 : decode cX1_digest 98 = .ok (.invokevirtual 116, 3) := by decide +kernel
theorem dX1_digest_101 : decode cX1_digest 101 = .ok (.iastore, 1) := by decide +kernel
theorem dX1_digest_102 : decode cX1_digest 102 = .ok (.dup, 1) := by decide +kernel
theorem dX1_digest_103 : decode cX1_digest 103 = .ok (.bipush 6, 2) := by decide +kernel
theorem dX1_digest_105 : decode cX1_digest 105 = .ok (.aload_n 0, 1) := by decide +kernel
theorem dX1_digest_106 : decode cX1_digest 106 = .ok (.iload_n 3, 1) := by decide +kernel
theorem dX1_digest_107 : decode cX1_digest 107 = .ok (.invokevirtual 125, 3) := by decide +kernel
theorem dX1_digest_110 : decode cX1_digest 110 = .ok (.iastore, 1) := by decide +kernel
theorem dX1_digest_111 : decode cX1_digest 111 = .ok (.astore 4, 2) := by decide +kernel
theorem dX1_digest_113 : decode cX1_digest 113 = .ok (.aload 4, 2) := by decide +kernel
theorem dX1_digest_115 : decode cX1_digest 115 = .ok (.astore 5, 2) := by decide +kernel
theorem dX1_digest_117 : decode cX1_digest 117 = .ok (.aload 5, 2) := by decide +kernel
theorem dX1_digest_119 : decode cX1_digest 119 = .ok (.arraylength, 1) := by decide +kernel
theorem dX1_digest_120 : decode cX1_digest 120 = .ok (.istore 6, 2) := by decide +kernel
theorem dX1_digest_122 : decode cX1_digest 122 = .ok (.iconst 0, 1) := by decide +kernel
theorem dX1_digest_123 : decode cX1_digest 123 = .ok (.istore 7, 2) := by decide +kernel
theorem dX1_digest_125 : decode cX1_digest 125 = .ok (.iload 7, 2) := by decide +kernel
theorem dX1_digest_127 : decode cX1_digest 127 = .ok (.iload 6, 2) := by decide +kernel
theorem dX1_digest_129 : decode cX1_digest 129 = .ok (.if_icmp .ge 26, 3) := by decide +kernel
theorem dX1_digest_132 : decode cX1_digest 132 = .ok (.aload 5, 2) := by decide +kernel
theorem dX1_digest_134 : decode cX1_digest 134 = .ok (.iload 7, 2) := by decide +kernel
theorem dX1_digest_136 : decode cX1_digest 136 = .ok (.iaload, 1) := by decide +kernel
theorem dX1_digest_137 : decode cX1_digest 137 = .ok (.istore 8, 2) := by decide +kernel
theorem dX1_digest_139 : decode cX1_digest 139 = .ok (.lload_n 1, 1) := by decide +kernel
theorem dX1_digest_140 : decode cX1_digest 140 = .ok (.ldc2_w 143, 3) := by decide +kernel
theorem dX1_digest_143 : decode cX1_digest 143 = .ok (.lmul, 1) := by decide +kernel
theorem dX1_digest_144 : decode cX1_digest 144 = .ok (.iload 8, 2) := by decide +kernel
theorem dX1_digest_146 : decode cX1_digest 146 = .ok (.i2l, 1) := by decide +kernel
theorem dX1_digest_147 : decode cX1_digest 147 = .ok (.ladd, 1) := by decide +kernel
theorem dX1_digest_148 : decode cX1_digest 148 = .ok (.lstore_n 1, 1) := by decide +kernel
theorem dX1_digest_149 : decode cX1_digest 149 = .ok (.iinc 7 1, 3) := by decide +kernel
theorem dX1_digest_152 : decode cX1_digest 152 = .ok (.goto (-27), 3) := by decide +kernel
theorem dX1_digest_155 : decode cX1_digest 155 = .ok (.iinc 3 1, 3) := by decide +kernel
theorem dX1_digest_158 : decode cX1_digest 158 = .ok (.goto (-121), 3) := by decide +kernel
theorem dX1_digest_161 : decode cX1_digest 161 = .ok (.iconst 0, 1) := by decide +kernel
theorem dX1_digest_162 : decode cX1_digest 162 = .ok (.istore_n 3, 1) := by decide +kernel
theorem dX1_digest_163 : decode cX1_digest 163 = .ok (.iload_n 3, 1) := by decide +kernel
theorem dX1_digest_164 : decode cX1_digest 164 = .ok (.aload_n 0, 1) := by decide +kernel
theorem dX1_digest_165 : decode cX1_digest 165 = .ok (.getfield 45, 3) := by decide +kernel
theorem dX1_digest_168 : decode cX1_digest 168 = .ok (.if_icmp .ge 97, 3) := by decide +kernel
theorem dX1_digest_171 : decode cX1_digest 171 = .ok (.lload_n 1, 1) := by decide +kernel
theorem dX1_digest_172 : decode cX1_digest 172 = .ok (.ldc2_w 143, 3) := by decide +kernel
theorem dX1_digest_175 : decode cX1_digest 175 = .ok (.lmul, 1) := by decide +kernel
theorem dX1_digest_176 : decode cX1_digest 176 = .ok (.aload_n 0, 1) := by decide +kernel
theorem dX1_digest_177 : decode cX1_digest 177 = .ok (.getfield 25, 3) := by decide +kernel
theorem dX1_digest_180 : decode cX1_digest 180 = .ok (.iload_n 3, 1) := by decide +kernel
theorem dX1_digest_181 : decode cX1_digest 181 = .ok (.iaload, 1) := by decide +kernel
theorem dX1_digest_182 : decode cX1_digest 182 = .ok (.i2l, 1) := by decide +kernel
theorem dX1_digest_183 : decode cX1_digest 183 = .ok (.ladd, 1) := by decide +kernel
theorem dX1_digest_184 : decode cX1_digest 184 = .ok (.ldc2_w 143, 3) := by decide +kernel
theorem dX1_digest_187 : decode cX1_digest 187 = .ok (.lmul, 1) := by decide +kernel
theorem dX1_digest_188 : decode cX1_digest 188 = .ok (.aload_n 0, 1) := by decide +kernel
theorem dX1_digest_189 : decode cX1_digest 189 = .ok (.iload_n 3, 1) := by decide +kernel
theorem dX1_digest_190 : decode cX1_digest 190 = .ok (.invokevirtual 84, 3) := by decide +kernel
theorem dX1_digest_193 : decode cX1_digest 193 = .ok (.i2l, 1) := by decide +kernel
theorem dX1_digest_194 : decode cX1_digest 194 = .ok (.ladd, 1) := by decide +kernel
theorem dX1_digest_195 : decode cX1_digest 195 = .ok (.ldc2_w 143, 3) := by decide +kernel
theorem dX1_digest_198 : decode cX1_digest 198 = .ok (.lmul, 1) := by decide +kernel
theorem dX1_digest_199 : decode cX1_digest 199 = .ok (.aload_n 0, 1) := by decide +kernel
theorem dX1_digest_200 : decode cX1_digest 200 = .ok (.iload_n 3, 1) := by decide +kernel
theorem dX1_digest_201 : decode cX1_digest 201 = .ok (.invokevirtual 128, 3) := by decide +kernel
theorem dX1_digest_204 : decode cX1_digest 204 = .ok (.i2l, 1) := by decide +kernel
theorem dX1_digest_205 : decode cX1_digest 205 = .ok (.ladd, 1) := by decide +kernel
theorem dX1_digest_206 : decode cX1_digest 206 = .ok (.lstore_n 1, 1) := by decide +kernel
theorem dX1_digest_207 : decode cX1_digest 207 = .ok (.iconst 0, 1) := by decide +kernel
theorem dX1_digest_208 : decode cX1_digest 208 = .ok (.istore 4, 2) := by decide +kernel
theorem dX1_digest_210 : decode cX1_digest 210 = .ok (.iload 4, 2) := by decide +kernel
theorem dX1_digest_212 : decode cX1_digest 212 = .ok (.aload_n 0, 1) := by decide +kernel
theorem dX1_digest_213 : decode cX1_digest 213 = .ok (.getfield 25, 3) := by decide +kernel
theorem dX1_digest_216 : decode cX1_digest 216 = .ok (.iload_n 3, 1) := by decide +kernel
theorem dX1_digest_217 : decode cX1_digest 217 = .ok (.iaload, 1) := by decide +kernel
theorem dX1_digest_218 : decode cX1_digest 218 = .ok (.if_icmp .ge 41, 3) := by decide +kernel
theorem dX1_digest_221 : decode cX1_digest 221 = .ok (.lload_n 1, 1) := by decide +kernel
theorem dX1_digest_222 : decode cX1_digest 222 = .ok (.ldc2_w 143, 3) := by decide +kernel
theorem dX1_digest_225 : decode cX1_digest 225 = .ok (.lmul, 1) := by decide +kernel
theorem dX1_digest_226 : decode cX1_digest 226 = .ok (.aload_n 0, 1) := by decide +kernel
theorem dX1_digest_227 : decode cX1_digest 227 = .ok (.getfield 31, 3) := by decide +kernel
theorem dX1_digest_230 : decode cX1_digest 230 = .ok (.iconst 5, 1) := by decide +kernel
theorem dX1_digest_231 : decode cX1_digest 231 = .ok (.iload_n 3, 1) := by decide +kernel
theorem dX1_digest_232 : decode cX1_digest 232 = .ok (.imul, 1) := by decide +kernel
theorem dX1_digest_233 : decode cX1_digest 233 = .ok (.iload 4, 2) := by decide +kernel
theorem dX1_digest_235 : decode cX1_digest 235 = .ok (.iadd, 1) := by decide +kernel
theorem dX1_digest_236 : decode cX1_digest 236 = .ok (.iaload, 1) := by decide +kernel
theorem dX1_digest_237 : decode cX1_digest 237 = .ok (.i2l, 1) := by decide +kernel
theorem dX1_digest_238 : decode cX1_digest 238 = .ok (.ladd, 1) := by decide +kernel
theorem dX1_digest_239 : decode cX1_digest 239 = .ok (.ldc2_w 143, 3) := by decide +kernel
theorem dX1_digest_242 : decode cX1_digest 242 = .ok (.lmul, 1) := by decide +kernel
theorem dX1_digest_243 : decode cX1_digest 243 = .ok (.aload_n 0, 1) := by decide +kernel
theorem dX1_digest_244 : decode cX1_digest 244 = .ok (.iload_n 3, 1) := by decide +kernel
theorem dX1_digest_245 : decode cX1_digest 245 = .ok (.iload 4, 2) := by decide +kernel
theorem dX1_digest_247 : decode cX1_digest 247 = .ok (.invokevirtual 81, 3) := by decide +kernel
theorem dX1_digest_250 : decode cX1_digest 250 = .ok (.i2l, 1) := by decide +kernel
theorem dX1_digest_251 : decode cX1_digest 251 = .ok (.ladd, 1) := by decide +kernel
theorem dX1_digest_252 : decode cX1_digest 252 = .ok (.lstore_n 1, 1) := by decide +kernel
theorem dX1_digest_253 : decode cX1_digest 253 = .ok (.iinc 4 1, 3) := by decide +kernel
theorem dX1_digest_256 : decode cX1_digest 256 = .ok (.goto (-46), 3) := by decide +kernel
theorem dX1_digest_259 : decode cX1_digest 259 = .ok (.iinc 3 1, 3) := by decide +kernel
theorem dX1_digest_262 : decode cX1_digest 262 = .ok (.goto (-99), 3) := by decide +kernel
theorem dX1_digest_265 : decode cX1_digest 265 = .ok (.lload_n 1, 1) := by decide +kernel
theorem dX1_digest_266 : decode cX1_digest 266 = .ok (.lreturn, 1) := by decide +kernel

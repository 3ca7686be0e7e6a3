theorem dX1_init_0 : decode cX1_init 0 = .ok (.aload_n 0, 1) := by decide +kernel
theorem dX1_init_1 : decode cX1_init 1 = .ok (.invokespecial 1, 3) := by decide +kernel
theorem dX1_init_4 : decode cX1_init 4 = .ok (.aload_n 0, 1) := by decide +kernel
theorem dX1_init_5 : decode cX1_init 5 = .ok (.iconst 0, 1) := by decide +kernel
theorem dX1_init_6 : decode cX1_init 6 = .ok (.anewarray 7, 3) := by decide +kernel
theorem dX1_init_9 : decode cX1_init 9 = .ok (.putfield 9, 3) := by decide +kernel
theorem dX1_init_12 : decode cX1_init 12 = .ok (.aload_n 0, 1) := by decide +kernel
theorem dX1_init_13 : decode cX1_init 13 = .ok (.iconst 0, 1) := by decide +kernel
theorem dX1_init_14 : decode cX1_init 14 = .ok (.anewarray 7, 3) := by decide +kernel
theorem dX1_init_17 : decode cX1_init 17 = .ok (.putfield 15, 3) := by decide +kernel
theorem dX1_init_20 : decode cX1_init 20 = .ok (.aload_n 0, 1) := by decide +kernel
theorem dX1_init_21 : decode cX1_init 21 = .ok (.iconst 0, 1) := by decide +kernel
theorem dX1_init_22 : decode cX1_init 22 = .ok (.anewarray 7, 3) := by decide +kernel
theorem dX1_init_25 : decode cX1_init 25 = .ok (.putfield 18, 3) := by decide +kernel
theorem dX1_init_28 : decode cX1_init 28 = .ok (.return_, 1) := by decide +kernel
theorem dX1_with_0 : decode cX1_with 0 = .ok (.aload_n 0, 1) := by decide +kernel
theorem dX1_with_1 : decode cX1_with 1 = .ok (.arraylength, 1) := by decide +kernel
theorem dX1_with_2 : decode cX1_with 2 = .ok (.iconst 1, 1) := by decide +kernel
theorem dX1_with_3 : decode cX1_with 3 = .ok (.iadd, 1) := by decide +kernel
theorem dX1_with_4 : decode cX1_with 4 = .ok (.anewarray 7, 3) := by decide +kernel
theorem dX1_with_7 : decode cX1_with 7 = .ok (.astore_n 2, 1) := by decide +kernel
theorem dX1_with_8 : decode cX1_with 8 = .ok (.iconst 0, 1) := by decide +kernel
theorem dX1_with_9 : decode cX1_with 9 = .ok (.istore_n 3, 1) := by decide +kernel
theorem dX1_with_10 : decode cX1_with 10 = .ok (.iload_n 3, 1) := by decide +kernel
theorem dX1_with_11 : decode cX1_with 11 = .ok (.aload_n 0, 1) := by decide +kernel
theorem dX1_with_12 : decode cX1_with 12 = .ok (.arraylength, 1) := by decide +kernel
theorem dX1_with_13 : decode cX1_with 13 = .ok (.if_icmp .ge 15, 3) := by decide +kernel
theorem dX1_with_16 : decode cX1_with 16 = .ok (.aload_n 2, 1) := by decide +kernel
theorem dX1_with_17 : decode cX1_with 17 = .ok (.iload_n 3, 1) := by decide +kernel
theorem dX1_with_18 : decode cX1_with 18 = .ok (.aload_n 0, 1) := by decide +kernel
theorem dX1_with_19 : decode cX1_with 19 = .ok (.iload_n 3, 1) := by decide +kernel
theorem dX1_with_20 : decode cX1_with 20 = .ok (.aaload, 1) := by decide +kernel
theorem dX1_with_21 : decode cX1_with 21 = .ok (.aastore, 1) := by decide +kernel
theorem dX1_with_22 : decode cX1_with 22 = .ok (.iinc 3 1, 3) := by decide +kernel
theorem dX1_with_25 : decode cX1_with 25 = .ok (.goto (-15), 3) := by decide +kernel
theorem dX1_with_28 : decode cX1_with 28 = .ok (.aload_n 2, 1) := by decide +kernel
theorem dX1_with_29 : decode cX1_with 29 = .ok (.aload_n 0, 1) := by decide +kernel
theorem dX1_with_30 : decode cX1_with 30 = .ok (.arraylength, 1) := by decide +kernel
theorem dX1_with_31 : decode cX1_with 31 = .ok (.aload_n 1, 1) := by decide +kernel
theorem dX1_with_32 : decode cX1_with 32 = .ok (.aastore, 1) := by decide +kernel
theorem dX1_with_33 : decode cX1_with 33 = .ok (.aload_n 2, 1) := by decide +kernel
theorem dX1_with_34 : decode cX1_with 34 = .ok (.areturn, 1) := by decide +kernel
theorem dX1_first_0 : decode cX1_first 0 = .ok (.iload_n 1, 1) := by decide +kernel
theorem dX1_first_1 : decode cX1_first 1 = .ok (.newarray .int, 2) := by decide +kernel
theorem dX1_first_3 : decode cX1_first 3 = .ok (.astore_n 2, 1) := by decide +kernel
theorem dX1_first_4 : decode cX1_first 4 = .ok (.iconst 0, 1) := by decide +kernel
theorem dX1_first_5 : decode cX1_first 5 = .ok (.istore_n 3, 1) := by decide +kernel
theorem dX1_first_6 : decode cX1_first 6 = .ok (.iload_n 3, 1) := by decide +kernel
theorem dX1_first_7 : decode cX1_first 7 = .ok (.iload_n 1, 1) := by decide +kernel
theorem dX1_first_8 : decode cX1_first 8 = .ok (.if_icmp .ge 21, 3) := by decide +kernel
theorem dX1_first_11 : decode cX1_first 11 = .ok (.iload_n 3, 1) := by decide +kernel
theorem dX1_first_12 : decode cX1_first 12 = .ok (.aload_n 0, 1) := by decide +kernel
theorem dX1_first_13 : decode cX1_first 13 = .ok (.arraylength, 1) := by decide +kernel
theorem dX1_first_14 : decode cX1_first 14 = .ok (.if_icmp .ge 15, 3) := by decide +kernel
theorem dX1_first_17 : decode cX1_first 17 = .ok (.aload_n 2, 1) := by decide +kernel
theorem dX1_first_18 : decode cX1_first 18 = .ok (.iload_n 3, 1) := by decide +kernel
theorem dX1_first_19 : decode cX1_first 19 = .ok (.aload_n 0, 1) := by decide +kernel
theorem dX1_first_20 : decode cX1_first 20 = .ok (.iload_n 3, 1) := by decide +kernel
theorem dX1_first_21 : decode cX1_first 21 = .ok (.iaload, 1) := by decide +kernel
theorem dX1_first_22 : decode cX1_first 22 = .ok (.iastore, 1) := by decide +kernel
theorem dX1_first_23 : decode cX1_first 23 = .ok (.iinc 3 1, 3) := by decide +kernel
theorem dX1_first_26 : decode cX1_first 26 = .ok (.goto (-20), 3) := by decide +kernel
theorem dX1_first_29 : decode cX1_first 29 = .ok (.aload_n 2, 1) := by decide +kernel
theorem dX1_first_30 : decode cX1_first 30 = .ok (.areturn, 1) := by decide +kernel
theorem dX1_form_0 : decode cX1_form 0 = .ok (.iload_n 1, 1) := by decide +kernel
theorem dX1_form_1 : decode cX1_form 1 = .ok (.istore_n 3, 1) := by decide +kernel
theorem dX1_form_2 : decode cX1_form 2 = .ok (.iconst 0, 1) := by decide +kernel
theorem dX1_form_3 : decode cX1_form 3 = .ok (.istore 4, 2) := by decide +kernel
theorem dX1_form_5 : decode cX1_form 5 = .ok (.iload_n 3, 1) := by decide +kernel
theorem dX1_form_6 : decode cX1_form 6 = .ok (.ifCond .lt 41, 3) := by decide +kernel
theorem dX1_form_9 : decode cX1_form 9 = .ok (.aload_n 0, 1) := by decide +kernel
theorem dX1_form_10 : decode cX1_form 10 = .ok (.getfield 9, 3) := by decide +kernel
theorem dX1_form_13 : decode cX1_form 13 = .ok (.iload_n 3, 1) := by decide +kernel
theorem dX1_form_14 : decode cX1_form 14 = .ok (.aaload, 1) := by decide +kernel
theorem dX1_form_15 : decode cX1_form 15 = .ok (.iconst 3, 1) := by decide +kernel
theorem dX1_form_16 : decode cX1_form 16 = .ok (.iaload, 1) := by decide +kernel
theorem dX1_form_17 : decode cX1_form 17 = .ok (.ifCond .le 30, 3) := by decide +kernel
theorem dX1_form_20 : decode cX1_form 20 = .ok (.aload_n 0, 1) := by decide +kernel
theorem dX1_form_21 : decode cX1_form 21 = .ok (.getfield 9, 3) := by decide +kernel
theorem dX1_form_24 : decode cX1_form 24 = .ok (.iload_n 3, 1) := by decide +kernel
theorem dX1_form_25 : decode cX1_form 25 = .ok (.aaload, 1) := by decide +kernel
theorem dX1_form_26 : decode cX1_form 26 = .ok (.iconst 3, 1) := by decide +kernel
theorem dX1_form_27 : decode cX1_form 27 = .ok (.iaload, 1) := by decide +kernel
theorem dX1_form_28 : decode cX1_form 28 = .ok (.iload_n 2, 1) := by decide +kernel
theorem dX1_form_29 : decode cX1_form 29 = .ok (.if_icmp .gt 18, 3) := by decide +kernel
theorem dX1_form_32 : decode cX1_form 32 = .ok (.aload_n 0, 1) := by decide +kernel
theorem dX1_form_33 : decode cX1_form 33 = .ok (.getfield 9, 3) := by decide +kernel
theorem dX1_form_36 : decode cX1_form 36 = .ok (.iload_n 3, 1) := by decide +kernel
theorem dX1_form_37 : decode cX1_form 37 = .ok (.aaload, 1) := by decide +kernel
theorem dX1_form_38 : decode cX1_form 38 = .ok (.iconst 4, 1) := by decide +kernel
theorem dX1_form_39 : decode cX1_form 39 = .ok (.iaload, 1) := by decide +kernel
theorem dX1_form_40 : decode cX1_form 40 = .ok (.istore_n 3, 1) := by decide +kernel
theorem dX1_form_41 : decode cX1_form 41 = .ok (.iinc 4 1, 3) := by decide +kernel
theorem dX1_form_44 : decode cX1_form 44 = .ok (.goto (-39), 3) := by decide +kernel
theorem dX1_form_47 : decode cX1_form 47 = .ok (.iconst 2, 1) := by decide +kernel
theorem dX1_form_48 : decode cX1_form 48 = .ok (.newarray .int, 2) := by decide +kernel
theorem dX1_form_50 : decode cX1_form 50 = .ok (.dup, 1) := by decide +kernel
theorem dX1_form_51 : decode cX1_form 51 = .ok (.iconst 0, 1) := by decide +kernel
theorem dX1_form_52 : decode cX1_form 52 = .ok (.iload_n 3, 1) := by decide +kernel
theorem dX1_form_53 : decode cX1_form 53 = .ok (.iastore, 1) := by decide +kernel
theorem dX1_form_54 : decode cX1_form 54 = .ok (.dup, 1) := by decide +kernel
theorem dX1_form_55 : decode cX1_form 55 = .ok (.iconst 1, 1) := by decide +kernel
theorem dX1_form_56 : decode cX1_form 56 = .ok (.iload 4, 2) := by decide +kernel
theorem dX1_form_58 : decode cX1_form 58 = .ok (.iastore, 1) := by decide +kernel
theorem dX1_form_59 : decode cX1_form 59 = .ok (.areturn, 1) := by decide +kernel
theorem dX1_worth_0 : decode cX1_worth 0 = .ok (.sipush 1000, 3) := by decide +kernel
theorem dX1_worth_3 : decode cX1_worth 3 = .ok (.aload_n 0, 1) := by decide +kernel
theorem dX1_worth_4 : decode cX1_worth 4 = .ok (.getfield 9, 3) := by decide +kernel
theorem dX1_worth_7 : decode cX1_worth 7 = .ok (.iload_n 1, 1) := by decide +kernel
theorem dX1_worth_8 : decode cX1_worth 8 = .ok (.aaload, 1) := by decide +kernel
theorem dX1_worth_9 : decode cX1_worth 9 = .ok (.iconst 1, 1) := by decide +kernel
theorem dX1_worth_10 : decode cX1_worth 10 = .ok (.iaload, 1) := by decide +kernel
theorem dX1_worth_11 : decode cX1_worth 11 = .ok (.imul, 1) := by decide +kernel
theorem dX1_worth_12 : decode cX1_worth 12 = .ok (.bipush 20, 2) := by decide +kernel
theorem dX1_worth_14 : decode cX1_worth 14 = .ok (.aload_n 0, 1) := by decide +kernel
theorem dX1_worth_15 : decode cX1_worth 15 = .ok (.getfield 9, 3) := by decide +kernel
theorem dX1_worth_18 : decode cX1_worth 18 = .ok (.iload_n 1, 1) := by decide +kernel
theorem dX1_worth_19 : decode cX1_worth 19 = .ok (.aaload, 1) := by decide +kernel
theorem dX1_worth_20 : decode cX1_worth 20 = .ok (.iconst 2, 1) := by decide +kernel
theorem dX1_worth_21 : decode cX1_worth 21 = .ok (.iaload, 1) := by decide +kernel
theorem dX1_worth_22 : decode cX1_worth 22 = .ok (.imul, 1) := by decide +kernel
theorem dX1_worth_23 : decode cX1_worth 23 = .ok (.isub, 1) := by decide +kernel
theorem dX1_worth_24 : decode cX1_worth 24 = .ok (.iload_n 1, 1) := by decide +kernel
theorem dX1_worth_25 : decode cX1_worth 25 = .ok (.isub, 1) := by decide +kernel
theorem dX1_worth_26 : decode cX1_worth 26 = .ok (.ireturn, 1) := by decide +kernel
theorem dX1_rank_0 : decode cX1_rank 0 = .ok (.iconst 0, 1) := by decide +kernel
theorem dX1_rank_1 : decode cX1_rank 1 = .ok (.istore_n 2, 1) := by decide +kernel
theorem dX1_rank_2 : decode cX1_rank 2 = .ok (.iconst 0, 1) := by decide +kernel
theorem dX1_rank_3 : decode cX1_rank 3 = .ok (.istore_n 3, 1) := by decide +kernel
theorem dX1_rank_4 : decode cX1_rank 4 = .ok (.iload_n 3, 1) := by decide +kernel
theorem dX1_rank_5 : decode cX1_rank 5 = .ok (.aload_n 0, 1) := by decide +kernel
theorem dX1_rank_6 : decode cX1_rank 6 = .ok (.getfield 9, 3) := by decide +kernel
theorem dX1_rank_9 : decode cX1_rank 9 = .ok (.arraylength, 1) := by decide +kernel
theorem dX1_rank_10 : decode cX1_rank 10 = .ok (.if_icmp .ge 49, 3) := by decide +kernel
theorem dX1_rank_13 : decode cX1_rank 13 = .ok (.iload_n 2, 1) := by decide +kernel
theorem dX1_rank_14 : decode cX1_rank 14 = .ok (.aload_n 0, 1) := by decide +kernel
theorem dX1_rank_15 : decode cX1_rank 15 = .ok (.getfield 9, 3) := by decide +kernel
theorem dX1_rank_18 : decode cX1_rank 18 = .ok (.iload_n 3, 1) := by decide +kernel
theorem dX1_rank_19 : decode cX1_rank 19 = .ok (.aaload, 1) := by decide +kernel
theorem dX1_rank_20 : decode cX1_rank 20 = .ok (.iconst 0, 1) := by decide +kernel
theorem dX1_rank_21 : decode cX1_rank 21 = .ok (.iaload, 1) := by decide +kernel
theorem dX1_rank_22 : decode cX1_rank 22 = .ok (.aload_n 0, 1) := by decide +kernel
theorem dX1_rank_23 : decode cX1_rank 23 = .ok (.getfield 9, 3) := by decide +kernel
theorem dX1_rank_26 : decode cX1_rank 26 = .ok (.iload_n 1, 1) := by decide +kernel
theorem dX1_rank_27 : decode cX1_rank 27 = .ok (.aaload, 1) := by decide +kernel
theorem dX1_rank_28 : decode cX1_rank 28 = .ok (.iconst 0, 1) := by decide +kernel
theorem dX1_rank_29 : decode cX1_rank 29 = .ok (.iaload, 1) := by decide +kernel
theorem dX1_rank_30 : decode cX1_rank 30 = .ok (.if_icmp .ne 20, 3) := by decide +kernel
theorem dX1_rank_33 : decode cX1_rank 33 = .ok (.aload_n 0, 1) := by decide +kernel
theorem dX1_rank_34 : decode cX1_rank 34 = .ok (.iload_n 3, 1) := by decide +kernel
theorem dX1_rank_35 : decode cX1_rank 35 = .ok (.invokevirtual 21, 3) := by decide +kernel
theorem dX1_rank_38 : decode cX1_rank 38 = .ok (.aload_n 0, 1) := by decide +kernel
theorem dX1_rank_39 : decode cX1_rank 39 = .ok (.iload_n 1, 1) := by decide +kernel
theorem dX1_rank_40 : decode cX1_rank 40 = .ok (.invokevirtual 21, 3) := by decide +kernel
theorem dX1_rank_43 : decode cX1_rank 43 = .ok (.if_icmp .le 7, 3) := by decide +kernel
theorem dX1_rank_46 : decode cX1_rank 46 = .ok (.iconst 1, 1) := by decide +kernel
theorem dX1_rank_47 : decode cX1_rank 47 = .ok (.goto 4, 3) := by decide +kernel
theorem dX1_rank_50 : decode cX1_rank 50 = .ok (.iconst 0, 1) := by decide +kernel
theorem dX1_rank_51 : decode cX1_rank 51 = .ok (.iadd, 1) := by decide +kernel
theorem dX1_rank_52 : decode cX1_rank 52 = .ok (.istore_n 2, 1) := by decide +kernel
theorem dX1_rank_53 : decode cX1_rank 53 = .ok (.iinc 3 1, 3) := by decide +kernel
theorem dX1_rank_56 : decode cX1_rank 56 = .ok (.goto (-52), 3) := by decide +kernel
theorem dX1_rank_59 : decode cX1_rank 59 = .ok (.iload_n 2, 1) := by decide +kernel
theorem dX1_rank_60 : decode cX1_rank 60 = .ok (.ireturn, 1) := by decide +kernel
theorem dX1_strength_0 : decode cX1_strength 0 = .ok (.iload_n 2, 1) := by decide +kernel
theorem dX1_strength_1 : decode cX1_strength 1 = .ok (.ifCond .le 37, 3) := by decide +kernel
theorem dX1_strength_4 : decode cX1_strength 4 = .ok (.aload_n 0, 1) := by decide +kernel
theorem dX1_strength_5 : decode cX1_strength 5 = .ok (.getfield 15, 3) := by decide +kernel
theorem dX1_strength_8 : decode cX1_strength 8 = .ok (.iload_n 1, 1) := by decide +kernel
theorem dX1_strength_9 : decode cX1_strength 9 = .ok (.aaload, 1) := by decide +kernel
theorem dX1_strength_10 : decode cX1_strength 10 = .ok (.iload_n 2, 1) := by decide +kernel
theorem dX1_strength_11 : decode cX1_strength 11 = .ok (.iconst 1, 1) := by decide +kernel
theorem dX1_strength_12 : decode cX1_strength 12 = .ok (.isub, 1) := by decide +kernel
theorem dX1_strength_13 : decode cX1_strength 13 = .ok (.iaload, 1) := by decide +kernel
theorem dX1_strength_14 : decode cX1_strength 14 = .ok (.aload_n 0, 1) := by decide +kernel
theorem dX1_strength_15 : decode cX1_strength 15 = .ok (.getfield 15, 3) := by decide +kernel
theorem dX1_strength_18 : decode cX1_strength 18 = .ok (.iload_n 1, 1) := by decide +kernel
theorem dX1_strength_19 : decode cX1_strength 19 = .ok (.aaload, 1) := by decide +kernel
theorem dX1_strength_20 : decode cX1_strength 20 = .ok (.iload_n 2, 1) := by decide +kernel
theorem dX1_strength_21 : decode cX1_strength 21 = .ok (.iaload, 1) := by decide +kernel
theorem dX1_strength_22 : decode cX1_strength 22 = .ok (.if_icmp .ge 16, 3) := by decide +kernel
theorem dX1_strength_25 : decode cX1_strength 25 = .ok (.aload_n 0, 1) := by decide +kernel
theorem dX1_strength_26 : decode cX1_strength 26 = .ok (.getfield 15, 3) := by decide +kernel
theorem dX1_strength_29 : decode cX1_strength 29 = .ok (.iload_n 1, 1) := by decide +kernel
theorem dX1_strength_30 : decode cX1_strength 30 = .ok (.aaload, 1) := by decide +kernel
theorem dX1_strength_31 : decode cX1_strength 31 = .ok (.iload_n 2, 1) := by decide +kernel
theorem dX1_strength_32 : decode cX1_strength 32 = .ok (.iconst 1, 1) := by decide +kernel
theorem dX1_strength_33 : decode cX1_strength 33 = .ok (.isub, 1) := by decide +kernel
theorem dX1_strength_34 : decode cX1_strength 34 = .ok (.iaload, 1) := by decide +kernel
theorem dX1_strength_35 : decode cX1_strength 35 = .ok (.goto 11, 3) := by decide +kernel
theorem dX1_strength_38 : decode cX1_strength 38 = .ok (.aload_n 0, 1) := by decide +kernel
theorem dX1_strength_39 : decode cX1_strength 39 = .ok (.getfield 15, 3) := by decide +kernel
theorem dX1_strength_42 : decode cX1_strength 42 = .ok (.iload_n 1, 1) := by decide +kernel
theorem dX1_strength_43 : decode cX1_strength 43 = .ok (.aaload, 1) := by decide +kernel
theorem dX1_strength_44 : decode cX1_strength 44 = .ok (.iload_n 2, 1) := by decide +kernel
theorem dX1_strength_45 : decode cX1_strength 45 = .ok (.iaload, 1) := by decide +kernel
theorem dX1_strength_46 : decode cX1_strength 46 = .ok (.istore 4, 2) := by decide +kernel
theorem dX1_strength_48 : decode cX1_strength 48 = .ok (.iload 4, 2) := by decide +kernel
theorem dX1_strength_50 : decode cX1_strength 50 = .ok (.aload_n 0, 1) := by decide +kernel
theorem dX1_strength_51 : decode cX1_strength 51 = .ok (.getfield 9, 3) := by decide +kernel
theorem dX1_strength_54 : decode cX1_strength 54 = .ok (.iload_n 3, 1) := by decide +kernel
theorem dX1_strength_55 : decode cX1_strength 55 = .ok (.aaload, 1) := by decide +kernel
theorem dX1_strength_56 : decode cX1_strength 56 = .ok (.iconst 1, 1) := by decide +kernel
theorem dX1_strength_57 : decode cX1_strength 57 = .ok (.iaload, 1) := by decide +kernel
theorem dX1_strength_58 : decode cX1_strength 58 = .ok (.imul, 1) := by decide +kernel
theorem dX1_strength_59 : decode cX1_strength 59 = .ok (.bipush 100, 2) := by decide +kernel
theorem dX1_strength_61 : decode cX1_strength 61 = .ok (.idiv, 1) := by decide +kernel
theorem dX1_strength_62 : decode cX1_strength 62 = .ok (.ireturn, 1) := by decide +kernel
theorem dX1_gives_0 : decode cX1_gives 0 = .ok (.iconst 0, 1) := by decide +kernel
theorem dX1_gives_1 : decode cX1_gives 1 = .ok (.istore_n 3, 1) := by decide +kernel
theorem dX1_gives_2 : decode cX1_gives 2 = .ok (.iload_n 3, 1) := by decide +kernel
theorem dX1_gives_3 : decode cX1_gives 3 = .ok (.aload_n 0, 1) := by decide +kernel
theorem dX1_gives_4 : decode cX1_gives 4 = .ok (.getfield 15, 3) := by decide +kernel
theorem dX1_gives_7 : decode cX1_gives 7 = .ok (.iload_n 1, 1) := by decide +kernel
theorem dX1_gives_8 : decode cX1_gives 8 = .ok (.aaload, 1) := by decide +kernel
theorem dX1_gives_9 : decode cX1_gives 9 = .ok (.arraylength, 1) := by decide +kernel
theorem dX1_gives_10 : decode cX1_gives 10 = .ok (.if_icmp .ge 45, 3) := by decide +kernel
theorem dX1_gives_13 : decode cX1_gives 13 = .ok (.aload_n 0, 1) := by decide +kernel
theorem dX1_gives_14 : decode cX1_gives 14 = .ok (.aload_n 0, 1) := by decide +kernel
theorem dX1_gives_15 : decode cX1_gives 15 = .ok (.getfield 18, 3) := by decide +kernel
theorem dX1_gives_18 : decode cX1_gives 18 = .ok (.iload_n 1, 1) := by decide +kernel
theorem dX1_gives_19 : decode cX1_gives 19 = .ok (.aaload, 1) := by decide +kernel
theorem dX1_gives_20 : decode cX1_gives 20 = .ok (.iload_n 3, 1) := by decide +kernel
theorem dX1_gives_21 : decode cX1_gives 21 = .ok (.iaload, 1) := by decide +kernel
theorem dX1_gives_22 : decode cX1_gives 22 = .ok (.iload_n 2, 1) := by decide +kernel
theorem dX1_gives_23 : decode cX1_gives 23 = .ok (.invokevirtual 25, 3) := by decide +kernel
theorem dX1_gives_26 : decode cX1_gives 26 = .ok (.iconst 0, 1) := by decide +kernel
theorem dX1_gives_27 : decode cX1_gives 27 = .ok (.iaload, 1) := by decide +kernel
theorem dX1_gives_28 : decode cX1_gives 28 = .ok (.istore 4, 2) := by decide +kernel
theorem dX1_gives_30 : decode cX1_gives 30 = .ok (.iload 4, 2) := by decide +kernel
theorem dX1_gives_32 : decode cX1_gives 32 = .ok (.ifCond .lt 15, 3) := by decide +kernel
theorem dX1_gives_35 : decode cX1_gives 35 = .ok (.aload_n 0, 1) := by decide +kernel
theorem dX1_gives_36 : decode cX1_gives 36 = .ok (.iload_n 1, 1) := by decide +kernel
theorem dX1_gives_37 : decode cX1_gives 37 = .ok (.iload_n 3, 1) := by decide +kernel
theorem dX1_gives_38 : decode cX1_gives 38 = .ok (.iload 4, 2) := by decide +kernel
theorem dX1_gives_40 : decode cX1_gives 40 = .ok (.invokevirtual 29, 3) := by decide +kernel
theorem dX1_gives_43 : decode cX1_gives 43 = .ok (.iload_n 2, 1) := by decide +kernel
theorem dX1_gives_44 : decode cX1_gives 44 = .ok (.if_icmp .ge 5, 3) := by decide +kernel
theorem dX1_gives_47 : decode cX1_gives 47 = .ok (.iload_n 3, 1) := by decide +kernel
theorem dX1_gives_48 : decode cX1_gives 48 = .ok (.ireturn, 1) := by decide +kernel
theorem dX1_gives_49 : decode cX1_gives 49 = .ok (.iinc 3 1, 3) := by decide +kernel
theorem dX1_gives_52 : decode cX1_gives 52 = .ok (.goto (-50), 3) := by decide +kernel
theorem dX1_gives_55 : decode cX1_gives 55 = .ok (.iconst (-1), 1) := by decide +kernel
theorem dX1_gives_56 : decode cX1_gives 56 = .ok (.ireturn, 1) := by decide +kernel
theorem dX1_pull_0 : decode cX1_pull 0 = .ok (.aload_n 0, 1) := by decide +kernel
theorem dX1_pull_1 : decode cX1_pull 1 = .ok (.iload_n 1, 1) := by decide +kernel
theorem dX1_pull_2 : decode cX1_pull 2 = .ok (.iload_n 2, 1) := by decide +kernel
theorem dX1_pull_3 : decode cX1_pull 3 = .ok (.invokevirtual 33, 3) := by decide +kernel
theorem dX1_pull_6 : decode cX1_pull 6 = .ok (.istore_n 3, 1) := by decide +kernel
theorem dX1_pull_7 : decode cX1_pull 7 = .ok (.iload_n 3, 1) := by decide +kernel
theorem dX1_pull_8 : decode cX1_pull 8 = .ok (.ifCond .lt 35, 3) := by decide +kernel
theorem dX1_pull_11 : decode cX1_pull 11 = .ok (.aload_n 0, 1) := by decide +kernel
theorem dX1_pull_12 : decode cX1_pull 12 = .ok (.getfield 15, 3) := by decide +kernel
theorem dX1_pull_15 : decode cX1_pull 15 = .ok (.iload_n 1, 1) := by decide +kernel
theorem dX1_pull_16 : decode cX1_pull 16 = .ok (.aload_n 0, 1) := by decide +kernel
theorem dX1_pull_17 : decode cX1_pull 17 = .ok (.getfield 15, 3) := by decide +kernel
theorem dX1_pull_20 : decode cX1_pull 20 = .ok (.iload_n 1, 1) := by decide +kernel
theorem dX1_pull_21 : decode cX1_pull 21 = .ok (.aaload, 1) := by decide +kernel
theorem dX1_pull_22 : decode cX1_pull 22 = .ok (.iload_n 3, 1) := by decide +kernel
theorem dX1_pull_23 : decode cX1_pull 23 = .ok (.invokestatic 37, 3) := by decide +kernel
theorem dX1_pull_26 : decode cX1_pull 26 = .ok (.aastore, 1) := by decide +kernel
theorem dX1_pull_27 : decode cX1_pull 27 = .ok (.aload_n 0, 1) := by decide +kernel
theorem dX1_pull_28 : decode cX1_pull 28 = .ok (.getfield 18, 3) := by decide +kernel
theorem dX1_pull_31 : decode cX1_pull 31 = .ok (.iload_n 1, 1) := by decide +kernel
theorem dX1_pull_32 : decode cX1_pull 32 = .ok (.aload_n 0, 1) := by decide +kernel
theorem dX1_pull_33 : decode cX1_pull 33 = .ok (.getfield 18, 3) := by decide +kernel
theorem dX1_pull_36 : decode cX1_pull 36 = .ok (.iload_n 1, 1) := by decide +kernel
theorem dX1_pull_37 : decode cX1_pull 37 = .ok (.aaload, 1) := by decide +kernel
theorem dX1_pull_38 : decode cX1_pull 38 = .ok (.iload_n 3, 1) := by decide +kernel
theorem dX1_pull_39 : decode cX1_pull 39 = .ok (.invokestatic 37, 3) := by decide +kernel
theorem dX1_pull_42 : decode cX1_pull 42 = .ok (.aastore, 1) := by decide +kernel
theorem dX1_pull_43 : decode cX1_pull 43 = .ok (.iconst 0, 1) := by decide +kernel
theorem dX1_pull_44 : decode cX1_pull 44 = .ok (.istore 4, 2) := by decide +kernel
theorem dX1_pull_46 : decode cX1_pull 46 = .ok (.iload 4, 2) := by decide +kernel
theorem dX1_pull_48 : decode cX1_pull 48 = .ok (.aload_n 0, 1) := by decide +kernel
theorem dX1_pull_49 : decode cX1_pull 49 = .ok (.getfield 18, 3) := by decide +kernel
theorem dX1_pull_52 : decode cX1_pull 52 = .ok (.iload_n 1, 1) := by decide +kernel
theorem dX1_pull_53 : decode cX1_pull 53 = .ok (.aaload, 1) := by decide +kernel
theorem dX1_pull_54 : decode cX1_pull 54 = .ok (.arraylength, 1) := by decide +kernel
theorem dX1_pull_55 : decode cX1_pull 55 = .ok (.if_icmp .ge 34, 3) := by decide +kernel
theorem dX1_pull_58 : decode cX1_pull 58 = .ok (.aload_n 0, 1) := by decide +kernel
theorem dX1_pull_59 : decode cX1_pull 59 = .ok (.getfield 18, 3) := by decide +kernel
theorem dX1_pull_62 : decode cX1_pull 62 = .ok (.iload_n 1, 1) := by decide +kernel
theorem dX1_pull_63 : decode cX1_pull 63 = .ok (.aaload, 1) := by decide +kernel
theorem dX1_pull_64 : decode cX1_pull 64 = .ok (.iload 4, 2) := by decide +kernel
theorem dX1_pull_66 : decode cX1_pull 66 = .ok (.aload_n 0, 1) := by decide +kernel
theorem dX1_pull_67 : decode cX1_pull 67 = .ok (.aload_n 0, 1) := by decide +kernel
theorem dX1_pull_68 : decode cX1_pull 68 = .ok (.getfield 18, 3) := by decide +kernel
theorem dX1_pull_71 : decode cX1_pull 71 = .ok (.iload_n 1, 1) := by decide +kernel
theorem dX1_pull_72 : decode cX1_pull 72 = .ok (.aaload, 1) := by decide +kernel
theorem dX1_pull_73 : decode cX1_pull 73 = .ok (.iload 4, 2) := by decide +kernel
theorem dX1_pull_75 : decode cX1_pull 75 = .ok (.iaload, 1) := by decide +kernel
theorem dX1_pull_76 : decode cX1_pull 76 = .ok (.iload_n 2, 1) := by decide +kernel
theorem dX1_pull_77 : decode cX1_pull 77 = .ok (.invokevirtual 25, 3) := by decide +kernel
theorem dX1_pull_80 : decode cX1_pull 80 = .ok (.iconst 0, 1) := by decide +kernel
theorem dX1_pull_81 : decode cX1_pull 81 = .ok (.iaload, 1) := by decide +kernel
theorem dX1_pull_82 : decode cX1_pull 82 = .ok (.iastore, 1) := by decide +kernel
theorem dX1_pull_83 : decode cX1_pull 83 = .ok (.iinc 4 1, 3) := by decide +kernel
theorem dX1_pull_86 : decode cX1_pull 86 = .ok (.goto (-40), 3) := by decide +kernel
theorem dX1_pull_89 : decode cX1_pull 89 = .ok (.return_, 1) := by decide +kernel
theorem dX1_weakest_0 : decode cX1_weakest 0 = .ok (.iconst (-1), 1) := by decide +kernel
theorem dX1_weakest_1 : decode cX1_weakest 1 = .ok (.istore_n 2, 1) := by decide +kernel
theorem dX1_weakest_2 : decode cX1_weakest 2 = .ok (.aload_n 0, 1) := by decide +kernel
theorem dX1_weakest_3 : decode cX1_weakest 3 = .ok (.getfield 18, 3) := by decide +kernel
theorem dX1_weakest_6 : decode cX1_weakest 6 = .ok (.iload_n 1, 1) := by decide +kernel
theorem dX1_weakest_7 : decode cX1_weakest 7 = .ok (.aaload, 1) := by decide +kernel
theorem dX1_weakest_8 : decode cX1_weakest 8 = .ok (.arraylength, 1) := by decide +kernel
theorem dX1_weakest_9 : decode cX1_weakest 9 = .ok (.iconst 1, 1) := by decide +kernel
theorem dX1_weakest_10 : decode cX1_weakest 10 = .ok (.isub, 1) := by decide +kernel
theorem dX1_weakest_11 : decode cX1_weakest 11 = .ok (.istore_n 3, 1) := by decide +kernel
theorem dX1_weakest_12 : decode cX1_weakest 12 = .ok (.iload_n 3, 1) := by decide +kernel
theorem dX1_weakest_13 : decode cX1_weakest 13 = .ok (.ifCond .lt 46, 3) := by decide +kernel
theorem dX1_weakest_16 : decode cX1_weakest 16 = .ok (.iload_n 2, 1) := by decide +kernel
theorem dX1_weakest_17 : decode cX1_weakest 17 = .ok (.ifCond .lt 34, 3) := by decide +kernel
theorem dX1_weakest_20 : decode cX1_weakest 20 = .ok (.aload_n 0, 1) := by decide +kernel
theorem dX1_weakest_21 : decode cX1_weakest 21 = .ok (.iload_n 1, 1) := by decide +kernel
theorem dX1_weakest_22 : decode cX1_weakest 22 = .ok (.iload_n 3, 1) := by decide +kernel
theorem dX1_weakest_23 : decode cX1_weakest 23 = .ok (.aload_n 0, 1) := by decide +kernel
theorem dX1_weakest_24 : decode cX1_weakest 24 = .ok (.getfield 18, 3) := by decide +kernel
theorem dX1_weakest_27 : decode cX1_weakest 27 = .ok (.iload_n 1, 1) := by decide +kernel
theorem dX1_weakest_28 : decode cX1_weakest 28 = .ok (.aaload, 1) := by decide +kernel
theorem dX1_weakest_29 : decode cX1_weakest 29 = .ok (.iload_n 3, 1) := by decide +kernel
theorem dX1_weakest_30 : decode cX1_weakest 30 = .ok (.iaload, 1) := by decide +kernel
theorem dX1_weakest_31 : decode cX1_weakest 31 = .ok (.invokevirtual 29, 3) := by decide +kernel
theorem dX1_weakest_34 : decode cX1_weakest 34 = .ok (.aload_n 0, 1) := by decide +kernel
theorem dX1_weakest_35 : decode cX1_weakest 35 = .ok (.iload_n 1, 1) := by decide +kernel
theorem dX1_weakest_36 : decode cX1_weakest 36 = .ok (.iload_n 2, 1) := by decide +kernel
theorem dX1_weakest_37 : decode cX1_weakest 37 = .ok (.aload_n 0, 1) := by decide +kernel
theorem dX1_weakest_38 : decode cX1_weakest 38 = .ok (.getfield 18, 3) := by decide +kernel
theorem dX1_weakest_41 : decode cX1_weakest 41 = .ok (.iload_n 1, 1) := by decide +kernel
theorem dX1_weakest_42 : decode cX1_weakest 42 = .ok (.aaload, 1) := by decide +kernel
theorem dX1_weakest_43 : decode cX1_weakest 43 = .ok (.iload_n 2, 1) := by decide +kernel
theorem dX1_weakest_44 : decode cX1_weakest 44 = .ok (.iaload, 1) := by decide +kernel
theorem dX1_weakest_45 : decode cX1_weakest 45 = .ok (.invokevirtual 29, 3) := by decide +kernel
theorem dX1_weakest_48 : decode cX1_weakest 48 = .ok (.if_icmp .gt 5, 3) := by decide +kernel
theorem dX1_weakest_51 : decode cX1_weakest 51 = .ok (.iload_n 3, 1) := by decide +kernel
theorem dX1_weakest_52 : decode cX1_weakest 52 = .ok (.istore_n 2, 1) := by decide +kernel
theorem dX1_weakest_53 : decode cX1_weakest 53 = .ok (.iinc 3 (-1), 3) := by decide +kernel
theorem dX1_weakest_56 : decode cX1_weakest 56 = .ok (.goto (-44), 3) := by decide +kernel
theorem dX1_weakest_59 : decode cX1_weakest 59 = .ok (.iload_n 2, 1) := by decide +kernel
theorem dX1_weakest_60 : decode cX1_weakest 60 = .ok (.ireturn, 1) := by decide +kernel
theorem dX1_isSame_0 : decode cX1_isSame 0 = .ok (.iconst 2, 1) := by decide +kernel
theorem dX1_isSame_1 : decode cX1_isSame 1 = .ok (.newarray .int, 2) := by decide +kernel
theorem dX1_isSame_3 : decode cX1_isSame 3 = .ok (.astore_n 2, 1) := by decide +kernel
theorem dX1_isSame_4 : decode cX1_isSame 4 = .ok (.iconst 0, 1) := by decide +kernel
theorem dX1_isSame_5 : decode cX1_isSame 5 = .ok (.istore_n 3, 1) := by decide +kernel
theorem dX1_isSame_6 : decode cX1_isSame 6 = .ok (.iconst 0, 1) := by decide +kernel
theorem dX1_isSame_7 : decode cX1_isSame 7 = .ok (.istore 4, 2) := by decide +kernel
theorem dX1_isSame_9 : decode cX1_isSame 9 = .ok (.iload 4, 2) := by decide +kernel
theorem dX1_isSame_11 : decode cX1_isSame 11 = .ok (.aload_n 0, 1) := by decide +kernel
theorem dX1_isSame_12 : decode cX1_isSame 12 = .ok (.getfield 9, 3) := by decide +kernel
theorem dX1_isSame_15 : decode cX1_isSame 15 = .ok (.arraylength, 1) := by decide +kernel
theorem dX1_isSame_16 : decode cX1_isSame 16 = .ok (.if_icmp .ge 136, 3) := by decide +kernel
theorem dX1_isSame_19 : decode cX1_isSame 19 = .ok (.aload_n 0, 1) := by decide +kernel
theorem dX1_isSame_20 : decode cX1_isSame 20 = .ok (.getfield 9, 3) := by decide +kernel
theorem dX1_isSame_23 : decode cX1_isSame 23 = .ok (.iload 4, 2) := by decide +kernel
theorem dX1_isSame_25 : decode cX1_isSame 25 = .ok (.aaload, 1) := by decide +kernel
theorem dX1_isSame_26 : decode cX1_isSame 26 = .ok (.astore 5, 2) := by decide +kernel
theorem dX1_isSame_28 : decode cX1_isSame 28 = .ok (.aload_n 2, 1) := by decide +kernel
theorem dX1_isSame_29 : decode cX1_isSame 29 = .ok (.aload 5, 2) := by decide +kernel
theorem dX1_isSame_31 : decode cX1_isSame 31 = .ok (.iconst 0, 1) := by decide +kernel
theorem dX1_isSame_32 : decode cX1_isSame 32 = .ok (.iaload, 1) := by decide +kernel
theorem dX1_isSame_33 : decode cX1_isSame 33 = .ok (.dup2, 1) := by decide +kernel
theorem dX1_isSame_34 : decode cX1_isSame 34 = .ok (.iaload, 1) := by decide +kernel
theorem dX1_isSame_35 : decode cX1_isSame 35 = .ok (.iconst 1, 1) := by decide +kernel
theorem dX1_isSame_36 : decode cX1_isSame 36 = .ok (.iadd, 1) := by decide +kernel
theorem dX1_isSame_37 : decode cX1_isSame 37 = .ok (.iastore, 1) := by decide +kernel
theorem dX1_isSame_38 : decode cX1_isSame 38 = .ok (.iload_n 3, 1) := by decide +kernel
theorem dX1_isSame_39 : decode cX1_isSame 39 = .ok (.aload 5, 2) := by decide +kernel
theorem dX1_isSame_41 : decode cX1_isSame 41 = .ok (.iconst 1, 1) := by decide +kernel
theorem dX1_isSame_42 : decode cX1_isSame 42 = .ok (.iaload, 1) := by decide +kernel
theorem dX1_isSame_43 : decode cX1_isSame 43 = .ok (.iadd, 1) := by decide +kernel
theorem dX1_isSame_44 : decode cX1_isSame 44 = .ok (.istore_n 3, 1) := by decide +kernel
theorem dX1_isSame_45 : decode cX1_isSame 45 = .ok (.aload_n 1, 1) := by decide +kernel
theorem dX1_isSame_46 : decode cX1_isSame 46 = .ok (.iload 4, 2) := by decide +kernel
theorem dX1_isSame_48 : decode cX1_isSame 48 = .ok (.invokevirtual 41, 3) := by decide +kernel
theorem dX1_isSame_51 : decode cX1_isSame 51 = .ok (.aload 5, 2) := by decide +kernel
theorem dX1_isSame_53 : decode cX1_isSame 53 = .ok (.iconst 0, 1) := by decide +kernel
theorem dX1_isSame_54 : decode cX1_isSame 54 = .ok (.iaload, 1) := by decide +kernel
theorem dX1_isSame_55 : decode cX1_isSame 55 = .ok (.if_icmp .ne 89, 3) := by decide +kernel
theorem dX1_isSame_58 : decode cX1_isSame 58 = .ok (.aload_n 1, 1) := by decide +kernel
theorem dX1_isSame_59 : decode cX1_isSame 59 = .ok (.iload 4, 2) := by decide +kernel
theorem dX1_isSame_61 : decode cX1_isSame 61 = .ok (.invokevirtual 46, 3) := by decide +kernel
theorem dX1_isSame_64 : decode cX1_isSame 64 = .ok (.aload 5, 2) := by decide +kernel
theorem dX1_isSame_66 : decode cX1_isSame 66 = .ok (.iconst 1, 1) := by decide +kernel
theorem dX1_isSame_67 : decode cX1_isSame 67 = .ok (.iaload, 1) := by decide +kernel
theorem dX1_isSame_68 : decode cX1_isSame 68 = .ok (.if_icmp .ne 76, 3) := by decide +kernel
theorem dX1_isSame_71 : decode cX1_isSame 71 = .ok (.aload_n 1, 1) := by decide +kernel
theorem dX1_isSame_72 : decode cX1_isSame 72 = .ok (.iload 4, 2) := by decide +kernel
theorem dX1_isSame_74 : decode cX1_isSame 74 = .ok (.invokevirtual 49, 3) := by decide +kernel
theorem dX1_isSame_77 : decode cX1_isSame 77 = .ok (.aload 5, 2) := by decide +kernel
theorem dX1_isSame_79 : decode cX1_isSame 79 = .ok (.iconst 2, 1) := by decide +kernel
theorem dX1_isSame_80 : decode cX1_isSame 80 = .ok (.iaload, 1) := by decide +kernel
theorem dX1_isSame_81 : decode cX1_isSame 81 = .ok (.if_icmp .ne 63, 3) := by decide +kernel
theorem dX1_isSame_84 : decode cX1_isSame 84 = .ok (.aload_n 1, 1) := by decide +kernel
theorem dX1_isSame_85 : decode cX1_isSame 85 = .ok (.iload 4, 2) := by decide +kernel
theorem dX1_isSame_87 : decode cX1_isSame 87 = .ok (.invokevirtual 52, 3) := by decide +kernel
theorem dX1_isSame_90 : decode cX1_isSame 90 = .ok (.aload 5, 2) := by decide +kernel
theorem dX1_isSame_92 : decode cX1_isSame 92 = .ok (.iconst 3, 1) := by decide +kernel
theorem dX1_isSame_93 : decode cX1_isSame 93 = .ok (.iaload, 1) := by decide +kernel
theorem dX1_isSame_94 : decode cX1_isSame 94 = .ok (.if_icmp .ne 50, 3) := by decide +kernel
theorem dX1_isSame_97 : decode cX1_isSame 97 = .ok (.aload_n 1, 1) := by decide +kernel
theorem dX1_isSame_98 : decode cX1_isSame 98 = .ok (.iload 4, 2) := by decide +kernel
theorem dX1_isSame_100 : decode cX1_isSame 100 = .ok (.invokevirtual 55, 3) := by decide +kernel
theorem dX1_isSame_103 : decode cX1_isSame 103 = .ok (.aload 5, 2) := by decide +kernel
theorem dX1_isSame_105 : decode cX1_isSame 105 = .ok (.iconst 4, 1) := by decide +kernel
theorem dX1_isSame_106 : decode cX1_isSame 106 = .ok (.iaload, 1) := by decide +kernel
theorem dX1_isSame_107 : decode cX1_isSame 107 = .ok (.if_icmp .ne 37, 3) := by decide +kernel
theorem dX1_isSame_110 : decode cX1_isSame 110 = .ok (.aload_n 1, 1) := by decide +kernel
theorem dX1_isSame_111 : decode cX1_isSame 111 = .ok (.iload 4, 2) := by decide +kernel
theorem dX1_isSame_113 : decode cX1_isSame 113 = .ok (.invokevirtual 58, 3) := by decide +kernel
theorem dX1_isSame_116 : decode cX1_isSame 116 = .ok (.aload_n 0, 1) := by decide +kernel
theorem dX1_isSame_117 : decode cX1_isSame 117 = .ok (.iload 4, 2) := by decide +kernel
theorem dX1_isSame_119 : decode cX1_isSame 119 = .ok (.invokevirtual 61, 3) := by decide +kernel
theorem dX1_isSame_122 : decode cX1_isSame 122 = .ok (.if_icmp .ne 22, 3) := by decide +kernel
theorem dX1_isSame_125 : decode cX1_isSame 125 = .ok (.aload_n 1, 1) := by decide +kernel
theorem dX1_isSame_126 : decode cX1_isSame 126 = .ok (.aload 5, 2) := by decide +kernel
theorem dX1_isSame_128 : decode cX1_isSame 128 = .ok (.iconst 0, 1) := by decide +kernel
theorem dX1_isSame_129 : decode cX1_isSame 129 = .ok (.iaload, 1) := by decide +kernel
theorem dX1_isSame_130 : decode cX1_isSame 130 = .ok (.aload_n 0, 1) := by decide +kernel
theorem dX1_isSame_131 : decode cX1_isSame 131 = .ok (.iload 4, 2) := by decide +kernel
theorem dX1_isSame_133 : decode cX1_isSame 133 = .ok (.invokevirtual 61, 3) := by decide +kernel
theorem dX1_isSame_136 : decode cX1_isSame 136 = .ok (.invokevirtual 64, 3) := by decide +kernel
theorem dX1_isSame_139 : decode cX1_isSame 139 = .ok (.iload 4, 2) := by decide +kernel
theorem dX1_isSame_141 : decode cX1_isSame 141 = .ok (.if_icmp .eq 5, 3) := by decide +kernel
theorem dX1_isSame_144 : decode cX1_isSame 144 = .ok (.iconst 0, 1) := by decide +kernel
theorem dX1_isSame_145 : decode cX1_isSame 145 = .ok (.ireturn, 1) := by decide +kernel
theorem dX1_isSame_146 : decode cX1_isSame 146 = .ok (.iinc 4 1, 3) := by decide +kernel
theorem dX1_isSame_149 : decode cX1_isSame 149 = .ok (.goto (-140), 3) := by decide +kernel
theorem dX1_isSame_152 : decode cX1_isSame 152 = .ok (.iconst 0, 1) := by decide +kernel
theorem dX1_isSame_153 : decode cX1_isSame 153 = .ok (.istore 4, 2) := by decide +kernel
theorem dX1_isSame_155 : decode cX1_isSame 155 = .ok (.iload 4, 2) := by decide +kernel
theorem dX1_isSame_157 : decode cX1_isSame 157 = .ok (.aload_n 0, 1) := by decide +kernel
theorem dX1_isSame_158 : decode cX1_isSame 158 = .ok (.getfield 15, 3) := by decide +kernel
theorem dX1_isSame_161 : decode cX1_isSame 161 = .ok (.arraylength, 1) := by decide +kernel
theorem dX1_isSame_162 : decode cX1_isSame 162 = .ok (.if_icmp .ge 117, 3) := by decide +kernel
theorem dX1_isSame_165 : decode cX1_isSame 165 = .ok (.aload_n 1, 1) := by decide +kernel
theorem dX1_isSame_166 : decode cX1_isSame 166 = .ok (.iload 4, 2) := by decide +kernel
theorem dX1_isSame_168 : decode cX1_isSame 168 = .ok (.invokevirtual 67, 3) := by decide +kernel
theorem dX1_isSame_171 : decode cX1_isSame 171 = .ok (.aload_n 0, 1) := by decide +kernel
theorem dX1_isSame_172 : decode cX1_isSame 172 = .ok (.getfield 15, 3) := by decide +kernel
theorem dX1_isSame_175 : decode cX1_isSame 175 = .ok (.iload 4, 2) := by decide +kernel
theorem dX1_isSame_177 : decode cX1_isSame 177 = .ok (.aaload, 1) := by decide +kernel
theorem dX1_isSame_178 : decode cX1_isSame 178 = .ok (.arraylength, 1) := by decide +kernel
theorem dX1_isSame_179 : decode cX1_isSame 179 = .ok (.if_icmp .ne 18, 3) := by decide +kernel
theorem dX1_isSame_182 : decode cX1_isSame 182 = .ok (.aload_n 1, 1) := by decide +kernel
theorem dX1_isSame_183 : decode cX1_isSame 183 = .ok (.iload 4, 2) := by decide +kernel
theorem dX1_isSame_185 : decode cX1_isSame 185 = .ok (.invokevirtual 70, 3) := by decide +kernel
theorem dX1_isSame_188 : decode cX1_isSame 188 = .ok (.aload_n 0, 1) := by decide +kernel
theorem dX1_isSame_189 : decode cX1_isSame 189 = .ok (.iload 4, 2) := by decide +kernel
theorem dX1_isSame_191 : decode cX1_isSame 191 = .ok (.invokevirtual 73, 3) := by decide +kernel
theorem dX1_isSame_194 : decode cX1_isSame 194 = .ok (.if_icmp .eq 5, 3) := by decide +kernel
theorem dX1_isSame_197 : decode cX1_isSame 197 = .ok (.iconst 0, 1) := by decide +kernel
theorem dX1_isSame_198 : decode cX1_isSame 198 = .ok (.ireturn, 1) := by decide +kernel
theorem dX1_isSame_199 : decode cX1_isSame 199 = .ok (.iconst 0, 1) := by decide +kernel
theorem dX1_isSame_200 : decode cX1_isSame 200 = .ok (.istore 5, 2) := by decide +kernel
theorem dX1_isSame_202 : decode cX1_isSame 202 = .ok (.iload 5, 2) := by decide +kernel
theorem dX1_isSame_204 : decode cX1_isSame 204 = .ok (.aload_n 0, 1) := by decide +kernel
theorem dX1_isSame_205 : decode cX1_isSame 205 = .ok (.getfield 15, 3) := by decide +kernel
theorem dX1_isSame_208 : decode cX1_isSame 208 = .ok (.iload 4, 2) := by decide +kernel
theorem dX1_isSame_210 : decode cX1_isSame 210 = .ok (.aaload, 1) := by decide +kernel
theorem dX1_isSame_211 : decode cX1_isSame 211 = .ok (.arraylength, 1) := by decide +kernel
theorem dX1_isSame_212 : decode cX1_isSame 212 = .ok (.if_icmp .ge 61, 3) := by decide +kernel
theorem dX1_isSame_215 : decode cX1_isSame 215 = .ok (.aload_n 1, 1) := by decide +kernel
theorem dX1_isSame_216 : decode cX1_isSame 216 = .ok (.iload 4, 2) := by decide +kernel
theorem dX1_isSame_218 : decode cX1_isSame 218 = .ok (.iload 5, 2) := by decide +kernel
theorem dX1_isSame_220 : decode cX1_isSame 220 = .ok (.invokevirtual 76, 3) := by decide +kernel
theorem dX1_isSame_223 : decode cX1_isSame 223 = .ok (.aload_n 0, 1) := by decide +kernel
theorem dX1_isSame_224 : decode cX1_isSame 224 = .ok (.getfield 18, 3) := by decide +kernel
theorem dX1_isSame_227 : decode cX1_isSame 227 = .ok (.iload 4, 2) := by decide +kernel
theorem dX1_isSame_229 : decode cX1_isSame 229 = .ok (.aaload, 1) := by decide +kernel
theorem dX1_isSame_230 : decode cX1_isSame 230 = .ok (.iload 5, 2) := by decide +kernel
theorem dX1_isSame_232 : decode cX1_isSame 232 = .ok (.iaload, 1) := by decide +kernel
theorem dX1_isSame_233 : decode cX1_isSame 233 = .ok (.if_icmp .ne 32, 3) := by decide +kernel
theorem dX1_isSame_236 : decode cX1_isSame 236 = .ok (.aload_n 1, 1) := by decide +kernel
theorem dX1_isSame_237 : decode cX1_isSame 237 = .ok (.iload 4, 2) := by decide +kernel
theorem dX1_isSame_239 : decode cX1_isSame 239 = .ok (.iload 5, 2) := by decide +kernel
theorem dX1_isSame_241 : decode cX1_isSame 241 = .ok (.invokevirtual 79, 3) := by decide +kernel
theorem dX1_isSame_244 : decode cX1_isSame 244 = .ok (.aload_n 0, 1) := by decide +kernel
theorem dX1_isSame_245 : decode cX1_isSame 245 = .ok (.iload 4, 2) := by decide +kernel
theorem dX1_isSame_247 : decode cX1_isSame 247 = .ok (.iload 5, 2) := by decide +kernel
theorem dX1_isSame_249 : decode cX1_isSame 249 = .ok (.aload_n 0, 1) := by decide +kernel
theorem dX1_isSame_250 : decode cX1_isSame 250 = .ok (.getfield 18, 3) := by decide +kernel
theorem dX1_isSame_253 : decode cX1_isSame 253 = .ok (.iload 4, 2) := by decide +kernel
theorem dX1_isSame_255 : decode cX1_isSame 255 = .ok (.aaload, 1) := by decide +kernel
theorem dX1_isSame_256 : decode cX1_isSame 256 = .ok (.iload 5, 2) := by decide +kernel
theorem dX1_isSame_258 : decode cX1_isSame 258 = .ok (.iaload, 1) := by decide +kernel
theorem dX1_isSame_259 : decode cX1_isSame 259 = .ok (.invokevirtual 29, 3) := by decide +kernel
theorem dX1_isSame_262 : decode cX1_isSame 262 = .ok (.if_icmp .eq 5, 3) := by decide +kernel
theorem dX1_isSame_265 : decode cX1_isSame 265 = .ok (.iconst 0, 1) := by decide +kernel
theorem dX1_isSame_266 : decode cX1_isSame 266 = .ok (.ireturn, 1) := by decide +kernel
theorem dX1_isSame_267 : decode cX1_isSame 267 = .ok (.iinc 5 1, 3) := by decide +kernel
theorem dX1_isSame_270 : decode cX1_isSame 270 = .ok (.goto (-68), 3) := by decide +kernel
theorem dX1_isSame_273 : decode cX1_isSame 273 = .ok (.iinc 4 1, 3) := by decide +kernel
theorem dX1_isSame_276 : decode cX1_isSame 276 = .ok (.goto (-121), 3) := by decide +kernel
theorem dX1_isSame_279 : decode cX1_isSame 279 = .ok (.aload_n 1, 1) := by decide +kernel
theorem dX1_isSame_280 : decode cX1_isSame 280 = .ok (.invokevirtual 82, 3) := by decide +kernel
theorem dX1_isSame_283 : decode cX1_isSame 283 = .ok (.aload_n 0, 1) := by decide +kernel
theorem dX1_isSame_284 : decode cX1_isSame 284 = .ok (.getfield 9, 3) := by decide +kernel
theorem dX1_isSame_287 : decode cX1_isSame 287 = .ok (.arraylength, 1) := by decide +kernel
theorem dX1_isSame_288 : decode cX1_isSame 288 = .ok (.if_icmp .ne 70, 3) := by decide +kernel
theorem dX1_isSame_291 : decode cX1_isSame 291 = .ok (.aload_n 1, 1) := by decide +kernel
theorem dX1_isSame_292 : decode cX1_isSame 292 = .ok (.iconst 0, 1) := by decide +kernel
theorem dX1_isSame_293 : decode cX1_isSame 293 = .ok (.invokevirtual 85, 3) := by decide +kernel
theorem dX1_isSame_296 : decode cX1_isSame 296 = .ok (.aload_n 2, 1) := by decide +kernel
theorem dX1_isSame_297 : decode cX1_isSame 297 = .ok (.iconst 0, 1) := by decide +kernel
theorem dX1_isSame_298 : decode cX1_isSame 298 = .ok (.iaload, 1) := by decide +kernel
theorem dX1_isSame_299 : decode cX1_isSame 299 = .ok (.if_icmp .ne 59, 3) := by decide +kernel
theorem dX1_isSame_302 : decode cX1_isSame 302 = .ok (.aload_n 1, 1) := by decide +kernel
theorem dX1_isSame_303 : decode cX1_isSame 303 = .ok (.iconst 1, 1) := by decide +kernel
theorem dX1_isSame_304 : decode cX1_isSame 304 = .ok (.invokevirtual 85, 3) := by decide +kernel
theorem dX1_isSame_307 : decode cX1_isSame 307 = .ok (.aload_n 2, 1) := by decide +kernel
theorem dX1_isSame_308 : decode cX1_isSame 308 = .ok (.iconst 1, 1) := by decide +kernel
theorem dX1_isSame_309 : decode cX1_isSame 309 = .ok (.iaload, 1) := by decide +kernel
theorem dX1_isSame_310 : decode cX1_isSame 310 = .ok (.if_icmp .ne 48, 3) := by decide +kernel
theorem dX1_isSame_313 : decode cX1_isSame 313 = .ok (.aload_n 1, 1) := by decide +kernel
theorem dX1_isSame_314 : decode cX1_isSame 314 = .ok (.invokevirtual 88, 3) := by decide +kernel
theorem dX1_isSame_317 : decode cX1_isSame 317 = .ok (.aload_n 0, 1) := by decide +kernel
theorem dX1_isSame_318 : decode cX1_isSame 318 = .ok (.getfield 15, 3) := by decide +kernel
theorem dX1_isSame_321 : decode cX1_isSame 321 = .ok (.arraylength, 1) := by decide +kernel
theorem dX1_isSame_322 : decode cX1_isSame 322 = .ok (.if_icmp .ne 36, 3) := by decide +kernel
theorem dX1_isSame_325 : decode cX1_isSame 325 = .ok (.aload_n 1, 1) := by decide +kernel
theorem dX1_isSame_326 : decode cX1_isSame 326 = .ok (.invokevirtual 91, 3) := by decide +kernel
theorem dX1_isSame_329 : decode cX1_isSame 329 = .ok (.aload_n 0, 1) := by decide +kernel
theorem dX1_isSame_330 : decode cX1_isSame 330 = .ok (.getfield 9, 3) := by decide +kernel
theorem dX1_isSame_333 : decode cX1_isSame 333 = .ok (.arraylength, 1) := by decide +kernel
theorem dX1_isSame_334 : decode cX1_isSame 334 = .ok (.ifCond .ne 7, 3) := by decide +kernel
theorem dX1_isSame_337 : decode cX1_isSame 337 = .ok (.dconst 0, 1) := by decide +kernel
theorem dX1_isSame_338 : decode cX1_isSame 338 = .ok (.goto 12, 3) := by decide +kernel
theorem dX1_isSame_341 : decode cX1_isSame 341 = .ok (.iload_n 3, 1) := by decide +kernel
theorem dX1_isSame_342 : decode cX1_isSame 342 = .ok (.i2d, 1) := by decide +kernel
theorem dX1_isSame_343 : decode cX1_isSame 343 = .ok (.aload_n 0, 1) := by decide +kernel
theorem dX1_isSame_344 : decode cX1_isSame 344 = .ok (.getfield 9, 3) := by decide +kernel
theorem dX1_isSame_347 : decode cX1_isSame 347 = .ok (.arraylength, 1) := by decide +kernel
theorem dX1_isSame_348 : decode cX1_isSame 348 = .ok (.i2d, 1) := by decide +kernel
theorem dX1_isSame_349 : decode cX1_isSame 349 = .ok (.ddiv, 1) := by decide +kernel
theorem dX1_isSame_350 : decode cX1_isSame 350 = .ok (.dcmp .l, 1) := by decide +kernel
theorem dX1_isSame_351 : decode cX1_isSame 351 = .ok (.ifCond .ne 7, 3) := by decide +kernel
theorem dX1_isSame_354 : decode cX1_isSame 354 = .ok (.iconst 1, 1) := by decide +kernel
theorem dX1_isSame_355 : decode cX1_isSame 355 = .ok (.goto 4, 3) := by decide +kernel
theorem dX1_isSame_358 : decode cX1_isSame 358 = .ok (.iconst 0, 1) := by decide +kernel
theorem dX1_isSame_359 : decode cX1_isSame 359 = .ok (.ireturn, 1) := by decide +kernel

theorem dX0_init_0 : decode cX0_init 0 = .ok (.aload_n 0, 1) := by decide +kernel
theorem dX0_init_1 : decode cX0_init 1 = .ok (.invokespecial 1, 3) := by decide +kernel
theorem dX0_init_4 : decode cX0_init 4 = .ok (.aload_n 0, 1) := by decide +kernel
theorem dX0_init_5 : decode cX0_init 5 = .ok (.bipush 16, 2) := by decide +kernel
theorem dX0_init_7 : decode cX0_init 7 = .ok (.newarray .int, 2) := by decide +kernel
theorem dX0_init_9 : decode cX0_init 9 = .ok (.putfield 9, 3) := by decide +kernel
theorem dX0_init_12 : decode cX0_init 12 = .ok (.aload_n 0, 1) := by decide +kernel
theorem dX0_init_13 : decode cX0_init 13 = .ok (.bipush 16, 2) := by decide +kernel
theorem dX0_init_15 : decode cX0_init 15 = .ok (.newarray .int, 2) := by decide +kernel
theorem dX0_init_17 : decode cX0_init 17 = .ok (.putfield 13, 3) := by decide +kernel
theorem dX0_init_20 : decode cX0_init 20 = .ok (.aload_n 0, 1) := by decide +kernel
theorem dX0_init_21 : decode cX0_init 21 = .ok (.bipush 16, 2) := by decide +kernel
theorem dX0_init_23 : decode cX0_init 23 = .ok (.newarray .int, 2) := by decide +kernel
theorem dX0_init_25 : decode cX0_init 25 = .ok (.putfield 16, 3) := by decide +kernel
theorem dX0_init_28 : decode cX0_init 28 = .ok (.aload_n 0, 1) := by decide +kernel
theorem dX0_init_29 : decode cX0_init 29 = .ok (.bipush 16, 2) := by decide +kernel
theorem dX0_init_31 : decode cX0_init 31 = .ok (.newarray .int, 2) := by decide +kernel
theorem dX0_init_33 : decode cX0_init 33 = .ok (.putfield 19, 3) := by decide +kernel
theorem dX0_init_36 : decode cX0_init 36 = .ok (.aload_n 0, 1) := by decide +kernel
theorem dX0_init_37 : decode cX0_init 37 = .ok (.bipush 16, 2) := by decide +kernel
theorem dX0_init_39 : decode cX0_init 39 = .ok (.newarray .int, 2) := by decide +kernel
theorem dX0_init_41 : decode cX0_init 41 = .ok (.putfield 22, 3) := by decide +kernel
theorem dX0_init_44 : decode cX0_init 44 = .ok (.aload_n 0, 1) := by decide +kernel
theorem dX0_init_45 : decode cX0_init 45 = .ok (.iconst 0, 1) := by decide +kernel
theorem dX0_init_46 : decode cX0_init 46 = .ok (.putfield 25, 3) := by decide +kernel
theorem dX0_init_49 : decode cX0_init 49 = .ok (.aload_n 0, 1) := by decide +kernel
theorem dX0_init_50 : decode cX0_init 50 = .ok (.bipush 6, 2) := by decide +kernel
theorem dX0_init_52 : decode cX0_init 52 = .ok (.newarray .int, 2) := by decide +kernel
theorem dX0_init_54 : decode cX0_init 54 = .ok (.putfield 29, 3) := by decide +kernel
theorem dX0_init_57 : decode cX0_init 57 = .ok (.aload_n 0, 1) := by decide +kernel
theorem dX0_init_58 : decode cX0_init 58 = .ok (.iconst 0, 1) := by decide +kernel
theorem dX0_init_59 : decode cX0_init 59 = .ok (.putfield 32, 3) := by decide +kernel
theorem dX0_init_62 : decode cX0_init 62 = .ok (.aload_n 0, 1) := by decide +kernel
theorem dX0_init_63 : decode cX0_init 63 = .ok (.bipush 30, 2) := by decide +kernel
theorem dX0_init_65 : decode cX0_init 65 = .ok (.newarray .int, 2) := by decide +kernel
theorem dX0_init_67 : decode cX0_init 67 = .ok (.putfield 35, 3) := by decide +kernel
theorem dX0_init_70 : decode cX0_init 70 = .ok (.aload_n 0, 1) := by decide +kernel
theorem dX0_init_71 : decode cX0_init 71 = .ok (.bipush 30, 2) := by decide +kernel
theorem dX0_init_73 : decode cX0_init 73 = .ok (.newarray .int, 2) := by decide +kernel
theorem dX0_init_75 : decode cX0_init 75 = .ok (.putfield 38, 3) := by decide +kernel
theorem dX0_init_78 : decode cX0_init 78 = .ok (.return_, 1) := by decide +kernel
theorem dX0_addKnot_0 : decode cX0_addKnot 0 = .ok (.iload_n 1, 1) := by decide +kernel
theorem dX0_addKnot_1 : decode cX0_addKnot 1 = .ok (.invokestatic 41, 3) := by decide +kernel
theorem dX0_addKnot_4 : decode cX0_addKnot 4 = .ok (.iload_n 2, 1) := by decide +kernel
theorem dX0_addKnot_5 : decode cX0_addKnot 5 = .ok (.bipush 10, 2) := by decide +kernel
theorem dX0_addKnot_7 : decode cX0_addKnot 7 = .ok (.if_icmp .lt 9, 3) := by decide +kernel
theorem dX0_addKnot_10 : decode cX0_addKnot 10 = .ok (.iload_n 2, 1) := by decide +kernel
theorem dX0_addKnot_11 : decode cX0_addKnot 11 = .ok (.bipush 100, 2) := by decide +kernel
theorem dX0_addKnot_13 : decode cX0_addKnot 13 = .ok (.if_icmp .le 13, 3) := by decide +kernel
theorem dX0_addKnot_16 : decode cX0_addKnot 16 = .ok (.new 45, 3) := by decide +kernel
theorem dX0_addKnot_19 : decode cX0_addKnot 19 = .ok (.dup, 1) := by decide +kernel
theorem dX0_addKnot_20 : decode cX0_addKnot 20 = .ok (.ldc 47, 2) := by decide +kernel
theorem dX0_addKnot_22 : decode cX0_addKnot 22 = .ok (.invokespecial 49, 3) := by decide +kernel
theorem dX0_addKnot_25 : decode cX0_addKnot 25 = .ok (.athrow, 1) := by decide +kernel
theorem dX0_addKnot_26 : decode cX0_addKnot 26 = .ok (.iload_n 3, 1) := by decide +kernel
theorem dX0_addKnot_27 : decode cX0_addKnot 27 = .ok (.iconst 1, 1) := by decide +kernel
theorem dX0_addKnot_28 : decode cX0_addKnot 28 = .ok (.if_icmp .lt 9, 3) := by decide +kernel
theorem dX0_addKnot_31 : decode cX0_addKnot 31 = .ok (.iload_n 3, 1) := by decide +kernel
theorem dX0_addKnot_32 : decode cX0_addKnot 32 = .ok (.bipush 9, 2) := by decide +kernel
theorem dX0_addKnot_34 : decode cX0_addKnot 34 = .ok (.if_icmp .le 13, 3) := by decide +kernel
theorem dX0_addKnot_37 : decode cX0_addKnot 37 = .ok (.new 45, 3) := by decide +kernel
theorem dX0_addKnot_40 : decode cX0_addKnot 40 = .ok (.dup, 1) := by decide +kernel
theorem dX0_addKnot_41 : decode cX0_addKnot 41 = .ok (.ldc 52, 2) := by decide +kernel
theorem dX0_addKnot_43 : decode cX0_addKnot 43 = .ok (.invokespecial 49, 3) := by decide +kernel
theorem dX0_addKnot_46 : decode cX0_addKnot 46 = .ok (.athrow, 1) := by decide +kernel
theorem dX0_addKnot_47 : decode cX0_addKnot 47 = .ok (.aload_n 0, 1) := by decide +kernel
theorem dX0_addKnot_48 : decode cX0_addKnot 48 = .ok (.getfield 25, 3) := by decide +kernel
theorem dX0_addKnot_51 : decode cX0_addKnot 51 = .ok (.bipush 16, 2) := by decide +kernel
theorem dX0_addKnot_53 : decode cX0_addKnot 53 = .ok (.if_icmp .lt 13, 3) := by decide +kernel
theorem dX0_addKnot_56 : decode cX0_addKnot 56 = .ok (.new 54, 3) := by decide +kernel
theorem dX0_addKnot_59 : decode cX0_addKnot 59 = .ok (.dup, 1) := by decide +kernel
theorem dX0_addKnot_60 : decode cX0_addKnot 60 = .ok (.ldc 56, 2) := by decide +kernel
theorem dX0_addKnot_62 : decode cX0_addKnot 62 = .ok (.invokespecial 58, 3) := by decide +kernel
theorem dX0_addKnot_65 : decode cX0_addKnot 65 = .ok (.athrow, 1) := by decide +kernel
theorem dX0_addKnot_66 : decode cX0_addKnot 66 = .ok (.aload_n 0, 1) := by decide +kernel
theorem dX0_addKnot_67 : decode cX0_addKnot 67 = .ok (.getfield 25, 3) := by decide +kernel
theorem dX0_addKnot_70 : decode cX0_addKnot 70 = .ok (.istore 4, 2) := by decide +kernel
theorem dX0_addKnot_72 : decode cX0_addKnot 72 = .ok (.aload_n 0, 1) := by decide +kernel
theorem dX0_addKnot_73 : decode cX0_addKnot 73 = .ok (.getfield 9, 3) := by decide +kernel
theorem dX0_addKnot_76 : decode cX0_addKnot 76 = .ok (.iload 4, 2) := by decide +kernel
theorem dX0_addKnot_78 : decode cX0_addKnot 78 = .ok (.iload_n 1, 1) := by decide +kernel
theorem dX0_addKnot_79 : decode cX0_addKnot 79 = .ok (.iastore, 1) := by decide +kernel
theorem dX0_addKnot_80 : decode cX0_addKnot 80 = .ok (.aload_n 0, 1) := by decide +kernel
theorem dX0_addKnot_81 : decode cX0_addKnot 81 = .ok (.getfield 13, 3) := by decide +kernel
theorem dX0_addKnot_84 : decode cX0_addKnot 84 = .ok (.iload 4, 2) := by decide +kernel
theorem dX0_addKnot_86 : decode cX0_addKnot 86 = .ok (.iload_n 2, 1) := by decide +kernel
theorem dX0_addKnot_87 : decode cX0_addKnot 87 = .ok (.iastore, 1) := by decide +kernel
theorem dX0_addKnot_88 : decode cX0_addKnot 88 = .ok (.aload_n 0, 1) := by decide +kernel
theorem dX0_addKnot_89 : decode cX0_addKnot 89 = .ok (.getfield 16, 3) := by decide +kernel
theorem dX0_addKnot_92 : decode cX0_addKnot 92 = .ok (.iload 4, 2) := by decide +kernel
theorem dX0_addKnot_94 : decode cX0_addKnot 94 = .ok (.iload_n 3, 1) := by decide +kernel
theorem dX0_addKnot_95 : decode cX0_addKnot 95 = .ok (.iastore, 1) := by decide +kernel
theorem dX0_addKnot_96 : decode cX0_addKnot 96 = .ok (.aload_n 0, 1) := by decide +kernel
theorem dX0_addKnot_97 : decode cX0_addKnot 97 = .ok (.getfield 19, 3) := by decide +kernel
theorem dX0_addKnot_100 : decode cX0_addKnot 100 = .ok (.iload 4, 2) := by decide +kernel
theorem dX0_addKnot_102 : decode cX0_addKnot 102 = .ok (.iconst 0, 1) := by decide +kernel
theorem dX0_addKnot_103 : decode cX0_addKnot 103 = .ok (.iastore, 1) := by decide +kernel
theorem dX0_addKnot_104 : decode cX0_addKnot 104 = .ok (.aload_n 0, 1) := by decide +kernel
theorem dX0_addKnot_105 : decode cX0_addKnot 105 = .ok (.getfield 22, 3) := by decide +kernel
theorem dX0_addKnot_108 : decode cX0_addKnot 108 = .ok (.iload 4, 2) := by decide +kernel
theorem dX0_addKnot_110 : decode cX0_addKnot 110 = .ok (.iconst (-1), 1) := by decide +kernel
theorem dX0_addKnot_111 : decode cX0_addKnot 111 = .ok (.iastore, 1) := by decide +kernel
theorem dX0_addKnot_112 : decode cX0_addKnot 112 = .ok (.aload_n 0, 1) := by decide +kernel
theorem dX0_addKnot_113 : decode cX0_addKnot 113 = .ok (.iload 4, 2) := by decide +kernel
theorem dX0_addKnot_115 : decode cX0_addKnot 115 = .ok (.iconst 1, 1) := by decide +kernel
theorem dX0_addKnot_116 : decode cX0_addKnot 116 = .ok (.iadd, 1) := by decide +kernel
theorem dX0_addKnot_117 : decode cX0_addKnot 117 = .ok (.putfield 25, 3) := by decide +kernel
theorem dX0_addKnot_120 : decode cX0_addKnot 120 = .ok (.iload 4, 2) := by decide +kernel
theorem dX0_addKnot_122 : decode cX0_addKnot 122 = .ok (.ireturn, 1) := by decide +kernel
theorem dX0_setSpill_0 : decode cX0_setSpill 0 = .ok (.aload_n 0, 1) := by decide +kernel
theorem dX0_setSpill_1 : decode cX0_setSpill 1 = .ok (.iload_n 1, 1) := by decide +kernel
theorem dX0_setSpill_2 : decode cX0_setSpill 2 = .ok (.invokevirtual 59, 3) := by decide +kernel
theorem dX0_setSpill_5 : decode cX0_setSpill 5 = .ok (.iload_n 2, 1) := by decide +kernel
theorem dX0_setSpill_6 : decode cX0_setSpill 6 = .ok (.invokestatic 62, 3) := by decide +kernel
theorem dX0_setSpill_9 : decode cX0_setSpill 9 = .ok (.iload_n 3, 1) := by decide +kernel
theorem dX0_setSpill_10 : decode cX0_setSpill 10 = .ok (.iconst (-1), 1) := by decide +kernel
theorem dX0_setSpill_11 : decode cX0_setSpill 11 = .ok (.if_icmp .lt 8, 3) := by decide +kernel
theorem dX0_setSpill_14 : decode cX0_setSpill 14 = .ok (.iload_n 3, 1) := by decide +kernel
theorem dX0_setSpill_15 : decode cX0_setSpill 15 = .ok (.iload_n 1, 1) := by decide +kernel
theorem dX0_setSpill_16 : decode cX0_setSpill 16 = .ok (.if_icmp .lt 13, 3) := by decide +kernel
theorem dX0_setSpill_19 : decode cX0_setSpill 19 = .ok (.new 45, 3) := by decide +kernel
theorem dX0_setSpill_22 : decode cX0_setSpill 22 = .ok (.dup, 1) := by decide +kernel
theorem dX0_setSpill_23 : decode cX0_setSpill 23 = .ok (.ldc 65, 2) := by decide +kernel
theorem dX0_setSpill_25 : decode cX0_setSpill 25 = .ok (.invokespecial 49, 3) := by decide +kernel
theorem dX0_setSpill_28 : decode cX0_setSpill 28 = .ok (.athrow, 1) := by decide +kernel
theorem dX0_setSpill_29 : decode cX0_setSpill 29 = .ok (.iload_n 3, 1) := by decide +kernel
theorem dX0_setSpill_30 : decode cX0_setSpill 30 = .ok (.iconst (-1), 1) := by decide +kernel
theorem dX0_setSpill_31 : decode cX0_setSpill 31 = .ok (.if_icmp .eq 28, 3) := by decide +kernel
theorem dX0_setSpill_34 : decode cX0_setSpill 34 = .ok (.aload_n 0, 1) := by decide +kernel
theorem dX0_setSpill_35 : decode cX0_setSpill 35 = .ok (.getfield 9, 3) := by decide +kernel
theorem dX0_setSpill_38 : decode cX0_setSpill 38 = .ok (.iload_n 3, 1) := by decide +kernel
theorem dX0_setSpill_39 : decode cX0_setSpill 39 = .ok (.iaload, 1) := by decide +kernel
theorem dX0_setSpill_40 : decode cX0_setSpill 40 = .ok (.aload_n 0, 1) := by decide +kernel
theorem dX0_setSpill_41 : decode cX0_setSpill 41 = .ok (.getfield 9, 3) := by decide +kernel
theorem dX0_setSpill_44 : decode cX0_setSpill 44 = .ok (.iload_n 1, 1) := by decide +kernel
theorem dX0_setSpill_45 : decode cX0_setSpill 45 = .ok (.iaload, 1) := by decide +kernel
theorem dX0_setSpill_46 : decode cX0_setSpill 46 = .ok (.if_icmp .eq 13, 3) := by decide +kernel
theorem dX0_setSpill_49 : decode cX0_setSpill 49 = .ok (.new 45, 3) := by decide +kernel
theorem dX0_setSpill_52 : decode cX0_setSpill 52 = .ok (.dup, 1) := by decide +kernel
theorem dX0_setSpill_53 : decode cX0_setSpill 53 = .ok (.ldc 67, 2) := by decide +kernel
theorem dX0_setSpill_55 : decode cX0_setSpill 55 = .ok (.invokespecial 49, 3) := by decide +kernel
theorem dX0_setSpill_58 : decode cX0_setSpill 58 = .ok (.athrow, 1) := by decide +kernel
theorem dX0_setSpill_59 : decode cX0_setSpill 59 = .ok (.aload_n 0, 1) := by decide +kernel
theorem dX0_setSpill_60 : decode cX0_setSpill 60 = .ok (.getfield 19, 3) := by decide +kernel
theorem dX0_setSpill_63 : decode cX0_setSpill 63 = .ok (.iload_n 1, 1) := by decide +kernel
theorem dX0_setSpill_64 : decode cX0_setSpill 64 = .ok (.iaload, 1) := by decide +kernel
theorem dX0_setSpill_65 : decode cX0_setSpill 65 = .ok (.istore 4, 2) := by decide +kernel
theorem dX0_setSpill_67 : decode cX0_setSpill 67 = .ok (.aload_n 0, 1) := by decide +kernel
theorem dX0_setSpill_68 : decode cX0_setSpill 68 = .ok (.getfield 19, 3) := by decide +kernel
theorem dX0_setSpill_71 : decode cX0_setSpill 71 = .ok (.iload_n 1, 1) := by decide +kernel
theorem dX0_setSpill_72 : decode cX0_setSpill 72 = .ok (.iload_n 2, 1) := by decide +kernel
theorem dX0_setSpill_73 : decode cX0_setSpill 73 = .ok (.iastore, 1) := by decide +kernel
theorem dX0_setSpill_74 : decode cX0_setSpill 74 = .ok (.aload_n 0, 1) := by decide +kernel
theorem dX0_setSpill_75 : decode cX0_setSpill 75 = .ok (.getfield 22, 3) := by decide +kernel
theorem dX0_setSpill_78 : decode cX0_setSpill 78 = .ok (.iload_n 1, 1) := by decide +kernel
theorem dX0_setSpill_79 : decode cX0_setSpill 79 = .ok (.iload_n 3, 1) := by decide +kernel
theorem dX0_setSpill_80 : decode cX0_setSpill 80 = .ok (.iastore, 1) := by decide +kernel
theorem dX0_setSpill_81 : decode cX0_setSpill 81 = .ok (.iload 4, 2) := by decide +kernel
theorem dX0_setSpill_83 : decode cX0_setSpill 83 = .ok (.ireturn, 1) := by decide +kernel
theorem dX0_tie_0 : decode cX0_tie 0 = .ok (.aload_n 0, 1) := by decide +kernel
theorem dX0_tie_1 : decode cX0_tie 1 = .ok (.iload_n 1, 1) := by decide +kernel
theorem dX0_tie_2 : decode cX0_tie 2 = .ok (.invokevirtual 59, 3) := by decide +kernel
theorem dX0_tie_5 : decode cX0_tie 5 = .ok (.aload_n 0, 1) := by decide +kernel
theorem dX0_tie_6 : decode cX0_tie 6 = .ok (.iload_n 1, 1) := by decide +kernel
theorem dX0_tie_7 : decode cX0_tie 7 = .ok (.iconst 1, 1) := by decide +kernel
theorem dX0_tie_8 : decode cX0_tie 8 = .ok (.invokevirtual 69, 3) := by decide +kernel
theorem dX0_tie_11 : decode cX0_tie 11 = .ok (.iload_n 2, 1) := by decide +kernel
theorem dX0_tie_12 : decode cX0_tie 12 = .ok (.invokestatic 73, 3) := by decide +kernel
theorem dX0_tie_15 : decode cX0_tie 15 = .ok (.aload_n 0, 1) := by decide +kernel
theorem dX0_tie_16 : decode cX0_tie 16 = .ok (.getfield 32, 3) := by decide +kernel
theorem dX0_tie_19 : decode cX0_tie 19 = .ok (.bipush 6, 2) := by decide +kernel
theorem dX0_tie_21 : decode cX0_tie 21 = .ok (.if_icmp .lt 13, 3) := by decide +kernel
theorem dX0_tie_24 : decode cX0_tie 24 = .ok (.new 54, 3) := by decide +kernel
theorem dX0_tie_27 : decode cX0_tie 27 = .ok (.dup, 1) := by decide +kernel
theorem dX0_tie_28 : decode cX0_tie 28 = .ok (.ldc 76, 2) := by decide +kernel
theorem dX0_tie_30 : decode cX0_tie 30 = .ok (.invokespecial 58, 3) := by decide +kernel
theorem dX0_tie_33 : decode cX0_tie 33 = .ok (.athrow, 1) := by decide +kernel
theorem dX0_tie_34 : decode cX0_tie 34 = .ok (.aload_n 0, 1) := by decide +kernel
theorem dX0_tie_35 : decode cX0_tie 35 = .ok (.getfield 32, 3) := by decide +kernel
theorem dX0_tie_38 : decode cX0_tie 38 = .ok (.istore_n 3, 1) := by decide +kernel
theorem dX0_tie_39 : decode cX0_tie 39 = .ok (.aload_n 0, 1) := by decide +kernel
theorem dX0_tie_40 : decode cX0_tie 40 = .ok (.iload_n 3, 1) := by decide +kernel
theorem dX0_tie_41 : decode cX0_tie 41 = .ok (.iconst 1, 1) := by decide +kernel
theorem dX0_tie_42 : decode cX0_tie 42 = .ok (.iadd, 1) := by decide +kernel
theorem dX0_tie_43 : decode cX0_tie 43 = .ok (.putfield 32, 3) := by decide +kernel
theorem dX0_tie_46 : decode cX0_tie 46 = .ok (.aload_n 0, 1) := by decide +kernel
theorem dX0_tie_47 : decode cX0_tie 47 = .ok (.getfield 29, 3) := by decide +kernel
theorem dX0_tie_50 : decode cX0_tie 50 = .ok (.iload_n 3, 1) := by decide +kernel
theorem dX0_tie_51 : decode cX0_tie 51 = .ok (.iconst 0, 1) := by decide +kernel
theorem dX0_tie_52 : decode cX0_tie 52 = .ok (.iastore, 1) := by decide +kernel
theorem dX0_tie_53 : decode cX0_tie 53 = .ok (.aload_n 0, 1) := by decide +kernel
theorem dX0_tie_54 : decode cX0_tie 54 = .ok (.iload_n 3, 1) := by decide +kernel
theorem dX0_tie_55 : decode cX0_tie 55 = .ok (.iload_n 1, 1) := by decide +kernel
theorem dX0_tie_56 : decode cX0_tie 56 = .ok (.iload_n 2, 1) := by decide +kernel
theorem dX0_tie_57 : decode cX0_tie 57 = .ok (.invokevirtual 78, 3) := by decide +kernel
theorem dX0_tie_60 : decode cX0_tie 60 = .ok (.iload_n 3, 1) := by decide +kernel
theorem dX0_tie_61 : decode cX0_tie 61 = .ok (.ireturn, 1) := by decide +kernel
theorem dX0_join_0 : decode cX0_join 0 = .ok (.aload_n 0, 1) := by decide +kernel
theorem dX0_join_1 : decode cX0_join 1 = .ok (.iload_n 1, 1) := by decide +kernel
theorem dX0_join_2 : decode cX0_join 2 = .ok (.invokevirtual 82, 3) := by decide +kernel
theorem dX0_join_5 : decode cX0_join 5 = .ok (.aload_n 0, 1) := by decide +kernel
theorem dX0_join_6 : decode cX0_join 6 = .ok (.iload_n 2, 1) := by decide +kernel
theorem dX0_join_7 : decode cX0_join 7 = .ok (.invokevirtual 59, 3) := by decide +kernel
theorem dX0_join_10 : decode cX0_join 10 = .ok (.aload_n 0, 1) := by decide +kernel
theorem dX0_join_11 : decode cX0_join 11 = .ok (.iload_n 2, 1) := by decide +kernel
theorem dX0_join_12 : decode cX0_join 12 = .ok (.iconst 0, 1) := by decide +kernel
theorem dX0_join_13 : decode cX0_join 13 = .ok (.invokevirtual 69, 3) := by decide +kernel
theorem dX0_join_16 : decode cX0_join 16 = .ok (.iload_n 3, 1) := by decide +kernel
theorem dX0_join_17 : decode cX0_join 17 = .ok (.invokestatic 73, 3) := by decide +kernel
theorem dX0_join_20 : decode cX0_join 20 = .ok (.aload_n 0, 1) := by decide +kernel
theorem dX0_join_21 : decode cX0_join 21 = .ok (.iload_n 1, 1) := by decide +kernel
theorem dX0_join_22 : decode cX0_join 22 = .ok (.invokevirtual 85, 3) := by decide +kernel
theorem dX0_join_25 : decode cX0_join 25 = .ok (.aload_n 0, 1) := by decide +kernel
theorem dX0_join_26 : decode cX0_join 26 = .ok (.getfield 29, 3) := by decide +kernel
theorem dX0_join_29 : decode cX0_join 29 = .ok (.iload_n 1, 1) := by decide +kernel
theorem dX0_join_30 : decode cX0_join 30 = .ok (.iaload, 1) := by decide +kernel
theorem dX0_join_31 : decode cX0_join 31 = .ok (.iconst 5, 1) := by decide +kernel
theorem dX0_join_32 : decode cX0_join 32 = .ok (.if_icmp .lt 13, 3) := by decide +kernel
theorem dX0_join_35 : decode cX0_join 35 = .ok (.new 54, 3) := by decide +kernel
theorem dX0_join_38 : decode cX0_join 38 = .ok (.dup, 1) := by decide +kernel
theorem dX0_join_39 : decode cX0_join 39 = .ok (.ldc 88, 2) := by decide +kernel
theorem dX0_join_41 : decode cX0_join 41 = .ok (.invokespecial 58, 3) := by decide +kernel
theorem dX0_join_44 : decode cX0_join 44 = .ok (.athrow, 1) := by decide +kernel
theorem dX0_join_45 : decode cX0_join 45 = .ok (.aload_n 0, 1) := by decide +kernel
theorem dX0_join_46 : decode cX0_join 46 = .ok (.iload_n 1, 1) := by decide +kernel
theorem dX0_join_47 : decode cX0_join 47 = .ok (.iload_n 2, 1) := by decide +kernel
theorem dX0_join_48 : decode cX0_join 48 = .ok (.iload_n 3, 1) := by decide +kernel
theorem dX0_join_49 : decode cX0_join 49 = .ok (.invokevirtual 78, 3) := by decide +kernel
theorem dX0_join_52 : decode cX0_join 52 = .ok (.aload_n 0, 1) := by decide +kernel
theorem dX0_join_53 : decode cX0_join 53 = .ok (.getfield 29, 3) := by decide +kernel
theorem dX0_join_56 : decode cX0_join 56 = .ok (.iload_n 1, 1) := by decide +kernel
theorem dX0_join_57 : decode cX0_join 57 = .ok (.iaload, 1) := by decide +kernel
theorem dX0_join_58 : decode cX0_join 58 = .ok (.ireturn, 1) := by decide +kernel
theorem dX0_retie_0 : decode cX0_retie 0 = .ok (.aload_n 0, 1) := by decide +kernel
theorem dX0_retie_1 : decode cX0_retie 1 = .ok (.iload_n 1, 1) := by decide +kernel
theorem dX0_retie_2 : decode cX0_retie 2 = .ok (.iload_n 2, 1) := by decide +kernel
theorem dX0_retie_3 : decode cX0_retie 3 = .ok (.invokevirtual 90, 3) := by decide +kernel
theorem dX0_retie_6 : decode cX0_retie 6 = .ok (.aload_n 0, 1) := by decide +kernel
theorem dX0_retie_7 : decode cX0_retie 7 = .ok (.iload_n 3, 1) := by decide +kernel
theorem dX0_retie_8 : decode cX0_retie 8 = .ok (.invokevirtual 59, 3) := by decide +kernel
theorem dX0_retie_11 : decode cX0_retie 11 = .ok (.aload_n 0, 1) := by decide +kernel
theorem dX0_retie_12 : decode cX0_retie 12 = .ok (.iload_n 3, 1) := by decide +kernel
theorem dX0_retie_13 : decode cX0_retie 13 = .ok (.iload_n 2, 1) := by decide +kernel
theorem dX0_retie_14 : decode cX0_retie 14 = .ok (.invokestatic 93, 3) := by decide +kernel
theorem dX0_retie_17 : decode cX0_retie 17 = .ok (.invokevirtual 69, 3) := by decide +kernel
theorem dX0_retie_20 : decode cX0_retie 20 = .ok (.iload_n 1, 1) := by decide +kernel
theorem dX0_retie_21 : decode cX0_retie 21 = .ok (.iload_n 2, 1) := by decide +kernel
theorem dX0_retie_22 : decode cX0_retie 22 = .ok (.invokestatic 97, 3) := by decide +kernel
theorem dX0_retie_25 : decode cX0_retie 25 = .ok (.istore 4, 2) := by decide +kernel
theorem dX0_retie_27 : decode cX0_retie 27 = .ok (.aload_n 0, 1) := by decide +kernel
theorem dX0_retie_28 : decode cX0_retie 28 = .ok (.getfield 35, 3) := by decide +kernel
theorem dX0_retie_31 : decode cX0_retie 31 = .ok (.iload 4, 2) := by decide +kernel
theorem dX0_retie_33 : decode cX0_retie 33 = .ok (.iaload, 1) := by decide +kernel
theorem dX0_retie_34 : decode cX0_retie 34 = .ok (.istore 5, 2) := by decide +kernel
theorem dX0_retie_36 : decode cX0_retie 36 = .ok (.aload_n 0, 1) := by decide +kernel
theorem dX0_retie_37 : decode cX0_retie 37 = .ok (.getfield 35, 3) := by decide +kernel
theorem dX0_retie_40 : decode cX0_retie 40 = .ok (.iload 4, 2) := by decide +kernel
theorem dX0_retie_42 : decode cX0_retie 42 = .ok (.iload_n 3, 1) := by decide +kernel
theorem dX0_retie_43 : decode cX0_retie 43 = .ok (.iastore, 1) := by decide +kernel
theorem dX0_retie_44 : decode cX0_retie 44 = .ok (.iload 5, 2) := by decide +kernel
theorem dX0_retie_46 : decode cX0_retie 46 = .ok (.ireturn, 1) := by decide +kernel
theorem dX0_pull_0 : decode cX0_pull 0 = .ok (.aload_n 0, 1) := by decide +kernel
theorem dX0_pull_1 : decode cX0_pull 1 = .ok (.iload_n 1, 1) := by decide +kernel
theorem dX0_pull_2 : decode cX0_pull 2 = .ok (.invokevirtual 82, 3) := by decide +kernel
theorem dX0_pull_5 : decode cX0_pull 5 = .ok (.iload_n 2, 1) := by decide +kernel
theorem dX0_pull_6 : decode cX0_pull 6 = .ok (.invokestatic 62, 3) := by decide +kernel
theorem dX0_pull_9 : decode cX0_pull 9 = .ok (.aload_n 0, 1) := by decide +kernel
theorem dX0_pull_10 : decode cX0_pull 10 = .ok (.iload_n 1, 1) := by decide +kernel
theorem dX0_pull_11 : decode cX0_pull 11 = .ok (.invokevirtual 85, 3) := by decide +kernel
theorem dX0_pull_14 : decode cX0_pull 14 = .ok (.aload_n 0, 1) := by decide +kernel
theorem dX0_pull_15 : decode cX0_pull 15 = .ok (.iload_n 1, 1) := by decide +kernel
theorem dX0_pull_16 : decode cX0_pull 16 = .ok (.iload_n 2, 1) := by decide +kernel
theorem dX0_pull_17 : decode cX0_pull 17 = .ok (.invokevirtual 101, 3) := by decide +kernel
theorem dX0_pull_20 : decode cX0_pull 20 = .ok (.istore_n 3, 1) := by decide +kernel
theorem dX0_pull_21 : decode cX0_pull 21 = .ok (.iload_n 3, 1) := by decide +kernel
theorem dX0_pull_22 : decode cX0_pull 22 = .ok (.iconst (-1), 1) := by decide +kernel
theorem dX0_pull_23 : decode cX0_pull 23 = .ok (.if_icmp .eq 10, 3) := by decide +kernel
theorem dX0_pull_26 : decode cX0_pull 26 = .ok (.aload_n 0, 1) := by decide +kernel
theorem dX0_pull_27 : decode cX0_pull 27 = .ok (.getfield 29, 3) := by decide +kernel
theorem dX0_pull_30 : decode cX0_pull 30 = .ok (.iload_n 1, 1) := by decide +kernel
theorem dX0_pull_31 : decode cX0_pull 31 = .ok (.iload_n 3, 1) := by decide +kernel
theorem dX0_pull_32 : decode cX0_pull 32 = .ok (.iastore, 1) := by decide +kernel
theorem dX0_pull_33 : decode cX0_pull 33 = .ok (.iconst 0, 1) := by decide +kernel
theorem dX0_pull_34 : decode cX0_pull 34 = .ok (.istore 4, 2) := by decide +kernel
theorem dX0_pull_36 : decode cX0_pull 36 = .ok (.iload 4, 2) := by decide +kernel
theorem dX0_pull_38 : decode cX0_pull 38 = .ok (.aload_n 0, 1) := by decide +kernel
theorem dX0_pull_39 : decode cX0_pull 39 = .ok (.getfield 29, 3) := by decide +kernel
theorem dX0_pull_42 : decode cX0_pull 42 = .ok (.iload_n 1, 1) := by decide +kernel
theorem dX0_pull_43 : decode cX0_pull 43 = .ok (.iaload, 1) := by decide +kernel
theorem dX0_pull_44 : decode cX0_pull 44 = .ok (.if_icmp .ge 36, 3) := by decide +kernel
theorem dX0_pull_47 : decode cX0_pull 47 = .ok (.iload_n 1, 1) := by decide +kernel
theorem dX0_pull_48 : decode cX0_pull 48 = .ok (.iload 4, 2) := by decide +kernel
theorem dX0_pull_50 : decode cX0_pull 50 = .ok (.invokestatic 97, 3) := by decide +kernel
theorem dX0_pull_53 : decode cX0_pull 53 = .ok (.istore 5, 2) := by decide +kernel
theorem dX0_pull_55 : decode cX0_pull 55 = .ok (.aload_n 0, 1) := by decide +kernel
theorem dX0_pull_56 : decode cX0_pull 56 = .ok (.getfield 35, 3) := by decide +kernel
theorem dX0_pull_59 : decode cX0_pull 59 = .ok (.iload 5, 2) := by decide +kernel
theorem dX0_pull_61 : decode cX0_pull 61 = .ok (.aload_n 0, 1) := by decide +kernel
theorem dX0_pull_62 : decode cX0_pull 62 = .ok (.aload_n 0, 1) := by decide +kernel
theorem dX0_pull_63 : decode cX0_pull 63 = .ok (.getfield 35, 3) := by decide +kernel
theorem dX0_pull_66 : decode cX0_pull 66 = .ok (.iload 5, 2) := by decide +kernel
theorem dX0_pull_68 : decode cX0_pull 68 = .ok (.iaload, 1) := by decide +kernel
theorem dX0_pull_69 : decode cX0_pull 69 = .ok (.iload_n 2, 1) := by decide +kernel
theorem dX0_pull_70 : decode cX0_pull 70 = .ok (.invokevirtual 104, 3) := by decide +kernel
theorem dX0_pull_73 : decode cX0_pull 73 = .ok (.iastore, 1) := by decide +kernel
theorem dX0_pull_74 : decode cX0_pull 74 = .ok (.iinc 4 1, 3) := by decide +kernel
theorem dX0_pull_77 : decode cX0_pull 77 = .ok (.goto (-41), 3) := by decide +kernel
theorem dX0_pull_80 : decode cX0_pull 80 = .ok (.iload_n 3, 1) := by decide +kernel
theorem dX0_pull_81 : decode cX0_pull 81 = .ok (.ireturn, 1) := by decide +kernel
theorem dX0_knots_0 : decode cX0_knots 0 = .ok (.aload_n 0, 1) := by decide +kernel
theorem dX0_knots_1 : decode cX0_knots 1 = .ok (.getfield 25, 3) := by decide +kernel
theorem dX0_knots_4 : decode cX0_knots 4 = .ok (.ireturn, 1) := by decide +kernel
theorem dX0_knotsOf_0 : decode cX0_knotsOf 0 = .ok (.iload_n 1, 1) := by decide +kernel
theorem dX0_knotsOf_1 : decode cX0_knotsOf 1 = .ok (.invokestatic 41, 3) := by decide +kernel
theorem dX0_knotsOf_4 : decode cX0_knotsOf 4 = .ok (.aload_n 0, 1) := by decide +kernel
theorem dX0_knotsOf_5 : decode cX0_knotsOf 5 = .ok (.iload_n 1, 1) := by decide +kernel
theorem dX0_knotsOf_6 : decode cX0_knotsOf 6 = .ok (.invokevirtual 107, 3) := by decide +kernel
theorem dX0_knotsOf_9 : decode cX0_knotsOf 9 = .ok (.ireturn, 1) := by decide +kernel
theorem dX0_kindOf_0 : decode cX0_kindOf 0 = .ok (.aload_n 0, 1) := by decide +kernel
theorem dX0_kindOf_1 : decode cX0_kindOf 1 = .ok (.iload_n 1, 1) := by decide +kernel
theorem dX0_kindOf_2 : decode cX0_kindOf 2 = .ok (.invokevirtual 59, 3) := by decide +kernel
theorem dX0_kindOf_5 : decode cX0_kindOf 5 = .ok (.aload_n 0, 1) := by decide +kernel
theorem dX0_kindOf_6 : decode cX0_kindOf 6 = .ok (.getfield 9, 3) := by decide +kernel
theorem dX0_kindOf_9 : decode cX0_kindOf 9 = .ok (.iload_n 1, 1) := by decide +kernel
theorem dX0_kindOf_10 : decode cX0_kindOf 10 = .ok (.iaload, 1) := by decide +kernel
theorem dX0_kindOf_11 : decode cX0_kindOf 11 = .ok (.ireturn, 1) := by decide +kernel
theorem dX0_efficiencyOf_0 : decode cX0_efficiencyOf 0 = .ok (.aload_n 0, 1) := by decide +kernel
theorem dX0_efficiencyOf_1 : decode cX0_efficiencyOf 1 = .ok (.iload_n 1, 1) := by decide +kernel
theorem dX0_efficiencyOf_2 : decode cX0_efficiencyOf 2 = .ok (.invokevirtual 59, 3) := by decide +kernel
theorem dX0_efficiencyOf_5 : decode cX0_efficiencyOf 5 = .ok (.aload_n 0, 1) := by decide +kernel
theorem dX0_efficiencyOf_6 : decode cX0_efficiencyOf 6 = .ok (.getfield 13, 3) := by decide +kernel
theorem dX0_efficiencyOf_9 : decode cX0_efficiencyOf 9 = .ok (.iload_n 1, 1) := by decide +kernel
theorem dX0_efficiencyOf_10 : decode cX0_efficiencyOf 10 = .ok (.iaload, 1) := by decide +kernel
theorem dX0_efficiencyOf_11 : decode cX0_efficiencyOf 11 = .ok (.ireturn, 1) := by decide +kernel
theorem dX0_crossingsOf_0 : decode cX0_crossingsOf 0 = .ok (.aload_n 0, 1) := by decide +kernel
theorem dX0_crossingsOf_1 : decode cX0_crossingsOf 1 = .ok (.iload_n 1, 1) := by decide +kernel
theorem dX0_crossingsOf_2 : decode cX0_crossingsOf 2 = .ok (.invokevirtual 59, 3) := by decide +kernel
theorem dX0_crossingsOf_5 : decode cX0_crossingsOf 5 = .ok (.aload_n 0, 1) := by decide +kernel
theorem dX0_crossingsOf_6 : decode cX0_crossingsOf 6 = .ok (.getfield 16, 3) := by decide +kernel
theorem dX0_crossingsOf_9 : decode cX0_crossingsOf 9 = .ok (.iload_n 1, 1) := by decide +kernel
theorem dX0_crossingsOf_10 : decode cX0_crossingsOf 10 = .ok (.iaload, 1) := by decide +kernel
theorem dX0_crossingsOf_11 : decode cX0_crossingsOf 11 = .ok (.ireturn, 1) := by decide +kernel
theorem dX0_spillsAt_0 : decode cX0_spillsAt 0 = .ok (.aload_n 0, 1) := by decide +kernel
theorem dX0_spillsAt_1 : decode cX0_spillsAt 1 = .ok (.iload_n 1, 1) := by decide +kernel
theorem dX0_spillsAt_2 : decode cX0_spillsAt 2 = .ok (.invokevirtual 59, 3) := by decide +kernel
theorem dX0_spillsAt_5 : decode cX0_spillsAt 5 = .ok (.aload_n 0, 1) := by decide +kernel
theorem dX0_spillsAt_6 : decode cX0_spillsAt 6 = .ok (.getfield 19, 3) := by decide +kernel
theorem dX0_spillsAt_9 : decode cX0_spillsAt 9 = .ok (.iload_n 1, 1) := by decide +kernel
theorem dX0_spillsAt_10 : decode cX0_spillsAt 10 = .ok (.iaload, 1) := by decide +kernel
theorem dX0_spillsAt_11 : decode cX0_spillsAt 11 = .ok (.ireturn, 1) := by decide +kernel
theorem dX0_spillsInto_0 : decode cX0_spillsInto 0 = .ok (.aload_n 0, 1) := by decide +kernel
theorem dX0_spillsInto_1 : decode cX0_spillsInto 1 = .ok (.iload_n 1, 1) := by decide +kernel
theorem dX0_spillsInto_2 : decode cX0_spillsInto 2 = .ok (.invokevirtual 59, 3) := by decide +kernel
theorem dX0_spillsInto_5 : decode cX0_spillsInto 5 = .ok (.aload_n 0, 1) := by decide +kernel
theorem dX0_spillsInto_6 : decode cX0_spillsInto 6 = .ok (.getfield 22, 3) := by decide +kernel
theorem dX0_spillsInto_9 : decode cX0_spillsInto 9 = .ok (.iload_n 1, 1) := by decide +kernel
theorem dX0_spillsInto_10 : decode cX0_spillsInto 10 = .ok (.iaload, 1) := by decide +kernel
theorem dX0_spillsInto_11 : decode cX0_spillsInto 11 = .ok (.ireturn, 1) := by decide +kernel
theorem dX0_rankOf_0 : decode cX0_rankOf 0 = .ok (.aload_n 0, 1) := by decide +kernel
theorem dX0_rankOf_1 : decode cX0_rankOf 1 = .ok (.iload_n 1, 1) := by decide +kernel
theorem dX0_rankOf_2 : decode cX0_rankOf 2 = .ok (.invokevirtual 59, 3) := by decide +kernel
theorem dX0_rankOf_5 : decode cX0_rankOf 5 = .ok (.aload_n 0, 1) := by decide +kernel
theorem dX0_rankOf_6 : decode cX0_rankOf 6 = .ok (.iload_n 1, 1) := by decide +kernel
theorem dX0_rankOf_7 : decode cX0_rankOf 7 = .ok (.invokevirtual 110, 3) := by decide +kernel
theorem dX0_rankOf_10 : decode cX0_rankOf 10 = .ok (.ireturn, 1) := by decide +kernel
theorem dX0_knotAt_0 : decode cX0_knotAt 0 = .ok (.iload_n 1, 1) := by decide +kernel
theorem dX0_knotAt_1 : decode cX0_knotAt 1 = .ok (.invokestatic 41, 3) := by decide +kernel
theorem dX0_knotAt_4 : decode cX0_knotAt 4 = .ok (.aload_n 0, 1) := by decide +kernel
theorem dX0_knotAt_5 : decode cX0_knotAt 5 = .ok (.iload_n 1, 1) := by decide +kernel
theorem dX0_knotAt_6 : decode cX0_knotAt 6 = .ok (.iload_n 2, 1) := by decide +kernel
theorem dX0_knotAt_7 : decode cX0_knotAt 7 = .ok (.invokevirtual 113, 3) := by decide +kernel
theorem dX0_knotAt_10 : decode cX0_knotAt 10 = .ok (.istore_n 3, 1) := by decide +kernel
theorem dX0_knotAt_11 : decode cX0_knotAt 11 = .ok (.iload_n 3, 1) := by decide +kernel
theorem dX0_knotAt_12 : decode cX0_knotAt 12 = .ok (.iconst (-1), 1) := by decide +kernel
theorem dX0_knotAt_13 : decode cX0_knotAt 13 = .ok (.if_icmp .ne 13, 3) := by decide +kernel
theorem dX0_knotAt_16 : decode cX0_knotAt 16 = .ok (.new 116, 3) := by decide +kernel
theorem dX0_knotAt_19 : decode cX0_knotAt 19 = .ok (.dup, 1) := by decide +kernel
theorem dX0_knotAt_20 : decode cX0_knotAt 20 = .ok (.ldc 118, 2) := by decide +kernel
theorem dX0_knotAt_22 : decode cX0_knotAt 22 = .ok (.invokespecial 120, 3) := by decide +kernel
theorem dX0_knotAt_25 : decode cX0_knotAt 25 = .ok (.athrow, 1) := by decide +kernel
theorem dX0_knotAt_26 : decode cX0_knotAt 26 = .ok (.iload_n 3, 1) := by decide +kernel
theorem dX0_knotAt_27 : decode cX0_knotAt 27 = .ok (.ireturn, 1) := by decide +kernel
theorem dX0_formOf_0 : decode cX0_formOf 0 = .ok (.aload_n 0, 1) := by decide +kernel
theorem dX0_formOf_1 : decode cX0_formOf 1 = .ok (.iload_n 1, 1) := by decide +kernel
theorem dX0_formOf_2 : decode cX0_formOf 2 = .ok (.invokevirtual 59, 3) := by decide +kernel
theorem dX0_formOf_5 : decode cX0_formOf 5 = .ok (.iload_n 2, 1) := by decide +kernel
theorem dX0_formOf_6 : decode cX0_formOf 6 = .ok (.invokestatic 62, 3) := by decide +kernel
theorem dX0_formOf_9 : decode cX0_formOf 9 = .ok (.aload_n 0, 1) := by decide +kernel
theorem dX0_formOf_10 : decode cX0_formOf 10 = .ok (.iload_n 1, 1) := by decide +kernel
theorem dX0_formOf_11 : decode cX0_formOf 11 = .ok (.iload_n 2, 1) := by decide +kernel
theorem dX0_formOf_12 : decode cX0_formOf 12 = .ok (.invokevirtual 104, 3) := by decide +kernel
theorem dX0_formOf_15 : decode cX0_formOf 15 = .ok (.ireturn, 1) := by decide +kernel
theorem dX0_spills_0 : decode cX0_spills 0 = .ok (.aload_n 0, 1) := by decide +kernel
theorem dX0_spills_1 : decode cX0_spills 1 = .ok (.iload_n 1, 1) := by decide +kernel
theorem dX0_spills_2 : decode cX0_spills 2 = .ok (.invokevirtual 59, 3) := by decide +kernel
theorem dX0_spills_5 : decode cX0_spills 5 = .ok (.iload_n 2, 1) := by decide +kernel
theorem dX0_spills_6 : decode cX0_spills 6 = .ok (.invokestatic 62, 3) := by decide +kernel
theorem dX0_spills_9 : decode cX0_spills 9 = .ok (.iload_n 1, 1) := by decide +kernel
theorem dX0_spills_10 : decode cX0_spills 10 = .ok (.istore_n 3, 1) := by decide +kernel
theorem dX0_spills_11 : decode cX0_spills 11 = .ok (.iconst 0, 1) := by decide +kernel
theorem dX0_spills_12 : decode cX0_spills 12 = .ok (.istore 4, 2) := by decide +kernel
theorem dX0_spills_14 : decode cX0_spills 14 = .ok (.iload 4, 2) := by decide +kernel
theorem dX0_spills_16 : decode cX0_spills 16 = .ok (.bipush 16, 2) := by decide +kernel
theorem dX0_spills_18 : decode cX0_spills 18 = .ok (.if_icmp .ge 25, 3) := by decide +kernel
theorem dX0_spills_21 : decode cX0_spills 21 = .ok (.aload_n 0, 1) := by decide +kernel
theorem dX0_spills_22 : decode cX0_spills 22 = .ok (.iload_n 3, 1) := by decide +kernel
theorem dX0_spills_23 : decode cX0_spills 23 = .ok (.iload_n 2, 1) := by decide +kernel
theorem dX0_spills_24 : decode cX0_spills 24 = .ok (.invokevirtual 121, 3) := by decide +kernel
theorem dX0_spills_27 : decode cX0_spills 27 = .ok (.ifCond .eq 16, 3) := by decide +kernel
theorem dX0_spills_30 : decode cX0_spills 30 = .ok (.aload_n 0, 1) := by decide +kernel
theorem dX0_spills_31 : decode cX0_spills 31 = .ok (.getfield 22, 3) := by decide +kernel
theorem dX0_spills_34 : decode cX0_spills 34 = .ok (.iload_n 3, 1) := by decide +kernel
theorem dX0_spills_35 : decode cX0_spills 35 = .ok (.iaload, 1) := by decide +kernel
theorem dX0_spills_36 : decode cX0_spills 36 = .ok (.istore_n 3, 1) := by decide +kernel
theorem dX0_spills_37 : decode cX0_spills 37 = .ok (.iinc 4 1, 3) := by decide +kernel
theorem dX0_spills_40 : decode cX0_spills 40 = .ok (.goto (-26), 3) := by decide +kernel
theorem dX0_spills_43 : decode cX0_spills 43 = .ok (.iload 4, 2) := by decide +kernel
theorem dX0_spills_45 : decode cX0_spills 45 = .ok (.ireturn, 1) := by decide +kernel
theorem dX0_fallsApartAt_0 : decode cX0_fallsApartAt 0 = .ok (.aload_n 0, 1) := by decide +kernel
theorem dX0_fallsApartAt_1 : decode cX0_fallsApartAt 1 = .ok (.iload_n 1, 1) := by decide +kernel
theorem dX0_fallsApartAt_2 : decode cX0_fallsApartAt 2 = .ok (.invokevirtual 59, 3) := by decide +kernel
theorem dX0_fallsApartAt_5 : decode cX0_fallsApartAt 5 = .ok (.iload_n 1, 1) := by decide +kernel
theorem dX0_fallsApartAt_6 : decode cX0_fallsApartAt 6 = .ok (.istore_n 2, 1) := by decide +kernel
theorem dX0_fallsApartAt_7 : decode cX0_fallsApartAt 7 = .ok (.iconst 0, 1) := by decide +kernel
theorem dX0_fallsApartAt_8 : decode cX0_fallsApartAt 8 = .ok (.istore_n 3, 1) := by decide +kernel
theorem dX0_fallsApartAt_9 : decode cX0_fallsApartAt 9 = .ok (.iconst 0, 1) := by decide +kernel
theorem dX0_fallsApartAt_10 : decode cX0_fallsApartAt 10 = .ok (.istore 4, 2) := by decide +kernel
theorem dX0_fallsApartAt_12 : decode cX0_fallsApartAt 12 = .ok (.iload 4, 2) := by decide +kernel
theorem dX0_fallsApartAt_14 : decode cX0_fallsApartAt 14 = .ok (.bipush 16, 2) := by decide +kernel
theorem dX0_fallsApartAt_16 : decode cX0_fallsApartAt 16 = .ok (.if_icmp .ge 46, 3) := by decide +kernel
theorem dX0_fallsApartAt_19 : decode cX0_fallsApartAt 19 = .ok (.aload_n 0, 1) := by decide +kernel
theorem dX0_fallsApartAt_20 : decode cX0_fallsApartAt 20 = .ok (.iload_n 2, 1) := by decide +kernel
theorem dX0_fallsApartAt_21 : decode cX0_fallsApartAt 21 = .ok (.invokevirtual 125, 3) := by decide +kernel
theorem dX0_fallsApartAt_24 : decode cX0_fallsApartAt 24 = .ok (.ifCond .eq 38, 3) := by decide +kernel
theorem dX0_fallsApartAt_27 : decode cX0_fallsApartAt 27 = .ok (.aload_n 0, 1) := by decide +kernel
theorem dX0_fallsApartAt_28 : decode cX0_fallsApartAt 28 = .ok (.getfield 19, 3) := by decide +kernel
theorem dX0_fallsApartAt_31 : decode cX0_fallsApartAt 31 = .ok (.iload_n 2, 1) := by decide +kernel
theorem dX0_fallsApartAt_32 : decode cX0_fallsApartAt 32 = .ok (.iaload, 1) := by decide +kernel
theorem dX0_fallsApartAt_33 : decode cX0_fallsApartAt 33 = .ok (.ifCond .ne 5, 3) := by decide +kernel
theorem dX0_fallsApartAt_36 : decode cX0_fallsApartAt 36 = .ok (.iconst 0, 1) := by decide +kernel
theorem dX0_fallsApartAt_37 : decode cX0_fallsApartAt 37 = .ok (.ireturn, 1) := by decide +kernel
theorem dX0_fallsApartAt_38 : decode cX0_fallsApartAt 38 = .ok (.iload_n 3, 1) := by decide +kernel
theorem dX0_fallsApartAt_39 : decode cX0_fallsApartAt 39 = .ok (.aload_n 0, 1) := by decide +kernel
theorem dX0_fallsApartAt_40 : decode cX0_fallsApartAt 40 = .ok (.getfield 19, 3) := by decide +kernel
theorem dX0_fallsApartAt_43 : decode cX0_fallsApartAt 43 = .ok (.iload_n 2, 1) := by decide +kernel
theorem dX0_fallsApartAt_44 : decode cX0_fallsApartAt 44 = .ok (.iaload, 1) := by decide +kernel
theorem dX0_fallsApartAt_45 : decode cX0_fallsApartAt 45 = .ok (.invokestatic 129, 3) := by decide +kernel
theorem dX0_fallsApartAt_48 : decode cX0_fallsApartAt 48 = .ok (.istore_n 3, 1) := by decide +kernel
theorem dX0_fallsApartAt_49 : decode cX0_fallsApartAt 49 = .ok (.aload_n 0, 1) := by decide +kernel
theorem dX0_fallsApartAt_50 : decode cX0_fallsApartAt 50 = .ok (.getfield 22, 3) := by decide +kernel
theorem dX0_fallsApartAt_53 : decode cX0_fallsApartAt 53 = .ok (.iload_n 2, 1) := by decide +kernel
theorem dX0_fallsApartAt_54 : decode cX0_fallsApartAt 54 = .ok (.iaload, 1) := by decide +kernel
theorem dX0_fallsApartAt_55 : decode cX0_fallsApartAt 55 = .ok (.istore_n 2, 1) := by decide +kernel
theorem dX0_fallsApartAt_56 : decode cX0_fallsApartAt 56 = .ok (.iinc 4 1, 3) := by decide +kernel
theorem dX0_fallsApartAt_59 : decode cX0_fallsApartAt 59 = .ok (.goto (-47), 3) := by decide +kernel
theorem dX0_fallsApartAt_62 : decode cX0_fallsApartAt 62 = .ok (.iload_n 3, 1) := by decide +kernel
theorem dX0_fallsApartAt_63 : decode cX0_fallsApartAt 63 = .ok (.ireturn, 1) := by decide +kernel
theorem dX0_lines_0 : decode cX0_lines 0 = .ok (.aload_n 0, 1) := by decide +kernel
theorem dX0_lines_1 : decode cX0_lines 1 = .ok (.getfield 32, 3) := by decide +kernel
theorem dX0_lines_4 : decode cX0_lines 4 = .ok (.ireturn, 1) := by decide +kernel
theorem dX0_ropesOf_0 : decode cX0_ropesOf 0 = .ok (.aload_n 0, 1) := by decide +kernel
theorem dX0_ropesOf_1 : decode cX0_ropesOf 1 = .ok (.iload_n 1, 1) := by decide +kernel
theorem dX0_ropesOf_2 : decode cX0_ropesOf 2 = .ok (.invokevirtual 82, 3) := by decide +kernel
theorem dX0_ropesOf_5 : decode cX0_ropesOf 5 = .ok (.aload_n 0, 1) := by decide +kernel
theorem dX0_ropesOf_6 : decode cX0_ropesOf 6 = .ok (.getfield 29, 3) := by decide +kernel
theorem dX0_ropesOf_9 : decode cX0_ropesOf 9 = .ok (.iload_n 1, 1) := by decide +kernel
theorem dX0_ropesOf_10 : decode cX0_ropesOf 10 = .ok (.iaload, 1) := by decide +kernel
theorem dX0_ropesOf_11 : decode cX0_ropesOf 11 = .ok (.ireturn, 1) := by decide +kernel
theorem dX0_knotOf_0 : decode cX0_knotOf 0 = .ok (.aload_n 0, 1) := by decide +kernel
theorem dX0_knotOf_1 : decode cX0_knotOf 1 = .ok (.iload_n 1, 1) := by decide +kernel
theorem dX0_knotOf_2 : decode cX0_knotOf 2 = .ok (.iload_n 2, 1) := by decide +kernel
theorem dX0_knotOf_3 : decode cX0_knotOf 3 = .ok (.invokevirtual 90, 3) := by decide +kernel
theorem dX0_knotOf_6 : decode cX0_knotOf 6 = .ok (.aload_n 0, 1) := by decide +kernel
theorem dX0_knotOf_7 : decode cX0_knotOf 7 = .ok (.getfield 35, 3) := by decide +kernel
theorem dX0_knotOf_10 : decode cX0_knotOf 10 = .ok (.iload_n 1, 1) := by decide +kernel
theorem dX0_knotOf_11 : decode cX0_knotOf 11 = .ok (.iload_n 2, 1) := by decide +kernel
theorem dX0_knotOf_12 : decode cX0_knotOf 12 = .ok (.invokestatic 97, 3) := by decide +kernel
theorem dX0_knotOf_15 : decode cX0_knotOf 15 = .ok (.iaload, 1) := by decide +kernel
theorem dX0_knotOf_16 : decode cX0_knotOf 16 = .ok (.ireturn, 1) := by decide +kernel
theorem dX0_strengthAt_0 : decode cX0_strengthAt 0 = .ok (.aload_n 0, 1) := by decide +kernel
theorem dX0_strengthAt_1 : decode cX0_strengthAt 1 = .ok (.iload_n 1, 1) := by decide +kernel
theorem dX0_strengthAt_2 : decode cX0_strengthAt 2 = .ok (.iload_n 2, 1) := by decide +kernel
theorem dX0_strengthAt_3 : decode cX0_strengthAt 3 = .ok (.invokevirtual 90, 3) := by decide +kernel
theorem dX0_strengthAt_6 : decode cX0_strengthAt 6 = .ok (.aload_n 0, 1) := by decide +kernel
theorem dX0_strengthAt_7 : decode cX0_strengthAt 7 = .ok (.iload_n 1, 1) := by decide +kernel
theorem dX0_strengthAt_8 : decode cX0_strengthAt 8 = .ok (.iload_n 2, 1) := by decide +kernel
theorem dX0_strengthAt_9 : decode cX0_strengthAt 9 = .ok (.invokevirtual 134, 3) := by decide +kernel
theorem dX0_strengthAt_12 : decode cX0_strengthAt 12 = .ok (.ireturn, 1) := by decide +kernel
theorem dX0_weakestPlace_0 : decode cX0_weakestPlace 0 = .ok (.aload_n 0, 1) := by decide +kernel
theorem dX0_weakestPlace_1 : decode cX0_weakestPlace 1 = .ok (.iload_n 1, 1) := by decide +kernel
theorem dX0_weakestPlace_2 : decode cX0_weakestPlace 2 = .ok (.invokevirtual 82, 3) := by decide +kernel
theorem dX0_weakestPlace_5 : decode cX0_weakestPlace 5 = .ok (.iconst (-1), 1) := by decide +kernel
theorem dX0_weakestPlace_6 : decode cX0_weakestPlace 6 = .ok (.istore_n 2, 1) := by decide +kernel
theorem dX0_weakestPlace_7 : decode cX0_weakestPlace 7 = .ok (.ldc 139, 2) := by decide +kernel
theorem dX0_weakestPlace_9 : decode cX0_weakestPlace 9 = .ok (.istore_n 3, 1) := by decide +kernel
theorem dX0_weakestPlace_10 : decode cX0_weakestPlace 10 = .ok (.iconst 0, 1) := by decide +kernel
theorem dX0_weakestPlace_11 : decode cX0_weakestPlace 11 = .ok (.istore 4, 2) := by decide +kernel
theorem dX0_weakestPlace_13 : decode cX0_weakestPlace 13 = .ok (.iload 4, 2) := by decide +kernel
theorem dX0_weakestPlace_15 : decode cX0_weakestPlace 15 = .ok (.aload_n 0, 1) := by decide +kernel
theorem dX0_weakestPlace_16 : decode cX0_weakestPlace 16 = .ok (.getfield 29, 3) := by decide +kernel
theorem dX0_weakestPlace_19 : decode cX0_weakestPlace 19 = .ok (.iload_n 1, 1) := by decide +kernel
theorem dX0_weakestPlace_20 : decode cX0_weakestPlace 20 = .ok (.iaload, 1) := by decide +kernel
theorem dX0_weakestPlace_21 : decode cX0_weakestPlace 21 = .ok (.if_icmp .ge 30, 3) := by decide +kernel
theorem dX0_weakestPlace_24 : decode cX0_weakestPlace 24 = .ok (.aload_n 0, 1) := by decide +kernel
theorem dX0_weakestPlace_25 : decode cX0_weakestPlace 25 = .ok (.iload_n 1, 1) := by decide +kernel
theorem dX0_weakestPlace_26 : decode cX0_weakestPlace 26 = .ok (.iload 4, 2) := by decide +kernel
theorem dX0_weakestPlace_28 : decode cX0_weakestPlace 28 = .ok (.invokevirtual 134, 3) := by decide +kernel
theorem dX0_weakestPlace_31 : decode cX0_weakestPlace 31 = .ok (.istore 5, 2) := by decide +kernel
theorem dX0_weakestPlace_33 : decode cX0_weakestPlace 33 = .ok (.iload 5, 2) := by decide +kernel
theorem dX0_weakestPlace_35 : decode cX0_weakestPlace 35 = .ok (.iload_n 3, 1) := by decide +kernel
theorem dX0_weakestPlace_36 : decode cX0_weakestPlace 36 = .ok (.if_icmp .ge 9, 3) := by decide +kernel
theorem dX0_weakestPlace_39 : decode cX0_weakestPlace 39 = .ok (.iload 4, 2) := by decide +kernel
theorem dX0_weakestPlace_41 : decode cX0_weakestPlace 41 = .ok (.istore_n 2, 1) := by decide +kernel
theorem dX0_weakestPlace_42 : decode cX0_weakestPlace 42 = .ok (.iload 5, 2) := by decide +kernel
theorem dX0_weakestPlace_44 : decode cX0_weakestPlace 44 = .ok (.istore_n 3, 1) := by decide +kernel
theorem dX0_weakestPlace_45 : decode cX0_weakestPlace 45 = .ok (.iinc 4 1, 3) := by decide +kernel
theorem dX0_weakestPlace_48 : decode cX0_weakestPlace 48 = .ok (.goto (-35), 3) := by decide +kernel
theorem dX0_weakestPlace_51 : decode cX0_weakestPlace 51 = .ok (.iload_n 2, 1) := by decide +kernel
theorem dX0_weakestPlace_52 : decode cX0_weakestPlace 52 = .ok (.ireturn, 1) := by decide +kernel
theorem dX0_holds_0 : decode cX0_holds 0 = .ok (.aload_n 0, 1) := by decide +kernel
theorem dX0_holds_1 : decode cX0_holds 1 = .ok (.iload_n 1, 1) := by decide +kernel
theorem dX0_holds_2 : decode cX0_holds 2 = .ok (.invokevirtual 82, 3) := by decide +kernel
theorem dX0_holds_5 : decode cX0_holds 5 = .ok (.iload_n 2, 1) := by decide +kernel
theorem dX0_holds_6 : decode cX0_holds 6 = .ok (.invokestatic 62, 3) := by decide +kernel
theorem dX0_holds_9 : decode cX0_holds 9 = .ok (.aload_n 0, 1) := by decide +kernel
theorem dX0_holds_10 : decode cX0_holds 10 = .ok (.iload_n 1, 1) := by decide +kernel
theorem dX0_holds_11 : decode cX0_holds 11 = .ok (.invokevirtual 140, 3) := by decide +kernel
theorem dX0_holds_14 : decode cX0_holds 14 = .ok (.ifCond .ne 17, 3) := by decide +kernel
theorem dX0_holds_17 : decode cX0_holds 17 = .ok (.aload_n 0, 1) := by decide +kernel
theorem dX0_holds_18 : decode cX0_holds 18 = .ok (.iload_n 1, 1) := by decide +kernel
theorem dX0_holds_19 : decode cX0_holds 19 = .ok (.iload_n 2, 1) := by decide +kernel
theorem dX0_holds_20 : decode cX0_holds 20 = .ok (.invokevirtual 101, 3) := by decide +kernel
theorem dX0_holds_23 : decode cX0_holds 23 = .ok (.iconst (-1), 1) := by decide +kernel
theorem dX0_holds_24 : decode cX0_holds 24 = .ok (.if_icmp .ne 7, 3) := by decide +kernel
theorem dX0_holds_27 : decode cX0_holds 27 = .ok (.iconst 1, 1) := by decide +kernel
theorem dX0_holds_28 : decode cX0_holds 28 = .ok (.goto 4, 3) := by decide +kernel
theorem dX0_holds_31 : decode cX0_holds 31 = .ok (.iconst 0, 1) := by decide +kernel
theorem dX0_holds_32 : decode cX0_holds 32 = .ok (.ireturn, 1) := by decide +kernel
theorem dX0_holdsUpTo_0 : decode cX0_holdsUpTo 0 = .ok (.aload_n 0, 1) := by decide +kernel
theorem dX0_holdsUpTo_1 : decode cX0_holdsUpTo 1 = .ok (.iload_n 1, 1) := by decide +kernel
theorem dX0_holdsUpTo_2 : decode cX0_holdsUpTo 2 = .ok (.invokevirtual 82, 3) := by decide +kernel
theorem dX0_holdsUpTo_5 : decode cX0_holdsUpTo 5 = .ok (.aload_n 0, 1) := by decide +kernel
theorem dX0_holdsUpTo_6 : decode cX0_holdsUpTo 6 = .ok (.iload_n 1, 1) := by decide +kernel
theorem dX0_holdsUpTo_7 : decode cX0_holdsUpTo 7 = .ok (.iconst (-1), 1) := by decide +kernel
theorem dX0_holdsUpTo_8 : decode cX0_holdsUpTo 8 = .ok (.iconst (-1), 1) := by decide +kernel
theorem dX0_holdsUpTo_9 : decode cX0_holdsUpTo 9 = .ok (.invokevirtual 143, 3) := by decide +kernel
theorem dX0_holdsUpTo_12 : decode cX0_holdsUpTo 12 = .ok (.ireturn, 1) := by decide +kernel
theorem dX0_wouldGiveWay_0 : decode cX0_wouldGiveWay 0 = .ok (.aload_n 0, 1) := by decide +kernel
theorem dX0_wouldGiveWay_1 : decode cX0_wouldGiveWay 1 = .ok (.iload_n 1, 1) := by decide +kernel
theorem dX0_wouldGiveWay_2 : decode cX0_wouldGiveWay 2 = .ok (.invokevirtual 82, 3) := by decide +kernel
theorem dX0_wouldGiveWay_5 : decode cX0_wouldGiveWay 5 = .ok (.iload_n 2, 1) := by decide +kernel
theorem dX0_wouldGiveWay_6 : decode cX0_wouldGiveWay 6 = .ok (.invokestatic 62, 3) := by decide +kernel
theorem dX0_wouldGiveWay_9 : decode cX0_wouldGiveWay 9 = .ok (.aload_n 0, 1) := by decide +kernel
theorem dX0_wouldGiveWay_10 : decode cX0_wouldGiveWay 10 = .ok (.iload_n 1, 1) := by decide +kernel
theorem dX0_wouldGiveWay_11 : decode cX0_wouldGiveWay 11 = .ok (.iload_n 2, 1) := by decide +kernel
theorem dX0_wouldGiveWay_12 : decode cX0_wouldGiveWay 12 = .ok (.invokevirtual 101, 3) := by decide +kernel
theorem dX0_wouldGiveWay_15 : decode cX0_wouldGiveWay 15 = .ok (.ireturn, 1) := by decide +kernel
theorem dX0_bestKnot_0 : decode cX0_bestKnot 0 = .ok (.aload_n 0, 1) := by decide +kernel
theorem dX0_bestKnot_1 : decode cX0_bestKnot 1 = .ok (.iload_n 1, 1) := by decide +kernel
theorem dX0_bestKnot_2 : decode cX0_bestKnot 2 = .ok (.iload_n 2, 1) := by decide +kernel
theorem dX0_bestKnot_3 : decode cX0_bestKnot 3 = .ok (.invokevirtual 90, 3) := by decide +kernel
theorem dX0_bestKnot_6 : decode cX0_bestKnot 6 = .ok (.iload_n 2, 1) := by decide +kernel
theorem dX0_bestKnot_7 : decode cX0_bestKnot 7 = .ok (.invokestatic 93, 3) := by decide +kernel
theorem dX0_bestKnot_10 : decode cX0_bestKnot 10 = .ok (.istore_n 3, 1) := by decide +kernel
theorem dX0_bestKnot_11 : decode cX0_bestKnot 11 = .ok (.aload_n 0, 1) := by decide +kernel
theorem dX0_bestKnot_12 : decode cX0_bestKnot 12 = .ok (.iload_n 3, 1) := by decide +kernel
theorem dX0_bestKnot_13 : decode cX0_bestKnot 13 = .ok (.invokevirtual 107, 3) := by decide +kernel
theorem dX0_bestKnot_16 : decode cX0_bestKnot 16 = .ok (.istore 4, 2) := by decide +kernel
theorem dX0_bestKnot_18 : decode cX0_bestKnot 18 = .ok (.iconst (-1), 1) := by decide +kernel
theorem dX0_bestKnot_19 : decode cX0_bestKnot 19 = .ok (.istore 5, 2) := by decide +kernel
theorem dX0_bestKnot_21 : decode cX0_bestKnot 21 = .ok (.iconst (-1), 1) := by decide +kernel
theorem dX0_bestKnot_22 : decode cX0_bestKnot 22 = .ok (.istore 6, 2) := by decide +kernel
theorem dX0_bestKnot_24 : decode cX0_bestKnot 24 = .ok (.iconst 0, 1) := by decide +kernel
theorem dX0_bestKnot_25 : decode cX0_bestKnot 25 = .ok (.istore 7, 2) := by decide +kernel
theorem dX0_bestKnot_27 : decode cX0_bestKnot 27 = .ok (.iload 7, 2) := by decide +kernel
theorem dX0_bestKnot_29 : decode cX0_bestKnot 29 = .ok (.iload 4, 2) := by decide +kernel
theorem dX0_bestKnot_31 : decode cX0_bestKnot 31 = .ok (.if_icmp .ge 43, 3) := by decide +kernel
theorem dX0_bestKnot_34 : decode cX0_bestKnot 34 = .ok (.aload_n 0, 1) := by decide +kernel
theorem dX0_bestKnot_35 : decode cX0_bestKnot 35 = .ok (.iload_n 3, 1) := by decide +kernel
theorem dX0_bestKnot_36 : decode cX0_bestKnot 36 = .ok (.iload 7, 2) := by decide +kernel
theorem dX0_bestKnot_38 : decode cX0_bestKnot 38 = .ok (.invokevirtual 113, 3) := by decide +kernel
theorem dX0_bestKnot_41 : decode cX0_bestKnot 41 = .ok (.istore 8, 2) := by decide +kernel
theorem dX0_bestKnot_43 : decode cX0_bestKnot 43 = .ok (.aload_n 0, 1) := by decide +kernel
theorem dX0_bestKnot_44 : decode cX0_bestKnot 44 = .ok (.iload_n 1, 1) := by decide +kernel
theorem dX0_bestKnot_45 : decode cX0_bestKnot 45 = .ok (.iload_n 2, 1) := by decide +kernel
theorem dX0_bestKnot_46 : decode cX0_bestKnot 46 = .ok (.iload 8, 2) := by decide +kernel
theorem dX0_bestKnot_48 : decode cX0_bestKnot 48 = .ok (.invokevirtual 143, 3) := by decide +kernel
theorem dX0_bestKnot_51 : decode cX0_bestKnot 51 = .ok (.istore 9, 2) := by decide +kernel
theorem dX0_bestKnot_53 : decode cX0_bestKnot 53 = .ok (.iload 9, 2) := by decide +kernel
theorem dX0_bestKnot_55 : decode cX0_bestKnot 55 = .ok (.iload 6, 2) := by decide +kernel
theorem dX0_bestKnot_57 : decode cX0_bestKnot 57 = .ok (.if_icmp .le 11, 3) := by decide +kernel
theorem dX0_bestKnot_60 : decode cX0_bestKnot 60 = .ok (.iload 8, 2) := by decide +kernel
theorem dX0_bestKnot_62 : decode cX0_bestKnot 62 = .ok (.istore 5, 2) := by decide +kernel
theorem dX0_bestKnot_64 : decode cX0_bestKnot 64 = .ok (.iload 9, 2) := by decide +kernel
theorem dX0_bestKnot_66 : decode cX0_bestKnot 66 = .ok (.istore 6, 2) := by decide +kernel
theorem dX0_bestKnot_68 : decode cX0_bestKnot 68 = .ok (.iinc 7 1, 3) := by decide +kernel
theorem dX0_bestKnot_71 : decode cX0_bestKnot 71 = .ok (.goto (-44), 3) := by decide +kernel
theorem dX0_bestKnot_74 : decode cX0_bestKnot 74 = .ok (.iload 5, 2) := by decide +kernel
theorem dX0_bestKnot_76 : decode cX0_bestKnot 76 = .ok (.ireturn, 1) := by decide +kernel
theorem dX0_strongestLine_0 : decode cX0_strongestLine 0 = .ok (.iconst (-1), 1) := by decide +kernel
theorem dX0_strongestLine_1 : decode cX0_strongestLine 1 = .ok (.istore_n 1, 1) := by decide +kernel
theorem dX0_strongestLine_2 : decode cX0_strongestLine 2 = .ok (.iconst (-1), 1) := by decide +kernel
theorem dX0_strongestLine_3 : decode cX0_strongestLine 3 = .ok (.istore_n 2, 1) := by decide +kernel
theorem dX0_strongestLine_4 : decode cX0_strongestLine 4 = .ok (.iconst 0, 1) := by decide +kernel
theorem dX0_strongestLine_5 : decode cX0_strongestLine 5 = .ok (.istore_n 3, 1) := by decide +kernel
theorem dX0_strongestLine_6 : decode cX0_strongestLine 6 = .ok (.iload_n 3, 1) := by decide +kernel
theorem dX0_strongestLine_7 : decode cX0_strongestLine 7 = .ok (.aload_n 0, 1) := by decide +kernel
theorem dX0_strongestLine_8 : decode cX0_strongestLine 8 = .ok (.getfield 32, 3) := by decide +kernel
theorem dX0_strongestLine_11 : decode cX0_strongestLine 11 = .ok (.if_icmp .ge 27, 3) := by decide +kernel
theorem dX0_strongestLine_14 : decode cX0_strongestLine 14 = .ok (.aload_n 0, 1) := by decide +kernel
theorem dX0_strongestLine_15 : decode cX0_strongestLine 15 = .ok (.iload_n 3, 1) := by decide +kernel
theorem dX0_strongestLine_16 : decode cX0_strongestLine 16 = .ok (.invokevirtual 147, 3) := by decide +kernel
theorem dX0_strongestLine_19 : decode cX0_strongestLine 19 = .ok (.istore 4, 2) := by decide +kernel
theorem dX0_strongestLine_21 : decode cX0_strongestLine 21 = .ok (.iload 4, 2) := by decide +kernel
theorem dX0_strongestLine_23 : decode cX0_strongestLine 23 = .ok (.iload_n 2, 1) := by decide +kernel
theorem dX0_strongestLine_24 : decode cX0_strongestLine 24 = .ok (.if_icmp .le 8, 3) := by decide +kernel
theorem dX0_strongestLine_27 : decode cX0_strongestLine 27 = .ok (.iload_n 3, 1) := by decide +kernel
theorem dX0_strongestLine_28 : decode cX0_strongestLine 28 = .ok (.istore_n 1, 1) := by decide +kernel
theorem dX0_strongestLine_29 : decode cX0_strongestLine 29 = .ok (.iload 4, 2) := by decide +kernel
theorem dX0_strongestLine_31 : decode cX0_strongestLine 31 = .ok (.istore_n 2, 1) := by decide +kernel
theorem dX0_strongestLine_32 : decode cX0_strongestLine 32 = .ok (.iinc 3 1, 3) := by decide +kernel
theorem dX0_strongestLine_35 : decode cX0_strongestLine 35 = .ok (.goto (-29), 3) := by decide +kernel
theorem dX0_strongestLine_38 : decode cX0_strongestLine 38 = .ok (.iload_n 1, 1) := by decide +kernel
theorem dX0_strongestLine_39 : decode cX0_strongestLine 39 = .ok (.ireturn, 1) := by decide +kernel
theorem dX0_meanEfficiency_0 : decode cX0_meanEfficiency 0 = .ok (.aload_n 0, 1) := by decide +kernel
theorem dX0_meanEfficiency_1 : decode cX0_meanEfficiency 1 = .ok (.getfield 25, 3) := by decide +kernel
theorem dX0_meanEfficiency_4 : decode cX0_meanEfficiency 4 = .ok (.ifCond .ne 5, 3) := by decide +kernel
theorem dX0_meanEfficiency_7 : decode cX0_meanEfficiency 7 = .ok (.dconst 0, 1) := by decide +kernel
theorem dX0_meanEfficiency_8 : decode cX0_meanEfficiency 8 = .ok (.dreturn, 1) := by decide +kernel
theorem dX0_meanEfficiency_9 : decode cX0_meanEfficiency 9 = .ok (.iconst 0, 1) := by decide +kernel
theorem dX0_meanEfficiency_10 : decode cX0_meanEfficiency 10 = .ok (.istore_n 1, 1) := by decide +kernel
theorem dX0_meanEfficiency_11 : decode cX0_meanEfficiency 11 = .ok (.iconst 0, 1) := by decide +kernel
theorem dX0_meanEfficiency_12 : decode cX0_meanEfficiency 12 = .ok (.istore_n 2, 1) := by decide +kernel
theorem dX0_meanEfficiency_13 : decode cX0_meanEfficiency 13 = .ok (.iload_n 2, 1) := by decide +kernel
theorem dX0_meanEfficiency_14 : decode cX0_meanEfficiency 14 = .ok (.aload_n 0, 1) := by decide +kernel
theorem dX0_meanEfficiency_15 : decode cX0_meanEfficiency 15 = .ok (.getfield 25, 3) := by decide +kernel
theorem dX0_meanEfficiency_18 : decode cX0_meanEfficiency 18 = .ok (.if_icmp .ge 18, 3) := by decide +kernel
theorem dX0_meanEfficiency_21 : decode cX0_meanEfficiency 21 = .ok (.iload_n 1, 1) := by decide +kernel
theorem dX0_meanEfficiency_22 : decode cX0_meanEfficiency 22 = .ok (.aload_n 0, 1) := by decide +kernel
theorem dX0_meanEfficiency_23 : decode cX0_meanEfficiency 23 = .ok (.getfield 13, 3) := by decide +kernel
theorem dX0_meanEfficiency_26 : decode cX0_meanEfficiency 26 = .ok (.iload_n 2, 1) := by decide +kernel
theorem dX0_meanEfficiency_27 : decode cX0_meanEfficiency 27 = .ok (.iaload, 1) := by decide +kernel
theorem dX0_meanEfficiency_28 : decode cX0_meanEfficiency 28 = .ok (.iadd, 1) := by decide +kernel
theorem dX0_meanEfficiency_29 : decode cX0_meanEfficiency 29 = .ok (.istore_n 1, 1) := by decide +kernel
theorem dX0_meanEfficiency_30 : decode cX0_meanEfficiency 30 = .ok (.iinc 2 1, 3) := by decide +kernel
theorem dX0_meanEfficiency_33 : decode cX0_meanEfficiency 33 = .ok (.goto (-20), 3) := by decide +kernel
theorem dX0_meanEfficiency_36 : decode cX0_meanEfficiency 36 = .ok (.iload_n 1, 1) := by decide +kernel
theorem dX0_meanEfficiency_37 : decode cX0_meanEfficiency 37 = .ok (.i2d, 1) := by decide +kernel
theorem dX0_meanEfficiency_38 : decode cX0_meanEfficiency 38 = .ok (.aload_n 0, 1) := by decide +kernel
theorem dX0_meanEfficiency_39 : decode cX0_meanEfficiency 39 = .ok (.getfield 25, 3) := by decide +kernel
theorem dX0_meanEfficiency_42 : decode cX0_meanEfficiency 42 = .ok (.i2d, 1) := by decide +kernel
theorem dX0_meanEfficiency_43 : decode cX0_meanEfficiency 43 = .ok (.ddiv, 1) := by decide +kernel
theorem dX0_meanEfficiency_44 : decode cX0_meanEfficiency 44 = .ok (.dreturn, 1) := by decide +kernel
theorem dX0_digest_0 : decode cX0_digest 0 = .ok (.ldc2_w 150, 3) := by decide +kernel
theorem dX0_digest_3 : decode cX0_digest 3 = .ok (.lstore_n 1, 1) := by decide +kernel
theorem dX0_digest_4 : decode cX0_digest 4 = .ok (.lload_n 1, 1) := by decide +kernel
theorem dX0_digest_5 : decode cX0_digest 5 = .ok (.aload_n 0, 1) := by decide +kernel
theorem dX0_digest_6 : decode cX0_digest 6 = .ok (.getfield 25, 3) := by decide +kernel
theorem dX0_digest_9 : decode cX0_digest 9 = .ok (.invokestatic 152, 3) := by decide +kernel
theorem dX0_digest_12 : decode cX0_digest 12 = .ok (.lstore_n 1, 1) := by decide +kernel
theorem dX0_digest_13 : decode cX0_digest 13 = .ok (.lload_n 1, 1) := by decide +kernel
theorem dX0_digest_14 : decode cX0_digest 14 = .ok (.aload_n 0, 1) := by decide +kernel
theorem dX0_digest_15 : decode cX0_digest 15 = .ok (.getfield 32, 3) := by decide +kernel
theorem dX0_digest_18 : decode cX0_digest 18 = .ok (.invokestatic 152, 3) := by decide +kernel
theorem dX0_digest_21 : decode cX0_digest 21 = .ok (.lstore_n 1, 1) := by decide +kernel
theorem dX0_digest_22 : decode cX0_digest 22 = .ok (.lload_n 1, 1) := by decide +kernel
theorem dX0_digest_23 : decode cX0_digest 23 = .ok (.aload_n 0, 1) := by decide +kernel
theorem dX0_digest_24 : decode cX0_digest 24 = .ok (.invokevirtual 156, 3) := by decide +kernel
theorem dX0_digest_27 : decode cX0_digest 27 = .ok (.invokestatic 152, 3) := by decide +kernel
theorem dX0_digest_30 : decode cX0_digest 30 = .ok (.lstore_n 1, 1) := by decide +kernel
theorem dX0_digest_31 : decode cX0_digest 31 = .ok (.iconst 0, 1) := by decide +kernel
theorem dX0_digest_32 : decode cX0_digest 32 = .ok (.istore_n 3, 1) := by decide +kernel
theorem dX0_digest_33 : decode cX0_digest 33 = .ok (.iload_n 3, 1) := by decide +kernel
theorem dX0_digest_34 : decode cX0_digest 34 = .ok (.aload_n 0, 1) := by decide +kernel
theorem dX0_digest_35 : decode cX0_digest 35 = .ok (.getfield 25, 3) := by decide +kernel
theorem dX0_digest_38 : decode cX0_digest 38 = .ok (.if_icmp .ge 16, 3) := by decide +kernel
theorem dX0_digest_41 : decode cX0_digest 41 = .ok (.aload_n 0, 1) := by decide +kernel
theorem dX0_digest_42 : decode cX0_digest 42 = .ok (.lload_n 1, 1) := by decide +kernel
theorem dX0_digest_43 : decode cX0_digest 43 = .ok (.iload_n 3, 1) := by decide +kernel
theorem dX0_digest_44 : decode cX0_digest 44 = .ok (.invokevirtual 160, 3) := by decide +kernel
theorem dX0_digest_47 : decode cX0_digest 47 = .ok (.lstore_n 1, 1) := by decide +kernel
theorem dX0_digest_48 : decode cX0_digest 48 = .ok (.iinc 3 1, 3) := by decide +kernel
theorem dX0_digest_51 : decode cX0_digest 51 = .ok (.goto (-18), 3) := by decide +kernel
theorem dX0_digest_54 : decode cX0_digest 54 = .ok (.iconst 0, 1) := by decide +kernel
theorem dX0_digest_55 : decode cX0_digest 55 = .ok (.istore_n 3, 1) := by decide +kernel
theorem dX0_digest_56 : decode cX0_digest 56 = .ok (.iload_n 3, 1) := by decide +kernel
theorem dX0_digest_57 : decode cX0_digest 57 = .ok (.aload_n 0, 1) := by decide +kernel
theorem dX0_digest_58 : decode cX0_digest 58 = .ok (.getfield 32, 3) := by decide +kernel
theorem dX0_digest_61 : decode cX0_digest 61 = .ok (.if_icmp .ge 16, 3) := by decide +kernel
theorem dX0_digest_64 : decode cX0_digest 64 = .ok (.aload_n 0, 1) := by decide +kernel
theorem dX0_digest_65 : decode cX0_digest 65 = .ok (.lload_n 1, 1) := by decide +kernel
theorem dX0_digest_66 : decode cX0_digest 66 = .ok (.iload_n 3, 1) := by decide +kernel
theorem dX0_digest_67 : decode cX0_digest 67 = .ok (.invokevirtual 163, 3) := by decide +kernel
theorem dX0_digest_70 : decode cX0_digest 70 = .ok (.lstore_n 1, 1) := by decide +kernel
theorem dX0_digest_71 : decode cX0_digest 71 = .ok (.iinc 3 1, 3) := by decide +kernel
theorem dX0_digest_74 : decode cX0_digest 74 = .ok (.goto (-18), 3) := by decide +kernel
theorem dX0_digest_77 : decode cX0_digest 77 = .ok (.lload_n 1, 1) := by decide +kernel
theorem dX0_digest_78 : decode cX0_digest 78 = .ok (.lreturn, 1) := by decide +kernel
theorem dX0_digestWithKnot_0 : decode cX0_digestWithKnot 0 = .ok (.lload_n 1, 1) := by decide +kernel
theorem dX0_digestWithKnot_1 : decode cX0_digestWithKnot 1 = .ok (.lstore 4, 2) := by decide +kernel
theorem dX0_digestWithKnot_3 : decode cX0_digestWithKnot 3 = .ok (.lload 4, 2) := by decide +kernel
theorem dX0_digestWithKnot_5 : decode cX0_digestWithKnot 5 = .ok (.aload_n 0, 1) := by decide +kernel
theorem dX0_digestWithKnot_6 : decode cX0_digestWithKnot 6 = .ok (.iload_n 3, 1) := by decide +kernel
theorem dX0_digestWithKnot_7 : decode cX0_digestWithKnot 7 = .ok (.invokevirtual 166, 3) := by decide +kernel
theorem dX0_digestWithKnot_10 : decode cX0_digestWithKnot 10 = .ok (.invokestatic 152, 3) := by decide +kernel
theorem dX0_digestWithKnot_13 : decode cX0_digestWithKnot 13 = .ok (.lstore 4, 2) := by decide +kernel
theorem dX0_digestWithKnot_15 : decode cX0_digestWithKnot 15 = .ok (.lload 4, 2) := by decide +kernel
theorem dX0_digestWithKnot_17 : decode cX0_digestWithKnot 17 = .ok (.aload_n 0, 1) := by decide +kernel
theorem dX0_digestWithKnot_18 : decode cX0_digestWithKnot 18 = .ok (.iload_n 3, 1) := by decide +kernel
theorem dX0_digestWithKnot_19 : decode cX0_digestWithKnot 19 = .ok (.invokevirtual 169, 3) := by decide +kernel
theorem dX0_digestWithKnot_22 : decode cX0_digestWithKnot 22 = .ok (.invokestatic 152, 3) := by decide +kernel
theorem dX0_digestWithKnot_25 : decode cX0_digestWithKnot 25 = .ok (.lstore 4, 2) := by decide +kernel
theorem dX0_digestWithKnot_27 : decode cX0_digestWithKnot 27 = .ok (.lload 4, 2) := by decide +kernel
theorem dX0_digestWithKnot_29 : decode cX0_digestWithKnot 29 = .ok (.aload_n 0, 1) := by decide +kernel
theorem dX0_digestWithKnot_30 : decode cX0_digestWithKnot 30 = .ok (.iload_n 3, 1) := by decide +kernel
theorem dX0_digestWithKnot_31 : decode cX0_digestWithKnot 31 = .ok (.invokevirtual 172, 3) := by decide +kernel
theorem dX0_digestWithKnot_34 : decode cX0_digestWithKnot 34 = .ok (.invokestatic 152, 3) := by decide +kernel
theorem dX0_digestWithKnot_37 : decode cX0_digestWithKnot 37 = .ok (.lstore 4, 2) := by decide +kernel
theorem dX0_digestWithKnot_39 : decode cX0_digestWithKnot 39 = .ok (.lload 4, 2) := by decide +kernel
theorem dX0_digestWithKnot_41 : decode cX0_digestWithKnot 41 = .ok (.aload_n 0, 1) := by decide +kernel
theorem dX0_digestWithKnot_42 : decode cX0_digestWithKnot 42 = .ok (.iload_n 3, 1) := by decide +kernel
theorem dX0_digestWithKnot_43 : decode cX0_digestWithKnot 43 = .ok (.invokevirtual 175, 3) := by decide +kernel
theorem dX0_digestWithKnot_46 : decode cX0_digestWithKnot 46 = .ok (.invokestatic 152, 3) := by decide +kernel
theorem dX0_digestWithKnot_49 : decode cX0_digestWithKnot 49 = .ok (.lstore 4, 2) := by decide +kernel
theorem dX0_digestWithKnot_51 : decode cX0_digestWithKnot 51 = .ok (.lload 4, 2) := by decide +kernel
theorem dX0_digestWithKnot_53 : decode cX0_digestWithKnot 53 = .ok (.aload_n 0, 1) := by decide +kernel
theorem dX0_digestWithKnot_54 : decode cX0_digestWithKnot 54 = .ok (.iload_n 3, 1) := by decide +kernel
theorem dX0_digestWithKnot_55 : decode cX0_digestWithKnot 55 = .ok (.invokevirtual 178, 3) := by decide +kernel
theorem dX0_digestWithKnot_58 : decode cX0_digestWithKnot 58 = .ok (.invokestatic 152, 3) := by decide +kernel
theorem dX0_digestWithKnot_61 : decode cX0_digestWithKnot 61 = .ok (.lstore 4, 2) := by decide +kernel
theorem dX0_digestWithKnot_63 : decode cX0_digestWithKnot 63 = .ok (.lload 4, 2) := by decide +kernel
theorem dX0_digestWithKnot_65 : decode cX0_digestWithKnot 65 = .ok (.aload_n 0, 1) := by decide +kernel
theorem dX0_digestWithKnot_66 : decode cX0_digestWithKnot 66 = .ok (.iload_n 3, 1) := by decide +kernel
theorem dX0_digestWithKnot_67 : decode cX0_digestWithKnot 67 = .ok (.invokevirtual 181, 3) := by decide +kernel
theorem dX0_digestWithKnot_70 : decode cX0_digestWithKnot 70 = .ok (.invokestatic 152, 3) := by decide +kernel
theorem dX0_digestWithKnot_73 : decode cX0_digestWithKnot 73 = .ok (.lstore 4, 2) := by decide +kernel
theorem dX0_digestWithKnot_75 : decode cX0_digestWithKnot 75 = .ok (.lload 4, 2) := by decide +kernel
theorem dX0_digestWithKnot_77 : decode cX0_digestWithKnot 77 = .ok (.aload_n 0, 1) := by decide +kernel
theorem dX0_digestWithKnot_78 : decode cX0_digestWithKnot 78 = .ok (.iload_n 3, 1) := by decide +kernel
theorem dX0_digestWithKnot_79 : decode cX0_digestWithKnot 79 = .ok (.invokevirtual 184, 3) := by decide +kernel
theorem dX0_digestWithKnot_82 : decode cX0_digestWithKnot 82 = .ok (.invokestatic 152, 3) := by decide +kernel
theorem dX0_digestWithKnot_85 : decode cX0_digestWithKnot 85 = .ok (.lreturn, 1) := by decide +kernel
theorem dX0_digestWithLine_0 : decode cX0_digestWithLine 0 = .ok (.lload_n 1, 1) := by decide +kernel
theorem dX0_digestWithLine_1 : decode cX0_digestWithLine 1 = .ok (.lstore 4, 2) := by decide +kernel
theorem dX0_digestWithLine_3 : decode cX0_digestWithLine 3 = .ok (.lload 4, 2) := by decide +kernel
theorem dX0_digestWithLine_5 : decode cX0_digestWithLine 5 = .ok (.aload_n 0, 1) := by decide +kernel
theorem dX0_digestWithLine_6 : decode cX0_digestWithLine 6 = .ok (.iload_n 3, 1) := by decide +kernel
theorem dX0_digestWithLine_7 : decode cX0_digestWithLine 7 = .ok (.invokevirtual 187, 3) := by decide +kernel
theorem dX0_digestWithLine_10 : decode cX0_digestWithLine 10 = .ok (.invokestatic 152, 3) := by decide +kernel
theorem dX0_digestWithLine_13 : decode cX0_digestWithLine 13 = .ok (.lstore 4, 2) := by decide +kernel
theorem dX0_digestWithLine_15 : decode cX0_digestWithLine 15 = .ok (.lload 4, 2) := by decide +kernel
theorem dX0_digestWithLine_17 : decode cX0_digestWithLine 17 = .ok (.aload_n 0, 1) := by decide +kernel
theorem dX0_digestWithLine_18 : decode cX0_digestWithLine 18 = .ok (.iload_n 3, 1) := by decide +kernel
theorem dX0_digestWithLine_19 : decode cX0_digestWithLine 19 = .ok (.invokevirtual 147, 3) := by decide +kernel
theorem dX0_digestWithLine_22 : decode cX0_digestWithLine 22 = .ok (.invokestatic 152, 3) := by decide +kernel
theorem dX0_digestWithLine_25 : decode cX0_digestWithLine 25 = .ok (.lstore 4, 2) := by decide +kernel
theorem dX0_digestWithLine_27 : decode cX0_digestWithLine 27 = .ok (.lload 4, 2) := by decide +kernel
theorem dX0_digestWithLine_29 : decode cX0_digestWithLine 29 = .ok (.aload_n 0, 1) := by decide +kernel
theorem dX0_digestWithLine_30 : decode cX0_digestWithLine 30 = .ok (.iload_n 3, 1) := by decide +kernel
theorem dX0_digestWithLine_31 : decode cX0_digestWithLine 31 = .ok (.invokevirtual 190, 3) := by decide +kernel
theorem dX0_digestWithLine_34 : decode cX0_digestWithLine 34 = .ok (.invokestatic 152, 3) := by decide +kernel
theorem dX0_digestWithLine_37 : decode cX0_digestWithLine 37 = .ok (.lstore 4, 2) := by decide +kernel
theorem dX0_digestWithLine_39 : decode cX0_digestWithLine 39 = .ok (.iconst 0, 1) := by decide +kernel
theorem dX0_digestWithLine_40 : decode cX0_digestWithLine 40 = .ok (.istore 6, 2) := by decide +kernel
theorem dX0_digestWithLine_42 : decode cX0_digestWithLine 42 = .ok (.iload 6, 2) := by decide +kernel
theorem dX0_digestWithLine_44 : decode cX0_digestWithLine 44 = .ok (.aload_n 0, 1) := by decide +kernel
theorem dX0_digestWithLine_45 : decode cX0_digestWithLine 45 = .ok (.getfield 29, 3) := by decide +kernel
theorem dX0_digestWithLine_48 : decode cX0_digestWithLine 48 = .ok (.iload_n 3, 1) := by decide +kernel
theorem dX0_digestWithLine_49 : decode cX0_digestWithLine 49 = .ok (.iaload, 1) := by decide +kernel
theorem dX0_digestWithLine_50 : decode cX0_digestWithLine 50 = .ok (.if_icmp .ge 37, 3) := by decide +kernel
theorem dX0_digestWithLine_53 : decode cX0_digestWithLine 53 = .ok (.lload 4, 2) := by decide +kernel
theorem dX0_digestWithLine_55 : decode cX0_digestWithLine 55 = .ok (.aload_n 0, 1) := by decide +kernel
theorem dX0_digestWithLine_56 : decode cX0_digestWithLine 56 = .ok (.iload_n 3, 1) := by decide +kernel
theorem dX0_digestWithLine_57 : decode cX0_digestWithLine 57 = .ok (.iload 6, 2) := by decide +kernel
theorem dX0_digestWithLine_59 : decode cX0_digestWithLine 59 = .ok (.invokevirtual 193, 3) := by decide +kernel
theorem dX0_digestWithLine_62 : decode cX0_digestWithLine 62 = .ok (.invokestatic 152, 3) := by decide +kernel
theorem dX0_digestWithLine_65 : decode cX0_digestWithLine 65 = .ok (.lstore 4, 2) := by decide +kernel
theorem dX0_digestWithLine_67 : decode cX0_digestWithLine 67 = .ok (.lload 4, 2) := by decide +kernel
theorem dX0_digestWithLine_69 : decode cX0_digestWithLine 69 = .ok (.aload_n 0, 1) := by decide +kernel
theorem dX0_digestWithLine_70 : decode cX0_digestWithLine 70 = .ok (.iload_n 3, 1) := by decide +kernel
theorem dX0_digestWithLine_71 : decode cX0_digestWithLine 71 = .ok (.iload 6, 2) := by decide +kernel
theorem dX0_digestWithLine_73 : decode cX0_digestWithLine 73 = .ok (.invokevirtual 196, 3) := by decide +kernel
theorem dX0_digestWithLine_76 : decode cX0_digestWithLine 76 = .ok (.invokestatic 152, 3) := by decide +kernel
theorem dX0_digestWithLine_79 : decode cX0_digestWithLine 79 = .ok (.lstore 4, 2) := by decide +kernel
theorem dX0_digestWithLine_81 : decode cX0_digestWithLine 81 = .ok (.iinc 6 1, 3) := by decide +kernel
theorem dX0_digestWithLine_84 : decode cX0_digestWithLine 84 = .ok (.goto (-42), 3) := by decide +kernel
theorem dX0_digestWithLine_87 : decode cX0_digestWithLine 87 = .ok (.lload 4, 2) := by decide +kernel
theorem dX0_digestWithLine_89 : decode cX0_digestWithLine 89 = .ok (.lreturn, 1) := by decide +kernel
theorem dX0_digestWith_0 : decode cX0_digestWith 0 = .ok (.lload_n 0, 1) := by decide +kernel
theorem dX0_digestWith_1 : decode cX0_digestWith 1 = .ok (.ldc2_w 199, 3) := by decide +kernel
theorem dX0_digestWith_4 : decode cX0_digestWith 4 = .ok (.lmul, 1) := by decide +kernel
theorem dX0_digestWith_5 : decode cX0_digestWith 5 = .ok (.iload_n 2, 1) := by decide +kernel
theorem dX0_digestWith_6 : decode cX0_digestWith 6 = .ok (.i2l, 1) := by decide +kernel
theorem dX0_digestWith_7 : decode cX0_digestWith 7 = .ok (.ladd, 1) := by decide +kernel
theorem dX0_digestWith_8 : decode cX0_digestWith 8 = .ok (.lreturn, 1) := by decide +kernel
theorem dX0_checkKind_0 : decode cX0_checkKind 0 = .ok (.iload_n 0, 1) := by decide +kernel
theorem dX0_checkKind_1 : decode cX0_checkKind 1 = .ok (.ifCond .eq 18, 3) := by decide +kernel
theorem dX0_checkKind_4 : decode cX0_checkKind 4 = .ok (.iload_n 0, 1) := by decide +kernel
theorem dX0_checkKind_5 : decode cX0_checkKind 5 = .ok (.iconst 1, 1) := by decide +kernel
theorem dX0_checkKind_6 : decode cX0_checkKind 6 = .ok (.if_icmp .eq 13, 3) := by decide +kernel
theorem dX0_checkKind_9 : decode cX0_checkKind 9 = .ok (.new 116, 3) := by decide +kernel
theorem dX0_checkKind_12 : decode cX0_checkKind 12 = .ok (.dup, 1) := by decide +kernel
theorem dX0_checkKind_13 : decode cX0_checkKind 13 = .ok (.ldc 201, 2) := by decide +kernel
theorem dX0_checkKind_15 : decode cX0_checkKind 15 = .ok (.invokespecial 120, 3) := by decide +kernel
theorem dX0_checkKind_18 : decode cX0_checkKind 18 = .ok (.athrow, 1) := by decide +kernel
theorem dX0_checkKind_19 : decode cX0_checkKind 19 = .ok (.return_, 1) := by decide +kernel
theorem dX0_checkKnot_0 : decode cX0_checkKnot 0 = .ok (.aload_n 0, 1) := by decide +kernel
theorem dX0_checkKnot_1 : decode cX0_checkKnot 1 = .ok (.iload_n 1, 1) := by decide +kernel
theorem dX0_checkKnot_2 : decode cX0_checkKnot 2 = .ok (.invokevirtual 125, 3) := by decide +kernel
theorem dX0_checkKnot_5 : decode cX0_checkKnot 5 = .ok (.ifCond .ne 13, 3) := by decide +kernel
theorem dX0_checkKnot_8 : decode cX0_checkKnot 8 = .ok (.new 116, 3) := by decide +kernel
theorem dX0_checkKnot_11 : decode cX0_checkKnot 11 = .ok (.dup, 1) := by decide +kernel
theorem dX0_checkKnot_12 : decode cX0_checkKnot 12 = .ok (.ldc 203, 2) := by decide +kernel
theorem dX0_checkKnot_14 : decode cX0_checkKnot 14 = .ok (.invokespecial 120, 3) := by decide +kernel
theorem dX0_checkKnot_17 : decode cX0_checkKnot 17 = .ok (.athrow, 1) := by decide +kernel
theorem dX0_checkKnot_18 : decode cX0_checkKnot 18 = .ok (.return_, 1) := by decide +kernel
theorem dX0_checkOfKind_0 : decode cX0_checkOfKind 0 = .ok (.aload_n 0, 1) := by decide +kernel
theorem dX0_checkOfKind_1 : decode cX0_checkOfKind 1 = .ok (.getfield 9, 3) := by decide +kernel
theorem dX0_checkOfKind_4 : decode cX0_checkOfKind 4 = .ok (.iload_n 1, 1) := by decide +kernel
theorem dX0_checkOfKind_5 : decode cX0_checkOfKind 5 = .ok (.iaload, 1) := by decide +kernel
theorem dX0_checkOfKind_6 : decode cX0_checkOfKind 6 = .ok (.iload_n 2, 1) := by decide +kernel
theorem dX0_checkOfKind_7 : decode cX0_checkOfKind 7 = .ok (.if_icmp .eq 13, 3) := by decide +kernel
theorem dX0_checkOfKind_10 : decode cX0_checkOfKind 10 = .ok (.new 45, 3) := by decide +kernel
theorem dX0_checkOfKind_13 : decode cX0_checkOfKind 13 = .ok (.dup, 1) := by decide +kernel
theorem dX0_checkOfKind_14 : decode cX0_checkOfKind 14 = .ok (.ldc 205, 2) := by decide +kernel
theorem dX0_checkOfKind_16 : decode cX0_checkOfKind 16 = .ok (.invokespecial 49, 3) := by decide +kernel
theorem dX0_checkOfKind_19 : decode cX0_checkOfKind 19 = .ok (.athrow, 1) := by decide +kernel
theorem dX0_checkOfKind_20 : decode cX0_checkOfKind 20 = .ok (.return_, 1) := by decide +kernel
theorem dX0_checkLoad_0 : decode cX0_checkLoad 0 = .ok (.iload_n 0, 1) := by decide +kernel
theorem dX0_checkLoad_1 : decode cX0_checkLoad 1 = .ok (.iconst 1, 1) := by decide +kernel
theorem dX0_checkLoad_2 : decode cX0_checkLoad 2 = .ok (.if_icmp .lt 10, 3) := by decide +kernel
theorem dX0_checkLoad_5 : decode cX0_checkLoad 5 = .ok (.iload_n 0, 1) := by decide +kernel
theorem dX0_checkLoad_6 : decode cX0_checkLoad 6 = .ok (.sipush 999, 3) := by decide +kernel
theorem dX0_checkLoad_9 : decode cX0_checkLoad 9 = .ok (.if_icmp .le 13, 3) := by decide +kernel
theorem dX0_checkLoad_12 : decode cX0_checkLoad 12 = .ok (.new 45, 3) := by decide +kernel
theorem dX0_checkLoad_15 : decode cX0_checkLoad 15 = .ok (.dup, 1) := by decide +kernel
theorem dX0_checkLoad_16 : decode cX0_checkLoad 16 = .ok (.ldc 207, 2) := by decide +kernel
theorem dX0_checkLoad_18 : decode cX0_checkLoad 18 = .ok (.invokespecial 49, 3) := by decide +kernel
theorem dX0_checkLoad_21 : decode cX0_checkLoad 21 = .ok (.athrow, 1) := by decide +kernel
theorem dX0_checkLoad_22 : decode cX0_checkLoad 22 = .ok (.return_, 1) := by decide +kernel
theorem dX0_checkStrength_0 : decode cX0_checkStrength 0 = .ok (.iload_n 0, 1) := by decide +kernel
theorem dX0_checkStrength_1 : decode cX0_checkStrength 1 = .ok (.iconst 1, 1) := by decide +kernel
theorem dX0_checkStrength_2 : decode cX0_checkStrength 2 = .ok (.if_icmp .lt 10, 3) := by decide +kernel
theorem dX0_checkStrength_5 : decode cX0_checkStrength 5 = .ok (.iload_n 0, 1) := by decide +kernel
theorem dX0_checkStrength_6 : decode cX0_checkStrength 6 = .ok (.sipush 999, 3) := by decide +kernel
theorem dX0_checkStrength_9 : decode cX0_checkStrength 9 = .ok (.if_icmp .le 13, 3) := by decide +kernel
theorem dX0_checkStrength_12 : decode cX0_checkStrength 12 = .ok (.new 45, 3) := by decide +kernel
theorem dX0_checkStrength_15 : decode cX0_checkStrength 15 = .ok (.dup, 1) := by decide +kernel
theorem dX0_checkStrength_16 : decode cX0_checkStrength 16 = .ok (.ldc 209, 2) := by decide +kernel
theorem dX0_checkStrength_18 : decode cX0_checkStrength 18 = .ok (.invokespecial 49, 3) := by decide +kernel
theorem dX0_checkStrength_21 : decode cX0_checkStrength 21 = .ok (.athrow, 1) := by decide +kernel
theorem dX0_checkStrength_22 : decode cX0_checkStrength 22 = .ok (.return_, 1) := by decide +kernel
theorem dX0_checkLine_0 : decode cX0_checkLine 0 = .ok (.iload_n 1, 1) := by decide +kernel
theorem dX0_checkLine_1 : decode cX0_checkLine 1 = .ok (.ifCond .lt 11, 3) := by decide +kernel
theorem dX0_checkLine_4 : decode cX0_checkLine 4 = .ok (.iload_n 1, 1) := by decide +kernel
theorem dX0_checkLine_5 : decode cX0_checkLine 5 = .ok (.aload_n 0, 1) := by decide +kernel
theorem dX0_checkLine_6 : decode cX0_checkLine 6 = .ok (.getfield 32, 3) := by decide +kernel
theorem dX0_checkLine_9 : decode cX0_checkLine 9 = .ok (.if_icmp .lt 13, 3) := by decide +kernel
theorem dX0_checkLine_12 : decode cX0_checkLine 12 = .ok (.new 116, 3) := by decide +kernel
theorem dX0_checkLine_15 : decode cX0_checkLine 15 = .ok (.dup, 1) := by decide +kernel
theorem dX0_checkLine_16 : decode cX0_checkLine 16 = .ok (.ldc 211, 2) := by decide +kernel
theorem dX0_checkLine_18 : decode cX0_checkLine 18 = .ok (.invokespecial 120, 3) := by decide +kernel
theorem dX0_checkLine_21 : decode cX0_checkLine 21 = .ok (.athrow, 1) := by decide +kernel
theorem dX0_checkLine_22 : decode cX0_checkLine 22 = .ok (.return_, 1) := by decide +kernel
theorem dX0_checkPlace_0 : decode cX0_checkPlace 0 = .ok (.aload_n 0, 1) := by decide +kernel
theorem dX0_checkPlace_1 : decode cX0_checkPlace 1 = .ok (.iload_n 1, 1) := by decide +kernel
theorem dX0_checkPlace_2 : decode cX0_checkPlace 2 = .ok (.invokevirtual 82, 3) := by decide +kernel
theorem dX0_checkPlace_5 : decode cX0_checkPlace 5 = .ok (.iload_n 2, 1) := by decide +kernel
theorem dX0_checkPlace_6 : decode cX0_checkPlace 6 = .ok (.ifCond .lt 13, 3) := by decide +kernel
theorem dX0_checkPlace_9 : decode cX0_checkPlace 9 = .ok (.iload_n 2, 1) := by decide +kernel
theorem dX0_checkPlace_10 : decode cX0_checkPlace 10 = .ok (.aload_n 0, 1) := by decide +kernel
theorem dX0_checkPlace_11 : decode cX0_checkPlace 11 = .ok (.getfield 29, 3) := by decide +kernel
theorem dX0_checkPlace_14 : decode cX0_checkPlace 14 = .ok (.iload_n 1, 1) := by decide +kernel
theorem dX0_checkPlace_15 : decode cX0_checkPlace 15 = .ok (.iaload, 1) := by decide +kernel
theorem dX0_checkPlace_16 : decode cX0_checkPlace 16 = .ok (.if_icmp .lt 13, 3) := by decide +kernel
theorem dX0_checkPlace_19 : decode cX0_checkPlace 19 = .ok (.new 116, 3) := by decide +kernel
theorem dX0_checkPlace_22 : decode cX0_checkPlace 22 = .ok (.dup, 1) := by decide +kernel
theorem dX0_checkPlace_23 : decode cX0_checkPlace 23 = .ok (.ldc 213, 2) := by decide +kernel
theorem dX0_checkPlace_25 : decode cX0_checkPlace 25 = .ok (.invokespecial 120, 3) := by decide +kernel
theorem dX0_checkPlace_28 : decode cX0_checkPlace 28 = .ok (.athrow, 1) := by decide +kernel
theorem dX0_checkPlace_29 : decode cX0_checkPlace 29 = .ok (.return_, 1) := by decide +kernel
theorem dX0_checkNotGone_0 : decode cX0_checkNotGone 0 = .ok (.aload_n 0, 1) := by decide +kernel
theorem dX0_checkNotGone_1 : decode cX0_checkNotGone 1 = .ok (.iload_n 1, 1) := by decide +kernel
theorem dX0_checkNotGone_2 : decode cX0_checkNotGone 2 = .ok (.invokevirtual 140, 3) := by decide +kernel
theorem dX0_checkNotGone_5 : decode cX0_checkNotGone 5 = .ok (.ifCond .eq 13, 3) := by decide +kernel
theorem dX0_checkNotGone_8 : decode cX0_checkNotGone 8 = .ok (.new 54, 3) := by decide +kernel
theorem dX0_checkNotGone_11 : decode cX0_checkNotGone 11 = .ok (.dup, 1) := by decide +kernel
theorem dX0_checkNotGone_12 : decode cX0_checkNotGone 12 = .ok (.ldc 215, 2) := by decide +kernel
theorem dX0_checkNotGone_14 : decode cX0_checkNotGone 14 = .ok (.invokespecial 58, 3) := by decide +kernel
theorem dX0_checkNotGone_17 : decode cX0_checkNotGone 17 = .ok (.athrow, 1) := by decide +kernel
theorem dX0_checkNotGone_18 : decode cX0_checkNotGone 18 = .ok (.return_, 1) := by decide +kernel
theorem dX0_isKnot_0 : decode cX0_isKnot 0 = .ok (.iload_n 1, 1) := by decide +kernel
theorem dX0_isKnot_1 : decode cX0_isKnot 1 = .ok (.ifCond .lt 15, 3) := by decide +kernel
theorem dX0_isKnot_4 : decode cX0_isKnot 4 = .ok (.iload_n 1, 1) := by decide +kernel
theorem dX0_isKnot_5 : decode cX0_isKnot 5 = .ok (.aload_n 0, 1) := by decide +kernel
theorem dX0_isKnot_6 : decode cX0_isKnot 6 = .ok (.getfield 25, 3) := by decide +kernel
theorem dX0_isKnot_9 : decode cX0_isKnot 9 = .ok (.if_icmp .ge 7, 3) := by decide +kernel
theorem dX0_isKnot_12 : decode cX0_isKnot 12 = .ok (.iconst 1, 1) := by decide +kernel
theorem dX0_isKnot_13 : decode cX0_isKnot 13 = .ok (.goto 4, 3) := by decide +kernel
theorem dX0_isKnot_16 : decode cX0_isKnot 16 = .ok (.iconst 0, 1) := by decide +kernel
theorem dX0_isKnot_17 : decode cX0_isKnot 17 = .ok (.ireturn, 1) := by decide +kernel
theorem dX0_countOfKind_0 : decode cX0_countOfKind 0 = .ok (.iconst 0, 1) := by decide +kernel
theorem dX0_countOfKind_1 : decode cX0_countOfKind 1 = .ok (.istore_n 2, 1) := by decide +kernel
theorem dX0_countOfKind_2 : decode cX0_countOfKind 2 = .ok (.iconst 0, 1) := by decide +kernel
theorem dX0_countOfKind_3 : decode cX0_countOfKind 3 = .ok (.istore_n 3, 1) := by decide +kernel
theorem dX0_countOfKind_4 : decode cX0_countOfKind 4 = .ok (.iload_n 3, 1) := by decide +kernel
theorem dX0_countOfKind_5 : decode cX0_countOfKind 5 = .ok (.aload_n 0, 1) := by decide +kernel
theorem dX0_countOfKind_6 : decode cX0_countOfKind 6 = .ok (.getfield 25, 3) := by decide +kernel
theorem dX0_countOfKind_9 : decode cX0_countOfKind 9 = .ok (.if_icmp .ge 22, 3) := by decide +kernel
theorem dX0_countOfKind_12 : decode cX0_countOfKind 12 = .ok (.aload_n 0, 1) := by decide +kernel
theorem dX0_countOfKind_13 : decode cX0_countOfKind 13 = .ok (.getfield 9, 3) := by decide +kernel
theorem dX0_countOfKind_16 : decode cX0_countOfKind 16 = .ok (.iload_n 3, 1) := by decide +kernel
theorem dX0_countOfKind_17 : decode cX0_countOfKind 17 = .ok (.iaload, 1) := by decide +kernel
theorem dX0_countOfKind_18 : decode cX0_countOfKind 18 = .ok (.iload_n 1, 1) := by decide +kernel
theorem dX0_countOfKind_19 : decode cX0_countOfKind 19 = .ok (.if_icmp .ne 6, 3) := by decide +kernel
theorem dX0_countOfKind_22 : decode cX0_countOfKind 22 = .ok (.iinc 2 1, 3) := by decide +kernel
theorem dX0_countOfKind_25 : decode cX0_countOfKind 25 = .ok (.iinc 3 1, 3) := by decide +kernel
theorem dX0_countOfKind_28 : decode cX0_countOfKind 28 = .ok (.goto (-24), 3) := by decide +kernel
theorem dX0_countOfKind_31 : decode cX0_countOfKind 31 = .ok (.iload_n 2, 1) := by decide +kernel
theorem dX0_countOfKind_32 : decode cX0_countOfKind 32 = .ok (.ireturn, 1) := by decide +kernel
theorem dX0_rankInKind_0 : decode cX0_rankInKind 0 = .ok (.iconst 0, 1) := by decide +kernel
theorem dX0_rankInKind_1 : decode cX0_rankInKind 1 = .ok (.istore_n 2, 1) := by decide +kernel
theorem dX0_rankInKind_2 : decode cX0_rankInKind 2 = .ok (.iconst 0, 1) := by decide +kernel
theorem dX0_rankInKind_3 : decode cX0_rankInKind 3 = .ok (.istore_n 3, 1) := by decide +kernel
theorem dX0_rankInKind_4 : decode cX0_rankInKind 4 = .ok (.iload_n 3, 1) := by decide +kernel
theorem dX0_rankInKind_5 : decode cX0_rankInKind 5 = .ok (.aload_n 0, 1) := by decide +kernel
theorem dX0_rankInKind_6 : decode cX0_rankInKind 6 = .ok (.getfield 25, 3) := by decide +kernel
theorem dX0_rankInKind_9 : decode cX0_rankInKind 9 = .ok (.if_icmp .ge 36, 3) := by decide +kernel
theorem dX0_rankInKind_12 : decode cX0_rankInKind 12 = .ok (.aload_n 0, 1) := by decide +kernel
theorem dX0_rankInKind_13 : decode cX0_rankInKind 13 = .ok (.getfield 9, 3) := by decide +kernel
theorem dX0_rankInKind_16 : decode cX0_rankInKind 16 = .ok (.iload_n 3, 1) := by decide +kernel
theorem dX0_rankInKind_17 : decode cX0_rankInKind 17 = .ok (.iaload, 1) := by decide +kernel
theorem dX0_rankInKind_18 : decode cX0_rankInKind 18 = .ok (.aload_n 0, 1) := by decide +kernel
theorem dX0_rankInKind_19 : decode cX0_rankInKind 19 = .ok (.getfield 9, 3) := by decide +kernel
theorem dX0_rankInKind_22 : decode cX0_rankInKind 22 = .ok (.iload_n 1, 1) := by decide +kernel
theorem dX0_rankInKind_23 : decode cX0_rankInKind 23 = .ok (.iaload, 1) := by decide +kernel
theorem dX0_rankInKind_24 : decode cX0_rankInKind 24 = .ok (.if_icmp .ne 15, 3) := by decide +kernel
theorem dX0_rankInKind_27 : decode cX0_rankInKind 27 = .ok (.aload_n 0, 1) := by decide +kernel
theorem dX0_rankInKind_28 : decode cX0_rankInKind 28 = .ok (.iload_n 3, 1) := by decide +kernel
theorem dX0_rankInKind_29 : decode cX0_rankInKind 29 = .ok (.iload_n 1, 1) := by decide +kernel
theorem dX0_rankInKind_30 : decode cX0_rankInKind 30 = .ok (.invokevirtual 217, 3) := by decide +kernel
theorem dX0_rankInKind_33 : decode cX0_rankInKind 33 = .ok (.ifCond .eq 6, 3) := by decide +kernel
theorem dX0_rankInKind_36 : decode cX0_rankInKind 36 = .ok (.iinc 2 1, 3) := by decide +kernel
theorem dX0_rankInKind_39 : decode cX0_rankInKind 39 = .ok (.iinc 3 1, 3) := by decide +kernel
theorem dX0_rankInKind_42 : decode cX0_rankInKind 42 = .ok (.goto (-38), 3) := by decide +kernel
theorem dX0_rankInKind_45 : decode cX0_rankInKind 45 = .ok (.iload_n 2, 1) := by decide +kernel
theorem dX0_rankInKind_46 : decode cX0_rankInKind 46 = .ok (.ireturn, 1) := by decide +kernel
theorem dX0_isAheadOf_0 : decode cX0_isAheadOf 0 = .ok (.aload_n 0, 1) := by decide +kernel
theorem dX0_isAheadOf_1 : decode cX0_isAheadOf 1 = .ok (.getfield 13, 3) := by decide +kernel
theorem dX0_isAheadOf_4 : decode cX0_isAheadOf 4 = .ok (.iload_n 1, 1) := by decide +kernel
theorem dX0_isAheadOf_5 : decode cX0_isAheadOf 5 = .ok (.iaload, 1) := by decide +kernel
theorem dX0_isAheadOf_6 : decode cX0_isAheadOf 6 = .ok (.aload_n 0, 1) := by decide +kernel
theorem dX0_isAheadOf_7 : decode cX0_isAheadOf 7 = .ok (.getfield 13, 3) := by decide +kernel
theorem dX0_isAheadOf_10 : decode cX0_isAheadOf 10 = .ok (.iload_n 2, 1) := by decide +kernel
theorem dX0_isAheadOf_11 : decode cX0_isAheadOf 11 = .ok (.iaload, 1) := by decide +kernel
theorem dX0_isAheadOf_12 : decode cX0_isAheadOf 12 = .ok (.if_icmp .eq 24, 3) := by decide +kernel
theorem dX0_isAheadOf_15 : decode cX0_isAheadOf 15 = .ok (.aload_n 0, 1) := by decide +kernel
theorem dX0_isAheadOf_16 : decode cX0_isAheadOf 16 = .ok (.getfield 13, 3) := by decide +kernel
theorem dX0_isAheadOf_19 : decode cX0_isAheadOf 19 = .ok (.iload_n 1, 1) := by decide +kernel
theorem dX0_isAheadOf_20 : decode cX0_isAheadOf 20 = .ok (.iaload, 1) := by decide +kernel
theorem dX0_isAheadOf_21 : decode cX0_isAheadOf 21 = .ok (.aload_n 0, 1) := by decide +kernel
theorem dX0_isAheadOf_22 : decode cX0_isAheadOf 22 = .ok (.getfield 13, 3) := by decide +kernel
theorem dX0_isAheadOf_25 : decode cX0_isAheadOf 25 = .ok (.iload_n 2, 1) := by decide +kernel
theorem dX0_isAheadOf_26 : decode cX0_isAheadOf 26 = .ok (.iaload, 1) := by decide +kernel
theorem dX0_isAheadOf_27 : decode cX0_isAheadOf 27 = .ok (.if_icmp .le 7, 3) := by decide +kernel
theorem dX0_isAheadOf_30 : decode cX0_isAheadOf 30 = .ok (.iconst 1, 1) := by decide +kernel
theorem dX0_isAheadOf_31 : decode cX0_isAheadOf 31 = .ok (.goto 4, 3) := by decide +kernel
theorem dX0_isAheadOf_34 : decode cX0_isAheadOf 34 = .ok (.iconst 0, 1) := by decide +kernel
theorem dX0_isAheadOf_35 : decode cX0_isAheadOf 35 = .ok (.ireturn, 1) := by decide +kernel
theorem dX0_isAheadOf_36 : decode cX0_isAheadOf 36 = .ok (.aload_n 0, 1) := by decide +kernel
theorem dX0_isAheadOf_37 : decode cX0_isAheadOf 37 = .ok (.getfield 16, 3) := by decide +kernel
theorem dX0_isAheadOf_40 : decode cX0_isAheadOf 40 = .ok (.iload_n 1, 1) := by decide +kernel
theorem dX0_isAheadOf_41 : decode cX0_isAheadOf 41 = .ok (.iaload, 1) := by decide +kernel
theorem dX0_isAheadOf_42 : decode cX0_isAheadOf 42 = .ok (.aload_n 0, 1) := by decide +kernel
theorem dX0_isAheadOf_43 : decode cX0_isAheadOf 43 = .ok (.getfield 16, 3) := by decide +kernel
theorem dX0_isAheadOf_46 : decode cX0_isAheadOf 46 = .ok (.iload_n 2, 1) := by decide +kernel
theorem dX0_isAheadOf_47 : decode cX0_isAheadOf 47 = .ok (.iaload, 1) := by decide +kernel
theorem dX0_isAheadOf_48 : decode cX0_isAheadOf 48 = .ok (.if_icmp .eq 24, 3) := by decide +kernel
theorem dX0_isAheadOf_51 : decode cX0_isAheadOf 51 = .ok (.aload_n 0, 1) := by decide +kernel
theorem dX0_isAheadOf_52 : decode cX0_isAheadOf 52 = .ok (.getfield 16, 3) := by decide +kernel
theorem dX0_isAheadOf_55 : decode cX0_isAheadOf 55 = .ok (.iload_n 1, 1) := by decide +kernel
theorem dX0_isAheadOf_56 : decode cX0_isAheadOf 56 = .ok (.iaload, 1) := by decide +kernel
theorem dX0_isAheadOf_57 : decode cX0_isAheadOf 57 = .ok (.aload_n 0, 1) := by decide +kernel
theorem dX0_isAheadOf_58 : decode cX0_isAheadOf 58 = .ok (.getfield 16, 3) := by decide +kernel
theorem dX0_isAheadOf_61 : decode cX0_isAheadOf 61 = .ok (.iload_n 2, 1) := by decide +kernel
theorem dX0_isAheadOf_62 : decode cX0_isAheadOf 62 = .ok (.iaload, 1) := by decide +kernel
theorem dX0_isAheadOf_63 : decode cX0_isAheadOf 63 = .ok (.if_icmp .ge 7, 3) := by decide +kernel
theorem dX0_isAheadOf_66 : decode cX0_isAheadOf 66 = .ok (.iconst 1, 1) := by decide +kernel
theorem dX0_isAheadOf_67 : decode cX0_isAheadOf 67 = .ok (.goto 4, 3) := by decide +kernel
theorem dX0_isAheadOf_70 : decode cX0_isAheadOf 70 = .ok (.iconst 0, 1) := by decide +kernel
theorem dX0_isAheadOf_71 : decode cX0_isAheadOf 71 = .ok (.ireturn, 1) := by decide +kernel
theorem dX0_isAheadOf_72 : decode cX0_isAheadOf 72 = .ok (.iload_n 1, 1) := by decide +kernel
theorem dX0_isAheadOf_73 : decode cX0_isAheadOf 73 = .ok (.iload_n 2, 1) := by decide +kernel
theorem dX0_isAheadOf_74 : decode cX0_isAheadOf 74 = .ok (.if_icmp .ge 7, 3) := by decide +kernel
theorem dX0_isAheadOf_77 : decode cX0_isAheadOf 77 = .ok (.iconst 1, 1) := by decide +kernel
theorem dX0_isAheadOf_78 : decode cX0_isAheadOf 78 = .ok (.goto 4, 3) := by decide +kernel
theorem dX0_isAheadOf_81 : decode cX0_isAheadOf 81 = .ok (.iconst 0, 1) := by decide +kernel
theorem dX0_isAheadOf_82 : decode cX0_isAheadOf 82 = .ok (.ireturn, 1) := by decide +kernel
theorem dX0_knotWithRank_0 : decode cX0_knotWithRank 0 = .ok (.iconst 0, 1) := by decide +kernel
theorem dX0_knotWithRank_1 : decode cX0_knotWithRank 1 = .ok (.istore_n 3, 1) := by decide +kernel
theorem dX0_knotWithRank_2 : decode cX0_knotWithRank 2 = .ok (.iload_n 3, 1) := by decide +kernel
theorem dX0_knotWithRank_3 : decode cX0_knotWithRank 3 = .ok (.aload_n 0, 1) := by decide +kernel
theorem dX0_knotWithRank_4 : decode cX0_knotWithRank 4 = .ok (.getfield 25, 3) := by decide +kernel
theorem dX0_knotWithRank_7 : decode cX0_knotWithRank 7 = .ok (.if_icmp .ge 30, 3) := by decide +kernel
theorem dX0_knotWithRank_10 : decode cX0_knotWithRank 10 = .ok (.aload_n 0, 1) := by decide +kernel
theorem dX0_knotWithRank_11 : decode cX0_knotWithRank 11 = .ok (.getfield 9, 3) := by decide +kernel
theorem dX0_knotWithRank_14 : decode cX0_knotWithRank 14 = .ok (.iload_n 3, 1) := by decide +kernel
theorem dX0_knotWithRank_15 : decode cX0_knotWithRank 15 = .ok (.iaload, 1) := by decide +kernel
theorem dX0_knotWithRank_16 : decode cX0_knotWithRank 16 = .ok (.iload_n 1, 1) := by decide +kernel
theorem dX0_knotWithRank_17 : decode cX0_knotWithRank 17 = .ok (.if_icmp .ne 14, 3) := by decide +kernel
theorem dX0_knotWithRank_20 : decode cX0_knotWithRank 20 = .ok (.aload_n 0, 1) := by decide +kernel
theorem dX0_knotWithRank_21 : decode cX0_knotWithRank 21 = .ok (.iload_n 3, 1) := by decide +kernel
theorem dX0_knotWithRank_22 : decode cX0_knotWithRank 22 = .ok (.invokevirtual 110, 3) := by decide +kernel
theorem dX0_knotWithRank_25 : decode cX0_knotWithRank 25 = .ok (.iload_n 2, 1) := by decide +kernel
theorem dX0_knotWithRank_26 : decode cX0_knotWithRank 26 = .ok (.if_icmp .ne 5, 3) := by decide +kernel
theorem dX0_knotWithRank_29 : decode cX0_knotWithRank 29 = .ok (.iload_n 3, 1) := by decide +kernel
theorem dX0_knotWithRank_30 : decode cX0_knotWithRank 30 = .ok (.ireturn, 1) := by decide +kernel
theorem dX0_knotWithRank_31 : decode cX0_knotWithRank 31 = .ok (.iinc 3 1, 3) := by decide +kernel
theorem dX0_knotWithRank_34 : decode cX0_knotWithRank 34 = .ok (.goto (-32), 3) := by decide +kernel
theorem dX0_knotWithRank_37 : decode cX0_knotWithRank 37 = .ok (.iconst (-1), 1) := by decide +kernel
theorem dX0_knotWithRank_38 : decode cX0_knotWithRank 38 = .ok (.ireturn, 1) := by decide +kernel
theorem dX0_spillsUnder_0 : decode cX0_spillsUnder 0 = .ok (.aload_n 0, 1) := by decide +kernel
theorem dX0_spillsUnder_1 : decode cX0_spillsUnder 1 = .ok (.iload_n 1, 1) := by decide +kernel
theorem dX0_spillsUnder_2 : decode cX0_spillsUnder 2 = .ok (.invokevirtual 125, 3) := by decide +kernel
theorem dX0_spillsUnder_5 : decode cX0_spillsUnder 5 = .ok (.ifCond .eq 26, 3) := by decide +kernel
theorem dX0_spillsUnder_8 : decode cX0_spillsUnder 8 = .ok (.aload_n 0, 1) := by decide +kernel
theorem dX0_spillsUnder_9 : decode cX0_spillsUnder 9 = .ok (.getfield 19, 3) := by decide +kernel
theorem dX0_spillsUnder_12 : decode cX0_spillsUnder 12 = .ok (.iload_n 1, 1) := by decide +kernel
theorem dX0_spillsUnder_13 : decode cX0_spillsUnder 13 = .ok (.iaload, 1) := by decide +kernel
theorem dX0_spillsUnder_14 : decode cX0_spillsUnder 14 = .ok (.ifCond .eq 17, 3) := by decide +kernel
theorem dX0_spillsUnder_17 : decode cX0_spillsUnder 17 = .ok (.aload_n 0, 1) := by decide +kernel
theorem dX0_spillsUnder_18 : decode cX0_spillsUnder 18 = .ok (.getfield 19, 3) := by decide +kernel
theorem dX0_spillsUnder_21 : decode cX0_spillsUnder 21 = .ok (.iload_n 1, 1) := by decide +kernel
theorem dX0_spillsUnder_22 : decode cX0_spillsUnder 22 = .ok (.iaload, 1) := by decide +kernel
theorem dX0_spillsUnder_23 : decode cX0_spillsUnder 23 = .ok (.iload_n 2, 1) := by decide +kernel
theorem dX0_spillsUnder_24 : decode cX0_spillsUnder 24 = .ok (.if_icmp .gt 7, 3) := by decide +kernel
theorem dX0_spillsUnder_27 : decode cX0_spillsUnder 27 = .ok (.iconst 1, 1) := by decide +kernel
theorem dX0_spillsUnder_28 : decode cX0_spillsUnder 28 = .ok (.goto 4, 3) := by decide +kernel
theorem dX0_spillsUnder_31 : decode cX0_spillsUnder 31 = .ok (.iconst 0, 1) := by decide +kernel
theorem dX0_spillsUnder_32 : decode cX0_spillsUnder 32 = .ok (.ireturn, 1) := by decide +kernel
theorem dX0_formUnder_0 : decode cX0_formUnder 0 = .ok (.iload_n 1, 1) := by decide +kernel
theorem dX0_formUnder_1 : decode cX0_formUnder 1 = .ok (.istore_n 3, 1) := by decide +kernel
theorem dX0_formUnder_2 : decode cX0_formUnder 2 = .ok (.iconst 0, 1) := by decide +kernel
theorem dX0_formUnder_3 : decode cX0_formUnder 3 = .ok (.istore 4, 2) := by decide +kernel
theorem dX0_formUnder_5 : decode cX0_formUnder 5 = .ok (.iload 4, 2) := by decide +kernel
theorem dX0_formUnder_7 : decode cX0_formUnder 7 = .ok (.bipush 16, 2) := by decide +kernel
theorem dX0_formUnder_9 : decode cX0_formUnder 9 = .ok (.if_icmp .ge 25, 3) := by decide +kernel
theorem dX0_formUnder_12 : decode cX0_formUnder 12 = .ok (.aload_n 0, 1) := by decide +kernel
theorem dX0_formUnder_13 : decode cX0_formUnder 13 = .ok (.iload_n 3, 1) := by decide +kernel
theorem dX0_formUnder_14 : decode cX0_formUnder 14 = .ok (.iload_n 2, 1) := by decide +kernel
theorem dX0_formUnder_15 : decode cX0_formUnder 15 = .ok (.invokevirtual 121, 3) := by decide +kernel
theorem dX0_formUnder_18 : decode cX0_formUnder 18 = .ok (.ifCond .eq 16, 3) := by decide +kernel
theorem dX0_formUnder_21 : decode cX0_formUnder 21 = .ok (.aload_n 0, 1) := by decide +kernel
theorem dX0_formUnder_22 : decode cX0_formUnder 22 = .ok (.getfield 22, 3) := by decide +kernel
theorem dX0_formUnder_25 : decode cX0_formUnder 25 = .ok (.iload_n 3, 1) := by decide +kernel
theorem dX0_formUnder_26 : decode cX0_formUnder 26 = .ok (.iaload, 1) := by decide +kernel
theorem dX0_formUnder_27 : decode cX0_formUnder 27 = .ok (.istore_n 3, 1) := by decide +kernel
theorem dX0_formUnder_28 : decode cX0_formUnder 28 = .ok (.iinc 4 1, 3) := by decide +kernel
theorem dX0_formUnder_31 : decode cX0_formUnder 31 = .ok (.goto (-26), 3) := by decide +kernel
theorem dX0_formUnder_34 : decode cX0_formUnder 34 = .ok (.iload_n 3, 1) := by decide +kernel
theorem dX0_formUnder_35 : decode cX0_formUnder 35 = .ok (.ireturn, 1) := by decide +kernel
theorem dX0_slot_0 : decode cX0_slot 0 = .ok (.iload_n 0, 1) := by decide +kernel
theorem dX0_slot_1 : decode cX0_slot 1 = .ok (.iconst 5, 1) := by decide +kernel
theorem dX0_slot_2 : decode cX0_slot 2 = .ok (.imul, 1) := by decide +kernel
theorem dX0_slot_3 : decode cX0_slot 3 = .ok (.iload_n 1, 1) := by decide +kernel
theorem dX0_slot_4 : decode cX0_slot 4 = .ok (.iadd, 1) := by decide +kernel
theorem dX0_slot_5 : decode cX0_slot 5 = .ok (.ireturn, 1) := by decide +kernel
theorem dX0_kindDueAt_0 : decode cX0_kindDueAt 0 = .ok (.iload_n 0, 1) := by decide +kernel
theorem dX0_kindDueAt_1 : decode cX0_kindDueAt 1 = .ok (.ifCond .ne 7, 3) := by decide +kernel
theorem dX0_kindDueAt_4 : decode cX0_kindDueAt 4 = .ok (.iconst 1, 1) := by decide +kernel
theorem dX0_kindDueAt_5 : decode cX0_kindDueAt 5 = .ok (.goto 4, 3) := by decide +kernel
theorem dX0_kindDueAt_8 : decode cX0_kindDueAt 8 = .ok (.iconst 0, 1) := by decide +kernel
theorem dX0_kindDueAt_9 : decode cX0_kindDueAt 9 = .ok (.ireturn, 1) := by decide +kernel
theorem dX0_isGone_0 : decode cX0_isGone 0 = .ok (.aload_n 0, 1) := by decide +kernel
theorem dX0_isGone_1 : decode cX0_isGone 1 = .ok (.getfield 29, 3) := by decide +kernel
theorem dX0_isGone_4 : decode cX0_isGone 4 = .ok (.iload_n 1, 1) := by decide +kernel
theorem dX0_isGone_5 : decode cX0_isGone 5 = .ok (.iaload, 1) := by decide +kernel
theorem dX0_isGone_6 : decode cX0_isGone 6 = .ok (.ifCond .ne 7, 3) := by decide +kernel
theorem dX0_isGone_9 : decode cX0_isGone 9 = .ok (.iconst 1, 1) := by decide +kernel
theorem dX0_isGone_10 : decode cX0_isGone 10 = .ok (.goto 4, 3) := by decide +kernel
theorem dX0_isGone_13 : decode cX0_isGone 13 = .ok (.iconst 0, 1) := by decide +kernel
theorem dX0_isGone_14 : decode cX0_isGone 14 = .ok (.ireturn, 1) := by decide +kernel
theorem dX0_appendRope_0 : decode cX0_appendRope 0 = .ok (.iload_n 1, 1) := by decide +kernel
theorem dX0_appendRope_1 : decode cX0_appendRope 1 = .ok (.aload_n 0, 1) := by decide +kernel
theorem dX0_appendRope_2 : decode cX0_appendRope 2 = .ok (.getfield 29, 3) := by decide +kernel
theorem dX0_appendRope_5 : decode cX0_appendRope 5 = .ok (.iload_n 1, 1) := by decide +kernel
theorem dX0_appendRope_6 : decode cX0_appendRope 6 = .ok (.iaload, 1) := by decide +kernel
theorem dX0_appendRope_7 : decode cX0_appendRope 7 = .ok (.invokestatic 97, 3) := by decide +kernel
theorem dX0_appendRope_10 : decode cX0_appendRope 10 = .ok (.istore 4, 2) := by decide +kernel
theorem dX0_appendRope_12 : decode cX0_appendRope 12 = .ok (.aload_n 0, 1) := by decide +kernel
theorem dX0_appendRope_13 : decode cX0_appendRope 13 = .ok (.getfield 35, 3) := by decide +kernel
theorem dX0_appendRope_16 : decode cX0_appendRope 16 = .ok (.iload 4, 2) := by decide +kernel
theorem dX0_appendRope_18 : decode cX0_appendRope 18 = .ok (.iload_n 2, 1) := by decide +kernel
theorem dX0_appendRope_19 : decode cX0_appendRope 19 = .ok (.iastore, 1) := by decide +kernel
theorem dX0_appendRope_20 : decode cX0_appendRope 20 = .ok (.aload_n 0, 1) := by decide +kernel
theorem dX0_appendRope_21 : decode cX0_appendRope 21 = .ok (.getfield 38, 3) := by decide +kernel
theorem dX0_appendRope_24 : decode cX0_appendRope 24 = .ok (.iload 4, 2) := by decide +kernel
theorem dX0_appendRope_26 : decode cX0_appendRope 26 = .ok (.iload_n 3, 1) := by decide +kernel
theorem dX0_appendRope_27 : decode cX0_appendRope 27 = .ok (.iastore, 1) := by decide +kernel
theorem dX0_appendRope_28 : decode cX0_appendRope 28 = .ok (.aload_n 0, 1) := by decide +kernel
theorem dX0_appendRope_29 : decode cX0_appendRope 29 = .ok (.getfield 29, 3) := by decide +kernel
theorem dX0_appendRope_32 : decode cX0_appendRope 32 = .ok (.iload_n 1, 1) := by decide +kernel
theorem dX0_appendRope_33 : decode cX0_appendRope 33 = .ok (.dup2, 1) := by decide +kernel
theorem dX0_appendRope_34 : decode cX0_appendRope 34 = .ok (.iaload, 1) := by decide +kernel
theorem dX0_appendRope_35 : decode cX0_appendRope 35 = .ok (.iconst 1, 1) := by decide +kernel
theorem dX0_appendRope_36 : decode cX0_appendRope 36 = .ok (.iadd, 1) := by decide +kernel
theorem dX0_appendRope_37 : decode cX0_appendRope 37 = .ok (.iastore, 1) := by decide +kernel
theorem dX0_appendRope_38 : decode cX0_appendRope 38 = .ok (.return_, 1) := by decide +kernel
theorem dX0_strengthWith_0 : decode cX0_strengthWith 0 = .ok (.aload_n 0, 1) := by decide +kernel
theorem dX0_strengthWith_1 : decode cX0_strengthWith 1 = .ok (.getfield 38, 3) := by decide +kernel
theorem dX0_strengthWith_4 : decode cX0_strengthWith 4 = .ok (.iload_n 1, 1) := by decide +kernel
theorem dX0_strengthWith_5 : decode cX0_strengthWith 5 = .ok (.iload_n 2, 1) := by decide +kernel
theorem dX0_strengthWith_6 : decode cX0_strengthWith 6 = .ok (.invokestatic 97, 3) := by decide +kernel
theorem dX0_strengthWith_9 : decode cX0_strengthWith 9 = .ok (.iaload, 1) := by decide +kernel
theorem dX0_strengthWith_10 : decode cX0_strengthWith 10 = .ok (.istore 4, 2) := by decide +kernel
theorem dX0_strengthWith_12 : decode cX0_strengthWith 12 = .ok (.iload_n 2, 1) := by decide +kernel
theorem dX0_strengthWith_13 : decode cX0_strengthWith 13 = .ok (.ifCond .le 22, 3) := by decide +kernel
theorem dX0_strengthWith_16 : decode cX0_strengthWith 16 = .ok (.iload 4, 2) := by decide +kernel
theorem dX0_strengthWith_18 : decode cX0_strengthWith 18 = .ok (.aload_n 0, 1) := by decide +kernel
theorem dX0_strengthWith_19 : decode cX0_strengthWith 19 = .ok (.getfield 38, 3) := by decide +kernel
theorem dX0_strengthWith_22 : decode cX0_strengthWith 22 = .ok (.iload_n 1, 1) := by decide +kernel
theorem dX0_strengthWith_23 : decode cX0_strengthWith 23 = .ok (.iload_n 2, 1) := by decide +kernel
theorem dX0_strengthWith_24 : decode cX0_strengthWith 24 = .ok (.iconst 1, 1) := by decide +kernel
theorem dX0_strengthWith_25 : decode cX0_strengthWith 25 = .ok (.isub, 1) := by decide +kernel
theorem dX0_strengthWith_26 : decode cX0_strengthWith 26 = .ok (.invokestatic 97, 3) := by decide +kernel
theorem dX0_strengthWith_29 : decode cX0_strengthWith 29 = .ok (.iaload, 1) := by decide +kernel
theorem dX0_strengthWith_30 : decode cX0_strengthWith 30 = .ok (.invokestatic 220, 3) := by decide +kernel
theorem dX0_strengthWith_33 : decode cX0_strengthWith 33 = .ok (.istore 4, 2) := by decide +kernel
theorem dX0_strengthWith_35 : decode cX0_strengthWith 35 = .ok (.iload 4, 2) := by decide +kernel
theorem dX0_strengthWith_37 : decode cX0_strengthWith 37 = .ok (.aload_n 0, 1) := by decide +kernel
theorem dX0_strengthWith_38 : decode cX0_strengthWith 38 = .ok (.getfield 13, 3) := by decide +kernel
theorem dX0_strengthWith_41 : decode cX0_strengthWith 41 = .ok (.iload_n 3, 1) := by decide +kernel
theorem dX0_strengthWith_42 : decode cX0_strengthWith 42 = .ok (.iaload, 1) := by decide +kernel
theorem dX0_strengthWith_43 : decode cX0_strengthWith 43 = .ok (.imul, 1) := by decide +kernel
theorem dX0_strengthWith_44 : decode cX0_strengthWith 44 = .ok (.bipush 100, 2) := by decide +kernel
theorem dX0_strengthWith_46 : decode cX0_strengthWith 46 = .ok (.idiv, 1) := by decide +kernel
theorem dX0_strengthWith_47 : decode cX0_strengthWith 47 = .ok (.ireturn, 1) := by decide +kernel
theorem dX0_currentStrength_0 : decode cX0_currentStrength 0 = .ok (.aload_n 0, 1) := by decide +kernel
theorem dX0_currentStrength_1 : decode cX0_currentStrength 1 = .ok (.iload_n 1, 1) := by decide +kernel
theorem dX0_currentStrength_2 : decode cX0_currentStrength 2 = .ok (.iload_n 2, 1) := by decide +kernel
theorem dX0_currentStrength_3 : decode cX0_currentStrength 3 = .ok (.aload_n 0, 1) := by decide +kernel
theorem dX0_currentStrength_4 : decode cX0_currentStrength 4 = .ok (.getfield 35, 3) := by decide +kernel
theorem dX0_currentStrength_7 : decode cX0_currentStrength 7 = .ok (.iload_n 1, 1) := by decide +kernel
theorem dX0_currentStrength_8 : decode cX0_currentStrength 8 = .ok (.iload_n 2, 1) := by decide +kernel
theorem dX0_currentStrength_9 : decode cX0_currentStrength 9 = .ok (.invokestatic 97, 3) := by decide +kernel
theorem dX0_currentStrength_12 : decode cX0_currentStrength 12 = .ok (.iaload, 1) := by decide +kernel
theorem dX0_currentStrength_13 : decode cX0_currentStrength 13 = .ok (.invokevirtual 223, 3) := by decide +kernel
theorem dX0_currentStrength_16 : decode cX0_currentStrength 16 = .ok (.ireturn, 1) := by decide +kernel
theorem dX0_placeHolds_0 : decode cX0_placeHolds 0 = .ok (.aload_n 0, 1) := by decide +kernel
theorem dX0_placeHolds_1 : decode cX0_placeHolds 1 = .ok (.aload_n 0, 1) := by decide +kernel
theorem dX0_placeHolds_2 : decode cX0_placeHolds 2 = .ok (.getfield 35, 3) := by decide +kernel
theorem dX0_placeHolds_5 : decode cX0_placeHolds 5 = .ok (.iload_n 1, 1) := by decide +kernel
theorem dX0_placeHolds_6 : decode cX0_placeHolds 6 = .ok (.iload_n 2, 1) := by decide +kernel
theorem dX0_placeHolds_7 : decode cX0_placeHolds 7 = .ok (.invokestatic 97, 3) := by decide +kernel
theorem dX0_placeHolds_10 : decode cX0_placeHolds 10 = .ok (.iaload, 1) := by decide +kernel
theorem dX0_placeHolds_11 : decode cX0_placeHolds 11 = .ok (.iload_n 3, 1) := by decide +kernel
theorem dX0_placeHolds_12 : decode cX0_placeHolds 12 = .ok (.invokevirtual 104, 3) := by decide +kernel
theorem dX0_placeHolds_15 : decode cX0_placeHolds 15 = .ok (.istore 4, 2) := by decide +kernel
theorem dX0_placeHolds_17 : decode cX0_placeHolds 17 = .ok (.aload_n 0, 1) := by decide +kernel
theorem dX0_placeHolds_18 : decode cX0_placeHolds 18 = .ok (.iload 4, 2) := by decide +kernel
theorem dX0_placeHolds_20 : decode cX0_placeHolds 20 = .ok (.invokevirtual 125, 3) := by decide +kernel
theorem dX0_placeHolds_23 : decode cX0_placeHolds 23 = .ok (.ifCond .eq 19, 3) := by decide +kernel
theorem dX0_placeHolds_26 : decode cX0_placeHolds 26 = .ok (.aload_n 0, 1) := by decide +kernel
theorem dX0_placeHolds_27 : decode cX0_placeHolds 27 = .ok (.iload_n 1, 1) := by decide +kernel
theorem dX0_placeHolds_28 : decode cX0_placeHolds 28 = .ok (.iload_n 2, 1) := by decide +kernel
theorem dX0_placeHolds_29 : decode cX0_placeHolds 29 = .ok (.iload 4, 2) := by decide +kernel
theorem dX0_placeHolds_31 : decode cX0_placeHolds 31 = .ok (.invokevirtual 223, 3) := by decide +kernel
theorem dX0_placeHolds_34 : decode cX0_placeHolds 34 = .ok (.iload_n 3, 1) := by decide +kernel
theorem dX0_placeHolds_35 : decode cX0_placeHolds 35 = .ok (.if_icmp .lt 7, 3) := by decide +kernel
theorem dX0_placeHolds_38 : decode cX0_placeHolds 38 = .ok (.iconst 1, 1) := by decide +kernel
theorem dX0_placeHolds_39 : decode cX0_placeHolds 39 = .ok (.goto 4, 3) := by decide +kernel
theorem dX0_placeHolds_42 : decode cX0_placeHolds 42 = .ok (.iconst 0, 1) := by decide +kernel
theorem dX0_placeHolds_43 : decode cX0_placeHolds 43 = .ok (.ireturn, 1) := by decide +kernel
theorem dX0_firstPlaceToGiveWay_0 : decode cX0_firstPlaceToGiveWay 0 = .ok (.iconst 0, 1) := by decide +kernel
theorem dX0_firstPlaceToGiveWay_1 : decode cX0_firstPlaceToGiveWay 1 = .ok (.istore_n 3, 1) := by decide +kernel
theorem dX0_firstPlaceToGiveWay_2 : decode cX0_firstPlaceToGiveWay 2 = .ok (.iload_n 3, 1) := by decide +kernel
theorem dX0_firstPlaceToGiveWay_3 : decode cX0_firstPlaceToGiveWay 3 = .ok (.aload_n 0, 1) := by decide +kernel
theorem dX0_firstPlaceToGiveWay_4 : decode cX0_firstPlaceToGiveWay 4 = .ok (.getfield 29, 3) := by decide +kernel
theorem dX0_firstPlaceToGiveWay_7 : decode cX0_firstPlaceToGiveWay 7 = .ok (.iload_n 1, 1) := by decide +kernel
theorem dX0_firstPlaceToGiveWay_8 : decode cX0_firstPlaceToGiveWay 8 = .ok (.iaload, 1) := by decide +kernel
theorem dX0_firstPlaceToGiveWay_9 : decode cX0_firstPlaceToGiveWay 9 = .ok (.if_icmp .ge 21, 3) := by decide +kernel
theorem dX0_firstPlaceToGiveWay_12 : decode cX0_firstPlaceToGiveWay 12 = .ok (.aload_n 0, 1) := by decide +kernel
theorem dX0_firstPlaceToGiveWay_13 : decode cX0_firstPlaceToGiveWay 13 = .ok (.iload_n 1, 1) := by decide +kernel
theorem dX0_firstPlaceToGiveWay_14 : decode cX0_firstPlaceToGiveWay 14 = .ok (.iload_n 3, 1) := by decide +kernel
theorem dX0_firstPlaceToGiveWay_15 : decode cX0_firstPlaceToGiveWay 15 = .ok (.iload_n 2, 1) := by decide +kernel
theorem dX0_firstPlaceToGiveWay_16 : decode cX0_firstPlaceToGiveWay 16 = .ok (.invokevirtual 226, 3) := by decide +kernel
theorem dX0_firstPlaceToGiveWay_19 : decode cX0_firstPlaceToGiveWay 19 = .ok (.ifCond .ne 5, 3) := by decide +kernel
theorem dX0_firstPlaceToGiveWay_22 : decode cX0_firstPlaceToGiveWay 22 = .ok (.iload_n 3, 1) := by decide +kernel
theorem dX0_firstPlaceToGiveWay_23 : decode cX0_firstPlaceToGiveWay 23 = .ok (.ireturn, 1) := by decide +kernel
theorem dX0_firstPlaceToGiveWay_24 : decode cX0_firstPlaceToGiveWay 24 = .ok (.iinc 3 1, 3) := by decide +kernel
theorem dX0_firstPlaceToGiveWay_27 : decode cX0_firstPlaceToGiveWay 27 = .ok (.goto (-25), 3) := by decide +kernel
theorem dX0_firstPlaceToGiveWay_30 : decode cX0_firstPlaceToGiveWay 30 = .ok (.iconst (-1), 1) := by decide +kernel
theorem dX0_firstPlaceToGiveWay_31 : decode cX0_firstPlaceToGiveWay 31 = .ok (.ireturn, 1) := by decide +kernel
theorem dX0_loadHeldWith_0 : decode cX0_loadHeldWith 0 = .ok (.aload_n 0, 1) := by decide +kernel
theorem dX0_loadHeldWith_1 : decode cX0_loadHeldWith 1 = .ok (.iload_n 1, 1) := by decide +kernel
theorem dX0_loadHeldWith_2 : decode cX0_loadHeldWith 2 = .ok (.invokevirtual 140, 3) := by decide +kernel
theorem dX0_loadHeldWith_5 : decode cX0_loadHeldWith 5 = .ok (.ifCond .eq 5, 3) := by decide +kernel
theorem dX0_loadHeldWith_8 : decode cX0_loadHeldWith 8 = .ok (.iconst 0, 1) := by decide +kernel
theorem dX0_loadHeldWith_9 : decode cX0_loadHeldWith 9 = .ok (.ireturn, 1) := by decide +kernel
theorem dX0_loadHeldWith_10 : decode cX0_loadHeldWith 10 = .ok (.sipush 999, 3) := by decide +kernel
theorem dX0_loadHeldWith_13 : decode cX0_loadHeldWith 13 = .ok (.istore 4, 2) := by decide +kernel
theorem dX0_loadHeldWith_15 : decode cX0_loadHeldWith 15 = .ok (.iconst 0, 1) := by decide +kernel
theorem dX0_loadHeldWith_16 : decode cX0_loadHeldWith 16 = .ok (.istore 5, 2) := by decide +kernel
theorem dX0_loadHeldWith_18 : decode cX0_loadHeldWith 18 = .ok (.iload 5, 2) := by decide +kernel
theorem dX0_loadHeldWith_20 : decode cX0_loadHeldWith 20 = .ok (.aload_n 0, 1) := by decide +kernel
theorem dX0_loadHeldWith_21 : decode cX0_loadHeldWith 21 = .ok (.getfield 29, 3) := by decide +kernel
theorem dX0_loadHeldWith_24 : decode cX0_loadHeldWith 24 = .ok (.iload_n 1, 1) := by decide +kernel
theorem dX0_loadHeldWith_25 : decode cX0_loadHeldWith 25 = .ok (.iaload, 1) := by decide +kernel
theorem dX0_loadHeldWith_26 : decode cX0_loadHeldWith 26 = .ok (.if_icmp .ge 48, 3) := by decide +kernel
theorem dX0_loadHeldWith_29 : decode cX0_loadHeldWith 29 = .ok (.iload 5, 2) := by decide +kernel
theorem dX0_loadHeldWith_31 : decode cX0_loadHeldWith 31 = .ok (.iload_n 2, 1) := by decide +kernel
theorem dX0_loadHeldWith_32 : decode cX0_loadHeldWith 32 = .ok (.if_icmp .ne 7, 3) := by decide +kernel
theorem dX0_loadHeldWith_35 : decode cX0_loadHeldWith 35 = .ok (.iload_n 3, 1) := by decide +kernel
theorem dX0_loadHeldWith_36 : decode cX0_loadHeldWith 36 = .ok (.goto 14, 3) := by decide +kernel
theorem dX0_loadHeldWith_39 : decode cX0_loadHeldWith 39 = .ok (.aload_n 0, 1) := by decide +kernel
theorem dX0_loadHeldWith_40 : decode cX0_loadHeldWith 40 = .ok (.getfield 35, 3) := by decide +kernel
theorem dX0_loadHeldWith_43 : decode cX0_loadHeldWith 43 = .ok (.iload_n 1, 1) := by decide +kernel
theorem dX0_loadHeldWith_44 : decode cX0_loadHeldWith 44 = .ok (.iload 5, 2) := by decide +kernel
theorem dX0_loadHeldWith_46 : decode cX0_loadHeldWith 46 = .ok (.invokestatic 97, 3) := by decide +kernel
theorem dX0_loadHeldWith_49 : decode cX0_loadHeldWith 49 = .ok (.iaload, 1) := by decide +kernel
theorem dX0_loadHeldWith_50 : decode cX0_loadHeldWith 50 = .ok (.istore 6, 2) := by decide +kernel
theorem dX0_loadHeldWith_52 : decode cX0_loadHeldWith 52 = .ok (.iload 4, 2) := by decide +kernel
theorem dX0_loadHeldWith_54 : decode cX0_loadHeldWith 54 = .ok (.aload_n 0, 1) := by decide +kernel
theorem dX0_loadHeldWith_55 : decode cX0_loadHeldWith 55 = .ok (.iload_n 1, 1) := by decide +kernel
theorem dX0_loadHeldWith_56 : decode cX0_loadHeldWith 56 = .ok (.iload 5, 2) := by decide +kernel
theorem dX0_loadHeldWith_58 : decode cX0_loadHeldWith 58 = .ok (.iload 6, 2) := by decide +kernel
theorem dX0_loadHeldWith_60 : decode cX0_loadHeldWith 60 = .ok (.invokevirtual 230, 3) := by decide +kernel
theorem dX0_loadHeldWith_63 : decode cX0_loadHeldWith 63 = .ok (.invokestatic 220, 3) := by decide +kernel
theorem dX0_loadHeldWith_66 : decode cX0_loadHeldWith 66 = .ok (.istore 4, 2) := by decide +kernel
theorem dX0_loadHeldWith_68 : decode cX0_loadHeldWith 68 = .ok (.iinc 5 1, 3) := by decide +kernel
theorem dX0_loadHeldWith_71 : decode cX0_loadHeldWith 71 = .ok (.goto (-53), 3) := by decide +kernel
theorem dX0_loadHeldWith_74 : decode cX0_loadHeldWith 74 = .ok (.iload 4, 2) := by decide +kernel
theorem dX0_loadHeldWith_76 : decode cX0_loadHeldWith 76 = .ok (.ireturn, 1) := by decide +kernel
theorem dX0_loadHeldAt_0 : decode cX0_loadHeldAt 0 = .ok (.iconst 0, 1) := by decide +kernel
theorem dX0_loadHeldAt_1 : decode cX0_loadHeldAt 1 = .ok (.istore 4, 2) := by decide +kernel
theorem dX0_loadHeldAt_3 : decode cX0_loadHeldAt 3 = .ok (.iload_n 3, 1) := by decide +kernel
theorem dX0_loadHeldAt_4 : decode cX0_loadHeldAt 4 = .ok (.istore 5, 2) := by decide +kernel
theorem dX0_loadHeldAt_6 : decode cX0_loadHeldAt 6 = .ok (.iconst 0, 1) := by decide +kernel
theorem dX0_loadHeldAt_7 : decode cX0_loadHeldAt 7 = .ok (.istore 6, 2) := by decide +kernel
theorem dX0_loadHeldAt_9 : decode cX0_loadHeldAt 9 = .ok (.iload 6, 2) := by decide +kernel
theorem dX0_loadHeldAt_11 : decode cX0_loadHeldAt 11 = .ok (.bipush 16, 2) := by decide +kernel
theorem dX0_loadHeldAt_13 : decode cX0_loadHeldAt 13 = .ok (.if_icmp .ge 90, 3) := by decide +kernel
theorem dX0_loadHeldAt_16 : decode cX0_loadHeldAt 16 = .ok (.aload_n 0, 1) := by decide +kernel
theorem dX0_loadHeldAt_17 : decode cX0_loadHeldAt 17 = .ok (.iload 5, 2) := by decide +kernel
theorem dX0_loadHeldAt_19 : decode cX0_loadHeldAt 19 = .ok (.invokevirtual 125, 3) := by decide +kernel
theorem dX0_loadHeldAt_22 : decode cX0_loadHeldAt 22 = .ok (.ifCond .eq 81, 3) := by decide +kernel
theorem dX0_loadHeldAt_25 : decode cX0_loadHeldAt 25 = .ok (.aload_n 0, 1) := by decide +kernel
theorem dX0_loadHeldAt_26 : decode cX0_loadHeldAt 26 = .ok (.getfield 19, 3) := by decide +kernel
theorem dX0_loadHeldAt_29 : decode cX0_loadHeldAt 29 = .ok (.iload 5, 2) := by decide +kernel
theorem dX0_loadHeldAt_31 : decode cX0_loadHeldAt 31 = .ok (.iaload, 1) := by decide +kernel
theorem dX0_loadHeldAt_32 : decode cX0_loadHeldAt 32 = .ok (.ifCond .ne 9, 3) := by decide +kernel
theorem dX0_loadHeldAt_35 : decode cX0_loadHeldAt 35 = .ok (.sipush 999, 3) := by decide +kernel
theorem dX0_loadHeldAt_38 : decode cX0_loadHeldAt 38 = .ok (.goto 12, 3) := by decide +kernel
theorem dX0_loadHeldAt_41 : decode cX0_loadHeldAt 41 = .ok (.aload_n 0, 1) := by decide +kernel
theorem dX0_loadHeldAt_42 : decode cX0_loadHeldAt 42 = .ok (.getfield 19, 3) := by decide +kernel
theorem dX0_loadHeldAt_45 : decode cX0_loadHeldAt 45 = .ok (.iload 5, 2) := by decide +kernel
theorem dX0_loadHeldAt_47 : decode cX0_loadHeldAt 47 = .ok (.iaload, 1) := by decide +kernel
theorem dX0_loadHeldAt_48 : decode cX0_loadHeldAt 48 = .ok (.iconst 1, 1) := by decide +kernel
theorem dX0_loadHeldAt_49 : decode cX0_loadHeldAt 49 = .ok (.isub, 1) := by decide +kernel
theorem dX0_loadHeldAt_50 : decode cX0_loadHeldAt 50 = .ok (.istore 7, 2) := by decide +kernel
theorem dX0_loadHeldAt_52 : decode cX0_loadHeldAt 52 = .ok (.iload 7, 2) := by decide +kernel
theorem dX0_loadHeldAt_54 : decode cX0_loadHeldAt 54 = .ok (.iload 4, 2) := by decide +kernel
theorem dX0_loadHeldAt_56 : decode cX0_loadHeldAt 56 = .ok (.if_icmp .le 32, 3) := by decide +kernel
theorem dX0_loadHeldAt_59 : decode cX0_loadHeldAt 59 = .ok (.aload_n 0, 1) := by decide +kernel
theorem dX0_loadHeldAt_60 : decode cX0_loadHeldAt 60 = .ok (.iload_n 1, 1) := by decide +kernel
theorem dX0_loadHeldAt_61 : decode cX0_loadHeldAt 61 = .ok (.iload_n 2, 1) := by decide +kernel
theorem dX0_loadHeldAt_62 : decode cX0_loadHeldAt 62 = .ok (.iload 5, 2) := by decide +kernel
theorem dX0_loadHeldAt_64 : decode cX0_loadHeldAt 64 = .ok (.invokevirtual 223, 3) := by decide +kernel
theorem dX0_loadHeldAt_67 : decode cX0_loadHeldAt 67 = .ok (.istore 8, 2) := by decide +kernel
theorem dX0_loadHeldAt_69 : decode cX0_loadHeldAt 69 = .ok (.iload 8, 2) := by decide +kernel
theorem dX0_loadHeldAt_71 : decode cX0_loadHeldAt 71 = .ok (.iload 7, 2) := by decide +kernel
theorem dX0_loadHeldAt_73 : decode cX0_loadHeldAt 73 = .ok (.if_icmp .ge 11, 3) := by decide +kernel
theorem dX0_loadHeldAt_76 : decode cX0_loadHeldAt 76 = .ok (.iload 4, 2) := by decide +kernel
theorem dX0_loadHeldAt_78 : decode cX0_loadHeldAt 78 = .ok (.iload 8, 2) := by decide +kernel
theorem dX0_loadHeldAt_80 : decode cX0_loadHeldAt 80 = .ok (.invokestatic 129, 3) := by decide +kernel
theorem dX0_loadHeldAt_83 : decode cX0_loadHeldAt 83 = .ok (.ireturn, 1) := by decide +kernel
theorem dX0_loadHeldAt_84 : decode cX0_loadHeldAt 84 = .ok (.iload 7, 2) := by decide +kernel
theorem dX0_loadHeldAt_86 : decode cX0_loadHeldAt 86 = .ok (.istore 4, 2) := by decide +kernel
theorem dX0_loadHeldAt_88 : decode cX0_loadHeldAt 88 = .ok (.aload_n 0, 1) := by decide +kernel
theorem dX0_loadHeldAt_89 : decode cX0_loadHeldAt 89 = .ok (.getfield 22, 3) := by decide +kernel
theorem dX0_loadHeldAt_92 : decode cX0_loadHeldAt 92 = .ok (.iload 5, 2) := by decide +kernel
theorem dX0_loadHeldAt_94 : decode cX0_loadHeldAt 94 = .ok (.iaload, 1) := by decide +kernel
theorem dX0_loadHeldAt_95 : decode cX0_loadHeldAt 95 = .ok (.istore 5, 2) := by decide +kernel
theorem dX0_loadHeldAt_97 : decode cX0_loadHeldAt 97 = .ok (.iinc 6 1, 3) := by decide +kernel
theorem dX0_loadHeldAt_100 : decode cX0_loadHeldAt 100 = .ok (.goto (-91), 3) := by decide +kernel
theorem dX0_loadHeldAt_103 : decode cX0_loadHeldAt 103 = .ok (.iload 4, 2) := by decide +kernel
theorem dX0_loadHeldAt_105 : decode cX0_loadHeldAt 105 = .ok (.ireturn, 1) := by decide +kernel

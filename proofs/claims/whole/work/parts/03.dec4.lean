theorem nd_Mo_label_17 : decode nc_Mo_label 17 = .ok (.if_icmp .lt 7, 3) := by decide +kernel
theorem nd_Mo_label_20 : decode nc_Mo_label 20 = .ok (.iconst 1, 1) := by decide +kernel
theorem nd_Mo_label_21 : decode nc_Mo_label 21 = .ok (.goto 4, 3) := by decide +kernel
theorem nd_Mo_label_24 : decode nc_Mo_label 24 = .ok (.iconst 0, 1) := by decide +kernel
theorem nd_Mo_label_25 : decode nc_Mo_label 25 = .ok (.putfield 51, 3) := by decide +kernel
theorem nd_Mo_label_28 : decode nc_Mo_label 28 = .ok (.aload_n 0, 1) := by decide +kernel
theorem nd_Mo_label_29 : decode nc_Mo_label 29 = .ok (.getfield 51, 3) := by decide +kernel
theorem nd_Mo_label_32 : decode nc_Mo_label 32 = .ok (.ifCond .le 7, 3) := by decide +kernel
theorem nd_Mo_label_35 : decode nc_Mo_label 35 = .ok (.iconst 0, 1) := by decide +kernel
theorem nd_Mo_label_36 : decode nc_Mo_label 36 = .ok (.goto 13, 3) := by decide +kernel
theorem nd_Mo_label_39 : decode nc_Mo_label 39 = .ok (.aload_n 0, 1) := by decide +kernel
theorem nd_Mo_label_40 : decode nc_Mo_label 40 = .ok (.getfield 47, 3) := by decide +kernel
theorem nd_Mo_label_43 : decode nc_Mo_label 43 = .ok (.iconst 2, 1) := by decide +kernel
theorem nd_Mo_label_44 : decode nc_Mo_label 44 = .ok (.iload_n 1, 1) := by decide +kernel
theorem nd_Mo_label_45 : decode nc_Mo_label 45 = .ok (.imul, 1) := by decide +kernel
theorem nd_Mo_label_46 : decode nc_Mo_label 46 = .ok (.ishr, 1) := by decide +kernel
theorem nd_Mo_label_47 : decode nc_Mo_label 47 = .ok (.iconst 3, 1) := by decide +kernel
theorem nd_Mo_label_48 : decode nc_Mo_label 48 = .ok (.iand, 1) := by decide +kernel
theorem nd_Mo_label_49 : decode nc_Mo_label 49 = .ok (.ireturn, 1) := by decide +kernel
theorem nd_Mo_score_0 : decode nc_Mo_score 0 = .ok (.aload_n 0, 1) := by decide +kernel
theorem nd_Mo_score_1 : decode nc_Mo_score 1 = .ok (.iload_n 1, 1) := by decide +kernel
theorem nd_Mo_score_2 : decode nc_Mo_score 2 = .ok (.invokevirtual 102, 3) := by decide +kernel
theorem nd_Mo_score_5 : decode nc_Mo_score 5 = .ok (.istore 4, 2) := by decide +kernel
theorem nd_Mo_score_7 : decode nc_Mo_score 7 = .ok (.aload_n 0, 1) := by decide +kernel
theorem nd_Mo_score_8 : decode nc_Mo_score 8 = .ok (.iload 4, 2) := by decide +kernel
theorem nd_Mo_score_10 : decode nc_Mo_score 10 = .ok (.ifCond .ge 7, 3) := by decide +kernel
theorem nd_Mo_score_13 : decode nc_Mo_score 13 = .ok (.iconst 1, 1) := by decide +kernel
theorem nd_Mo_score_14 : decode nc_Mo_score 14 = .ok (.goto 4, 3) := by decide +kernel
theorem nd_Mo_score_17 : decode nc_Mo_score 17 = .ok (.iconst 0, 1) := by decide +kernel
theorem nd_Mo_score_18 : decode nc_Mo_score 18 = .ok (.putfield 51, 3) := by decide +kernel
theorem nd_Mo_score_21 : decode nc_Mo_score 21 = .ok (.aload_n 0, 1) := by decide +kernel
theorem nd_Mo_score_22 : decode nc_Mo_score 22 = .ok (.getfield 51, 3) := by decide +kernel
theorem nd_Mo_score_25 : decode nc_Mo_score 25 = .ok (.ifCond .le 5, 3) := by decide +kernel
theorem nd_Mo_score_28 : decode nc_Mo_score 28 = .ok (.lconst 0, 1) := by decide +kernel
theorem nd_Mo_score_29 : decode nc_Mo_score 29 = .ok (.lreturn, 1) := by decide +kernel
theorem nd_Mo_score_30 : decode nc_Mo_score 30 = .ok (.iconst 0, 1) := by decide +kernel
theorem nd_Mo_score_31 : decode nc_Mo_score 31 = .ok (.istore 5, 2) := by decide +kernel
theorem nd_Mo_score_33 : decode nc_Mo_score 33 = .ok (.iload 5, 2) := by decide +kernel
theorem nd_Mo_score_35 : decode nc_Mo_score 35 = .ok (.bipush 6, 2) := by decide +kernel
theorem nd_Mo_score_37 : decode nc_Mo_score 37 = .ok (.if_icmp .ge 24, 3) := by decide +kernel
theorem nd_Mo_score_40 : decode nc_Mo_score 40 = .ok (.aload_n 0, 1) := by decide +kernel
theorem nd_Mo_score_41 : decode nc_Mo_score 41 = .ok (.getfield 41, 3) := by decide +kernel
theorem nd_Mo_score_44 : decode nc_Mo_score 44 = .ok (.iload 5, 2) := by decide +kernel
theorem nd_Mo_score_46 : decode nc_Mo_score 46 = .ok (.iload_n 2, 1) := by decide +kernel
theorem nd_Mo_score_47 : decode nc_Mo_score 47 = .ok (.iconst 2, 1) := by decide +kernel
theorem nd_Mo_score_48 : decode nc_Mo_score 48 = .ok (.iload 5, 2) := by decide +kernel
theorem nd_Mo_score_50 : decode nc_Mo_score 50 = .ok (.imul, 1) := by decide +kernel
theorem nd_Mo_score_51 : decode nc_Mo_score 51 = .ok (.ishr, 1) := by decide +kernel
theorem nd_Mo_score_52 : decode nc_Mo_score 52 = .ok (.iconst 3, 1) := by decide +kernel
theorem nd_Mo_score_53 : decode nc_Mo_score 53 = .ok (.iand, 1) := by decide +kernel
theorem nd_Mo_score_54 : decode nc_Mo_score 54 = .ok (.iastore, 1) := by decide +kernel
theorem nd_Mo_score_55 : decode nc_Mo_score 55 = .ok (.iinc 5 1, 3) := by decide +kernel
theorem nd_Mo_score_58 : decode nc_Mo_score 58 = .ok (.goto (-25), 3) := by decide +kernel
theorem nd_Mo_score_61 : decode nc_Mo_score 61 = .ok (.iload_n 3, 1) := by decide +kernel
theorem nd_Mo_score_62 : decode nc_Mo_score 62 = .ok (.ifCond .eq 32, 3) := by decide +kernel
theorem nd_Mo_score_65 : decode nc_Mo_score 65 = .ok (.aload_n 0, 1) := by decide +kernel
theorem nd_Mo_score_66 : decode nc_Mo_score 66 = .ok (.iload 4, 2) := by decide +kernel
theorem nd_Mo_score_68 : decode nc_Mo_score 68 = .ok (.aload_n 0, 1) := by decide +kernel
theorem nd_Mo_score_69 : decode nc_Mo_score 69 = .ok (.getfield 35, 3) := by decide +kernel
theorem nd_Mo_score_72 : decode nc_Mo_score 72 = .ok (.invokevirtual 112, 3) := by decide +kernel
theorem nd_Mo_score_75 : decode nc_Mo_score 75 = .ok (.aload_n 0, 1) := by decide +kernel
theorem nd_Mo_score_76 : decode nc_Mo_score 76 = .ok (.iconst 0, 1) := by decide +kernel
theorem nd_Mo_score_77 : decode nc_Mo_score 77 = .ok (.aload_n 0, 1) := by decide +kernel
theorem nd_Mo_score_78 : decode nc_Mo_score 78 = .ok (.getfield 13, 3) := by decide +kernel
theorem nd_Mo_score_81 : decode nc_Mo_score 81 = .ok (.iload 4, 2) := by decide +kernel
theorem nd_Mo_score_83 : decode nc_Mo_score 83 = .ok (.iaload, 1) := by decide +kernel
theorem nd_Mo_score_84 : decode nc_Mo_score 84 = .ok (.aload_n 0, 1) := by decide +kernel
theorem nd_Mo_score_85 : decode nc_Mo_score 85 = .ok (.getfield 35, 3) := by decide +kernel
theorem nd_Mo_score_88 : decode nc_Mo_score 88 = .ok (.invokevirtual 116, 3) := by decide +kernel
theorem nd_Mo_score_91 : decode nc_Mo_score 91 = .ok (.goto 29, 3) := by decide +kernel
theorem nd_Mo_score_94 : decode nc_Mo_score 94 = .ok (.aload_n 0, 1) := by decide +kernel
theorem nd_Mo_score_95 : decode nc_Mo_score 95 = .ok (.iload 4, 2) := by decide +kernel
theorem nd_Mo_score_97 : decode nc_Mo_score 97 = .ok (.aload_n 0, 1) := by decide +kernel
theorem nd_Mo_score_98 : decode nc_Mo_score 98 = .ok (.getfield 31, 3) := by decide +kernel
theorem nd_Mo_score_101 : decode nc_Mo_score 101 = .ok (.invokevirtual 112, 3) := by decide +kernel
theorem nd_Mo_score_104 : decode nc_Mo_score 104 = .ok (.aload_n 0, 1) := by decide +kernel
theorem nd_Mo_score_105 : decode nc_Mo_score 105 = .ok (.iconst 0, 1) := by decide +kernel
theorem nd_Mo_score_106 : decode nc_Mo_score 106 = .ok (.aload_n 0, 1) := by decide +kernel
theorem nd_Mo_score_107 : decode nc_Mo_score 107 = .ok (.getfield 13, 3) := by decide +kernel
theorem nd_Mo_score_110 : decode nc_Mo_score 110 = .ok (.iload 4, 2) := by decide +kernel
theorem nd_Mo_score_112 : decode nc_Mo_score 112 = .ok (.iaload, 1) := by decide +kernel
theorem nd_Mo_score_113 : decode nc_Mo_score 113 = .ok (.aload_n 0, 1) := by decide +kernel
theorem nd_Mo_score_114 : decode nc_Mo_score 114 = .ok (.getfield 31, 3) := by decide +kernel
theorem nd_Mo_score_117 : decode nc_Mo_score 117 = .ok (.invokevirtual 116, 3) := by decide +kernel
theorem nd_Mo_score_120 : decode nc_Mo_score 120 = .ok (.aload_n 0, 1) := by decide +kernel
theorem nd_Mo_score_121 : decode nc_Mo_score 121 = .ok (.getfield 44, 3) := by decide +kernel
theorem nd_Mo_score_124 : decode nc_Mo_score 124 = .ok (.aload_n 0, 1) := by decide +kernel
theorem nd_Mo_score_125 : decode nc_Mo_score 125 = .ok (.getfield 13, 3) := by decide +kernel
theorem nd_Mo_score_128 : decode nc_Mo_score 128 = .ok (.iload 4, 2) := by decide +kernel
theorem nd_Mo_score_130 : decode nc_Mo_score 130 = .ok (.iaload, 1) := by decide +kernel
theorem nd_Mo_score_131 : decode nc_Mo_score 131 = .ok (.laload, 1) := by decide +kernel
theorem nd_Mo_score_132 : decode nc_Mo_score 132 = .ok (.lreturn, 1) := by decide +kernel
theorem nd_Mo_errors_0 : decode nc_Mo_errors 0 = .ok (.aload_n 0, 1) := by decide +kernel
theorem nd_Mo_errors_1 : decode nc_Mo_errors 1 = .ok (.iconst 0, 1) := by decide +kernel
theorem nd_Mo_errors_2 : decode nc_Mo_errors 2 = .ok (.putfield 51, 3) := by decide +kernel
theorem nd_Mo_errors_5 : decode nc_Mo_errors 5 = .ok (.iconst 0, 1) := by decide +kernel
theorem nd_Mo_errors_6 : decode nc_Mo_errors 6 = .ok (.istore_n 2, 1) := by decide +kernel
theorem nd_Mo_errors_7 : decode nc_Mo_errors 7 = .ok (.iconst 0, 1) := by decide +kernel
theorem nd_Mo_errors_8 : decode nc_Mo_errors 8 = .ok (.istore_n 3, 1) := by decide +kernel
theorem nd_Mo_errors_9 : decode nc_Mo_errors 9 = .ok (.iload_n 3, 1) := by decide +kernel
theorem nd_Mo_errors_10 : decode nc_Mo_errors 10 = .ok (.aload_n 0, 1) := by decide +kernel
theorem nd_Mo_errors_11 : decode nc_Mo_errors 11 = .ok (.getfield 89, 3) := by decide +kernel
theorem nd_Mo_errors_14 : decode nc_Mo_errors 14 = .ok (.if_icmp .ge 69, 3) := by decide +kernel
theorem nd_Mo_errors_17 : decode nc_Mo_errors 17 = .ok (.aload_n 0, 1) := by decide +kernel
theorem nd_Mo_errors_18 : decode nc_Mo_errors 18 = .ok (.iload_n 3, 1) := by decide +kernel
theorem nd_Mo_errors_19 : decode nc_Mo_errors 19 = .ok (.iload_n 1, 1) := by decide +kernel
theorem nd_Mo_errors_20 : decode nc_Mo_errors 20 = .ok (.invokevirtual 150, 3) := by decide +kernel
theorem nd_Mo_errors_23 : decode nc_Mo_errors 23 = .ok (.iconst 0, 1) := by decide +kernel
theorem nd_Mo_errors_24 : decode nc_Mo_errors 24 = .ok (.istore 4, 2) := by decide +kernel
theorem nd_Mo_errors_26 : decode nc_Mo_errors 26 = .ok (.iload 4, 2) := by decide +kernel
theorem nd_Mo_errors_28 : decode nc_Mo_errors 28 = .ok (.aload_n 0, 1) := by decide +kernel
theorem nd_Mo_errors_29 : decode nc_Mo_errors 29 = .ok (.getfield 13, 3) := by decide +kernel
theorem nd_Mo_errors_32 : decode nc_Mo_errors 32 = .ok (.iload_n 3, 1) := by decide +kernel
theorem nd_Mo_errors_33 : decode nc_Mo_errors 33 = .ok (.iaload, 1) := by decide +kernel
theorem nd_Mo_errors_34 : decode nc_Mo_errors 34 = .ok (.if_icmp .ge 43, 3) := by decide +kernel
theorem nd_Mo_errors_37 : decode nc_Mo_errors 37 = .ok (.aload_n 0, 1) := by decide +kernel
theorem nd_Mo_errors_38 : decode nc_Mo_errors 38 = .ok (.getfield 124, 3) := by decide +kernel
theorem nd_Mo_errors_41 : decode nc_Mo_errors 41 = .ok (.iconst 2, 1) := by decide +kernel
theorem nd_Mo_errors_42 : decode nc_Mo_errors 42 = .ok (.iload 4, 2) := by decide +kernel
theorem nd_Mo_errors_44 : decode nc_Mo_errors 44 = .ok (.imul, 1) := by decide +kernel
theorem nd_Mo_errors_45 : decode nc_Mo_errors 45 = .ok (.ishr, 1) := by decide +kernel
theorem nd_Mo_errors_46 : decode nc_Mo_errors 46 = .ok (.iconst 3, 1) := by decide +kernel
theorem nd_Mo_errors_47 : decode nc_Mo_errors 47 = .ok (.iand, 1) := by decide +kernel
theorem nd_Mo_errors_48 : decode nc_Mo_errors 48 = .ok (.aload_n 0, 1) := by decide +kernel
theorem nd_Mo_errors_49 : decode nc_Mo_errors 49 = .ok (.getfield 19, 3) := by decide +kernel
theorem nd_Mo_errors_52 : decode nc_Mo_errors 52 = .ok (.bipush 6, 2) := by decide +kernel
theorem nd_Mo_errors_54 : decode nc_Mo_errors 54 = .ok (.iload_n 3, 1) := by decide +kernel
theorem nd_Mo_errors_55 : decode nc_Mo_errors 55 = .ok (.imul, 1) := by decide +kernel
theorem nd_Mo_errors_56 : decode nc_Mo_errors 56 = .ok (.iload 4, 2) := by decide +kernel
theorem nd_Mo_errors_58 : decode nc_Mo_errors 58 = .ok (.iadd, 1) := by decide +kernel
theorem nd_Mo_errors_59 : decode nc_Mo_errors 59 = .ok (.iaload, 1) := by decide +kernel
theorem nd_Mo_errors_60 : decode nc_Mo_errors 60 = .ok (.if_icmp .eq 9, 3) := by decide +kernel
theorem nd_Mo_errors_63 : decode nc_Mo_errors 63 = .ok (.iload_n 2, 1) := by decide +kernel
theorem nd_Mo_errors_64 : decode nc_Mo_errors 64 = .ok (.iconst 1, 1) := by decide +kernel
theorem nd_Mo_errors_65 : decode nc_Mo_errors 65 = .ok (.iadd, 1) := by decide +kernel
theorem nd_Mo_errors_66 : decode nc_Mo_errors 66 = .ok (.goto 4, 3) := by decide +kernel
theorem nd_Mo_errors_69 : decode nc_Mo_errors 69 = .ok (.iload_n 2, 1) := by decide +kernel
theorem nd_Mo_errors_70 : decode nc_Mo_errors 70 = .ok (.istore_n 2, 1) := by decide +kernel
theorem nd_Mo_errors_71 : decode nc_Mo_errors 71 = .ok (.iinc 4 1, 3) := by decide +kernel
theorem nd_Mo_errors_74 : decode nc_Mo_errors 74 = .ok (.goto (-48), 3) := by decide +kernel
theorem nd_Mo_errors_77 : decode nc_Mo_errors 77 = .ok (.iinc 3 1, 3) := by decide +kernel
theorem nd_Mo_errors_80 : decode nc_Mo_errors 80 = .ok (.goto (-71), 3) := by decide +kernel
theorem nd_Mo_errors_83 : decode nc_Mo_errors 83 = .ok (.iload_n 2, 1) := by decide +kernel
theorem nd_Mo_errors_84 : decode nc_Mo_errors 84 = .ok (.ireturn, 1) := by decide +kernel
theorem nd_Co_init_0 : decode nc_Co_init 0 = .ok (.aload_n 0, 1) := by decide +kernel
theorem nd_Co_init_1 : decode nc_Co_init 1 = .ok (.invokespecial 3, 3) := by decide +kernel
theorem nd_Co_init_4 : decode nc_Co_init 4 = .ok (.aload_n 0, 1) := by decide +kernel
theorem nd_Co_init_5 : decode nc_Co_init 5 = .ok (.bipush 8, 2) := by decide +kernel
theorem nd_Co_init_7 : decode nc_Co_init 7 = .ok (.anewarray 9, 3) := by decide +kernel
theorem nd_Co_init_10 : decode nc_Co_init 10 = .ok (.putfield 11, 3) := by decide +kernel
theorem nd_Co_init_13 : decode nc_Co_init 13 = .ok (.iconst 0, 1) := by decide +kernel
theorem nd_Co_init_14 : decode nc_Co_init 14 = .ok (.istore_n 1, 1) := by decide +kernel
theorem nd_Co_init_15 : decode nc_Co_init 15 = .ok (.iload_n 1, 1) := by decide +kernel
theorem nd_Co_init_16 : decode nc_Co_init 16 = .ok (.bipush 8, 2) := by decide +kernel
theorem nd_Co_init_18 : decode nc_Co_init 18 = .ok (.if_icmp .ge 22, 3) := by decide +kernel
theorem nd_Co_init_21 : decode nc_Co_init 21 = .ok (.aload_n 0, 1) := by decide +kernel
theorem nd_Co_init_22 : decode nc_Co_init 22 = .ok (.getfield 11, 3) := by decide +kernel
theorem nd_Co_init_25 : decode nc_Co_init 25 = .ok (.iload_n 1, 1) := by decide +kernel
theorem nd_Co_init_26 : decode nc_Co_init 26 = .ok (.new 9, 3) := by decide +kernel
theorem nd_Co_init_29 : decode nc_Co_init 29 = .ok (.dup, 1) := by decide +kernel
theorem nd_Co_init_30 : decode nc_Co_init 30 = .ok (.invokespecial 17, 3) := by decide +kernel
theorem nd_Co_init_33 : decode nc_Co_init 33 = .ok (.aastore, 1) := by decide +kernel
theorem nd_Co_init_34 : decode nc_Co_init 34 = .ok (.iinc 1 1, 3) := by decide +kernel
theorem nd_Co_init_37 : decode nc_Co_init 37 = .ok (.goto (-22), 3) := by decide +kernel
theorem nd_Co_init_40 : decode nc_Co_init 40 = .ok (.return_, 1) := by decide +kernel
theorem nd_De_init_0 : decode nc_De_init 0 = .ok (.aload_n 0, 1) := by decide +kernel
theorem nd_De_init_1 : decode nc_De_init 1 = .ok (.invokespecial 3, 3) := by decide +kernel
theorem nd_De_init_4 : decode nc_De_init 4 = .ok (.aload_n 0, 1) := by decide +kernel
theorem nd_De_init_5 : decode nc_De_init 5 = .ok (.bipush 24, 2) := by decide +kernel
theorem nd_De_init_7 : decode nc_De_init 7 = .ok (.anewarray 9, 3) := by decide +kernel
theorem nd_De_init_10 : decode nc_De_init 10 = .ok (.putfield 11, 3) := by decide +kernel
theorem nd_De_init_13 : decode nc_De_init 13 = .ok (.aload_n 0, 1) := by decide +kernel
theorem nd_De_init_14 : decode nc_De_init 14 = .ok (.new 9, 3) := by decide +kernel
theorem nd_De_init_17 : decode nc_De_init 17 = .ok (.dup, 1) := by decide +kernel
theorem nd_De_init_18 : decode nc_De_init 18 = .ok (.invokespecial 17, 3) := by decide +kernel
theorem nd_De_init_21 : decode nc_De_init 21 = .ok (.putfield 18, 3) := by decide +kernel
theorem nd_De_init_24 : decode nc_De_init 24 = .ok (.iconst 0, 1) := by decide +kernel
theorem nd_De_init_25 : decode nc_De_init 25 = .ok (.istore_n 1, 1) := by decide +kernel
theorem nd_De_init_26 : decode nc_De_init 26 = .ok (.iload_n 1, 1) := by decide +kernel
theorem nd_De_init_27 : decode nc_De_init 27 = .ok (.aload_n 0, 1) := by decide +kernel
theorem nd_De_init_28 : decode nc_De_init 28 = .ok (.getfield 11, 3) := by decide +kernel
theorem nd_De_init_31 : decode nc_De_init 31 = .ok (.arraylength, 1) := by decide +kernel
theorem nd_De_init_32 : decode nc_De_init 32 = .ok (.if_icmp .ge 22, 3) := by decide +kernel
theorem nd_De_init_35 : decode nc_De_init 35 = .ok (.aload_n 0, 1) := by decide +kernel
theorem nd_De_init_36 : decode nc_De_init 36 = .ok (.getfield 11, 3) := by decide +kernel
theorem nd_De_init_39 : decode nc_De_init 39 = .ok (.iload_n 1, 1) := by decide +kernel
theorem nd_De_init_40 : decode nc_De_init 40 = .ok (.new 9, 3) := by decide +kernel
theorem nd_De_init_43 : decode nc_De_init 43 = .ok (.dup, 1) := by decide +kernel
theorem nd_De_init_44 : decode nc_De_init 44 = .ok (.invokespecial 17, 3) := by decide +kernel
theorem nd_De_init_47 : decode nc_De_init 47 = .ok (.aastore, 1) := by decide +kernel
theorem nd_De_init_48 : decode nc_De_init 48 = .ok (.iinc 1 1, 3) := by decide +kernel
theorem nd_De_init_51 : decode nc_De_init 51 = .ok (.goto (-25), 3) := by decide +kernel
theorem nd_De_init_54 : decode nc_De_init 54 = .ok (.return_, 1) := by decide +kernel
theorem nd_De_rank_0 : decode nc_De_rank 0 = .ok (.aload_n 1, 1) := by decide +kernel
theorem nd_De_rank_1 : decode nc_De_rank 1 = .ok (.getfield 22, 3) := by decide +kernel
theorem nd_De_rank_4 : decode nc_De_rank 4 = .ok (.iconst 1, 1) := by decide +kernel
theorem nd_De_rank_5 : decode nc_De_rank 5 = .ok (.isub, 1) := by decide +kernel
theorem nd_De_rank_6 : decode nc_De_rank 6 = .ok (.istore_n 3, 1) := by decide +kernel
theorem nd_De_rank_7 : decode nc_De_rank 7 = .ok (.iload_n 3, 1) := by decide +kernel
theorem nd_De_rank_8 : decode nc_De_rank 8 = .ok (.ifCond .lt 33, 3) := by decide +kernel
theorem nd_De_rank_11 : decode nc_De_rank 11 = .ok (.iconst 0, 1) := by decide +kernel
theorem nd_De_rank_12 : decode nc_De_rank 12 = .ok (.istore 4, 2) := by decide +kernel
theorem nd_De_rank_14 : decode nc_De_rank 14 = .ok (.iload 4, 2) := by decide +kernel
theorem nd_De_rank_16 : decode nc_De_rank 16 = .ok (.iconst 4, 1) := by decide +kernel
theorem nd_De_rank_17 : decode nc_De_rank 17 = .ok (.if_icmp .ge 18, 3) := by decide +kernel
theorem nd_De_rank_20 : decode nc_De_rank 20 = .ok (.aload_n 0, 1) := by decide +kernel
theorem nd_De_rank_21 : decode nc_De_rank 21 = .ok (.aload_n 1, 1) := by decide +kernel
theorem nd_De_rank_22 : decode nc_De_rank 22 = .ok (.aload_n 2, 1) := by decide +kernel
theorem nd_De_rank_23 : decode nc_De_rank 23 = .ok (.iload_n 3, 1) := by decide +kernel
theorem nd_De_rank_24 : decode nc_De_rank 24 = .ok (.iload 4, 2) := by decide +kernel
theorem nd_De_rank_26 : decode nc_De_rank 26 = .ok (.invokevirtual 28, 3) := by decide +kernel
theorem nd_De_rank_29 : decode nc_De_rank 29 = .ok (.iinc 4 1, 3) := by decide +kernel
theorem nd_De_rank_32 : decode nc_De_rank 32 = .ok (.goto (-18), 3) := by decide +kernel
theorem nd_De_rank_35 : decode nc_De_rank 35 = .ok (.iinc 3 (-1), 3) := by decide +kernel
theorem nd_De_rank_38 : decode nc_De_rank 38 = .ok (.goto (-31), 3) := by decide +kernel
theorem nd_De_rank_41 : decode nc_De_rank 41 = .ok (.aload_n 0, 1) := by decide +kernel
theorem nd_De_rank_42 : decode nc_De_rank 42 = .ok (.getfield 18, 3) := by decide +kernel
theorem nd_De_rank_45 : decode nc_De_rank 45 = .ok (.invokevirtual 32, 3) := by decide +kernel
theorem nd_De_rank_48 : decode nc_De_rank 48 = .ok (.iconst 0, 1) := by decide +kernel
theorem nd_De_rank_49 : decode nc_De_rank 49 = .ok (.istore_n 3, 1) := by decide +kernel
theorem nd_De_rank_50 : decode nc_De_rank 50 = .ok (.iload_n 3, 1) := by decide +kernel
theorem nd_De_rank_51 : decode nc_De_rank 51 = .ok (.iconst 4, 1) := by decide +kernel
theorem nd_De_rank_52 : decode nc_De_rank 52 = .ok (.if_icmp .ge 30, 3) := by decide +kernel
theorem nd_De_rank_55 : decode nc_De_rank 55 = .ok (.aload_n 0, 1) := by decide +kernel
theorem nd_De_rank_56 : decode nc_De_rank 56 = .ok (.getfield 18, 3) := by decide +kernel
theorem nd_De_rank_59 : decode nc_De_rank 59 = .ok (.aload_n 0, 1) := by decide +kernel
theorem nd_De_rank_60 : decode nc_De_rank 60 = .ok (.iconst 0, 1) := by decide +kernel
theorem nd_De_rank_61 : decode nc_De_rank 61 = .ok (.iload_n 3, 1) := by decide +kernel
theorem nd_De_rank_62 : decode nc_De_rank 62 = .ok (.invokevirtual 35, 3) := by decide +kernel
theorem nd_De_rank_65 : decode nc_De_rank 65 = .ok (.aload_n 2, 1) := by decide +kernel
theorem nd_De_rank_66 : decode nc_De_rank 66 = .ok (.bipush 32, 2) := by decide +kernel
theorem nd_De_rank_68 : decode nc_De_rank 68 = .ok (.iload_n 3, 1) := by decide +kernel
theorem nd_De_rank_69 : decode nc_De_rank 69 = .ok (.invokevirtual 39, 3) := by decide +kernel
theorem nd_De_rank_72 : decode nc_De_rank 72 = .ok (.iconst 0, 1) := by decide +kernel
theorem nd_De_rank_73 : decode nc_De_rank 73 = .ok (.invokevirtual 45, 3) := by decide +kernel
theorem nd_De_rank_76 : decode nc_De_rank 76 = .ok (.iinc 3 1, 3) := by decide +kernel
theorem nd_De_rank_79 : decode nc_De_rank 79 = .ok (.goto (-29), 3) := by decide +kernel
theorem nd_De_rank_82 : decode nc_De_rank 82 = .ok (.aload_n 0, 1) := by decide +kernel
theorem nd_De_rank_83 : decode nc_De_rank 83 = .ok (.getfield 18, 3) := by decide +kernel
theorem nd_De_rank_86 : decode nc_De_rank 86 = .ok (.areturn, 1) := by decide +kernel
theorem nd_De_rankTails_0 : decode nc_De_rankTails 0 = .ok (.aload_n 0, 1) := by decide +kernel
theorem nd_De_rankTails_1 : decode nc_De_rankTails 1 = .ok (.iload_n 3, 1) := by decide +kernel
theorem nd_De_rankTails_2 : decode nc_De_rankTails 2 = .ok (.iload 4, 2) := by decide +kernel
theorem nd_De_rankTails_4 : decode nc_De_rankTails 4 = .ok (.invokevirtual 35, 3) := by decide +kernel
theorem nd_De_rankTails_7 : decode nc_De_rankTails 7 = .ok (.astore 5, 2) := by decide +kernel
theorem nd_De_rankTails_9 : decode nc_De_rankTails 9 = .ok (.aload_n 2, 1) := by decide +kernel
theorem nd_De_rankTails_10 : decode nc_De_rankTails 10 = .ok (.aload_n 1, 1) := by decide +kernel
theorem nd_De_rankTails_11 : decode nc_De_rankTails 11 = .ok (.iload_n 3, 1) := by decide +kernel
theorem nd_De_rankTails_12 : decode nc_De_rankTails 12 = .ok (.iload 4, 2) := by decide +kernel
theorem nd_De_rankTails_14 : decode nc_De_rankTails 14 = .ok (.invokevirtual 49, 3) := by decide +kernel
theorem nd_De_rankTails_17 : decode nc_De_rankTails 17 = .ok (.lstore 6, 2) := by decide +kernel
theorem nd_De_rankTails_19 : decode nc_De_rankTails 19 = .ok (.iload 4, 2) := by decide +kernel
theorem nd_De_rankTails_21 : decode nc_De_rankTails 21 = .ok (.iconst 2, 1) := by decide +kernel
theorem nd_De_rankTails_22 : decode nc_De_rankTails 22 = .ok (.iload_n 3, 1) := by decide +kernel
theorem nd_De_rankTails_23 : decode nc_De_rankTails 23 = .ok (.imul, 1) := by decide +kernel
theorem nd_De_rankTails_24 : decode nc_De_rankTails 24 = .ok (.ishl, 1) := by decide +kernel
theorem nd_De_rankTails_25 : decode nc_De_rankTails 25 = .ok (.istore 8, 2) := by decide +kernel
theorem nd_De_rankTails_27 : decode nc_De_rankTails 27 = .ok (.aload 5, 2) := by decide +kernel
theorem nd_De_rankTails_29 : decode nc_De_rankTails 29 = .ok (.invokevirtual 32, 3) := by decide +kernel
theorem nd_De_rankTails_32 : decode nc_De_rankTails 32 = .ok (.iload_n 3, 1) := by decide +kernel
theorem nd_De_rankTails_33 : decode nc_De_rankTails 33 = .ok (.aload_n 1, 1) := by decide +kernel
theorem nd_De_rankTails_34 : decode nc_De_rankTails 34 = .ok (.getfield 22, 3) := by decide +kernel
theorem nd_De_rankTails_37 : decode nc_De_rankTails 37 = .ok (.iconst 1, 1) := by decide +kernel
theorem nd_De_rankTails_38 : decode nc_De_rankTails 38 = .ok (.isub, 1) := by decide +kernel
theorem nd_De_rankTails_39 : decode nc_De_rankTails 39 = .ok (.if_icmp .ne 13, 3) := by decide +kernel
theorem nd_De_rankTails_42 : decode nc_De_rankTails 42 = .ok (.aload 5, 2) := by decide +kernel
theorem nd_De_rankTails_44 : decode nc_De_rankTails 44 = .ok (.lload 6, 2) := by decide +kernel
theorem nd_De_rankTails_46 : decode nc_De_rankTails 46 = .ok (.iload 8, 2) := by decide +kernel
theorem nd_De_rankTails_48 : decode nc_De_rankTails 48 = .ok (.invokevirtual 53, 3) := by decide +kernel
theorem nd_De_rankTails_51 : decode nc_De_rankTails 51 = .ok (.return_, 1) := by decide +kernel
theorem nd_De_rankTails_52 : decode nc_De_rankTails 52 = .ok (.iconst 0, 1) := by decide +kernel
theorem nd_De_rankTails_53 : decode nc_De_rankTails 53 = .ok (.istore 9, 2) := by decide +kernel
theorem nd_De_rankTails_55 : decode nc_De_rankTails 55 = .ok (.iload 9, 2) := by decide +kernel
theorem nd_De_rankTails_57 : decode nc_De_rankTails 57 = .ok (.iconst 4, 1) := by decide +kernel
theorem nd_De_rankTails_58 : decode nc_De_rankTails 58 = .ok (.if_icmp .ge 39, 3) := by decide +kernel
theorem nd_De_rankTails_61 : decode nc_De_rankTails 61 = .ok (.aload 5, 2) := by decide +kernel
theorem nd_De_rankTails_63 : decode nc_De_rankTails 63 = .ok (.aload_n 0, 1) := by decide +kernel
theorem nd_De_rankTails_64 : decode nc_De_rankTails 64 = .ok (.iload_n 3, 1) := by decide +kernel
theorem nd_De_rankTails_65 : decode nc_De_rankTails 65 = .ok (.iconst 1, 1) := by decide +kernel
theorem nd_De_rankTails_66 : decode nc_De_rankTails 66 = .ok (.iadd, 1) := by decide +kernel
theorem nd_De_rankTails_67 : decode nc_De_rankTails 67 = .ok (.iload 9, 2) := by decide +kernel
theorem nd_De_rankTails_69 : decode nc_De_rankTails 69 = .ok (.invokevirtual 35, 3) := by decide +kernel
theorem nd_De_rankTails_72 : decode nc_De_rankTails 72 = .ok (.lload 6, 2) := by decide +kernel
theorem nd_De_rankTails_74 : decode nc_De_rankTails 74 = .ok (.aload_n 2, 1) := by decide +kernel
theorem nd_De_rankTails_75 : decode nc_De_rankTails 75 = .ok (.bipush 33, 2) := by decide +kernel
theorem nd_De_rankTails_77 : decode nc_De_rankTails 77 = .ok (.iload 4, 2) := by decide +kernel
theorem nd_De_rankTails_79 : decode nc_De_rankTails 79 = .ok (.iadd, 1) := by decide +kernel
theorem nd_De_rankTails_80 : decode nc_De_rankTails 80 = .ok (.iload 9, 2) := by decide +kernel
theorem nd_De_rankTails_82 : decode nc_De_rankTails 82 = .ok (.invokevirtual 39, 3) := by decide +kernel
theorem nd_De_rankTails_85 : decode nc_De_rankTails 85 = .ok (.ladd, 1) := by decide +kernel
theorem nd_De_rankTails_86 : decode nc_De_rankTails 86 = .ok (.iload 8, 2) := by decide +kernel
theorem nd_De_rankTails_88 : decode nc_De_rankTails 88 = .ok (.invokevirtual 45, 3) := by decide +kernel
theorem nd_De_rankTails_91 : decode nc_De_rankTails 91 = .ok (.iinc 9 1, 3) := by decide +kernel
theorem nd_De_rankTails_94 : decode nc_De_rankTails 94 = .ok (.goto (-39), 3) := by decide +kernel
theorem nd_De_rankTails_97 : decode nc_De_rankTails 97 = .ok (.return_, 1) := by decide +kernel
theorem nd_De_tailsFrom_0 : decode nc_De_tailsFrom 0 = .ok (.aload_n 0, 1) := by decide +kernel
theorem nd_De_tailsFrom_1 : decode nc_De_tailsFrom 1 = .ok (.getfield 11, 3) := by decide +kernel
theorem nd_De_tailsFrom_4 : decode nc_De_tailsFrom 4 = .ok (.iload_n 1, 1) := by decide +kernel
theorem nd_De_tailsFrom_5 : decode nc_De_tailsFrom 5 = .ok (.iconst 4, 1) := by decide +kernel
theorem nd_De_tailsFrom_6 : decode nc_De_tailsFrom 6 = .ok (.imul, 1) := by decide +kernel
theorem nd_De_tailsFrom_7 : decode nc_De_tailsFrom 7 = .ok (.iload_n 2, 1) := by decide +kernel
theorem nd_De_tailsFrom_8 : decode nc_De_tailsFrom 8 = .ok (.iadd, 1) := by decide +kernel
theorem nd_De_tailsFrom_9 : decode nc_De_tailsFrom 9 = .ok (.aaload, 1) := by decide +kernel
theorem nd_De_tailsFrom_10 : decode nc_De_tailsFrom 10 = .ok (.areturn, 1) := by decide +kernel
theorem nd_Ra_init_0 : decode nc_Ra_init 0 = .ok (.aload_n 0, 1) := by decide +kernel
theorem nd_Ra_init_1 : decode nc_Ra_init 1 = .ok (.invokespecial 3, 3) := by decide +kernel
theorem nd_Ra_init_4 : decode nc_Ra_init 4 = .ok (.aload_n 0, 1) := by decide +kernel
theorem nd_Ra_init_5 : decode nc_Ra_init 5 = .ok (.iconst 2, 1) := by decide +kernel
theorem nd_Ra_init_6 : decode nc_Ra_init 6 = .ok (.newarray .long, 2) := by decide +kernel
theorem nd_Ra_init_8 : decode nc_Ra_init 8 = .ok (.putfield 9, 3) := by decide +kernel
theorem nd_Ra_init_11 : decode nc_Ra_init 11 = .ok (.aload_n 0, 1) := by decide +kernel
theorem nd_Ra_init_12 : decode nc_Ra_init 12 = .ok (.iconst 2, 1) := by decide +kernel
theorem nd_Ra_init_13 : decode nc_Ra_init 13 = .ok (.newarray .int, 2) := by decide +kernel
theorem nd_Ra_init_15 : decode nc_Ra_init 15 = .ok (.putfield 15, 3) := by decide +kernel
theorem nd_Ra_init_18 : decode nc_Ra_init 18 = .ok (.return_, 1) := by decide +kernel
theorem nd_Ra_clear_0 : decode nc_Ra_clear 0 = .ok (.aload_n 0, 1) := by decide +kernel
theorem nd_Ra_clear_1 : decode nc_Ra_clear 1 = .ok (.iconst 0, 1) := by decide +kernel
theorem nd_Ra_clear_2 : decode nc_Ra_clear 2 = .ok (.putfield 19, 3) := by decide +kernel
theorem nd_Ra_clear_5 : decode nc_Ra_clear 5 = .ok (.return_, 1) := by decide +kernel
theorem nd_Ra_offer_0 : decode nc_Ra_offer 0 = .ok (.aload_n 0, 1) := by decide +kernel
theorem nd_Ra_offer_1 : decode nc_Ra_offer 1 = .ok (.getfield 19, 3) := by decide +kernel
theorem nd_Ra_offer_4 : decode nc_Ra_offer 4 = .ok (.ifCond .eq 14, 3) := by decide +kernel
theorem nd_Ra_offer_7 : decode nc_Ra_offer 7 = .ok (.lload_n 1, 1) := by decide +kernel
theorem nd_Ra_offer_8 : decode nc_Ra_offer 8 = .ok (.aload_n 0, 1) := by decide +kernel
theorem nd_Ra_offer_9 : decode nc_Ra_offer 9 = .ok (.getfield 9, 3) := by decide +kernel
theorem nd_Ra_offer_12 : decode nc_Ra_offer 12 = .ok (.iconst 0, 1) := by decide +kernel
theorem nd_Ra_offer_13 : decode nc_Ra_offer 13 = .ok (.laload, 1) := by decide +kernel
theorem nd_Ra_offer_14 : decode nc_Ra_offer 14 = .ok (.lcmp, 1) := by decide +kernel
theorem nd_Ra_offer_15 : decode nc_Ra_offer 15 = .ok (.ifCond .le 44, 3) := by decide +kernel
theorem nd_Ra_offer_18 : decode nc_Ra_offer 18 = .ok (.aload_n 0, 1) := by decide +kernel
theorem nd_Ra_offer_19 : decode nc_Ra_offer 19 = .ok (.getfield 9, 3) := by decide +kernel
theorem nd_Ra_offer_22 : decode nc_Ra_offer 22 = .ok (.iconst 1, 1) := by decide +kernel
theorem nd_Ra_offer_23 : decode nc_Ra_offer 23 = .ok (.aload_n 0, 1) := by decide +kernel
theorem nd_Ra_offer_24 : decode nc_Ra_offer 24 = .ok (.getfield 9, 3) := by decide +kernel
theorem nd_Ra_offer_27 : decode nc_Ra_offer 27 = .ok (.iconst 0, 1) := by decide +kernel
theorem nd_Ra_offer_28 : decode nc_Ra_offer 28 = .ok (.laload, 1) := by decide +kernel
theorem nd_Ra_offer_29 : decode nc_Ra_offer 29 = .ok (.lastore, 1) := by decide +kernel
theorem nd_Ra_offer_30 : decode nc_Ra_offer 30 = .ok (.aload_n 0, 1) := by decide +kernel
theorem nd_Ra_offer_31 : decode nc_Ra_offer 31 = .ok (.getfield 15, 3) := by decide +kernel
theorem nd_Ra_offer_34 : decode nc_Ra_offer 34 = .ok (.iconst 1, 1) := by decide +kernel
theorem nd_Ra_offer_35 : decode nc_Ra_offer 35 = .ok (.aload_n 0, 1) := by decide +kernel
theorem nd_Ra_offer_36 : decode nc_Ra_offer 36 = .ok (.getfield 15, 3) := by decide +kernel
theorem nd_Ra_offer_39 : decode nc_Ra_offer 39 = .ok (.iconst 0, 1) := by decide +kernel
theorem nd_Ra_offer_40 : decode nc_Ra_offer 40 = .ok (.iaload, 1) := by decide +kernel
theorem nd_Ra_offer_41 : decode nc_Ra_offer 41 = .ok (.iastore, 1) := by decide +kernel
theorem nd_Ra_offer_42 : decode nc_Ra_offer 42 = .ok (.aload_n 0, 1) := by decide +kernel
theorem nd_Ra_offer_43 : decode nc_Ra_offer 43 = .ok (.getfield 9, 3) := by decide +kernel
theorem nd_Ra_offer_46 : decode nc_Ra_offer 46 = .ok (.iconst 0, 1) := by decide +kernel
theorem nd_Ra_offer_47 : decode nc_Ra_offer 47 = .ok (.lload_n 1, 1) := by decide +kernel
theorem nd_Ra_offer_48 : decode nc_Ra_offer 48 = .ok (.lastore, 1) := by decide +kernel
theorem nd_Ra_offer_49 : decode nc_Ra_offer 49 = .ok (.aload_n 0, 1) := by decide +kernel
theorem nd_Ra_offer_50 : decode nc_Ra_offer 50 = .ok (.getfield 15, 3) := by decide +kernel
theorem nd_Ra_offer_53 : decode nc_Ra_offer 53 = .ok (.iconst 0, 1) := by decide +kernel
theorem nd_Ra_offer_54 : decode nc_Ra_offer 54 = .ok (.iload_n 3, 1) := by decide +kernel
theorem nd_Ra_offer_55 : decode nc_Ra_offer 55 = .ok (.iastore, 1) := by decide +kernel
theorem nd_Ra_offer_56 : decode nc_Ra_offer 56 = .ok (.goto 36, 3) := by decide +kernel
theorem nd_Ra_offer_59 : decode nc_Ra_offer 59 = .ok (.aload_n 0, 1) := by decide +kernel
theorem nd_Ra_offer_60 : decode nc_Ra_offer 60 = .ok (.getfield 19, 3) := by decide +kernel
theorem nd_Ra_offer_63 : decode nc_Ra_offer 63 = .ok (.iconst 1, 1) := by decide +kernel
theorem nd_Ra_offer_64 : decode nc_Ra_offer 64 = .ok (.if_icmp .eq 14, 3) := by decide +kernel
theorem nd_Ra_offer_67 : decode nc_Ra_offer 67 = .ok (.lload_n 1, 1) := by decide +kernel
theorem nd_Ra_offer_68 : decode nc_Ra_offer 68 = .ok (.aload_n 0, 1) := by decide +kernel
theorem nd_Ra_offer_69 : decode nc_Ra_offer 69 = .ok (.getfield 9, 3) := by decide +kernel
theorem nd_Ra_offer_72 : decode nc_Ra_offer 72 = .ok (.iconst 1, 1) := by decide +kernel
theorem nd_Ra_offer_73 : decode nc_Ra_offer 73 = .ok (.laload, 1) := by decide +kernel
theorem nd_Ra_offer_74 : decode nc_Ra_offer 74 = .ok (.lcmp, 1) := by decide +kernel
theorem nd_Ra_offer_75 : decode nc_Ra_offer 75 = .ok (.ifCond .le 17, 3) := by decide +kernel
theorem nd_Ra_offer_78 : decode nc_Ra_offer 78 = .ok (.aload_n 0, 1) := by decide +kernel
theorem nd_Ra_offer_79 : decode nc_Ra_offer 79 = .ok (.getfield 9, 3) := by decide +kernel
theorem nd_Ra_offer_82 : decode nc_Ra_offer 82 = .ok (.iconst 1, 1) := by decide +kernel
theorem nd_Ra_offer_83 : decode nc_Ra_offer 83 = .ok (.lload_n 1, 1) := by decide +kernel
theorem nd_Ra_offer_84 : decode nc_Ra_offer 84 = .ok (.lastore, 1) := by decide +kernel
theorem nd_Ra_offer_85 : decode nc_Ra_offer 85 = .ok (.aload_n 0, 1) := by decide +kernel
theorem nd_Ra_offer_86 : decode nc_Ra_offer 86 = .ok (.getfield 15, 3) := by decide +kernel
theorem nd_Ra_offer_89 : decode nc_Ra_offer 89 = .ok (.iconst 1, 1) := by decide +kernel
theorem nd_Ra_offer_90 : decode nc_Ra_offer 90 = .ok (.iload_n 3, 1) := by decide +kernel
theorem nd_Ra_offer_91 : decode nc_Ra_offer 91 = .ok (.iastore, 1) := by decide +kernel
theorem nd_Ra_offer_92 : decode nc_Ra_offer 92 = .ok (.aload_n 0, 1) := by decide +kernel
theorem nd_Ra_offer_93 : decode nc_Ra_offer 93 = .ok (.getfield 19, 3) := by decide +kernel
theorem nd_Ra_offer_96 : decode nc_Ra_offer 96 = .ok (.iconst 2, 1) := by decide +kernel
theorem nd_Ra_offer_97 : decode nc_Ra_offer 97 = .ok (.if_icmp .ge 13, 3) := by decide +kernel
theorem nd_Ra_offer_100 : decode nc_Ra_offer 100 = .ok (.aload_n 0, 1) := by decide +kernel
theorem nd_Ra_offer_101 : decode nc_Ra_offer 101 = .ok (.dup, 1) := by decide +kernel
theorem nd_Ra_offer_102 : decode nc_Ra_offer 102 = .ok (.getfield 19, 3) := by decide +kernel
theorem nd_Ra_offer_105 : decode nc_Ra_offer 105 = .ok (.iconst 1, 1) := by decide +kernel
theorem nd_Ra_offer_106 : decode nc_Ra_offer 106 = .ok (.iadd, 1) := by decide +kernel
theorem nd_Ra_offer_107 : decode nc_Ra_offer 107 = .ok (.putfield 19, 3) := by decide +kernel
theorem nd_Ra_offer_110 : decode nc_Ra_offer 110 = .ok (.return_, 1) := by decide +kernel
theorem nd_Ra_offerLonger_0 : decode nc_Ra_offerLonger 0 = .ok (.iconst 0, 1) := by decide +kernel
theorem nd_Ra_offerLonger_1 : decode nc_Ra_offerLonger 1 = .ok (.istore 5, 2) := by decide +kernel
theorem nd_Ra_offerLonger_3 : decode nc_Ra_offerLonger 3 = .ok (.iload 5, 2) := by decide +kernel
theorem nd_Ra_offerLonger_5 : decode nc_Ra_offerLonger 5 = .ok (.aload_n 1, 1) := by decide +kernel
theorem nd_Ra_offerLonger_6 : decode nc_Ra_offerLonger 6 = .ok (.getfield 19, 3) := by decide +kernel
theorem nd_Ra_offerLonger_9 : decode nc_Ra_offerLonger 9 = .ok (.if_icmp .ge 32, 3) := by decide +kernel
theorem nd_Ra_offerLonger_12 : decode nc_Ra_offerLonger 12 = .ok (.aload_n 0, 1) := by decide +kernel
theorem nd_Ra_offerLonger_13 : decode nc_Ra_offerLonger 13 = .ok (.aload_n 1, 1) := by decide +kernel
theorem nd_Ra_offerLonger_14 : decode nc_Ra_offerLonger 14 = .ok (.getfield 9, 3) := by decide +kernel
theorem nd_Ra_offerLonger_17 : decode nc_Ra_offerLonger 17 = .ok (.iload 5, 2) := by decide +kernel
theorem nd_Ra_offerLonger_19 : decode nc_Ra_offerLonger 19 = .ok (.laload, 1) := by decide +kernel
theorem nd_Ra_offerLonger_20 : decode nc_Ra_offerLonger 20 = .ok (.lload_n 2, 1) := by decide +kernel
theorem nd_Ra_offerLonger_21 : decode nc_Ra_offerLonger 21 = .ok (.ladd, 1) := by decide +kernel
theorem nd_Ra_offerLonger_22 : decode nc_Ra_offerLonger 22 = .ok (.aload_n 1, 1) := by decide +kernel
theorem nd_Ra_offerLonger_23 : decode nc_Ra_offerLonger 23 = .ok (.getfield 15, 3) := by decide +kernel
theorem nd_Ra_offerLonger_26 : decode nc_Ra_offerLonger 26 = .ok (.iload 5, 2) := by decide +kernel
theorem nd_Ra_offerLonger_28 : decode nc_Ra_offerLonger 28 = .ok (.iaload, 1) := by decide +kernel
theorem nd_Ra_offerLonger_29 : decode nc_Ra_offerLonger 29 = .ok (.iload 4, 2) := by decide +kernel
theorem nd_Ra_offerLonger_31 : decode nc_Ra_offerLonger 31 = .ok (.ior, 1) := by decide +kernel
theorem nd_Ra_offerLonger_32 : decode nc_Ra_offerLonger 32 = .ok (.invokevirtual 23, 3) := by decide +kernel
theorem nd_Ra_offerLonger_35 : decode nc_Ra_offerLonger 35 = .ok (.iinc 5 1, 3) := by decide +kernel
theorem nd_Ra_offerLonger_38 : decode nc_Ra_offerLonger 38 = .ok (.goto (-35), 3) := by decide +kernel
theorem nd_Ra_offerLonger_41 : decode nc_Ra_offerLonger 41 = .ok (.return_, 1) := by decide +kernel
theorem nd_Se_init_0 : decode nc_Se_init 0 = .ok (.aload_n 0, 1) := by decide +kernel
theorem nd_Se_init_1 : decode nc_Se_init 1 = .ok (.invokespecial 3, 3) := by decide +kernel
theorem nd_Se_init_4 : decode nc_Se_init 4 = .ok (.aload_n 0, 1) := by decide +kernel
theorem nd_Se_init_5 : decode nc_Se_init 5 = .ok (.bipush 18, 2) := by decide +kernel
theorem nd_Se_init_7 : decode nc_Se_init 7 = .ok (.newarray .int, 2) := by decide +kernel
theorem nd_Se_init_9 : decode nc_Se_init 9 = .ok (.putfield 9, 3) := by decide +kernel
theorem nd_Se_init_12 : decode nc_Se_init 12 = .ok (.return_, 1) := by decide +kernel
theorem nd_Se_clear_0 : decode nc_Se_clear 0 = .ok (.aload_n 0, 1) := by decide +kernel
theorem nd_Se_clear_1 : decode nc_Se_clear 1 = .ok (.iconst 0, 1) := by decide +kernel
theorem nd_Se_clear_2 : decode nc_Se_clear 2 = .ok (.putfield 15, 3) := by decide +kernel
theorem nd_Se_clear_5 : decode nc_Se_clear 5 = .ok (.aload_n 0, 1) := by decide +kernel
theorem nd_Se_clear_6 : decode nc_Se_clear 6 = .ok (.iconst 0, 1) := by decide +kernel
theorem nd_Se_clear_7 : decode nc_Se_clear 7 = .ok (.putfield 19, 3) := by decide +kernel
theorem nd_Se_clear_10 : decode nc_Se_clear 10 = .ok (.return_, 1) := by decide +kernel
theorem nd_Se_bucketOf_0 : decode nc_Se_bucketOf 0 = .ok (.aload_n 0, 1) := by decide +kernel
theorem nd_Se_bucketOf_1 : decode nc_Se_bucketOf 1 = .ok (.getfield 9, 3) := by decide +kernel
theorem nd_Se_bucketOf_4 : decode nc_Se_bucketOf 4 = .ok (.iload_n 1, 1) := by decide +kernel
theorem nd_Se_bucketOf_5 : decode nc_Se_bucketOf 5 = .ok (.iconst 3, 1) := by decide +kernel
theorem nd_Se_bucketOf_6 : decode nc_Se_bucketOf 6 = .ok (.imul, 1) := by decide +kernel
theorem nd_Se_bucketOf_7 : decode nc_Se_bucketOf 7 = .ok (.iload_n 2, 1) := by decide +kernel
theorem nd_Se_bucketOf_8 : decode nc_Se_bucketOf 8 = .ok (.iadd, 1) := by decide +kernel
theorem nd_Se_bucketOf_9 : decode nc_Se_bucketOf 9 = .ok (.iaload, 1) := by decide +kernel
theorem nd_Se_bucketOf_10 : decode nc_Se_bucketOf 10 = .ok (.ireturn, 1) := by decide +kernel
theorem nd_Se_setBucket_0 : decode nc_Se_setBucket 0 = .ok (.aload_n 0, 1) := by decide +kernel
theorem nd_Se_setBucket_1 : decode nc_Se_setBucket 1 = .ok (.getfield 9, 3) := by decide +kernel
theorem nd_Se_setBucket_4 : decode nc_Se_setBucket 4 = .ok (.iload_n 1, 1) := by decide +kernel
theorem nd_Se_setBucket_5 : decode nc_Se_setBucket 5 = .ok (.iconst 3, 1) := by decide +kernel
theorem nd_Se_setBucket_6 : decode nc_Se_setBucket 6 = .ok (.imul, 1) := by decide +kernel
theorem nd_Se_setBucket_7 : decode nc_Se_setBucket 7 = .ok (.iload_n 2, 1) := by decide +kernel
theorem nd_Se_setBucket_8 : decode nc_Se_setBucket 8 = .ok (.iadd, 1) := by decide +kernel
theorem nd_Se_setBucket_9 : decode nc_Se_setBucket 9 = .ok (.iload_n 3, 1) := by decide +kernel
theorem nd_Se_setBucket_10 : decode nc_Se_setBucket 10 = .ok (.iastore, 1) := by decide +kernel
theorem nd_Se_setBucket_11 : decode nc_Se_setBucket 11 = .ok (.return_, 1) := by decide +kernel
theorem nd_Te_init_0 : decode nc_Te_init 0 = .ok (.aload_n 0, 1) := by decide +kernel
theorem nd_Te_init_1 : decode nc_Te_init 1 = .ok (.invokespecial 3, 3) := by decide +kernel
theorem nd_Te_init_4 : decode nc_Te_init 4 = .ok (.aload_n 0, 1) := by decide +kernel
theorem nd_Te_init_5 : decode nc_Te_init 5 = .ok (.sipush 240, 3) := by decide +kernel
theorem nd_Te_init_8 : decode nc_Te_init 8 = .ok (.newarray .char, 2) := by decide +kernel
theorem nd_Te_init_10 : decode nc_Te_init 10 = .ok (.putfield 9, 3) := by decide +kernel

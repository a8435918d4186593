theorem nd_LL_learnSentence_65 : decode nc_LL_learnSentence 65 = .ok (.aload_n 0, 1) := by decide +kernel
theorem nd_LL_learnSentence_66 : decode nc_LL_learnSentence 66 = .ok (.getfield 26, 3) := by decide +kernel
theorem nd_LL_learnSentence_69 : decode nc_LL_learnSentence 69 = .ok (.invokevirtual 184, 3) := by decide +kernel
theorem nd_LL_learnSentence_72 : decode nc_LL_learnSentence 72 = .ok (.iload_n 3, 1) := by decide +kernel
theorem nd_LL_learnSentence_73 : decode nc_LL_learnSentence 73 = .ok (.ireturn, 1) := by decide +kernel
theorem nd_LL_requireWord_0 : decode nc_LL_requireWord 0 = .ok (.iload_n 0, 1) := by decide +kernel
theorem nd_LL_requireWord_1 : decode nc_LL_requireWord 1 = .ok (.ifCond .lt 8, 3) := by decide +kernel
theorem nd_LL_requireWord_4 : decode nc_LL_requireWord 4 = .ok (.iload_n 0, 1) := by decide +kernel
theorem nd_LL_requireWord_5 : decode nc_LL_requireWord 5 = .ok (.iload_n 1, 1) := by decide +kernel
theorem nd_LL_requireWord_6 : decode nc_LL_requireWord 6 = .ok (.if_icmp .lt 13, 3) := by decide +kernel
theorem nd_LL_requireWord_9 : decode nc_LL_requireWord 9 = .ok (.new 99, 3) := by decide +kernel
theorem nd_LL_requireWord_12 : decode nc_LL_requireWord 12 = .ok (.dup, 1) := by decide +kernel
theorem nd_LL_requireWord_13 : decode nc_LL_requireWord 13 = .ok (.ldc 188, 2) := by decide +kernel
theorem nd_LL_requireWord_15 : decode nc_LL_requireWord 15 = .ok (.invokespecial 103, 3) := by decide +kernel
theorem nd_LL_requireWord_18 : decode nc_LL_requireWord 18 = .ok (.athrow, 1) := by decide +kernel
theorem nd_LL_requireWord_19 : decode nc_LL_requireWord 19 = .ok (.return_, 1) := by decide +kernel
theorem nd_LL_labelIn_0 : decode nc_LL_labelIn 0 = .ok (.iload_n 0, 1) := by decide +kernel
theorem nd_LL_labelIn_1 : decode nc_LL_labelIn 1 = .ok (.iconst 2, 1) := by decide +kernel
theorem nd_LL_labelIn_2 : decode nc_LL_labelIn 2 = .ok (.iload_n 1, 1) := by decide +kernel
theorem nd_LL_labelIn_3 : decode nc_LL_labelIn 3 = .ok (.imul, 1) := by decide +kernel
theorem nd_LL_labelIn_4 : decode nc_LL_labelIn 4 = .ok (.iushr, 1) := by decide +kernel
theorem nd_LL_labelIn_5 : decode nc_LL_labelIn 5 = .ok (.iconst 3, 1) := by decide +kernel
theorem nd_LL_labelIn_6 : decode nc_LL_labelIn 6 = .ok (.iand, 1) := by decide +kernel
theorem nd_LL_labelIn_7 : decode nc_LL_labelIn 7 = .ok (.ireturn, 1) := by decide +kernel
theorem nd_LL_differences_0 : decode nc_LL_differences 0 = .ok (.iconst 0, 1) := by decide +kernel
theorem nd_LL_differences_1 : decode nc_LL_differences 1 = .ok (.istore_n 3, 1) := by decide +kernel
theorem nd_LL_differences_2 : decode nc_LL_differences 2 = .ok (.iconst 0, 1) := by decide +kernel
theorem nd_LL_differences_3 : decode nc_LL_differences 3 = .ok (.istore 4, 2) := by decide +kernel
theorem nd_LL_differences_5 : decode nc_LL_differences 5 = .ok (.iload 4, 2) := by decide +kernel
theorem nd_LL_differences_7 : decode nc_LL_differences 7 = .ok (.iload_n 0, 1) := by decide +kernel
theorem nd_LL_differences_8 : decode nc_LL_differences 8 = .ok (.if_icmp .ge 27, 3) := by decide +kernel
theorem nd_LL_differences_11 : decode nc_LL_differences 11 = .ok (.iload_n 1, 1) := by decide +kernel
theorem nd_LL_differences_12 : decode nc_LL_differences 12 = .ok (.iload 4, 2) := by decide +kernel
theorem nd_LL_differences_14 : decode nc_LL_differences 14 = .ok (.invokestatic 111, 3) := by decide +kernel
theorem nd_LL_differences_17 : decode nc_LL_differences 17 = .ok (.iload_n 2, 1) := by decide +kernel
theorem nd_LL_differences_18 : decode nc_LL_differences 18 = .ok (.iload 4, 2) := by decide +kernel
theorem nd_LL_differences_20 : decode nc_LL_differences 20 = .ok (.invokestatic 111, 3) := by decide +kernel
theorem nd_LL_differences_23 : decode nc_LL_differences 23 = .ok (.if_icmp .eq 6, 3) := by decide +kernel
theorem nd_LL_differences_26 : decode nc_LL_differences 26 = .ok (.iinc 3 1, 3) := by decide +kernel
theorem nd_LL_differences_29 : decode nc_LL_differences 29 = .ok (.iinc 4 1, 3) := by decide +kernel
theorem nd_LL_differences_32 : decode nc_LL_differences 32 = .ok (.goto (-27), 3) := by decide +kernel
theorem nd_LL_differences_35 : decode nc_LL_differences 35 = .ok (.iload_n 3, 1) := by decide +kernel
theorem nd_LL_differences_36 : decode nc_LL_differences 36 = .ok (.ireturn, 1) := by decide +kernel
theorem nd_Mo_init_0 : decode nc_Mo_init 0 = .ok (.aload_n 0, 1) := by decide +kernel
theorem nd_Mo_init_1 : decode nc_Mo_init 1 = .ok (.invokespecial 1, 3) := by decide +kernel
theorem nd_Mo_init_4 : decode nc_Mo_init 4 = .ok (.aload_n 0, 1) := by decide +kernel
theorem nd_Mo_init_5 : decode nc_Mo_init 5 = .ok (.sipush 240, 3) := by decide +kernel
theorem nd_Mo_init_8 : decode nc_Mo_init 8 = .ok (.newarray .int, 2) := by decide +kernel
theorem nd_Mo_init_10 : decode nc_Mo_init 10 = .ok (.putfield 7, 3) := by decide +kernel
theorem nd_Mo_init_13 : decode nc_Mo_init 13 = .ok (.aload_n 0, 1) := by decide +kernel
theorem nd_Mo_init_14 : decode nc_Mo_init 14 = .ok (.bipush 9, 2) := by decide +kernel
theorem nd_Mo_init_16 : decode nc_Mo_init 16 = .ok (.newarray .int, 2) := by decide +kernel
theorem nd_Mo_init_18 : decode nc_Mo_init 18 = .ok (.putfield 13, 3) := by decide +kernel
theorem nd_Mo_init_21 : decode nc_Mo_init 21 = .ok (.aload_n 0, 1) := by decide +kernel
theorem nd_Mo_init_22 : decode nc_Mo_init 22 = .ok (.sipush 162, 3) := by decide +kernel
theorem nd_Mo_init_25 : decode nc_Mo_init 25 = .ok (.newarray .int, 2) := by decide +kernel
theorem nd_Mo_init_27 : decode nc_Mo_init 27 = .ok (.putfield 16, 3) := by decide +kernel
theorem nd_Mo_init_30 : decode nc_Mo_init 30 = .ok (.aload_n 0, 1) := by decide +kernel
theorem nd_Mo_init_31 : decode nc_Mo_init 31 = .ok (.bipush 54, 2) := by decide +kernel
theorem nd_Mo_init_33 : decode nc_Mo_init 33 = .ok (.newarray .int, 2) := by decide +kernel
theorem nd_Mo_init_35 : decode nc_Mo_init 35 = .ok (.putfield 19, 3) := by decide +kernel
theorem nd_Mo_init_38 : decode nc_Mo_init 38 = .ok (.aload_n 0, 1) := by decide +kernel
theorem nd_Mo_init_39 : decode nc_Mo_init 39 = .ok (.bipush 9, 2) := by decide +kernel
theorem nd_Mo_init_41 : decode nc_Mo_init 41 = .ok (.newarray .int, 2) := by decide +kernel
theorem nd_Mo_init_43 : decode nc_Mo_init 43 = .ok (.putfield 22, 3) := by decide +kernel
theorem nd_Mo_init_46 : decode nc_Mo_init 46 = .ok (.aload_n 0, 1) := by decide +kernel
theorem nd_Mo_init_47 : decode nc_Mo_init 47 = .ok (.sipush 162, 3) := by decide +kernel
theorem nd_Mo_init_50 : decode nc_Mo_init 50 = .ok (.newarray .int, 2) := by decide +kernel
theorem nd_Mo_init_52 : decode nc_Mo_init 52 = .ok (.putfield 25, 3) := by decide +kernel
theorem nd_Mo_init_55 : decode nc_Mo_init 55 = .ok (.aload_n 0, 1) := by decide +kernel
theorem nd_Mo_init_56 : decode nc_Mo_init 56 = .ok (.bipush 54, 2) := by decide +kernel
theorem nd_Mo_init_58 : decode nc_Mo_init 58 = .ok (.newarray .int, 2) := by decide +kernel
theorem nd_Mo_init_60 : decode nc_Mo_init 60 = .ok (.putfield 28, 3) := by decide +kernel
theorem nd_Mo_init_63 : decode nc_Mo_init 63 = .ok (.aload_n 0, 1) := by decide +kernel
theorem nd_Mo_init_64 : decode nc_Mo_init 64 = .ok (.sipush 148, 3) := by decide +kernel
theorem nd_Mo_init_67 : decode nc_Mo_init 67 = .ok (.newarray .long, 2) := by decide +kernel
theorem nd_Mo_init_69 : decode nc_Mo_init 69 = .ok (.putfield 31, 3) := by decide +kernel
theorem nd_Mo_init_72 : decode nc_Mo_init 72 = .ok (.aload_n 0, 1) := by decide +kernel
theorem nd_Mo_init_73 : decode nc_Mo_init 73 = .ok (.sipush 148, 3) := by decide +kernel
theorem nd_Mo_init_76 : decode nc_Mo_init 76 = .ok (.newarray .long, 2) := by decide +kernel
theorem nd_Mo_init_78 : decode nc_Mo_init 78 = .ok (.putfield 35, 3) := by decide +kernel
theorem nd_Mo_init_81 : decode nc_Mo_init 81 = .ok (.aload_n 0, 1) := by decide +kernel
theorem nd_Mo_init_82 : decode nc_Mo_init 82 = .ok (.bipush 24, 2) := by decide +kernel
theorem nd_Mo_init_84 : decode nc_Mo_init 84 = .ok (.newarray .long, 2) := by decide +kernel
theorem nd_Mo_init_86 : decode nc_Mo_init 86 = .ok (.putfield 38, 3) := by decide +kernel
theorem nd_Mo_init_89 : decode nc_Mo_init 89 = .ok (.aload_n 0, 1) := by decide +kernel
theorem nd_Mo_init_90 : decode nc_Mo_init 90 = .ok (.bipush 6, 2) := by decide +kernel
theorem nd_Mo_init_92 : decode nc_Mo_init 92 = .ok (.newarray .int, 2) := by decide +kernel
theorem nd_Mo_init_94 : decode nc_Mo_init 94 = .ok (.putfield 41, 3) := by decide +kernel
theorem nd_Mo_init_97 : decode nc_Mo_init 97 = .ok (.aload_n 0, 1) := by decide +kernel
theorem nd_Mo_init_98 : decode nc_Mo_init 98 = .ok (.bipush 7, 2) := by decide +kernel
theorem nd_Mo_init_100 : decode nc_Mo_init 100 = .ok (.newarray .long, 2) := by decide +kernel
theorem nd_Mo_init_102 : decode nc_Mo_init 102 = .ok (.putfield 44, 3) := by decide +kernel
theorem nd_Mo_init_105 : decode nc_Mo_init 105 = .ok (.aload_n 0, 1) := by decide +kernel
theorem nd_Mo_init_106 : decode nc_Mo_init 106 = .ok (.iconst (-1), 1) := by decide +kernel
theorem nd_Mo_init_107 : decode nc_Mo_init 107 = .ok (.putfield 47, 3) := by decide +kernel
theorem nd_Mo_init_110 : decode nc_Mo_init 110 = .ok (.return_, 1) := by decide +kernel
theorem nd_Mo_thrown_0 : decode nc_Mo_thrown 0 = .ok (.aload_n 0, 1) := by decide +kernel
theorem nd_Mo_thrown_1 : decode nc_Mo_thrown 1 = .ok (.getfield 51, 3) := by decide +kernel
theorem nd_Mo_thrown_4 : decode nc_Mo_thrown 4 = .ok (.ireturn, 1) := by decide +kernel
theorem nd_Mo_letter_0 : decode nc_Mo_letter 0 = .ok (.lload_n 0, 1) := by decide +kernel
theorem nd_Mo_letter_1 : decode nc_Mo_letter 1 = .ok (.bipush 8, 2) := by decide +kernel
theorem nd_Mo_letter_3 : decode nc_Mo_letter 3 = .ok (.iload_n 2, 1) := by decide +kernel
theorem nd_Mo_letter_4 : decode nc_Mo_letter 4 = .ok (.imul, 1) := by decide +kernel
theorem nd_Mo_letter_5 : decode nc_Mo_letter 5 = .ok (.lshr, 1) := by decide +kernel
theorem nd_Mo_letter_6 : decode nc_Mo_letter 6 = .ok (.ldc2_w 54, 3) := by decide +kernel
theorem nd_Mo_letter_9 : decode nc_Mo_letter 9 = .ok (.land, 1) := by decide +kernel
theorem nd_Mo_letter_10 : decode nc_Mo_letter 10 = .ok (.l2i, 1) := by decide +kernel
theorem nd_Mo_letter_11 : decode nc_Mo_letter 11 = .ok (.ireturn, 1) := by decide +kernel
theorem nd_Mo_type_0 : decode nc_Mo_type 0 = .ok (.aload_n 0, 1) := by decide +kernel
theorem nd_Mo_type_1 : decode nc_Mo_type 1 = .ok (.iconst 0, 1) := by decide +kernel
theorem nd_Mo_type_2 : decode nc_Mo_type 2 = .ok (.putfield 51, 3) := by decide +kernel
theorem nd_Mo_type_5 : decode nc_Mo_type 5 = .ok (.iload_n 3, 1) := by decide +kernel
theorem nd_Mo_type_6 : decode nc_Mo_type 6 = .ok (.ifCond .le 25, 3) := by decide +kernel
theorem nd_Mo_type_9 : decode nc_Mo_type 9 = .ok (.iload_n 3, 1) := by decide +kernel
theorem nd_Mo_type_10 : decode nc_Mo_type 10 = .ok (.bipush 9, 2) := by decide +kernel
theorem nd_Mo_type_12 : decode nc_Mo_type 12 = .ok (.if_icmp .ge 19, 3) := by decide +kernel
theorem nd_Mo_type_15 : decode nc_Mo_type 15 = .ok (.aload_n 0, 1) := by decide +kernel
theorem nd_Mo_type_16 : decode nc_Mo_type 16 = .ok (.getfield 56, 3) := by decide +kernel
theorem nd_Mo_type_19 : decode nc_Mo_type 19 = .ok (.iload_n 3, 1) := by decide +kernel
theorem nd_Mo_type_20 : decode nc_Mo_type 20 = .ok (.iadd, 1) := by decide +kernel
theorem nd_Mo_type_21 : decode nc_Mo_type 21 = .ok (.sipush 240, 3) := by decide +kernel
theorem nd_Mo_type_24 : decode nc_Mo_type 24 = .ok (.if_icmp .gt 7, 3) := by decide +kernel
theorem nd_Mo_type_27 : decode nc_Mo_type 27 = .ok (.iconst 1, 1) := by decide +kernel
theorem nd_Mo_type_28 : decode nc_Mo_type 28 = .ok (.goto 4, 3) := by decide +kernel
theorem nd_Mo_type_31 : decode nc_Mo_type 31 = .ok (.iconst 0, 1) := by decide +kernel
theorem nd_Mo_type_32 : decode nc_Mo_type 32 = .ok (.istore 4, 2) := by decide +kernel
theorem nd_Mo_type_34 : decode nc_Mo_type 34 = .ok (.iconst 0, 1) := by decide +kernel
theorem nd_Mo_type_35 : decode nc_Mo_type 35 = .ok (.istore 5, 2) := by decide +kernel
theorem nd_Mo_type_37 : decode nc_Mo_type 37 = .ok (.iload 5, 2) := by decide +kernel
theorem nd_Mo_type_39 : decode nc_Mo_type 39 = .ok (.iload_n 3, 1) := by decide +kernel
theorem nd_Mo_type_40 : decode nc_Mo_type 40 = .ok (.if_icmp .ge 43, 3) := by decide +kernel
theorem nd_Mo_type_43 : decode nc_Mo_type 43 = .ok (.iload 4, 2) := by decide +kernel
theorem nd_Mo_type_45 : decode nc_Mo_type 45 = .ok (.ifCond .eq 38, 3) := by decide +kernel
theorem nd_Mo_type_48 : decode nc_Mo_type 48 = .ok (.lload_n 1, 1) := by decide +kernel
theorem nd_Mo_type_49 : decode nc_Mo_type 49 = .ok (.iload 5, 2) := by decide +kernel
theorem nd_Mo_type_51 : decode nc_Mo_type 51 = .ok (.invokestatic 59, 3) := by decide +kernel
theorem nd_Mo_type_54 : decode nc_Mo_type 54 = .ok (.bipush 31, 2) := by decide +kernel
theorem nd_Mo_type_56 : decode nc_Mo_type 56 = .ok (.if_icmp .le 18, 3) := by decide +kernel
theorem nd_Mo_type_59 : decode nc_Mo_type 59 = .ok (.lload_n 1, 1) := by decide +kernel
theorem nd_Mo_type_60 : decode nc_Mo_type 60 = .ok (.iload 5, 2) := by decide +kernel
theorem nd_Mo_type_62 : decode nc_Mo_type 62 = .ok (.invokestatic 59, 3) := by decide +kernel
theorem nd_Mo_type_65 : decode nc_Mo_type 65 = .ok (.bipush 127, 2) := by decide +kernel
theorem nd_Mo_type_67 : decode nc_Mo_type 67 = .ok (.if_icmp .ge 7, 3) := by decide +kernel
theorem nd_Mo_type_70 : decode nc_Mo_type 70 = .ok (.iconst 1, 1) := by decide +kernel
theorem nd_Mo_type_71 : decode nc_Mo_type 71 = .ok (.goto 4, 3) := by decide +kernel
theorem nd_Mo_type_74 : decode nc_Mo_type 74 = .ok (.iconst 0, 1) := by decide +kernel
theorem nd_Mo_type_75 : decode nc_Mo_type 75 = .ok (.istore 4, 2) := by decide +kernel
theorem nd_Mo_type_77 : decode nc_Mo_type 77 = .ok (.iinc 5 1, 3) := by decide +kernel
theorem nd_Mo_type_80 : decode nc_Mo_type 80 = .ok (.goto (-43), 3) := by decide +kernel
theorem nd_Mo_type_83 : decode nc_Mo_type 83 = .ok (.iconst 0, 1) := by decide +kernel
theorem nd_Mo_type_84 : decode nc_Mo_type 84 = .ok (.istore 5, 2) := by decide +kernel
theorem nd_Mo_type_86 : decode nc_Mo_type 86 = .ok (.iload 5, 2) := by decide +kernel
theorem nd_Mo_type_88 : decode nc_Mo_type 88 = .ok (.iload_n 3, 1) := by decide +kernel
theorem nd_Mo_type_89 : decode nc_Mo_type 89 = .ok (.if_icmp .ge 39, 3) := by decide +kernel
theorem nd_Mo_type_92 : decode nc_Mo_type 92 = .ok (.iload 4, 2) := by decide +kernel
theorem nd_Mo_type_94 : decode nc_Mo_type 94 = .ok (.ifCond .eq 34, 3) := by decide +kernel
theorem nd_Mo_type_97 : decode nc_Mo_type 97 = .ok (.aload_n 0, 1) := by decide +kernel
theorem nd_Mo_type_98 : decode nc_Mo_type 98 = .ok (.getfield 7, 3) := by decide +kernel
theorem nd_Mo_type_101 : decode nc_Mo_type 101 = .ok (.aload_n 0, 1) := by decide +kernel
theorem nd_Mo_type_102 : decode nc_Mo_type 102 = .ok (.getfield 56, 3) := by decide +kernel
theorem nd_Mo_type_105 : decode nc_Mo_type 105 = .ok (.lload_n 1, 1) := by decide +kernel
theorem nd_Mo_type_106 : decode nc_Mo_type 106 = .ok (.iload 5, 2) := by decide +kernel
theorem nd_Mo_type_108 : decode nc_Mo_type 108 = .ok (.invokestatic 59, 3) := by decide +kernel
theorem nd_Mo_type_111 : decode nc_Mo_type 111 = .ok (.iastore, 1) := by decide +kernel
theorem nd_Mo_type_112 : decode nc_Mo_type 112 = .ok (.aload_n 0, 1) := by decide +kernel
theorem nd_Mo_type_113 : decode nc_Mo_type 113 = .ok (.dup, 1) := by decide +kernel
theorem nd_Mo_type_114 : decode nc_Mo_type 114 = .ok (.getfield 56, 3) := by decide +kernel
theorem nd_Mo_type_117 : decode nc_Mo_type 117 = .ok (.iconst 1, 1) := by decide +kernel
theorem nd_Mo_type_118 : decode nc_Mo_type 118 = .ok (.iadd, 1) := by decide +kernel
theorem nd_Mo_type_119 : decode nc_Mo_type 119 = .ok (.putfield 56, 3) := by decide +kernel
theorem nd_Mo_type_122 : decode nc_Mo_type 122 = .ok (.iinc 5 1, 3) := by decide +kernel
theorem nd_Mo_type_125 : decode nc_Mo_type 125 = .ok (.goto (-39), 3) := by decide +kernel
theorem nd_Mo_type_128 : decode nc_Mo_type 128 = .ok (.iload 4, 2) := by decide +kernel
theorem nd_Mo_type_130 : decode nc_Mo_type 130 = .ok (.ireturn, 1) := by decide +kernel
theorem nd_Mo_cut_0 : decode nc_Mo_cut 0 = .ok (.aload_n 0, 1) := by decide +kernel
theorem nd_Mo_cut_1 : decode nc_Mo_cut 1 = .ok (.iconst 0, 1) := by decide +kernel
theorem nd_Mo_cut_2 : decode nc_Mo_cut 2 = .ok (.putfield 51, 3) := by decide +kernel
theorem nd_Mo_cut_5 : decode nc_Mo_cut 5 = .ok (.iload_n 1, 1) := by decide +kernel
theorem nd_Mo_cut_6 : decode nc_Mo_cut 6 = .ok (.ifCond .lt 11, 3) := by decide +kernel
theorem nd_Mo_cut_9 : decode nc_Mo_cut 9 = .ok (.iload_n 1, 1) := by decide +kernel
theorem nd_Mo_cut_10 : decode nc_Mo_cut 10 = .ok (.aload_n 0, 1) := by decide +kernel
theorem nd_Mo_cut_11 : decode nc_Mo_cut 11 = .ok (.getfield 56, 3) := by decide +kernel
theorem nd_Mo_cut_14 : decode nc_Mo_cut 14 = .ok (.if_icmp .le 5, 3) := by decide +kernel
theorem nd_Mo_cut_17 : decode nc_Mo_cut 17 = .ok (.iconst 0, 1) := by decide +kernel
theorem nd_Mo_cut_18 : decode nc_Mo_cut 18 = .ok (.ireturn, 1) := by decide +kernel
theorem nd_Mo_cut_19 : decode nc_Mo_cut 19 = .ok (.aload_n 0, 1) := by decide +kernel
theorem nd_Mo_cut_20 : decode nc_Mo_cut 20 = .ok (.iload_n 1, 1) := by decide +kernel
theorem nd_Mo_cut_21 : decode nc_Mo_cut 21 = .ok (.putfield 56, 3) := by decide +kernel
theorem nd_Mo_cut_24 : decode nc_Mo_cut 24 = .ok (.iconst 1, 1) := by decide +kernel
theorem nd_Mo_cut_25 : decode nc_Mo_cut 25 = .ok (.ireturn, 1) := by decide +kernel
theorem nd_Mo_isLetter_0 : decode nc_Mo_isLetter 0 = .ok (.iload_n 1, 1) := by decide +kernel
theorem nd_Mo_isLetter_1 : decode nc_Mo_isLetter 1 = .ok (.aload_n 0, 1) := by decide +kernel
theorem nd_Mo_isLetter_2 : decode nc_Mo_isLetter 2 = .ok (.getfield 56, 3) := by decide +kernel
theorem nd_Mo_isLetter_5 : decode nc_Mo_isLetter 5 = .ok (.if_icmp .ge 29, 3) := by decide +kernel
theorem nd_Mo_isLetter_8 : decode nc_Mo_isLetter 8 = .ok (.aload_n 0, 1) := by decide +kernel
theorem nd_Mo_isLetter_9 : decode nc_Mo_isLetter 9 = .ok (.getfield 7, 3) := by decide +kernel
theorem nd_Mo_isLetter_12 : decode nc_Mo_isLetter 12 = .ok (.iload_n 1, 1) := by decide +kernel
theorem nd_Mo_isLetter_13 : decode nc_Mo_isLetter 13 = .ok (.iaload, 1) := by decide +kernel
theorem nd_Mo_isLetter_14 : decode nc_Mo_isLetter 14 = .ok (.bipush 97, 2) := by decide +kernel
theorem nd_Mo_isLetter_16 : decode nc_Mo_isLetter 16 = .ok (.if_icmp .lt 18, 3) := by decide +kernel
theorem nd_Mo_isLetter_19 : decode nc_Mo_isLetter 19 = .ok (.aload_n 0, 1) := by decide +kernel
theorem nd_Mo_isLetter_20 : decode nc_Mo_isLetter 20 = .ok (.getfield 7, 3) := by decide +kernel
theorem nd_Mo_isLetter_23 : decode nc_Mo_isLetter 23 = .ok (.iload_n 1, 1) := by decide +kernel
theorem nd_Mo_isLetter_24 : decode nc_Mo_isLetter 24 = .ok (.iaload, 1) := by decide +kernel
theorem nd_Mo_isLetter_25 : decode nc_Mo_isLetter 25 = .ok (.bipush 122, 2) := by decide +kernel
theorem nd_Mo_isLetter_27 : decode nc_Mo_isLetter 27 = .ok (.if_icmp .gt 7, 3) := by decide +kernel
theorem nd_Mo_isLetter_30 : decode nc_Mo_isLetter 30 = .ok (.iconst 1, 1) := by decide +kernel
theorem nd_Mo_isLetter_31 : decode nc_Mo_isLetter 31 = .ok (.goto 4, 3) := by decide +kernel
theorem nd_Mo_isLetter_34 : decode nc_Mo_isLetter 34 = .ok (.iconst 0, 1) := by decide +kernel
theorem nd_Mo_isLetter_35 : decode nc_Mo_isLetter 35 = .ok (.ireturn, 1) := by decide +kernel
theorem nd_Mo_is_0 : decode nc_Mo_is 0 = .ok (.iload_n 1, 1) := by decide +kernel
theorem nd_Mo_is_1 : decode nc_Mo_is 1 = .ok (.aload_n 0, 1) := by decide +kernel
theorem nd_Mo_is_2 : decode nc_Mo_is 2 = .ok (.getfield 56, 3) := by decide +kernel
theorem nd_Mo_is_5 : decode nc_Mo_is 5 = .ok (.if_icmp .ge 17, 3) := by decide +kernel
theorem nd_Mo_is_8 : decode nc_Mo_is 8 = .ok (.aload_n 0, 1) := by decide +kernel
theorem nd_Mo_is_9 : decode nc_Mo_is 9 = .ok (.getfield 7, 3) := by decide +kernel
theorem nd_Mo_is_12 : decode nc_Mo_is 12 = .ok (.iload_n 1, 1) := by decide +kernel
theorem nd_Mo_is_13 : decode nc_Mo_is 13 = .ok (.iaload, 1) := by decide +kernel
theorem nd_Mo_is_14 : decode nc_Mo_is 14 = .ok (.iload_n 2, 1) := by decide +kernel
theorem nd_Mo_is_15 : decode nc_Mo_is 15 = .ok (.if_icmp .ne 7, 3) := by decide +kernel
theorem nd_Mo_is_18 : decode nc_Mo_is 18 = .ok (.iconst 1, 1) := by decide +kernel
theorem nd_Mo_is_19 : decode nc_Mo_is 19 = .ok (.goto 4, 3) := by decide +kernel
theorem nd_Mo_is_22 : decode nc_Mo_is 22 = .ok (.iconst 0, 1) := by decide +kernel
theorem nd_Mo_is_23 : decode nc_Mo_is 23 = .ok (.ireturn, 1) := by decide +kernel
theorem nd_Mo_skip_0 : decode nc_Mo_skip 0 = .ok (.iload_n 1, 1) := by decide +kernel
theorem nd_Mo_skip_1 : decode nc_Mo_skip 1 = .ok (.istore_n 2, 1) := by decide +kernel
theorem nd_Mo_skip_2 : decode nc_Mo_skip 2 = .ok (.aload_n 0, 1) := by decide +kernel
theorem nd_Mo_skip_3 : decode nc_Mo_skip 3 = .ok (.iload_n 2, 1) := by decide +kernel
theorem nd_Mo_skip_4 : decode nc_Mo_skip 4 = .ok (.bipush 32, 2) := by decide +kernel
theorem nd_Mo_skip_6 : decode nc_Mo_skip 6 = .ok (.invokevirtual 63, 3) := by decide +kernel
theorem nd_Mo_skip_9 : decode nc_Mo_skip 9 = .ok (.ifCond .eq 9, 3) := by decide +kernel
theorem nd_Mo_skip_12 : decode nc_Mo_skip 12 = .ok (.iinc 2 1, 3) := by decide +kernel
theorem nd_Mo_skip_15 : decode nc_Mo_skip 15 = .ok (.goto (-13), 3) := by decide +kernel
theorem nd_Mo_skip_18 : decode nc_Mo_skip 18 = .ok (.iload_n 2, 1) := by decide +kernel
theorem nd_Mo_skip_19 : decode nc_Mo_skip 19 = .ok (.ireturn, 1) := by decide +kernel
theorem nd_Mo_bucketOf_0 : decode nc_Mo_bucketOf 0 = .ok (.iload_n 0, 1) := by decide +kernel
theorem nd_Mo_bucketOf_1 : decode nc_Mo_bucketOf 1 = .ok (.iload_n 0, 1) := by decide +kernel
theorem nd_Mo_bucketOf_2 : decode nc_Mo_bucketOf 2 = .ok (.bipush 15, 2) := by decide +kernel
theorem nd_Mo_bucketOf_4 : decode nc_Mo_bucketOf 4 = .ok (.iushr, 1) := by decide +kernel
theorem nd_Mo_bucketOf_5 : decode nc_Mo_bucketOf 5 = .ok (.ixor, 1) := by decide +kernel
theorem nd_Mo_bucketOf_6 : decode nc_Mo_bucketOf 6 = .ok (.bipush 31, 2) := by decide +kernel
theorem nd_Mo_bucketOf_8 : decode nc_Mo_bucketOf 8 = .ok (.iand, 1) := by decide +kernel
theorem nd_Mo_bucketOf_9 : decode nc_Mo_bucketOf 9 = .ok (.ireturn, 1) := by decide +kernel
theorem nd_Mo_hash_0 : decode nc_Mo_hash 0 = .ok (.iload_n 1, 1) := by decide +kernel
theorem nd_Mo_hash_1 : decode nc_Mo_hash 1 = .ok (.ifCond .ne 8, 3) := by decide +kernel
theorem nd_Mo_hash_4 : decode nc_Mo_hash 4 = .ok (.bipush 7, 2) := by decide +kernel
theorem nd_Mo_hash_6 : decode nc_Mo_hash 6 = .ok (.goto 8, 3) := by decide +kernel
theorem nd_Mo_hash_9 : decode nc_Mo_hash 9 = .ok (.sipush 217, 3) := by decide +kernel
theorem nd_Mo_hash_12 : decode nc_Mo_hash 12 = .ok (.iload_n 1, 1) := by decide +kernel
theorem nd_Mo_hash_13 : decode nc_Mo_hash 13 = .ok (.iadd, 1) := by decide +kernel
theorem nd_Mo_hash_14 : decode nc_Mo_hash 14 = .ok (.istore 4, 2) := by decide +kernel
theorem nd_Mo_hash_16 : decode nc_Mo_hash 16 = .ok (.iload_n 2, 1) := by decide +kernel
theorem nd_Mo_hash_17 : decode nc_Mo_hash 17 = .ok (.istore 5, 2) := by decide +kernel
theorem nd_Mo_hash_19 : decode nc_Mo_hash 19 = .ok (.iload 5, 2) := by decide +kernel
theorem nd_Mo_hash_21 : decode nc_Mo_hash 21 = .ok (.iload_n 3, 1) := by decide +kernel
theorem nd_Mo_hash_22 : decode nc_Mo_hash 22 = .ok (.if_icmp .ge 24, 3) := by decide +kernel
theorem nd_Mo_hash_25 : decode nc_Mo_hash 25 = .ok (.bipush 31, 2) := by decide +kernel
theorem nd_Mo_hash_27 : decode nc_Mo_hash 27 = .ok (.iload 4, 2) := by decide +kernel
theorem nd_Mo_hash_29 : decode nc_Mo_hash 29 = .ok (.imul, 1) := by decide +kernel
theorem nd_Mo_hash_30 : decode nc_Mo_hash 30 = .ok (.aload_n 0, 1) := by decide +kernel
theorem nd_Mo_hash_31 : decode nc_Mo_hash 31 = .ok (.getfield 7, 3) := by decide +kernel
theorem nd_Mo_hash_34 : decode nc_Mo_hash 34 = .ok (.iload 5, 2) := by decide +kernel
theorem nd_Mo_hash_36 : decode nc_Mo_hash 36 = .ok (.iaload, 1) := by decide +kernel
theorem nd_Mo_hash_37 : decode nc_Mo_hash 37 = .ok (.iadd, 1) := by decide +kernel
theorem nd_Mo_hash_38 : decode nc_Mo_hash 38 = .ok (.istore 4, 2) := by decide +kernel
theorem nd_Mo_hash_40 : decode nc_Mo_hash 40 = .ok (.iinc 5 1, 3) := by decide +kernel
theorem nd_Mo_hash_43 : decode nc_Mo_hash 43 = .ok (.goto (-24), 3) := by decide +kernel
theorem nd_Mo_hash_46 : decode nc_Mo_hash 46 = .ok (.iload 4, 2) := by decide +kernel
theorem nd_Mo_hash_48 : decode nc_Mo_hash 48 = .ok (.invokestatic 67, 3) := by decide +kernel
theorem nd_Mo_hash_51 : decode nc_Mo_hash 51 = .ok (.ireturn, 1) := by decide +kernel
theorem nd_Mo_readSentence_0 : decode nc_Mo_readSentence 0 = .ok (.iconst 0, 1) := by decide +kernel
theorem nd_Mo_readSentence_1 : decode nc_Mo_readSentence 1 = .ok (.istore 4, 2) := by decide +kernel
theorem nd_Mo_readSentence_3 : decode nc_Mo_readSentence 3 = .ok (.aload_n 0, 1) := by decide +kernel
theorem nd_Mo_readSentence_4 : decode nc_Mo_readSentence 4 = .ok (.iload_n 2, 1) := by decide +kernel
theorem nd_Mo_readSentence_5 : decode nc_Mo_readSentence 5 = .ok (.invokevirtual 71, 3) := by decide +kernel
theorem nd_Mo_readSentence_8 : decode nc_Mo_readSentence 8 = .ok (.istore 5, 2) := by decide +kernel
theorem nd_Mo_readSentence_10 : decode nc_Mo_readSentence 10 = .ok (.iload 5, 2) := by decide +kernel
theorem nd_Mo_readSentence_12 : decode nc_Mo_readSentence 12 = .ok (.istore 6, 2) := by decide +kernel
theorem nd_Mo_readSentence_14 : decode nc_Mo_readSentence 14 = .ok (.iload 5, 2) := by decide +kernel
theorem nd_Mo_readSentence_16 : decode nc_Mo_readSentence 16 = .ok (.istore 7, 2) := by decide +kernel
theorem nd_Mo_readSentence_18 : decode nc_Mo_readSentence 18 = .ok (.aload_n 0, 1) := by decide +kernel
theorem nd_Mo_readSentence_19 : decode nc_Mo_readSentence 19 = .ok (.iload 5, 2) := by decide +kernel
theorem nd_Mo_readSentence_21 : decode nc_Mo_readSentence 21 = .ok (.invokevirtual 74, 3) := by decide +kernel
theorem nd_Mo_readSentence_24 : decode nc_Mo_readSentence 24 = .ok (.ifCond .eq 256, 3) := by decide +kernel
theorem nd_Mo_readSentence_27 : decode nc_Mo_readSentence 27 = .ok (.iload 5, 2) := by decide +kernel
theorem nd_Mo_readSentence_29 : decode nc_Mo_readSentence 29 = .ok (.istore 8, 2) := by decide +kernel
theorem nd_Mo_readSentence_31 : decode nc_Mo_readSentence 31 = .ok (.aload_n 0, 1) := by decide +kernel
theorem nd_Mo_readSentence_32 : decode nc_Mo_readSentence 32 = .ok (.iload 8, 2) := by decide +kernel
theorem nd_Mo_readSentence_34 : decode nc_Mo_readSentence 34 = .ok (.invokevirtual 74, 3) := by decide +kernel
theorem nd_Mo_readSentence_37 : decode nc_Mo_readSentence 37 = .ok (.ifCond .eq 9, 3) := by decide +kernel
theorem nd_Mo_readSentence_40 : decode nc_Mo_readSentence 40 = .ok (.iinc 8 1, 3) := by decide +kernel
theorem nd_Mo_readSentence_43 : decode nc_Mo_readSentence 43 = .ok (.goto (-12), 3) := by decide +kernel
theorem nd_Mo_readSentence_46 : decode nc_Mo_readSentence 46 = .ok (.iload 8, 2) := by decide +kernel
theorem nd_Mo_readSentence_48 : decode nc_Mo_readSentence 48 = .ok (.iload 5, 2) := by decide +kernel
theorem nd_Mo_readSentence_50 : decode nc_Mo_readSentence 50 = .ok (.isub, 1) := by decide +kernel
theorem nd_Mo_readSentence_51 : decode nc_Mo_readSentence 51 = .ok (.bipush 6, 2) := by decide +kernel
theorem nd_Mo_readSentence_53 : decode nc_Mo_readSentence 53 = .ok (.if_icmp .gt 10, 3) := by decide +kernel
theorem nd_Mo_readSentence_56 : decode nc_Mo_readSentence 56 = .ok (.iload 4, 2) := by decide +kernel
theorem nd_Mo_readSentence_58 : decode nc_Mo_readSentence 58 = .ok (.bipush 6, 2) := by decide +kernel
theorem nd_Mo_readSentence_60 : decode nc_Mo_readSentence 60 = .ok (.if_icmp .ne 5, 3) := by decide +kernel
theorem nd_Mo_readSentence_63 : decode nc_Mo_readSentence 63 = .ok (.iconst (-1), 1) := by decide +kernel
theorem nd_Mo_readSentence_64 : decode nc_Mo_readSentence 64 = .ok (.ireturn, 1) := by decide +kernel
theorem nd_Mo_readSentence_65 : decode nc_Mo_readSentence 65 = .ok (.iconst 3, 1) := by decide +kernel
theorem nd_Mo_readSentence_66 : decode nc_Mo_readSentence 66 = .ok (.bipush 6, 2) := by decide +kernel
theorem nd_Mo_readSentence_68 : decode nc_Mo_readSentence 68 = .ok (.iload_n 1, 1) := by decide +kernel
theorem nd_Mo_readSentence_69 : decode nc_Mo_readSentence 69 = .ok (.imul, 1) := by decide +kernel
theorem nd_Mo_readSentence_70 : decode nc_Mo_readSentence 70 = .ok (.iload 4, 2) := by decide +kernel
theorem nd_Mo_readSentence_72 : decode nc_Mo_readSentence 72 = .ok (.iadd, 1) := by decide +kernel
theorem nd_Mo_readSentence_73 : decode nc_Mo_readSentence 73 = .ok (.imul, 1) := by decide +kernel
theorem nd_Mo_readSentence_74 : decode nc_Mo_readSentence 74 = .ok (.istore 9, 2) := by decide +kernel
theorem nd_Mo_readSentence_76 : decode nc_Mo_readSentence 76 = .ok (.aload_n 0, 1) := by decide +kernel
theorem nd_Mo_readSentence_77 : decode nc_Mo_readSentence 77 = .ok (.getfield 25, 3) := by decide +kernel
theorem nd_Mo_readSentence_80 : decode nc_Mo_readSentence 80 = .ok (.iload 9, 2) := by decide +kernel
theorem nd_Mo_readSentence_82 : decode nc_Mo_readSentence 82 = .ok (.aload_n 0, 1) := by decide +kernel
theorem nd_Mo_readSentence_83 : decode nc_Mo_readSentence 83 = .ok (.iconst 0, 1) := by decide +kernel
theorem nd_Mo_readSentence_84 : decode nc_Mo_readSentence 84 = .ok (.iload 5, 2) := by decide +kernel
theorem nd_Mo_readSentence_86 : decode nc_Mo_readSentence 86 = .ok (.iload 8, 2) := by decide +kernel
theorem nd_Mo_readSentence_88 : decode nc_Mo_readSentence 88 = .ok (.invokevirtual 78, 3) := by decide +kernel
theorem nd_Mo_readSentence_91 : decode nc_Mo_readSentence 91 = .ok (.iastore, 1) := by decide +kernel
theorem nd_Mo_readSentence_92 : decode nc_Mo_readSentence 92 = .ok (.aload_n 0, 1) := by decide +kernel
theorem nd_Mo_readSentence_93 : decode nc_Mo_readSentence 93 = .ok (.getfield 25, 3) := by decide +kernel
theorem nd_Mo_readSentence_96 : decode nc_Mo_readSentence 96 = .ok (.iload 9, 2) := by decide +kernel
theorem nd_Mo_readSentence_98 : decode nc_Mo_readSentence 98 = .ok (.iconst 1, 1) := by decide +kernel
theorem nd_Mo_readSentence_99 : decode nc_Mo_readSentence 99 = .ok (.iadd, 1) := by decide +kernel
theorem nd_Mo_readSentence_100 : decode nc_Mo_readSentence 100 = .ok (.aload_n 0, 1) := by decide +kernel
theorem nd_Mo_readSentence_101 : decode nc_Mo_readSentence 101 = .ok (.bipush 45, 2) := by decide +kernel
theorem nd_Mo_readSentence_103 : decode nc_Mo_readSentence 103 = .ok (.iload 8, 2) := by decide +kernel
theorem nd_Mo_readSentence_105 : decode nc_Mo_readSentence 105 = .ok (.iload 5, 2) := by decide +kernel
theorem nd_Mo_readSentence_107 : decode nc_Mo_readSentence 107 = .ok (.isub, 1) := by decide +kernel
theorem nd_Mo_readSentence_108 : decode nc_Mo_readSentence 108 = .ok (.iconst 1, 1) := by decide +kernel
theorem nd_Mo_readSentence_109 : decode nc_Mo_readSentence 109 = .ok (.if_icmp .le 10, 3) := by decide +kernel
theorem nd_Mo_readSentence_112 : decode nc_Mo_readSentence 112 = .ok (.iload 8, 2) := by decide +kernel
theorem nd_Mo_readSentence_114 : decode nc_Mo_readSentence 114 = .ok (.iconst 2, 1) := by decide +kernel
theorem nd_Mo_readSentence_115 : decode nc_Mo_readSentence 115 = .ok (.isub, 1) := by decide +kernel
theorem nd_Mo_readSentence_116 : decode nc_Mo_readSentence 116 = .ok (.goto 5, 3) := by decide +kernel
theorem nd_Mo_readSentence_119 : decode nc_Mo_readSentence 119 = .ok (.iload 5, 2) := by decide +kernel
theorem nd_Mo_readSentence_121 : decode nc_Mo_readSentence 121 = .ok (.iload 8, 2) := by decide +kernel
theorem nd_Mo_readSentence_123 : decode nc_Mo_readSentence 123 = .ok (.invokevirtual 78, 3) := by decide +kernel
theorem nd_Mo_readSentence_126 : decode nc_Mo_readSentence 126 = .ok (.iastore, 1) := by decide +kernel
theorem nd_Mo_readSentence_127 : decode nc_Mo_readSentence 127 = .ok (.aload_n 0, 1) := by decide +kernel
theorem nd_Mo_readSentence_128 : decode nc_Mo_readSentence 128 = .ok (.getfield 25, 3) := by decide +kernel
theorem nd_Mo_readSentence_131 : decode nc_Mo_readSentence 131 = .ok (.iload 9, 2) := by decide +kernel
theorem nd_Mo_readSentence_133 : decode nc_Mo_readSentence 133 = .ok (.iconst 2, 1) := by decide +kernel
theorem nd_Mo_readSentence_134 : decode nc_Mo_readSentence 134 = .ok (.iadd, 1) := by decide +kernel
theorem nd_Mo_readSentence_135 : decode nc_Mo_readSentence 135 = .ok (.aload_n 0, 1) := by decide +kernel
theorem nd_Mo_readSentence_136 : decode nc_Mo_readSentence 136 = .ok (.bipush 60, 2) := by decide +kernel
theorem nd_Mo_readSentence_138 : decode nc_Mo_readSentence 138 = .ok (.iload 6, 2) := by decide +kernel
theorem nd_Mo_readSentence_140 : decode nc_Mo_readSentence 140 = .ok (.iload 7, 2) := by decide +kernel
theorem nd_Mo_readSentence_142 : decode nc_Mo_readSentence 142 = .ok (.invokevirtual 78, 3) := by decide +kernel
theorem nd_Mo_readSentence_145 : decode nc_Mo_readSentence 145 = .ok (.iastore, 1) := by decide +kernel
theorem nd_Mo_readSentence_146 : decode nc_Mo_readSentence 146 = .ok (.iload 5, 2) := by decide +kernel
theorem nd_Mo_readSentence_148 : decode nc_Mo_readSentence 148 = .ok (.istore 6, 2) := by decide +kernel
theorem nd_Mo_readSentence_150 : decode nc_Mo_readSentence 150 = .ok (.iload 8, 2) := by decide +kernel
theorem nd_Mo_readSentence_152 : decode nc_Mo_readSentence 152 = .ok (.istore 7, 2) := by decide +kernel
theorem nd_Mo_readSentence_154 : decode nc_Mo_readSentence 154 = .ok (.iload 8, 2) := by decide +kernel
theorem nd_Mo_readSentence_156 : decode nc_Mo_readSentence 156 = .ok (.istore 5, 2) := by decide +kernel
theorem nd_Mo_readSentence_158 : decode nc_Mo_readSentence 158 = .ok (.iload_n 3, 1) := by decide +kernel
theorem nd_Mo_readSentence_159 : decode nc_Mo_readSentence 159 = .ok (.ifCond .eq 85, 3) := by decide +kernel
theorem nd_Mo_readSentence_162 : decode nc_Mo_readSentence 162 = .ok (.aload_n 0, 1) := by decide +kernel
theorem nd_Mo_readSentence_163 : decode nc_Mo_readSentence 163 = .ok (.iload 5, 2) := by decide +kernel
theorem nd_Mo_readSentence_165 : decode nc_Mo_readSentence 165 = .ok (.bipush 47, 2) := by decide +kernel
theorem nd_Mo_readSentence_167 : decode nc_Mo_readSentence 167 = .ok (.invokevirtual 63, 3) := by decide +kernel
theorem nd_Mo_readSentence_170 : decode nc_Mo_readSentence 170 = .ok (.ifCond .eq 42, 3) := by decide +kernel
theorem nd_Mo_readSentence_173 : decode nc_Mo_readSentence 173 = .ok (.iload 5, 2) := by decide +kernel
theorem nd_Mo_readSentence_175 : decode nc_Mo_readSentence 175 = .ok (.iconst 1, 1) := by decide +kernel
theorem nd_Mo_readSentence_176 : decode nc_Mo_readSentence 176 = .ok (.iadd, 1) := by decide +kernel
theorem nd_Mo_readSentence_177 : decode nc_Mo_readSentence 177 = .ok (.aload_n 0, 1) := by decide +kernel
theorem nd_Mo_readSentence_178 : decode nc_Mo_readSentence 178 = .ok (.getfield 56, 3) := by decide +kernel
theorem nd_Mo_readSentence_181 : decode nc_Mo_readSentence 181 = .ok (.if_icmp .ge 31, 3) := by decide +kernel
theorem nd_Mo_readSentence_184 : decode nc_Mo_readSentence 184 = .ok (.aload_n 0, 1) := by decide +kernel
theorem nd_Mo_readSentence_185 : decode nc_Mo_readSentence 185 = .ok (.getfield 7, 3) := by decide +kernel
theorem nd_Mo_readSentence_188 : decode nc_Mo_readSentence 188 = .ok (.iload 5, 2) := by decide +kernel
theorem nd_Mo_readSentence_190 : decode nc_Mo_readSentence 190 = .ok (.iconst 1, 1) := by decide +kernel
theorem nd_Mo_readSentence_191 : decode nc_Mo_readSentence 191 = .ok (.iadd, 1) := by decide +kernel
theorem nd_Mo_readSentence_192 : decode nc_Mo_readSentence 192 = .ok (.iaload, 1) := by decide +kernel
theorem nd_Mo_readSentence_193 : decode nc_Mo_readSentence 193 = .ok (.bipush 65, 2) := by decide +kernel
theorem nd_Mo_readSentence_195 : decode nc_Mo_readSentence 195 = .ok (.if_icmp .lt 17, 3) := by decide +kernel
theorem nd_Mo_readSentence_198 : decode nc_Mo_readSentence 198 = .ok (.aload_n 0, 1) := by decide +kernel
theorem nd_Mo_readSentence_199 : decode nc_Mo_readSentence 199 = .ok (.getfield 7, 3) := by decide +kernel
theorem nd_Mo_readSentence_202 : decode nc_Mo_readSentence 202 = .ok (.iload 5, 2) := by decide +kernel
theorem nd_Mo_readSentence_204 : decode nc_Mo_readSentence 204 = .ok (.iconst 1, 1) := by decide +kernel
theorem nd_Mo_readSentence_205 : decode nc_Mo_readSentence 205 = .ok (.iadd, 1) := by decide +kernel
theorem nd_Mo_readSentence_206 : decode nc_Mo_readSentence 206 = .ok (.iaload, 1) := by decide +kernel
theorem nd_Mo_readSentence_207 : decode nc_Mo_readSentence 207 = .ok (.bipush 68, 2) := by decide +kernel
theorem nd_Mo_readSentence_209 : decode nc_Mo_readSentence 209 = .ok (.if_icmp .le 5, 3) := by decide +kernel
theorem nd_Mo_readSentence_212 : decode nc_Mo_readSentence 212 = .ok (.iconst (-1), 1) := by decide +kernel
theorem nd_Mo_readSentence_213 : decode nc_Mo_readSentence 213 = .ok (.ireturn, 1) := by decide +kernel
theorem nd_Mo_readSentence_214 : decode nc_Mo_readSentence 214 = .ok (.aload_n 0, 1) := by decide +kernel
theorem nd_Mo_readSentence_215 : decode nc_Mo_readSentence 215 = .ok (.getfield 28, 3) := by decide +kernel
theorem nd_Mo_readSentence_218 : decode nc_Mo_readSentence 218 = .ok (.bipush 6, 2) := by decide +kernel
theorem nd_Mo_readSentence_220 : decode nc_Mo_readSentence 220 = .ok (.iload_n 1, 1) := by decide +kernel
theorem nd_Mo_readSentence_221 : decode nc_Mo_readSentence 221 = .ok (.imul, 1) := by decide +kernel
theorem nd_Mo_readSentence_222 : decode nc_Mo_readSentence 222 = .ok (.iload 4, 2) := by decide +kernel
theorem nd_Mo_readSentence_224 : decode nc_Mo_readSentence 224 = .ok (.iadd, 1) := by decide +kernel
theorem nd_Mo_readSentence_225 : decode nc_Mo_readSentence 225 = .ok (.aload_n 0, 1) := by decide +kernel
theorem nd_Mo_readSentence_226 : decode nc_Mo_readSentence 226 = .ok (.getfield 7, 3) := by decide +kernel
theorem nd_Mo_readSentence_229 : decode nc_Mo_readSentence 229 = .ok (.iload 5, 2) := by decide +kernel
theorem nd_Mo_readSentence_231 : decode nc_Mo_readSentence 231 = .ok (.iconst 1, 1) := by decide +kernel
theorem nd_Mo_readSentence_232 : decode nc_Mo_readSentence 232 = .ok (.iadd, 1) := by decide +kernel
theorem nd_Mo_readSentence_233 : decode nc_Mo_readSentence 233 = .ok (.iaload, 1) := by decide +kernel
theorem nd_Mo_readSentence_234 : decode nc_Mo_readSentence 234 = .ok (.bipush 65, 2) := by decide +kernel
theorem nd_Mo_readSentence_236 : decode nc_Mo_readSentence 236 = .ok (.isub, 1) := by decide +kernel
theorem nd_Mo_readSentence_237 : decode nc_Mo_readSentence 237 = .ok (.iastore, 1) := by decide +kernel
theorem nd_Mo_readSentence_238 : decode nc_Mo_readSentence 238 = .ok (.iload 5, 2) := by decide +kernel
theorem nd_Mo_readSentence_240 : decode nc_Mo_readSentence 240 = .ok (.iconst 2, 1) := by decide +kernel
theorem nd_Mo_readSentence_241 : decode nc_Mo_readSentence 241 = .ok (.iadd, 1) := by decide +kernel
theorem nd_Mo_readSentence_242 : decode nc_Mo_readSentence 242 = .ok (.istore 5, 2) := by decide +kernel
theorem nd_Mo_readSentence_244 : decode nc_Mo_readSentence 244 = .ok (.iinc 4 1, 3) := by decide +kernel
theorem nd_Mo_readSentence_247 : decode nc_Mo_readSentence 247 = .ok (.aload_n 0, 1) := by decide +kernel
theorem nd_Mo_readSentence_248 : decode nc_Mo_readSentence 248 = .ok (.iload 5, 2) := by decide +kernel
theorem nd_Mo_readSentence_250 : decode nc_Mo_readSentence 250 = .ok (.invokevirtual 71, 3) := by decide +kernel
theorem nd_Mo_readSentence_253 : decode nc_Mo_readSentence 253 = .ok (.istore 10, 2) := by decide +kernel
theorem nd_Mo_readSentence_255 : decode nc_Mo_readSentence 255 = .ok (.iload 10, 2) := by decide +kernel
theorem nd_Mo_readSentence_257 : decode nc_Mo_readSentence 257 = .ok (.iload 5, 2) := by decide +kernel
theorem nd_Mo_readSentence_259 : decode nc_Mo_readSentence 259 = .ok (.if_icmp .ne 14, 3) := by decide +kernel
theorem nd_Mo_readSentence_262 : decode nc_Mo_readSentence 262 = .ok (.aload_n 0, 1) := by decide +kernel
theorem nd_Mo_readSentence_263 : decode nc_Mo_readSentence 263 = .ok (.iload 5, 2) := by decide +kernel
theorem nd_Mo_readSentence_265 : decode nc_Mo_readSentence 265 = .ok (.invokevirtual 74, 3) := by decide +kernel
theorem nd_Mo_readSentence_268 : decode nc_Mo_readSentence 268 = .ok (.ifCond .eq 5, 3) := by decide +kernel
theorem nd_Mo_readSentence_271 : decode nc_Mo_readSentence 271 = .ok (.iconst (-1), 1) := by decide +kernel
theorem nd_Mo_readSentence_272 : decode nc_Mo_readSentence 272 = .ok (.ireturn, 1) := by decide +kernel
theorem nd_Mo_readSentence_273 : decode nc_Mo_readSentence 273 = .ok (.iload 10, 2) := by decide +kernel
theorem nd_Mo_readSentence_275 : decode nc_Mo_readSentence 275 = .ok (.istore 5, 2) := by decide +kernel
theorem nd_Mo_readSentence_277 : decode nc_Mo_readSentence 277 = .ok (.goto (-259), 3) := by decide +kernel
theorem nd_Mo_readSentence_280 : decode nc_Mo_readSentence 280 = .ok (.aload_n 0, 1) := by decide +kernel
theorem nd_Mo_readSentence_281 : decode nc_Mo_readSentence 281 = .ok (.getfield 22, 3) := by decide +kernel
theorem nd_Mo_readSentence_284 : decode nc_Mo_readSentence 284 = .ok (.iload_n 1, 1) := by decide +kernel
theorem nd_Mo_readSentence_285 : decode nc_Mo_readSentence 285 = .ok (.iload 4, 2) := by decide +kernel
theorem nd_Mo_readSentence_287 : decode nc_Mo_readSentence 287 = .ok (.iastore, 1) := by decide +kernel
theorem nd_Mo_readSentence_288 : decode nc_Mo_readSentence 288 = .ok (.iload 4, 2) := by decide +kernel
theorem nd_Mo_readSentence_290 : decode nc_Mo_readSentence 290 = .ok (.ifCond .ne 7, 3) := by decide +kernel
theorem nd_Mo_readSentence_293 : decode nc_Mo_readSentence 293 = .ok (.iconst (-1), 1) := by decide +kernel
theorem nd_Mo_readSentence_294 : decode nc_Mo_readSentence 294 = .ok (.goto 5, 3) := by decide +kernel
theorem nd_Mo_readSentence_297 : decode nc_Mo_readSentence 297 = .ok (.iload 5, 2) := by decide +kernel
theorem nd_Mo_readSentence_299 : decode nc_Mo_readSentence 299 = .ok (.ireturn, 1) := by decide +kernel
theorem nd_Mo_take_0 : decode nc_Mo_take 0 = .ok (.aload_n 0, 1) := by decide +kernel
theorem nd_Mo_take_1 : decode nc_Mo_take 1 = .ok (.getfield 13, 3) := by decide +kernel
theorem nd_Mo_take_4 : decode nc_Mo_take 4 = .ok (.iload_n 1, 1) := by decide +kernel
theorem nd_Mo_take_5 : decode nc_Mo_take 5 = .ok (.aload_n 0, 1) := by decide +kernel
theorem nd_Mo_take_6 : decode nc_Mo_take 6 = .ok (.getfield 22, 3) := by decide +kernel
theorem nd_Mo_take_9 : decode nc_Mo_take 9 = .ok (.iload_n 1, 1) := by decide +kernel
theorem nd_Mo_take_10 : decode nc_Mo_take 10 = .ok (.iaload, 1) := by decide +kernel
theorem nd_Mo_take_11 : decode nc_Mo_take 11 = .ok (.iastore, 1) := by decide +kernel
theorem nd_Mo_take_12 : decode nc_Mo_take 12 = .ok (.iconst 0, 1) := by decide +kernel
theorem nd_Mo_take_13 : decode nc_Mo_take 13 = .ok (.istore_n 2, 1) := by decide +kernel
theorem nd_Mo_take_14 : decode nc_Mo_take 14 = .ok (.iload_n 2, 1) := by decide +kernel
theorem nd_Mo_take_15 : decode nc_Mo_take 15 = .ok (.bipush 18, 2) := by decide +kernel
theorem nd_Mo_take_17 : decode nc_Mo_take 17 = .ok (.if_icmp .ge 31, 3) := by decide +kernel
theorem nd_Mo_take_20 : decode nc_Mo_take 20 = .ok (.aload_n 0, 1) := by decide +kernel

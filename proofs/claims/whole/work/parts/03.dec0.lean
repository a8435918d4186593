theorem nd_LL_init_0 : decode nc_LL_init 0 = .ok (.aload_n 0, 1) := by decide +kernel
theorem nd_LL_init_1 : decode nc_LL_init 1 = .ok (.invokespecial 1, 3) := by decide +kernel
theorem nd_LL_init_4 : decode nc_LL_init 4 = .ok (.aload_n 0, 1) := by decide +kernel
theorem nd_LL_init_5 : decode nc_LL_init 5 = .ok (.new 7, 3) := by decide +kernel
theorem nd_LL_init_8 : decode nc_LL_init 8 = .ok (.dup, 1) := by decide +kernel
theorem nd_LL_init_9 : decode nc_LL_init 9 = .ok (.invokespecial 9, 3) := by decide +kernel
theorem nd_LL_init_12 : decode nc_LL_init 12 = .ok (.putfield 10, 3) := by decide +kernel
theorem nd_LL_init_15 : decode nc_LL_init 15 = .ok (.aload_n 0, 1) := by decide +kernel
theorem nd_LL_init_16 : decode nc_LL_init 16 = .ok (.new 16, 3) := by decide +kernel
theorem nd_LL_init_19 : decode nc_LL_init 19 = .ok (.dup, 1) := by decide +kernel
theorem nd_LL_init_20 : decode nc_LL_init 20 = .ok (.invokespecial 18, 3) := by decide +kernel
theorem nd_LL_init_23 : decode nc_LL_init 23 = .ok (.putfield 19, 3) := by decide +kernel
theorem nd_LL_init_26 : decode nc_LL_init 26 = .ok (.aload_n 0, 1) := by decide +kernel
theorem nd_LL_init_27 : decode nc_LL_init 27 = .ok (.new 23, 3) := by decide +kernel
theorem nd_LL_init_30 : decode nc_LL_init 30 = .ok (.dup, 1) := by decide +kernel
theorem nd_LL_init_31 : decode nc_LL_init 31 = .ok (.invokespecial 25, 3) := by decide +kernel
theorem nd_LL_init_34 : decode nc_LL_init 34 = .ok (.putfield 26, 3) := by decide +kernel
theorem nd_LL_init_37 : decode nc_LL_init 37 = .ok (.aload_n 0, 1) := by decide +kernel
theorem nd_LL_init_38 : decode nc_LL_init 38 = .ok (.new 23, 3) := by decide +kernel
theorem nd_LL_init_41 : decode nc_LL_init 41 = .ok (.dup, 1) := by decide +kernel
theorem nd_LL_init_42 : decode nc_LL_init 42 = .ok (.invokespecial 25, 3) := by decide +kernel
theorem nd_LL_init_45 : decode nc_LL_init 45 = .ok (.putfield 30, 3) := by decide +kernel
theorem nd_LL_init_48 : decode nc_LL_init 48 = .ok (.aload_n 0, 1) := by decide +kernel
theorem nd_LL_init_49 : decode nc_LL_init 49 = .ok (.new 33, 3) := by decide +kernel
theorem nd_LL_init_52 : decode nc_LL_init 52 = .ok (.dup, 1) := by decide +kernel
theorem nd_LL_init_53 : decode nc_LL_init 53 = .ok (.invokespecial 35, 3) := by decide +kernel
theorem nd_LL_init_56 : decode nc_LL_init 56 = .ok (.putfield 36, 3) := by decide +kernel
theorem nd_LL_init_59 : decode nc_LL_init 59 = .ok (.aload_n 0, 1) := by decide +kernel
theorem nd_LL_init_60 : decode nc_LL_init 60 = .ok (.new 33, 3) := by decide +kernel
theorem nd_LL_init_63 : decode nc_LL_init 63 = .ok (.dup, 1) := by decide +kernel
theorem nd_LL_init_64 : decode nc_LL_init 64 = .ok (.invokespecial 35, 3) := by decide +kernel
theorem nd_LL_init_67 : decode nc_LL_init 67 = .ok (.putfield 40, 3) := by decide +kernel
theorem nd_LL_init_70 : decode nc_LL_init 70 = .ok (.aload_n 0, 1) := by decide +kernel
theorem nd_LL_init_71 : decode nc_LL_init 71 = .ok (.new 43, 3) := by decide +kernel
theorem nd_LL_init_74 : decode nc_LL_init 74 = .ok (.dup, 1) := by decide +kernel
theorem nd_LL_init_75 : decode nc_LL_init 75 = .ok (.invokespecial 45, 3) := by decide +kernel
theorem nd_LL_init_78 : decode nc_LL_init 78 = .ok (.putfield 46, 3) := by decide +kernel
theorem nd_LL_init_81 : decode nc_LL_init 81 = .ok (.aload_n 0, 1) := by decide +kernel
theorem nd_LL_init_82 : decode nc_LL_init 82 = .ok (.new 43, 3) := by decide +kernel
theorem nd_LL_init_85 : decode nc_LL_init 85 = .ok (.dup, 1) := by decide +kernel
theorem nd_LL_init_86 : decode nc_LL_init 86 = .ok (.invokespecial 45, 3) := by decide +kernel
theorem nd_LL_init_89 : decode nc_LL_init 89 = .ok (.putfield 50, 3) := by decide +kernel
theorem nd_LL_init_92 : decode nc_LL_init 92 = .ok (.return_, 1) := by decide +kernel
theorem nd_LL_type_0 : decode nc_LL_type 0 = .ok (.aload_n 0, 1) := by decide +kernel
theorem nd_LL_type_1 : decode nc_LL_type 1 = .ok (.getfield 10, 3) := by decide +kernel
theorem nd_LL_type_4 : decode nc_LL_type 4 = .ok (.lload_n 1, 1) := by decide +kernel
theorem nd_LL_type_5 : decode nc_LL_type 5 = .ok (.iload_n 3, 1) := by decide +kernel
theorem nd_LL_type_6 : decode nc_LL_type 6 = .ok (.invokevirtual 53, 3) := by decide +kernel
theorem nd_LL_type_9 : decode nc_LL_type 9 = .ok (.ireturn, 1) := by decide +kernel
theorem nd_LL_cut_0 : decode nc_LL_cut 0 = .ok (.aload_n 0, 1) := by decide +kernel
theorem nd_LL_cut_1 : decode nc_LL_cut 1 = .ok (.getfield 10, 3) := by decide +kernel
theorem nd_LL_cut_4 : decode nc_LL_cut 4 = .ok (.iload_n 1, 1) := by decide +kernel
theorem nd_LL_cut_5 : decode nc_LL_cut 5 = .ok (.invokevirtual 57, 3) := by decide +kernel
theorem nd_LL_cut_8 : decode nc_LL_cut 8 = .ok (.ireturn, 1) := by decide +kernel
theorem nd_LL_load_0 : decode nc_LL_load 0 = .ok (.aload_n 0, 1) := by decide +kernel
theorem nd_LL_load_1 : decode nc_LL_load 1 = .ok (.getfield 10, 3) := by decide +kernel
theorem nd_LL_load_4 : decode nc_LL_load 4 = .ok (.aload_n 0, 1) := by decide +kernel
theorem nd_LL_load_5 : decode nc_LL_load 5 = .ok (.getfield 40, 3) := by decide +kernel
theorem nd_LL_load_8 : decode nc_LL_load 8 = .ok (.invokevirtual 61, 3) := by decide +kernel
theorem nd_LL_load_11 : decode nc_LL_load 11 = .ok (.ifCond .ne 13, 3) := by decide +kernel
theorem nd_LL_load_14 : decode nc_LL_load 14 = .ok (.new 65, 3) := by decide +kernel
theorem nd_LL_load_17 : decode nc_LL_load 17 = .ok (.dup, 1) := by decide +kernel
theorem nd_LL_load_18 : decode nc_LL_load 18 = .ok (.ldc 67, 2) := by decide +kernel
theorem nd_LL_load_20 : decode nc_LL_load 20 = .ok (.invokespecial 69, 3) := by decide +kernel
theorem nd_LL_load_23 : decode nc_LL_load 23 = .ok (.athrow, 1) := by decide +kernel
theorem nd_LL_load_24 : decode nc_LL_load 24 = .ok (.aload_n 0, 1) := by decide +kernel
theorem nd_LL_load_25 : decode nc_LL_load 25 = .ok (.getfield 36, 3) := by decide +kernel
theorem nd_LL_load_28 : decode nc_LL_load 28 = .ok (.astore_n 1, 1) := by decide +kernel
theorem nd_LL_load_29 : decode nc_LL_load 29 = .ok (.aload_n 0, 1) := by decide +kernel
theorem nd_LL_load_30 : decode nc_LL_load 30 = .ok (.aload_n 0, 1) := by decide +kernel
theorem nd_LL_load_31 : decode nc_LL_load 31 = .ok (.getfield 40, 3) := by decide +kernel
theorem nd_LL_load_34 : decode nc_LL_load 34 = .ok (.putfield 36, 3) := by decide +kernel
theorem nd_LL_load_37 : decode nc_LL_load 37 = .ok (.aload_n 0, 1) := by decide +kernel
theorem nd_LL_load_38 : decode nc_LL_load 38 = .ok (.aload_n 1, 1) := by decide +kernel
theorem nd_LL_load_39 : decode nc_LL_load 39 = .ok (.putfield 40, 3) := by decide +kernel
theorem nd_LL_load_42 : decode nc_LL_load 42 = .ok (.aload_n 0, 1) := by decide +kernel
theorem nd_LL_load_43 : decode nc_LL_load 43 = .ok (.getfield 10, 3) := by decide +kernel
theorem nd_LL_load_46 : decode nc_LL_load 46 = .ok (.iconst 0, 1) := by decide +kernel
theorem nd_LL_load_47 : decode nc_LL_load 47 = .ok (.invokevirtual 57, 3) := by decide +kernel
theorem nd_LL_load_50 : decode nc_LL_load 50 = .ok (.pop, 1) := by decide +kernel
theorem nd_LL_load_51 : decode nc_LL_load 51 = .ok (.aload_n 0, 1) := by decide +kernel
theorem nd_LL_load_52 : decode nc_LL_load 52 = .ok (.getfield 26, 3) := by decide +kernel
theorem nd_LL_load_55 : decode nc_LL_load 55 = .ok (.invokevirtual 72, 3) := by decide +kernel
theorem nd_LL_load_58 : decode nc_LL_load 58 = .ok (.aload_n 0, 1) := by decide +kernel
theorem nd_LL_load_59 : decode nc_LL_load 59 = .ok (.getfield 30, 3) := by decide +kernel
theorem nd_LL_load_62 : decode nc_LL_load 62 = .ok (.invokevirtual 72, 3) := by decide +kernel
theorem nd_LL_load_65 : decode nc_LL_load 65 = .ok (.aload_n 0, 1) := by decide +kernel
theorem nd_LL_load_66 : decode nc_LL_load 66 = .ok (.iconst 0, 1) := by decide +kernel
theorem nd_LL_load_67 : decode nc_LL_load 67 = .ok (.putfield 75, 3) := by decide +kernel
theorem nd_LL_load_70 : decode nc_LL_load 70 = .ok (.aload_n 0, 1) := by decide +kernel
theorem nd_LL_load_71 : decode nc_LL_load 71 = .ok (.iconst 0, 1) := by decide +kernel
theorem nd_LL_load_72 : decode nc_LL_load 72 = .ok (.putfield 79, 3) := by decide +kernel
theorem nd_LL_load_75 : decode nc_LL_load 75 = .ok (.aload_n 0, 1) := by decide +kernel
theorem nd_LL_load_76 : decode nc_LL_load 76 = .ok (.invokevirtual 82, 3) := by decide +kernel
theorem nd_LL_load_79 : decode nc_LL_load 79 = .ok (.aload_n 0, 1) := by decide +kernel
theorem nd_LL_load_80 : decode nc_LL_load 80 = .ok (.getfield 36, 3) := by decide +kernel
theorem nd_LL_load_83 : decode nc_LL_load 83 = .ok (.getfield 85, 3) := by decide +kernel
theorem nd_LL_load_86 : decode nc_LL_load 86 = .ok (.ireturn, 1) := by decide +kernel
theorem nd_LL_speak_0 : decode nc_LL_speak 0 = .ok (.aload_n 0, 1) := by decide +kernel
theorem nd_LL_speak_1 : decode nc_LL_speak 1 = .ok (.getfield 10, 3) := by decide +kernel
theorem nd_LL_speak_4 : decode nc_LL_speak 4 = .ok (.aload_n 0, 1) := by decide +kernel
theorem nd_LL_speak_5 : decode nc_LL_speak 5 = .ok (.getfield 50, 3) := by decide +kernel
theorem nd_LL_speak_8 : decode nc_LL_speak 8 = .ok (.invokevirtual 88, 3) := by decide +kernel
theorem nd_LL_speak_11 : decode nc_LL_speak 11 = .ok (.ifCond .ne 13, 3) := by decide +kernel
theorem nd_LL_speak_14 : decode nc_LL_speak 14 = .ok (.new 65, 3) := by decide +kernel
theorem nd_LL_speak_17 : decode nc_LL_speak 17 = .ok (.dup, 1) := by decide +kernel
theorem nd_LL_speak_18 : decode nc_LL_speak 18 = .ok (.ldc 92, 2) := by decide +kernel
theorem nd_LL_speak_20 : decode nc_LL_speak 20 = .ok (.invokespecial 69, 3) := by decide +kernel
theorem nd_LL_speak_23 : decode nc_LL_speak 23 = .ok (.athrow, 1) := by decide +kernel
theorem nd_LL_speak_24 : decode nc_LL_speak 24 = .ok (.aload_n 0, 1) := by decide +kernel
theorem nd_LL_speak_25 : decode nc_LL_speak 25 = .ok (.getfield 46, 3) := by decide +kernel
theorem nd_LL_speak_28 : decode nc_LL_speak 28 = .ok (.astore_n 1, 1) := by decide +kernel
theorem nd_LL_speak_29 : decode nc_LL_speak 29 = .ok (.aload_n 0, 1) := by decide +kernel
theorem nd_LL_speak_30 : decode nc_LL_speak 30 = .ok (.aload_n 0, 1) := by decide +kernel
theorem nd_LL_speak_31 : decode nc_LL_speak 31 = .ok (.getfield 50, 3) := by decide +kernel
theorem nd_LL_speak_34 : decode nc_LL_speak 34 = .ok (.putfield 46, 3) := by decide +kernel
theorem nd_LL_speak_37 : decode nc_LL_speak 37 = .ok (.aload_n 0, 1) := by decide +kernel
theorem nd_LL_speak_38 : decode nc_LL_speak 38 = .ok (.aload_n 1, 1) := by decide +kernel
theorem nd_LL_speak_39 : decode nc_LL_speak 39 = .ok (.putfield 50, 3) := by decide +kernel
theorem nd_LL_speak_42 : decode nc_LL_speak 42 = .ok (.aload_n 0, 1) := by decide +kernel
theorem nd_LL_speak_43 : decode nc_LL_speak 43 = .ok (.getfield 10, 3) := by decide +kernel
theorem nd_LL_speak_46 : decode nc_LL_speak 46 = .ok (.iconst 0, 1) := by decide +kernel
theorem nd_LL_speak_47 : decode nc_LL_speak 47 = .ok (.invokevirtual 57, 3) := by decide +kernel
theorem nd_LL_speak_50 : decode nc_LL_speak 50 = .ok (.pop, 1) := by decide +kernel
theorem nd_LL_speak_51 : decode nc_LL_speak 51 = .ok (.aload_n 0, 1) := by decide +kernel
theorem nd_LL_speak_52 : decode nc_LL_speak 52 = .ok (.invokevirtual 82, 3) := by decide +kernel
theorem nd_LL_speak_55 : decode nc_LL_speak 55 = .ok (.aload_n 0, 1) := by decide +kernel
theorem nd_LL_speak_56 : decode nc_LL_speak 56 = .ok (.getfield 46, 3) := by decide +kernel
theorem nd_LL_speak_59 : decode nc_LL_speak 59 = .ok (.getfield 94, 3) := by decide +kernel
theorem nd_LL_speak_62 : decode nc_LL_speak 62 = .ok (.ireturn, 1) := by decide +kernel
theorem nd_LL_sentences_0 : decode nc_LL_sentences 0 = .ok (.aload_n 0, 1) := by decide +kernel
theorem nd_LL_sentences_1 : decode nc_LL_sentences 1 = .ok (.getfield 36, 3) := by decide +kernel
theorem nd_LL_sentences_4 : decode nc_LL_sentences 4 = .ok (.getfield 85, 3) := by decide +kernel
theorem nd_LL_sentences_7 : decode nc_LL_sentences 7 = .ok (.ireturn, 1) := by decide +kernel
theorem nd_LL_words_0 : decode nc_LL_words 0 = .ok (.aload_n 0, 1) := by decide +kernel
theorem nd_LL_words_1 : decode nc_LL_words 1 = .ok (.iload_n 1, 1) := by decide +kernel
theorem nd_LL_words_2 : decode nc_LL_words 2 = .ok (.invokevirtual 95, 3) := by decide +kernel
theorem nd_LL_words_5 : decode nc_LL_words 5 = .ok (.getfield 94, 3) := by decide +kernel
theorem nd_LL_words_8 : decode nc_LL_words 8 = .ok (.ireturn, 1) := by decide +kernel
theorem nd_LL_given_0 : decode nc_LL_given 0 = .ok (.iload_n 1, 1) := by decide +kernel
theorem nd_LL_given_1 : decode nc_LL_given 1 = .ok (.iconst (-1), 1) := by decide +kernel
theorem nd_LL_given_2 : decode nc_LL_given 2 = .ok (.if_icmp .ne 13, 3) := by decide +kernel
theorem nd_LL_given_5 : decode nc_LL_given 5 = .ok (.new 99, 3) := by decide +kernel
theorem nd_LL_given_8 : decode nc_LL_given 8 = .ok (.dup, 1) := by decide +kernel
theorem nd_LL_given_9 : decode nc_LL_given 9 = .ok (.ldc 101, 2) := by decide +kernel
theorem nd_LL_given_11 : decode nc_LL_given 11 = .ok (.invokespecial 103, 3) := by decide +kernel
theorem nd_LL_given_14 : decode nc_LL_given 14 = .ok (.athrow, 1) := by decide +kernel
theorem nd_LL_given_15 : decode nc_LL_given 15 = .ok (.aload_n 0, 1) := by decide +kernel
theorem nd_LL_given_16 : decode nc_LL_given 16 = .ok (.iload_n 1, 1) := by decide +kernel
theorem nd_LL_given_17 : decode nc_LL_given 17 = .ok (.invokevirtual 95, 3) := by decide +kernel
theorem nd_LL_given_20 : decode nc_LL_given 20 = .ok (.astore_n 3, 1) := by decide +kernel
theorem nd_LL_given_21 : decode nc_LL_given 21 = .ok (.iload_n 2, 1) := by decide +kernel
theorem nd_LL_given_22 : decode nc_LL_given 22 = .ok (.aload_n 3, 1) := by decide +kernel
theorem nd_LL_given_23 : decode nc_LL_given 23 = .ok (.getfield 94, 3) := by decide +kernel
theorem nd_LL_given_26 : decode nc_LL_given 26 = .ok (.invokestatic 104, 3) := by decide +kernel
theorem nd_LL_given_29 : decode nc_LL_given 29 = .ok (.aload_n 3, 1) := by decide +kernel
theorem nd_LL_given_30 : decode nc_LL_given 30 = .ok (.getfield 108, 3) := by decide +kernel
theorem nd_LL_given_33 : decode nc_LL_given 33 = .ok (.iload_n 2, 1) := by decide +kernel
theorem nd_LL_given_34 : decode nc_LL_given 34 = .ok (.invokestatic 111, 3) := by decide +kernel
theorem nd_LL_given_37 : decode nc_LL_given 37 = .ok (.ireturn, 1) := by decide +kernel
theorem nd_LL_feature_0 : decode nc_LL_feature 0 = .ok (.aload_n 0, 1) := by decide +kernel
theorem nd_LL_feature_1 : decode nc_LL_feature 1 = .ok (.iload_n 1, 1) := by decide +kernel
theorem nd_LL_feature_2 : decode nc_LL_feature 2 = .ok (.invokevirtual 95, 3) := by decide +kernel
theorem nd_LL_feature_5 : decode nc_LL_feature 5 = .ok (.astore 4, 2) := by decide +kernel
theorem nd_LL_feature_7 : decode nc_LL_feature 7 = .ok (.iload_n 2, 1) := by decide +kernel
theorem nd_LL_feature_8 : decode nc_LL_feature 8 = .ok (.aload 4, 2) := by decide +kernel
theorem nd_LL_feature_10 : decode nc_LL_feature 10 = .ok (.getfield 94, 3) := by decide +kernel
theorem nd_LL_feature_13 : decode nc_LL_feature 13 = .ok (.invokestatic 104, 3) := by decide +kernel
theorem nd_LL_feature_16 : decode nc_LL_feature 16 = .ok (.iload_n 3, 1) := by decide +kernel
theorem nd_LL_feature_17 : decode nc_LL_feature 17 = .ok (.ifCond .lt 8, 3) := by decide +kernel
theorem nd_LL_feature_20 : decode nc_LL_feature 20 = .ok (.iload_n 3, 1) := by decide +kernel
theorem nd_LL_feature_21 : decode nc_LL_feature 21 = .ok (.iconst 3, 1) := by decide +kernel
theorem nd_LL_feature_22 : decode nc_LL_feature 22 = .ok (.if_icmp .lt 13, 3) := by decide +kernel
theorem nd_LL_feature_25 : decode nc_LL_feature 25 = .ok (.new 99, 3) := by decide +kernel
theorem nd_LL_feature_28 : decode nc_LL_feature 28 = .ok (.dup, 1) := by decide +kernel
theorem nd_LL_feature_29 : decode nc_LL_feature 29 = .ok (.ldc 115, 2) := by decide +kernel
theorem nd_LL_feature_31 : decode nc_LL_feature 31 = .ok (.invokespecial 103, 3) := by decide +kernel
theorem nd_LL_feature_34 : decode nc_LL_feature 34 = .ok (.athrow, 1) := by decide +kernel
theorem nd_LL_feature_35 : decode nc_LL_feature 35 = .ok (.aload 4, 2) := by decide +kernel
theorem nd_LL_feature_37 : decode nc_LL_feature 37 = .ok (.iload_n 2, 1) := by decide +kernel
theorem nd_LL_feature_38 : decode nc_LL_feature 38 = .ok (.iload_n 3, 1) := by decide +kernel
theorem nd_LL_feature_39 : decode nc_LL_feature 39 = .ok (.invokevirtual 117, 3) := by decide +kernel
theorem nd_LL_feature_42 : decode nc_LL_feature 42 = .ok (.ireturn, 1) := by decide +kernel
theorem nd_LL_learn_0 : decode nc_LL_learn 0 = .ok (.iload_n 1, 1) := by decide +kernel
theorem nd_LL_learn_1 : decode nc_LL_learn 1 = .ok (.iconst 1, 1) := by decide +kernel
theorem nd_LL_learn_2 : decode nc_LL_learn 2 = .ok (.if_icmp .lt 9, 3) := by decide +kernel
theorem nd_LL_learn_5 : decode nc_LL_learn 5 = .ok (.iload_n 1, 1) := by decide +kernel
theorem nd_LL_learn_6 : decode nc_LL_learn 6 = .ok (.bipush 6, 2) := by decide +kernel
theorem nd_LL_learn_8 : decode nc_LL_learn 8 = .ok (.if_icmp .le 13, 3) := by decide +kernel
theorem nd_LL_learn_11 : decode nc_LL_learn 11 = .ok (.new 65, 3) := by decide +kernel
theorem nd_LL_learn_14 : decode nc_LL_learn 14 = .ok (.dup, 1) := by decide +kernel
theorem nd_LL_learn_15 : decode nc_LL_learn 15 = .ok (.ldc 120, 2) := by decide +kernel
theorem nd_LL_learn_17 : decode nc_LL_learn 17 = .ok (.invokespecial 69, 3) := by decide +kernel
theorem nd_LL_learn_20 : decode nc_LL_learn 20 = .ok (.athrow, 1) := by decide +kernel
theorem nd_LL_learn_21 : decode nc_LL_learn 21 = .ok (.aload_n 0, 1) := by decide +kernel
theorem nd_LL_learn_22 : decode nc_LL_learn 22 = .ok (.getfield 36, 3) := by decide +kernel
theorem nd_LL_learn_25 : decode nc_LL_learn 25 = .ok (.getfield 85, 3) := by decide +kernel
theorem nd_LL_learn_28 : decode nc_LL_learn 28 = .ok (.ifCond .ne 13, 3) := by decide +kernel
theorem nd_LL_learn_31 : decode nc_LL_learn 31 = .ok (.new 122, 3) := by decide +kernel
theorem nd_LL_learn_34 : decode nc_LL_learn 34 = .ok (.dup, 1) := by decide +kernel
theorem nd_LL_learn_35 : decode nc_LL_learn 35 = .ok (.ldc 124, 2) := by decide +kernel
theorem nd_LL_learn_37 : decode nc_LL_learn 37 = .ok (.invokespecial 126, 3) := by decide +kernel
theorem nd_LL_learn_40 : decode nc_LL_learn 40 = .ok (.athrow, 1) := by decide +kernel
theorem nd_LL_learn_41 : decode nc_LL_learn 41 = .ok (.aload_n 0, 1) := by decide +kernel
theorem nd_LL_learn_42 : decode nc_LL_learn 42 = .ok (.invokevirtual 127, 3) := by decide +kernel
theorem nd_LL_learn_45 : decode nc_LL_learn 45 = .ok (.istore_n 2, 1) := by decide +kernel
theorem nd_LL_learn_46 : decode nc_LL_learn 46 = .ok (.iconst 1, 1) := by decide +kernel
theorem nd_LL_learn_47 : decode nc_LL_learn 47 = .ok (.istore_n 3, 1) := by decide +kernel
theorem nd_LL_learn_48 : decode nc_LL_learn 48 = .ok (.iload_n 3, 1) := by decide +kernel
theorem nd_LL_learn_49 : decode nc_LL_learn 49 = .ok (.iload_n 1, 1) := by decide +kernel
theorem nd_LL_learn_50 : decode nc_LL_learn 50 = .ok (.if_icmp .ge 18, 3) := by decide +kernel
theorem nd_LL_learn_53 : decode nc_LL_learn 53 = .ok (.iload_n 2, 1) := by decide +kernel
theorem nd_LL_learn_54 : decode nc_LL_learn 54 = .ok (.ifCond .le 14, 3) := by decide +kernel
theorem nd_LL_learn_57 : decode nc_LL_learn 57 = .ok (.aload_n 0, 1) := by decide +kernel
theorem nd_LL_learn_58 : decode nc_LL_learn 58 = .ok (.invokevirtual 127, 3) := by decide +kernel
theorem nd_LL_learn_61 : decode nc_LL_learn 61 = .ok (.istore_n 2, 1) := by decide +kernel
theorem nd_LL_learn_62 : decode nc_LL_learn 62 = .ok (.iinc 3 1, 3) := by decide +kernel
theorem nd_LL_learn_65 : decode nc_LL_learn 65 = .ok (.goto (-17), 3) := by decide +kernel
theorem nd_LL_learn_68 : decode nc_LL_learn 68 = .ok (.iload_n 2, 1) := by decide +kernel
theorem nd_LL_learn_69 : decode nc_LL_learn 69 = .ok (.ireturn, 1) := by decide +kernel
theorem nd_LL_mistakes_0 : decode nc_LL_mistakes 0 = .ok (.aload_n 0, 1) := by decide +kernel
theorem nd_LL_mistakes_1 : decode nc_LL_mistakes 1 = .ok (.getfield 75, 3) := by decide +kernel
theorem nd_LL_mistakes_4 : decode nc_LL_mistakes 4 = .ok (.ireturn, 1) := by decide +kernel
theorem nd_LL_passes_0 : decode nc_LL_passes 0 = .ok (.aload_n 0, 1) := by decide +kernel
theorem nd_LL_passes_1 : decode nc_LL_passes 1 = .ok (.getfield 79, 3) := by decide +kernel
theorem nd_LL_passes_4 : decode nc_LL_passes 4 = .ok (.ireturn, 1) := by decide +kernel
theorem nd_LL_weight_0 : decode nc_LL_weight 0 = .ok (.iload_n 1, 1) := by decide +kernel
theorem nd_LL_weight_1 : decode nc_LL_weight 1 = .ok (.ifCond .lt 18, 3) := by decide +kernel
theorem nd_LL_weight_4 : decode nc_LL_weight 4 = .ok (.iload_n 1, 1) := by decide +kernel
theorem nd_LL_weight_5 : decode nc_LL_weight 5 = .ok (.bipush 37, 2) := by decide +kernel
theorem nd_LL_weight_7 : decode nc_LL_weight 7 = .ok (.if_icmp .ge 12, 3) := by decide +kernel
theorem nd_LL_weight_10 : decode nc_LL_weight 10 = .ok (.iload_n 2, 1) := by decide +kernel
theorem nd_LL_weight_11 : decode nc_LL_weight 11 = .ok (.ifCond .lt 8, 3) := by decide +kernel
theorem nd_LL_weight_14 : decode nc_LL_weight 14 = .ok (.iload_n 2, 1) := by decide +kernel
theorem nd_LL_weight_15 : decode nc_LL_weight 15 = .ok (.iconst 4, 1) := by decide +kernel
theorem nd_LL_weight_16 : decode nc_LL_weight 16 = .ok (.if_icmp .lt 13, 3) := by decide +kernel
theorem nd_LL_weight_19 : decode nc_LL_weight 19 = .ok (.new 99, 3) := by decide +kernel
theorem nd_LL_weight_22 : decode nc_LL_weight 22 = .ok (.dup, 1) := by decide +kernel
theorem nd_LL_weight_23 : decode nc_LL_weight 23 = .ok (.ldc 131, 2) := by decide +kernel
theorem nd_LL_weight_25 : decode nc_LL_weight 25 = .ok (.invokespecial 103, 3) := by decide +kernel
theorem nd_LL_weight_28 : decode nc_LL_weight 28 = .ok (.athrow, 1) := by decide +kernel
theorem nd_LL_weight_29 : decode nc_LL_weight 29 = .ok (.aload_n 0, 1) := by decide +kernel
theorem nd_LL_weight_30 : decode nc_LL_weight 30 = .ok (.iload_n 3, 1) := by decide +kernel
theorem nd_LL_weight_31 : decode nc_LL_weight 31 = .ok (.invokevirtual 133, 3) := by decide +kernel
theorem nd_LL_weight_34 : decode nc_LL_weight 34 = .ok (.iload_n 1, 1) := by decide +kernel
theorem nd_LL_weight_35 : decode nc_LL_weight 35 = .ok (.iload_n 2, 1) := by decide +kernel
theorem nd_LL_weight_36 : decode nc_LL_weight 36 = .ok (.invokevirtual 137, 3) := by decide +kernel
theorem nd_LL_weight_39 : decode nc_LL_weight 39 = .ok (.lreturn, 1) := by decide +kernel
theorem nd_LL_decode_0 : decode nc_LL_decode 0 = .ok (.aload_n 0, 1) := by decide +kernel
theorem nd_LL_decode_1 : decode nc_LL_decode 1 = .ok (.iload_n 1, 1) := by decide +kernel
theorem nd_LL_decode_2 : decode nc_LL_decode 2 = .ok (.invokevirtual 95, 3) := by decide +kernel
theorem nd_LL_decode_5 : decode nc_LL_decode 5 = .ok (.astore 4, 2) := by decide +kernel
theorem nd_LL_decode_7 : decode nc_LL_decode 7 = .ok (.aload_n 0, 1) := by decide +kernel
theorem nd_LL_decode_8 : decode nc_LL_decode 8 = .ok (.getfield 19, 3) := by decide +kernel
theorem nd_LL_decode_11 : decode nc_LL_decode 11 = .ok (.aload 4, 2) := by decide +kernel
theorem nd_LL_decode_13 : decode nc_LL_decode 13 = .ok (.aload_n 0, 1) := by decide +kernel
theorem nd_LL_decode_14 : decode nc_LL_decode 14 = .ok (.iload_n 2, 1) := by decide +kernel
theorem nd_LL_decode_15 : decode nc_LL_decode 15 = .ok (.invokevirtual 133, 3) := by decide +kernel
theorem nd_LL_decode_18 : decode nc_LL_decode 18 = .ok (.invokevirtual 141, 3) := by decide +kernel
theorem nd_LL_decode_21 : decode nc_LL_decode 21 = .ok (.astore 5, 2) := by decide +kernel
theorem nd_LL_decode_23 : decode nc_LL_decode 23 = .ok (.iload_n 3, 1) := by decide +kernel
theorem nd_LL_decode_24 : decode nc_LL_decode 24 = .ok (.ifCond .eq 7, 3) := by decide +kernel
theorem nd_LL_decode_27 : decode nc_LL_decode 27 = .ok (.iconst 1, 1) := by decide +kernel
theorem nd_LL_decode_28 : decode nc_LL_decode 28 = .ok (.goto 4, 3) := by decide +kernel
theorem nd_LL_decode_31 : decode nc_LL_decode 31 = .ok (.iconst 0, 1) := by decide +kernel
theorem nd_LL_decode_32 : decode nc_LL_decode 32 = .ok (.istore 6, 2) := by decide +kernel
theorem nd_LL_decode_34 : decode nc_LL_decode 34 = .ok (.aload_n 0, 1) := by decide +kernel
theorem nd_LL_decode_35 : decode nc_LL_decode 35 = .ok (.aload 4, 2) := by decide +kernel
theorem nd_LL_decode_37 : decode nc_LL_decode 37 = .ok (.getfield 94, 3) := by decide +kernel
theorem nd_LL_decode_40 : decode nc_LL_decode 40 = .ok (.putfield 145, 3) := by decide +kernel
theorem nd_LL_decode_43 : decode nc_LL_decode 43 = .ok (.aload_n 0, 1) := by decide +kernel
theorem nd_LL_decode_44 : decode nc_LL_decode 44 = .ok (.aload 5, 2) := by decide +kernel
theorem nd_LL_decode_46 : decode nc_LL_decode 46 = .ok (.getfield 148, 3) := by decide +kernel
theorem nd_LL_decode_49 : decode nc_LL_decode 49 = .ok (.iload 6, 2) := by decide +kernel
theorem nd_LL_decode_51 : decode nc_LL_decode 51 = .ok (.iaload, 1) := by decide +kernel
theorem nd_LL_decode_52 : decode nc_LL_decode 52 = .ok (.putfield 154, 3) := by decide +kernel
theorem nd_LL_decode_55 : decode nc_LL_decode 55 = .ok (.aload 5, 2) := by decide +kernel
theorem nd_LL_decode_57 : decode nc_LL_decode 57 = .ok (.getfield 157, 3) := by decide +kernel
theorem nd_LL_decode_60 : decode nc_LL_decode 60 = .ok (.iload 6, 2) := by decide +kernel
theorem nd_LL_decode_62 : decode nc_LL_decode 62 = .ok (.laload, 1) := by decide +kernel
theorem nd_LL_decode_63 : decode nc_LL_decode 63 = .ok (.lreturn, 1) := by decide +kernel
theorem nd_LL_label_0 : decode nc_LL_label 0 = .ok (.iload_n 1, 1) := by decide +kernel
theorem nd_LL_label_1 : decode nc_LL_label 1 = .ok (.aload_n 0, 1) := by decide +kernel
theorem nd_LL_label_2 : decode nc_LL_label 2 = .ok (.getfield 145, 3) := by decide +kernel
theorem nd_LL_label_5 : decode nc_LL_label 5 = .ok (.invokestatic 104, 3) := by decide +kernel
theorem nd_LL_label_8 : decode nc_LL_label 8 = .ok (.aload_n 0, 1) := by decide +kernel
theorem nd_LL_label_9 : decode nc_LL_label 9 = .ok (.getfield 154, 3) := by decide +kernel
theorem nd_LL_label_12 : decode nc_LL_label 12 = .ok (.iload_n 1, 1) := by decide +kernel
theorem nd_LL_label_13 : decode nc_LL_label 13 = .ok (.invokestatic 111, 3) := by decide +kernel
theorem nd_LL_label_16 : decode nc_LL_label 16 = .ok (.ireturn, 1) := by decide +kernel
theorem nd_LL_score_0 : decode nc_LL_score 0 = .ok (.aload_n 0, 1) := by decide +kernel
theorem nd_LL_score_1 : decode nc_LL_score 1 = .ok (.iload_n 3, 1) := by decide +kernel
theorem nd_LL_score_2 : decode nc_LL_score 2 = .ok (.invokevirtual 133, 3) := by decide +kernel
theorem nd_LL_score_5 : decode nc_LL_score 5 = .ok (.aload_n 0, 1) := by decide +kernel
theorem nd_LL_score_6 : decode nc_LL_score 6 = .ok (.iload_n 1, 1) := by decide +kernel
theorem nd_LL_score_7 : decode nc_LL_score 7 = .ok (.invokevirtual 95, 3) := by decide +kernel
theorem nd_LL_score_10 : decode nc_LL_score 10 = .ok (.iload_n 2, 1) := by decide +kernel
theorem nd_LL_score_11 : decode nc_LL_score 11 = .ok (.invokevirtual 161, 3) := by decide +kernel
theorem nd_LL_score_14 : decode nc_LL_score 14 = .ok (.lreturn, 1) := by decide +kernel
theorem nd_LL_errors_0 : decode nc_LL_errors 0 = .ok (.iconst 0, 1) := by decide +kernel
theorem nd_LL_errors_1 : decode nc_LL_errors 1 = .ok (.istore_n 2, 1) := by decide +kernel
theorem nd_LL_errors_2 : decode nc_LL_errors 2 = .ok (.iconst 0, 1) := by decide +kernel
theorem nd_LL_errors_3 : decode nc_LL_errors 3 = .ok (.istore_n 3, 1) := by decide +kernel
theorem nd_LL_errors_4 : decode nc_LL_errors 4 = .ok (.iload_n 3, 1) := by decide +kernel
theorem nd_LL_errors_5 : decode nc_LL_errors 5 = .ok (.aload_n 0, 1) := by decide +kernel
theorem nd_LL_errors_6 : decode nc_LL_errors 6 = .ok (.getfield 36, 3) := by decide +kernel
theorem nd_LL_errors_9 : decode nc_LL_errors 9 = .ok (.getfield 85, 3) := by decide +kernel
theorem nd_LL_errors_12 : decode nc_LL_errors 12 = .ok (.if_icmp .ge 59, 3) := by decide +kernel
theorem nd_LL_errors_15 : decode nc_LL_errors 15 = .ok (.aload_n 0, 1) := by decide +kernel
theorem nd_LL_errors_16 : decode nc_LL_errors 16 = .ok (.getfield 36, 3) := by decide +kernel
theorem nd_LL_errors_19 : decode nc_LL_errors 19 = .ok (.getfield 165, 3) := by decide +kernel
theorem nd_LL_errors_22 : decode nc_LL_errors 22 = .ok (.iload_n 3, 1) := by decide +kernel
theorem nd_LL_errors_23 : decode nc_LL_errors 23 = .ok (.aaload, 1) := by decide +kernel
theorem nd_LL_errors_24 : decode nc_LL_errors 24 = .ok (.astore 4, 2) := by decide +kernel
theorem nd_LL_errors_26 : decode nc_LL_errors 26 = .ok (.aload_n 0, 1) := by decide +kernel
theorem nd_LL_errors_27 : decode nc_LL_errors 27 = .ok (.getfield 19, 3) := by decide +kernel
theorem nd_LL_errors_30 : decode nc_LL_errors 30 = .ok (.aload 4, 2) := by decide +kernel
theorem nd_LL_errors_32 : decode nc_LL_errors 32 = .ok (.aload_n 0, 1) := by decide +kernel
theorem nd_LL_errors_33 : decode nc_LL_errors 33 = .ok (.iload_n 1, 1) := by decide +kernel
theorem nd_LL_errors_34 : decode nc_LL_errors 34 = .ok (.invokevirtual 133, 3) := by decide +kernel
theorem nd_LL_errors_37 : decode nc_LL_errors 37 = .ok (.invokevirtual 141, 3) := by decide +kernel
theorem nd_LL_errors_40 : decode nc_LL_errors 40 = .ok (.getfield 148, 3) := by decide +kernel
theorem nd_LL_errors_43 : decode nc_LL_errors 43 = .ok (.iconst 0, 1) := by decide +kernel
theorem nd_LL_errors_44 : decode nc_LL_errors 44 = .ok (.iaload, 1) := by decide +kernel
theorem nd_LL_errors_45 : decode nc_LL_errors 45 = .ok (.istore 5, 2) := by decide +kernel
theorem nd_LL_errors_47 : decode nc_LL_errors 47 = .ok (.iload_n 2, 1) := by decide +kernel
theorem nd_LL_errors_48 : decode nc_LL_errors 48 = .ok (.aload 4, 2) := by decide +kernel
theorem nd_LL_errors_50 : decode nc_LL_errors 50 = .ok (.getfield 94, 3) := by decide +kernel
theorem nd_LL_errors_53 : decode nc_LL_errors 53 = .ok (.iload 5, 2) := by decide +kernel
theorem nd_LL_errors_55 : decode nc_LL_errors 55 = .ok (.aload 4, 2) := by decide +kernel
theorem nd_LL_errors_57 : decode nc_LL_errors 57 = .ok (.getfield 108, 3) := by decide +kernel
theorem nd_LL_errors_60 : decode nc_LL_errors 60 = .ok (.invokestatic 169, 3) := by decide +kernel
theorem nd_LL_errors_63 : decode nc_LL_errors 63 = .ok (.iadd, 1) := by decide +kernel
theorem nd_LL_errors_64 : decode nc_LL_errors 64 = .ok (.istore_n 2, 1) := by decide +kernel
theorem nd_LL_errors_65 : decode nc_LL_errors 65 = .ok (.iinc 3 1, 3) := by decide +kernel
theorem nd_LL_errors_68 : decode nc_LL_errors 68 = .ok (.goto (-64), 3) := by decide +kernel
theorem nd_LL_errors_71 : decode nc_LL_errors 71 = .ok (.iload_n 2, 1) := by decide +kernel
theorem nd_LL_errors_72 : decode nc_LL_errors 72 = .ok (.ireturn, 1) := by decide +kernel
theorem nd_LL_sentenceNumbered_0 : decode nc_LL_sentenceNumbered 0 = .ok (.iload_n 1, 1) := by decide +kernel
theorem nd_LL_sentenceNumbered_1 : decode nc_LL_sentenceNumbered 1 = .ok (.iconst (-1), 1) := by decide +kernel
theorem nd_LL_sentenceNumbered_2 : decode nc_LL_sentenceNumbered 2 = .ok (.if_icmp .ne 18, 3) := by decide +kernel
theorem nd_LL_sentenceNumbered_5 : decode nc_LL_sentenceNumbered 5 = .ok (.aload_n 0, 1) := by decide +kernel
theorem nd_LL_sentenceNumbered_6 : decode nc_LL_sentenceNumbered 6 = .ok (.getfield 46, 3) := by decide +kernel
theorem nd_LL_sentenceNumbered_9 : decode nc_LL_sentenceNumbered 9 = .ok (.getfield 94, 3) := by decide +kernel
theorem nd_LL_sentenceNumbered_12 : decode nc_LL_sentenceNumbered 12 = .ok (.ifCond .le 8, 3) := by decide +kernel
theorem nd_LL_sentenceNumbered_15 : decode nc_LL_sentenceNumbered 15 = .ok (.aload_n 0, 1) := by decide +kernel
theorem nd_LL_sentenceNumbered_16 : decode nc_LL_sentenceNumbered 16 = .ok (.getfield 46, 3) := by decide +kernel
theorem nd_LL_sentenceNumbered_19 : decode nc_LL_sentenceNumbered 19 = .ok (.areturn, 1) := by decide +kernel
theorem nd_LL_sentenceNumbered_20 : decode nc_LL_sentenceNumbered 20 = .ok (.iload_n 1, 1) := by decide +kernel
theorem nd_LL_sentenceNumbered_21 : decode nc_LL_sentenceNumbered 21 = .ok (.ifCond .lt 14, 3) := by decide +kernel
theorem nd_LL_sentenceNumbered_24 : decode nc_LL_sentenceNumbered 24 = .ok (.iload_n 1, 1) := by decide +kernel
theorem nd_LL_sentenceNumbered_25 : decode nc_LL_sentenceNumbered 25 = .ok (.aload_n 0, 1) := by decide +kernel
theorem nd_LL_sentenceNumbered_26 : decode nc_LL_sentenceNumbered 26 = .ok (.getfield 36, 3) := by decide +kernel
theorem nd_LL_sentenceNumbered_29 : decode nc_LL_sentenceNumbered 29 = .ok (.getfield 85, 3) := by decide +kernel
theorem nd_LL_sentenceNumbered_32 : decode nc_LL_sentenceNumbered 32 = .ok (.if_icmp .lt 13, 3) := by decide +kernel
theorem nd_LL_sentenceNumbered_35 : decode nc_LL_sentenceNumbered 35 = .ok (.new 99, 3) := by decide +kernel
theorem nd_LL_sentenceNumbered_38 : decode nc_LL_sentenceNumbered 38 = .ok (.dup, 1) := by decide +kernel
theorem nd_LL_sentenceNumbered_39 : decode nc_LL_sentenceNumbered 39 = .ok (.ldc 173, 2) := by decide +kernel
theorem nd_LL_sentenceNumbered_41 : decode nc_LL_sentenceNumbered 41 = .ok (.invokespecial 103, 3) := by decide +kernel
theorem nd_LL_sentenceNumbered_44 : decode nc_LL_sentenceNumbered 44 = .ok (.athrow, 1) := by decide +kernel
theorem nd_LL_sentenceNumbered_45 : decode nc_LL_sentenceNumbered 45 = .ok (.aload_n 0, 1) := by decide +kernel
theorem nd_LL_sentenceNumbered_46 : decode nc_LL_sentenceNumbered 46 = .ok (.getfield 36, 3) := by decide +kernel
theorem nd_LL_sentenceNumbered_49 : decode nc_LL_sentenceNumbered 49 = .ok (.getfield 165, 3) := by decide +kernel
theorem nd_LL_sentenceNumbered_52 : decode nc_LL_sentenceNumbered 52 = .ok (.iload_n 1, 1) := by decide +kernel
theorem nd_LL_sentenceNumbered_53 : decode nc_LL_sentenceNumbered 53 = .ok (.aaload, 1) := by decide +kernel
theorem nd_LL_sentenceNumbered_54 : decode nc_LL_sentenceNumbered 54 = .ok (.areturn, 1) := by decide +kernel
theorem nd_LL_forgetDecoding_0 : decode nc_LL_forgetDecoding 0 = .ok (.aload_n 0, 1) := by decide +kernel
theorem nd_LL_forgetDecoding_1 : decode nc_LL_forgetDecoding 1 = .ok (.iconst 0, 1) := by decide +kernel
theorem nd_LL_forgetDecoding_2 : decode nc_LL_forgetDecoding 2 = .ok (.putfield 145, 3) := by decide +kernel
theorem nd_LL_forgetDecoding_5 : decode nc_LL_forgetDecoding 5 = .ok (.aload_n 0, 1) := by decide +kernel
theorem nd_LL_forgetDecoding_6 : decode nc_LL_forgetDecoding 6 = .ok (.iconst 0, 1) := by decide +kernel
theorem nd_LL_forgetDecoding_7 : decode nc_LL_forgetDecoding 7 = .ok (.putfield 154, 3) := by decide +kernel
theorem nd_LL_forgetDecoding_10 : decode nc_LL_forgetDecoding 10 = .ok (.return_, 1) := by decide +kernel
theorem nd_LL_weightsOrTotals_0 : decode nc_LL_weightsOrTotals 0 = .ok (.iload_n 1, 1) := by decide +kernel
theorem nd_LL_weightsOrTotals_1 : decode nc_LL_weightsOrTotals 1 = .ok (.ifCond .eq 10, 3) := by decide +kernel
theorem nd_LL_weightsOrTotals_4 : decode nc_LL_weightsOrTotals 4 = .ok (.aload_n 0, 1) := by decide +kernel
theorem nd_LL_weightsOrTotals_5 : decode nc_LL_weightsOrTotals 5 = .ok (.getfield 30, 3) := by decide +kernel
theorem nd_LL_weightsOrTotals_8 : decode nc_LL_weightsOrTotals 8 = .ok (.goto 7, 3) := by decide +kernel
theorem nd_LL_weightsOrTotals_11 : decode nc_LL_weightsOrTotals 11 = .ok (.aload_n 0, 1) := by decide +kernel
theorem nd_LL_weightsOrTotals_12 : decode nc_LL_weightsOrTotals 12 = .ok (.getfield 26, 3) := by decide +kernel
theorem nd_LL_weightsOrTotals_15 : decode nc_LL_weightsOrTotals 15 = .ok (.areturn, 1) := by decide +kernel
theorem nd_LL_learnCorpus_0 : decode nc_LL_learnCorpus 0 = .ok (.iconst 0, 1) := by decide +kernel
theorem nd_LL_learnCorpus_1 : decode nc_LL_learnCorpus 1 = .ok (.istore_n 1, 1) := by decide +kernel
theorem nd_LL_learnCorpus_2 : decode nc_LL_learnCorpus 2 = .ok (.iconst 0, 1) := by decide +kernel
theorem nd_LL_learnCorpus_3 : decode nc_LL_learnCorpus 3 = .ok (.istore_n 2, 1) := by decide +kernel
theorem nd_LL_learnCorpus_4 : decode nc_LL_learnCorpus 4 = .ok (.iload_n 2, 1) := by decide +kernel
theorem nd_LL_learnCorpus_5 : decode nc_LL_learnCorpus 5 = .ok (.aload_n 0, 1) := by decide +kernel
theorem nd_LL_learnCorpus_6 : decode nc_LL_learnCorpus 6 = .ok (.getfield 36, 3) := by decide +kernel
theorem nd_LL_learnCorpus_9 : decode nc_LL_learnCorpus 9 = .ok (.getfield 85, 3) := by decide +kernel
theorem nd_LL_learnCorpus_12 : decode nc_LL_learnCorpus 12 = .ok (.if_icmp .ge 28, 3) := by decide +kernel
theorem nd_LL_learnCorpus_15 : decode nc_LL_learnCorpus 15 = .ok (.aload_n 0, 1) := by decide +kernel
theorem nd_LL_learnCorpus_16 : decode nc_LL_learnCorpus 16 = .ok (.aload_n 0, 1) := by decide +kernel
theorem nd_LL_learnCorpus_17 : decode nc_LL_learnCorpus 17 = .ok (.getfield 36, 3) := by decide +kernel
theorem nd_LL_learnCorpus_20 : decode nc_LL_learnCorpus 20 = .ok (.getfield 165, 3) := by decide +kernel
theorem nd_LL_learnCorpus_23 : decode nc_LL_learnCorpus 23 = .ok (.iload_n 2, 1) := by decide +kernel
theorem nd_LL_learnCorpus_24 : decode nc_LL_learnCorpus 24 = .ok (.aaload, 1) := by decide +kernel
theorem nd_LL_learnCorpus_25 : decode nc_LL_learnCorpus 25 = .ok (.invokevirtual 175, 3) := by decide +kernel
theorem nd_LL_learnCorpus_28 : decode nc_LL_learnCorpus 28 = .ok (.ifCond .eq 6, 3) := by decide +kernel
theorem nd_LL_learnCorpus_31 : decode nc_LL_learnCorpus 31 = .ok (.iinc 1 1, 3) := by decide +kernel
theorem nd_LL_learnCorpus_34 : decode nc_LL_learnCorpus 34 = .ok (.iinc 2 1, 3) := by decide +kernel
theorem nd_LL_learnCorpus_37 : decode nc_LL_learnCorpus 37 = .ok (.goto (-33), 3) := by decide +kernel
theorem nd_LL_learnCorpus_40 : decode nc_LL_learnCorpus 40 = .ok (.aload_n 0, 1) := by decide +kernel
theorem nd_LL_learnCorpus_41 : decode nc_LL_learnCorpus 41 = .ok (.dup, 1) := by decide +kernel
theorem nd_LL_learnCorpus_42 : decode nc_LL_learnCorpus 42 = .ok (.getfield 75, 3) := by decide +kernel
theorem nd_LL_learnCorpus_45 : decode nc_LL_learnCorpus 45 = .ok (.iload_n 1, 1) := by decide +kernel
theorem nd_LL_learnCorpus_46 : decode nc_LL_learnCorpus 46 = .ok (.iadd, 1) := by decide +kernel
theorem nd_LL_learnCorpus_47 : decode nc_LL_learnCorpus 47 = .ok (.putfield 75, 3) := by decide +kernel
theorem nd_LL_learnCorpus_50 : decode nc_LL_learnCorpus 50 = .ok (.aload_n 0, 1) := by decide +kernel
theorem nd_LL_learnCorpus_51 : decode nc_LL_learnCorpus 51 = .ok (.dup, 1) := by decide +kernel
theorem nd_LL_learnCorpus_52 : decode nc_LL_learnCorpus 52 = .ok (.getfield 79, 3) := by decide +kernel
theorem nd_LL_learnCorpus_55 : decode nc_LL_learnCorpus 55 = .ok (.iconst 1, 1) := by decide +kernel
theorem nd_LL_learnCorpus_56 : decode nc_LL_learnCorpus 56 = .ok (.iadd, 1) := by decide +kernel
theorem nd_LL_learnCorpus_57 : decode nc_LL_learnCorpus 57 = .ok (.putfield 79, 3) := by decide +kernel
theorem nd_LL_learnCorpus_60 : decode nc_LL_learnCorpus 60 = .ok (.iload_n 1, 1) := by decide +kernel
theorem nd_LL_learnCorpus_61 : decode nc_LL_learnCorpus 61 = .ok (.ireturn, 1) := by decide +kernel
theorem nd_LL_learnSentence_0 : decode nc_LL_learnSentence 0 = .ok (.aload_n 0, 1) := by decide +kernel
theorem nd_LL_learnSentence_1 : decode nc_LL_learnSentence 1 = .ok (.getfield 19, 3) := by decide +kernel
theorem nd_LL_learnSentence_4 : decode nc_LL_learnSentence 4 = .ok (.aload_n 1, 1) := by decide +kernel
theorem nd_LL_learnSentence_5 : decode nc_LL_learnSentence 5 = .ok (.aload_n 0, 1) := by decide +kernel
theorem nd_LL_learnSentence_6 : decode nc_LL_learnSentence 6 = .ok (.getfield 26, 3) := by decide +kernel
theorem nd_LL_learnSentence_9 : decode nc_LL_learnSentence 9 = .ok (.invokevirtual 141, 3) := by decide +kernel
theorem nd_LL_learnSentence_12 : decode nc_LL_learnSentence 12 = .ok (.getfield 148, 3) := by decide +kernel
theorem nd_LL_learnSentence_15 : decode nc_LL_learnSentence 15 = .ok (.iconst 0, 1) := by decide +kernel
theorem nd_LL_learnSentence_16 : decode nc_LL_learnSentence 16 = .ok (.iaload, 1) := by decide +kernel
theorem nd_LL_learnSentence_17 : decode nc_LL_learnSentence 17 = .ok (.istore_n 2, 1) := by decide +kernel
theorem nd_LL_learnSentence_18 : decode nc_LL_learnSentence 18 = .ok (.iload_n 2, 1) := by decide +kernel
theorem nd_LL_learnSentence_19 : decode nc_LL_learnSentence 19 = .ok (.aload_n 1, 1) := by decide +kernel
theorem nd_LL_learnSentence_20 : decode nc_LL_learnSentence 20 = .ok (.getfield 108, 3) := by decide +kernel
theorem nd_LL_learnSentence_23 : decode nc_LL_learnSentence 23 = .ok (.if_icmp .eq 7, 3) := by decide +kernel
theorem nd_LL_learnSentence_26 : decode nc_LL_learnSentence 26 = .ok (.iconst 1, 1) := by decide +kernel
theorem nd_LL_learnSentence_27 : decode nc_LL_learnSentence 27 = .ok (.goto 4, 3) := by decide +kernel
theorem nd_LL_learnSentence_30 : decode nc_LL_learnSentence 30 = .ok (.iconst 0, 1) := by decide +kernel
theorem nd_LL_learnSentence_31 : decode nc_LL_learnSentence 31 = .ok (.istore_n 3, 1) := by decide +kernel
theorem nd_LL_learnSentence_32 : decode nc_LL_learnSentence 32 = .ok (.iload_n 3, 1) := by decide +kernel
theorem nd_LL_learnSentence_33 : decode nc_LL_learnSentence 33 = .ok (.ifCond .eq 28, 3) := by decide +kernel
theorem nd_LL_learnSentence_36 : decode nc_LL_learnSentence 36 = .ok (.aload_n 0, 1) := by decide +kernel
theorem nd_LL_learnSentence_37 : decode nc_LL_learnSentence 37 = .ok (.getfield 26, 3) := by decide +kernel
theorem nd_LL_learnSentence_40 : decode nc_LL_learnSentence 40 = .ok (.aload_n 1, 1) := by decide +kernel
theorem nd_LL_learnSentence_41 : decode nc_LL_learnSentence 41 = .ok (.aload_n 1, 1) := by decide +kernel
theorem nd_LL_learnSentence_42 : decode nc_LL_learnSentence 42 = .ok (.getfield 108, 3) := by decide +kernel
theorem nd_LL_learnSentence_45 : decode nc_LL_learnSentence 45 = .ok (.lconst 1, 1) := by decide +kernel
theorem nd_LL_learnSentence_46 : decode nc_LL_learnSentence 46 = .ok (.invokevirtual 178, 3) := by decide +kernel
theorem nd_LL_learnSentence_49 : decode nc_LL_learnSentence 49 = .ok (.aload_n 0, 1) := by decide +kernel
theorem nd_LL_learnSentence_50 : decode nc_LL_learnSentence 50 = .ok (.getfield 26, 3) := by decide +kernel
theorem nd_LL_learnSentence_53 : decode nc_LL_learnSentence 53 = .ok (.aload_n 1, 1) := by decide +kernel
theorem nd_LL_learnSentence_54 : decode nc_LL_learnSentence 54 = .ok (.iload_n 2, 1) := by decide +kernel
theorem nd_LL_learnSentence_55 : decode nc_LL_learnSentence 55 = .ok (.ldc2_w 182, 3) := by decide +kernel
theorem nd_LL_learnSentence_58 : decode nc_LL_learnSentence 58 = .ok (.invokevirtual 178, 3) := by decide +kernel
theorem nd_LL_learnSentence_61 : decode nc_LL_learnSentence 61 = .ok (.aload_n 0, 1) := by decide +kernel
theorem nd_LL_learnSentence_62 : decode nc_LL_learnSentence 62 = .ok (.getfield 30, 3) := by decide +kernel

theorem nd_We_addAll_0 : decode nc_We_addAll 0 = .ok (.iconst 0, 1) := by decide +kernel
theorem nd_We_addAll_1 : decode nc_We_addAll 1 = .ok (.istore_n 2, 1) := by decide +kernel
theorem nd_We_addAll_2 : decode nc_We_addAll 2 = .ok (.iload_n 2, 1) := by decide +kernel
theorem nd_We_addAll_3 : decode nc_We_addAll 3 = .ok (.aload_n 0, 1) := by decide +kernel
theorem nd_We_addAll_4 : decode nc_We_addAll 4 = .ok (.getfield 9, 3) := by decide +kernel
theorem nd_We_addAll_7 : decode nc_We_addAll 7 = .ok (.arraylength, 1) := by decide +kernel
theorem nd_We_addAll_8 : decode nc_We_addAll 8 = .ok (.if_icmp .ge 24, 3) := by decide +kernel
theorem nd_We_addAll_11 : decode nc_We_addAll 11 = .ok (.aload_n 0, 1) := by decide +kernel
theorem nd_We_addAll_12 : decode nc_We_addAll 12 = .ok (.getfield 9, 3) := by decide +kernel
theorem nd_We_addAll_15 : decode nc_We_addAll 15 = .ok (.iload_n 2, 1) := by decide +kernel
theorem nd_We_addAll_16 : decode nc_We_addAll 16 = .ok (.dup2, 1) := by decide +kernel
theorem nd_We_addAll_17 : decode nc_We_addAll 17 = .ok (.laload, 1) := by decide +kernel
theorem nd_We_addAll_18 : decode nc_We_addAll 18 = .ok (.aload_n 1, 1) := by decide +kernel
theorem nd_We_addAll_19 : decode nc_We_addAll 19 = .ok (.getfield 9, 3) := by decide +kernel
theorem nd_We_addAll_22 : decode nc_We_addAll 22 = .ok (.iload_n 2, 1) := by decide +kernel
theorem nd_We_addAll_23 : decode nc_We_addAll 23 = .ok (.laload, 1) := by decide +kernel
theorem nd_We_addAll_24 : decode nc_We_addAll 24 = .ok (.ladd, 1) := by decide +kernel
theorem nd_We_addAll_25 : decode nc_We_addAll 25 = .ok (.lastore, 1) := by decide +kernel
theorem nd_We_addAll_26 : decode nc_We_addAll 26 = .ok (.iinc 2 1, 3) := by decide +kernel
theorem nd_We_addAll_29 : decode nc_We_addAll 29 = .ok (.goto (-27), 3) := by decide +kernel
theorem nd_We_addAll_32 : decode nc_We_addAll 32 = .ok (.return_, 1) := by decide +kernel
theorem nd_We_ofWord_0 : decode nc_We_ofWord 0 = .ok (.lconst 0, 1) := by decide +kernel
theorem nd_We_ofWord_1 : decode nc_We_ofWord 1 = .ok (.lstore 4, 2) := by decide +kernel
theorem nd_We_ofWord_3 : decode nc_We_ofWord 3 = .ok (.iconst 0, 1) := by decide +kernel
theorem nd_We_ofWord_4 : decode nc_We_ofWord 4 = .ok (.istore 6, 2) := by decide +kernel
theorem nd_We_ofWord_6 : decode nc_We_ofWord 6 = .ok (.iload 6, 2) := by decide +kernel
theorem nd_We_ofWord_8 : decode nc_We_ofWord 8 = .ok (.iconst 3, 1) := by decide +kernel
theorem nd_We_ofWord_9 : decode nc_We_ofWord 9 = .ok (.if_icmp .ge 26, 3) := by decide +kernel
theorem nd_We_ofWord_12 : decode nc_We_ofWord 12 = .ok (.lload 4, 2) := by decide +kernel
theorem nd_We_ofWord_14 : decode nc_We_ofWord 14 = .ok (.aload_n 0, 1) := by decide +kernel
theorem nd_We_ofWord_15 : decode nc_We_ofWord 15 = .ok (.aload_n 1, 1) := by decide +kernel
theorem nd_We_ofWord_16 : decode nc_We_ofWord 16 = .ok (.iload_n 2, 1) := by decide +kernel
theorem nd_We_ofWord_17 : decode nc_We_ofWord 17 = .ok (.iload 6, 2) := by decide +kernel
theorem nd_We_ofWord_19 : decode nc_We_ofWord 19 = .ok (.invokevirtual 15, 3) := by decide +kernel
theorem nd_We_ofWord_22 : decode nc_We_ofWord 22 = .ok (.iload_n 3, 1) := by decide +kernel
theorem nd_We_ofWord_23 : decode nc_We_ofWord 23 = .ok (.invokevirtual 21, 3) := by decide +kernel
theorem nd_We_ofWord_26 : decode nc_We_ofWord 26 = .ok (.ladd, 1) := by decide +kernel
theorem nd_We_ofWord_27 : decode nc_We_ofWord 27 = .ok (.lstore 4, 2) := by decide +kernel
theorem nd_We_ofWord_29 : decode nc_We_ofWord 29 = .ok (.iinc 6 1, 3) := by decide +kernel
theorem nd_We_ofWord_32 : decode nc_We_ofWord 32 = .ok (.goto (-26), 3) := by decide +kernel
theorem nd_We_ofWord_35 : decode nc_We_ofWord 35 = .ok (.lload 4, 2) := by decide +kernel
theorem nd_We_ofWord_37 : decode nc_We_ofWord 37 = .ok (.lreturn, 1) := by decide +kernel
theorem nd_We_sum_0 : decode nc_We_sum 0 = .ok (.lconst 0, 1) := by decide +kernel
theorem nd_We_sum_1 : decode nc_We_sum 1 = .ok (.lstore_n 3, 1) := by decide +kernel
theorem nd_We_sum_2 : decode nc_We_sum 2 = .ok (.bipush 32, 2) := by decide +kernel
theorem nd_We_sum_4 : decode nc_We_sum 4 = .ok (.istore 5, 2) := by decide +kernel
theorem nd_We_sum_6 : decode nc_We_sum 6 = .ok (.iconst 0, 1) := by decide +kernel
theorem nd_We_sum_7 : decode nc_We_sum 7 = .ok (.istore 6, 2) := by decide +kernel
theorem nd_We_sum_9 : decode nc_We_sum 9 = .ok (.iload 6, 2) := by decide +kernel
theorem nd_We_sum_11 : decode nc_We_sum 11 = .ok (.aload_n 1, 1) := by decide +kernel
theorem nd_We_sum_12 : decode nc_We_sum 12 = .ok (.getfield 25, 3) := by decide +kernel
theorem nd_We_sum_15 : decode nc_We_sum 15 = .ok (.if_icmp .ge 45, 3) := by decide +kernel
theorem nd_We_sum_18 : decode nc_We_sum 18 = .ok (.iload_n 2, 1) := by decide +kernel
theorem nd_We_sum_19 : decode nc_We_sum 19 = .ok (.iload 6, 2) := by decide +kernel
theorem nd_We_sum_21 : decode nc_We_sum 21 = .ok (.invokestatic 29, 3) := by decide +kernel
theorem nd_We_sum_24 : decode nc_We_sum 24 = .ok (.istore 7, 2) := by decide +kernel
theorem nd_We_sum_26 : decode nc_We_sum 26 = .ok (.lload_n 3, 1) := by decide +kernel
theorem nd_We_sum_27 : decode nc_We_sum 27 = .ok (.aload_n 0, 1) := by decide +kernel
theorem nd_We_sum_28 : decode nc_We_sum 28 = .ok (.iload 5, 2) := by decide +kernel
theorem nd_We_sum_30 : decode nc_We_sum 30 = .ok (.iload 7, 2) := by decide +kernel
theorem nd_We_sum_32 : decode nc_We_sum 32 = .ok (.invokevirtual 21, 3) := by decide +kernel
theorem nd_We_sum_35 : decode nc_We_sum 35 = .ok (.aload_n 0, 1) := by decide +kernel
theorem nd_We_sum_36 : decode nc_We_sum 36 = .ok (.aload_n 1, 1) := by decide +kernel
theorem nd_We_sum_37 : decode nc_We_sum 37 = .ok (.iload 6, 2) := by decide +kernel
theorem nd_We_sum_39 : decode nc_We_sum 39 = .ok (.iload 7, 2) := by decide +kernel
theorem nd_We_sum_41 : decode nc_We_sum 41 = .ok (.invokevirtual 32, 3) := by decide +kernel
theorem nd_We_sum_44 : decode nc_We_sum 44 = .ok (.ladd, 1) := by decide +kernel
theorem nd_We_sum_45 : decode nc_We_sum 45 = .ok (.ladd, 1) := by decide +kernel
theorem nd_We_sum_46 : decode nc_We_sum 46 = .ok (.lstore_n 3, 1) := by decide +kernel
theorem nd_We_sum_47 : decode nc_We_sum 47 = .ok (.bipush 33, 2) := by decide +kernel
theorem nd_We_sum_49 : decode nc_We_sum 49 = .ok (.iload 7, 2) := by decide +kernel
theorem nd_We_sum_51 : decode nc_We_sum 51 = .ok (.iadd, 1) := by decide +kernel
theorem nd_We_sum_52 : decode nc_We_sum 52 = .ok (.istore 5, 2) := by decide +kernel
theorem nd_We_sum_54 : decode nc_We_sum 54 = .ok (.iinc 6 1, 3) := by decide +kernel
theorem nd_We_sum_57 : decode nc_We_sum 57 = .ok (.goto (-48), 3) := by decide +kernel
theorem nd_We_sum_60 : decode nc_We_sum 60 = .ok (.lload_n 3, 1) := by decide +kernel
theorem nd_We_sum_61 : decode nc_We_sum 61 = .ok (.lreturn, 1) := by decide +kernel
theorem nd_We_change_0 : decode nc_We_change 0 = .ok (.bipush 32, 2) := by decide +kernel
theorem nd_We_change_2 : decode nc_We_change 2 = .ok (.istore 5, 2) := by decide +kernel
theorem nd_We_change_4 : decode nc_We_change 4 = .ok (.iconst 0, 1) := by decide +kernel
theorem nd_We_change_5 : decode nc_We_change 5 = .ok (.istore 6, 2) := by decide +kernel
theorem nd_We_change_7 : decode nc_We_change 7 = .ok (.iload 6, 2) := by decide +kernel
theorem nd_We_change_9 : decode nc_We_change 9 = .ok (.aload_n 1, 1) := by decide +kernel
theorem nd_We_change_10 : decode nc_We_change 10 = .ok (.getfield 25, 3) := by decide +kernel
theorem nd_We_change_13 : decode nc_We_change 13 = .ok (.if_icmp .ge 63, 3) := by decide +kernel
theorem nd_We_change_16 : decode nc_We_change 16 = .ok (.iload_n 2, 1) := by decide +kernel
theorem nd_We_change_17 : decode nc_We_change 17 = .ok (.iload 6, 2) := by decide +kernel
theorem nd_We_change_19 : decode nc_We_change 19 = .ok (.invokestatic 29, 3) := by decide +kernel
theorem nd_We_change_22 : decode nc_We_change 22 = .ok (.istore 7, 2) := by decide +kernel
theorem nd_We_change_24 : decode nc_We_change 24 = .ok (.aload_n 0, 1) := by decide +kernel
theorem nd_We_change_25 : decode nc_We_change 25 = .ok (.iload 5, 2) := by decide +kernel
theorem nd_We_change_27 : decode nc_We_change 27 = .ok (.iload 7, 2) := by decide +kernel
theorem nd_We_change_29 : decode nc_We_change 29 = .ok (.lload_n 3, 1) := by decide +kernel
theorem nd_We_change_30 : decode nc_We_change 30 = .ok (.invokevirtual 36, 3) := by decide +kernel
theorem nd_We_change_33 : decode nc_We_change 33 = .ok (.iconst 0, 1) := by decide +kernel
theorem nd_We_change_34 : decode nc_We_change 34 = .ok (.istore 8, 2) := by decide +kernel
theorem nd_We_change_36 : decode nc_We_change 36 = .ok (.iload 8, 2) := by decide +kernel
theorem nd_We_change_38 : decode nc_We_change 38 = .ok (.iconst 3, 1) := by decide +kernel
theorem nd_We_change_39 : decode nc_We_change 39 = .ok (.if_icmp .ge 24, 3) := by decide +kernel
theorem nd_We_change_42 : decode nc_We_change 42 = .ok (.aload_n 0, 1) := by decide +kernel
theorem nd_We_change_43 : decode nc_We_change 43 = .ok (.aload_n 1, 1) := by decide +kernel
theorem nd_We_change_44 : decode nc_We_change 44 = .ok (.iload 6, 2) := by decide +kernel
theorem nd_We_change_46 : decode nc_We_change 46 = .ok (.iload 8, 2) := by decide +kernel
theorem nd_We_change_48 : decode nc_We_change 48 = .ok (.invokevirtual 15, 3) := by decide +kernel
theorem nd_We_change_51 : decode nc_We_change 51 = .ok (.iload 7, 2) := by decide +kernel
theorem nd_We_change_53 : decode nc_We_change 53 = .ok (.lload_n 3, 1) := by decide +kernel
theorem nd_We_change_54 : decode nc_We_change 54 = .ok (.invokevirtual 36, 3) := by decide +kernel
theorem nd_We_change_57 : decode nc_We_change 57 = .ok (.iinc 8 1, 3) := by decide +kernel
theorem nd_We_change_60 : decode nc_We_change 60 = .ok (.goto (-24), 3) := by decide +kernel
theorem nd_We_change_63 : decode nc_We_change 63 = .ok (.bipush 33, 2) := by decide +kernel
theorem nd_We_change_65 : decode nc_We_change 65 = .ok (.iload 7, 2) := by decide +kernel
theorem nd_We_change_67 : decode nc_We_change 67 = .ok (.iadd, 1) := by decide +kernel
theorem nd_We_change_68 : decode nc_We_change 68 = .ok (.istore 5, 2) := by decide +kernel
theorem nd_We_change_70 : decode nc_We_change 70 = .ok (.iinc 6 1, 3) := by decide +kernel
theorem nd_We_change_73 : decode nc_We_change 73 = .ok (.goto (-66), 3) := by decide +kernel
theorem nd_We_change_76 : decode nc_We_change 76 = .ok (.return_, 1) := by decide +kernel
theorem nd_La_load_0 : decode nc_La_load 0 = .ok (.aload_n 1, 1) := by decide +kernel
theorem nd_La_load_1 : decode nc_La_load 1 = .ok (.iconst 0, 1) := by decide +kernel
theorem nd_La_load_2 : decode nc_La_load 2 = .ok (.aload_n 0, 1) := by decide +kernel
theorem nd_La_load_3 : decode nc_La_load 3 = .ok (.invokevirtual 7, 3) := by decide +kernel
theorem nd_La_load_6 : decode nc_La_load 6 = .ok (.i2l, 1) := by decide +kernel
theorem nd_La_load_7 : decode nc_La_load 7 = .ok (.lastore, 1) := by decide +kernel
theorem nd_La_load_8 : decode nc_La_load 8 = .ok (.goto 6, 3) := by decide +kernel
theorem nd_La_load_11 : decode nc_La_load 11 = .ok (.astore_n 2, 1) := by decide +kernel
theorem nd_La_load_12 : decode nc_La_load 12 = .ok (.iconst 1, 1) := by decide +kernel
theorem nd_La_load_13 : decode nc_La_load 13 = .ok (.ireturn, 1) := by decide +kernel
theorem nd_La_load_14 : decode nc_La_load 14 = .ok (.iconst 0, 1) := by decide +kernel
theorem nd_La_load_15 : decode nc_La_load 15 = .ok (.ireturn, 1) := by decide +kernel
theorem nd_La_speak_0 : decode nc_La_speak 0 = .ok (.aload_n 1, 1) := by decide +kernel
theorem nd_La_speak_1 : decode nc_La_speak 1 = .ok (.iconst 0, 1) := by decide +kernel
theorem nd_La_speak_2 : decode nc_La_speak 2 = .ok (.aload_n 0, 1) := by decide +kernel
theorem nd_La_speak_3 : decode nc_La_speak 3 = .ok (.invokevirtual 15, 3) := by decide +kernel
theorem nd_La_speak_6 : decode nc_La_speak 6 = .ok (.i2l, 1) := by decide +kernel
theorem nd_La_speak_7 : decode nc_La_speak 7 = .ok (.lastore, 1) := by decide +kernel
theorem nd_La_speak_8 : decode nc_La_speak 8 = .ok (.goto 6, 3) := by decide +kernel
theorem nd_La_speak_11 : decode nc_La_speak 11 = .ok (.astore_n 2, 1) := by decide +kernel
theorem nd_La_speak_12 : decode nc_La_speak 12 = .ok (.iconst 1, 1) := by decide +kernel
theorem nd_La_speak_13 : decode nc_La_speak 13 = .ok (.ireturn, 1) := by decide +kernel
theorem nd_La_speak_14 : decode nc_La_speak 14 = .ok (.iconst 0, 1) := by decide +kernel
theorem nd_La_speak_15 : decode nc_La_speak 15 = .ok (.ireturn, 1) := by decide +kernel
theorem nd_La_words_0 : decode nc_La_words 0 = .ok (.aload_n 2, 1) := by decide +kernel
theorem nd_La_words_1 : decode nc_La_words 1 = .ok (.iconst 0, 1) := by decide +kernel
theorem nd_La_words_2 : decode nc_La_words 2 = .ok (.aload_n 0, 1) := by decide +kernel
theorem nd_La_words_3 : decode nc_La_words 3 = .ok (.iload_n 1, 1) := by decide +kernel
theorem nd_La_words_4 : decode nc_La_words 4 = .ok (.invokevirtual 18, 3) := by decide +kernel
theorem nd_La_words_7 : decode nc_La_words 7 = .ok (.i2l, 1) := by decide +kernel
theorem nd_La_words_8 : decode nc_La_words 8 = .ok (.lastore, 1) := by decide +kernel
theorem nd_La_words_9 : decode nc_La_words 9 = .ok (.goto 6, 3) := by decide +kernel
theorem nd_La_words_12 : decode nc_La_words 12 = .ok (.astore_n 3, 1) := by decide +kernel
theorem nd_La_words_13 : decode nc_La_words 13 = .ok (.iconst 1, 1) := by decide +kernel
theorem nd_La_words_14 : decode nc_La_words 14 = .ok (.ireturn, 1) := by decide +kernel
theorem nd_La_words_15 : decode nc_La_words 15 = .ok (.iconst 0, 1) := by decide +kernel
theorem nd_La_words_16 : decode nc_La_words 16 = .ok (.ireturn, 1) := by decide +kernel
theorem nd_La_given_0 : decode nc_La_given 0 = .ok (.aload_n 3, 1) := by decide +kernel
theorem nd_La_given_1 : decode nc_La_given 1 = .ok (.iconst 0, 1) := by decide +kernel
theorem nd_La_given_2 : decode nc_La_given 2 = .ok (.aload_n 0, 1) := by decide +kernel
theorem nd_La_given_3 : decode nc_La_given 3 = .ok (.iload_n 1, 1) := by decide +kernel
theorem nd_La_given_4 : decode nc_La_given 4 = .ok (.iload_n 2, 1) := by decide +kernel
theorem nd_La_given_5 : decode nc_La_given 5 = .ok (.invokevirtual 24, 3) := by decide +kernel
theorem nd_La_given_8 : decode nc_La_given 8 = .ok (.i2l, 1) := by decide +kernel
theorem nd_La_given_9 : decode nc_La_given 9 = .ok (.lastore, 1) := by decide +kernel
theorem nd_La_given_10 : decode nc_La_given 10 = .ok (.goto 7, 3) := by decide +kernel
theorem nd_La_given_13 : decode nc_La_given 13 = .ok (.astore 4, 2) := by decide +kernel
theorem nd_La_given_15 : decode nc_La_given 15 = .ok (.iconst 1, 1) := by decide +kernel
theorem nd_La_given_16 : decode nc_La_given 16 = .ok (.ireturn, 1) := by decide +kernel
theorem nd_La_given_17 : decode nc_La_given 17 = .ok (.iconst 0, 1) := by decide +kernel
theorem nd_La_given_18 : decode nc_La_given 18 = .ok (.ireturn, 1) := by decide +kernel
theorem nd_La_feature_0 : decode nc_La_feature 0 = .ok (.aload 4, 2) := by decide +kernel
theorem nd_La_feature_2 : decode nc_La_feature 2 = .ok (.iconst 0, 1) := by decide +kernel
theorem nd_La_feature_3 : decode nc_La_feature 3 = .ok (.aload_n 0, 1) := by decide +kernel
theorem nd_La_feature_4 : decode nc_La_feature 4 = .ok (.iload_n 1, 1) := by decide +kernel
theorem nd_La_feature_5 : decode nc_La_feature 5 = .ok (.iload_n 2, 1) := by decide +kernel
theorem nd_La_feature_6 : decode nc_La_feature 6 = .ok (.iload_n 3, 1) := by decide +kernel
theorem nd_La_feature_7 : decode nc_La_feature 7 = .ok (.invokevirtual 28, 3) := by decide +kernel
theorem nd_La_feature_10 : decode nc_La_feature 10 = .ok (.i2l, 1) := by decide +kernel
theorem nd_La_feature_11 : decode nc_La_feature 11 = .ok (.lastore, 1) := by decide +kernel
theorem nd_La_feature_12 : decode nc_La_feature 12 = .ok (.goto 7, 3) := by decide +kernel
theorem nd_La_feature_15 : decode nc_La_feature 15 = .ok (.astore 5, 2) := by decide +kernel
theorem nd_La_feature_17 : decode nc_La_feature 17 = .ok (.iconst 1, 1) := by decide +kernel
theorem nd_La_feature_18 : decode nc_La_feature 18 = .ok (.ireturn, 1) := by decide +kernel
theorem nd_La_feature_19 : decode nc_La_feature 19 = .ok (.iconst 0, 1) := by decide +kernel
theorem nd_La_feature_20 : decode nc_La_feature 20 = .ok (.ireturn, 1) := by decide +kernel
theorem nd_La_learn_0 : decode nc_La_learn 0 = .ok (.aload_n 2, 1) := by decide +kernel
theorem nd_La_learn_1 : decode nc_La_learn 1 = .ok (.iconst 0, 1) := by decide +kernel
theorem nd_La_learn_2 : decode nc_La_learn 2 = .ok (.aload_n 0, 1) := by decide +kernel
theorem nd_La_learn_3 : decode nc_La_learn 3 = .ok (.iload_n 1, 1) := by decide +kernel
theorem nd_La_learn_4 : decode nc_La_learn 4 = .ok (.invokevirtual 32, 3) := by decide +kernel
theorem nd_La_learn_7 : decode nc_La_learn 7 = .ok (.i2l, 1) := by decide +kernel
theorem nd_La_learn_8 : decode nc_La_learn 8 = .ok (.lastore, 1) := by decide +kernel
theorem nd_La_learn_9 : decode nc_La_learn 9 = .ok (.goto 9, 3) := by decide +kernel
theorem nd_La_learn_12 : decode nc_La_learn 12 = .ok (.astore_n 3, 1) := by decide +kernel
theorem nd_La_learn_13 : decode nc_La_learn 13 = .ok (.iconst 1, 1) := by decide +kernel
theorem nd_La_learn_14 : decode nc_La_learn 14 = .ok (.ireturn, 1) := by decide +kernel
theorem nd_La_learn_15 : decode nc_La_learn 15 = .ok (.astore_n 3, 1) := by decide +kernel
theorem nd_La_learn_16 : decode nc_La_learn 16 = .ok (.iconst 2, 1) := by decide +kernel
theorem nd_La_learn_17 : decode nc_La_learn 17 = .ok (.ireturn, 1) := by decide +kernel
theorem nd_La_learn_18 : decode nc_La_learn 18 = .ok (.iconst 0, 1) := by decide +kernel
theorem nd_La_learn_19 : decode nc_La_learn 19 = .ok (.ireturn, 1) := by decide +kernel
theorem nd_La_weight_0 : decode nc_La_weight 0 = .ok (.aload 4, 2) := by decide +kernel
theorem nd_La_weight_2 : decode nc_La_weight 2 = .ok (.iconst 0, 1) := by decide +kernel
theorem nd_La_weight_3 : decode nc_La_weight 3 = .ok (.aload_n 0, 1) := by decide +kernel
theorem nd_La_weight_4 : decode nc_La_weight 4 = .ok (.iload_n 1, 1) := by decide +kernel
theorem nd_La_weight_5 : decode nc_La_weight 5 = .ok (.iload_n 2, 1) := by decide +kernel
theorem nd_La_weight_6 : decode nc_La_weight 6 = .ok (.iload_n 3, 1) := by decide +kernel
theorem nd_La_weight_7 : decode nc_La_weight 7 = .ok (.invokevirtual 37, 3) := by decide +kernel
theorem nd_La_weight_10 : decode nc_La_weight 10 = .ok (.lastore, 1) := by decide +kernel
theorem nd_La_weight_11 : decode nc_La_weight 11 = .ok (.goto 7, 3) := by decide +kernel
theorem nd_La_weight_14 : decode nc_La_weight 14 = .ok (.astore 5, 2) := by decide +kernel
theorem nd_La_weight_16 : decode nc_La_weight 16 = .ok (.iconst 1, 1) := by decide +kernel
theorem nd_La_weight_17 : decode nc_La_weight 17 = .ok (.ireturn, 1) := by decide +kernel
theorem nd_La_weight_18 : decode nc_La_weight 18 = .ok (.iconst 0, 1) := by decide +kernel
theorem nd_La_weight_19 : decode nc_La_weight 19 = .ok (.ireturn, 1) := by decide +kernel
theorem nd_La_decode_0 : decode nc_La_decode 0 = .ok (.aload 4, 2) := by decide +kernel
theorem nd_La_decode_2 : decode nc_La_decode 2 = .ok (.iconst 0, 1) := by decide +kernel
theorem nd_La_decode_3 : decode nc_La_decode 3 = .ok (.aload_n 0, 1) := by decide +kernel
theorem nd_La_decode_4 : decode nc_La_decode 4 = .ok (.iload_n 1, 1) := by decide +kernel
theorem nd_La_decode_5 : decode nc_La_decode 5 = .ok (.iload_n 2, 1) := by decide +kernel
theorem nd_La_decode_6 : decode nc_La_decode 6 = .ok (.iload_n 3, 1) := by decide +kernel
theorem nd_La_decode_7 : decode nc_La_decode 7 = .ok (.invokevirtual 41, 3) := by decide +kernel
theorem nd_La_decode_10 : decode nc_La_decode 10 = .ok (.lastore, 1) := by decide +kernel
theorem nd_La_decode_11 : decode nc_La_decode 11 = .ok (.goto 7, 3) := by decide +kernel
theorem nd_La_decode_14 : decode nc_La_decode 14 = .ok (.astore 5, 2) := by decide +kernel
theorem nd_La_decode_16 : decode nc_La_decode 16 = .ok (.iconst 1, 1) := by decide +kernel
theorem nd_La_decode_17 : decode nc_La_decode 17 = .ok (.ireturn, 1) := by decide +kernel
theorem nd_La_decode_18 : decode nc_La_decode 18 = .ok (.iconst 0, 1) := by decide +kernel
theorem nd_La_decode_19 : decode nc_La_decode 19 = .ok (.ireturn, 1) := by decide +kernel
theorem nd_La_label_0 : decode nc_La_label 0 = .ok (.aload_n 2, 1) := by decide +kernel
theorem nd_La_label_1 : decode nc_La_label 1 = .ok (.iconst 0, 1) := by decide +kernel
theorem nd_La_label_2 : decode nc_La_label 2 = .ok (.aload_n 0, 1) := by decide +kernel
theorem nd_La_label_3 : decode nc_La_label 3 = .ok (.iload_n 1, 1) := by decide +kernel
theorem nd_La_label_4 : decode nc_La_label 4 = .ok (.invokevirtual 45, 3) := by decide +kernel
theorem nd_La_label_7 : decode nc_La_label 7 = .ok (.i2l, 1) := by decide +kernel
theorem nd_La_label_8 : decode nc_La_label 8 = .ok (.lastore, 1) := by decide +kernel
theorem nd_La_label_9 : decode nc_La_label 9 = .ok (.goto 6, 3) := by decide +kernel
theorem nd_La_label_12 : decode nc_La_label 12 = .ok (.astore_n 3, 1) := by decide +kernel
theorem nd_La_label_13 : decode nc_La_label 13 = .ok (.iconst 1, 1) := by decide +kernel
theorem nd_La_label_14 : decode nc_La_label 14 = .ok (.ireturn, 1) := by decide +kernel
theorem nd_La_label_15 : decode nc_La_label 15 = .ok (.iconst 0, 1) := by decide +kernel
theorem nd_La_label_16 : decode nc_La_label 16 = .ok (.ireturn, 1) := by decide +kernel
theorem nd_La_score_0 : decode nc_La_score 0 = .ok (.aload 4, 2) := by decide +kernel
theorem nd_La_score_2 : decode nc_La_score 2 = .ok (.iconst 0, 1) := by decide +kernel
theorem nd_La_score_3 : decode nc_La_score 3 = .ok (.aload_n 0, 1) := by decide +kernel
theorem nd_La_score_4 : decode nc_La_score 4 = .ok (.iload_n 1, 1) := by decide +kernel
theorem nd_La_score_5 : decode nc_La_score 5 = .ok (.iload_n 2, 1) := by decide +kernel
theorem nd_La_score_6 : decode nc_La_score 6 = .ok (.iload_n 3, 1) := by decide +kernel
theorem nd_La_score_7 : decode nc_La_score 7 = .ok (.invokevirtual 48, 3) := by decide +kernel
theorem nd_La_score_10 : decode nc_La_score 10 = .ok (.lastore, 1) := by decide +kernel
theorem nd_La_score_11 : decode nc_La_score 11 = .ok (.goto 7, 3) := by decide +kernel
theorem nd_La_score_14 : decode nc_La_score 14 = .ok (.astore 5, 2) := by decide +kernel
theorem nd_La_score_16 : decode nc_La_score 16 = .ok (.iconst 1, 1) := by decide +kernel
theorem nd_La_score_17 : decode nc_La_score 17 = .ok (.ireturn, 1) := by decide +kernel
theorem nd_La_score_18 : decode nc_La_score 18 = .ok (.iconst 0, 1) := by decide +kernel
theorem nd_La_score_19 : decode nc_La_score 19 = .ok (.ireturn, 1) := by decide +kernel
theorem nd_La_law_0 : decode nc_La_law 0 = .ok (.new 8, 3) := by decide +kernel
theorem nd_La_law_3 : decode nc_La_law 3 = .ok (.dup, 1) := by decide +kernel
theorem nd_La_law_4 : decode nc_La_law 4 = .ok (.invokespecial 51, 3) := by decide +kernel
theorem nd_La_law_7 : decode nc_La_law 7 = .ok (.astore_n 1, 1) := by decide +kernel
theorem nd_La_law_8 : decode nc_La_law 8 = .ok (.new 52, 3) := by decide +kernel
theorem nd_La_law_11 : decode nc_La_law 11 = .ok (.dup, 1) := by decide +kernel
theorem nd_La_law_12 : decode nc_La_law 12 = .ok (.invokespecial 54, 3) := by decide +kernel
theorem nd_La_law_15 : decode nc_La_law 15 = .ok (.astore_n 2, 1) := by decide +kernel
theorem nd_La_law_16 : decode nc_La_law 16 = .ok (.iconst 1, 1) := by decide +kernel
theorem nd_La_law_17 : decode nc_La_law 17 = .ok (.newarray .long, 2) := by decide +kernel
theorem nd_La_law_19 : decode nc_La_law 19 = .ok (.astore_n 3, 1) := by decide +kernel
theorem nd_La_law_20 : decode nc_La_law 20 = .ok (.iconst 0, 1) := by decide +kernel
theorem nd_La_law_21 : decode nc_La_law 21 = .ok (.istore 4, 2) := by decide +kernel
theorem nd_La_law_23 : decode nc_La_law 23 = .ok (.iload 4, 2) := by decide +kernel
theorem nd_La_law_25 : decode nc_La_law 25 = .ok (.aload_n 0, 1) := by decide +kernel
theorem nd_La_law_26 : decode nc_La_law 26 = .ok (.arraylength, 1) := by decide +kernel
theorem nd_La_law_27 : decode nc_La_law 27 = .ok (.iconst 4, 1) := by decide +kernel
theorem nd_La_law_28 : decode nc_La_law 28 = .ok (.isub, 1) := by decide +kernel
theorem nd_La_law_29 : decode nc_La_law 29 = .ok (.if_icmp .gt 972, 3) := by decide +kernel
theorem nd_La_law_32 : decode nc_La_law 32 = .ok (.aload_n 0, 1) := by decide +kernel
theorem nd_La_law_33 : decode nc_La_law 33 = .ok (.iload 4, 2) := by decide +kernel
theorem nd_La_law_35 : decode nc_La_law 35 = .ok (.iaload, 1) := by decide +kernel
theorem nd_La_law_36 : decode nc_La_law 36 = .ok (.bipush 15, 2) := by decide +kernel
theorem nd_La_law_38 : decode nc_La_law 38 = .ok (.iand, 1) := by decide +kernel
theorem nd_La_law_39 : decode nc_La_law 39 = .ok (.tableswitch 956 0 15 #[77, 146, 171, 215, 259, 272, 328, 396, 476, 532, 545, 558, 653, 764, 820, 915], 77) := by decide +kernel
theorem nd_La_law_116 : decode nc_La_law 116 = .ok (.aload_n 1, 1) := by decide +kernel
theorem nd_La_law_117 : decode nc_La_law 117 = .ok (.aload_n 0, 1) := by decide +kernel
theorem nd_La_law_118 : decode nc_La_law 118 = .ok (.iload 4, 2) := by decide +kernel
theorem nd_La_law_120 : decode nc_La_law 120 = .ok (.iconst 1, 1) := by decide +kernel
theorem nd_La_law_121 : decode nc_La_law 121 = .ok (.iadd, 1) := by decide +kernel
theorem nd_La_law_122 : decode nc_La_law 122 = .ok (.iaload, 1) := by decide +kernel
theorem nd_La_law_123 : decode nc_La_law 123 = .ok (.i2l, 1) := by decide +kernel
theorem nd_La_law_124 : decode nc_La_law 124 = .ok (.bipush 32, 2) := by decide +kernel
theorem nd_La_law_126 : decode nc_La_law 126 = .ok (.lshl, 1) := by decide +kernel
theorem nd_La_law_127 : decode nc_La_law 127 = .ok (.aload_n 0, 1) := by decide +kernel
theorem nd_La_law_128 : decode nc_La_law 128 = .ok (.iload 4, 2) := by decide +kernel
theorem nd_La_law_130 : decode nc_La_law 130 = .ok (.iconst 2, 1) := by decide +kernel
theorem nd_La_law_131 : decode nc_La_law 131 = .ok (.iadd, 1) := by decide +kernel
theorem nd_La_law_132 : decode nc_La_law 132 = .ok (.iaload, 1) := by decide +kernel
theorem nd_La_law_133 : decode nc_La_law 133 = .ok (.i2l, 1) := by decide +kernel
theorem nd_La_law_134 : decode nc_La_law 134 = .ok (.ldc2_w 55, 3) := by decide +kernel
theorem nd_La_law_137 : decode nc_La_law 137 = .ok (.land, 1) := by decide +kernel
theorem nd_La_law_138 : decode nc_La_law 138 = .ok (.lor, 1) := by decide +kernel
theorem nd_La_law_139 : decode nc_La_law 139 = .ok (.aload_n 0, 1) := by decide +kernel
theorem nd_La_law_140 : decode nc_La_law 140 = .ok (.iload 4, 2) := by decide +kernel
theorem nd_La_law_142 : decode nc_La_law 142 = .ok (.iconst 3, 1) := by decide +kernel
theorem nd_La_law_143 : decode nc_La_law 143 = .ok (.iadd, 1) := by decide +kernel
theorem nd_La_law_144 : decode nc_La_law 144 = .ok (.iaload, 1) := by decide +kernel
theorem nd_La_law_145 : decode nc_La_law 145 = .ok (.invokevirtual 57, 3) := by decide +kernel
theorem nd_La_law_148 : decode nc_La_law 148 = .ok (.aload_n 2, 1) := by decide +kernel
theorem nd_La_law_149 : decode nc_La_law 149 = .ok (.aload_n 0, 1) := by decide +kernel
theorem nd_La_law_150 : decode nc_La_law 150 = .ok (.iload 4, 2) := by decide +kernel
theorem nd_La_law_152 : decode nc_La_law 152 = .ok (.iconst 1, 1) := by decide +kernel
theorem nd_La_law_153 : decode nc_La_law 153 = .ok (.iadd, 1) := by decide +kernel
theorem nd_La_law_154 : decode nc_La_law 154 = .ok (.iaload, 1) := by decide +kernel
theorem nd_La_law_155 : decode nc_La_law 155 = .ok (.i2l, 1) := by decide +kernel
theorem nd_La_law_156 : decode nc_La_law 156 = .ok (.bipush 32, 2) := by decide +kernel
theorem nd_La_law_158 : decode nc_La_law 158 = .ok (.lshl, 1) := by decide +kernel
theorem nd_La_law_159 : decode nc_La_law 159 = .ok (.aload_n 0, 1) := by decide +kernel
theorem nd_La_law_160 : decode nc_La_law 160 = .ok (.iload 4, 2) := by decide +kernel
theorem nd_La_law_162 : decode nc_La_law 162 = .ok (.iconst 2, 1) := by decide +kernel
theorem nd_La_law_163 : decode nc_La_law 163 = .ok (.iadd, 1) := by decide +kernel
theorem nd_La_law_164 : decode nc_La_law 164 = .ok (.iaload, 1) := by decide +kernel
theorem nd_La_law_165 : decode nc_La_law 165 = .ok (.i2l, 1) := by decide +kernel
theorem nd_La_law_166 : decode nc_La_law 166 = .ok (.ldc2_w 55, 3) := by decide +kernel
theorem nd_La_law_169 : decode nc_La_law 169 = .ok (.land, 1) := by decide +kernel
theorem nd_La_law_170 : decode nc_La_law 170 = .ok (.lor, 1) := by decide +kernel
theorem nd_La_law_171 : decode nc_La_law 171 = .ok (.aload_n 0, 1) := by decide +kernel
theorem nd_La_law_172 : decode nc_La_law 172 = .ok (.iload 4, 2) := by decide +kernel
theorem nd_La_law_174 : decode nc_La_law 174 = .ok (.iconst 3, 1) := by decide +kernel
theorem nd_La_law_175 : decode nc_La_law 175 = .ok (.iadd, 1) := by decide +kernel
theorem nd_La_law_176 : decode nc_La_law 176 = .ok (.iaload, 1) := by decide +kernel
theorem nd_La_law_177 : decode nc_La_law 177 = .ok (.invokevirtual 61, 3) := by decide +kernel
theorem nd_La_law_180 : decode nc_La_law 180 = .ok (.if_icmp .eq 815, 3) := by decide +kernel
theorem nd_La_law_183 : decode nc_La_law 183 = .ok (.iconst 0, 1) := by decide +kernel
theorem nd_La_law_184 : decode nc_La_law 184 = .ok (.ireturn, 1) := by decide +kernel
theorem nd_La_law_185 : decode nc_La_law 185 = .ok (.aload_n 1, 1) := by decide +kernel
theorem nd_La_law_186 : decode nc_La_law 186 = .ok (.aload_n 0, 1) := by decide +kernel
theorem nd_La_law_187 : decode nc_La_law 187 = .ok (.iload 4, 2) := by decide +kernel
theorem nd_La_law_189 : decode nc_La_law 189 = .ok (.iconst 1, 1) := by decide +kernel
theorem nd_La_law_190 : decode nc_La_law 190 = .ok (.iadd, 1) := by decide +kernel
theorem nd_La_law_191 : decode nc_La_law 191 = .ok (.iaload, 1) := by decide +kernel
theorem nd_La_law_192 : decode nc_La_law 192 = .ok (.invokevirtual 62, 3) := by decide +kernel
theorem nd_La_law_195 : decode nc_La_law 195 = .ok (.aload_n 2, 1) := by decide +kernel
theorem nd_La_law_196 : decode nc_La_law 196 = .ok (.aload_n 0, 1) := by decide +kernel
theorem nd_La_law_197 : decode nc_La_law 197 = .ok (.iload 4, 2) := by decide +kernel
theorem nd_La_law_199 : decode nc_La_law 199 = .ok (.iconst 1, 1) := by decide +kernel
theorem nd_La_law_200 : decode nc_La_law 200 = .ok (.iadd, 1) := by decide +kernel
theorem nd_La_law_201 : decode nc_La_law 201 = .ok (.iaload, 1) := by decide +kernel
theorem nd_La_law_202 : decode nc_La_law 202 = .ok (.invokevirtual 66, 3) := by decide +kernel
theorem nd_La_law_205 : decode nc_La_law 205 = .ok (.if_icmp .eq 790, 3) := by decide +kernel
theorem nd_La_law_208 : decode nc_La_law 208 = .ok (.iconst 0, 1) := by decide +kernel
theorem nd_La_law_209 : decode nc_La_law 209 = .ok (.ireturn, 1) := by decide +kernel
theorem nd_La_law_210 : decode nc_La_law 210 = .ok (.aload_n 1, 1) := by decide +kernel
theorem nd_La_law_211 : decode nc_La_law 211 = .ok (.aload_n 3, 1) := by decide +kernel
theorem nd_La_law_212 : decode nc_La_law 212 = .ok (.invokestatic 67, 3) := by decide +kernel
theorem nd_La_law_215 : decode nc_La_law 215 = .ok (.istore 5, 2) := by decide +kernel
theorem nd_La_law_217 : decode nc_La_law 217 = .ok (.aload_n 2, 1) := by decide +kernel
theorem nd_La_law_218 : decode nc_La_law 218 = .ok (.invokevirtual 72, 3) := by decide +kernel
theorem nd_La_law_221 : decode nc_La_law 221 = .ok (.istore 6, 2) := by decide +kernel
theorem nd_La_law_223 : decode nc_La_law 223 = .ok (.aload_n 2, 1) := by decide +kernel
theorem nd_La_law_224 : decode nc_La_law 224 = .ok (.invokevirtual 73, 3) := by decide +kernel
theorem nd_La_law_227 : decode nc_La_law 227 = .ok (.iload 5, 2) := by decide +kernel
theorem nd_La_law_229 : decode nc_La_law 229 = .ok (.if_icmp .eq 5, 3) := by decide +kernel
theorem nd_La_law_232 : decode nc_La_law 232 = .ok (.iconst 0, 1) := by decide +kernel
theorem nd_La_law_233 : decode nc_La_law 233 = .ok (.ireturn, 1) := by decide +kernel
theorem nd_La_law_234 : decode nc_La_law 234 = .ok (.iload 5, 2) := by decide +kernel
theorem nd_La_law_236 : decode nc_La_law 236 = .ok (.ifCond .ne 15, 3) := by decide +kernel
theorem nd_La_law_239 : decode nc_La_law 239 = .ok (.aload_n 3, 1) := by decide +kernel
theorem nd_La_law_240 : decode nc_La_law 240 = .ok (.iconst 0, 1) := by decide +kernel
theorem nd_La_law_241 : decode nc_La_law 241 = .ok (.laload, 1) := by decide +kernel
theorem nd_La_law_242 : decode nc_La_law 242 = .ok (.iload 6, 2) := by decide +kernel
theorem nd_La_law_244 : decode nc_La_law 244 = .ok (.i2l, 1) := by decide +kernel
theorem nd_La_law_245 : decode nc_La_law 245 = .ok (.lcmp, 1) := by decide +kernel
theorem nd_La_law_246 : decode nc_La_law 246 = .ok (.ifCond .eq 5, 3) := by decide +kernel
theorem nd_La_law_249 : decode nc_La_law 249 = .ok (.iconst 0, 1) := by decide +kernel
theorem nd_La_law_250 : decode nc_La_law 250 = .ok (.ireturn, 1) := by decide +kernel
theorem nd_La_law_251 : decode nc_La_law 251 = .ok (.goto 744, 3) := by decide +kernel
theorem nd_La_law_254 : decode nc_La_law 254 = .ok (.aload_n 1, 1) := by decide +kernel
theorem nd_La_law_255 : decode nc_La_law 255 = .ok (.aload_n 3, 1) := by decide +kernel
theorem nd_La_law_256 : decode nc_La_law 256 = .ok (.invokestatic 76, 3) := by decide +kernel
theorem nd_La_law_259 : decode nc_La_law 259 = .ok (.istore 5, 2) := by decide +kernel
theorem nd_La_law_261 : decode nc_La_law 261 = .ok (.aload_n 2, 1) := by decide +kernel
theorem nd_La_law_262 : decode nc_La_law 262 = .ok (.invokevirtual 78, 3) := by decide +kernel
theorem nd_La_law_265 : decode nc_La_law 265 = .ok (.istore 6, 2) := by decide +kernel
theorem nd_La_law_267 : decode nc_La_law 267 = .ok (.aload_n 2, 1) := by decide +kernel
theorem nd_La_law_268 : decode nc_La_law 268 = .ok (.invokevirtual 73, 3) := by decide +kernel
theorem nd_La_law_271 : decode nc_La_law 271 = .ok (.iload 5, 2) := by decide +kernel
theorem nd_La_law_273 : decode nc_La_law 273 = .ok (.if_icmp .eq 5, 3) := by decide +kernel
theorem nd_La_law_276 : decode nc_La_law 276 = .ok (.iconst 0, 1) := by decide +kernel
theorem nd_La_law_277 : decode nc_La_law 277 = .ok (.ireturn, 1) := by decide +kernel
theorem nd_La_law_278 : decode nc_La_law 278 = .ok (.iload 5, 2) := by decide +kernel
theorem nd_La_law_280 : decode nc_La_law 280 = .ok (.ifCond .ne 15, 3) := by decide +kernel
theorem nd_La_law_283 : decode nc_La_law 283 = .ok (.aload_n 3, 1) := by decide +kernel
theorem nd_La_law_284 : decode nc_La_law 284 = .ok (.iconst 0, 1) := by decide +kernel
theorem nd_La_law_285 : decode nc_La_law 285 = .ok (.laload, 1) := by decide +kernel
theorem nd_La_law_286 : decode nc_La_law 286 = .ok (.iload 6, 2) := by decide +kernel
theorem nd_La_law_288 : decode nc_La_law 288 = .ok (.i2l, 1) := by decide +kernel
theorem nd_La_law_289 : decode nc_La_law 289 = .ok (.lcmp, 1) := by decide +kernel
theorem nd_La_law_290 : decode nc_La_law 290 = .ok (.ifCond .eq 5, 3) := by decide +kernel
theorem nd_La_law_293 : decode nc_La_law 293 = .ok (.iconst 0, 1) := by decide +kernel
theorem nd_La_law_294 : decode nc_La_law 294 = .ok (.ireturn, 1) := by decide +kernel
theorem nd_La_law_295 : decode nc_La_law 295 = .ok (.goto 700, 3) := by decide +kernel
theorem nd_La_law_298 : decode nc_La_law 298 = .ok (.aload_n 1, 1) := by decide +kernel
theorem nd_La_law_299 : decode nc_La_law 299 = .ok (.invokevirtual 79, 3) := by decide +kernel
theorem nd_La_law_302 : decode nc_La_law 302 = .ok (.aload_n 2, 1) := by decide +kernel
theorem nd_La_law_303 : decode nc_La_law 303 = .ok (.invokevirtual 82, 3) := by decide +kernel
theorem nd_La_law_306 : decode nc_La_law 306 = .ok (.if_icmp .eq 689, 3) := by decide +kernel
theorem nd_La_law_309 : decode nc_La_law 309 = .ok (.iconst 0, 1) := by decide +kernel
theorem nd_La_law_310 : decode nc_La_law 310 = .ok (.ireturn, 1) := by decide +kernel
theorem nd_La_law_311 : decode nc_La_law 311 = .ok (.aload_n 1, 1) := by decide +kernel
theorem nd_La_law_312 : decode nc_La_law 312 = .ok (.aload_n 0, 1) := by decide +kernel
theorem nd_La_law_313 : decode nc_La_law 313 = .ok (.iload 4, 2) := by decide +kernel
theorem nd_La_law_315 : decode nc_La_law 315 = .ok (.iconst 1, 1) := by decide +kernel
theorem nd_La_law_316 : decode nc_La_law 316 = .ok (.iadd, 1) := by decide +kernel
theorem nd_La_law_317 : decode nc_La_law 317 = .ok (.iaload, 1) := by decide +kernel
theorem nd_La_law_318 : decode nc_La_law 318 = .ok (.aload_n 3, 1) := by decide +kernel
theorem nd_La_law_319 : decode nc_La_law 319 = .ok (.invokestatic 83, 3) := by decide +kernel
theorem nd_La_law_322 : decode nc_La_law 322 = .ok (.istore 5, 2) := by decide +kernel
theorem nd_La_law_324 : decode nc_La_law 324 = .ok (.aload_n 2, 1) := by decide +kernel
theorem nd_La_law_325 : decode nc_La_law 325 = .ok (.aload_n 0, 1) := by decide +kernel
theorem nd_La_law_326 : decode nc_La_law 326 = .ok (.iload 4, 2) := by decide +kernel
theorem nd_La_law_328 : decode nc_La_law 328 = .ok (.iconst 1, 1) := by decide +kernel
theorem nd_La_law_329 : decode nc_La_law 329 = .ok (.iadd, 1) := by decide +kernel
theorem nd_La_law_330 : decode nc_La_law 330 = .ok (.iaload, 1) := by decide +kernel
theorem nd_La_law_331 : decode nc_La_law 331 = .ok (.invokevirtual 86, 3) := by decide +kernel
theorem nd_La_law_334 : decode nc_La_law 334 = .ok (.istore 6, 2) := by decide +kernel
theorem nd_La_law_336 : decode nc_La_law 336 = .ok (.aload_n 2, 1) := by decide +kernel
theorem nd_La_law_337 : decode nc_La_law 337 = .ok (.invokevirtual 73, 3) := by decide +kernel
theorem nd_La_law_340 : decode nc_La_law 340 = .ok (.iload 5, 2) := by decide +kernel
theorem nd_La_law_342 : decode nc_La_law 342 = .ok (.if_icmp .eq 5, 3) := by decide +kernel
theorem nd_La_law_345 : decode nc_La_law 345 = .ok (.iconst 0, 1) := by decide +kernel
theorem nd_La_law_346 : decode nc_La_law 346 = .ok (.ireturn, 1) := by decide +kernel
theorem nd_La_law_347 : decode nc_La_law 347 = .ok (.iload 5, 2) := by decide +kernel
theorem nd_La_law_349 : decode nc_La_law 349 = .ok (.ifCond .ne 15, 3) := by decide +kernel
theorem nd_La_law_352 : decode nc_La_law 352 = .ok (.aload_n 3, 1) := by decide +kernel
theorem nd_La_law_353 : decode nc_La_law 353 = .ok (.iconst 0, 1) := by decide +kernel
theorem nd_La_law_354 : decode nc_La_law 354 = .ok (.laload, 1) := by decide +kernel
theorem nd_La_law_355 : decode nc_La_law 355 = .ok (.iload 6, 2) := by decide +kernel
theorem nd_La_law_357 : decode nc_La_law 357 = .ok (.i2l, 1) := by decide +kernel
theorem nd_La_law_358 : decode nc_La_law 358 = .ok (.lcmp, 1) := by decide +kernel
theorem nd_La_law_359 : decode nc_La_law 359 = .ok (.ifCond .eq 5, 3) := by decide +kernel
theorem nd_La_law_362 : decode nc_La_law 362 = .ok (.iconst 0, 1) := by decide +kernel
theorem nd_La_law_363 : decode nc_La_law 363 = .ok (.ireturn, 1) := by decide +kernel
theorem nd_La_law_364 : decode nc_La_law 364 = .ok (.goto 631, 3) := by decide +kernel
theorem nd_La_law_367 : decode nc_La_law 367 = .ok (.aload_n 1, 1) := by decide +kernel
theorem nd_La_law_368 : decode nc_La_law 368 = .ok (.aload_n 0, 1) := by decide +kernel
theorem nd_La_law_369 : decode nc_La_law 369 = .ok (.iload 4, 2) := by decide +kernel
theorem nd_La_law_371 : decode nc_La_law 371 = .ok (.iconst 1, 1) := by decide +kernel
theorem nd_La_law_372 : decode nc_La_law 372 = .ok (.iadd, 1) := by decide +kernel
theorem nd_La_law_373 : decode nc_La_law 373 = .ok (.iaload, 1) := by decide +kernel
theorem nd_La_law_374 : decode nc_La_law 374 = .ok (.aload_n 0, 1) := by decide +kernel
theorem nd_La_law_375 : decode nc_La_law 375 = .ok (.iload 4, 2) := by decide +kernel
theorem nd_La_law_377 : decode nc_La_law 377 = .ok (.iconst 2, 1) := by decide +kernel
theorem nd_La_law_378 : decode nc_La_law 378 = .ok (.iadd, 1) := by decide +kernel
theorem nd_La_law_379 : decode nc_La_law 379 = .ok (.iaload, 1) := by decide +kernel
theorem nd_La_law_380 : decode nc_La_law 380 = .ok (.aload_n 3, 1) := by decide +kernel

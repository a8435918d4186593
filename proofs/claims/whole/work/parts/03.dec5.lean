theorem nd_Te_init_13 : decode nc_Te_init 13 = .ok (.return_, 1) := by decide +kernel
theorem nd_Te_append_0 : decode nc_Te_append 0 = .ok (.iload_n 3, 1) := by decide +kernel
theorem nd_Te_append_1 : decode nc_Te_append 1 = .ok (.iconst 1, 1) := by decide +kernel
theorem nd_Te_append_2 : decode nc_Te_append 2 = .ok (.if_icmp .lt 21, 3) := by decide +kernel
theorem nd_Te_append_5 : decode nc_Te_append 5 = .ok (.iload_n 3, 1) := by decide +kernel
theorem nd_Te_append_6 : decode nc_Te_append 6 = .ok (.bipush 8, 2) := by decide +kernel
theorem nd_Te_append_8 : decode nc_Te_append 8 = .ok (.if_icmp .gt 15, 3) := by decide +kernel
theorem nd_Te_append_11 : decode nc_Te_append 11 = .ok (.iload_n 3, 1) := by decide +kernel
theorem nd_Te_append_12 : decode nc_Te_append 12 = .ok (.sipush 240, 3) := by decide +kernel
theorem nd_Te_append_15 : decode nc_Te_append 15 = .ok (.aload_n 0, 1) := by decide +kernel
theorem nd_Te_append_16 : decode nc_Te_append 16 = .ok (.getfield 15, 3) := by decide +kernel
theorem nd_Te_append_19 : decode nc_Te_append 19 = .ok (.isub, 1) := by decide +kernel
theorem nd_Te_append_20 : decode nc_Te_append 20 = .ok (.if_icmp .le 5, 3) := by decide +kernel
theorem nd_Te_append_23 : decode nc_Te_append 23 = .ok (.iconst 0, 1) := by decide +kernel
theorem nd_Te_append_24 : decode nc_Te_append 24 = .ok (.ireturn, 1) := by decide +kernel
theorem nd_Te_append_25 : decode nc_Te_append 25 = .ok (.iconst 0, 1) := by decide +kernel
theorem nd_Te_append_26 : decode nc_Te_append 26 = .ok (.istore 4, 2) := by decide +kernel
theorem nd_Te_append_28 : decode nc_Te_append 28 = .ok (.iload 4, 2) := by decide +kernel
theorem nd_Te_append_30 : decode nc_Te_append 30 = .ok (.iload_n 3, 1) := by decide +kernel
theorem nd_Te_append_31 : decode nc_Te_append 31 = .ok (.if_icmp .ge 33, 3) := by decide +kernel
theorem nd_Te_append_34 : decode nc_Te_append 34 = .ok (.lload_n 1, 1) := by decide +kernel
theorem nd_Te_append_35 : decode nc_Te_append 35 = .ok (.iload 4, 2) := by decide +kernel
theorem nd_Te_append_37 : decode nc_Te_append 37 = .ok (.invokestatic 19, 3) := by decide +kernel
theorem nd_Te_append_40 : decode nc_Te_append 40 = .ok (.istore 5, 2) := by decide +kernel
theorem nd_Te_append_42 : decode nc_Te_append 42 = .ok (.iload 5, 2) := by decide +kernel
theorem nd_Te_append_44 : decode nc_Te_append 44 = .ok (.bipush 32, 2) := by decide +kernel
theorem nd_Te_append_46 : decode nc_Te_append 46 = .ok (.if_icmp .lt 10, 3) := by decide +kernel
theorem nd_Te_append_49 : decode nc_Te_append 49 = .ok (.iload 5, 2) := by decide +kernel
theorem nd_Te_append_51 : decode nc_Te_append 51 = .ok (.bipush 126, 2) := by decide +kernel
theorem nd_Te_append_53 : decode nc_Te_append 53 = .ok (.if_icmp .le 5, 3) := by decide +kernel
theorem nd_Te_append_56 : decode nc_Te_append 56 = .ok (.iconst 0, 1) := by decide +kernel
theorem nd_Te_append_57 : decode nc_Te_append 57 = .ok (.ireturn, 1) := by decide +kernel
theorem nd_Te_append_58 : decode nc_Te_append 58 = .ok (.iinc 4 1, 3) := by decide +kernel
theorem nd_Te_append_61 : decode nc_Te_append 61 = .ok (.goto (-33), 3) := by decide +kernel
theorem nd_Te_append_64 : decode nc_Te_append 64 = .ok (.iconst 0, 1) := by decide +kernel
theorem nd_Te_append_65 : decode nc_Te_append 65 = .ok (.istore 4, 2) := by decide +kernel
theorem nd_Te_append_67 : decode nc_Te_append 67 = .ok (.iload 4, 2) := by decide +kernel
theorem nd_Te_append_69 : decode nc_Te_append 69 = .ok (.iload_n 3, 1) := by decide +kernel
theorem nd_Te_append_70 : decode nc_Te_append 70 = .ok (.if_icmp .ge 28, 3) := by decide +kernel
theorem nd_Te_append_73 : decode nc_Te_append 73 = .ok (.aload_n 0, 1) := by decide +kernel
theorem nd_Te_append_74 : decode nc_Te_append 74 = .ok (.getfield 9, 3) := by decide +kernel
theorem nd_Te_append_77 : decode nc_Te_append 77 = .ok (.aload_n 0, 1) := by decide +kernel
theorem nd_Te_append_78 : decode nc_Te_append 78 = .ok (.getfield 15, 3) := by decide +kernel
theorem nd_Te_append_81 : decode nc_Te_append 81 = .ok (.iload 4, 2) := by decide +kernel
theorem nd_Te_append_83 : decode nc_Te_append 83 = .ok (.iadd, 1) := by decide +kernel
theorem nd_Te_append_84 : decode nc_Te_append 84 = .ok (.lload_n 1, 1) := by decide +kernel
theorem nd_Te_append_85 : decode nc_Te_append 85 = .ok (.iload 4, 2) := by decide +kernel
theorem nd_Te_append_87 : decode nc_Te_append 87 = .ok (.invokestatic 19, 3) := by decide +kernel
theorem nd_Te_append_90 : decode nc_Te_append 90 = .ok (.i2c, 1) := by decide +kernel
theorem nd_Te_append_91 : decode nc_Te_append 91 = .ok (.castore, 1) := by decide +kernel
theorem nd_Te_append_92 : decode nc_Te_append 92 = .ok (.iinc 4 1, 3) := by decide +kernel
theorem nd_Te_append_95 : decode nc_Te_append 95 = .ok (.goto (-28), 3) := by decide +kernel
theorem nd_Te_append_98 : decode nc_Te_append 98 = .ok (.aload_n 0, 1) := by decide +kernel
theorem nd_Te_append_99 : decode nc_Te_append 99 = .ok (.dup, 1) := by decide +kernel
theorem nd_Te_append_100 : decode nc_Te_append 100 = .ok (.getfield 15, 3) := by decide +kernel
theorem nd_Te_append_103 : decode nc_Te_append 103 = .ok (.iload_n 3, 1) := by decide +kernel
theorem nd_Te_append_104 : decode nc_Te_append 104 = .ok (.iadd, 1) := by decide +kernel
theorem nd_Te_append_105 : decode nc_Te_append 105 = .ok (.putfield 15, 3) := by decide +kernel
theorem nd_Te_append_108 : decode nc_Te_append 108 = .ok (.iconst 1, 1) := by decide +kernel
theorem nd_Te_append_109 : decode nc_Te_append 109 = .ok (.ireturn, 1) := by decide +kernel
theorem nd_Te_keep_0 : decode nc_Te_keep 0 = .ok (.iload_n 1, 1) := by decide +kernel
theorem nd_Te_keep_1 : decode nc_Te_keep 1 = .ok (.ifCond .lt 11, 3) := by decide +kernel
theorem nd_Te_keep_4 : decode nc_Te_keep 4 = .ok (.iload_n 1, 1) := by decide +kernel
theorem nd_Te_keep_5 : decode nc_Te_keep 5 = .ok (.aload_n 0, 1) := by decide +kernel
theorem nd_Te_keep_6 : decode nc_Te_keep 6 = .ok (.getfield 15, 3) := by decide +kernel
theorem nd_Te_keep_9 : decode nc_Te_keep 9 = .ok (.if_icmp .le 5, 3) := by decide +kernel
theorem nd_Te_keep_12 : decode nc_Te_keep 12 = .ok (.iconst 0, 1) := by decide +kernel
theorem nd_Te_keep_13 : decode nc_Te_keep 13 = .ok (.ireturn, 1) := by decide +kernel
theorem nd_Te_keep_14 : decode nc_Te_keep 14 = .ok (.aload_n 0, 1) := by decide +kernel
theorem nd_Te_keep_15 : decode nc_Te_keep 15 = .ok (.iload_n 1, 1) := by decide +kernel
theorem nd_Te_keep_16 : decode nc_Te_keep 16 = .ok (.putfield 15, 3) := by decide +kernel
theorem nd_Te_keep_19 : decode nc_Te_keep 19 = .ok (.iconst 1, 1) := by decide +kernel
theorem nd_Te_keep_20 : decode nc_Te_keep 20 = .ok (.ireturn, 1) := by decide +kernel
theorem nd_Te_byteOf_0 : decode nc_Te_byteOf 0 = .ok (.lload_n 0, 1) := by decide +kernel
theorem nd_Te_byteOf_1 : decode nc_Te_byteOf 1 = .ok (.bipush 8, 2) := by decide +kernel
theorem nd_Te_byteOf_3 : decode nc_Te_byteOf 3 = .ok (.iload_n 2, 1) := by decide +kernel
theorem nd_Te_byteOf_4 : decode nc_Te_byteOf 4 = .ok (.imul, 1) := by decide +kernel
theorem nd_Te_byteOf_5 : decode nc_Te_byteOf 5 = .ok (.lushr, 1) := by decide +kernel
theorem nd_Te_byteOf_6 : decode nc_Te_byteOf 6 = .ok (.l2i, 1) := by decide +kernel
theorem nd_Te_byteOf_7 : decode nc_Te_byteOf 7 = .ok (.sipush 255, 3) := by decide +kernel
theorem nd_Te_byteOf_10 : decode nc_Te_byteOf 10 = .ok (.iand, 1) := by decide +kernel
theorem nd_Te_byteOf_11 : decode nc_Te_byteOf 11 = .ok (.ireturn, 1) := by decide +kernel
theorem nd_Te_readCorpus_0 : decode nc_Te_readCorpus 0 = .ok (.aload_n 0, 1) := by decide +kernel
theorem nd_Te_readCorpus_1 : decode nc_Te_readCorpus 1 = .ok (.iconst 0, 1) := by decide +kernel
theorem nd_Te_readCorpus_2 : decode nc_Te_readCorpus 2 = .ok (.putfield 23, 3) := by decide +kernel
theorem nd_Te_readCorpus_5 : decode nc_Te_readCorpus 5 = .ok (.aload_n 1, 1) := by decide +kernel
theorem nd_Te_readCorpus_6 : decode nc_Te_readCorpus 6 = .ok (.iconst 0, 1) := by decide +kernel
theorem nd_Te_readCorpus_7 : decode nc_Te_readCorpus 7 = .ok (.putfield 26, 3) := by decide +kernel
theorem nd_Te_readCorpus_10 : decode nc_Te_readCorpus 10 = .ok (.iconst 0, 1) := by decide +kernel
theorem nd_Te_readCorpus_11 : decode nc_Te_readCorpus 11 = .ok (.istore_n 2, 1) := by decide +kernel
theorem nd_Te_readCorpus_12 : decode nc_Te_readCorpus 12 = .ok (.iload_n 2, 1) := by decide +kernel
theorem nd_Te_readCorpus_13 : decode nc_Te_readCorpus 13 = .ok (.bipush 8, 2) := by decide +kernel
theorem nd_Te_readCorpus_15 : decode nc_Te_readCorpus 15 = .ok (.if_icmp .ge 59, 3) := by decide +kernel
theorem nd_Te_readCorpus_18 : decode nc_Te_readCorpus 18 = .ok (.aload_n 0, 1) := by decide +kernel
theorem nd_Te_readCorpus_19 : decode nc_Te_readCorpus 19 = .ok (.aload_n 1, 1) := by decide +kernel
theorem nd_Te_readCorpus_20 : decode nc_Te_readCorpus 20 = .ok (.getfield 31, 3) := by decide +kernel
theorem nd_Te_readCorpus_23 : decode nc_Te_readCorpus 23 = .ok (.iload_n 2, 1) := by decide +kernel
theorem nd_Te_readCorpus_24 : decode nc_Te_readCorpus 24 = .ok (.aaload, 1) := by decide +kernel
theorem nd_Te_readCorpus_25 : decode nc_Te_readCorpus 25 = .ok (.iconst 1, 1) := by decide +kernel
theorem nd_Te_readCorpus_26 : decode nc_Te_readCorpus 26 = .ok (.invokevirtual 35, 3) := by decide +kernel
theorem nd_Te_readCorpus_29 : decode nc_Te_readCorpus 29 = .ok (.ifCond .ne 5, 3) := by decide +kernel
theorem nd_Te_readCorpus_32 : decode nc_Te_readCorpus 32 = .ok (.iconst 0, 1) := by decide +kernel
theorem nd_Te_readCorpus_33 : decode nc_Te_readCorpus 33 = .ok (.ireturn, 1) := by decide +kernel
theorem nd_Te_readCorpus_34 : decode nc_Te_readCorpus 34 = .ok (.aload_n 1, 1) := by decide +kernel
theorem nd_Te_readCorpus_35 : decode nc_Te_readCorpus 35 = .ok (.dup, 1) := by decide +kernel
theorem nd_Te_readCorpus_36 : decode nc_Te_readCorpus 36 = .ok (.getfield 26, 3) := by decide +kernel
theorem nd_Te_readCorpus_39 : decode nc_Te_readCorpus 39 = .ok (.iconst 1, 1) := by decide +kernel
theorem nd_Te_readCorpus_40 : decode nc_Te_readCorpus 40 = .ok (.iadd, 1) := by decide +kernel
theorem nd_Te_readCorpus_41 : decode nc_Te_readCorpus 41 = .ok (.putfield 26, 3) := by decide +kernel
theorem nd_Te_readCorpus_44 : decode nc_Te_readCorpus 44 = .ok (.aload_n 0, 1) := by decide +kernel
theorem nd_Te_readCorpus_45 : decode nc_Te_readCorpus 45 = .ok (.getfield 23, 3) := by decide +kernel
theorem nd_Te_readCorpus_48 : decode nc_Te_readCorpus 48 = .ok (.aload_n 0, 1) := by decide +kernel
theorem nd_Te_readCorpus_49 : decode nc_Te_readCorpus 49 = .ok (.getfield 15, 3) := by decide +kernel
theorem nd_Te_readCorpus_52 : decode nc_Te_readCorpus 52 = .ok (.if_icmp .ne 5, 3) := by decide +kernel
theorem nd_Te_readCorpus_55 : decode nc_Te_readCorpus 55 = .ok (.iconst 1, 1) := by decide +kernel
theorem nd_Te_readCorpus_56 : decode nc_Te_readCorpus 56 = .ok (.ireturn, 1) := by decide +kernel
theorem nd_Te_readCorpus_57 : decode nc_Te_readCorpus 57 = .ok (.aload_n 0, 1) := by decide +kernel
theorem nd_Te_readCorpus_58 : decode nc_Te_readCorpus 58 = .ok (.bipush 59, 2) := by decide +kernel
theorem nd_Te_readCorpus_60 : decode nc_Te_readCorpus 60 = .ok (.invokevirtual 39, 3) := by decide +kernel
theorem nd_Te_readCorpus_63 : decode nc_Te_readCorpus 63 = .ok (.ifCond .ne 5, 3) := by decide +kernel
theorem nd_Te_readCorpus_66 : decode nc_Te_readCorpus 66 = .ok (.iconst 0, 1) := by decide +kernel
theorem nd_Te_readCorpus_67 : decode nc_Te_readCorpus 67 = .ok (.ireturn, 1) := by decide +kernel
theorem nd_Te_readCorpus_68 : decode nc_Te_readCorpus 68 = .ok (.iinc 2 1, 3) := by decide +kernel
theorem nd_Te_readCorpus_71 : decode nc_Te_readCorpus 71 = .ok (.goto (-59), 3) := by decide +kernel
theorem nd_Te_readCorpus_74 : decode nc_Te_readCorpus 74 = .ok (.iconst 0, 1) := by decide +kernel
theorem nd_Te_readCorpus_75 : decode nc_Te_readCorpus 75 = .ok (.ireturn, 1) := by decide +kernel
theorem nd_Te_readSpeech_0 : decode nc_Te_readSpeech 0 = .ok (.aload_n 0, 1) := by decide +kernel
theorem nd_Te_readSpeech_1 : decode nc_Te_readSpeech 1 = .ok (.iconst 0, 1) := by decide +kernel
theorem nd_Te_readSpeech_2 : decode nc_Te_readSpeech 2 = .ok (.putfield 23, 3) := by decide +kernel
theorem nd_Te_readSpeech_5 : decode nc_Te_readSpeech 5 = .ok (.aload_n 0, 1) := by decide +kernel
theorem nd_Te_readSpeech_6 : decode nc_Te_readSpeech 6 = .ok (.aload_n 1, 1) := by decide +kernel
theorem nd_Te_readSpeech_7 : decode nc_Te_readSpeech 7 = .ok (.iconst 0, 1) := by decide +kernel
theorem nd_Te_readSpeech_8 : decode nc_Te_readSpeech 8 = .ok (.invokevirtual 35, 3) := by decide +kernel
theorem nd_Te_readSpeech_11 : decode nc_Te_readSpeech 11 = .ok (.ifCond .eq 18, 3) := by decide +kernel
theorem nd_Te_readSpeech_14 : decode nc_Te_readSpeech 14 = .ok (.aload_n 0, 1) := by decide +kernel
theorem nd_Te_readSpeech_15 : decode nc_Te_readSpeech 15 = .ok (.getfield 23, 3) := by decide +kernel
theorem nd_Te_readSpeech_18 : decode nc_Te_readSpeech 18 = .ok (.aload_n 0, 1) := by decide +kernel
theorem nd_Te_readSpeech_19 : decode nc_Te_readSpeech 19 = .ok (.getfield 15, 3) := by decide +kernel
theorem nd_Te_readSpeech_22 : decode nc_Te_readSpeech 22 = .ok (.if_icmp .ne 7, 3) := by decide +kernel
theorem nd_Te_readSpeech_25 : decode nc_Te_readSpeech 25 = .ok (.iconst 1, 1) := by decide +kernel
theorem nd_Te_readSpeech_26 : decode nc_Te_readSpeech 26 = .ok (.goto 4, 3) := by decide +kernel
theorem nd_Te_readSpeech_29 : decode nc_Te_readSpeech 29 = .ok (.iconst 0, 1) := by decide +kernel
theorem nd_Te_readSpeech_30 : decode nc_Te_readSpeech 30 = .ok (.ireturn, 1) := by decide +kernel
theorem nd_Te_readSentence_0 : decode nc_Te_readSentence 0 = .ok (.aload_n 1, 1) := by decide +kernel
theorem nd_Te_readSentence_1 : decode nc_Te_readSentence 1 = .ok (.invokevirtual 43, 3) := by decide +kernel
theorem nd_Te_readSentence_4 : decode nc_Te_readSentence 4 = .ok (.aload_n 0, 1) := by decide +kernel
theorem nd_Te_readSentence_5 : decode nc_Te_readSentence 5 = .ok (.invokevirtual 48, 3) := by decide +kernel
theorem nd_Te_readSentence_8 : decode nc_Te_readSentence 8 = .ok (.pop, 1) := by decide +kernel
theorem nd_Te_readSentence_9 : decode nc_Te_readSentence 9 = .ok (.aload_n 0, 1) := by decide +kernel
theorem nd_Te_readSentence_10 : decode nc_Te_readSentence 10 = .ok (.getfield 23, 3) := by decide +kernel
theorem nd_Te_readSentence_13 : decode nc_Te_readSentence 13 = .ok (.istore_n 3, 1) := by decide +kernel
theorem nd_Te_readSentence_14 : decode nc_Te_readSentence 14 = .ok (.aload_n 0, 1) := by decide +kernel
theorem nd_Te_readSentence_15 : decode nc_Te_readSentence 15 = .ok (.getfield 23, 3) := by decide +kernel
theorem nd_Te_readSentence_18 : decode nc_Te_readSentence 18 = .ok (.istore 4, 2) := by decide +kernel
theorem nd_Te_readSentence_20 : decode nc_Te_readSentence 20 = .ok (.iconst 1, 1) := by decide +kernel
theorem nd_Te_readSentence_21 : decode nc_Te_readSentence 21 = .ok (.istore 5, 2) := by decide +kernel
theorem nd_Te_readSentence_23 : decode nc_Te_readSentence 23 = .ok (.iconst 0, 1) := by decide +kernel
theorem nd_Te_readSentence_24 : decode nc_Te_readSentence 24 = .ok (.istore 6, 2) := by decide +kernel
theorem nd_Te_readSentence_26 : decode nc_Te_readSentence 26 = .ok (.iload 6, 2) := by decide +kernel
theorem nd_Te_readSentence_28 : decode nc_Te_readSentence 28 = .ok (.bipush 6, 2) := by decide +kernel
theorem nd_Te_readSentence_30 : decode nc_Te_readSentence 30 = .ok (.if_icmp .ge 81, 3) := by decide +kernel
theorem nd_Te_readSentence_33 : decode nc_Te_readSentence 33 = .ok (.iload 5, 2) := by decide +kernel
theorem nd_Te_readSentence_35 : decode nc_Te_readSentence 35 = .ok (.ifCond .eq 76, 3) := by decide +kernel
theorem nd_Te_readSentence_38 : decode nc_Te_readSentence 38 = .ok (.aload_n 0, 1) := by decide +kernel
theorem nd_Te_readSentence_39 : decode nc_Te_readSentence 39 = .ok (.invokevirtual 52, 3) := by decide +kernel
theorem nd_Te_readSentence_42 : decode nc_Te_readSentence 42 = .ok (.invokestatic 56, 3) := by decide +kernel
theorem nd_Te_readSentence_45 : decode nc_Te_readSentence 45 = .ok (.ifCond .eq 66, 3) := by decide +kernel
theorem nd_Te_readSentence_48 : decode nc_Te_readSentence 48 = .ok (.aload_n 0, 1) := by decide +kernel
theorem nd_Te_readSentence_49 : decode nc_Te_readSentence 49 = .ok (.getfield 23, 3) := by decide +kernel
theorem nd_Te_readSentence_52 : decode nc_Te_readSentence 52 = .ok (.istore 7, 2) := by decide +kernel
theorem nd_Te_readSentence_54 : decode nc_Te_readSentence 54 = .ok (.aload_n 0, 1) := by decide +kernel
theorem nd_Te_readSentence_55 : decode nc_Te_readSentence 55 = .ok (.invokevirtual 60, 3) := by decide +kernel
theorem nd_Te_readSentence_58 : decode nc_Te_readSentence 58 = .ok (.aload_n 0, 1) := by decide +kernel
theorem nd_Te_readSentence_59 : decode nc_Te_readSentence 59 = .ok (.aload_n 1, 1) := by decide +kernel
theorem nd_Te_readSentence_60 : decode nc_Te_readSentence 60 = .ok (.iload 7, 2) := by decide +kernel
theorem nd_Te_readSentence_62 : decode nc_Te_readSentence 62 = .ok (.iload_n 3, 1) := by decide +kernel
theorem nd_Te_readSentence_63 : decode nc_Te_readSentence 63 = .ok (.iload 4, 2) := by decide +kernel
theorem nd_Te_readSentence_65 : decode nc_Te_readSentence 65 = .ok (.invokevirtual 63, 3) := by decide +kernel
theorem nd_Te_readSentence_68 : decode nc_Te_readSentence 68 = .ok (.iload 7, 2) := by decide +kernel
theorem nd_Te_readSentence_70 : decode nc_Te_readSentence 70 = .ok (.istore_n 3, 1) := by decide +kernel
theorem nd_Te_readSentence_71 : decode nc_Te_readSentence 71 = .ok (.aload_n 0, 1) := by decide +kernel
theorem nd_Te_readSentence_72 : decode nc_Te_readSentence 72 = .ok (.getfield 23, 3) := by decide +kernel
theorem nd_Te_readSentence_75 : decode nc_Te_readSentence 75 = .ok (.istore 4, 2) := by decide +kernel
theorem nd_Te_readSentence_77 : decode nc_Te_readSentence 77 = .ok (.iload_n 2, 1) := by decide +kernel
theorem nd_Te_readSentence_78 : decode nc_Te_readSentence 78 = .ok (.ifCond .eq 13, 3) := by decide +kernel
theorem nd_Te_readSentence_81 : decode nc_Te_readSentence 81 = .ok (.aload_n 0, 1) := by decide +kernel
theorem nd_Te_readSentence_82 : decode nc_Te_readSentence 82 = .ok (.aload_n 1, 1) := by decide +kernel
theorem nd_Te_readSentence_83 : decode nc_Te_readSentence 83 = .ok (.invokevirtual 67, 3) := by decide +kernel
theorem nd_Te_readSentence_86 : decode nc_Te_readSentence 86 = .ok (.ifCond .ne 5, 3) := by decide +kernel
theorem nd_Te_readSentence_89 : decode nc_Te_readSentence 89 = .ok (.iconst 0, 1) := by decide +kernel
theorem nd_Te_readSentence_90 : decode nc_Te_readSentence 90 = .ok (.ireturn, 1) := by decide +kernel
theorem nd_Te_readSentence_91 : decode nc_Te_readSentence 91 = .ok (.aload_n 1, 1) := by decide +kernel
theorem nd_Te_readSentence_92 : decode nc_Te_readSentence 92 = .ok (.iload 6, 2) := by decide +kernel
theorem nd_Te_readSentence_94 : decode nc_Te_readSentence 94 = .ok (.iconst 1, 1) := by decide +kernel
theorem nd_Te_readSentence_95 : decode nc_Te_readSentence 95 = .ok (.iadd, 1) := by decide +kernel
theorem nd_Te_readSentence_96 : decode nc_Te_readSentence 96 = .ok (.putfield 71, 3) := by decide +kernel
theorem nd_Te_readSentence_99 : decode nc_Te_readSentence 99 = .ok (.aload_n 0, 1) := by decide +kernel
theorem nd_Te_readSentence_100 : decode nc_Te_readSentence 100 = .ok (.invokevirtual 48, 3) := by decide +kernel
theorem nd_Te_readSentence_103 : decode nc_Te_readSentence 103 = .ok (.istore 5, 2) := by decide +kernel
theorem nd_Te_readSentence_105 : decode nc_Te_readSentence 105 = .ok (.iinc 6 1, 3) := by decide +kernel
theorem nd_Te_readSentence_108 : decode nc_Te_readSentence 108 = .ok (.goto (-82), 3) := by decide +kernel
theorem nd_Te_readSentence_111 : decode nc_Te_readSentence 111 = .ok (.aload_n 1, 1) := by decide +kernel
theorem nd_Te_readSentence_112 : decode nc_Te_readSentence 112 = .ok (.getfield 71, 3) := by decide +kernel
theorem nd_Te_readSentence_115 : decode nc_Te_readSentence 115 = .ok (.ifCond .le 7, 3) := by decide +kernel
theorem nd_Te_readSentence_118 : decode nc_Te_readSentence 118 = .ok (.iconst 1, 1) := by decide +kernel
theorem nd_Te_readSentence_119 : decode nc_Te_readSentence 119 = .ok (.goto 4, 3) := by decide +kernel
theorem nd_Te_readSentence_122 : decode nc_Te_readSentence 122 = .ok (.iconst 0, 1) := by decide +kernel
theorem nd_Te_readSentence_123 : decode nc_Te_readSentence 123 = .ok (.ireturn, 1) := by decide +kernel
theorem nd_Te_setFeatures_0 : decode nc_Te_setFeatures 0 = .ok (.iload_n 2, 1) := by decide +kernel
theorem nd_Te_setFeatures_1 : decode nc_Te_setFeatures 1 = .ok (.aload_n 0, 1) := by decide +kernel
theorem nd_Te_setFeatures_2 : decode nc_Te_setFeatures 2 = .ok (.getfield 23, 3) := by decide +kernel
theorem nd_Te_setFeatures_5 : decode nc_Te_setFeatures 5 = .ok (.iconst 2, 1) := by decide +kernel
theorem nd_Te_setFeatures_6 : decode nc_Te_setFeatures 6 = .ok (.isub, 1) := by decide +kernel
theorem nd_Te_setFeatures_7 : decode nc_Te_setFeatures 7 = .ok (.invokestatic 72, 3) := by decide +kernel
theorem nd_Te_setFeatures_10 : decode nc_Te_setFeatures 10 = .ok (.istore 5, 2) := by decide +kernel
theorem nd_Te_setFeatures_12 : decode nc_Te_setFeatures 12 = .ok (.aload_n 1, 1) := by decide +kernel
theorem nd_Te_setFeatures_13 : decode nc_Te_setFeatures 13 = .ok (.aload_n 1, 1) := by decide +kernel
theorem nd_Te_setFeatures_14 : decode nc_Te_setFeatures 14 = .ok (.getfield 71, 3) := by decide +kernel
theorem nd_Te_setFeatures_17 : decode nc_Te_setFeatures 17 = .ok (.iconst 0, 1) := by decide +kernel
theorem nd_Te_setFeatures_18 : decode nc_Te_setFeatures 18 = .ok (.aload_n 0, 1) := by decide +kernel
theorem nd_Te_setFeatures_19 : decode nc_Te_setFeatures 19 = .ok (.bipush 7, 2) := by decide +kernel
theorem nd_Te_setFeatures_21 : decode nc_Te_setFeatures 21 = .ok (.iload_n 2, 1) := by decide +kernel
theorem nd_Te_setFeatures_22 : decode nc_Te_setFeatures 22 = .ok (.aload_n 0, 1) := by decide +kernel
theorem nd_Te_setFeatures_23 : decode nc_Te_setFeatures 23 = .ok (.getfield 23, 3) := by decide +kernel
theorem nd_Te_setFeatures_26 : decode nc_Te_setFeatures 26 = .ok (.invokevirtual 78, 3) := by decide +kernel
theorem nd_Te_setFeatures_29 : decode nc_Te_setFeatures 29 = .ok (.invokestatic 82, 3) := by decide +kernel
theorem nd_Te_setFeatures_32 : decode nc_Te_setFeatures 32 = .ok (.invokevirtual 86, 3) := by decide +kernel
theorem nd_Te_setFeatures_35 : decode nc_Te_setFeatures 35 = .ok (.aload_n 1, 1) := by decide +kernel
theorem nd_Te_setFeatures_36 : decode nc_Te_setFeatures 36 = .ok (.aload_n 1, 1) := by decide +kernel
theorem nd_Te_setFeatures_37 : decode nc_Te_setFeatures 37 = .ok (.getfield 71, 3) := by decide +kernel
theorem nd_Te_setFeatures_40 : decode nc_Te_setFeatures 40 = .ok (.iconst 1, 1) := by decide +kernel
theorem nd_Te_setFeatures_41 : decode nc_Te_setFeatures 41 = .ok (.aload_n 0, 1) := by decide +kernel
theorem nd_Te_setFeatures_42 : decode nc_Te_setFeatures 42 = .ok (.bipush 7, 2) := by decide +kernel
theorem nd_Te_setFeatures_44 : decode nc_Te_setFeatures 44 = .ok (.bipush 45, 2) := by decide +kernel
theorem nd_Te_setFeatures_46 : decode nc_Te_setFeatures 46 = .ok (.invokestatic 90, 3) := by decide +kernel
theorem nd_Te_setFeatures_49 : decode nc_Te_setFeatures 49 = .ok (.iload 5, 2) := by decide +kernel
theorem nd_Te_setFeatures_51 : decode nc_Te_setFeatures 51 = .ok (.aload_n 0, 1) := by decide +kernel
theorem nd_Te_setFeatures_52 : decode nc_Te_setFeatures 52 = .ok (.getfield 23, 3) := by decide +kernel
theorem nd_Te_setFeatures_55 : decode nc_Te_setFeatures 55 = .ok (.invokevirtual 78, 3) := by decide +kernel
theorem nd_Te_setFeatures_58 : decode nc_Te_setFeatures 58 = .ok (.invokestatic 82, 3) := by decide +kernel
theorem nd_Te_setFeatures_61 : decode nc_Te_setFeatures 61 = .ok (.invokevirtual 86, 3) := by decide +kernel
theorem nd_Te_setFeatures_64 : decode nc_Te_setFeatures 64 = .ok (.aload_n 1, 1) := by decide +kernel
theorem nd_Te_setFeatures_65 : decode nc_Te_setFeatures 65 = .ok (.aload_n 1, 1) := by decide +kernel
theorem nd_Te_setFeatures_66 : decode nc_Te_setFeatures 66 = .ok (.getfield 71, 3) := by decide +kernel
theorem nd_Te_setFeatures_69 : decode nc_Te_setFeatures 69 = .ok (.iconst 2, 1) := by decide +kernel
theorem nd_Te_setFeatures_70 : decode nc_Te_setFeatures 70 = .ok (.aload_n 0, 1) := by decide +kernel
theorem nd_Te_setFeatures_71 : decode nc_Te_setFeatures 71 = .ok (.bipush 7, 2) := by decide +kernel
theorem nd_Te_setFeatures_73 : decode nc_Te_setFeatures 73 = .ok (.bipush 60, 2) := by decide +kernel
theorem nd_Te_setFeatures_75 : decode nc_Te_setFeatures 75 = .ok (.invokestatic 90, 3) := by decide +kernel
theorem nd_Te_setFeatures_78 : decode nc_Te_setFeatures 78 = .ok (.iload_n 3, 1) := by decide +kernel
theorem nd_Te_setFeatures_79 : decode nc_Te_setFeatures 79 = .ok (.iload 4, 2) := by decide +kernel
theorem nd_Te_setFeatures_81 : decode nc_Te_setFeatures 81 = .ok (.invokevirtual 78, 3) := by decide +kernel
theorem nd_Te_setFeatures_84 : decode nc_Te_setFeatures 84 = .ok (.invokestatic 82, 3) := by decide +kernel
theorem nd_Te_setFeatures_87 : decode nc_Te_setFeatures 87 = .ok (.invokevirtual 86, 3) := by decide +kernel
theorem nd_Te_setFeatures_90 : decode nc_Te_setFeatures 90 = .ok (.return_, 1) := by decide +kernel
theorem nd_Te_readLabel_0 : decode nc_Te_readLabel 0 = .ok (.aload_n 0, 1) := by decide +kernel
theorem nd_Te_readLabel_1 : decode nc_Te_readLabel 1 = .ok (.bipush 47, 2) := by decide +kernel
theorem nd_Te_readLabel_3 : decode nc_Te_readLabel 3 = .ok (.invokevirtual 39, 3) := by decide +kernel
theorem nd_Te_readLabel_6 : decode nc_Te_readLabel 6 = .ok (.ifCond .ne 5, 3) := by decide +kernel
theorem nd_Te_readLabel_9 : decode nc_Te_readLabel 9 = .ok (.iconst 0, 1) := by decide +kernel
theorem nd_Te_readLabel_10 : decode nc_Te_readLabel 10 = .ok (.ireturn, 1) := by decide +kernel
theorem nd_Te_readLabel_11 : decode nc_Te_readLabel 11 = .ok (.aload_n 0, 1) := by decide +kernel
theorem nd_Te_readLabel_12 : decode nc_Te_readLabel 12 = .ok (.invokevirtual 52, 3) := by decide +kernel
theorem nd_Te_readLabel_15 : decode nc_Te_readLabel 15 = .ok (.bipush 65, 2) := by decide +kernel
theorem nd_Te_readLabel_17 : decode nc_Te_readLabel 17 = .ok (.isub, 1) := by decide +kernel
theorem nd_Te_readLabel_18 : decode nc_Te_readLabel 18 = .ok (.istore_n 2, 1) := by decide +kernel
theorem nd_Te_readLabel_19 : decode nc_Te_readLabel 19 = .ok (.iload_n 2, 1) := by decide +kernel
theorem nd_Te_readLabel_20 : decode nc_Te_readLabel 20 = .ok (.ifCond .lt 8, 3) := by decide +kernel
theorem nd_Te_readLabel_23 : decode nc_Te_readLabel 23 = .ok (.iload_n 2, 1) := by decide +kernel
theorem nd_Te_readLabel_24 : decode nc_Te_readLabel 24 = .ok (.iconst 4, 1) := by decide +kernel
theorem nd_Te_readLabel_25 : decode nc_Te_readLabel 25 = .ok (.if_icmp .lt 5, 3) := by decide +kernel
theorem nd_Te_readLabel_28 : decode nc_Te_readLabel 28 = .ok (.iconst 0, 1) := by decide +kernel
theorem nd_Te_readLabel_29 : decode nc_Te_readLabel 29 = .ok (.ireturn, 1) := by decide +kernel
theorem nd_Te_readLabel_30 : decode nc_Te_readLabel 30 = .ok (.aload_n 0, 1) := by decide +kernel
theorem nd_Te_readLabel_31 : decode nc_Te_readLabel 31 = .ok (.dup, 1) := by decide +kernel
theorem nd_Te_readLabel_32 : decode nc_Te_readLabel 32 = .ok (.getfield 23, 3) := by decide +kernel
theorem nd_Te_readLabel_35 : decode nc_Te_readLabel 35 = .ok (.iconst 1, 1) := by decide +kernel
theorem nd_Te_readLabel_36 : decode nc_Te_readLabel 36 = .ok (.iadd, 1) := by decide +kernel
theorem nd_Te_readLabel_37 : decode nc_Te_readLabel 37 = .ok (.putfield 23, 3) := by decide +kernel
theorem nd_Te_readLabel_40 : decode nc_Te_readLabel 40 = .ok (.aload_n 1, 1) := by decide +kernel
theorem nd_Te_readLabel_41 : decode nc_Te_readLabel 41 = .ok (.dup, 1) := by decide +kernel
theorem nd_Te_readLabel_42 : decode nc_Te_readLabel 42 = .ok (.getfield 94, 3) := by decide +kernel
theorem nd_Te_readLabel_45 : decode nc_Te_readLabel 45 = .ok (.iload_n 2, 1) := by decide +kernel
theorem nd_Te_readLabel_46 : decode nc_Te_readLabel 46 = .ok (.iconst 2, 1) := by decide +kernel
theorem nd_Te_readLabel_47 : decode nc_Te_readLabel 47 = .ok (.aload_n 1, 1) := by decide +kernel
theorem nd_Te_readLabel_48 : decode nc_Te_readLabel 48 = .ok (.getfield 71, 3) := by decide +kernel
theorem nd_Te_readLabel_51 : decode nc_Te_readLabel 51 = .ok (.imul, 1) := by decide +kernel
theorem nd_Te_readLabel_52 : decode nc_Te_readLabel 52 = .ok (.ishl, 1) := by decide +kernel
theorem nd_Te_readLabel_53 : decode nc_Te_readLabel 53 = .ok (.ior, 1) := by decide +kernel
theorem nd_Te_readLabel_54 : decode nc_Te_readLabel 54 = .ok (.putfield 94, 3) := by decide +kernel
theorem nd_Te_readLabel_57 : decode nc_Te_readLabel 57 = .ok (.iconst 1, 1) := by decide +kernel
theorem nd_Te_readLabel_58 : decode nc_Te_readLabel 58 = .ok (.ireturn, 1) := by decide +kernel
theorem nd_Te_take_0 : decode nc_Te_take 0 = .ok (.aload_n 0, 1) := by decide +kernel
theorem nd_Te_take_1 : decode nc_Te_take 1 = .ok (.invokevirtual 52, 3) := by decide +kernel
theorem nd_Te_take_4 : decode nc_Te_take 4 = .ok (.iload_n 1, 1) := by decide +kernel
theorem nd_Te_take_5 : decode nc_Te_take 5 = .ok (.if_icmp .eq 5, 3) := by decide +kernel
theorem nd_Te_take_8 : decode nc_Te_take 8 = .ok (.iconst 0, 1) := by decide +kernel
theorem nd_Te_take_9 : decode nc_Te_take 9 = .ok (.ireturn, 1) := by decide +kernel
theorem nd_Te_take_10 : decode nc_Te_take 10 = .ok (.aload_n 0, 1) := by decide +kernel
theorem nd_Te_take_11 : decode nc_Te_take 11 = .ok (.dup, 1) := by decide +kernel
theorem nd_Te_take_12 : decode nc_Te_take 12 = .ok (.getfield 23, 3) := by decide +kernel
theorem nd_Te_take_15 : decode nc_Te_take 15 = .ok (.iconst 1, 1) := by decide +kernel
theorem nd_Te_take_16 : decode nc_Te_take 16 = .ok (.iadd, 1) := by decide +kernel
theorem nd_Te_take_17 : decode nc_Te_take 17 = .ok (.putfield 23, 3) := by decide +kernel
theorem nd_Te_take_20 : decode nc_Te_take 20 = .ok (.iconst 1, 1) := by decide +kernel
theorem nd_Te_take_21 : decode nc_Te_take 21 = .ok (.ireturn, 1) := by decide +kernel
theorem nd_Te_skipSpaces_0 : decode nc_Te_skipSpaces 0 = .ok (.aload_n 0, 1) := by decide +kernel
theorem nd_Te_skipSpaces_1 : decode nc_Te_skipSpaces 1 = .ok (.getfield 23, 3) := by decide +kernel
theorem nd_Te_skipSpaces_4 : decode nc_Te_skipSpaces 4 = .ok (.istore_n 1, 1) := by decide +kernel
theorem nd_Te_skipSpaces_5 : decode nc_Te_skipSpaces 5 = .ok (.aload_n 0, 1) := by decide +kernel
theorem nd_Te_skipSpaces_6 : decode nc_Te_skipSpaces 6 = .ok (.getfield 23, 3) := by decide +kernel
theorem nd_Te_skipSpaces_9 : decode nc_Te_skipSpaces 9 = .ok (.aload_n 0, 1) := by decide +kernel
theorem nd_Te_skipSpaces_10 : decode nc_Te_skipSpaces 10 = .ok (.getfield 15, 3) := by decide +kernel
theorem nd_Te_skipSpaces_13 : decode nc_Te_skipSpaces 13 = .ok (.if_icmp .ge 25, 3) := by decide +kernel
theorem nd_Te_skipSpaces_16 : decode nc_Te_skipSpaces 16 = .ok (.aload_n 0, 1) := by decide +kernel
theorem nd_Te_skipSpaces_17 : decode nc_Te_skipSpaces 17 = .ok (.invokevirtual 52, 3) := by decide +kernel
theorem nd_Te_skipSpaces_20 : decode nc_Te_skipSpaces 20 = .ok (.bipush 32, 2) := by decide +kernel
theorem nd_Te_skipSpaces_22 : decode nc_Te_skipSpaces 22 = .ok (.if_icmp .ne 16, 3) := by decide +kernel
theorem nd_Te_skipSpaces_25 : decode nc_Te_skipSpaces 25 = .ok (.aload_n 0, 1) := by decide +kernel
theorem nd_Te_skipSpaces_26 : decode nc_Te_skipSpaces 26 = .ok (.dup, 1) := by decide +kernel
theorem nd_Te_skipSpaces_27 : decode nc_Te_skipSpaces 27 = .ok (.getfield 23, 3) := by decide +kernel
theorem nd_Te_skipSpaces_30 : decode nc_Te_skipSpaces 30 = .ok (.iconst 1, 1) := by decide +kernel
theorem nd_Te_skipSpaces_31 : decode nc_Te_skipSpaces 31 = .ok (.iadd, 1) := by decide +kernel
theorem nd_Te_skipSpaces_32 : decode nc_Te_skipSpaces 32 = .ok (.putfield 23, 3) := by decide +kernel
theorem nd_Te_skipSpaces_35 : decode nc_Te_skipSpaces 35 = .ok (.goto (-30), 3) := by decide +kernel
theorem nd_Te_skipSpaces_38 : decode nc_Te_skipSpaces 38 = .ok (.aload_n 0, 1) := by decide +kernel
theorem nd_Te_skipSpaces_39 : decode nc_Te_skipSpaces 39 = .ok (.getfield 23, 3) := by decide +kernel
theorem nd_Te_skipSpaces_42 : decode nc_Te_skipSpaces 42 = .ok (.iload_n 1, 1) := by decide +kernel
theorem nd_Te_skipSpaces_43 : decode nc_Te_skipSpaces 43 = .ok (.if_icmp .le 7, 3) := by decide +kernel
theorem nd_Te_skipSpaces_46 : decode nc_Te_skipSpaces 46 = .ok (.iconst 1, 1) := by decide +kernel
theorem nd_Te_skipSpaces_47 : decode nc_Te_skipSpaces 47 = .ok (.goto 4, 3) := by decide +kernel
theorem nd_Te_skipSpaces_50 : decode nc_Te_skipSpaces 50 = .ok (.iconst 0, 1) := by decide +kernel
theorem nd_Te_skipSpaces_51 : decode nc_Te_skipSpaces 51 = .ok (.ireturn, 1) := by decide +kernel
theorem nd_Te_skipLetters_0 : decode nc_Te_skipLetters 0 = .ok (.iconst 0, 1) := by decide +kernel
theorem nd_Te_skipLetters_1 : decode nc_Te_skipLetters 1 = .ok (.istore_n 1, 1) := by decide +kernel
theorem nd_Te_skipLetters_2 : decode nc_Te_skipLetters 2 = .ok (.iload_n 1, 1) := by decide +kernel
theorem nd_Te_skipLetters_3 : decode nc_Te_skipLetters 3 = .ok (.bipush 6, 2) := by decide +kernel
theorem nd_Te_skipLetters_5 : decode nc_Te_skipLetters 5 = .ok (.if_icmp .ge 29, 3) := by decide +kernel
theorem nd_Te_skipLetters_8 : decode nc_Te_skipLetters 8 = .ok (.aload_n 0, 1) := by decide +kernel
theorem nd_Te_skipLetters_9 : decode nc_Te_skipLetters 9 = .ok (.invokevirtual 52, 3) := by decide +kernel
theorem nd_Te_skipLetters_12 : decode nc_Te_skipLetters 12 = .ok (.invokestatic 56, 3) := by decide +kernel
theorem nd_Te_skipLetters_15 : decode nc_Te_skipLetters 15 = .ok (.ifCond .eq 19, 3) := by decide +kernel
theorem nd_Te_skipLetters_18 : decode nc_Te_skipLetters 18 = .ok (.aload_n 0, 1) := by decide +kernel
theorem nd_Te_skipLetters_19 : decode nc_Te_skipLetters 19 = .ok (.dup, 1) := by decide +kernel
theorem nd_Te_skipLetters_20 : decode nc_Te_skipLetters 20 = .ok (.getfield 23, 3) := by decide +kernel
theorem nd_Te_skipLetters_23 : decode nc_Te_skipLetters 23 = .ok (.iconst 1, 1) := by decide +kernel
theorem nd_Te_skipLetters_24 : decode nc_Te_skipLetters 24 = .ok (.iadd, 1) := by decide +kernel
theorem nd_Te_skipLetters_25 : decode nc_Te_skipLetters 25 = .ok (.putfield 23, 3) := by decide +kernel
theorem nd_Te_skipLetters_28 : decode nc_Te_skipLetters 28 = .ok (.iinc 1 1, 3) := by decide +kernel
theorem nd_Te_skipLetters_31 : decode nc_Te_skipLetters 31 = .ok (.goto (-29), 3) := by decide +kernel
theorem nd_Te_skipLetters_34 : decode nc_Te_skipLetters 34 = .ok (.return_, 1) := by decide +kernel
theorem nd_Te_current_0 : decode nc_Te_current 0 = .ok (.aload_n 0, 1) := by decide +kernel
theorem nd_Te_current_1 : decode nc_Te_current 1 = .ok (.getfield 23, 3) := by decide +kernel
theorem nd_Te_current_4 : decode nc_Te_current 4 = .ok (.aload_n 0, 1) := by decide +kernel
theorem nd_Te_current_5 : decode nc_Te_current 5 = .ok (.getfield 15, 3) := by decide +kernel
theorem nd_Te_current_8 : decode nc_Te_current 8 = .ok (.if_icmp .ge 15, 3) := by decide +kernel
theorem nd_Te_current_11 : decode nc_Te_current 11 = .ok (.aload_n 0, 1) := by decide +kernel
theorem nd_Te_current_12 : decode nc_Te_current 12 = .ok (.getfield 9, 3) := by decide +kernel
theorem nd_Te_current_15 : decode nc_Te_current 15 = .ok (.aload_n 0, 1) := by decide +kernel
theorem nd_Te_current_16 : decode nc_Te_current 16 = .ok (.getfield 23, 3) := by decide +kernel
theorem nd_Te_current_19 : decode nc_Te_current 19 = .ok (.caload, 1) := by decide +kernel
theorem nd_Te_current_20 : decode nc_Te_current 20 = .ok (.goto 4, 3) := by decide +kernel
theorem nd_Te_current_23 : decode nc_Te_current 23 = .ok (.iconst (-1), 1) := by decide +kernel
theorem nd_Te_current_24 : decode nc_Te_current 24 = .ok (.ireturn, 1) := by decide +kernel
theorem nd_Te_hash_0 : decode nc_Te_hash 0 = .ok (.iload_n 1, 1) := by decide +kernel
theorem nd_Te_hash_1 : decode nc_Te_hash 1 = .ok (.istore 4, 2) := by decide +kernel
theorem nd_Te_hash_3 : decode nc_Te_hash 3 = .ok (.iload_n 2, 1) := by decide +kernel
theorem nd_Te_hash_4 : decode nc_Te_hash 4 = .ok (.istore 5, 2) := by decide +kernel
theorem nd_Te_hash_6 : decode nc_Te_hash 6 = .ok (.iload 5, 2) := by decide +kernel
theorem nd_Te_hash_8 : decode nc_Te_hash 8 = .ok (.iload_n 3, 1) := by decide +kernel
theorem nd_Te_hash_9 : decode nc_Te_hash 9 = .ok (.if_icmp .ge 23, 3) := by decide +kernel
theorem nd_Te_hash_12 : decode nc_Te_hash 12 = .ok (.iload 4, 2) := by decide +kernel
theorem nd_Te_hash_14 : decode nc_Te_hash 14 = .ok (.aload_n 0, 1) := by decide +kernel
theorem nd_Te_hash_15 : decode nc_Te_hash 15 = .ok (.getfield 9, 3) := by decide +kernel
theorem nd_Te_hash_18 : decode nc_Te_hash 18 = .ok (.iload 5, 2) := by decide +kernel
theorem nd_Te_hash_20 : decode nc_Te_hash 20 = .ok (.caload, 1) := by decide +kernel
theorem nd_Te_hash_21 : decode nc_Te_hash 21 = .ok (.invokestatic 90, 3) := by decide +kernel
theorem nd_Te_hash_24 : decode nc_Te_hash 24 = .ok (.istore 4, 2) := by decide +kernel
theorem nd_Te_hash_26 : decode nc_Te_hash 26 = .ok (.iinc 5 1, 3) := by decide +kernel
theorem nd_Te_hash_29 : decode nc_Te_hash 29 = .ok (.goto (-23), 3) := by decide +kernel
theorem nd_Te_hash_32 : decode nc_Te_hash 32 = .ok (.iload 4, 2) := by decide +kernel
theorem nd_Te_hash_34 : decode nc_Te_hash 34 = .ok (.ireturn, 1) := by decide +kernel
theorem nd_Te_mix_0 : decode nc_Te_mix 0 = .ok (.bipush 31, 2) := by decide +kernel
theorem nd_Te_mix_2 : decode nc_Te_mix 2 = .ok (.iload_n 0, 1) := by decide +kernel
theorem nd_Te_mix_3 : decode nc_Te_mix 3 = .ok (.imul, 1) := by decide +kernel
theorem nd_Te_mix_4 : decode nc_Te_mix 4 = .ok (.iload_n 1, 1) := by decide +kernel
theorem nd_Te_mix_5 : decode nc_Te_mix 5 = .ok (.iadd, 1) := by decide +kernel
theorem nd_Te_mix_6 : decode nc_Te_mix 6 = .ok (.ireturn, 1) := by decide +kernel
theorem nd_Te_bucket_0 : decode nc_Te_bucket 0 = .ok (.iload_n 0, 1) := by decide +kernel
theorem nd_Te_bucket_1 : decode nc_Te_bucket 1 = .ok (.iload_n 0, 1) := by decide +kernel
theorem nd_Te_bucket_2 : decode nc_Te_bucket 2 = .ok (.bipush 15, 2) := by decide +kernel
theorem nd_Te_bucket_4 : decode nc_Te_bucket 4 = .ok (.iushr, 1) := by decide +kernel
theorem nd_Te_bucket_5 : decode nc_Te_bucket 5 = .ok (.ixor, 1) := by decide +kernel
theorem nd_Te_bucket_6 : decode nc_Te_bucket 6 = .ok (.bipush 31, 2) := by decide +kernel
theorem nd_Te_bucket_8 : decode nc_Te_bucket 8 = .ok (.iand, 1) := by decide +kernel
theorem nd_Te_bucket_9 : decode nc_Te_bucket 9 = .ok (.ireturn, 1) := by decide +kernel
theorem nd_Te_isLetter_0 : decode nc_Te_isLetter 0 = .ok (.iload_n 0, 1) := by decide +kernel
theorem nd_Te_isLetter_1 : decode nc_Te_isLetter 1 = .ok (.bipush 97, 2) := by decide +kernel
theorem nd_Te_isLetter_3 : decode nc_Te_isLetter 3 = .ok (.if_icmp .lt 13, 3) := by decide +kernel
theorem nd_Te_isLetter_6 : decode nc_Te_isLetter 6 = .ok (.iload_n 0, 1) := by decide +kernel
theorem nd_Te_isLetter_7 : decode nc_Te_isLetter 7 = .ok (.bipush 122, 2) := by decide +kernel
theorem nd_Te_isLetter_9 : decode nc_Te_isLetter 9 = .ok (.if_icmp .gt 7, 3) := by decide +kernel
theorem nd_Te_isLetter_12 : decode nc_Te_isLetter 12 = .ok (.iconst 1, 1) := by decide +kernel
theorem nd_Te_isLetter_13 : decode nc_Te_isLetter 13 = .ok (.goto 4, 3) := by decide +kernel
theorem nd_Te_isLetter_16 : decode nc_Te_isLetter 16 = .ok (.iconst 0, 1) := by decide +kernel
theorem nd_Te_isLetter_17 : decode nc_Te_isLetter 17 = .ok (.ireturn, 1) := by decide +kernel
theorem nd_We_init_0 : decode nc_We_init 0 = .ok (.aload_n 0, 1) := by decide +kernel
theorem nd_We_init_1 : decode nc_We_init 1 = .ok (.invokespecial 3, 3) := by decide +kernel
theorem nd_We_init_4 : decode nc_We_init 4 = .ok (.aload_n 0, 1) := by decide +kernel
theorem nd_We_init_5 : decode nc_We_init 5 = .ok (.sipush 148, 3) := by decide +kernel
theorem nd_We_init_8 : decode nc_We_init 8 = .ok (.newarray .long, 2) := by decide +kernel
theorem nd_We_init_10 : decode nc_We_init 10 = .ok (.putfield 9, 3) := by decide +kernel
theorem nd_We_init_13 : decode nc_We_init 13 = .ok (.return_, 1) := by decide +kernel
theorem nd_We_at_0 : decode nc_We_at 0 = .ok (.aload_n 0, 1) := by decide +kernel
theorem nd_We_at_1 : decode nc_We_at 1 = .ok (.getfield 9, 3) := by decide +kernel
theorem nd_We_at_4 : decode nc_We_at 4 = .ok (.iload_n 1, 1) := by decide +kernel
theorem nd_We_at_5 : decode nc_We_at 5 = .ok (.iconst 4, 1) := by decide +kernel
theorem nd_We_at_6 : decode nc_We_at 6 = .ok (.imul, 1) := by decide +kernel
theorem nd_We_at_7 : decode nc_We_at 7 = .ok (.iload_n 2, 1) := by decide +kernel
theorem nd_We_at_8 : decode nc_We_at 8 = .ok (.iadd, 1) := by decide +kernel
theorem nd_We_at_9 : decode nc_We_at 9 = .ok (.laload, 1) := by decide +kernel
theorem nd_We_at_10 : decode nc_We_at 10 = .ok (.lreturn, 1) := by decide +kernel
theorem nd_We_add_0 : decode nc_We_add 0 = .ok (.aload_n 0, 1) := by decide +kernel
theorem nd_We_add_1 : decode nc_We_add 1 = .ok (.getfield 9, 3) := by decide +kernel
theorem nd_We_add_4 : decode nc_We_add 4 = .ok (.iload_n 1, 1) := by decide +kernel
theorem nd_We_add_5 : decode nc_We_add 5 = .ok (.iconst 4, 1) := by decide +kernel
theorem nd_We_add_6 : decode nc_We_add 6 = .ok (.imul, 1) := by decide +kernel
theorem nd_We_add_7 : decode nc_We_add 7 = .ok (.iload_n 2, 1) := by decide +kernel
theorem nd_We_add_8 : decode nc_We_add 8 = .ok (.iadd, 1) := by decide +kernel
theorem nd_We_add_9 : decode nc_We_add 9 = .ok (.dup2, 1) := by decide +kernel
theorem nd_We_add_10 : decode nc_We_add 10 = .ok (.laload, 1) := by decide +kernel
theorem nd_We_add_11 : decode nc_We_add 11 = .ok (.lload_n 3, 1) := by decide +kernel
theorem nd_We_add_12 : decode nc_We_add 12 = .ok (.ladd, 1) := by decide +kernel
theorem nd_We_add_13 : decode nc_We_add 13 = .ok (.lastore, 1) := by decide +kernel
theorem nd_We_add_14 : decode nc_We_add 14 = .ok (.return_, 1) := by decide +kernel
theorem nd_We_clear_0 : decode nc_We_clear 0 = .ok (.iconst 0, 1) := by decide +kernel
theorem nd_We_clear_1 : decode nc_We_clear 1 = .ok (.istore_n 1, 1) := by decide +kernel
theorem nd_We_clear_2 : decode nc_We_clear 2 = .ok (.iload_n 1, 1) := by decide +kernel
theorem nd_We_clear_3 : decode nc_We_clear 3 = .ok (.aload_n 0, 1) := by decide +kernel
theorem nd_We_clear_4 : decode nc_We_clear 4 = .ok (.getfield 9, 3) := by decide +kernel
theorem nd_We_clear_7 : decode nc_We_clear 7 = .ok (.arraylength, 1) := by decide +kernel
theorem nd_We_clear_8 : decode nc_We_clear 8 = .ok (.if_icmp .ge 16, 3) := by decide +kernel
theorem nd_We_clear_11 : decode nc_We_clear 11 = .ok (.aload_n 0, 1) := by decide +kernel
theorem nd_We_clear_12 : decode nc_We_clear 12 = .ok (.getfield 9, 3) := by decide +kernel
theorem nd_We_clear_15 : decode nc_We_clear 15 = .ok (.iload_n 1, 1) := by decide +kernel
theorem nd_We_clear_16 : decode nc_We_clear 16 = .ok (.lconst 0, 1) := by decide +kernel
theorem nd_We_clear_17 : decode nc_We_clear 17 = .ok (.lastore, 1) := by decide +kernel
theorem nd_We_clear_18 : decode nc_We_clear 18 = .ok (.iinc 1 1, 3) := by decide +kernel
theorem nd_We_clear_21 : decode nc_We_clear 21 = .ok (.goto (-19), 3) := by decide +kernel
theorem nd_We_clear_24 : decode nc_We_clear 24 = .ok (.return_, 1) := by decide +kernel

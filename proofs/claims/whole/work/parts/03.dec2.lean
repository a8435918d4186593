theorem nd_Mo_take_21 : decode nc_Mo_take 21 = .ok (.getfield 16, 3) := by decide +kernel
theorem nd_Mo_take_24 : decode nc_Mo_take 24 = .ok (.bipush 18, 2) := by decide +kernel
theorem nd_Mo_take_26 : decode nc_Mo_take 26 = .ok (.iload_n 1, 1) := by decide +kernel
theorem nd_Mo_take_27 : decode nc_Mo_take 27 = .ok (.imul, 1) := by decide +kernel
theorem nd_Mo_take_28 : decode nc_Mo_take 28 = .ok (.iload_n 2, 1) := by decide +kernel
theorem nd_Mo_take_29 : decode nc_Mo_take 29 = .ok (.iadd, 1) := by decide +kernel
theorem nd_Mo_take_30 : decode nc_Mo_take 30 = .ok (.aload_n 0, 1) := by decide +kernel
theorem nd_Mo_take_31 : decode nc_Mo_take 31 = .ok (.getfield 25, 3) := by decide +kernel
theorem nd_Mo_take_34 : decode nc_Mo_take 34 = .ok (.bipush 18, 2) := by decide +kernel
theorem nd_Mo_take_36 : decode nc_Mo_take 36 = .ok (.iload_n 1, 1) := by decide +kernel
theorem nd_Mo_take_37 : decode nc_Mo_take 37 = .ok (.imul, 1) := by decide +kernel
theorem nd_Mo_take_38 : decode nc_Mo_take 38 = .ok (.iload_n 2, 1) := by decide +kernel
theorem nd_Mo_take_39 : decode nc_Mo_take 39 = .ok (.iadd, 1) := by decide +kernel
theorem nd_Mo_take_40 : decode nc_Mo_take 40 = .ok (.iaload, 1) := by decide +kernel
theorem nd_Mo_take_41 : decode nc_Mo_take 41 = .ok (.iastore, 1) := by decide +kernel
theorem nd_Mo_take_42 : decode nc_Mo_take 42 = .ok (.iinc 2 1, 3) := by decide +kernel
theorem nd_Mo_take_45 : decode nc_Mo_take 45 = .ok (.goto (-31), 3) := by decide +kernel
theorem nd_Mo_take_48 : decode nc_Mo_take 48 = .ok (.iconst 0, 1) := by decide +kernel
theorem nd_Mo_take_49 : decode nc_Mo_take 49 = .ok (.istore_n 2, 1) := by decide +kernel
theorem nd_Mo_take_50 : decode nc_Mo_take 50 = .ok (.iload_n 2, 1) := by decide +kernel
theorem nd_Mo_take_51 : decode nc_Mo_take 51 = .ok (.bipush 6, 2) := by decide +kernel
theorem nd_Mo_take_53 : decode nc_Mo_take 53 = .ok (.if_icmp .ge 31, 3) := by decide +kernel
theorem nd_Mo_take_56 : decode nc_Mo_take 56 = .ok (.aload_n 0, 1) := by decide +kernel
theorem nd_Mo_take_57 : decode nc_Mo_take 57 = .ok (.getfield 19, 3) := by decide +kernel
theorem nd_Mo_take_60 : decode nc_Mo_take 60 = .ok (.bipush 6, 2) := by decide +kernel
theorem nd_Mo_take_62 : decode nc_Mo_take 62 = .ok (.iload_n 1, 1) := by decide +kernel
theorem nd_Mo_take_63 : decode nc_Mo_take 63 = .ok (.imul, 1) := by decide +kernel
theorem nd_Mo_take_64 : decode nc_Mo_take 64 = .ok (.iload_n 2, 1) := by decide +kernel
theorem nd_Mo_take_65 : decode nc_Mo_take 65 = .ok (.iadd, 1) := by decide +kernel
theorem nd_Mo_take_66 : decode nc_Mo_take 66 = .ok (.aload_n 0, 1) := by decide +kernel
theorem nd_Mo_take_67 : decode nc_Mo_take 67 = .ok (.getfield 28, 3) := by decide +kernel
theorem nd_Mo_take_70 : decode nc_Mo_take 70 = .ok (.bipush 6, 2) := by decide +kernel
theorem nd_Mo_take_72 : decode nc_Mo_take 72 = .ok (.iload_n 1, 1) := by decide +kernel
theorem nd_Mo_take_73 : decode nc_Mo_take 73 = .ok (.imul, 1) := by decide +kernel
theorem nd_Mo_take_74 : decode nc_Mo_take 74 = .ok (.iload_n 2, 1) := by decide +kernel
theorem nd_Mo_take_75 : decode nc_Mo_take 75 = .ok (.iadd, 1) := by decide +kernel
theorem nd_Mo_take_76 : decode nc_Mo_take 76 = .ok (.iaload, 1) := by decide +kernel
theorem nd_Mo_take_77 : decode nc_Mo_take 77 = .ok (.iastore, 1) := by decide +kernel
theorem nd_Mo_take_78 : decode nc_Mo_take 78 = .ok (.iinc 2 1, 3) := by decide +kernel
theorem nd_Mo_take_81 : decode nc_Mo_take 81 = .ok (.goto (-31), 3) := by decide +kernel
theorem nd_Mo_take_84 : decode nc_Mo_take 84 = .ok (.return_, 1) := by decide +kernel
theorem nd_Mo_load_0 : decode nc_Mo_load 0 = .ok (.aload_n 0, 1) := by decide +kernel
theorem nd_Mo_load_1 : decode nc_Mo_load 1 = .ok (.iconst 0, 1) := by decide +kernel
theorem nd_Mo_load_2 : decode nc_Mo_load 2 = .ok (.putfield 82, 3) := by decide +kernel
theorem nd_Mo_load_5 : decode nc_Mo_load 5 = .ok (.iconst 0, 1) := by decide +kernel
theorem nd_Mo_load_6 : decode nc_Mo_load 6 = .ok (.istore_n 1, 1) := by decide +kernel
theorem nd_Mo_load_7 : decode nc_Mo_load 7 = .ok (.iconst 1, 1) := by decide +kernel
theorem nd_Mo_load_8 : decode nc_Mo_load 8 = .ok (.istore_n 2, 1) := by decide +kernel
theorem nd_Mo_load_9 : decode nc_Mo_load 9 = .ok (.iload_n 2, 1) := by decide +kernel
theorem nd_Mo_load_10 : decode nc_Mo_load 10 = .ok (.ifCond .eq 72, 3) := by decide +kernel
theorem nd_Mo_load_13 : decode nc_Mo_load 13 = .ok (.aload_n 0, 1) := by decide +kernel
theorem nd_Mo_load_14 : decode nc_Mo_load 14 = .ok (.getfield 82, 3) := by decide +kernel
theorem nd_Mo_load_17 : decode nc_Mo_load 17 = .ok (.bipush 8, 2) := by decide +kernel
theorem nd_Mo_load_19 : decode nc_Mo_load 19 = .ok (.if_icmp .ne 7, 3) := by decide +kernel
theorem nd_Mo_load_22 : decode nc_Mo_load 22 = .ok (.iconst (-1), 1) := by decide +kernel
theorem nd_Mo_load_23 : decode nc_Mo_load 23 = .ok (.goto 13, 3) := by decide +kernel
theorem nd_Mo_load_26 : decode nc_Mo_load 26 = .ok (.aload_n 0, 1) := by decide +kernel
theorem nd_Mo_load_27 : decode nc_Mo_load 27 = .ok (.aload_n 0, 1) := by decide +kernel
theorem nd_Mo_load_28 : decode nc_Mo_load 28 = .ok (.getfield 82, 3) := by decide +kernel
theorem nd_Mo_load_31 : decode nc_Mo_load 31 = .ok (.iload_n 1, 1) := by decide +kernel
theorem nd_Mo_load_32 : decode nc_Mo_load 32 = .ok (.iconst 1, 1) := by decide +kernel
theorem nd_Mo_load_33 : decode nc_Mo_load 33 = .ok (.invokevirtual 85, 3) := by decide +kernel
theorem nd_Mo_load_36 : decode nc_Mo_load 36 = .ok (.istore_n 1, 1) := by decide +kernel
theorem nd_Mo_load_37 : decode nc_Mo_load 37 = .ok (.aload_n 0, 1) := by decide +kernel
theorem nd_Mo_load_38 : decode nc_Mo_load 38 = .ok (.dup, 1) := by decide +kernel
theorem nd_Mo_load_39 : decode nc_Mo_load 39 = .ok (.getfield 82, 3) := by decide +kernel
theorem nd_Mo_load_42 : decode nc_Mo_load 42 = .ok (.iconst 1, 1) := by decide +kernel
theorem nd_Mo_load_43 : decode nc_Mo_load 43 = .ok (.iadd, 1) := by decide +kernel
theorem nd_Mo_load_44 : decode nc_Mo_load 44 = .ok (.putfield 82, 3) := by decide +kernel
theorem nd_Mo_load_47 : decode nc_Mo_load 47 = .ok (.iload_n 1, 1) := by decide +kernel
theorem nd_Mo_load_48 : decode nc_Mo_load 48 = .ok (.ifCond .lt 17, 3) := by decide +kernel
theorem nd_Mo_load_51 : decode nc_Mo_load 51 = .ok (.aload_n 0, 1) := by decide +kernel
theorem nd_Mo_load_52 : decode nc_Mo_load 52 = .ok (.iload_n 1, 1) := by decide +kernel
theorem nd_Mo_load_53 : decode nc_Mo_load 53 = .ok (.bipush 59, 2) := by decide +kernel
theorem nd_Mo_load_55 : decode nc_Mo_load 55 = .ok (.invokevirtual 63, 3) := by decide +kernel
theorem nd_Mo_load_58 : decode nc_Mo_load 58 = .ok (.ifCond .eq 7, 3) := by decide +kernel
theorem nd_Mo_load_61 : decode nc_Mo_load 61 = .ok (.iconst 1, 1) := by decide +kernel
theorem nd_Mo_load_62 : decode nc_Mo_load 62 = .ok (.goto 4, 3) := by decide +kernel
theorem nd_Mo_load_65 : decode nc_Mo_load 65 = .ok (.iconst 0, 1) := by decide +kernel
theorem nd_Mo_load_66 : decode nc_Mo_load 66 = .ok (.istore_n 2, 1) := by decide +kernel
theorem nd_Mo_load_67 : decode nc_Mo_load 67 = .ok (.iload_n 2, 1) := by decide +kernel
theorem nd_Mo_load_68 : decode nc_Mo_load 68 = .ok (.ifCond .eq 9, 3) := by decide +kernel
theorem nd_Mo_load_71 : decode nc_Mo_load 71 = .ok (.iload_n 1, 1) := by decide +kernel
theorem nd_Mo_load_72 : decode nc_Mo_load 72 = .ok (.iconst 1, 1) := by decide +kernel
theorem nd_Mo_load_73 : decode nc_Mo_load 73 = .ok (.iadd, 1) := by decide +kernel
theorem nd_Mo_load_74 : decode nc_Mo_load 74 = .ok (.goto 4, 3) := by decide +kernel
theorem nd_Mo_load_77 : decode nc_Mo_load 77 = .ok (.iload_n 1, 1) := by decide +kernel
theorem nd_Mo_load_78 : decode nc_Mo_load 78 = .ok (.istore_n 1, 1) := by decide +kernel
theorem nd_Mo_load_79 : decode nc_Mo_load 79 = .ok (.goto (-70), 3) := by decide +kernel
theorem nd_Mo_load_82 : decode nc_Mo_load 82 = .ok (.aload_n 0, 1) := by decide +kernel
theorem nd_Mo_load_83 : decode nc_Mo_load 83 = .ok (.iload_n 1, 1) := by decide +kernel
theorem nd_Mo_load_84 : decode nc_Mo_load 84 = .ok (.aload_n 0, 1) := by decide +kernel
theorem nd_Mo_load_85 : decode nc_Mo_load 85 = .ok (.getfield 56, 3) := by decide +kernel
theorem nd_Mo_load_88 : decode nc_Mo_load 88 = .ok (.if_icmp .ne 7, 3) := by decide +kernel
theorem nd_Mo_load_91 : decode nc_Mo_load 91 = .ok (.iconst 0, 1) := by decide +kernel
theorem nd_Mo_load_92 : decode nc_Mo_load 92 = .ok (.goto 4, 3) := by decide +kernel
theorem nd_Mo_load_95 : decode nc_Mo_load 95 = .ok (.iconst 1, 1) := by decide +kernel
theorem nd_Mo_load_96 : decode nc_Mo_load 96 = .ok (.putfield 51, 3) := by decide +kernel
theorem nd_Mo_load_99 : decode nc_Mo_load 99 = .ok (.aload_n 0, 1) := by decide +kernel
theorem nd_Mo_load_100 : decode nc_Mo_load 100 = .ok (.getfield 51, 3) := by decide +kernel
theorem nd_Mo_load_103 : decode nc_Mo_load 103 = .ok (.ifCond .le 5, 3) := by decide +kernel
theorem nd_Mo_load_106 : decode nc_Mo_load 106 = .ok (.iconst 0, 1) := by decide +kernel
theorem nd_Mo_load_107 : decode nc_Mo_load 107 = .ok (.ireturn, 1) := by decide +kernel
theorem nd_Mo_load_108 : decode nc_Mo_load 108 = .ok (.aload_n 0, 1) := by decide +kernel
theorem nd_Mo_load_109 : decode nc_Mo_load 109 = .ok (.aload_n 0, 1) := by decide +kernel
theorem nd_Mo_load_110 : decode nc_Mo_load 110 = .ok (.getfield 82, 3) := by decide +kernel
theorem nd_Mo_load_113 : decode nc_Mo_load 113 = .ok (.putfield 89, 3) := by decide +kernel
theorem nd_Mo_load_116 : decode nc_Mo_load 116 = .ok (.iconst 0, 1) := by decide +kernel
theorem nd_Mo_load_117 : decode nc_Mo_load 117 = .ok (.istore_n 3, 1) := by decide +kernel
theorem nd_Mo_load_118 : decode nc_Mo_load 118 = .ok (.iload_n 3, 1) := by decide +kernel
theorem nd_Mo_load_119 : decode nc_Mo_load 119 = .ok (.aload_n 0, 1) := by decide +kernel
theorem nd_Mo_load_120 : decode nc_Mo_load 120 = .ok (.getfield 89, 3) := by decide +kernel
theorem nd_Mo_load_123 : decode nc_Mo_load 123 = .ok (.if_icmp .ge 14, 3) := by decide +kernel
theorem nd_Mo_load_126 : decode nc_Mo_load 126 = .ok (.aload_n 0, 1) := by decide +kernel
theorem nd_Mo_load_127 : decode nc_Mo_load 127 = .ok (.iload_n 3, 1) := by decide +kernel
theorem nd_Mo_load_128 : decode nc_Mo_load 128 = .ok (.invokevirtual 92, 3) := by decide +kernel
theorem nd_Mo_load_131 : decode nc_Mo_load 131 = .ok (.iinc 3 1, 3) := by decide +kernel
theorem nd_Mo_load_134 : decode nc_Mo_load 134 = .ok (.goto (-16), 3) := by decide +kernel
theorem nd_Mo_load_137 : decode nc_Mo_load 137 = .ok (.aload_n 0, 1) := by decide +kernel
theorem nd_Mo_load_138 : decode nc_Mo_load 138 = .ok (.iconst 0, 1) := by decide +kernel
theorem nd_Mo_load_139 : decode nc_Mo_load 139 = .ok (.putfield 56, 3) := by decide +kernel
theorem nd_Mo_load_142 : decode nc_Mo_load 142 = .ok (.iconst 0, 1) := by decide +kernel
theorem nd_Mo_load_143 : decode nc_Mo_load 143 = .ok (.istore_n 3, 1) := by decide +kernel
theorem nd_Mo_load_144 : decode nc_Mo_load 144 = .ok (.iload_n 3, 1) := by decide +kernel
theorem nd_Mo_load_145 : decode nc_Mo_load 145 = .ok (.sipush 148, 3) := by decide +kernel
theorem nd_Mo_load_148 : decode nc_Mo_load 148 = .ok (.if_icmp .ge 23, 3) := by decide +kernel
theorem nd_Mo_load_151 : decode nc_Mo_load 151 = .ok (.aload_n 0, 1) := by decide +kernel
theorem nd_Mo_load_152 : decode nc_Mo_load 152 = .ok (.getfield 31, 3) := by decide +kernel
theorem nd_Mo_load_155 : decode nc_Mo_load 155 = .ok (.iload_n 3, 1) := by decide +kernel
theorem nd_Mo_load_156 : decode nc_Mo_load 156 = .ok (.lconst 0, 1) := by decide +kernel
theorem nd_Mo_load_157 : decode nc_Mo_load 157 = .ok (.lastore, 1) := by decide +kernel
theorem nd_Mo_load_158 : decode nc_Mo_load 158 = .ok (.aload_n 0, 1) := by decide +kernel
theorem nd_Mo_load_159 : decode nc_Mo_load 159 = .ok (.getfield 35, 3) := by decide +kernel
theorem nd_Mo_load_162 : decode nc_Mo_load 162 = .ok (.iload_n 3, 1) := by decide +kernel
theorem nd_Mo_load_163 : decode nc_Mo_load 163 = .ok (.lconst 0, 1) := by decide +kernel
theorem nd_Mo_load_164 : decode nc_Mo_load 164 = .ok (.lastore, 1) := by decide +kernel
theorem nd_Mo_load_165 : decode nc_Mo_load 165 = .ok (.iinc 3 1, 3) := by decide +kernel
theorem nd_Mo_load_168 : decode nc_Mo_load 168 = .ok (.goto (-24), 3) := by decide +kernel
theorem nd_Mo_load_171 : decode nc_Mo_load 171 = .ok (.aload_n 0, 1) := by decide +kernel
theorem nd_Mo_load_172 : decode nc_Mo_load 172 = .ok (.iconst 0, 1) := by decide +kernel
theorem nd_Mo_load_173 : decode nc_Mo_load 173 = .ok (.putfield 96, 3) := by decide +kernel
theorem nd_Mo_load_176 : decode nc_Mo_load 176 = .ok (.aload_n 0, 1) := by decide +kernel
theorem nd_Mo_load_177 : decode nc_Mo_load 177 = .ok (.iconst 0, 1) := by decide +kernel
theorem nd_Mo_load_178 : decode nc_Mo_load 178 = .ok (.putfield 99, 3) := by decide +kernel
theorem nd_Mo_load_181 : decode nc_Mo_load 181 = .ok (.aload_n 0, 1) := by decide +kernel
theorem nd_Mo_load_182 : decode nc_Mo_load 182 = .ok (.iconst (-1), 1) := by decide +kernel
theorem nd_Mo_load_183 : decode nc_Mo_load 183 = .ok (.putfield 47, 3) := by decide +kernel
theorem nd_Mo_load_186 : decode nc_Mo_load 186 = .ok (.aload_n 0, 1) := by decide +kernel
theorem nd_Mo_load_187 : decode nc_Mo_load 187 = .ok (.getfield 89, 3) := by decide +kernel
theorem nd_Mo_load_190 : decode nc_Mo_load 190 = .ok (.ireturn, 1) := by decide +kernel
theorem nd_Mo_speak_0 : decode nc_Mo_speak 0 = .ok (.aload_n 0, 1) := by decide +kernel
theorem nd_Mo_speak_1 : decode nc_Mo_speak 1 = .ok (.bipush 8, 2) := by decide +kernel
theorem nd_Mo_speak_3 : decode nc_Mo_speak 3 = .ok (.iconst 0, 1) := by decide +kernel
theorem nd_Mo_speak_4 : decode nc_Mo_speak 4 = .ok (.iconst 0, 1) := by decide +kernel
theorem nd_Mo_speak_5 : decode nc_Mo_speak 5 = .ok (.invokevirtual 85, 3) := by decide +kernel
theorem nd_Mo_speak_8 : decode nc_Mo_speak 8 = .ok (.istore_n 1, 1) := by decide +kernel
theorem nd_Mo_speak_9 : decode nc_Mo_speak 9 = .ok (.aload_n 0, 1) := by decide +kernel
theorem nd_Mo_speak_10 : decode nc_Mo_speak 10 = .ok (.iload_n 1, 1) := by decide +kernel
theorem nd_Mo_speak_11 : decode nc_Mo_speak 11 = .ok (.aload_n 0, 1) := by decide +kernel
theorem nd_Mo_speak_12 : decode nc_Mo_speak 12 = .ok (.getfield 56, 3) := by decide +kernel
theorem nd_Mo_speak_15 : decode nc_Mo_speak 15 = .ok (.if_icmp .ne 11, 3) := by decide +kernel
theorem nd_Mo_speak_18 : decode nc_Mo_speak 18 = .ok (.iload_n 1, 1) := by decide +kernel
theorem nd_Mo_speak_19 : decode nc_Mo_speak 19 = .ok (.ifCond .lt 7, 3) := by decide +kernel
theorem nd_Mo_speak_22 : decode nc_Mo_speak 22 = .ok (.iconst 0, 1) := by decide +kernel
theorem nd_Mo_speak_23 : decode nc_Mo_speak 23 = .ok (.goto 4, 3) := by decide +kernel
theorem nd_Mo_speak_26 : decode nc_Mo_speak 26 = .ok (.iconst 1, 1) := by decide +kernel
theorem nd_Mo_speak_27 : decode nc_Mo_speak 27 = .ok (.putfield 51, 3) := by decide +kernel
theorem nd_Mo_speak_30 : decode nc_Mo_speak 30 = .ok (.aload_n 0, 1) := by decide +kernel
theorem nd_Mo_speak_31 : decode nc_Mo_speak 31 = .ok (.getfield 51, 3) := by decide +kernel
theorem nd_Mo_speak_34 : decode nc_Mo_speak 34 = .ok (.ifCond .le 5, 3) := by decide +kernel
theorem nd_Mo_speak_37 : decode nc_Mo_speak 37 = .ok (.iconst 0, 1) := by decide +kernel
theorem nd_Mo_speak_38 : decode nc_Mo_speak 38 = .ok (.ireturn, 1) := by decide +kernel
theorem nd_Mo_speak_39 : decode nc_Mo_speak 39 = .ok (.aload_n 0, 1) := by decide +kernel
theorem nd_Mo_speak_40 : decode nc_Mo_speak 40 = .ok (.bipush 8, 2) := by decide +kernel
theorem nd_Mo_speak_42 : decode nc_Mo_speak 42 = .ok (.invokevirtual 92, 3) := by decide +kernel
theorem nd_Mo_speak_45 : decode nc_Mo_speak 45 = .ok (.aload_n 0, 1) := by decide +kernel
theorem nd_Mo_speak_46 : decode nc_Mo_speak 46 = .ok (.iconst 0, 1) := by decide +kernel
theorem nd_Mo_speak_47 : decode nc_Mo_speak 47 = .ok (.putfield 56, 3) := by decide +kernel
theorem nd_Mo_speak_50 : decode nc_Mo_speak 50 = .ok (.aload_n 0, 1) := by decide +kernel
theorem nd_Mo_speak_51 : decode nc_Mo_speak 51 = .ok (.iconst (-1), 1) := by decide +kernel
theorem nd_Mo_speak_52 : decode nc_Mo_speak 52 = .ok (.putfield 47, 3) := by decide +kernel
theorem nd_Mo_speak_55 : decode nc_Mo_speak 55 = .ok (.aload_n 0, 1) := by decide +kernel
theorem nd_Mo_speak_56 : decode nc_Mo_speak 56 = .ok (.getfield 13, 3) := by decide +kernel
theorem nd_Mo_speak_59 : decode nc_Mo_speak 59 = .ok (.bipush 8, 2) := by decide +kernel
theorem nd_Mo_speak_61 : decode nc_Mo_speak 61 = .ok (.iaload, 1) := by decide +kernel
theorem nd_Mo_speak_62 : decode nc_Mo_speak 62 = .ok (.ireturn, 1) := by decide +kernel
theorem nd_Mo_sentences_0 : decode nc_Mo_sentences 0 = .ok (.aload_n 0, 1) := by decide +kernel
theorem nd_Mo_sentences_1 : decode nc_Mo_sentences 1 = .ok (.iconst 0, 1) := by decide +kernel
theorem nd_Mo_sentences_2 : decode nc_Mo_sentences 2 = .ok (.putfield 51, 3) := by decide +kernel
theorem nd_Mo_sentences_5 : decode nc_Mo_sentences 5 = .ok (.aload_n 0, 1) := by decide +kernel
theorem nd_Mo_sentences_6 : decode nc_Mo_sentences 6 = .ok (.getfield 89, 3) := by decide +kernel
theorem nd_Mo_sentences_9 : decode nc_Mo_sentences 9 = .ok (.ireturn, 1) := by decide +kernel
theorem nd_Mo_place_0 : decode nc_Mo_place 0 = .ok (.iload_n 1, 1) := by decide +kernel
theorem nd_Mo_place_1 : decode nc_Mo_place 1 = .ok (.iconst (-1), 1) := by decide +kernel
theorem nd_Mo_place_2 : decode nc_Mo_place 2 = .ok (.if_icmp .ne 22, 3) := by decide +kernel
theorem nd_Mo_place_5 : decode nc_Mo_place 5 = .ok (.aload_n 0, 1) := by decide +kernel
theorem nd_Mo_place_6 : decode nc_Mo_place 6 = .ok (.getfield 13, 3) := by decide +kernel
theorem nd_Mo_place_9 : decode nc_Mo_place 9 = .ok (.bipush 8, 2) := by decide +kernel
theorem nd_Mo_place_11 : decode nc_Mo_place 11 = .ok (.iaload, 1) := by decide +kernel
theorem nd_Mo_place_12 : decode nc_Mo_place 12 = .ok (.ifCond .le 8, 3) := by decide +kernel
theorem nd_Mo_place_15 : decode nc_Mo_place 15 = .ok (.bipush 8, 2) := by decide +kernel
theorem nd_Mo_place_17 : decode nc_Mo_place 17 = .ok (.goto 24, 3) := by decide +kernel
theorem nd_Mo_place_20 : decode nc_Mo_place 20 = .ok (.iconst (-1), 1) := by decide +kernel
theorem nd_Mo_place_21 : decode nc_Mo_place 21 = .ok (.goto 20, 3) := by decide +kernel
theorem nd_Mo_place_24 : decode nc_Mo_place 24 = .ok (.iload_n 1, 1) := by decide +kernel
theorem nd_Mo_place_25 : decode nc_Mo_place 25 = .ok (.ifCond .lt 15, 3) := by decide +kernel
theorem nd_Mo_place_28 : decode nc_Mo_place 28 = .ok (.iload_n 1, 1) := by decide +kernel
theorem nd_Mo_place_29 : decode nc_Mo_place 29 = .ok (.aload_n 0, 1) := by decide +kernel
theorem nd_Mo_place_30 : decode nc_Mo_place 30 = .ok (.getfield 89, 3) := by decide +kernel
theorem nd_Mo_place_33 : decode nc_Mo_place 33 = .ok (.if_icmp .ge 7, 3) := by decide +kernel
theorem nd_Mo_place_36 : decode nc_Mo_place 36 = .ok (.iload_n 1, 1) := by decide +kernel
theorem nd_Mo_place_37 : decode nc_Mo_place 37 = .ok (.goto 4, 3) := by decide +kernel
theorem nd_Mo_place_40 : decode nc_Mo_place 40 = .ok (.iconst (-1), 1) := by decide +kernel
theorem nd_Mo_place_41 : decode nc_Mo_place 41 = .ok (.ireturn, 1) := by decide +kernel
theorem nd_Mo_wordsOf_0 : decode nc_Mo_wordsOf 0 = .ok (.aload_n 0, 1) := by decide +kernel
theorem nd_Mo_wordsOf_1 : decode nc_Mo_wordsOf 1 = .ok (.iload_n 1, 1) := by decide +kernel
theorem nd_Mo_wordsOf_2 : decode nc_Mo_wordsOf 2 = .ok (.invokevirtual 102, 3) := by decide +kernel
theorem nd_Mo_wordsOf_5 : decode nc_Mo_wordsOf 5 = .ok (.ifCond .ge 7, 3) := by decide +kernel
theorem nd_Mo_wordsOf_8 : decode nc_Mo_wordsOf 8 = .ok (.iconst 0, 1) := by decide +kernel
theorem nd_Mo_wordsOf_9 : decode nc_Mo_wordsOf 9 = .ok (.goto 13, 3) := by decide +kernel
theorem nd_Mo_wordsOf_12 : decode nc_Mo_wordsOf 12 = .ok (.aload_n 0, 1) := by decide +kernel
theorem nd_Mo_wordsOf_13 : decode nc_Mo_wordsOf 13 = .ok (.getfield 13, 3) := by decide +kernel
theorem nd_Mo_wordsOf_16 : decode nc_Mo_wordsOf 16 = .ok (.aload_n 0, 1) := by decide +kernel
theorem nd_Mo_wordsOf_17 : decode nc_Mo_wordsOf 17 = .ok (.iload_n 1, 1) := by decide +kernel
theorem nd_Mo_wordsOf_18 : decode nc_Mo_wordsOf 18 = .ok (.invokevirtual 102, 3) := by decide +kernel
theorem nd_Mo_wordsOf_21 : decode nc_Mo_wordsOf 21 = .ok (.iaload, 1) := by decide +kernel
theorem nd_Mo_wordsOf_22 : decode nc_Mo_wordsOf 22 = .ok (.ireturn, 1) := by decide +kernel
theorem nd_Mo_words_0 : decode nc_Mo_words 0 = .ok (.aload_n 0, 1) := by decide +kernel
theorem nd_Mo_words_1 : decode nc_Mo_words 1 = .ok (.aload_n 0, 1) := by decide +kernel
theorem nd_Mo_words_2 : decode nc_Mo_words 2 = .ok (.iload_n 1, 1) := by decide +kernel
theorem nd_Mo_words_3 : decode nc_Mo_words 3 = .ok (.invokevirtual 102, 3) := by decide +kernel
theorem nd_Mo_words_6 : decode nc_Mo_words 6 = .ok (.ifCond .ge 7, 3) := by decide +kernel
theorem nd_Mo_words_9 : decode nc_Mo_words 9 = .ok (.iconst 1, 1) := by decide +kernel
theorem nd_Mo_words_10 : decode nc_Mo_words 10 = .ok (.goto 4, 3) := by decide +kernel
theorem nd_Mo_words_13 : decode nc_Mo_words 13 = .ok (.iconst 0, 1) := by decide +kernel
theorem nd_Mo_words_14 : decode nc_Mo_words 14 = .ok (.putfield 51, 3) := by decide +kernel
theorem nd_Mo_words_17 : decode nc_Mo_words 17 = .ok (.aload_n 0, 1) := by decide +kernel
theorem nd_Mo_words_18 : decode nc_Mo_words 18 = .ok (.iload_n 1, 1) := by decide +kernel
theorem nd_Mo_words_19 : decode nc_Mo_words 19 = .ok (.invokevirtual 105, 3) := by decide +kernel
theorem nd_Mo_words_22 : decode nc_Mo_words 22 = .ok (.ireturn, 1) := by decide +kernel
theorem nd_Mo_given_0 : decode nc_Mo_given 0 = .ok (.aload_n 0, 1) := by decide +kernel
theorem nd_Mo_given_1 : decode nc_Mo_given 1 = .ok (.iload_n 1, 1) := by decide +kernel
theorem nd_Mo_given_2 : decode nc_Mo_given 2 = .ok (.ifCond .lt 16, 3) := by decide +kernel
theorem nd_Mo_given_5 : decode nc_Mo_given 5 = .ok (.iload_n 2, 1) := by decide +kernel
theorem nd_Mo_given_6 : decode nc_Mo_given 6 = .ok (.ifCond .lt 12, 3) := by decide +kernel
theorem nd_Mo_given_9 : decode nc_Mo_given 9 = .ok (.iload_n 2, 1) := by decide +kernel
theorem nd_Mo_given_10 : decode nc_Mo_given 10 = .ok (.aload_n 0, 1) := by decide +kernel
theorem nd_Mo_given_11 : decode nc_Mo_given 11 = .ok (.iload_n 1, 1) := by decide +kernel
theorem nd_Mo_given_12 : decode nc_Mo_given 12 = .ok (.invokevirtual 105, 3) := by decide +kernel
theorem nd_Mo_given_15 : decode nc_Mo_given 15 = .ok (.if_icmp .lt 7, 3) := by decide +kernel
theorem nd_Mo_given_18 : decode nc_Mo_given 18 = .ok (.iconst 1, 1) := by decide +kernel
theorem nd_Mo_given_19 : decode nc_Mo_given 19 = .ok (.goto 4, 3) := by decide +kernel
theorem nd_Mo_given_22 : decode nc_Mo_given 22 = .ok (.iconst 0, 1) := by decide +kernel
theorem nd_Mo_given_23 : decode nc_Mo_given 23 = .ok (.putfield 51, 3) := by decide +kernel
theorem nd_Mo_given_26 : decode nc_Mo_given 26 = .ok (.aload_n 0, 1) := by decide +kernel
theorem nd_Mo_given_27 : decode nc_Mo_given 27 = .ok (.getfield 51, 3) := by decide +kernel
theorem nd_Mo_given_30 : decode nc_Mo_given 30 = .ok (.ifCond .le 7, 3) := by decide +kernel
theorem nd_Mo_given_33 : decode nc_Mo_given 33 = .ok (.iconst 0, 1) := by decide +kernel
theorem nd_Mo_given_34 : decode nc_Mo_given 34 = .ok (.goto 14, 3) := by decide +kernel
theorem nd_Mo_given_37 : decode nc_Mo_given 37 = .ok (.aload_n 0, 1) := by decide +kernel
theorem nd_Mo_given_38 : decode nc_Mo_given 38 = .ok (.getfield 19, 3) := by decide +kernel
theorem nd_Mo_given_41 : decode nc_Mo_given 41 = .ok (.bipush 6, 2) := by decide +kernel
theorem nd_Mo_given_43 : decode nc_Mo_given 43 = .ok (.iload_n 1, 1) := by decide +kernel
theorem nd_Mo_given_44 : decode nc_Mo_given 44 = .ok (.imul, 1) := by decide +kernel
theorem nd_Mo_given_45 : decode nc_Mo_given 45 = .ok (.iload_n 2, 1) := by decide +kernel
theorem nd_Mo_given_46 : decode nc_Mo_given 46 = .ok (.iadd, 1) := by decide +kernel
theorem nd_Mo_given_47 : decode nc_Mo_given 47 = .ok (.iaload, 1) := by decide +kernel
theorem nd_Mo_given_48 : decode nc_Mo_given 48 = .ok (.ireturn, 1) := by decide +kernel
theorem nd_Mo_feature_0 : decode nc_Mo_feature 0 = .ok (.aload_n 0, 1) := by decide +kernel
theorem nd_Mo_feature_1 : decode nc_Mo_feature 1 = .ok (.iload_n 2, 1) := by decide +kernel
theorem nd_Mo_feature_2 : decode nc_Mo_feature 2 = .ok (.ifCond .lt 21, 3) := by decide +kernel
theorem nd_Mo_feature_5 : decode nc_Mo_feature 5 = .ok (.iload_n 2, 1) := by decide +kernel
theorem nd_Mo_feature_6 : decode nc_Mo_feature 6 = .ok (.aload_n 0, 1) := by decide +kernel
theorem nd_Mo_feature_7 : decode nc_Mo_feature 7 = .ok (.iload_n 1, 1) := by decide +kernel
theorem nd_Mo_feature_8 : decode nc_Mo_feature 8 = .ok (.invokevirtual 105, 3) := by decide +kernel
theorem nd_Mo_feature_11 : decode nc_Mo_feature 11 = .ok (.if_icmp .ge 12, 3) := by decide +kernel
theorem nd_Mo_feature_14 : decode nc_Mo_feature 14 = .ok (.iload_n 3, 1) := by decide +kernel
theorem nd_Mo_feature_15 : decode nc_Mo_feature 15 = .ok (.ifCond .lt 8, 3) := by decide +kernel
theorem nd_Mo_feature_18 : decode nc_Mo_feature 18 = .ok (.iload_n 3, 1) := by decide +kernel
theorem nd_Mo_feature_19 : decode nc_Mo_feature 19 = .ok (.iconst 2, 1) := by decide +kernel
theorem nd_Mo_feature_20 : decode nc_Mo_feature 20 = .ok (.if_icmp .le 7, 3) := by decide +kernel
theorem nd_Mo_feature_23 : decode nc_Mo_feature 23 = .ok (.iconst 1, 1) := by decide +kernel
theorem nd_Mo_feature_24 : decode nc_Mo_feature 24 = .ok (.goto 4, 3) := by decide +kernel
theorem nd_Mo_feature_27 : decode nc_Mo_feature 27 = .ok (.iconst 0, 1) := by decide +kernel
theorem nd_Mo_feature_28 : decode nc_Mo_feature 28 = .ok (.putfield 51, 3) := by decide +kernel
theorem nd_Mo_feature_31 : decode nc_Mo_feature 31 = .ok (.aload_n 0, 1) := by decide +kernel
theorem nd_Mo_feature_32 : decode nc_Mo_feature 32 = .ok (.getfield 51, 3) := by decide +kernel
theorem nd_Mo_feature_35 : decode nc_Mo_feature 35 = .ok (.ifCond .le 7, 3) := by decide +kernel
theorem nd_Mo_feature_38 : decode nc_Mo_feature 38 = .ok (.iconst 0, 1) := by decide +kernel
theorem nd_Mo_feature_39 : decode nc_Mo_feature 39 = .ok (.goto 22, 3) := by decide +kernel
theorem nd_Mo_feature_42 : decode nc_Mo_feature 42 = .ok (.aload_n 0, 1) := by decide +kernel
theorem nd_Mo_feature_43 : decode nc_Mo_feature 43 = .ok (.getfield 16, 3) := by decide +kernel
theorem nd_Mo_feature_46 : decode nc_Mo_feature 46 = .ok (.iconst 3, 1) := by decide +kernel
theorem nd_Mo_feature_47 : decode nc_Mo_feature 47 = .ok (.bipush 6, 2) := by decide +kernel
theorem nd_Mo_feature_49 : decode nc_Mo_feature 49 = .ok (.aload_n 0, 1) := by decide +kernel
theorem nd_Mo_feature_50 : decode nc_Mo_feature 50 = .ok (.iload_n 1, 1) := by decide +kernel
theorem nd_Mo_feature_51 : decode nc_Mo_feature 51 = .ok (.invokevirtual 102, 3) := by decide +kernel
theorem nd_Mo_feature_54 : decode nc_Mo_feature 54 = .ok (.imul, 1) := by decide +kernel
theorem nd_Mo_feature_55 : decode nc_Mo_feature 55 = .ok (.iload_n 2, 1) := by decide +kernel
theorem nd_Mo_feature_56 : decode nc_Mo_feature 56 = .ok (.iadd, 1) := by decide +kernel
theorem nd_Mo_feature_57 : decode nc_Mo_feature 57 = .ok (.imul, 1) := by decide +kernel
theorem nd_Mo_feature_58 : decode nc_Mo_feature 58 = .ok (.iload_n 3, 1) := by decide +kernel
theorem nd_Mo_feature_59 : decode nc_Mo_feature 59 = .ok (.iadd, 1) := by decide +kernel
theorem nd_Mo_feature_60 : decode nc_Mo_feature 60 = .ok (.iaload, 1) := by decide +kernel
theorem nd_Mo_feature_61 : decode nc_Mo_feature 61 = .ok (.ireturn, 1) := by decide +kernel
theorem nd_Mo_of_0 : decode nc_Mo_of 0 = .ok (.aload_n 0, 1) := by decide +kernel
theorem nd_Mo_of_1 : decode nc_Mo_of 1 = .ok (.iconst 4, 1) := by decide +kernel
theorem nd_Mo_of_2 : decode nc_Mo_of 2 = .ok (.iload_n 1, 1) := by decide +kernel
theorem nd_Mo_of_3 : decode nc_Mo_of 3 = .ok (.imul, 1) := by decide +kernel
theorem nd_Mo_of_4 : decode nc_Mo_of 4 = .ok (.iload_n 2, 1) := by decide +kernel
theorem nd_Mo_of_5 : decode nc_Mo_of 5 = .ok (.iadd, 1) := by decide +kernel
theorem nd_Mo_of_6 : decode nc_Mo_of 6 = .ok (.laload, 1) := by decide +kernel
theorem nd_Mo_of_7 : decode nc_Mo_of 7 = .ok (.lreturn, 1) := by decide +kernel
theorem nd_Mo_prepare_0 : decode nc_Mo_prepare 0 = .ok (.iconst 0, 1) := by decide +kernel
theorem nd_Mo_prepare_1 : decode nc_Mo_prepare 1 = .ok (.istore_n 3, 1) := by decide +kernel
theorem nd_Mo_prepare_2 : decode nc_Mo_prepare 2 = .ok (.iload_n 3, 1) := by decide +kernel
theorem nd_Mo_prepare_3 : decode nc_Mo_prepare 3 = .ok (.aload_n 0, 1) := by decide +kernel
theorem nd_Mo_prepare_4 : decode nc_Mo_prepare 4 = .ok (.getfield 13, 3) := by decide +kernel
theorem nd_Mo_prepare_7 : decode nc_Mo_prepare 7 = .ok (.iload_n 1, 1) := by decide +kernel
theorem nd_Mo_prepare_8 : decode nc_Mo_prepare 8 = .ok (.iaload, 1) := by decide +kernel
theorem nd_Mo_prepare_9 : decode nc_Mo_prepare 9 = .ok (.if_icmp .ge 97, 3) := by decide +kernel
theorem nd_Mo_prepare_12 : decode nc_Mo_prepare 12 = .ok (.iconst 0, 1) := by decide +kernel
theorem nd_Mo_prepare_13 : decode nc_Mo_prepare 13 = .ok (.istore 4, 2) := by decide +kernel
theorem nd_Mo_prepare_15 : decode nc_Mo_prepare 15 = .ok (.iload 4, 2) := by decide +kernel
theorem nd_Mo_prepare_17 : decode nc_Mo_prepare 17 = .ok (.iconst 4, 1) := by decide +kernel
theorem nd_Mo_prepare_18 : decode nc_Mo_prepare 18 = .ok (.if_icmp .ge 82, 3) := by decide +kernel
theorem nd_Mo_prepare_21 : decode nc_Mo_prepare 21 = .ok (.iload_n 3, 1) := by decide +kernel
theorem nd_Mo_prepare_22 : decode nc_Mo_prepare 22 = .ok (.ifCond .ne 14, 3) := by decide +kernel
theorem nd_Mo_prepare_25 : decode nc_Mo_prepare 25 = .ok (.aload_n 2, 1) := by decide +kernel
theorem nd_Mo_prepare_26 : decode nc_Mo_prepare 26 = .ok (.bipush 32, 2) := by decide +kernel
theorem nd_Mo_prepare_28 : decode nc_Mo_prepare 28 = .ok (.iload 4, 2) := by decide +kernel
theorem nd_Mo_prepare_30 : decode nc_Mo_prepare 30 = .ok (.invokestatic 108, 3) := by decide +kernel
theorem nd_Mo_prepare_33 : decode nc_Mo_prepare 33 = .ok (.goto 4, 3) := by decide +kernel
theorem nd_Mo_prepare_36 : decode nc_Mo_prepare 36 = .ok (.lconst 0, 1) := by decide +kernel
theorem nd_Mo_prepare_37 : decode nc_Mo_prepare 37 = .ok (.lstore 5, 2) := by decide +kernel
theorem nd_Mo_prepare_39 : decode nc_Mo_prepare 39 = .ok (.iconst 0, 1) := by decide +kernel
theorem nd_Mo_prepare_40 : decode nc_Mo_prepare 40 = .ok (.istore 7, 2) := by decide +kernel
theorem nd_Mo_prepare_42 : decode nc_Mo_prepare 42 = .ok (.iload 7, 2) := by decide +kernel
theorem nd_Mo_prepare_44 : decode nc_Mo_prepare 44 = .ok (.iconst 3, 1) := by decide +kernel
theorem nd_Mo_prepare_45 : decode nc_Mo_prepare 45 = .ok (.if_icmp .ge 36, 3) := by decide +kernel
theorem nd_Mo_prepare_48 : decode nc_Mo_prepare 48 = .ok (.lload 5, 2) := by decide +kernel
theorem nd_Mo_prepare_50 : decode nc_Mo_prepare 50 = .ok (.aload_n 2, 1) := by decide +kernel
theorem nd_Mo_prepare_51 : decode nc_Mo_prepare 51 = .ok (.aload_n 0, 1) := by decide +kernel
theorem nd_Mo_prepare_52 : decode nc_Mo_prepare 52 = .ok (.getfield 16, 3) := by decide +kernel
theorem nd_Mo_prepare_55 : decode nc_Mo_prepare 55 = .ok (.iconst 3, 1) := by decide +kernel
theorem nd_Mo_prepare_56 : decode nc_Mo_prepare 56 = .ok (.bipush 6, 2) := by decide +kernel
theorem nd_Mo_prepare_58 : decode nc_Mo_prepare 58 = .ok (.iload_n 1, 1) := by decide +kernel
theorem nd_Mo_prepare_59 : decode nc_Mo_prepare 59 = .ok (.imul, 1) := by decide +kernel
theorem nd_Mo_prepare_60 : decode nc_Mo_prepare 60 = .ok (.iload_n 3, 1) := by decide +kernel
theorem nd_Mo_prepare_61 : decode nc_Mo_prepare 61 = .ok (.iadd, 1) := by decide +kernel
theorem nd_Mo_prepare_62 : decode nc_Mo_prepare 62 = .ok (.imul, 1) := by decide +kernel
theorem nd_Mo_prepare_63 : decode nc_Mo_prepare 63 = .ok (.iload 7, 2) := by decide +kernel
theorem nd_Mo_prepare_65 : decode nc_Mo_prepare 65 = .ok (.iadd, 1) := by decide +kernel
theorem nd_Mo_prepare_66 : decode nc_Mo_prepare 66 = .ok (.iaload, 1) := by decide +kernel
theorem nd_Mo_prepare_67 : decode nc_Mo_prepare 67 = .ok (.iload 4, 2) := by decide +kernel
theorem nd_Mo_prepare_69 : decode nc_Mo_prepare 69 = .ok (.invokestatic 108, 3) := by decide +kernel
theorem nd_Mo_prepare_72 : decode nc_Mo_prepare 72 = .ok (.ladd, 1) := by decide +kernel
theorem nd_Mo_prepare_73 : decode nc_Mo_prepare 73 = .ok (.lstore 5, 2) := by decide +kernel
theorem nd_Mo_prepare_75 : decode nc_Mo_prepare 75 = .ok (.iinc 7 1, 3) := by decide +kernel
theorem nd_Mo_prepare_78 : decode nc_Mo_prepare 78 = .ok (.goto (-36), 3) := by decide +kernel
theorem nd_Mo_prepare_81 : decode nc_Mo_prepare 81 = .ok (.aload_n 0, 1) := by decide +kernel
theorem nd_Mo_prepare_82 : decode nc_Mo_prepare 82 = .ok (.getfield 38, 3) := by decide +kernel
theorem nd_Mo_prepare_85 : decode nc_Mo_prepare 85 = .ok (.iconst 4, 1) := by decide +kernel
theorem nd_Mo_prepare_86 : decode nc_Mo_prepare 86 = .ok (.iload_n 3, 1) := by decide +kernel
theorem nd_Mo_prepare_87 : decode nc_Mo_prepare 87 = .ok (.imul, 1) := by decide +kernel
theorem nd_Mo_prepare_88 : decode nc_Mo_prepare 88 = .ok (.iload 4, 2) := by decide +kernel
theorem nd_Mo_prepare_90 : decode nc_Mo_prepare 90 = .ok (.iadd, 1) := by decide +kernel
theorem nd_Mo_prepare_91 : decode nc_Mo_prepare 91 = .ok (.lload 5, 2) := by decide +kernel
theorem nd_Mo_prepare_93 : decode nc_Mo_prepare 93 = .ok (.lastore, 1) := by decide +kernel
theorem nd_Mo_prepare_94 : decode nc_Mo_prepare 94 = .ok (.iinc 4 1, 3) := by decide +kernel
theorem nd_Mo_prepare_97 : decode nc_Mo_prepare 97 = .ok (.goto (-82), 3) := by decide +kernel
theorem nd_Mo_prepare_100 : decode nc_Mo_prepare 100 = .ok (.iinc 3 1, 3) := by decide +kernel
theorem nd_Mo_prepare_103 : decode nc_Mo_prepare 103 = .ok (.goto (-101), 3) := by decide +kernel
theorem nd_Mo_prepare_106 : decode nc_Mo_prepare 106 = .ok (.return_, 1) := by decide +kernel
theorem nd_Mo_packed_0 : decode nc_Mo_packed 0 = .ok (.iconst 0, 1) := by decide +kernel
theorem nd_Mo_packed_1 : decode nc_Mo_packed 1 = .ok (.istore_n 2, 1) := by decide +kernel
theorem nd_Mo_packed_2 : decode nc_Mo_packed 2 = .ok (.iconst 0, 1) := by decide +kernel
theorem nd_Mo_packed_3 : decode nc_Mo_packed 3 = .ok (.istore_n 3, 1) := by decide +kernel
theorem nd_Mo_packed_4 : decode nc_Mo_packed 4 = .ok (.iload_n 3, 1) := by decide +kernel
theorem nd_Mo_packed_5 : decode nc_Mo_packed 5 = .ok (.iload_n 1, 1) := by decide +kernel
theorem nd_Mo_packed_6 : decode nc_Mo_packed 6 = .ok (.if_icmp .ge 22, 3) := by decide +kernel
theorem nd_Mo_packed_9 : decode nc_Mo_packed 9 = .ok (.iload_n 2, 1) := by decide +kernel
theorem nd_Mo_packed_10 : decode nc_Mo_packed 10 = .ok (.aload_n 0, 1) := by decide +kernel
theorem nd_Mo_packed_11 : decode nc_Mo_packed 11 = .ok (.getfield 41, 3) := by decide +kernel
theorem nd_Mo_packed_14 : decode nc_Mo_packed 14 = .ok (.iload_n 3, 1) := by decide +kernel
theorem nd_Mo_packed_15 : decode nc_Mo_packed 15 = .ok (.iaload, 1) := by decide +kernel
theorem nd_Mo_packed_16 : decode nc_Mo_packed 16 = .ok (.iconst 2, 1) := by decide +kernel
theorem nd_Mo_packed_17 : decode nc_Mo_packed 17 = .ok (.iload_n 3, 1) := by decide +kernel
theorem nd_Mo_packed_18 : decode nc_Mo_packed 18 = .ok (.imul, 1) := by decide +kernel
theorem nd_Mo_packed_19 : decode nc_Mo_packed 19 = .ok (.ishl, 1) := by decide +kernel
theorem nd_Mo_packed_20 : decode nc_Mo_packed 20 = .ok (.ior, 1) := by decide +kernel
theorem nd_Mo_packed_21 : decode nc_Mo_packed 21 = .ok (.istore_n 2, 1) := by decide +kernel
theorem nd_Mo_packed_22 : decode nc_Mo_packed 22 = .ok (.iinc 3 1, 3) := by decide +kernel
theorem nd_Mo_packed_25 : decode nc_Mo_packed 25 = .ok (.goto (-21), 3) := by decide +kernel
theorem nd_Mo_packed_28 : decode nc_Mo_packed 28 = .ok (.iload_n 2, 1) := by decide +kernel
theorem nd_Mo_packed_29 : decode nc_Mo_packed 29 = .ok (.ireturn, 1) := by decide +kernel
theorem nd_Mo_sumFrom_0 : decode nc_Mo_sumFrom 0 = .ok (.iload_n 1, 1) := by decide +kernel
theorem nd_Mo_sumFrom_1 : decode nc_Mo_sumFrom 1 = .ok (.istore 4, 2) := by decide +kernel
theorem nd_Mo_sumFrom_3 : decode nc_Mo_sumFrom 3 = .ok (.iload 4, 2) := by decide +kernel
theorem nd_Mo_sumFrom_5 : decode nc_Mo_sumFrom 5 = .ok (.iload_n 2, 1) := by decide +kernel
theorem nd_Mo_sumFrom_6 : decode nc_Mo_sumFrom 6 = .ok (.if_icmp .ge 76, 3) := by decide +kernel
theorem nd_Mo_sumFrom_9 : decode nc_Mo_sumFrom 9 = .ok (.aload_n 0, 1) := by decide +kernel
theorem nd_Mo_sumFrom_10 : decode nc_Mo_sumFrom 10 = .ok (.getfield 44, 3) := by decide +kernel
theorem nd_Mo_sumFrom_13 : decode nc_Mo_sumFrom 13 = .ok (.iload 4, 2) := by decide +kernel
theorem nd_Mo_sumFrom_15 : decode nc_Mo_sumFrom 15 = .ok (.iconst 1, 1) := by decide +kernel
theorem nd_Mo_sumFrom_16 : decode nc_Mo_sumFrom 16 = .ok (.iadd, 1) := by decide +kernel
theorem nd_Mo_sumFrom_17 : decode nc_Mo_sumFrom 17 = .ok (.aload_n 0, 1) := by decide +kernel
theorem nd_Mo_sumFrom_18 : decode nc_Mo_sumFrom 18 = .ok (.getfield 44, 3) := by decide +kernel
theorem nd_Mo_sumFrom_21 : decode nc_Mo_sumFrom 21 = .ok (.iload 4, 2) := by decide +kernel
theorem nd_Mo_sumFrom_23 : decode nc_Mo_sumFrom 23 = .ok (.laload, 1) := by decide +kernel
theorem nd_Mo_sumFrom_24 : decode nc_Mo_sumFrom 24 = .ok (.aload_n 0, 1) := by decide +kernel
theorem nd_Mo_sumFrom_25 : decode nc_Mo_sumFrom 25 = .ok (.getfield 38, 3) := by decide +kernel
theorem nd_Mo_sumFrom_28 : decode nc_Mo_sumFrom 28 = .ok (.iconst 4, 1) := by decide +kernel
theorem nd_Mo_sumFrom_29 : decode nc_Mo_sumFrom 29 = .ok (.iload 4, 2) := by decide +kernel
theorem nd_Mo_sumFrom_31 : decode nc_Mo_sumFrom 31 = .ok (.imul, 1) := by decide +kernel
theorem nd_Mo_sumFrom_32 : decode nc_Mo_sumFrom 32 = .ok (.aload_n 0, 1) := by decide +kernel
theorem nd_Mo_sumFrom_33 : decode nc_Mo_sumFrom 33 = .ok (.getfield 41, 3) := by decide +kernel
theorem nd_Mo_sumFrom_36 : decode nc_Mo_sumFrom 36 = .ok (.iload 4, 2) := by decide +kernel
theorem nd_Mo_sumFrom_38 : decode nc_Mo_sumFrom 38 = .ok (.iaload, 1) := by decide +kernel
theorem nd_Mo_sumFrom_39 : decode nc_Mo_sumFrom 39 = .ok (.iadd, 1) := by decide +kernel
theorem nd_Mo_sumFrom_40 : decode nc_Mo_sumFrom 40 = .ok (.laload, 1) := by decide +kernel
theorem nd_Mo_sumFrom_41 : decode nc_Mo_sumFrom 41 = .ok (.ladd, 1) := by decide +kernel
theorem nd_Mo_sumFrom_42 : decode nc_Mo_sumFrom 42 = .ok (.iload 4, 2) := by decide +kernel
theorem nd_Mo_sumFrom_44 : decode nc_Mo_sumFrom 44 = .ok (.ifCond .ne 7, 3) := by decide +kernel
theorem nd_Mo_sumFrom_47 : decode nc_Mo_sumFrom 47 = .ok (.lconst 0, 1) := by decide +kernel
theorem nd_Mo_sumFrom_48 : decode nc_Mo_sumFrom 48 = .ok (.goto 26, 3) := by decide +kernel
theorem nd_Mo_sumFrom_51 : decode nc_Mo_sumFrom 51 = .ok (.aload_n 3, 1) := by decide +kernel
theorem nd_Mo_sumFrom_52 : decode nc_Mo_sumFrom 52 = .ok (.bipush 33, 2) := by decide +kernel
theorem nd_Mo_sumFrom_54 : decode nc_Mo_sumFrom 54 = .ok (.aload_n 0, 1) := by decide +kernel
theorem nd_Mo_sumFrom_55 : decode nc_Mo_sumFrom 55 = .ok (.getfield 41, 3) := by decide +kernel
theorem nd_Mo_sumFrom_58 : decode nc_Mo_sumFrom 58 = .ok (.iload 4, 2) := by decide +kernel
theorem nd_Mo_sumFrom_60 : decode nc_Mo_sumFrom 60 = .ok (.iconst 1, 1) := by decide +kernel
theorem nd_Mo_sumFrom_61 : decode nc_Mo_sumFrom 61 = .ok (.isub, 1) := by decide +kernel
theorem nd_Mo_sumFrom_62 : decode nc_Mo_sumFrom 62 = .ok (.iaload, 1) := by decide +kernel
theorem nd_Mo_sumFrom_63 : decode nc_Mo_sumFrom 63 = .ok (.iadd, 1) := by decide +kernel
theorem nd_Mo_sumFrom_64 : decode nc_Mo_sumFrom 64 = .ok (.aload_n 0, 1) := by decide +kernel
theorem nd_Mo_sumFrom_65 : decode nc_Mo_sumFrom 65 = .ok (.getfield 41, 3) := by decide +kernel
theorem nd_Mo_sumFrom_68 : decode nc_Mo_sumFrom 68 = .ok (.iload 4, 2) := by decide +kernel
theorem nd_Mo_sumFrom_70 : decode nc_Mo_sumFrom 70 = .ok (.iaload, 1) := by decide +kernel
theorem nd_Mo_sumFrom_71 : decode nc_Mo_sumFrom 71 = .ok (.invokestatic 108, 3) := by decide +kernel
theorem nd_Mo_sumFrom_74 : decode nc_Mo_sumFrom 74 = .ok (.ladd, 1) := by decide +kernel
theorem nd_Mo_sumFrom_75 : decode nc_Mo_sumFrom 75 = .ok (.lastore, 1) := by decide +kernel
theorem nd_Mo_sumFrom_76 : decode nc_Mo_sumFrom 76 = .ok (.iinc 4 1, 3) := by decide +kernel
theorem nd_Mo_sumFrom_79 : decode nc_Mo_sumFrom 79 = .ok (.goto (-76), 3) := by decide +kernel
theorem nd_Mo_sumFrom_82 : decode nc_Mo_sumFrom 82 = .ok (.return_, 1) := by decide +kernel
theorem nd_Mo_search_0 : decode nc_Mo_search 0 = .ok (.aload_n 0, 1) := by decide +kernel
theorem nd_Mo_search_1 : decode nc_Mo_search 1 = .ok (.getfield 13, 3) := by decide +kernel
theorem nd_Mo_search_4 : decode nc_Mo_search 4 = .ok (.iload_n 1, 1) := by decide +kernel
theorem nd_Mo_search_5 : decode nc_Mo_search 5 = .ok (.iaload, 1) := by decide +kernel
theorem nd_Mo_search_6 : decode nc_Mo_search 6 = .ok (.istore_n 3, 1) := by decide +kernel

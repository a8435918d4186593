theorem nd_Mo_search_7 : decode nc_Mo_search 7 = .ok (.aload_n 0, 1) := by decide +kernel
theorem nd_Mo_search_8 : decode nc_Mo_search 8 = .ok (.iload_n 1, 1) := by decide +kernel
theorem nd_Mo_search_9 : decode nc_Mo_search 9 = .ok (.aload_n 2, 1) := by decide +kernel
theorem nd_Mo_search_10 : decode nc_Mo_search 10 = .ok (.invokevirtual 112, 3) := by decide +kernel
theorem nd_Mo_search_13 : decode nc_Mo_search 13 = .ok (.iconst 0, 1) := by decide +kernel
theorem nd_Mo_search_14 : decode nc_Mo_search 14 = .ok (.istore 4, 2) := by decide +kernel
theorem nd_Mo_search_16 : decode nc_Mo_search 16 = .ok (.iload 4, 2) := by decide +kernel
theorem nd_Mo_search_18 : decode nc_Mo_search 18 = .ok (.bipush 6, 2) := by decide +kernel
theorem nd_Mo_search_20 : decode nc_Mo_search 20 = .ok (.if_icmp .ge 17, 3) := by decide +kernel
theorem nd_Mo_search_23 : decode nc_Mo_search 23 = .ok (.aload_n 0, 1) := by decide +kernel
theorem nd_Mo_search_24 : decode nc_Mo_search 24 = .ok (.getfield 41, 3) := by decide +kernel
theorem nd_Mo_search_27 : decode nc_Mo_search 27 = .ok (.iload 4, 2) := by decide +kernel
theorem nd_Mo_search_29 : decode nc_Mo_search 29 = .ok (.iconst 0, 1) := by decide +kernel
theorem nd_Mo_search_30 : decode nc_Mo_search 30 = .ok (.iastore, 1) := by decide +kernel
theorem nd_Mo_search_31 : decode nc_Mo_search 31 = .ok (.iinc 4 1, 3) := by decide +kernel
theorem nd_Mo_search_34 : decode nc_Mo_search 34 = .ok (.goto (-18), 3) := by decide +kernel
theorem nd_Mo_search_37 : decode nc_Mo_search 37 = .ok (.iconst 0, 1) := by decide +kernel
theorem nd_Mo_search_38 : decode nc_Mo_search 38 = .ok (.istore 4, 2) := by decide +kernel
theorem nd_Mo_search_40 : decode nc_Mo_search 40 = .ok (.iconst 0, 1) := by decide +kernel
theorem nd_Mo_search_41 : decode nc_Mo_search 41 = .ok (.istore 5, 2) := by decide +kernel
theorem nd_Mo_search_43 : decode nc_Mo_search 43 = .ok (.iconst 0, 1) := by decide +kernel
theorem nd_Mo_search_44 : decode nc_Mo_search 44 = .ok (.istore 6, 2) := by decide +kernel
theorem nd_Mo_search_46 : decode nc_Mo_search 46 = .ok (.iload 4, 2) := by decide +kernel
theorem nd_Mo_search_48 : decode nc_Mo_search 48 = .ok (.ifCond .lt 162, 3) := by decide +kernel
theorem nd_Mo_search_51 : decode nc_Mo_search 51 = .ok (.aload_n 0, 1) := by decide +kernel
theorem nd_Mo_search_52 : decode nc_Mo_search 52 = .ok (.iload 4, 2) := by decide +kernel
theorem nd_Mo_search_54 : decode nc_Mo_search 54 = .ok (.iload_n 3, 1) := by decide +kernel
theorem nd_Mo_search_55 : decode nc_Mo_search 55 = .ok (.aload_n 2, 1) := by decide +kernel
theorem nd_Mo_search_56 : decode nc_Mo_search 56 = .ok (.invokevirtual 116, 3) := by decide +kernel
theorem nd_Mo_search_59 : decode nc_Mo_search 59 = .ok (.aload_n 0, 1) := by decide +kernel
theorem nd_Mo_search_60 : decode nc_Mo_search 60 = .ok (.getfield 44, 3) := by decide +kernel
theorem nd_Mo_search_63 : decode nc_Mo_search 63 = .ok (.iload_n 3, 1) := by decide +kernel
theorem nd_Mo_search_64 : decode nc_Mo_search 64 = .ok (.laload, 1) := by decide +kernel
theorem nd_Mo_search_65 : decode nc_Mo_search 65 = .ok (.lstore 7, 2) := by decide +kernel
theorem nd_Mo_search_67 : decode nc_Mo_search 67 = .ok (.iload 5, 2) := by decide +kernel
theorem nd_Mo_search_69 : decode nc_Mo_search 69 = .ok (.ifCond .eq 13, 3) := by decide +kernel
theorem nd_Mo_search_72 : decode nc_Mo_search 72 = .ok (.lload 7, 2) := by decide +kernel
theorem nd_Mo_search_74 : decode nc_Mo_search 74 = .ok (.aload_n 0, 1) := by decide +kernel
theorem nd_Mo_search_75 : decode nc_Mo_search 75 = .ok (.getfield 120, 3) := by decide +kernel
theorem nd_Mo_search_78 : decode nc_Mo_search 78 = .ok (.lcmp, 1) := by decide +kernel
theorem nd_Mo_search_79 : decode nc_Mo_search 79 = .ok (.ifCond .le 44, 3) := by decide +kernel
theorem nd_Mo_search_82 : decode nc_Mo_search 82 = .ok (.iload 5, 2) := by decide +kernel
theorem nd_Mo_search_84 : decode nc_Mo_search 84 = .ok (.istore 6, 2) := by decide +kernel
theorem nd_Mo_search_86 : decode nc_Mo_search 86 = .ok (.aload_n 0, 1) := by decide +kernel
theorem nd_Mo_search_87 : decode nc_Mo_search 87 = .ok (.aload_n 0, 1) := by decide +kernel
theorem nd_Mo_search_88 : decode nc_Mo_search 88 = .ok (.getfield 124, 3) := by decide +kernel
theorem nd_Mo_search_91 : decode nc_Mo_search 91 = .ok (.putfield 127, 3) := by decide +kernel
theorem nd_Mo_search_94 : decode nc_Mo_search 94 = .ok (.aload_n 0, 1) := by decide +kernel
theorem nd_Mo_search_95 : decode nc_Mo_search 95 = .ok (.aload_n 0, 1) := by decide +kernel
theorem nd_Mo_search_96 : decode nc_Mo_search 96 = .ok (.getfield 120, 3) := by decide +kernel
theorem nd_Mo_search_99 : decode nc_Mo_search 99 = .ok (.putfield 130, 3) := by decide +kernel
theorem nd_Mo_search_102 : decode nc_Mo_search 102 = .ok (.aload_n 0, 1) := by decide +kernel
theorem nd_Mo_search_103 : decode nc_Mo_search 103 = .ok (.aload_n 0, 1) := by decide +kernel
theorem nd_Mo_search_104 : decode nc_Mo_search 104 = .ok (.iload_n 3, 1) := by decide +kernel
theorem nd_Mo_search_105 : decode nc_Mo_search 105 = .ok (.invokevirtual 133, 3) := by decide +kernel
theorem nd_Mo_search_108 : decode nc_Mo_search 108 = .ok (.putfield 124, 3) := by decide +kernel
theorem nd_Mo_search_111 : decode nc_Mo_search 111 = .ok (.aload_n 0, 1) := by decide +kernel
theorem nd_Mo_search_112 : decode nc_Mo_search 112 = .ok (.lload 7, 2) := by decide +kernel
theorem nd_Mo_search_114 : decode nc_Mo_search 114 = .ok (.putfield 120, 3) := by decide +kernel
theorem nd_Mo_search_117 : decode nc_Mo_search 117 = .ok (.iconst 1, 1) := by decide +kernel
theorem nd_Mo_search_118 : decode nc_Mo_search 118 = .ok (.istore 5, 2) := by decide +kernel
theorem nd_Mo_search_120 : decode nc_Mo_search 120 = .ok (.goto 36, 3) := by decide +kernel
theorem nd_Mo_search_123 : decode nc_Mo_search 123 = .ok (.iload 6, 2) := by decide +kernel
theorem nd_Mo_search_125 : decode nc_Mo_search 125 = .ok (.ifCond .eq 13, 3) := by decide +kernel
theorem nd_Mo_search_128 : decode nc_Mo_search 128 = .ok (.lload 7, 2) := by decide +kernel
theorem nd_Mo_search_130 : decode nc_Mo_search 130 = .ok (.aload_n 0, 1) := by decide +kernel
theorem nd_Mo_search_131 : decode nc_Mo_search 131 = .ok (.getfield 130, 3) := by decide +kernel
theorem nd_Mo_search_134 : decode nc_Mo_search 134 = .ok (.lcmp, 1) := by decide +kernel
theorem nd_Mo_search_135 : decode nc_Mo_search 135 = .ok (.ifCond .le 21, 3) := by decide +kernel
theorem nd_Mo_search_138 : decode nc_Mo_search 138 = .ok (.aload_n 0, 1) := by decide +kernel
theorem nd_Mo_search_139 : decode nc_Mo_search 139 = .ok (.aload_n 0, 1) := by decide +kernel
theorem nd_Mo_search_140 : decode nc_Mo_search 140 = .ok (.iload_n 3, 1) := by decide +kernel
theorem nd_Mo_search_141 : decode nc_Mo_search 141 = .ok (.invokevirtual 133, 3) := by decide +kernel
theorem nd_Mo_search_144 : decode nc_Mo_search 144 = .ok (.putfield 127, 3) := by decide +kernel
theorem nd_Mo_search_147 : decode nc_Mo_search 147 = .ok (.aload_n 0, 1) := by decide +kernel
theorem nd_Mo_search_148 : decode nc_Mo_search 148 = .ok (.lload 7, 2) := by decide +kernel
theorem nd_Mo_search_150 : decode nc_Mo_search 150 = .ok (.putfield 130, 3) := by decide +kernel
theorem nd_Mo_search_153 : decode nc_Mo_search 153 = .ok (.iconst 1, 1) := by decide +kernel
theorem nd_Mo_search_154 : decode nc_Mo_search 154 = .ok (.istore 6, 2) := by decide +kernel
theorem nd_Mo_search_156 : decode nc_Mo_search 156 = .ok (.iload_n 3, 1) := by decide +kernel
theorem nd_Mo_search_157 : decode nc_Mo_search 157 = .ok (.iconst 1, 1) := by decide +kernel
theorem nd_Mo_search_158 : decode nc_Mo_search 158 = .ok (.isub, 1) := by decide +kernel
theorem nd_Mo_search_159 : decode nc_Mo_search 159 = .ok (.istore 4, 2) := by decide +kernel
theorem nd_Mo_search_161 : decode nc_Mo_search 161 = .ok (.iload 4, 2) := by decide +kernel
theorem nd_Mo_search_163 : decode nc_Mo_search 163 = .ok (.ifCond .lt 28, 3) := by decide +kernel
theorem nd_Mo_search_166 : decode nc_Mo_search 166 = .ok (.aload_n 0, 1) := by decide +kernel
theorem nd_Mo_search_167 : decode nc_Mo_search 167 = .ok (.getfield 41, 3) := by decide +kernel
theorem nd_Mo_search_170 : decode nc_Mo_search 170 = .ok (.iload 4, 2) := by decide +kernel
theorem nd_Mo_search_172 : decode nc_Mo_search 172 = .ok (.iaload, 1) := by decide +kernel
theorem nd_Mo_search_173 : decode nc_Mo_search 173 = .ok (.iconst 3, 1) := by decide +kernel
theorem nd_Mo_search_174 : decode nc_Mo_search 174 = .ok (.if_icmp .ne 17, 3) := by decide +kernel
theorem nd_Mo_search_177 : decode nc_Mo_search 177 = .ok (.aload_n 0, 1) := by decide +kernel
theorem nd_Mo_search_178 : decode nc_Mo_search 178 = .ok (.getfield 41, 3) := by decide +kernel
theorem nd_Mo_search_181 : decode nc_Mo_search 181 = .ok (.iload 4, 2) := by decide +kernel
theorem nd_Mo_search_183 : decode nc_Mo_search 183 = .ok (.iconst 0, 1) := by decide +kernel
theorem nd_Mo_search_184 : decode nc_Mo_search 184 = .ok (.iastore, 1) := by decide +kernel
theorem nd_Mo_search_185 : decode nc_Mo_search 185 = .ok (.iinc 4 (-1), 3) := by decide +kernel
theorem nd_Mo_search_188 : decode nc_Mo_search 188 = .ok (.goto (-27), 3) := by decide +kernel
theorem nd_Mo_search_191 : decode nc_Mo_search 191 = .ok (.iload 4, 2) := by decide +kernel
theorem nd_Mo_search_193 : decode nc_Mo_search 193 = .ok (.ifCond .lt 14, 3) := by decide +kernel
theorem nd_Mo_search_196 : decode nc_Mo_search 196 = .ok (.aload_n 0, 1) := by decide +kernel
theorem nd_Mo_search_197 : decode nc_Mo_search 197 = .ok (.getfield 41, 3) := by decide +kernel
theorem nd_Mo_search_200 : decode nc_Mo_search 200 = .ok (.iload 4, 2) := by decide +kernel
theorem nd_Mo_search_202 : decode nc_Mo_search 202 = .ok (.dup2, 1) := by decide +kernel
theorem nd_Mo_search_203 : decode nc_Mo_search 203 = .ok (.iaload, 1) := by decide +kernel
theorem nd_Mo_search_204 : decode nc_Mo_search 204 = .ok (.iconst 1, 1) := by decide +kernel
theorem nd_Mo_search_205 : decode nc_Mo_search 205 = .ok (.iadd, 1) := by decide +kernel
theorem nd_Mo_search_206 : decode nc_Mo_search 206 = .ok (.iastore, 1) := by decide +kernel
theorem nd_Mo_search_207 : decode nc_Mo_search 207 = .ok (.goto (-161), 3) := by decide +kernel
theorem nd_Mo_search_210 : decode nc_Mo_search 210 = .ok (.return_, 1) := by decide +kernel
theorem nd_Mo_mend_0 : decode nc_Mo_mend 0 = .ok (.iconst 0, 1) := by decide +kernel
theorem nd_Mo_mend_1 : decode nc_Mo_mend 1 = .ok (.istore 4, 2) := by decide +kernel
theorem nd_Mo_mend_3 : decode nc_Mo_mend 3 = .ok (.iload 4, 2) := by decide +kernel
theorem nd_Mo_mend_5 : decode nc_Mo_mend 5 = .ok (.aload_n 0, 1) := by decide +kernel
theorem nd_Mo_mend_6 : decode nc_Mo_mend 6 = .ok (.getfield 13, 3) := by decide +kernel
theorem nd_Mo_mend_9 : decode nc_Mo_mend 9 = .ok (.iload_n 1, 1) := by decide +kernel
theorem nd_Mo_mend_10 : decode nc_Mo_mend 10 = .ok (.iaload, 1) := by decide +kernel
theorem nd_Mo_mend_11 : decode nc_Mo_mend 11 = .ok (.if_icmp .ge 126, 3) := by decide +kernel
theorem nd_Mo_mend_14 : decode nc_Mo_mend 14 = .ok (.iload_n 2, 1) := by decide +kernel
theorem nd_Mo_mend_15 : decode nc_Mo_mend 15 = .ok (.iconst 2, 1) := by decide +kernel
theorem nd_Mo_mend_16 : decode nc_Mo_mend 16 = .ok (.iload 4, 2) := by decide +kernel
theorem nd_Mo_mend_18 : decode nc_Mo_mend 18 = .ok (.imul, 1) := by decide +kernel
theorem nd_Mo_mend_19 : decode nc_Mo_mend 19 = .ok (.ishr, 1) := by decide +kernel
theorem nd_Mo_mend_20 : decode nc_Mo_mend 20 = .ok (.iconst 3, 1) := by decide +kernel
theorem nd_Mo_mend_21 : decode nc_Mo_mend 21 = .ok (.iand, 1) := by decide +kernel
theorem nd_Mo_mend_22 : decode nc_Mo_mend 22 = .ok (.istore 5, 2) := by decide +kernel
theorem nd_Mo_mend_24 : decode nc_Mo_mend 24 = .ok (.iconst 0, 1) := by decide +kernel
theorem nd_Mo_mend_25 : decode nc_Mo_mend 25 = .ok (.istore 6, 2) := by decide +kernel
theorem nd_Mo_mend_27 : decode nc_Mo_mend 27 = .ok (.iload 6, 2) := by decide +kernel
theorem nd_Mo_mend_29 : decode nc_Mo_mend 29 = .ok (.iconst 3, 1) := by decide +kernel
theorem nd_Mo_mend_30 : decode nc_Mo_mend 30 = .ok (.if_icmp .ge 50, 3) := by decide +kernel
theorem nd_Mo_mend_33 : decode nc_Mo_mend 33 = .ok (.iconst 4, 1) := by decide +kernel
theorem nd_Mo_mend_34 : decode nc_Mo_mend 34 = .ok (.aload_n 0, 1) := by decide +kernel
theorem nd_Mo_mend_35 : decode nc_Mo_mend 35 = .ok (.getfield 16, 3) := by decide +kernel
theorem nd_Mo_mend_38 : decode nc_Mo_mend 38 = .ok (.iconst 3, 1) := by decide +kernel
theorem nd_Mo_mend_39 : decode nc_Mo_mend 39 = .ok (.bipush 6, 2) := by decide +kernel
theorem nd_Mo_mend_41 : decode nc_Mo_mend 41 = .ok (.iload_n 1, 1) := by decide +kernel
theorem nd_Mo_mend_42 : decode nc_Mo_mend 42 = .ok (.imul, 1) := by decide +kernel
theorem nd_Mo_mend_43 : decode nc_Mo_mend 43 = .ok (.iload 4, 2) := by decide +kernel
theorem nd_Mo_mend_45 : decode nc_Mo_mend 45 = .ok (.iadd, 1) := by decide +kernel
theorem nd_Mo_mend_46 : decode nc_Mo_mend 46 = .ok (.imul, 1) := by decide +kernel
theorem nd_Mo_mend_47 : decode nc_Mo_mend 47 = .ok (.iload 6, 2) := by decide +kernel
theorem nd_Mo_mend_49 : decode nc_Mo_mend 49 = .ok (.iadd, 1) := by decide +kernel
theorem nd_Mo_mend_50 : decode nc_Mo_mend 50 = .ok (.iaload, 1) := by decide +kernel
theorem nd_Mo_mend_51 : decode nc_Mo_mend 51 = .ok (.imul, 1) := by decide +kernel
theorem nd_Mo_mend_52 : decode nc_Mo_mend 52 = .ok (.iload 5, 2) := by decide +kernel
theorem nd_Mo_mend_54 : decode nc_Mo_mend 54 = .ok (.iadd, 1) := by decide +kernel
theorem nd_Mo_mend_55 : decode nc_Mo_mend 55 = .ok (.istore 7, 2) := by decide +kernel
theorem nd_Mo_mend_57 : decode nc_Mo_mend 57 = .ok (.aload_n 0, 1) := by decide +kernel
theorem nd_Mo_mend_58 : decode nc_Mo_mend 58 = .ok (.getfield 31, 3) := by decide +kernel
theorem nd_Mo_mend_61 : decode nc_Mo_mend 61 = .ok (.iload 7, 2) := by decide +kernel
theorem nd_Mo_mend_63 : decode nc_Mo_mend 63 = .ok (.aload_n 0, 1) := by decide +kernel
theorem nd_Mo_mend_64 : decode nc_Mo_mend 64 = .ok (.getfield 31, 3) := by decide +kernel
theorem nd_Mo_mend_67 : decode nc_Mo_mend 67 = .ok (.iload 7, 2) := by decide +kernel
theorem nd_Mo_mend_69 : decode nc_Mo_mend 69 = .ok (.laload, 1) := by decide +kernel
theorem nd_Mo_mend_70 : decode nc_Mo_mend 70 = .ok (.iload_n 3, 1) := by decide +kernel
theorem nd_Mo_mend_71 : decode nc_Mo_mend 71 = .ok (.i2l, 1) := by decide +kernel
theorem nd_Mo_mend_72 : decode nc_Mo_mend 72 = .ok (.ladd, 1) := by decide +kernel
theorem nd_Mo_mend_73 : decode nc_Mo_mend 73 = .ok (.lastore, 1) := by decide +kernel
theorem nd_Mo_mend_74 : decode nc_Mo_mend 74 = .ok (.iinc 6 1, 3) := by decide +kernel
theorem nd_Mo_mend_77 : decode nc_Mo_mend 77 = .ok (.goto (-50), 3) := by decide +kernel
theorem nd_Mo_mend_80 : decode nc_Mo_mend 80 = .ok (.iload 4, 2) := by decide +kernel
theorem nd_Mo_mend_82 : decode nc_Mo_mend 82 = .ok (.ifCond .ne 12, 3) := by decide +kernel
theorem nd_Mo_mend_85 : decode nc_Mo_mend 85 = .ok (.sipush 128, 3) := by decide +kernel
theorem nd_Mo_mend_88 : decode nc_Mo_mend 88 = .ok (.iload 5, 2) := by decide +kernel
theorem nd_Mo_mend_90 : decode nc_Mo_mend 90 = .ok (.iadd, 1) := by decide +kernel
theorem nd_Mo_mend_91 : decode nc_Mo_mend 91 = .ok (.goto 21, 3) := by decide +kernel
theorem nd_Mo_mend_94 : decode nc_Mo_mend 94 = .ok (.iconst 4, 1) := by decide +kernel
theorem nd_Mo_mend_95 : decode nc_Mo_mend 95 = .ok (.bipush 33, 2) := by decide +kernel
theorem nd_Mo_mend_97 : decode nc_Mo_mend 97 = .ok (.iload_n 2, 1) := by decide +kernel
theorem nd_Mo_mend_98 : decode nc_Mo_mend 98 = .ok (.iconst 2, 1) := by decide +kernel
theorem nd_Mo_mend_99 : decode nc_Mo_mend 99 = .ok (.iload 4, 2) := by decide +kernel
theorem nd_Mo_mend_101 : decode nc_Mo_mend 101 = .ok (.imul, 1) := by decide +kernel
theorem nd_Mo_mend_102 : decode nc_Mo_mend 102 = .ok (.iconst 2, 1) := by decide +kernel
theorem nd_Mo_mend_103 : decode nc_Mo_mend 103 = .ok (.isub, 1) := by decide +kernel
theorem nd_Mo_mend_104 : decode nc_Mo_mend 104 = .ok (.ishr, 1) := by decide +kernel
theorem nd_Mo_mend_105 : decode nc_Mo_mend 105 = .ok (.iconst 3, 1) := by decide +kernel
theorem nd_Mo_mend_106 : decode nc_Mo_mend 106 = .ok (.iand, 1) := by decide +kernel
theorem nd_Mo_mend_107 : decode nc_Mo_mend 107 = .ok (.iadd, 1) := by decide +kernel
theorem nd_Mo_mend_108 : decode nc_Mo_mend 108 = .ok (.imul, 1) := by decide +kernel
theorem nd_Mo_mend_109 : decode nc_Mo_mend 109 = .ok (.iload 5, 2) := by decide +kernel
theorem nd_Mo_mend_111 : decode nc_Mo_mend 111 = .ok (.iadd, 1) := by decide +kernel
theorem nd_Mo_mend_112 : decode nc_Mo_mend 112 = .ok (.istore 6, 2) := by decide +kernel
theorem nd_Mo_mend_114 : decode nc_Mo_mend 114 = .ok (.aload_n 0, 1) := by decide +kernel
theorem nd_Mo_mend_115 : decode nc_Mo_mend 115 = .ok (.getfield 31, 3) := by decide +kernel
theorem nd_Mo_mend_118 : decode nc_Mo_mend 118 = .ok (.iload 6, 2) := by decide +kernel
theorem nd_Mo_mend_120 : decode nc_Mo_mend 120 = .ok (.aload_n 0, 1) := by decide +kernel
theorem nd_Mo_mend_121 : decode nc_Mo_mend 121 = .ok (.getfield 31, 3) := by decide +kernel
theorem nd_Mo_mend_124 : decode nc_Mo_mend 124 = .ok (.iload 6, 2) := by decide +kernel
theorem nd_Mo_mend_126 : decode nc_Mo_mend 126 = .ok (.laload, 1) := by decide +kernel
theorem nd_Mo_mend_127 : decode nc_Mo_mend 127 = .ok (.iload_n 3, 1) := by decide +kernel
theorem nd_Mo_mend_128 : decode nc_Mo_mend 128 = .ok (.i2l, 1) := by decide +kernel
theorem nd_Mo_mend_129 : decode nc_Mo_mend 129 = .ok (.ladd, 1) := by decide +kernel
theorem nd_Mo_mend_130 : decode nc_Mo_mend 130 = .ok (.lastore, 1) := by decide +kernel
theorem nd_Mo_mend_131 : decode nc_Mo_mend 131 = .ok (.iinc 4 1, 3) := by decide +kernel
theorem nd_Mo_mend_134 : decode nc_Mo_mend 134 = .ok (.goto (-131), 3) := by decide +kernel
theorem nd_Mo_mend_137 : decode nc_Mo_mend 137 = .ok (.return_, 1) := by decide +kernel
theorem nd_Mo_givenRow_0 : decode nc_Mo_givenRow 0 = .ok (.iconst 0, 1) := by decide +kernel
theorem nd_Mo_givenRow_1 : decode nc_Mo_givenRow 1 = .ok (.istore_n 2, 1) := by decide +kernel
theorem nd_Mo_givenRow_2 : decode nc_Mo_givenRow 2 = .ok (.iconst 0, 1) := by decide +kernel
theorem nd_Mo_givenRow_3 : decode nc_Mo_givenRow 3 = .ok (.istore_n 3, 1) := by decide +kernel
theorem nd_Mo_givenRow_4 : decode nc_Mo_givenRow 4 = .ok (.iload_n 3, 1) := by decide +kernel
theorem nd_Mo_givenRow_5 : decode nc_Mo_givenRow 5 = .ok (.aload_n 0, 1) := by decide +kernel
theorem nd_Mo_givenRow_6 : decode nc_Mo_givenRow 6 = .ok (.getfield 13, 3) := by decide +kernel
theorem nd_Mo_givenRow_9 : decode nc_Mo_givenRow 9 = .ok (.iload_n 1, 1) := by decide +kernel
theorem nd_Mo_givenRow_10 : decode nc_Mo_givenRow 10 = .ok (.iaload, 1) := by decide +kernel
theorem nd_Mo_givenRow_11 : decode nc_Mo_givenRow 11 = .ok (.if_icmp .ge 27, 3) := by decide +kernel
theorem nd_Mo_givenRow_14 : decode nc_Mo_givenRow 14 = .ok (.iload_n 2, 1) := by decide +kernel
theorem nd_Mo_givenRow_15 : decode nc_Mo_givenRow 15 = .ok (.aload_n 0, 1) := by decide +kernel
theorem nd_Mo_givenRow_16 : decode nc_Mo_givenRow 16 = .ok (.getfield 19, 3) := by decide +kernel
theorem nd_Mo_givenRow_19 : decode nc_Mo_givenRow 19 = .ok (.bipush 6, 2) := by decide +kernel
theorem nd_Mo_givenRow_21 : decode nc_Mo_givenRow 21 = .ok (.iload_n 1, 1) := by decide +kernel
theorem nd_Mo_givenRow_22 : decode nc_Mo_givenRow 22 = .ok (.imul, 1) := by decide +kernel
theorem nd_Mo_givenRow_23 : decode nc_Mo_givenRow 23 = .ok (.iload_n 3, 1) := by decide +kernel
theorem nd_Mo_givenRow_24 : decode nc_Mo_givenRow 24 = .ok (.iadd, 1) := by decide +kernel
theorem nd_Mo_givenRow_25 : decode nc_Mo_givenRow 25 = .ok (.iaload, 1) := by decide +kernel
theorem nd_Mo_givenRow_26 : decode nc_Mo_givenRow 26 = .ok (.iconst 2, 1) := by decide +kernel
theorem nd_Mo_givenRow_27 : decode nc_Mo_givenRow 27 = .ok (.iload_n 3, 1) := by decide +kernel
theorem nd_Mo_givenRow_28 : decode nc_Mo_givenRow 28 = .ok (.imul, 1) := by decide +kernel
theorem nd_Mo_givenRow_29 : decode nc_Mo_givenRow 29 = .ok (.ishl, 1) := by decide +kernel
theorem nd_Mo_givenRow_30 : decode nc_Mo_givenRow 30 = .ok (.ior, 1) := by decide +kernel
theorem nd_Mo_givenRow_31 : decode nc_Mo_givenRow 31 = .ok (.istore_n 2, 1) := by decide +kernel
theorem nd_Mo_givenRow_32 : decode nc_Mo_givenRow 32 = .ok (.iinc 3 1, 3) := by decide +kernel
theorem nd_Mo_givenRow_35 : decode nc_Mo_givenRow 35 = .ok (.goto (-31), 3) := by decide +kernel
theorem nd_Mo_givenRow_38 : decode nc_Mo_givenRow 38 = .ok (.iload_n 2, 1) := by decide +kernel
theorem nd_Mo_givenRow_39 : decode nc_Mo_givenRow 39 = .ok (.ireturn, 1) := by decide +kernel
theorem nd_Mo_onePass_0 : decode nc_Mo_onePass 0 = .ok (.iconst 0, 1) := by decide +kernel
theorem nd_Mo_onePass_1 : decode nc_Mo_onePass 1 = .ok (.istore_n 1, 1) := by decide +kernel
theorem nd_Mo_onePass_2 : decode nc_Mo_onePass 2 = .ok (.iconst 0, 1) := by decide +kernel
theorem nd_Mo_onePass_3 : decode nc_Mo_onePass 3 = .ok (.istore_n 2, 1) := by decide +kernel
theorem nd_Mo_onePass_4 : decode nc_Mo_onePass 4 = .ok (.iload_n 2, 1) := by decide +kernel
theorem nd_Mo_onePass_5 : decode nc_Mo_onePass 5 = .ok (.aload_n 0, 1) := by decide +kernel
theorem nd_Mo_onePass_6 : decode nc_Mo_onePass 6 = .ok (.getfield 89, 3) := by decide +kernel
theorem nd_Mo_onePass_9 : decode nc_Mo_onePass 9 = .ok (.if_icmp .ge 91, 3) := by decide +kernel
theorem nd_Mo_onePass_12 : decode nc_Mo_onePass 12 = .ok (.aload_n 0, 1) := by decide +kernel
theorem nd_Mo_onePass_13 : decode nc_Mo_onePass 13 = .ok (.iload_n 2, 1) := by decide +kernel
theorem nd_Mo_onePass_14 : decode nc_Mo_onePass 14 = .ok (.aload_n 0, 1) := by decide +kernel
theorem nd_Mo_onePass_15 : decode nc_Mo_onePass 15 = .ok (.getfield 31, 3) := by decide +kernel
theorem nd_Mo_onePass_18 : decode nc_Mo_onePass 18 = .ok (.invokevirtual 136, 3) := by decide +kernel
theorem nd_Mo_onePass_21 : decode nc_Mo_onePass 21 = .ok (.aload_n 0, 1) := by decide +kernel
theorem nd_Mo_onePass_22 : decode nc_Mo_onePass 22 = .ok (.iload_n 2, 1) := by decide +kernel
theorem nd_Mo_onePass_23 : decode nc_Mo_onePass 23 = .ok (.invokevirtual 139, 3) := by decide +kernel
theorem nd_Mo_onePass_26 : decode nc_Mo_onePass 26 = .ok (.istore_n 3, 1) := by decide +kernel
theorem nd_Mo_onePass_27 : decode nc_Mo_onePass 27 = .ok (.aload_n 0, 1) := by decide +kernel
theorem nd_Mo_onePass_28 : decode nc_Mo_onePass 28 = .ok (.getfield 124, 3) := by decide +kernel
theorem nd_Mo_onePass_31 : decode nc_Mo_onePass 31 = .ok (.iload_n 3, 1) := by decide +kernel
theorem nd_Mo_onePass_32 : decode nc_Mo_onePass 32 = .ok (.if_icmp .eq 23, 3) := by decide +kernel
theorem nd_Mo_onePass_35 : decode nc_Mo_onePass 35 = .ok (.iinc 1 1, 3) := by decide +kernel
theorem nd_Mo_onePass_38 : decode nc_Mo_onePass 38 = .ok (.aload_n 0, 1) := by decide +kernel
theorem nd_Mo_onePass_39 : decode nc_Mo_onePass 39 = .ok (.iload_n 2, 1) := by decide +kernel
theorem nd_Mo_onePass_40 : decode nc_Mo_onePass 40 = .ok (.iload_n 3, 1) := by decide +kernel
theorem nd_Mo_onePass_41 : decode nc_Mo_onePass 41 = .ok (.iconst 1, 1) := by decide +kernel
theorem nd_Mo_onePass_42 : decode nc_Mo_onePass 42 = .ok (.invokevirtual 142, 3) := by decide +kernel
theorem nd_Mo_onePass_45 : decode nc_Mo_onePass 45 = .ok (.aload_n 0, 1) := by decide +kernel
theorem nd_Mo_onePass_46 : decode nc_Mo_onePass 46 = .ok (.iload_n 2, 1) := by decide +kernel
theorem nd_Mo_onePass_47 : decode nc_Mo_onePass 47 = .ok (.aload_n 0, 1) := by decide +kernel
theorem nd_Mo_onePass_48 : decode nc_Mo_onePass 48 = .ok (.getfield 124, 3) := by decide +kernel
theorem nd_Mo_onePass_51 : decode nc_Mo_onePass 51 = .ok (.iconst (-1), 1) := by decide +kernel
theorem nd_Mo_onePass_52 : decode nc_Mo_onePass 52 = .ok (.invokevirtual 142, 3) := by decide +kernel
theorem nd_Mo_onePass_55 : decode nc_Mo_onePass 55 = .ok (.iconst 0, 1) := by decide +kernel
theorem nd_Mo_onePass_56 : decode nc_Mo_onePass 56 = .ok (.istore 4, 2) := by decide +kernel
theorem nd_Mo_onePass_58 : decode nc_Mo_onePass 58 = .ok (.iload 4, 2) := by decide +kernel
theorem nd_Mo_onePass_60 : decode nc_Mo_onePass 60 = .ok (.sipush 148, 3) := by decide +kernel
theorem nd_Mo_onePass_63 : decode nc_Mo_onePass 63 = .ok (.if_icmp .ge 31, 3) := by decide +kernel
theorem nd_Mo_onePass_66 : decode nc_Mo_onePass 66 = .ok (.aload_n 0, 1) := by decide +kernel
theorem nd_Mo_onePass_67 : decode nc_Mo_onePass 67 = .ok (.getfield 35, 3) := by decide +kernel
theorem nd_Mo_onePass_70 : decode nc_Mo_onePass 70 = .ok (.iload 4, 2) := by decide +kernel
theorem nd_Mo_onePass_72 : decode nc_Mo_onePass 72 = .ok (.aload_n 0, 1) := by decide +kernel
theorem nd_Mo_onePass_73 : decode nc_Mo_onePass 73 = .ok (.getfield 35, 3) := by decide +kernel
theorem nd_Mo_onePass_76 : decode nc_Mo_onePass 76 = .ok (.iload 4, 2) := by decide +kernel
theorem nd_Mo_onePass_78 : decode nc_Mo_onePass 78 = .ok (.laload, 1) := by decide +kernel
theorem nd_Mo_onePass_79 : decode nc_Mo_onePass 79 = .ok (.aload_n 0, 1) := by decide +kernel
theorem nd_Mo_onePass_80 : decode nc_Mo_onePass 80 = .ok (.getfield 31, 3) := by decide +kernel
theorem nd_Mo_onePass_83 : decode nc_Mo_onePass 83 = .ok (.iload 4, 2) := by decide +kernel
theorem nd_Mo_onePass_85 : decode nc_Mo_onePass 85 = .ok (.laload, 1) := by decide +kernel
theorem nd_Mo_onePass_86 : decode nc_Mo_onePass 86 = .ok (.ladd, 1) := by decide +kernel
theorem nd_Mo_onePass_87 : decode nc_Mo_onePass 87 = .ok (.lastore, 1) := by decide +kernel
theorem nd_Mo_onePass_88 : decode nc_Mo_onePass 88 = .ok (.iinc 4 1, 3) := by decide +kernel
theorem nd_Mo_onePass_91 : decode nc_Mo_onePass 91 = .ok (.goto (-33), 3) := by decide +kernel
theorem nd_Mo_onePass_94 : decode nc_Mo_onePass 94 = .ok (.iinc 2 1, 3) := by decide +kernel
theorem nd_Mo_onePass_97 : decode nc_Mo_onePass 97 = .ok (.goto (-93), 3) := by decide +kernel
theorem nd_Mo_onePass_100 : decode nc_Mo_onePass 100 = .ok (.aload_n 0, 1) := by decide +kernel
theorem nd_Mo_onePass_101 : decode nc_Mo_onePass 101 = .ok (.dup, 1) := by decide +kernel
theorem nd_Mo_onePass_102 : decode nc_Mo_onePass 102 = .ok (.getfield 99, 3) := by decide +kernel
theorem nd_Mo_onePass_105 : decode nc_Mo_onePass 105 = .ok (.iconst 1, 1) := by decide +kernel
theorem nd_Mo_onePass_106 : decode nc_Mo_onePass 106 = .ok (.iadd, 1) := by decide +kernel
theorem nd_Mo_onePass_107 : decode nc_Mo_onePass 107 = .ok (.putfield 99, 3) := by decide +kernel
theorem nd_Mo_onePass_110 : decode nc_Mo_onePass 110 = .ok (.aload_n 0, 1) := by decide +kernel
theorem nd_Mo_onePass_111 : decode nc_Mo_onePass 111 = .ok (.aload_n 0, 1) := by decide +kernel
theorem nd_Mo_onePass_112 : decode nc_Mo_onePass 112 = .ok (.getfield 96, 3) := by decide +kernel
theorem nd_Mo_onePass_115 : decode nc_Mo_onePass 115 = .ok (.iload_n 1, 1) := by decide +kernel
theorem nd_Mo_onePass_116 : decode nc_Mo_onePass 116 = .ok (.iadd, 1) := by decide +kernel
theorem nd_Mo_onePass_117 : decode nc_Mo_onePass 117 = .ok (.putfield 96, 3) := by decide +kernel
theorem nd_Mo_onePass_120 : decode nc_Mo_onePass 120 = .ok (.iload_n 1, 1) := by decide +kernel
theorem nd_Mo_onePass_121 : decode nc_Mo_onePass 121 = .ok (.ireturn, 1) := by decide +kernel
theorem nd_Mo_learn_0 : decode nc_Mo_learn 0 = .ok (.aload_n 0, 1) := by decide +kernel
theorem nd_Mo_learn_1 : decode nc_Mo_learn 1 = .ok (.iload_n 1, 1) := by decide +kernel
theorem nd_Mo_learn_2 : decode nc_Mo_learn 2 = .ok (.iconst 1, 1) := by decide +kernel
theorem nd_Mo_learn_3 : decode nc_Mo_learn 3 = .ok (.if_icmp .lt 9, 3) := by decide +kernel
theorem nd_Mo_learn_6 : decode nc_Mo_learn 6 = .ok (.iload_n 1, 1) := by decide +kernel
theorem nd_Mo_learn_7 : decode nc_Mo_learn 7 = .ok (.bipush 6, 2) := by decide +kernel
theorem nd_Mo_learn_9 : decode nc_Mo_learn 9 = .ok (.if_icmp .le 7, 3) := by decide +kernel
theorem nd_Mo_learn_12 : decode nc_Mo_learn 12 = .ok (.iconst 1, 1) := by decide +kernel
theorem nd_Mo_learn_13 : decode nc_Mo_learn 13 = .ok (.goto 15, 3) := by decide +kernel
theorem nd_Mo_learn_16 : decode nc_Mo_learn 16 = .ok (.aload_n 0, 1) := by decide +kernel
theorem nd_Mo_learn_17 : decode nc_Mo_learn 17 = .ok (.getfield 89, 3) := by decide +kernel
theorem nd_Mo_learn_20 : decode nc_Mo_learn 20 = .ok (.ifCond .ne 7, 3) := by decide +kernel
theorem nd_Mo_learn_23 : decode nc_Mo_learn 23 = .ok (.iconst 2, 1) := by decide +kernel
theorem nd_Mo_learn_24 : decode nc_Mo_learn 24 = .ok (.goto 4, 3) := by decide +kernel
theorem nd_Mo_learn_27 : decode nc_Mo_learn 27 = .ok (.iconst 0, 1) := by decide +kernel
theorem nd_Mo_learn_28 : decode nc_Mo_learn 28 = .ok (.putfield 51, 3) := by decide +kernel
theorem nd_Mo_learn_31 : decode nc_Mo_learn 31 = .ok (.aload_n 0, 1) := by decide +kernel
theorem nd_Mo_learn_32 : decode nc_Mo_learn 32 = .ok (.getfield 51, 3) := by decide +kernel
theorem nd_Mo_learn_35 : decode nc_Mo_learn 35 = .ok (.ifCond .le 5, 3) := by decide +kernel
theorem nd_Mo_learn_38 : decode nc_Mo_learn 38 = .ok (.iconst 0, 1) := by decide +kernel
theorem nd_Mo_learn_39 : decode nc_Mo_learn 39 = .ok (.ireturn, 1) := by decide +kernel
theorem nd_Mo_learn_40 : decode nc_Mo_learn 40 = .ok (.iconst 1, 1) := by decide +kernel
theorem nd_Mo_learn_41 : decode nc_Mo_learn 41 = .ok (.istore_n 2, 1) := by decide +kernel
theorem nd_Mo_learn_42 : decode nc_Mo_learn 42 = .ok (.iconst 0, 1) := by decide +kernel
theorem nd_Mo_learn_43 : decode nc_Mo_learn 43 = .ok (.istore_n 3, 1) := by decide +kernel
theorem nd_Mo_learn_44 : decode nc_Mo_learn 44 = .ok (.iload_n 3, 1) := by decide +kernel
theorem nd_Mo_learn_45 : decode nc_Mo_learn 45 = .ok (.iload_n 1, 1) := by decide +kernel
theorem nd_Mo_learn_46 : decode nc_Mo_learn 46 = .ok (.if_icmp .ge 18, 3) := by decide +kernel
theorem nd_Mo_learn_49 : decode nc_Mo_learn 49 = .ok (.iload_n 2, 1) := by decide +kernel
theorem nd_Mo_learn_50 : decode nc_Mo_learn 50 = .ok (.ifCond .le 14, 3) := by decide +kernel
theorem nd_Mo_learn_53 : decode nc_Mo_learn 53 = .ok (.aload_n 0, 1) := by decide +kernel
theorem nd_Mo_learn_54 : decode nc_Mo_learn 54 = .ok (.invokevirtual 146, 3) := by decide +kernel
theorem nd_Mo_learn_57 : decode nc_Mo_learn 57 = .ok (.istore_n 2, 1) := by decide +kernel
theorem nd_Mo_learn_58 : decode nc_Mo_learn 58 = .ok (.iinc 3 1, 3) := by decide +kernel
theorem nd_Mo_learn_61 : decode nc_Mo_learn 61 = .ok (.goto (-17), 3) := by decide +kernel
theorem nd_Mo_learn_64 : decode nc_Mo_learn 64 = .ok (.iload_n 2, 1) := by decide +kernel
theorem nd_Mo_learn_65 : decode nc_Mo_learn 65 = .ok (.ireturn, 1) := by decide +kernel
theorem nd_Mo_mistakes_0 : decode nc_Mo_mistakes 0 = .ok (.aload_n 0, 1) := by decide +kernel
theorem nd_Mo_mistakes_1 : decode nc_Mo_mistakes 1 = .ok (.iconst 0, 1) := by decide +kernel
theorem nd_Mo_mistakes_2 : decode nc_Mo_mistakes 2 = .ok (.putfield 51, 3) := by decide +kernel
theorem nd_Mo_mistakes_5 : decode nc_Mo_mistakes 5 = .ok (.aload_n 0, 1) := by decide +kernel
theorem nd_Mo_mistakes_6 : decode nc_Mo_mistakes 6 = .ok (.getfield 96, 3) := by decide +kernel
theorem nd_Mo_mistakes_9 : decode nc_Mo_mistakes 9 = .ok (.ireturn, 1) := by decide +kernel
theorem nd_Mo_passes_0 : decode nc_Mo_passes 0 = .ok (.aload_n 0, 1) := by decide +kernel
theorem nd_Mo_passes_1 : decode nc_Mo_passes 1 = .ok (.iconst 0, 1) := by decide +kernel
theorem nd_Mo_passes_2 : decode nc_Mo_passes 2 = .ok (.putfield 51, 3) := by decide +kernel
theorem nd_Mo_passes_5 : decode nc_Mo_passes 5 = .ok (.aload_n 0, 1) := by decide +kernel
theorem nd_Mo_passes_6 : decode nc_Mo_passes 6 = .ok (.getfield 99, 3) := by decide +kernel
theorem nd_Mo_passes_9 : decode nc_Mo_passes 9 = .ok (.ireturn, 1) := by decide +kernel
theorem nd_Mo_weight_0 : decode nc_Mo_weight 0 = .ok (.aload_n 0, 1) := by decide +kernel
theorem nd_Mo_weight_1 : decode nc_Mo_weight 1 = .ok (.iload_n 1, 1) := by decide +kernel
theorem nd_Mo_weight_2 : decode nc_Mo_weight 2 = .ok (.ifCond .lt 18, 3) := by decide +kernel
theorem nd_Mo_weight_5 : decode nc_Mo_weight 5 = .ok (.iload_n 1, 1) := by decide +kernel
theorem nd_Mo_weight_6 : decode nc_Mo_weight 6 = .ok (.bipush 36, 2) := by decide +kernel
theorem nd_Mo_weight_8 : decode nc_Mo_weight 8 = .ok (.if_icmp .gt 12, 3) := by decide +kernel
theorem nd_Mo_weight_11 : decode nc_Mo_weight 11 = .ok (.iload_n 2, 1) := by decide +kernel
theorem nd_Mo_weight_12 : decode nc_Mo_weight 12 = .ok (.ifCond .lt 8, 3) := by decide +kernel
theorem nd_Mo_weight_15 : decode nc_Mo_weight 15 = .ok (.iload_n 2, 1) := by decide +kernel
theorem nd_Mo_weight_16 : decode nc_Mo_weight 16 = .ok (.iconst 3, 1) := by decide +kernel
theorem nd_Mo_weight_17 : decode nc_Mo_weight 17 = .ok (.if_icmp .le 7, 3) := by decide +kernel
theorem nd_Mo_weight_20 : decode nc_Mo_weight 20 = .ok (.iconst 1, 1) := by decide +kernel
theorem nd_Mo_weight_21 : decode nc_Mo_weight 21 = .ok (.goto 4, 3) := by decide +kernel
theorem nd_Mo_weight_24 : decode nc_Mo_weight 24 = .ok (.iconst 0, 1) := by decide +kernel
theorem nd_Mo_weight_25 : decode nc_Mo_weight 25 = .ok (.putfield 51, 3) := by decide +kernel
theorem nd_Mo_weight_28 : decode nc_Mo_weight 28 = .ok (.aload_n 0, 1) := by decide +kernel
theorem nd_Mo_weight_29 : decode nc_Mo_weight 29 = .ok (.getfield 51, 3) := by decide +kernel
theorem nd_Mo_weight_32 : decode nc_Mo_weight 32 = .ok (.ifCond .le 7, 3) := by decide +kernel
theorem nd_Mo_weight_35 : decode nc_Mo_weight 35 = .ok (.lconst 0, 1) := by decide +kernel
theorem nd_Mo_weight_36 : decode nc_Mo_weight 36 = .ok (.goto 30, 3) := by decide +kernel
theorem nd_Mo_weight_39 : decode nc_Mo_weight 39 = .ok (.iload_n 3, 1) := by decide +kernel
theorem nd_Mo_weight_40 : decode nc_Mo_weight 40 = .ok (.ifCond .eq 16, 3) := by decide +kernel
theorem nd_Mo_weight_43 : decode nc_Mo_weight 43 = .ok (.aload_n 0, 1) := by decide +kernel
theorem nd_Mo_weight_44 : decode nc_Mo_weight 44 = .ok (.getfield 35, 3) := by decide +kernel
theorem nd_Mo_weight_47 : decode nc_Mo_weight 47 = .ok (.iconst 4, 1) := by decide +kernel
theorem nd_Mo_weight_48 : decode nc_Mo_weight 48 = .ok (.iload_n 1, 1) := by decide +kernel
theorem nd_Mo_weight_49 : decode nc_Mo_weight 49 = .ok (.imul, 1) := by decide +kernel
theorem nd_Mo_weight_50 : decode nc_Mo_weight 50 = .ok (.iload_n 2, 1) := by decide +kernel
theorem nd_Mo_weight_51 : decode nc_Mo_weight 51 = .ok (.iadd, 1) := by decide +kernel
theorem nd_Mo_weight_52 : decode nc_Mo_weight 52 = .ok (.laload, 1) := by decide +kernel
theorem nd_Mo_weight_53 : decode nc_Mo_weight 53 = .ok (.goto 13, 3) := by decide +kernel
theorem nd_Mo_weight_56 : decode nc_Mo_weight 56 = .ok (.aload_n 0, 1) := by decide +kernel
theorem nd_Mo_weight_57 : decode nc_Mo_weight 57 = .ok (.getfield 31, 3) := by decide +kernel
theorem nd_Mo_weight_60 : decode nc_Mo_weight 60 = .ok (.iconst 4, 1) := by decide +kernel
theorem nd_Mo_weight_61 : decode nc_Mo_weight 61 = .ok (.iload_n 1, 1) := by decide +kernel
theorem nd_Mo_weight_62 : decode nc_Mo_weight 62 = .ok (.imul, 1) := by decide +kernel
theorem nd_Mo_weight_63 : decode nc_Mo_weight 63 = .ok (.iload_n 2, 1) := by decide +kernel
theorem nd_Mo_weight_64 : decode nc_Mo_weight 64 = .ok (.iadd, 1) := by decide +kernel
theorem nd_Mo_weight_65 : decode nc_Mo_weight 65 = .ok (.laload, 1) := by decide +kernel
theorem nd_Mo_weight_66 : decode nc_Mo_weight 66 = .ok (.lreturn, 1) := by decide +kernel
theorem nd_Mo_searchBy_0 : decode nc_Mo_searchBy 0 = .ok (.iload_n 2, 1) := by decide +kernel
theorem nd_Mo_searchBy_1 : decode nc_Mo_searchBy 1 = .ok (.ifCond .eq 15, 3) := by decide +kernel
theorem nd_Mo_searchBy_4 : decode nc_Mo_searchBy 4 = .ok (.aload_n 0, 1) := by decide +kernel
theorem nd_Mo_searchBy_5 : decode nc_Mo_searchBy 5 = .ok (.iload_n 1, 1) := by decide +kernel
theorem nd_Mo_searchBy_6 : decode nc_Mo_searchBy 6 = .ok (.aload_n 0, 1) := by decide +kernel
theorem nd_Mo_searchBy_7 : decode nc_Mo_searchBy 7 = .ok (.getfield 35, 3) := by decide +kernel
theorem nd_Mo_searchBy_10 : decode nc_Mo_searchBy 10 = .ok (.invokevirtual 136, 3) := by decide +kernel
theorem nd_Mo_searchBy_13 : decode nc_Mo_searchBy 13 = .ok (.goto 12, 3) := by decide +kernel
theorem nd_Mo_searchBy_16 : decode nc_Mo_searchBy 16 = .ok (.aload_n 0, 1) := by decide +kernel
theorem nd_Mo_searchBy_17 : decode nc_Mo_searchBy 17 = .ok (.iload_n 1, 1) := by decide +kernel
theorem nd_Mo_searchBy_18 : decode nc_Mo_searchBy 18 = .ok (.aload_n 0, 1) := by decide +kernel
theorem nd_Mo_searchBy_19 : decode nc_Mo_searchBy 19 = .ok (.getfield 31, 3) := by decide +kernel
theorem nd_Mo_searchBy_22 : decode nc_Mo_searchBy 22 = .ok (.invokevirtual 136, 3) := by decide +kernel
theorem nd_Mo_searchBy_25 : decode nc_Mo_searchBy 25 = .ok (.return_, 1) := by decide +kernel
theorem nd_Mo_decode_0 : decode nc_Mo_decode 0 = .ok (.aload_n 0, 1) := by decide +kernel
theorem nd_Mo_decode_1 : decode nc_Mo_decode 1 = .ok (.iload_n 1, 1) := by decide +kernel
theorem nd_Mo_decode_2 : decode nc_Mo_decode 2 = .ok (.invokevirtual 102, 3) := by decide +kernel
theorem nd_Mo_decode_5 : decode nc_Mo_decode 5 = .ok (.istore 4, 2) := by decide +kernel
theorem nd_Mo_decode_7 : decode nc_Mo_decode 7 = .ok (.aload_n 0, 1) := by decide +kernel
theorem nd_Mo_decode_8 : decode nc_Mo_decode 8 = .ok (.iload 4, 2) := by decide +kernel
theorem nd_Mo_decode_10 : decode nc_Mo_decode 10 = .ok (.ifCond .ge 7, 3) := by decide +kernel
theorem nd_Mo_decode_13 : decode nc_Mo_decode 13 = .ok (.iconst 1, 1) := by decide +kernel
theorem nd_Mo_decode_14 : decode nc_Mo_decode 14 = .ok (.goto 4, 3) := by decide +kernel
theorem nd_Mo_decode_17 : decode nc_Mo_decode 17 = .ok (.iconst 0, 1) := by decide +kernel
theorem nd_Mo_decode_18 : decode nc_Mo_decode 18 = .ok (.putfield 51, 3) := by decide +kernel
theorem nd_Mo_decode_21 : decode nc_Mo_decode 21 = .ok (.aload_n 0, 1) := by decide +kernel
theorem nd_Mo_decode_22 : decode nc_Mo_decode 22 = .ok (.getfield 51, 3) := by decide +kernel
theorem nd_Mo_decode_25 : decode nc_Mo_decode 25 = .ok (.ifCond .le 5, 3) := by decide +kernel
theorem nd_Mo_decode_28 : decode nc_Mo_decode 28 = .ok (.lconst 0, 1) := by decide +kernel
theorem nd_Mo_decode_29 : decode nc_Mo_decode 29 = .ok (.lreturn, 1) := by decide +kernel
theorem nd_Mo_decode_30 : decode nc_Mo_decode 30 = .ok (.aload_n 0, 1) := by decide +kernel
theorem nd_Mo_decode_31 : decode nc_Mo_decode 31 = .ok (.iload 4, 2) := by decide +kernel
theorem nd_Mo_decode_33 : decode nc_Mo_decode 33 = .ok (.iload_n 2, 1) := by decide +kernel
theorem nd_Mo_decode_34 : decode nc_Mo_decode 34 = .ok (.invokevirtual 150, 3) := by decide +kernel
theorem nd_Mo_decode_37 : decode nc_Mo_decode 37 = .ok (.aload_n 0, 1) := by decide +kernel
theorem nd_Mo_decode_38 : decode nc_Mo_decode 38 = .ok (.iload_n 3, 1) := by decide +kernel
theorem nd_Mo_decode_39 : decode nc_Mo_decode 39 = .ok (.ifCond .eq 10, 3) := by decide +kernel
theorem nd_Mo_decode_42 : decode nc_Mo_decode 42 = .ok (.aload_n 0, 1) := by decide +kernel
theorem nd_Mo_decode_43 : decode nc_Mo_decode 43 = .ok (.getfield 127, 3) := by decide +kernel
theorem nd_Mo_decode_46 : decode nc_Mo_decode 46 = .ok (.goto 7, 3) := by decide +kernel
theorem nd_Mo_decode_49 : decode nc_Mo_decode 49 = .ok (.aload_n 0, 1) := by decide +kernel
theorem nd_Mo_decode_50 : decode nc_Mo_decode 50 = .ok (.getfield 124, 3) := by decide +kernel
theorem nd_Mo_decode_53 : decode nc_Mo_decode 53 = .ok (.putfield 47, 3) := by decide +kernel
theorem nd_Mo_decode_56 : decode nc_Mo_decode 56 = .ok (.aload_n 0, 1) := by decide +kernel
theorem nd_Mo_decode_57 : decode nc_Mo_decode 57 = .ok (.aload_n 0, 1) := by decide +kernel
theorem nd_Mo_decode_58 : decode nc_Mo_decode 58 = .ok (.getfield 13, 3) := by decide +kernel
theorem nd_Mo_decode_61 : decode nc_Mo_decode 61 = .ok (.iload 4, 2) := by decide +kernel
theorem nd_Mo_decode_63 : decode nc_Mo_decode 63 = .ok (.iaload, 1) := by decide +kernel
theorem nd_Mo_decode_64 : decode nc_Mo_decode 64 = .ok (.putfield 154, 3) := by decide +kernel
theorem nd_Mo_decode_67 : decode nc_Mo_decode 67 = .ok (.iload_n 3, 1) := by decide +kernel
theorem nd_Mo_decode_68 : decode nc_Mo_decode 68 = .ok (.ifCond .eq 10, 3) := by decide +kernel
theorem nd_Mo_decode_71 : decode nc_Mo_decode 71 = .ok (.aload_n 0, 1) := by decide +kernel
theorem nd_Mo_decode_72 : decode nc_Mo_decode 72 = .ok (.getfield 130, 3) := by decide +kernel
theorem nd_Mo_decode_75 : decode nc_Mo_decode 75 = .ok (.goto 7, 3) := by decide +kernel
theorem nd_Mo_decode_78 : decode nc_Mo_decode 78 = .ok (.aload_n 0, 1) := by decide +kernel
theorem nd_Mo_decode_79 : decode nc_Mo_decode 79 = .ok (.getfield 120, 3) := by decide +kernel
theorem nd_Mo_decode_82 : decode nc_Mo_decode 82 = .ok (.lreturn, 1) := by decide +kernel
theorem nd_Mo_label_0 : decode nc_Mo_label 0 = .ok (.aload_n 0, 1) := by decide +kernel
theorem nd_Mo_label_1 : decode nc_Mo_label 1 = .ok (.aload_n 0, 1) := by decide +kernel
theorem nd_Mo_label_2 : decode nc_Mo_label 2 = .ok (.getfield 47, 3) := by decide +kernel
theorem nd_Mo_label_5 : decode nc_Mo_label 5 = .ok (.ifCond .lt 15, 3) := by decide +kernel
theorem nd_Mo_label_8 : decode nc_Mo_label 8 = .ok (.iload_n 1, 1) := by decide +kernel
theorem nd_Mo_label_9 : decode nc_Mo_label 9 = .ok (.ifCond .lt 11, 3) := by decide +kernel
theorem nd_Mo_label_12 : decode nc_Mo_label 12 = .ok (.iload_n 1, 1) := by decide +kernel
theorem nd_Mo_label_13 : decode nc_Mo_label 13 = .ok (.aload_n 0, 1) := by decide +kernel
theorem nd_Mo_label_14 : decode nc_Mo_label 14 = .ok (.getfield 154, 3) := by decide +kernel

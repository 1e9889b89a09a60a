theorem d_Mo_put_1 : decode b_Mo_put 1 = .ok (.getfield 55, 3) := by decide +kernel
theorem d_Mo_put_4 : decode b_Mo_put 4 = .ok (.aload_n 0, 1) := by decide +kernel
theorem d_Mo_put_5 : decode b_Mo_put 5 = .ok (.getfield 156, 3) := by decide +kernel
theorem d_Mo_put_8 : decode b_Mo_put 8 = .ok (.iload_n 1, 1) := by decide +kernel
theorem d_Mo_put_9 : decode b_Mo_put 9 = .ok (.iastore, 1) := by decide +kernel
theorem d_Mo_put_10 : decode b_Mo_put 10 = .ok (.aload_n 0, 1) := by decide +kernel
theorem d_Mo_put_11 : decode b_Mo_put 11 = .ok (.getfield 58, 3) := by decide +kernel
theorem d_Mo_put_14 : decode b_Mo_put 14 = .ok (.aload_n 0, 1) := by decide +kernel
theorem d_Mo_put_15 : decode b_Mo_put 15 = .ok (.getfield 156, 3) := by decide +kernel
theorem d_Mo_put_18 : decode b_Mo_put 18 = .ok (.iload_n 2, 1) := by decide +kernel
theorem d_Mo_put_19 : decode b_Mo_put 19 = .ok (.iastore, 1) := by decide +kernel
theorem d_Mo_put_20 : decode b_Mo_put 20 = .ok (.aload_n 0, 1) := by decide +kernel
theorem d_Mo_put_21 : decode b_Mo_put 21 = .ok (.getfield 61, 3) := by decide +kernel
theorem d_Mo_put_24 : decode b_Mo_put 24 = .ok (.aload_n 0, 1) := by decide +kernel
theorem d_Mo_put_25 : decode b_Mo_put 25 = .ok (.getfield 156, 3) := by decide +kernel
theorem d_Mo_put_28 : decode b_Mo_put 28 = .ok (.lload_n 3, 1) := by decide +kernel
theorem d_Mo_put_29 : decode b_Mo_put 29 = .ok (.lastore, 1) := by decide +kernel
theorem d_Mo_put_30 : decode b_Mo_put 30 = .ok (.aload_n 0, 1) := by decide +kernel
theorem d_Mo_put_31 : decode b_Mo_put 31 = .ok (.dup, 1) := by decide +kernel
theorem d_Mo_put_32 : decode b_Mo_put 32 = .ok (.getfield 156, 3) := by decide +kernel
theorem d_Mo_put_35 : decode b_Mo_put 35 = .ok (.iconst 1, 1) := by decide +kernel
theorem d_Mo_put_36 : decode b_Mo_put 36 = .ok (.iadd, 1) := by decide +kernel
theorem d_Mo_put_37 : decode b_Mo_put 37 = .ok (.putfield 156, 3) := by decide +kernel
theorem d_Mo_put_40 : decode b_Mo_put 40 = .ok (.return_, 1) := by decide +kernel
theorem d_Mo_reckon_0 : decode b_Mo_reckon 0 = .ok (.aload_n 0, 1) := by decide +kernel
theorem d_Mo_reckon_1 : decode b_Mo_reckon 1 = .ok (.getfield 86, 3) := by decide +kernel
theorem d_Mo_reckon_4 : decode b_Mo_reckon 4 = .ok (.ifCond .eq 12, 3) := by decide +kernel
theorem d_Mo_reckon_7 : decode b_Mo_reckon 7 = .ok (.aload_n 0, 1) := by decide +kernel
theorem d_Mo_reckon_8 : decode b_Mo_reckon 8 = .ok (.getfield 48, 3) := by decide +kernel
theorem d_Mo_reckon_11 : decode b_Mo_reckon 11 = .ok (.iload_n 1, 1) := by decide +kernel
theorem d_Mo_reckon_12 : decode b_Mo_reckon 12 = .ok (.if_icmp .ne 4, 3) := by decide +kernel
theorem d_Mo_reckon_15 : decode b_Mo_reckon 15 = .ok (.return_, 1) := by decide +kernel
theorem d_Mo_reckon_16 : decode b_Mo_reckon 16 = .ok (.aload_n 0, 1) := by decide +kernel
theorem d_Mo_reckon_17 : decode b_Mo_reckon 17 = .ok (.iconst 1, 1) := by decide +kernel
theorem d_Mo_reckon_18 : decode b_Mo_reckon 18 = .ok (.putfield 86, 3) := by decide +kernel
theorem d_Mo_reckon_21 : decode b_Mo_reckon 21 = .ok (.aload_n 0, 1) := by decide +kernel
theorem d_Mo_reckon_22 : decode b_Mo_reckon 22 = .ok (.iload_n 1, 1) := by decide +kernel
theorem d_Mo_reckon_23 : decode b_Mo_reckon 23 = .ok (.putfield 48, 3) := by decide +kernel
theorem d_Mo_reckon_26 : decode b_Mo_reckon 26 = .ok (.iconst 0, 1) := by decide +kernel
theorem d_Mo_reckon_27 : decode b_Mo_reckon 27 = .ok (.istore_n 2, 1) := by decide +kernel
theorem d_Mo_reckon_28 : decode b_Mo_reckon 28 = .ok (.iload_n 2, 1) := by decide +kernel
theorem d_Mo_reckon_29 : decode b_Mo_reckon 29 = .ok (.sipush 136, 3) := by decide +kernel
theorem d_Mo_reckon_32 : decode b_Mo_reckon 32 = .ok (.if_icmp .ge 16, 3) := by decide +kernel
theorem d_Mo_reckon_35 : decode b_Mo_reckon 35 = .ok (.aload_n 0, 1) := by decide +kernel
theorem d_Mo_reckon_36 : decode b_Mo_reckon 36 = .ok (.getfield 45, 3) := by decide +kernel
theorem d_Mo_reckon_39 : decode b_Mo_reckon 39 = .ok (.iload_n 2, 1) := by decide +kernel
theorem d_Mo_reckon_40 : decode b_Mo_reckon 40 = .ok (.lconst 0, 1) := by decide +kernel
theorem d_Mo_reckon_41 : decode b_Mo_reckon 41 = .ok (.lastore, 1) := by decide +kernel
theorem d_Mo_reckon_42 : decode b_Mo_reckon 42 = .ok (.iinc 2 1, 3) := by decide +kernel
theorem d_Mo_reckon_45 : decode b_Mo_reckon 45 = .ok (.goto (-17), 3) := by decide +kernel
theorem d_Mo_reckon_48 : decode b_Mo_reckon 48 = .ok (.iconst 0, 1) := by decide +kernel
theorem d_Mo_reckon_49 : decode b_Mo_reckon 49 = .ok (.istore_n 2, 1) := by decide +kernel
theorem d_Mo_reckon_50 : decode b_Mo_reckon 50 = .ok (.iload_n 2, 1) := by decide +kernel
theorem d_Mo_reckon_51 : decode b_Mo_reckon 51 = .ok (.bipush 17, 2) := by decide +kernel
theorem d_Mo_reckon_53 : decode b_Mo_reckon 53 = .ok (.if_icmp .ge 150, 3) := by decide +kernel
theorem d_Mo_reckon_56 : decode b_Mo_reckon 56 = .ok (.iconst 1, 1) := by decide +kernel
theorem d_Mo_reckon_57 : decode b_Mo_reckon 57 = .ok (.istore_n 3, 1) := by decide +kernel
theorem d_Mo_reckon_58 : decode b_Mo_reckon 58 = .ok (.iconst 0, 1) := by decide +kernel
theorem d_Mo_reckon_59 : decode b_Mo_reckon 59 = .ok (.istore 4, 2) := by decide +kernel
theorem d_Mo_reckon_61 : decode b_Mo_reckon 61 = .ok (.iload 4, 2) := by decide +kernel
theorem d_Mo_reckon_63 : decode b_Mo_reckon 63 = .ok (.bipush 10, 2) := by decide +kernel
theorem d_Mo_reckon_65 : decode b_Mo_reckon 65 = .ok (.if_icmp .ge 132, 3) := by decide +kernel
theorem d_Mo_reckon_68 : decode b_Mo_reckon 68 = .ok (.iload_n 3, 1) := by decide +kernel
theorem d_Mo_reckon_69 : decode b_Mo_reckon 69 = .ok (.ifCond .eq 128, 3) := by decide +kernel
theorem d_Mo_reckon_72 : decode b_Mo_reckon 72 = .ok (.iconst 0, 1) := by decide +kernel
theorem d_Mo_reckon_73 : decode b_Mo_reckon 73 = .ok (.istore_n 3, 1) := by decide +kernel
theorem d_Mo_reckon_74 : decode b_Mo_reckon 74 = .ok (.iconst 0, 1) := by decide +kernel
theorem d_Mo_reckon_75 : decode b_Mo_reckon 75 = .ok (.istore 5, 2) := by decide +kernel
theorem d_Mo_reckon_77 : decode b_Mo_reckon 77 = .ok (.iload 5, 2) := by decide +kernel
theorem d_Mo_reckon_79 : decode b_Mo_reckon 79 = .ok (.bipush 8, 2) := by decide +kernel
theorem d_Mo_reckon_81 : decode b_Mo_reckon 81 = .ok (.if_icmp .ge 110, 3) := by decide +kernel
theorem d_Mo_reckon_84 : decode b_Mo_reckon 84 = .ok (.lconst 0, 1) := by decide +kernel
theorem d_Mo_reckon_85 : decode b_Mo_reckon 85 = .ok (.lstore 6, 2) := by decide +kernel
theorem d_Mo_reckon_87 : decode b_Mo_reckon 87 = .ok (.iconst 0, 1) := by decide +kernel
theorem d_Mo_reckon_88 : decode b_Mo_reckon 88 = .ok (.istore 8, 2) := by decide +kernel
theorem d_Mo_reckon_90 : decode b_Mo_reckon 90 = .ok (.iload 8, 2) := by decide +kernel
theorem d_Mo_reckon_92 : decode b_Mo_reckon 92 = .ok (.aload_n 0, 1) := by decide +kernel
theorem d_Mo_reckon_93 : decode b_Mo_reckon 93 = .ok (.getfield 76, 3) := by decide +kernel
theorem d_Mo_reckon_96 : decode b_Mo_reckon 96 = .ok (.if_icmp .ge 47, 3) := by decide +kernel
theorem d_Mo_reckon_99 : decode b_Mo_reckon 99 = .ok (.aload_n 0, 1) := by decide +kernel
theorem d_Mo_reckon_100 : decode b_Mo_reckon 100 = .ok (.getfield 7, 3) := by decide +kernel
theorem d_Mo_reckon_103 : decode b_Mo_reckon 103 = .ok (.iload 8, 2) := by decide +kernel
theorem d_Mo_reckon_105 : decode b_Mo_reckon 105 = .ok (.iaload, 1) := by decide +kernel
theorem d_Mo_reckon_106 : decode b_Mo_reckon 106 = .ok (.iload 5, 2) := by decide +kernel
theorem d_Mo_reckon_108 : decode b_Mo_reckon 108 = .ok (.if_icmp .ne 29, 3) := by decide +kernel
theorem d_Mo_reckon_111 : decode b_Mo_reckon 111 = .ok (.iload 8, 2) := by decide +kernel
theorem d_Mo_reckon_113 : decode b_Mo_reckon 113 = .ok (.iload_n 1, 1) := by decide +kernel
theorem d_Mo_reckon_114 : decode b_Mo_reckon 114 = .ok (.if_icmp .eq 23, 3) := by decide +kernel
theorem d_Mo_reckon_117 : decode b_Mo_reckon 117 = .ok (.aload_n 0, 1) := by decide +kernel
theorem d_Mo_reckon_118 : decode b_Mo_reckon 118 = .ok (.iload 8, 2) := by decide +kernel
theorem d_Mo_reckon_120 : decode b_Mo_reckon 120 = .ok (.iload_n 2, 1) := by decide +kernel
theorem d_Mo_reckon_121 : decode b_Mo_reckon 121 = .ok (.invokevirtual 134, 3) := by decide +kernel
theorem d_Mo_reckon_124 : decode b_Mo_reckon 124 = .ok (.lload 6, 2) := by decide +kernel
theorem d_Mo_reckon_126 : decode b_Mo_reckon 126 = .ok (.aload_n 0, 1) := by decide +kernel
theorem d_Mo_reckon_127 : decode b_Mo_reckon 127 = .ok (.getfield 52, 3) := by decide +kernel
theorem d_Mo_reckon_130 : decode b_Mo_reckon 130 = .ok (.iload_n 2, 1) := by decide +kernel
theorem d_Mo_reckon_131 : decode b_Mo_reckon 131 = .ok (.laload, 1) := by decide +kernel
theorem d_Mo_reckon_132 : decode b_Mo_reckon 132 = .ok (.invokestatic 131, 3) := by decide +kernel
theorem d_Mo_reckon_135 : decode b_Mo_reckon 135 = .ok (.lstore 6, 2) := by decide +kernel
theorem d_Mo_reckon_137 : decode b_Mo_reckon 137 = .ok (.iinc 8 1, 3) := by decide +kernel
theorem d_Mo_reckon_140 : decode b_Mo_reckon 140 = .ok (.goto (-50), 3) := by decide +kernel
theorem d_Mo_reckon_143 : decode b_Mo_reckon 143 = .ok (.iload_n 3, 1) := by decide +kernel
theorem d_Mo_reckon_144 : decode b_Mo_reckon 144 = .ok (.ifCond .ne 21, 3) := by decide +kernel
theorem d_Mo_reckon_147 : decode b_Mo_reckon 147 = .ok (.lload 6, 2) := by decide +kernel
theorem d_Mo_reckon_149 : decode b_Mo_reckon 149 = .ok (.aload_n 0, 1) := by decide +kernel
theorem d_Mo_reckon_150 : decode b_Mo_reckon 150 = .ok (.getfield 45, 3) := by decide +kernel
theorem d_Mo_reckon_153 : decode b_Mo_reckon 153 = .ok (.bipush 17, 2) := by decide +kernel
theorem d_Mo_reckon_155 : decode b_Mo_reckon 155 = .ok (.iload 5, 2) := by decide +kernel
theorem d_Mo_reckon_157 : decode b_Mo_reckon 157 = .ok (.imul, 1) := by decide +kernel
theorem d_Mo_reckon_158 : decode b_Mo_reckon 158 = .ok (.iload_n 2, 1) := by decide +kernel
theorem d_Mo_reckon_159 : decode b_Mo_reckon 159 = .ok (.iadd, 1) := by decide +kernel
theorem d_Mo_reckon_160 : decode b_Mo_reckon 160 = .ok (.laload, 1) := by decide +kernel
theorem d_Mo_reckon_161 : decode b_Mo_reckon 161 = .ok (.lcmp, 1) := by decide +kernel
theorem d_Mo_reckon_162 : decode b_Mo_reckon 162 = .ok (.ifCond .eq 7, 3) := by decide +kernel
theorem d_Mo_reckon_165 : decode b_Mo_reckon 165 = .ok (.iconst 1, 1) := by decide +kernel
theorem d_Mo_reckon_166 : decode b_Mo_reckon 166 = .ok (.goto 4, 3) := by decide +kernel
theorem d_Mo_reckon_169 : decode b_Mo_reckon 169 = .ok (.iconst 0, 1) := by decide +kernel
theorem d_Mo_reckon_170 : decode b_Mo_reckon 170 = .ok (.istore_n 3, 1) := by decide +kernel
theorem d_Mo_reckon_171 : decode b_Mo_reckon 171 = .ok (.aload_n 0, 1) := by decide +kernel
theorem d_Mo_reckon_172 : decode b_Mo_reckon 172 = .ok (.getfield 45, 3) := by decide +kernel
theorem d_Mo_reckon_175 : decode b_Mo_reckon 175 = .ok (.bipush 17, 2) := by decide +kernel
theorem d_Mo_reckon_177 : decode b_Mo_reckon 177 = .ok (.iload 5, 2) := by decide +kernel
theorem d_Mo_reckon_179 : decode b_Mo_reckon 179 = .ok (.imul, 1) := by decide +kernel
theorem d_Mo_reckon_180 : decode b_Mo_reckon 180 = .ok (.iload_n 2, 1) := by decide +kernel
theorem d_Mo_reckon_181 : decode b_Mo_reckon 181 = .ok (.iadd, 1) := by decide +kernel
theorem d_Mo_reckon_182 : decode b_Mo_reckon 182 = .ok (.lload 6, 2) := by decide +kernel
theorem d_Mo_reckon_184 : decode b_Mo_reckon 184 = .ok (.lastore, 1) := by decide +kernel
theorem d_Mo_reckon_185 : decode b_Mo_reckon 185 = .ok (.iinc 5 1, 3) := by decide +kernel
theorem d_Mo_reckon_188 : decode b_Mo_reckon 188 = .ok (.goto (-111), 3) := by decide +kernel
theorem d_Mo_reckon_191 : decode b_Mo_reckon 191 = .ok (.iinc 4 1, 3) := by decide +kernel
theorem d_Mo_reckon_194 : decode b_Mo_reckon 194 = .ok (.goto (-133), 3) := by decide +kernel
theorem d_Mo_reckon_197 : decode b_Mo_reckon 197 = .ok (.iinc 2 1, 3) := by decide +kernel
theorem d_Mo_reckon_200 : decode b_Mo_reckon 200 = .ok (.goto (-150), 3) := by decide +kernel
theorem d_Mo_reckon_203 : decode b_Mo_reckon 203 = .ok (.return_, 1) := by decide +kernel
theorem d_Mo_row_0 : decode b_Mo_row 0 = .ok (.iload_n 1, 1) := by decide +kernel
theorem d_Mo_row_1 : decode b_Mo_row 1 = .ok (.ifCond .lt 11, 3) := by decide +kernel
theorem d_Mo_row_4 : decode b_Mo_row 4 = .ok (.iload_n 1, 1) := by decide +kernel
theorem d_Mo_row_5 : decode b_Mo_row 5 = .ok (.aload_n 0, 1) := by decide +kernel
theorem d_Mo_row_6 : decode b_Mo_row 6 = .ok (.getfield 167, 3) := by decide +kernel
theorem d_Mo_row_9 : decode b_Mo_row 9 = .ok (.if_icmp .lt 7, 3) := by decide +kernel
theorem d_Mo_row_12 : decode b_Mo_row 12 = .ok (.iconst (-1), 1) := by decide +kernel
theorem d_Mo_row_13 : decode b_Mo_row 13 = .ok (.goto 9, 3) := by decide +kernel
theorem d_Mo_row_16 : decode b_Mo_row 16 = .ok (.aload_n 0, 1) := by decide +kernel
theorem d_Mo_row_17 : decode b_Mo_row 17 = .ok (.getfield 25, 3) := by decide +kernel
theorem d_Mo_row_20 : decode b_Mo_row 20 = .ok (.iload_n 1, 1) := by decide +kernel
theorem d_Mo_row_21 : decode b_Mo_row 21 = .ok (.iaload, 1) := by decide +kernel
theorem d_Mo_row_22 : decode b_Mo_row 22 = .ok (.ireturn, 1) := by decide +kernel
theorem d_Mo_rule_0 : decode b_Mo_rule 0 = .ok (.aload_n 0, 1) := by decide +kernel
theorem d_Mo_rule_1 : decode b_Mo_rule 1 = .ok (.getfield 79, 3) := by decide +kernel
theorem d_Mo_rule_4 : decode b_Mo_rule 4 = .ok (.istore_n 2, 1) := by decide +kernel
theorem d_Mo_rule_5 : decode b_Mo_rule 5 = .ok (.aload_n 0, 1) := by decide +kernel
theorem d_Mo_rule_6 : decode b_Mo_rule 6 = .ok (.iconst 0, 1) := by decide +kernel
theorem d_Mo_rule_7 : decode b_Mo_rule 7 = .ok (.putfield 79, 3) := by decide +kernel
theorem d_Mo_rule_10 : decode b_Mo_rule 10 = .ok (.aload_n 0, 1) := by decide +kernel
theorem d_Mo_rule_11 : decode b_Mo_rule 11 = .ok (.getfield 76, 3) := by decide +kernel
theorem d_Mo_rule_14 : decode b_Mo_rule 14 = .ok (.bipush 24, 2) := by decide +kernel
theorem d_Mo_rule_16 : decode b_Mo_rule 16 = .ok (.if_icmp .eq 10, 3) := by decide +kernel
theorem d_Mo_rule_19 : decode b_Mo_rule 19 = .ok (.iload_n 1, 1) := by decide +kernel
theorem d_Mo_rule_20 : decode b_Mo_rule 20 = .ok (.invokestatic 82, 3) := by decide +kernel
theorem d_Mo_rule_23 : decode b_Mo_rule 23 = .ok (.ifCond .ne 5, 3) := by decide +kernel
theorem d_Mo_rule_26 : decode b_Mo_rule 26 = .ok (.iconst (-1), 1) := by decide +kernel
theorem d_Mo_rule_27 : decode b_Mo_rule 27 = .ok (.ireturn, 1) := by decide +kernel
theorem d_Mo_rule_28 : decode b_Mo_rule 28 = .ok (.aload_n 0, 1) := by decide +kernel
theorem d_Mo_rule_29 : decode b_Mo_rule 29 = .ok (.getfield 7, 3) := by decide +kernel
theorem d_Mo_rule_32 : decode b_Mo_rule 32 = .ok (.aload_n 0, 1) := by decide +kernel
theorem d_Mo_rule_33 : decode b_Mo_rule 33 = .ok (.getfield 76, 3) := by decide +kernel
theorem d_Mo_rule_36 : decode b_Mo_rule 36 = .ok (.iload_n 1, 1) := by decide +kernel
theorem d_Mo_rule_37 : decode b_Mo_rule 37 = .ok (.iastore, 1) := by decide +kernel
theorem d_Mo_rule_38 : decode b_Mo_rule 38 = .ok (.aload_n 0, 1) := by decide +kernel
theorem d_Mo_rule_39 : decode b_Mo_rule 39 = .ok (.getfield 13, 3) := by decide +kernel
theorem d_Mo_rule_42 : decode b_Mo_rule 42 = .ok (.aload_n 0, 1) := by decide +kernel
theorem d_Mo_rule_43 : decode b_Mo_rule 43 = .ok (.getfield 76, 3) := by decide +kernel
theorem d_Mo_rule_46 : decode b_Mo_rule 46 = .ok (.iload_n 2, 1) := by decide +kernel
theorem d_Mo_rule_47 : decode b_Mo_rule 47 = .ok (.iastore, 1) := by decide +kernel
theorem d_Mo_rule_48 : decode b_Mo_rule 48 = .ok (.iconst 0, 1) := by decide +kernel
theorem d_Mo_rule_49 : decode b_Mo_rule 49 = .ok (.istore_n 3, 1) := by decide +kernel
theorem d_Mo_rule_50 : decode b_Mo_rule 50 = .ok (.iload_n 3, 1) := by decide +kernel
theorem d_Mo_rule_51 : decode b_Mo_rule 51 = .ok (.iload_n 2, 1) := by decide +kernel
theorem d_Mo_rule_52 : decode b_Mo_rule 52 = .ok (.if_icmp .ge 29, 3) := by decide +kernel
theorem d_Mo_rule_55 : decode b_Mo_rule 55 = .ok (.aload_n 0, 1) := by decide +kernel
theorem d_Mo_rule_56 : decode b_Mo_rule 56 = .ok (.getfield 16, 3) := by decide +kernel
theorem d_Mo_rule_59 : decode b_Mo_rule 59 = .ok (.bipush 6, 2) := by decide +kernel
theorem d_Mo_rule_61 : decode b_Mo_rule 61 = .ok (.aload_n 0, 1) := by decide +kernel
theorem d_Mo_rule_62 : decode b_Mo_rule 62 = .ok (.getfield 76, 3) := by decide +kernel
theorem d_Mo_rule_65 : decode b_Mo_rule 65 = .ok (.imul, 1) := by decide +kernel
theorem d_Mo_rule_66 : decode b_Mo_rule 66 = .ok (.iload_n 3, 1) := by decide +kernel
theorem d_Mo_rule_67 : decode b_Mo_rule 67 = .ok (.iadd, 1) := by decide +kernel
theorem d_Mo_rule_68 : decode b_Mo_rule 68 = .ok (.aload_n 0, 1) := by decide +kernel
theorem d_Mo_rule_69 : decode b_Mo_rule 69 = .ok (.getfield 19, 3) := by decide +kernel
theorem d_Mo_rule_72 : decode b_Mo_rule 72 = .ok (.iload_n 3, 1) := by decide +kernel
theorem d_Mo_rule_73 : decode b_Mo_rule 73 = .ok (.iaload, 1) := by decide +kernel
theorem d_Mo_rule_74 : decode b_Mo_rule 74 = .ok (.iastore, 1) := by decide +kernel
theorem d_Mo_rule_75 : decode b_Mo_rule 75 = .ok (.iinc 3 1, 3) := by decide +kernel
theorem d_Mo_rule_78 : decode b_Mo_rule 78 = .ok (.goto (-28), 3) := by decide +kernel
theorem d_Mo_rule_81 : decode b_Mo_rule 81 = .ok (.aload_n 0, 1) := by decide +kernel
theorem d_Mo_rule_82 : decode b_Mo_rule 82 = .ok (.dup, 1) := by decide +kernel
theorem d_Mo_rule_83 : decode b_Mo_rule 83 = .ok (.getfield 76, 3) := by decide +kernel
theorem d_Mo_rule_86 : decode b_Mo_rule 86 = .ok (.iconst 1, 1) := by decide +kernel
theorem d_Mo_rule_87 : decode b_Mo_rule 87 = .ok (.iadd, 1) := by decide +kernel
theorem d_Mo_rule_88 : decode b_Mo_rule 88 = .ok (.putfield 76, 3) := by decide +kernel
theorem d_Mo_rule_91 : decode b_Mo_rule 91 = .ok (.aload_n 0, 1) := by decide +kernel
theorem d_Mo_rule_92 : decode b_Mo_rule 92 = .ok (.iconst 0, 1) := by decide +kernel
theorem d_Mo_rule_93 : decode b_Mo_rule 93 = .ok (.putfield 86, 3) := by decide +kernel
theorem d_Mo_rule_96 : decode b_Mo_rule 96 = .ok (.aload_n 0, 1) := by decide +kernel
theorem d_Mo_rule_97 : decode b_Mo_rule 97 = .ok (.getfield 76, 3) := by decide +kernel
theorem d_Mo_rule_100 : decode b_Mo_rule 100 = .ok (.iconst 1, 1) := by decide +kernel
theorem d_Mo_rule_101 : decode b_Mo_rule 101 = .ok (.isub, 1) := by decide +kernel
theorem d_Mo_rule_102 : decode b_Mo_rule 102 = .ok (.ireturn, 1) := by decide +kernel
theorem d_Mo_shorten_0 : decode b_Mo_shorten 0 = .ok (.iconst 0, 1) := by decide +kernel
theorem d_Mo_shorten_1 : decode b_Mo_shorten 1 = .ok (.istore_n 1, 1) := by decide +kernel
theorem d_Mo_shorten_2 : decode b_Mo_shorten 2 = .ok (.iload_n 1, 1) := by decide +kernel
theorem d_Mo_shorten_3 : decode b_Mo_shorten 3 = .ok (.bipush 8, 2) := by decide +kernel
theorem d_Mo_shorten_5 : decode b_Mo_shorten 5 = .ok (.if_icmp .ge 18, 3) := by decide +kernel
theorem d_Mo_shorten_8 : decode b_Mo_shorten 8 = .ok (.aload_n 0, 1) := by decide +kernel
theorem d_Mo_shorten_9 : decode b_Mo_shorten 9 = .ok (.getfield 31, 3) := by decide +kernel
theorem d_Mo_shorten_12 : decode b_Mo_shorten 12 = .ok (.iload_n 1, 1) := by decide +kernel
theorem d_Mo_shorten_13 : decode b_Mo_shorten 13 = .ok (.ldc2_w 104, 3) := by decide +kernel
theorem d_Mo_shorten_16 : decode b_Mo_shorten 16 = .ok (.lastore, 1) := by decide +kernel
theorem d_Mo_shorten_17 : decode b_Mo_shorten 17 = .ok (.iinc 1 1, 3) := by decide +kernel
theorem d_Mo_shorten_20 : decode b_Mo_shorten 20 = .ok (.goto (-18), 3) := by decide +kernel
theorem d_Mo_shorten_23 : decode b_Mo_shorten 23 = .ok (.iconst 0, 1) := by decide +kernel
theorem d_Mo_shorten_24 : decode b_Mo_shorten 24 = .ok (.istore_n 1, 1) := by decide +kernel
theorem d_Mo_shorten_25 : decode b_Mo_shorten 25 = .ok (.iload_n 1, 1) := by decide +kernel
theorem d_Mo_shorten_26 : decode b_Mo_shorten 26 = .ok (.bipush 8, 2) := by decide +kernel
theorem d_Mo_shorten_28 : decode b_Mo_shorten 28 = .ok (.if_icmp .ge 74, 3) := by decide +kernel
theorem d_Mo_shorten_31 : decode b_Mo_shorten 31 = .ok (.iconst 0, 1) := by decide +kernel
theorem d_Mo_shorten_32 : decode b_Mo_shorten 32 = .ok (.istore_n 2, 1) := by decide +kernel
theorem d_Mo_shorten_33 : decode b_Mo_shorten 33 = .ok (.iload_n 2, 1) := by decide +kernel
theorem d_Mo_shorten_34 : decode b_Mo_shorten 34 = .ok (.aload_n 0, 1) := by decide +kernel
theorem d_Mo_shorten_35 : decode b_Mo_shorten 35 = .ok (.getfield 76, 3) := by decide +kernel
theorem d_Mo_shorten_38 : decode b_Mo_shorten 38 = .ok (.if_icmp .ge 58, 3) := by decide +kernel
theorem d_Mo_shorten_41 : decode b_Mo_shorten 41 = .ok (.aload_n 0, 1) := by decide +kernel
theorem d_Mo_shorten_42 : decode b_Mo_shorten 42 = .ok (.iload_n 2, 1) := by decide +kernel
theorem d_Mo_shorten_43 : decode b_Mo_shorten 43 = .ok (.iconst (-1), 1) := by decide +kernel
theorem d_Mo_shorten_44 : decode b_Mo_shorten 44 = .ok (.invokevirtual 106, 3) := by decide +kernel
theorem d_Mo_shorten_47 : decode b_Mo_shorten 47 = .ok (.lstore_n 3, 1) := by decide +kernel
theorem d_Mo_shorten_48 : decode b_Mo_shorten 48 = .ok (.aload_n 0, 1) := by decide +kernel
theorem d_Mo_shorten_49 : decode b_Mo_shorten 49 = .ok (.getfield 31, 3) := by decide +kernel
theorem d_Mo_shorten_52 : decode b_Mo_shorten 52 = .ok (.aload_n 0, 1) := by decide +kernel
theorem d_Mo_shorten_53 : decode b_Mo_shorten 53 = .ok (.getfield 7, 3) := by decide +kernel
theorem d_Mo_shorten_56 : decode b_Mo_shorten 56 = .ok (.iload_n 2, 1) := by decide +kernel
theorem d_Mo_shorten_57 : decode b_Mo_shorten 57 = .ok (.iaload, 1) := by decide +kernel
theorem d_Mo_shorten_58 : decode b_Mo_shorten 58 = .ok (.lload_n 3, 1) := by decide +kernel
theorem d_Mo_shorten_59 : decode b_Mo_shorten 59 = .ok (.aload_n 0, 1) := by decide +kernel
theorem d_Mo_shorten_60 : decode b_Mo_shorten 60 = .ok (.getfield 31, 3) := by decide +kernel
theorem d_Mo_shorten_63 : decode b_Mo_shorten 63 = .ok (.aload_n 0, 1) := by decide +kernel
theorem d_Mo_shorten_64 : decode b_Mo_shorten 64 = .ok (.getfield 7, 3) := by decide +kernel
theorem d_Mo_shorten_67 : decode b_Mo_shorten 67 = .ok (.iload_n 2, 1) := by decide +kernel
theorem d_Mo_shorten_68 : decode b_Mo_shorten 68 = .ok (.iaload, 1) := by decide +kernel
theorem d_Mo_shorten_69 : decode b_Mo_shorten 69 = .ok (.laload, 1) := by decide +kernel

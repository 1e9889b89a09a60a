theorem d_Mo_shorten_70 : decode b_Mo_shorten 70 = .ok (.lcmp, 1) := by decide +kernel
theorem d_Mo_shorten_71 : decode b_Mo_shorten 71 = .ok (.ifCond .ge 7, 3) := by decide +kernel
theorem d_Mo_shorten_74 : decode b_Mo_shorten 74 = .ok (.lload_n 3, 1) := by decide +kernel
theorem d_Mo_shorten_75 : decode b_Mo_shorten 75 = .ok (.goto 14, 3) := by decide +kernel
theorem d_Mo_shorten_78 : decode b_Mo_shorten 78 = .ok (.aload_n 0, 1) := by decide +kernel
theorem d_Mo_shorten_79 : decode b_Mo_shorten 79 = .ok (.getfield 31, 3) := by decide +kernel
theorem d_Mo_shorten_82 : decode b_Mo_shorten 82 = .ok (.aload_n 0, 1) := by decide +kernel
theorem d_Mo_shorten_83 : decode b_Mo_shorten 83 = .ok (.getfield 7, 3) := by decide +kernel
theorem d_Mo_shorten_86 : decode b_Mo_shorten 86 = .ok (.iload_n 2, 1) := by decide +kernel
theorem d_Mo_shorten_87 : decode b_Mo_shorten 87 = .ok (.iaload, 1) := by decide +kernel
theorem d_Mo_shorten_88 : decode b_Mo_shorten 88 = .ok (.laload, 1) := by decide +kernel
theorem d_Mo_shorten_89 : decode b_Mo_shorten 89 = .ok (.lastore, 1) := by decide +kernel
theorem d_Mo_shorten_90 : decode b_Mo_shorten 90 = .ok (.iinc 2 1, 3) := by decide +kernel
theorem d_Mo_shorten_93 : decode b_Mo_shorten 93 = .ok (.goto (-60), 3) := by decide +kernel
theorem d_Mo_shorten_96 : decode b_Mo_shorten 96 = .ok (.iinc 1 1, 3) := by decide +kernel
theorem d_Mo_shorten_99 : decode b_Mo_shorten 99 = .ok (.goto (-74), 3) := by decide +kernel
theorem d_Mo_shorten_102 : decode b_Mo_shorten 102 = .ok (.return_, 1) := by decide +kernel
theorem d_Mo_shortest_0 : decode b_Mo_shortest 0 = .ok (.iload_n 1, 1) := by decide +kernel
theorem d_Mo_shortest_1 : decode b_Mo_shortest 1 = .ok (.invokestatic 82, 3) := by decide +kernel
theorem d_Mo_shortest_4 : decode b_Mo_shortest 4 = .ok (.ifCond .ne 5, 3) := by decide +kernel
theorem d_Mo_shortest_7 : decode b_Mo_shortest 7 = .ok (.iconst (-1), 1) := by decide +kernel
theorem d_Mo_shortest_8 : decode b_Mo_shortest 8 = .ok (.ireturn, 1) := by decide +kernel
theorem d_Mo_shortest_9 : decode b_Mo_shortest 9 = .ok (.aload_n 0, 1) := by decide +kernel
theorem d_Mo_shortest_10 : decode b_Mo_shortest 10 = .ok (.invokevirtual 110, 3) := by decide +kernel
theorem d_Mo_shortest_13 : decode b_Mo_shortest 13 = .ok (.aload_n 0, 1) := by decide +kernel
theorem d_Mo_shortest_14 : decode b_Mo_shortest 14 = .ok (.getfield 31, 3) := by decide +kernel
theorem d_Mo_shortest_17 : decode b_Mo_shortest 17 = .ok (.iload_n 1, 1) := by decide +kernel
theorem d_Mo_shortest_18 : decode b_Mo_shortest 18 = .ok (.laload, 1) := by decide +kernel
theorem d_Mo_shortest_19 : decode b_Mo_shortest 19 = .ok (.ldc2_w 104, 3) := by decide +kernel
theorem d_Mo_shortest_22 : decode b_Mo_shortest 22 = .ok (.lcmp, 1) := by decide +kernel
theorem d_Mo_shortest_23 : decode b_Mo_shortest 23 = .ok (.ifCond .ge 13, 3) := by decide +kernel
theorem d_Mo_shortest_26 : decode b_Mo_shortest 26 = .ok (.aload_n 0, 1) := by decide +kernel
theorem d_Mo_shortest_27 : decode b_Mo_shortest 27 = .ok (.getfield 31, 3) := by decide +kernel
theorem d_Mo_shortest_30 : decode b_Mo_shortest 30 = .ok (.iload_n 1, 1) := by decide +kernel
theorem d_Mo_shortest_31 : decode b_Mo_shortest 31 = .ok (.laload, 1) := by decide +kernel
theorem d_Mo_shortest_32 : decode b_Mo_shortest 32 = .ok (.l2i, 1) := by decide +kernel
theorem d_Mo_shortest_33 : decode b_Mo_shortest 33 = .ok (.goto 4, 3) := by decide +kernel
theorem d_Mo_shortest_36 : decode b_Mo_shortest 36 = .ok (.iconst (-1), 1) := by decide +kernel
theorem d_Mo_shortest_37 : decode b_Mo_shortest 37 = .ok (.ireturn, 1) := by decide +kernel
theorem d_Mo_shortestWith_0 : decode b_Mo_shortestWith 0 = .ok (.aload_n 0, 1) := by decide +kernel
theorem d_Mo_shortestWith_1 : decode b_Mo_shortestWith 1 = .ok (.iload_n 1, 1) := by decide +kernel
theorem d_Mo_shortestWith_2 : decode b_Mo_shortestWith 2 = .ok (.invokevirtual 90, 3) := by decide +kernel
theorem d_Mo_shortestWith_5 : decode b_Mo_shortestWith 5 = .ok (.ifCond .ne 5, 3) := by decide +kernel
theorem d_Mo_shortestWith_8 : decode b_Mo_shortestWith 8 = .ok (.iconst (-1), 1) := by decide +kernel
theorem d_Mo_shortestWith_9 : decode b_Mo_shortestWith 9 = .ok (.ireturn, 1) := by decide +kernel
theorem d_Mo_shortestWith_10 : decode b_Mo_shortestWith 10 = .ok (.aload_n 0, 1) := by decide +kernel
theorem d_Mo_shortestWith_11 : decode b_Mo_shortestWith 11 = .ok (.invokevirtual 110, 3) := by decide +kernel
theorem d_Mo_shortestWith_14 : decode b_Mo_shortestWith 14 = .ok (.iconst 0, 1) := by decide +kernel
theorem d_Mo_shortestWith_15 : decode b_Mo_shortestWith 15 = .ok (.istore_n 2, 1) := by decide +kernel
theorem d_Mo_shortestWith_16 : decode b_Mo_shortestWith 16 = .ok (.iload_n 2, 1) := by decide +kernel
theorem d_Mo_shortestWith_17 : decode b_Mo_shortestWith 17 = .ok (.bipush 8, 2) := by decide +kernel
theorem d_Mo_shortestWith_19 : decode b_Mo_shortestWith 19 = .ok (.if_icmp .ge 18, 3) := by decide +kernel
theorem d_Mo_shortestWith_22 : decode b_Mo_shortestWith 22 = .ok (.aload_n 0, 1) := by decide +kernel
theorem d_Mo_shortestWith_23 : decode b_Mo_shortestWith 23 = .ok (.getfield 35, 3) := by decide +kernel
theorem d_Mo_shortestWith_26 : decode b_Mo_shortestWith 26 = .ok (.iload_n 2, 1) := by decide +kernel
theorem d_Mo_shortestWith_27 : decode b_Mo_shortestWith 27 = .ok (.ldc2_w 104, 3) := by decide +kernel
theorem d_Mo_shortestWith_30 : decode b_Mo_shortestWith 30 = .ok (.lastore, 1) := by decide +kernel
theorem d_Mo_shortestWith_31 : decode b_Mo_shortestWith 31 = .ok (.iinc 2 1, 3) := by decide +kernel
theorem d_Mo_shortestWith_34 : decode b_Mo_shortestWith 34 = .ok (.goto (-18), 3) := by decide +kernel
theorem d_Mo_shortestWith_37 : decode b_Mo_shortestWith 37 = .ok (.aload_n 0, 1) := by decide +kernel
theorem d_Mo_shortestWith_38 : decode b_Mo_shortestWith 38 = .ok (.getfield 35, 3) := by decide +kernel
theorem d_Mo_shortestWith_41 : decode b_Mo_shortestWith 41 = .ok (.aload_n 0, 1) := by decide +kernel
theorem d_Mo_shortestWith_42 : decode b_Mo_shortestWith 42 = .ok (.getfield 7, 3) := by decide +kernel
theorem d_Mo_shortestWith_45 : decode b_Mo_shortestWith 45 = .ok (.iload_n 1, 1) := by decide +kernel
theorem d_Mo_shortestWith_46 : decode b_Mo_shortestWith 46 = .ok (.iaload, 1) := by decide +kernel
theorem d_Mo_shortestWith_47 : decode b_Mo_shortestWith 47 = .ok (.aload_n 0, 1) := by decide +kernel
theorem d_Mo_shortestWith_48 : decode b_Mo_shortestWith 48 = .ok (.iload_n 1, 1) := by decide +kernel
theorem d_Mo_shortestWith_49 : decode b_Mo_shortestWith 49 = .ok (.iconst (-1), 1) := by decide +kernel
theorem d_Mo_shortestWith_50 : decode b_Mo_shortestWith 50 = .ok (.invokevirtual 106, 3) := by decide +kernel
theorem d_Mo_shortestWith_53 : decode b_Mo_shortestWith 53 = .ok (.lastore, 1) := by decide +kernel
theorem d_Mo_shortestWith_54 : decode b_Mo_shortestWith 54 = .ok (.iconst 0, 1) := by decide +kernel
theorem d_Mo_shortestWith_55 : decode b_Mo_shortestWith 55 = .ok (.istore_n 2, 1) := by decide +kernel
theorem d_Mo_shortestWith_56 : decode b_Mo_shortestWith 56 = .ok (.iload_n 2, 1) := by decide +kernel
theorem d_Mo_shortestWith_57 : decode b_Mo_shortestWith 57 = .ok (.bipush 8, 2) := by decide +kernel
theorem d_Mo_shortestWith_59 : decode b_Mo_shortestWith 59 = .ok (.if_icmp .ge 124, 3) := by decide +kernel
theorem d_Mo_shortestWith_62 : decode b_Mo_shortestWith 62 = .ok (.iconst 0, 1) := by decide +kernel
theorem d_Mo_shortestWith_63 : decode b_Mo_shortestWith 63 = .ok (.istore_n 3, 1) := by decide +kernel
theorem d_Mo_shortestWith_64 : decode b_Mo_shortestWith 64 = .ok (.iload_n 3, 1) := by decide +kernel
theorem d_Mo_shortestWith_65 : decode b_Mo_shortestWith 65 = .ok (.aload_n 0, 1) := by decide +kernel
theorem d_Mo_shortestWith_66 : decode b_Mo_shortestWith 66 = .ok (.getfield 76, 3) := by decide +kernel
theorem d_Mo_shortestWith_69 : decode b_Mo_shortestWith 69 = .ok (.if_icmp .ge 108, 3) := by decide +kernel
theorem d_Mo_shortestWith_72 : decode b_Mo_shortestWith 72 = .ok (.iconst 0, 1) := by decide +kernel
theorem d_Mo_shortestWith_73 : decode b_Mo_shortestWith 73 = .ok (.istore 4, 2) := by decide +kernel
theorem d_Mo_shortestWith_75 : decode b_Mo_shortestWith 75 = .ok (.iload 4, 2) := by decide +kernel
theorem d_Mo_shortestWith_77 : decode b_Mo_shortestWith 77 = .ok (.aload_n 0, 1) := by decide +kernel
theorem d_Mo_shortestWith_78 : decode b_Mo_shortestWith 78 = .ok (.getfield 13, 3) := by decide +kernel
theorem d_Mo_shortestWith_81 : decode b_Mo_shortestWith 81 = .ok (.iload_n 3, 1) := by decide +kernel
theorem d_Mo_shortestWith_82 : decode b_Mo_shortestWith 82 = .ok (.iaload, 1) := by decide +kernel
theorem d_Mo_shortestWith_83 : decode b_Mo_shortestWith 83 = .ok (.if_icmp .ge 88, 3) := by decide +kernel
theorem d_Mo_shortestWith_86 : decode b_Mo_shortestWith 86 = .ok (.aload_n 0, 1) := by decide +kernel
theorem d_Mo_shortestWith_87 : decode b_Mo_shortestWith 87 = .ok (.iload_n 3, 1) := by decide +kernel
theorem d_Mo_shortestWith_88 : decode b_Mo_shortestWith 88 = .ok (.iload 4, 2) := by decide +kernel
theorem d_Mo_shortestWith_90 : decode b_Mo_shortestWith 90 = .ok (.invokevirtual 96, 3) := by decide +kernel
theorem d_Mo_shortestWith_93 : decode b_Mo_shortestWith 93 = .ok (.invokestatic 82, 3) := by decide +kernel
theorem d_Mo_shortestWith_96 : decode b_Mo_shortestWith 96 = .ok (.ifCond .eq 69, 3) := by decide +kernel
theorem d_Mo_shortestWith_99 : decode b_Mo_shortestWith 99 = .ok (.aload_n 0, 1) := by decide +kernel
theorem d_Mo_shortestWith_100 : decode b_Mo_shortestWith 100 = .ok (.iload_n 3, 1) := by decide +kernel
theorem d_Mo_shortestWith_101 : decode b_Mo_shortestWith 101 = .ok (.iload 4, 2) := by decide +kernel
theorem d_Mo_shortestWith_103 : decode b_Mo_shortestWith 103 = .ok (.invokevirtual 106, 3) := by decide +kernel
theorem d_Mo_shortestWith_106 : decode b_Mo_shortestWith 106 = .ok (.aload_n 0, 1) := by decide +kernel
theorem d_Mo_shortestWith_107 : decode b_Mo_shortestWith 107 = .ok (.getfield 35, 3) := by decide +kernel
theorem d_Mo_shortestWith_110 : decode b_Mo_shortestWith 110 = .ok (.aload_n 0, 1) := by decide +kernel
theorem d_Mo_shortestWith_111 : decode b_Mo_shortestWith 111 = .ok (.iload_n 3, 1) := by decide +kernel
theorem d_Mo_shortestWith_112 : decode b_Mo_shortestWith 112 = .ok (.iload 4, 2) := by decide +kernel
theorem d_Mo_shortestWith_114 : decode b_Mo_shortestWith 114 = .ok (.invokevirtual 96, 3) := by decide +kernel
theorem d_Mo_shortestWith_117 : decode b_Mo_shortestWith 117 = .ok (.laload, 1) := by decide +kernel
theorem d_Mo_shortestWith_118 : decode b_Mo_shortestWith 118 = .ok (.ladd, 1) := by decide +kernel
theorem d_Mo_shortestWith_119 : decode b_Mo_shortestWith 119 = .ok (.lstore 5, 2) := by decide +kernel
theorem d_Mo_shortestWith_121 : decode b_Mo_shortestWith 121 = .ok (.aload_n 0, 1) := by decide +kernel
theorem d_Mo_shortestWith_122 : decode b_Mo_shortestWith 122 = .ok (.getfield 35, 3) := by decide +kernel
theorem d_Mo_shortestWith_125 : decode b_Mo_shortestWith 125 = .ok (.aload_n 0, 1) := by decide +kernel
theorem d_Mo_shortestWith_126 : decode b_Mo_shortestWith 126 = .ok (.getfield 7, 3) := by decide +kernel
theorem d_Mo_shortestWith_129 : decode b_Mo_shortestWith 129 = .ok (.iload_n 3, 1) := by decide +kernel
theorem d_Mo_shortestWith_130 : decode b_Mo_shortestWith 130 = .ok (.iaload, 1) := by decide +kernel
theorem d_Mo_shortestWith_131 : decode b_Mo_shortestWith 131 = .ok (.lload 5, 2) := by decide +kernel
theorem d_Mo_shortestWith_133 : decode b_Mo_shortestWith 133 = .ok (.aload_n 0, 1) := by decide +kernel
theorem d_Mo_shortestWith_134 : decode b_Mo_shortestWith 134 = .ok (.getfield 35, 3) := by decide +kernel
theorem d_Mo_shortestWith_137 : decode b_Mo_shortestWith 137 = .ok (.aload_n 0, 1) := by decide +kernel
theorem d_Mo_shortestWith_138 : decode b_Mo_shortestWith 138 = .ok (.getfield 7, 3) := by decide +kernel
theorem d_Mo_shortestWith_141 : decode b_Mo_shortestWith 141 = .ok (.iload_n 3, 1) := by decide +kernel
theorem d_Mo_shortestWith_142 : decode b_Mo_shortestWith 142 = .ok (.iaload, 1) := by decide +kernel
theorem d_Mo_shortestWith_143 : decode b_Mo_shortestWith 143 = .ok (.laload, 1) := by decide +kernel
theorem d_Mo_shortestWith_144 : decode b_Mo_shortestWith 144 = .ok (.lcmp, 1) := by decide +kernel
theorem d_Mo_shortestWith_145 : decode b_Mo_shortestWith 145 = .ok (.ifCond .ge 8, 3) := by decide +kernel
theorem d_Mo_shortestWith_148 : decode b_Mo_shortestWith 148 = .ok (.lload 5, 2) := by decide +kernel
theorem d_Mo_shortestWith_150 : decode b_Mo_shortestWith 150 = .ok (.goto 14, 3) := by decide +kernel
theorem d_Mo_shortestWith_153 : decode b_Mo_shortestWith 153 = .ok (.aload_n 0, 1) := by decide +kernel
theorem d_Mo_shortestWith_154 : decode b_Mo_shortestWith 154 = .ok (.getfield 35, 3) := by decide +kernel
theorem d_Mo_shortestWith_157 : decode b_Mo_shortestWith 157 = .ok (.aload_n 0, 1) := by decide +kernel
theorem d_Mo_shortestWith_158 : decode b_Mo_shortestWith 158 = .ok (.getfield 7, 3) := by decide +kernel
theorem d_Mo_shortestWith_161 : decode b_Mo_shortestWith 161 = .ok (.iload_n 3, 1) := by decide +kernel
theorem d_Mo_shortestWith_162 : decode b_Mo_shortestWith 162 = .ok (.iaload, 1) := by decide +kernel
theorem d_Mo_shortestWith_163 : decode b_Mo_shortestWith 163 = .ok (.laload, 1) := by decide +kernel
theorem d_Mo_shortestWith_164 : decode b_Mo_shortestWith 164 = .ok (.lastore, 1) := by decide +kernel
theorem d_Mo_shortestWith_165 : decode b_Mo_shortestWith 165 = .ok (.iinc 4 1, 3) := by decide +kernel
theorem d_Mo_shortestWith_168 : decode b_Mo_shortestWith 168 = .ok (.goto (-93), 3) := by decide +kernel
theorem d_Mo_shortestWith_171 : decode b_Mo_shortestWith 171 = .ok (.iinc 3 1, 3) := by decide +kernel
theorem d_Mo_shortestWith_174 : decode b_Mo_shortestWith 174 = .ok (.goto (-110), 3) := by decide +kernel
theorem d_Mo_shortestWith_177 : decode b_Mo_shortestWith 177 = .ok (.iinc 2 1, 3) := by decide +kernel
theorem d_Mo_shortestWith_180 : decode b_Mo_shortestWith 180 = .ok (.goto (-124), 3) := by decide +kernel
theorem d_Mo_shortestWith_183 : decode b_Mo_shortestWith 183 = .ok (.aload_n 0, 1) := by decide +kernel
theorem d_Mo_shortestWith_184 : decode b_Mo_shortestWith 184 = .ok (.getfield 35, 3) := by decide +kernel
theorem d_Mo_shortestWith_187 : decode b_Mo_shortestWith 187 = .ok (.iconst 0, 1) := by decide +kernel
theorem d_Mo_shortestWith_188 : decode b_Mo_shortestWith 188 = .ok (.laload, 1) := by decide +kernel
theorem d_Mo_shortestWith_189 : decode b_Mo_shortestWith 189 = .ok (.ldc2_w 104, 3) := by decide +kernel
theorem d_Mo_shortestWith_192 : decode b_Mo_shortestWith 192 = .ok (.lcmp, 1) := by decide +kernel
theorem d_Mo_shortestWith_193 : decode b_Mo_shortestWith 193 = .ok (.ifCond .ge 13, 3) := by decide +kernel
theorem d_Mo_shortestWith_196 : decode b_Mo_shortestWith 196 = .ok (.aload_n 0, 1) := by decide +kernel
theorem d_Mo_shortestWith_197 : decode b_Mo_shortestWith 197 = .ok (.getfield 35, 3) := by decide +kernel
theorem d_Mo_shortestWith_200 : decode b_Mo_shortestWith 200 = .ok (.iconst 0, 1) := by decide +kernel
theorem d_Mo_shortestWith_201 : decode b_Mo_shortestWith 201 = .ok (.laload, 1) := by decide +kernel
theorem d_Mo_shortestWith_202 : decode b_Mo_shortestWith 202 = .ok (.l2i, 1) := by decide +kernel
theorem d_Mo_shortestWith_203 : decode b_Mo_shortestWith 203 = .ok (.goto 4, 3) := by decide +kernel
theorem d_Mo_shortestWith_206 : decode b_Mo_shortestWith 206 = .ok (.iconst (-1), 1) := by decide +kernel
theorem d_Mo_shortestWith_207 : decode b_Mo_shortestWith 207 = .ok (.ireturn, 1) := by decide +kernel
theorem d_Mo_split_0 : decode b_Mo_split 0 = .ok (.lload_n 3, 1) := by decide +kernel
theorem d_Mo_split_1 : decode b_Mo_split 1 = .ok (.lstore 5, 2) := by decide +kernel
theorem d_Mo_split_3 : decode b_Mo_split 3 = .ok (.iconst 0, 1) := by decide +kernel
theorem d_Mo_split_4 : decode b_Mo_split 4 = .ok (.istore 7, 2) := by decide +kernel
theorem d_Mo_split_6 : decode b_Mo_split 6 = .ok (.iconst 0, 1) := by decide +kernel
theorem d_Mo_split_7 : decode b_Mo_split 7 = .ok (.istore 8, 2) := by decide +kernel
theorem d_Mo_split_9 : decode b_Mo_split 9 = .ok (.iload 8, 2) := by decide +kernel
theorem d_Mo_split_11 : decode b_Mo_split 11 = .ok (.ifCond .ne 74, 3) := by decide +kernel
theorem d_Mo_split_14 : decode b_Mo_split 14 = .ok (.iload 7, 2) := by decide +kernel
theorem d_Mo_split_16 : decode b_Mo_split 16 = .ok (.aload_n 0, 1) := by decide +kernel
theorem d_Mo_split_17 : decode b_Mo_split 17 = .ok (.getfield 76, 3) := by decide +kernel
theorem d_Mo_split_20 : decode b_Mo_split 20 = .ok (.if_icmp .ge 65, 3) := by decide +kernel
theorem d_Mo_split_23 : decode b_Mo_split 23 = .ok (.lconst 0, 1) := by decide +kernel
theorem d_Mo_split_24 : decode b_Mo_split 24 = .ok (.lstore 9, 2) := by decide +kernel
theorem d_Mo_split_26 : decode b_Mo_split 26 = .ok (.aload_n 0, 1) := by decide +kernel
theorem d_Mo_split_27 : decode b_Mo_split 27 = .ok (.getfield 7, 3) := by decide +kernel
theorem d_Mo_split_30 : decode b_Mo_split 30 = .ok (.iload 7, 2) := by decide +kernel
theorem d_Mo_split_32 : decode b_Mo_split 32 = .ok (.iaload, 1) := by decide +kernel
theorem d_Mo_split_33 : decode b_Mo_split 33 = .ok (.iload_n 1, 1) := by decide +kernel
theorem d_Mo_split_34 : decode b_Mo_split 34 = .ok (.if_icmp .ne 18, 3) := by decide +kernel
theorem d_Mo_split_37 : decode b_Mo_split 37 = .ok (.aload_n 0, 1) := by decide +kernel
theorem d_Mo_split_38 : decode b_Mo_split 38 = .ok (.iload 7, 2) := by decide +kernel
theorem d_Mo_split_40 : decode b_Mo_split 40 = .ok (.iload_n 2, 1) := by decide +kernel
theorem d_Mo_split_41 : decode b_Mo_split 41 = .ok (.invokevirtual 134, 3) := by decide +kernel
theorem d_Mo_split_44 : decode b_Mo_split 44 = .ok (.aload_n 0, 1) := by decide +kernel
theorem d_Mo_split_45 : decode b_Mo_split 45 = .ok (.getfield 52, 3) := by decide +kernel
theorem d_Mo_split_48 : decode b_Mo_split 48 = .ok (.iload_n 2, 1) := by decide +kernel
theorem d_Mo_split_49 : decode b_Mo_split 49 = .ok (.laload, 1) := by decide +kernel
theorem d_Mo_split_50 : decode b_Mo_split 50 = .ok (.lstore 9, 2) := by decide +kernel
theorem d_Mo_split_52 : decode b_Mo_split 52 = .ok (.lload 5, 2) := by decide +kernel
theorem d_Mo_split_54 : decode b_Mo_split 54 = .ok (.lload 9, 2) := by decide +kernel
theorem d_Mo_split_56 : decode b_Mo_split 56 = .ok (.lcmp, 1) := by decide +kernel
theorem d_Mo_split_57 : decode b_Mo_split 57 = .ok (.ifCond .ge 7, 3) := by decide +kernel
theorem d_Mo_split_60 : decode b_Mo_split 60 = .ok (.iconst 1, 1) := by decide +kernel
theorem d_Mo_split_61 : decode b_Mo_split 61 = .ok (.goto 4, 3) := by decide +kernel
theorem d_Mo_split_64 : decode b_Mo_split 64 = .ok (.iconst 0, 1) := by decide +kernel
theorem d_Mo_split_65 : decode b_Mo_split 65 = .ok (.istore 8, 2) := by decide +kernel
theorem d_Mo_split_67 : decode b_Mo_split 67 = .ok (.iload 8, 2) := by decide +kernel
theorem d_Mo_split_69 : decode b_Mo_split 69 = .ok (.ifCond .ne 13, 3) := by decide +kernel
theorem d_Mo_split_72 : decode b_Mo_split 72 = .ok (.lload 5, 2) := by decide +kernel
theorem d_Mo_split_74 : decode b_Mo_split 74 = .ok (.lload 9, 2) := by decide +kernel
theorem d_Mo_split_76 : decode b_Mo_split 76 = .ok (.lsub, 1) := by decide +kernel
theorem d_Mo_split_77 : decode b_Mo_split 77 = .ok (.lstore 5, 2) := by decide +kernel
theorem d_Mo_split_79 : decode b_Mo_split 79 = .ok (.iinc 7 1, 3) := by decide +kernel
theorem d_Mo_split_82 : decode b_Mo_split 82 = .ok (.goto (-73), 3) := by decide +kernel
theorem d_Mo_split_85 : decode b_Mo_split 85 = .ok (.iload_n 2, 1) := by decide +kernel
theorem d_Mo_split_86 : decode b_Mo_split 86 = .ok (.istore 9, 2) := by decide +kernel
theorem d_Mo_split_88 : decode b_Mo_split 88 = .ok (.iconst 0, 1) := by decide +kernel
theorem d_Mo_split_89 : decode b_Mo_split 89 = .ok (.istore 10, 2) := by decide +kernel
theorem d_Mo_split_91 : decode b_Mo_split 91 = .ok (.iload 10, 2) := by decide +kernel
theorem d_Mo_split_93 : decode b_Mo_split 93 = .ok (.aload_n 0, 1) := by decide +kernel
theorem d_Mo_split_94 : decode b_Mo_split 94 = .ok (.getfield 13, 3) := by decide +kernel
theorem d_Mo_split_97 : decode b_Mo_split 97 = .ok (.iload 7, 2) := by decide +kernel
theorem d_Mo_split_99 : decode b_Mo_split 99 = .ok (.iaload, 1) := by decide +kernel
theorem d_Mo_split_100 : decode b_Mo_split 100 = .ok (.if_icmp .ge 165, 3) := by decide +kernel
theorem d_Mo_split_103 : decode b_Mo_split 103 = .ok (.iconst 0, 1) := by decide +kernel
theorem d_Mo_split_104 : decode b_Mo_split 104 = .ok (.istore 11, 2) := by decide +kernel
theorem d_Mo_split_106 : decode b_Mo_split 106 = .ok (.aload_n 0, 1) := by decide +kernel
theorem d_Mo_split_107 : decode b_Mo_split 107 = .ok (.aload_n 0, 1) := by decide +kernel
theorem d_Mo_split_108 : decode b_Mo_split 108 = .ok (.iload 7, 2) := by decide +kernel
theorem d_Mo_split_110 : decode b_Mo_split 110 = .ok (.iload 10, 2) := by decide +kernel
theorem d_Mo_split_112 : decode b_Mo_split 112 = .ok (.invokevirtual 96, 3) := by decide +kernel
theorem d_Mo_split_115 : decode b_Mo_split 115 = .ok (.iconst 0, 1) := by decide +kernel
theorem d_Mo_split_116 : decode b_Mo_split 116 = .ok (.invokevirtual 124, 3) := by decide +kernel
theorem d_Mo_split_119 : decode b_Mo_split 119 = .ok (.aload_n 0, 1) := by decide +kernel
theorem d_Mo_split_120 : decode b_Mo_split 120 = .ok (.getfield 52, 3) := by decide +kernel
theorem d_Mo_split_123 : decode b_Mo_split 123 = .ok (.bipush 17, 2) := by decide +kernel
theorem d_Mo_split_125 : decode b_Mo_split 125 = .ok (.iload 10, 2) := by decide +kernel
theorem d_Mo_split_127 : decode b_Mo_split 127 = .ok (.imul, 1) := by decide +kernel
theorem d_Mo_split_128 : decode b_Mo_split 128 = .ok (.bipush 17, 2) := by decide +kernel
theorem d_Mo_split_130 : decode b_Mo_split 130 = .ok (.iadd, 1) := by decide +kernel
theorem d_Mo_split_131 : decode b_Mo_split 131 = .ok (.iload 9, 2) := by decide +kernel
theorem d_Mo_split_133 : decode b_Mo_split 133 = .ok (.iadd, 1) := by decide +kernel
theorem d_Mo_split_134 : decode b_Mo_split 134 = .ok (.laload, 1) := by decide +kernel
theorem d_Mo_split_135 : decode b_Mo_split 135 = .ok (.invokestatic 127, 3) := by decide +kernel
theorem d_Mo_split_138 : decode b_Mo_split 138 = .ok (.lstore 12, 2) := by decide +kernel
theorem d_Mo_split_140 : decode b_Mo_split 140 = .ok (.lload 5, 2) := by decide +kernel
theorem d_Mo_split_142 : decode b_Mo_split 142 = .ok (.lload 12, 2) := by decide +kernel
theorem d_Mo_split_144 : decode b_Mo_split 144 = .ok (.lcmp, 1) := by decide +kernel
theorem d_Mo_split_145 : decode b_Mo_split 145 = .ok (.ifCond .lt 61, 3) := by decide +kernel
theorem d_Mo_split_148 : decode b_Mo_split 148 = .ok (.iload 11, 2) := by decide +kernel
theorem d_Mo_split_150 : decode b_Mo_split 150 = .ok (.iload 9, 2) := by decide +kernel
theorem d_Mo_split_152 : decode b_Mo_split 152 = .ok (.if_icmp .ge 54, 3) := by decide +kernel
theorem d_Mo_split_155 : decode b_Mo_split 155 = .ok (.lload 5, 2) := by decide +kernel
theorem d_Mo_split_157 : decode b_Mo_split 157 = .ok (.lload 12, 2) := by decide +kernel
theorem d_Mo_split_159 : decode b_Mo_split 159 = .ok (.lsub, 1) := by decide +kernel
theorem d_Mo_split_160 : decode b_Mo_split 160 = .ok (.lstore 5, 2) := by decide +kernel
theorem d_Mo_split_162 : decode b_Mo_split 162 = .ok (.iinc 11 1, 3) := by decide +kernel
theorem d_Mo_split_165 : decode b_Mo_split 165 = .ok (.aload_n 0, 1) := by decide +kernel
theorem d_Mo_split_166 : decode b_Mo_split 166 = .ok (.aload_n 0, 1) := by decide +kernel
theorem d_Mo_split_167 : decode b_Mo_split 167 = .ok (.iload 7, 2) := by decide +kernel
theorem d_Mo_split_169 : decode b_Mo_split 169 = .ok (.iload 10, 2) := by decide +kernel
theorem d_Mo_split_171 : decode b_Mo_split 171 = .ok (.invokevirtual 96, 3) := by decide +kernel
theorem d_Mo_split_174 : decode b_Mo_split 174 = .ok (.iload 11, 2) := by decide +kernel
theorem d_Mo_split_176 : decode b_Mo_split 176 = .ok (.invokevirtual 124, 3) := by decide +kernel

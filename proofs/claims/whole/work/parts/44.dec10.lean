theorem d_Mo_fill_2 : decode b_Mo_fill 2 = .ok (.iload_n 3, 1) := by decide +kernel
theorem d_Mo_fill_3 : decode b_Mo_fill 3 = .ok (.iload_n 2, 1) := by decide +kernel
theorem d_Mo_fill_4 : decode b_Mo_fill 4 = .ok (.if_icmp .gt 34, 3) := by decide +kernel
theorem d_Mo_fill_7 : decode b_Mo_fill 7 = .ok (.aload_n 0, 1) := by decide +kernel
theorem d_Mo_fill_8 : decode b_Mo_fill 8 = .ok (.getfield 52, 3) := by decide +kernel
theorem d_Mo_fill_11 : decode b_Mo_fill 11 = .ok (.bipush 17, 2) := by decide +kernel
theorem d_Mo_fill_13 : decode b_Mo_fill 13 = .ok (.aload_n 0, 1) := by decide +kernel
theorem d_Mo_fill_14 : decode b_Mo_fill 14 = .ok (.getfield 13, 3) := by decide +kernel
theorem d_Mo_fill_17 : decode b_Mo_fill 17 = .ok (.iload_n 1, 1) := by decide +kernel
theorem d_Mo_fill_18 : decode b_Mo_fill 18 = .ok (.iaload, 1) := by decide +kernel
theorem d_Mo_fill_19 : decode b_Mo_fill 19 = .ok (.imul, 1) := by decide +kernel
theorem d_Mo_fill_20 : decode b_Mo_fill 20 = .ok (.iload_n 3, 1) := by decide +kernel
theorem d_Mo_fill_21 : decode b_Mo_fill 21 = .ok (.iadd, 1) := by decide +kernel
theorem d_Mo_fill_22 : decode b_Mo_fill 22 = .ok (.iload_n 3, 1) := by decide +kernel
theorem d_Mo_fill_23 : decode b_Mo_fill 23 = .ok (.ifCond .ne 7, 3) := by decide +kernel
theorem d_Mo_fill_26 : decode b_Mo_fill 26 = .ok (.lconst 1, 1) := by decide +kernel
theorem d_Mo_fill_27 : decode b_Mo_fill 27 = .ok (.goto 4, 3) := by decide +kernel
theorem d_Mo_fill_30 : decode b_Mo_fill 30 = .ok (.lconst 0, 1) := by decide +kernel
theorem d_Mo_fill_31 : decode b_Mo_fill 31 = .ok (.lastore, 1) := by decide +kernel
theorem d_Mo_fill_32 : decode b_Mo_fill 32 = .ok (.iinc 3 1, 3) := by decide +kernel
theorem d_Mo_fill_35 : decode b_Mo_fill 35 = .ok (.goto (-33), 3) := by decide +kernel
theorem d_Mo_fill_38 : decode b_Mo_fill 38 = .ok (.aload_n 0, 1) := by decide +kernel
theorem d_Mo_fill_39 : decode b_Mo_fill 39 = .ok (.getfield 13, 3) := by decide +kernel
theorem d_Mo_fill_42 : decode b_Mo_fill 42 = .ok (.iload_n 1, 1) := by decide +kernel
theorem d_Mo_fill_43 : decode b_Mo_fill 43 = .ok (.iaload, 1) := by decide +kernel
theorem d_Mo_fill_44 : decode b_Mo_fill 44 = .ok (.iconst 1, 1) := by decide +kernel
theorem d_Mo_fill_45 : decode b_Mo_fill 45 = .ok (.isub, 1) := by decide +kernel
theorem d_Mo_fill_46 : decode b_Mo_fill 46 = .ok (.istore_n 3, 1) := by decide +kernel
theorem d_Mo_fill_47 : decode b_Mo_fill 47 = .ok (.iload_n 3, 1) := by decide +kernel
theorem d_Mo_fill_48 : decode b_Mo_fill 48 = .ok (.ifCond .lt 97, 3) := by decide +kernel
theorem d_Mo_fill_51 : decode b_Mo_fill 51 = .ok (.iconst 0, 1) := by decide +kernel
theorem d_Mo_fill_52 : decode b_Mo_fill 52 = .ok (.istore 4, 2) := by decide +kernel
theorem d_Mo_fill_54 : decode b_Mo_fill 54 = .ok (.iload 4, 2) := by decide +kernel
theorem d_Mo_fill_56 : decode b_Mo_fill 56 = .ok (.iload_n 2, 1) := by decide +kernel
theorem d_Mo_fill_57 : decode b_Mo_fill 57 = .ok (.if_icmp .gt 82, 3) := by decide +kernel
theorem d_Mo_fill_60 : decode b_Mo_fill 60 = .ok (.lconst 0, 1) := by decide +kernel
theorem d_Mo_fill_61 : decode b_Mo_fill 61 = .ok (.lstore 5, 2) := by decide +kernel
theorem d_Mo_fill_63 : decode b_Mo_fill 63 = .ok (.iconst 0, 1) := by decide +kernel
theorem d_Mo_fill_64 : decode b_Mo_fill 64 = .ok (.istore 7, 2) := by decide +kernel
theorem d_Mo_fill_66 : decode b_Mo_fill 66 = .ok (.iload 7, 2) := by decide +kernel
theorem d_Mo_fill_68 : decode b_Mo_fill 68 = .ok (.iload 4, 2) := by decide +kernel
theorem d_Mo_fill_70 : decode b_Mo_fill 70 = .ok (.if_icmp .gt 49, 3) := by decide +kernel
theorem d_Mo_fill_73 : decode b_Mo_fill 73 = .ok (.lload 5, 2) := by decide +kernel
theorem d_Mo_fill_75 : decode b_Mo_fill 75 = .ok (.aload_n 0, 1) := by decide +kernel
theorem d_Mo_fill_76 : decode b_Mo_fill 76 = .ok (.aload_n 0, 1) := by decide +kernel
theorem d_Mo_fill_77 : decode b_Mo_fill 77 = .ok (.iload_n 1, 1) := by decide +kernel
theorem d_Mo_fill_78 : decode b_Mo_fill 78 = .ok (.iload_n 3, 1) := by decide +kernel
theorem d_Mo_fill_79 : decode b_Mo_fill 79 = .ok (.invokevirtual 96, 3) := by decide +kernel
theorem d_Mo_fill_82 : decode b_Mo_fill 82 = .ok (.iload 7, 2) := by decide +kernel
theorem d_Mo_fill_84 : decode b_Mo_fill 84 = .ok (.invokevirtual 124, 3) := by decide +kernel
theorem d_Mo_fill_87 : decode b_Mo_fill 87 = .ok (.aload_n 0, 1) := by decide +kernel
theorem d_Mo_fill_88 : decode b_Mo_fill 88 = .ok (.getfield 52, 3) := by decide +kernel
theorem d_Mo_fill_91 : decode b_Mo_fill 91 = .ok (.bipush 17, 2) := by decide +kernel
theorem d_Mo_fill_93 : decode b_Mo_fill 93 = .ok (.iload_n 3, 1) := by decide +kernel
theorem d_Mo_fill_94 : decode b_Mo_fill 94 = .ok (.imul, 1) := by decide +kernel
theorem d_Mo_fill_95 : decode b_Mo_fill 95 = .ok (.bipush 17, 2) := by decide +kernel
theorem d_Mo_fill_97 : decode b_Mo_fill 97 = .ok (.iadd, 1) := by decide +kernel
theorem d_Mo_fill_98 : decode b_Mo_fill 98 = .ok (.iload 4, 2) := by decide +kernel
theorem d_Mo_fill_100 : decode b_Mo_fill 100 = .ok (.iadd, 1) := by decide +kernel
theorem d_Mo_fill_101 : decode b_Mo_fill 101 = .ok (.iload 7, 2) := by decide +kernel
theorem d_Mo_fill_103 : decode b_Mo_fill 103 = .ok (.isub, 1) := by decide +kernel
theorem d_Mo_fill_104 : decode b_Mo_fill 104 = .ok (.laload, 1) := by decide +kernel
theorem d_Mo_fill_105 : decode b_Mo_fill 105 = .ok (.invokestatic 127, 3) := by decide +kernel
theorem d_Mo_fill_108 : decode b_Mo_fill 108 = .ok (.invokestatic 131, 3) := by decide +kernel
theorem d_Mo_fill_111 : decode b_Mo_fill 111 = .ok (.lstore 5, 2) := by decide +kernel
theorem d_Mo_fill_113 : decode b_Mo_fill 113 = .ok (.iinc 7 1, 3) := by decide +kernel
theorem d_Mo_fill_116 : decode b_Mo_fill 116 = .ok (.goto (-50), 3) := by decide +kernel
theorem d_Mo_fill_119 : decode b_Mo_fill 119 = .ok (.aload_n 0, 1) := by decide +kernel
theorem d_Mo_fill_120 : decode b_Mo_fill 120 = .ok (.getfield 52, 3) := by decide +kernel
theorem d_Mo_fill_123 : decode b_Mo_fill 123 = .ok (.bipush 17, 2) := by decide +kernel
theorem d_Mo_fill_125 : decode b_Mo_fill 125 = .ok (.iload_n 3, 1) := by decide +kernel
theorem d_Mo_fill_126 : decode b_Mo_fill 126 = .ok (.imul, 1) := by decide +kernel
theorem d_Mo_fill_127 : decode b_Mo_fill 127 = .ok (.iload 4, 2) := by decide +kernel
theorem d_Mo_fill_129 : decode b_Mo_fill 129 = .ok (.iadd, 1) := by decide +kernel
theorem d_Mo_fill_130 : decode b_Mo_fill 130 = .ok (.lload 5, 2) := by decide +kernel
theorem d_Mo_fill_132 : decode b_Mo_fill 132 = .ok (.lastore, 1) := by decide +kernel
theorem d_Mo_fill_133 : decode b_Mo_fill 133 = .ok (.iinc 4 1, 3) := by decide +kernel
theorem d_Mo_fill_136 : decode b_Mo_fill 136 = .ok (.goto (-82), 3) := by decide +kernel
theorem d_Mo_fill_139 : decode b_Mo_fill 139 = .ok (.iinc 3 (-1), 3) := by decide +kernel
theorem d_Mo_fill_142 : decode b_Mo_fill 142 = .ok (.goto (-95), 3) := by decide +kernel
theorem d_Mo_fill_145 : decode b_Mo_fill 145 = .ok (.return_, 1) := by decide +kernel
theorem d_Mo_isEmpty_0 : decode b_Mo_isEmpty 0 = .ok (.iload_n 1, 1) := by decide +kernel
theorem d_Mo_isEmpty_1 : decode b_Mo_isEmpty 1 = .ok (.invokestatic 82, 3) := by decide +kernel
theorem d_Mo_isEmpty_4 : decode b_Mo_isEmpty 4 = .ok (.ifCond .eq 16, 3) := by decide +kernel
theorem d_Mo_isEmpty_7 : decode b_Mo_isEmpty 7 = .ok (.aload_n 0, 1) := by decide +kernel
theorem d_Mo_isEmpty_8 : decode b_Mo_isEmpty 8 = .ok (.getfield 38, 3) := by decide +kernel
theorem d_Mo_isEmpty_11 : decode b_Mo_isEmpty 11 = .ok (.iload_n 1, 1) := by decide +kernel
theorem d_Mo_isEmpty_12 : decode b_Mo_isEmpty 12 = .ok (.baload, 1) := by decide +kernel
theorem d_Mo_isEmpty_13 : decode b_Mo_isEmpty 13 = .ok (.ifCond .eq 7, 3) := by decide +kernel
theorem d_Mo_isEmpty_16 : decode b_Mo_isEmpty 16 = .ok (.iconst 1, 1) := by decide +kernel
theorem d_Mo_isEmpty_17 : decode b_Mo_isEmpty 17 = .ok (.goto 4, 3) := by decide +kernel
theorem d_Mo_isEmpty_20 : decode b_Mo_isEmpty 20 = .ok (.iconst 0, 1) := by decide +kernel
theorem d_Mo_isEmpty_21 : decode b_Mo_isEmpty 21 = .ok (.ireturn, 1) := by decide +kernel
theorem d_Mo_isLength_0 : decode b_Mo_isLength 0 = .ok (.iload_n 0, 1) := by decide +kernel
theorem d_Mo_isLength_1 : decode b_Mo_isLength 1 = .ok (.ifCond .lt 13, 3) := by decide +kernel
theorem d_Mo_isLength_4 : decode b_Mo_isLength 4 = .ok (.iload_n 0, 1) := by decide +kernel
theorem d_Mo_isLength_5 : decode b_Mo_isLength 5 = .ok (.bipush 17, 2) := by decide +kernel
theorem d_Mo_isLength_7 : decode b_Mo_isLength 7 = .ok (.if_icmp .ge 7, 3) := by decide +kernel
theorem d_Mo_isLength_10 : decode b_Mo_isLength 10 = .ok (.iconst 1, 1) := by decide +kernel
theorem d_Mo_isLength_11 : decode b_Mo_isLength 11 = .ok (.goto 4, 3) := by decide +kernel
theorem d_Mo_isLength_14 : decode b_Mo_isLength 14 = .ok (.iconst 0, 1) := by decide +kernel
theorem d_Mo_isLength_15 : decode b_Mo_isLength 15 = .ok (.ireturn, 1) := by decide +kernel
theorem d_Mo_isNonterminal_0 : decode b_Mo_isNonterminal 0 = .ok (.iload_n 0, 1) := by decide +kernel
theorem d_Mo_isNonterminal_1 : decode b_Mo_isNonterminal 1 = .ok (.ifCond .lt 13, 3) := by decide +kernel
theorem d_Mo_isNonterminal_4 : decode b_Mo_isNonterminal 4 = .ok (.iload_n 0, 1) := by decide +kernel
theorem d_Mo_isNonterminal_5 : decode b_Mo_isNonterminal 5 = .ok (.bipush 8, 2) := by decide +kernel
theorem d_Mo_isNonterminal_7 : decode b_Mo_isNonterminal 7 = .ok (.if_icmp .ge 7, 3) := by decide +kernel
theorem d_Mo_isNonterminal_10 : decode b_Mo_isNonterminal 10 = .ok (.iconst 1, 1) := by decide +kernel
theorem d_Mo_isNonterminal_11 : decode b_Mo_isNonterminal 11 = .ok (.goto 4, 3) := by decide +kernel
theorem d_Mo_isNonterminal_14 : decode b_Mo_isNonterminal 14 = .ok (.iconst 0, 1) := by decide +kernel
theorem d_Mo_isNonterminal_15 : decode b_Mo_isNonterminal 15 = .ok (.ireturn, 1) := by decide +kernel
theorem d_Mo_isRule_0 : decode b_Mo_isRule 0 = .ok (.iload_n 1, 1) := by decide +kernel
theorem d_Mo_isRule_1 : decode b_Mo_isRule 1 = .ok (.ifCond .lt 15, 3) := by decide +kernel
theorem d_Mo_isRule_4 : decode b_Mo_isRule 4 = .ok (.iload_n 1, 1) := by decide +kernel
theorem d_Mo_isRule_5 : decode b_Mo_isRule 5 = .ok (.aload_n 0, 1) := by decide +kernel
theorem d_Mo_isRule_6 : decode b_Mo_isRule 6 = .ok (.getfield 76, 3) := by decide +kernel
theorem d_Mo_isRule_9 : decode b_Mo_isRule 9 = .ok (.if_icmp .ge 7, 3) := by decide +kernel
theorem d_Mo_isRule_12 : decode b_Mo_isRule 12 = .ok (.iconst 1, 1) := by decide +kernel
theorem d_Mo_isRule_13 : decode b_Mo_isRule 13 = .ok (.goto 4, 3) := by decide +kernel
theorem d_Mo_isRule_16 : decode b_Mo_isRule 16 = .ok (.iconst 0, 1) := by decide +kernel
theorem d_Mo_isRule_17 : decode b_Mo_isRule 17 = .ok (.ireturn, 1) := by decide +kernel
theorem d_Mo_join_0 : decode b_Mo_join 0 = .ok (.iconst 0, 1) := by decide +kernel
theorem d_Mo_join_1 : decode b_Mo_join 1 = .ok (.istore_n 2, 1) := by decide +kernel
theorem d_Mo_join_2 : decode b_Mo_join 2 = .ok (.aload_n 0, 1) := by decide +kernel
theorem d_Mo_join_3 : decode b_Mo_join 3 = .ok (.getfield 156, 3) := by decide +kernel
theorem d_Mo_join_6 : decode b_Mo_join 6 = .ok (.istore_n 3, 1) := by decide +kernel
theorem d_Mo_join_7 : decode b_Mo_join 7 = .ok (.iconst 0, 1) := by decide +kernel
theorem d_Mo_join_8 : decode b_Mo_join 8 = .ok (.istore 4, 2) := by decide +kernel
theorem d_Mo_join_10 : decode b_Mo_join 10 = .ok (.iload 4, 2) := by decide +kernel
theorem d_Mo_join_12 : decode b_Mo_join 12 = .ok (.aload_n 0, 1) := by decide +kernel
theorem d_Mo_join_13 : decode b_Mo_join 13 = .ok (.getfield 13, 3) := by decide +kernel
theorem d_Mo_join_16 : decode b_Mo_join 16 = .ok (.iload_n 1, 1) := by decide +kernel
theorem d_Mo_join_17 : decode b_Mo_join 17 = .ok (.iaload, 1) := by decide +kernel
theorem d_Mo_join_18 : decode b_Mo_join 18 = .ok (.if_icmp .ge 98, 3) := by decide +kernel
theorem d_Mo_join_21 : decode b_Mo_join 21 = .ok (.aload_n 0, 1) := by decide +kernel
theorem d_Mo_join_22 : decode b_Mo_join 22 = .ok (.iload_n 1, 1) := by decide +kernel
theorem d_Mo_join_23 : decode b_Mo_join 23 = .ok (.iload 4, 2) := by decide +kernel
theorem d_Mo_join_25 : decode b_Mo_join 25 = .ok (.invokevirtual 96, 3) := by decide +kernel
theorem d_Mo_join_28 : decode b_Mo_join 28 = .ok (.istore 5, 2) := by decide +kernel
theorem d_Mo_join_30 : decode b_Mo_join 30 = .ok (.aload_n 0, 1) := by decide +kernel
theorem d_Mo_join_31 : decode b_Mo_join 31 = .ok (.getfield 70, 3) := by decide +kernel
theorem d_Mo_join_34 : decode b_Mo_join 34 = .ok (.iload 4, 2) := by decide +kernel
theorem d_Mo_join_36 : decode b_Mo_join 36 = .ok (.iconst 1, 1) := by decide +kernel
theorem d_Mo_join_37 : decode b_Mo_join 37 = .ok (.iastore, 1) := by decide +kernel
theorem d_Mo_join_38 : decode b_Mo_join 38 = .ok (.aload_n 0, 1) := by decide +kernel
theorem d_Mo_join_39 : decode b_Mo_join 39 = .ok (.getfield 73, 3) := by decide +kernel
theorem d_Mo_join_42 : decode b_Mo_join 42 = .ok (.iload 4, 2) := by decide +kernel
theorem d_Mo_join_44 : decode b_Mo_join 44 = .ok (.lconst 0, 1) := by decide +kernel
theorem d_Mo_join_45 : decode b_Mo_join 45 = .ok (.lastore, 1) := by decide +kernel
theorem d_Mo_join_46 : decode b_Mo_join 46 = .ok (.iload 5, 2) := by decide +kernel
theorem d_Mo_join_48 : decode b_Mo_join 48 = .ok (.invokestatic 82, 3) := by decide +kernel
theorem d_Mo_join_51 : decode b_Mo_join 51 = .ok (.ifCond .eq 49, 3) := by decide +kernel
theorem d_Mo_join_54 : decode b_Mo_join 54 = .ok (.iinc 3 (-1), 3) := by decide +kernel
theorem d_Mo_join_57 : decode b_Mo_join 57 = .ok (.iload_n 3, 1) := by decide +kernel
theorem d_Mo_join_58 : decode b_Mo_join 58 = .ok (.ifCond .lt 14, 3) := by decide +kernel
theorem d_Mo_join_61 : decode b_Mo_join 61 = .ok (.aload_n 0, 1) := by decide +kernel
theorem d_Mo_join_62 : decode b_Mo_join 62 = .ok (.getfield 55, 3) := by decide +kernel
theorem d_Mo_join_65 : decode b_Mo_join 65 = .ok (.iload_n 3, 1) := by decide +kernel
theorem d_Mo_join_66 : decode b_Mo_join 66 = .ok (.iaload, 1) := by decide +kernel
theorem d_Mo_join_67 : decode b_Mo_join 67 = .ok (.iload 5, 2) := by decide +kernel
theorem d_Mo_join_69 : decode b_Mo_join 69 = .ok (.if_icmp .eq 5, 3) := by decide +kernel
theorem d_Mo_join_72 : decode b_Mo_join 72 = .ok (.iconst 0, 1) := by decide +kernel
theorem d_Mo_join_73 : decode b_Mo_join 73 = .ok (.ireturn, 1) := by decide +kernel
theorem d_Mo_join_74 : decode b_Mo_join 74 = .ok (.aload_n 0, 1) := by decide +kernel
theorem d_Mo_join_75 : decode b_Mo_join 75 = .ok (.getfield 70, 3) := by decide +kernel
theorem d_Mo_join_78 : decode b_Mo_join 78 = .ok (.iload 4, 2) := by decide +kernel
theorem d_Mo_join_80 : decode b_Mo_join 80 = .ok (.aload_n 0, 1) := by decide +kernel
theorem d_Mo_join_81 : decode b_Mo_join 81 = .ok (.getfield 58, 3) := by decide +kernel
theorem d_Mo_join_84 : decode b_Mo_join 84 = .ok (.iload_n 3, 1) := by decide +kernel
theorem d_Mo_join_85 : decode b_Mo_join 85 = .ok (.iaload, 1) := by decide +kernel
theorem d_Mo_join_86 : decode b_Mo_join 86 = .ok (.iastore, 1) := by decide +kernel
theorem d_Mo_join_87 : decode b_Mo_join 87 = .ok (.aload_n 0, 1) := by decide +kernel
theorem d_Mo_join_88 : decode b_Mo_join 88 = .ok (.getfield 73, 3) := by decide +kernel
theorem d_Mo_join_91 : decode b_Mo_join 91 = .ok (.iload 4, 2) := by decide +kernel
theorem d_Mo_join_93 : decode b_Mo_join 93 = .ok (.aload_n 0, 1) := by decide +kernel
theorem d_Mo_join_94 : decode b_Mo_join 94 = .ok (.getfield 61, 3) := by decide +kernel
theorem d_Mo_join_97 : decode b_Mo_join 97 = .ok (.iload_n 3, 1) := by decide +kernel
theorem d_Mo_join_98 : decode b_Mo_join 98 = .ok (.laload, 1) := by decide +kernel
theorem d_Mo_join_99 : decode b_Mo_join 99 = .ok (.lastore, 1) := by decide +kernel
theorem d_Mo_join_100 : decode b_Mo_join 100 = .ok (.iload_n 2, 1) := by decide +kernel
theorem d_Mo_join_101 : decode b_Mo_join 101 = .ok (.aload_n 0, 1) := by decide +kernel
theorem d_Mo_join_102 : decode b_Mo_join 102 = .ok (.getfield 70, 3) := by decide +kernel
theorem d_Mo_join_105 : decode b_Mo_join 105 = .ok (.iload 4, 2) := by decide +kernel
theorem d_Mo_join_107 : decode b_Mo_join 107 = .ok (.iaload, 1) := by decide +kernel
theorem d_Mo_join_108 : decode b_Mo_join 108 = .ok (.iadd, 1) := by decide +kernel
theorem d_Mo_join_109 : decode b_Mo_join 109 = .ok (.istore_n 2, 1) := by decide +kernel
theorem d_Mo_join_110 : decode b_Mo_join 110 = .ok (.iinc 4 1, 3) := by decide +kernel
theorem d_Mo_join_113 : decode b_Mo_join 113 = .ok (.goto (-103), 3) := by decide +kernel
theorem d_Mo_join_116 : decode b_Mo_join 116 = .ok (.iload_n 2, 1) := by decide +kernel
theorem d_Mo_join_117 : decode b_Mo_join 117 = .ok (.bipush 17, 2) := by decide +kernel
theorem d_Mo_join_119 : decode b_Mo_join 119 = .ok (.if_icmp .lt 5, 3) := by decide +kernel
theorem d_Mo_join_122 : decode b_Mo_join 122 = .ok (.iconst 0, 1) := by decide +kernel
theorem d_Mo_join_123 : decode b_Mo_join 123 = .ok (.ireturn, 1) := by decide +kernel
theorem d_Mo_join_124 : decode b_Mo_join 124 = .ok (.lconst 0, 1) := by decide +kernel
theorem d_Mo_join_125 : decode b_Mo_join 125 = .ok (.lstore 4, 2) := by decide +kernel
theorem d_Mo_join_127 : decode b_Mo_join 127 = .ok (.iconst 0, 1) := by decide +kernel
theorem d_Mo_join_128 : decode b_Mo_join 128 = .ok (.istore 6, 2) := by decide +kernel
theorem d_Mo_join_130 : decode b_Mo_join 130 = .ok (.iload 6, 2) := by decide +kernel
theorem d_Mo_join_132 : decode b_Mo_join 132 = .ok (.iload_n 1, 1) := by decide +kernel
theorem d_Mo_join_133 : decode b_Mo_join 133 = .ok (.if_icmp .ge 45, 3) := by decide +kernel
theorem d_Mo_join_136 : decode b_Mo_join 136 = .ok (.aload_n 0, 1) := by decide +kernel
theorem d_Mo_join_137 : decode b_Mo_join 137 = .ok (.getfield 7, 3) := by decide +kernel
theorem d_Mo_join_140 : decode b_Mo_join 140 = .ok (.iload 6, 2) := by decide +kernel
theorem d_Mo_join_142 : decode b_Mo_join 142 = .ok (.iaload, 1) := by decide +kernel
theorem d_Mo_join_143 : decode b_Mo_join 143 = .ok (.aload_n 0, 1) := by decide +kernel
theorem d_Mo_join_144 : decode b_Mo_join 144 = .ok (.getfield 7, 3) := by decide +kernel
theorem d_Mo_join_147 : decode b_Mo_join 147 = .ok (.iload_n 1, 1) := by decide +kernel
theorem d_Mo_join_148 : decode b_Mo_join 148 = .ok (.iaload, 1) := by decide +kernel
theorem d_Mo_join_149 : decode b_Mo_join 149 = .ok (.if_icmp .ne 23, 3) := by decide +kernel
theorem d_Mo_join_152 : decode b_Mo_join 152 = .ok (.aload_n 0, 1) := by decide +kernel
theorem d_Mo_join_153 : decode b_Mo_join 153 = .ok (.iload 6, 2) := by decide +kernel
theorem d_Mo_join_155 : decode b_Mo_join 155 = .ok (.iload_n 2, 1) := by decide +kernel
theorem d_Mo_join_156 : decode b_Mo_join 156 = .ok (.invokevirtual 134, 3) := by decide +kernel
theorem d_Mo_join_159 : decode b_Mo_join 159 = .ok (.lload 4, 2) := by decide +kernel
theorem d_Mo_join_161 : decode b_Mo_join 161 = .ok (.aload_n 0, 1) := by decide +kernel
theorem d_Mo_join_162 : decode b_Mo_join 162 = .ok (.getfield 52, 3) := by decide +kernel
theorem d_Mo_join_165 : decode b_Mo_join 165 = .ok (.iload_n 2, 1) := by decide +kernel
theorem d_Mo_join_166 : decode b_Mo_join 166 = .ok (.laload, 1) := by decide +kernel
theorem d_Mo_join_167 : decode b_Mo_join 167 = .ok (.invokestatic 131, 3) := by decide +kernel
theorem d_Mo_join_170 : decode b_Mo_join 170 = .ok (.lstore 4, 2) := by decide +kernel
theorem d_Mo_join_172 : decode b_Mo_join 172 = .ok (.iinc 6 1, 3) := by decide +kernel
theorem d_Mo_join_175 : decode b_Mo_join 175 = .ok (.goto (-45), 3) := by decide +kernel
theorem d_Mo_join_178 : decode b_Mo_join 178 = .ok (.aload_n 0, 1) := by decide +kernel
theorem d_Mo_join_179 : decode b_Mo_join 179 = .ok (.iload_n 1, 1) := by decide +kernel
theorem d_Mo_join_180 : decode b_Mo_join 180 = .ok (.iload_n 2, 1) := by decide +kernel
theorem d_Mo_join_181 : decode b_Mo_join 181 = .ok (.invokevirtual 134, 3) := by decide +kernel
theorem d_Mo_join_184 : decode b_Mo_join 184 = .ok (.iload_n 2, 1) := by decide +kernel
theorem d_Mo_join_185 : decode b_Mo_join 185 = .ok (.istore 6, 2) := by decide +kernel
theorem d_Mo_join_187 : decode b_Mo_join 187 = .ok (.iconst 0, 1) := by decide +kernel
theorem d_Mo_join_188 : decode b_Mo_join 188 = .ok (.istore 7, 2) := by decide +kernel
theorem d_Mo_join_190 : decode b_Mo_join 190 = .ok (.iload 7, 2) := by decide +kernel
theorem d_Mo_join_192 : decode b_Mo_join 192 = .ok (.aload_n 0, 1) := by decide +kernel
theorem d_Mo_join_193 : decode b_Mo_join 193 = .ok (.getfield 13, 3) := by decide +kernel
theorem d_Mo_join_196 : decode b_Mo_join 196 = .ok (.iload_n 1, 1) := by decide +kernel
theorem d_Mo_join_197 : decode b_Mo_join 197 = .ok (.iaload, 1) := by decide +kernel
theorem d_Mo_join_198 : decode b_Mo_join 198 = .ok (.if_icmp .ge 117, 3) := by decide +kernel
theorem d_Mo_join_201 : decode b_Mo_join 201 = .ok (.iconst 0, 1) := by decide +kernel
theorem d_Mo_join_202 : decode b_Mo_join 202 = .ok (.istore 8, 2) := by decide +kernel
theorem d_Mo_join_204 : decode b_Mo_join 204 = .ok (.iload 8, 2) := by decide +kernel
theorem d_Mo_join_206 : decode b_Mo_join 206 = .ok (.aload_n 0, 1) := by decide +kernel
theorem d_Mo_join_207 : decode b_Mo_join 207 = .ok (.getfield 70, 3) := by decide +kernel
theorem d_Mo_join_210 : decode b_Mo_join 210 = .ok (.iload 7, 2) := by decide +kernel
theorem d_Mo_join_212 : decode b_Mo_join 212 = .ok (.iaload, 1) := by decide +kernel
theorem d_Mo_join_213 : decode b_Mo_join 213 = .ok (.if_icmp .ge 51, 3) := by decide +kernel
theorem d_Mo_join_216 : decode b_Mo_join 216 = .ok (.lload 4, 2) := by decide +kernel
theorem d_Mo_join_218 : decode b_Mo_join 218 = .ok (.aload_n 0, 1) := by decide +kernel
theorem d_Mo_join_219 : decode b_Mo_join 219 = .ok (.aload_n 0, 1) := by decide +kernel
theorem d_Mo_join_220 : decode b_Mo_join 220 = .ok (.iload_n 1, 1) := by decide +kernel
theorem d_Mo_join_221 : decode b_Mo_join 221 = .ok (.iload 7, 2) := by decide +kernel
theorem d_Mo_join_223 : decode b_Mo_join 223 = .ok (.invokevirtual 96, 3) := by decide +kernel

theorem d_Li_fold_70 : decode b_Li_fold 70 = .ok (.if_icmp .eq 5, 3) := by decide +kernel
theorem d_Li_fold_73 : decode b_Li_fold 73 = .ok (.iconst 0, 1) := by decide +kernel
theorem d_Li_fold_74 : decode b_Li_fold 74 = .ok (.ireturn, 1) := by decide +kernel
theorem d_Li_fold_75 : decode b_Li_fold 75 = .ok (.iload_n 2, 1) := by decide +kernel
theorem d_Li_fold_76 : decode b_Li_fold 76 = .ok (.aload_n 0, 1) := by decide +kernel
theorem d_Li_fold_77 : decode b_Li_fold 77 = .ok (.getfield 23, 3) := by decide +kernel
theorem d_Li_fold_80 : decode b_Li_fold 80 = .ok (.getfield 78, 3) := by decide +kernel
theorem d_Li_fold_83 : decode b_Li_fold 83 = .ok (.iload_n 3, 1) := by decide +kernel
theorem d_Li_fold_84 : decode b_Li_fold 84 = .ok (.iaload, 1) := by decide +kernel
theorem d_Li_fold_85 : decode b_Li_fold 85 = .ok (.iadd, 1) := by decide +kernel
theorem d_Li_fold_86 : decode b_Li_fold 86 = .ok (.istore_n 2, 1) := by decide +kernel
theorem d_Li_fold_87 : decode b_Li_fold 87 = .ok (.iinc 4 1, 3) := by decide +kernel
theorem d_Li_fold_90 : decode b_Li_fold 90 = .ok (.goto (-77), 3) := by decide +kernel
theorem d_Li_fold_93 : decode b_Li_fold 93 = .ok (.aload_n 0, 1) := by decide +kernel
theorem d_Li_fold_94 : decode b_Li_fold 94 = .ok (.iload_n 1, 1) := by decide +kernel
theorem d_Li_fold_95 : decode b_Li_fold 95 = .ok (.iload_n 2, 1) := by decide +kernel
theorem d_Li_fold_96 : decode b_Li_fold 96 = .ok (.invokevirtual 81, 3) := by decide +kernel
theorem d_Li_fold_99 : decode b_Li_fold 99 = .ok (.aload_n 0, 1) := by decide +kernel
theorem d_Li_fold_100 : decode b_Li_fold 100 = .ok (.iload_n 1, 1) := by decide +kernel
theorem d_Li_fold_101 : decode b_Li_fold 101 = .ok (.iload_n 2, 1) := by decide +kernel
theorem d_Li_fold_102 : decode b_Li_fold 102 = .ok (.invokevirtual 84, 3) := by decide +kernel
theorem d_Li_fold_105 : decode b_Li_fold 105 = .ok (.ladd, 1) := by decide +kernel
theorem d_Li_fold_106 : decode b_Li_fold 106 = .ok (.lstore 4, 2) := by decide +kernel
theorem d_Li_fold_108 : decode b_Li_fold 108 = .ok (.aload_n 0, 1) := by decide +kernel
theorem d_Li_fold_109 : decode b_Li_fold 109 = .ok (.getfield 23, 3) := by decide +kernel
theorem d_Li_fold_112 : decode b_Li_fold 112 = .ok (.iload_n 3, 1) := by decide +kernel
theorem d_Li_fold_113 : decode b_Li_fold 113 = .ok (.aload_n 0, 1) := by decide +kernel
theorem d_Li_fold_114 : decode b_Li_fold 114 = .ok (.getfield 15, 3) := by decide +kernel
theorem d_Li_fold_117 : decode b_Li_fold 117 = .ok (.iload_n 1, 1) := by decide +kernel
theorem d_Li_fold_118 : decode b_Li_fold 118 = .ok (.invokevirtual 87, 3) := by decide +kernel
theorem d_Li_fold_121 : decode b_Li_fold 121 = .ok (.iload_n 2, 1) := by decide +kernel
theorem d_Li_fold_122 : decode b_Li_fold 122 = .ok (.lload 4, 2) := by decide +kernel
theorem d_Li_fold_124 : decode b_Li_fold 124 = .ok (.invokevirtual 90, 3) := by decide +kernel
theorem d_Li_fold_127 : decode b_Li_fold 127 = .ok (.aload_n 0, 1) := by decide +kernel
theorem d_Li_fold_128 : decode b_Li_fold 128 = .ok (.getfield 23, 3) := by decide +kernel
theorem d_Li_fold_131 : decode b_Li_fold 131 = .ok (.iload_n 3, 1) := by decide +kernel
theorem d_Li_fold_132 : decode b_Li_fold 132 = .ok (.iconst 1, 1) := by decide +kernel
theorem d_Li_fold_133 : decode b_Li_fold 133 = .ok (.iadd, 1) := by decide +kernel
theorem d_Li_fold_134 : decode b_Li_fold 134 = .ok (.putfield 45, 3) := by decide +kernel
theorem d_Li_fold_137 : decode b_Li_fold 137 = .ok (.iconst 1, 1) := by decide +kernel
theorem d_Li_fold_138 : decode b_Li_fold 138 = .ok (.ireturn, 1) := by decide +kernel
theorem d_Li_numberInRule_0 : decode b_Li_numberInRule 0 = .ok (.lconst 0, 1) := by decide +kernel
theorem d_Li_numberInRule_1 : decode b_Li_numberInRule 1 = .ok (.lstore_n 3, 1) := by decide +kernel
theorem d_Li_numberInRule_2 : decode b_Li_numberInRule 2 = .ok (.iload_n 2, 1) := by decide +kernel
theorem d_Li_numberInRule_3 : decode b_Li_numberInRule 3 = .ok (.istore 5, 2) := by decide +kernel
theorem d_Li_numberInRule_5 : decode b_Li_numberInRule 5 = .ok (.aload_n 0, 1) := by decide +kernel
theorem d_Li_numberInRule_6 : decode b_Li_numberInRule 6 = .ok (.getfield 23, 3) := by decide +kernel
theorem d_Li_numberInRule_9 : decode b_Li_numberInRule 9 = .ok (.getfield 45, 3) := by decide +kernel
theorem d_Li_numberInRule_12 : decode b_Li_numberInRule 12 = .ok (.istore 6, 2) := by decide +kernel
theorem d_Li_numberInRule_14 : decode b_Li_numberInRule 14 = .ok (.iconst 0, 1) := by decide +kernel
theorem d_Li_numberInRule_15 : decode b_Li_numberInRule 15 = .ok (.istore 7, 2) := by decide +kernel
theorem d_Li_numberInRule_17 : decode b_Li_numberInRule 17 = .ok (.iload 7, 2) := by decide +kernel
theorem d_Li_numberInRule_19 : decode b_Li_numberInRule 19 = .ok (.aload_n 0, 1) := by decide +kernel
theorem d_Li_numberInRule_20 : decode b_Li_numberInRule 20 = .ok (.getfield 15, 3) := by decide +kernel
theorem d_Li_numberInRule_23 : decode b_Li_numberInRule 23 = .ok (.iload_n 1, 1) := by decide +kernel
theorem d_Li_numberInRule_24 : decode b_Li_numberInRule 24 = .ok (.invokevirtual 64, 3) := by decide +kernel
theorem d_Li_numberInRule_27 : decode b_Li_numberInRule 27 = .ok (.if_icmp .ge 118, 3) := by decide +kernel
theorem d_Li_numberInRule_30 : decode b_Li_numberInRule 30 = .ok (.iconst 1, 1) := by decide +kernel
theorem d_Li_numberInRule_31 : decode b_Li_numberInRule 31 = .ok (.istore 8, 2) := by decide +kernel
theorem d_Li_numberInRule_33 : decode b_Li_numberInRule 33 = .ok (.lconst 0, 1) := by decide +kernel
theorem d_Li_numberInRule_34 : decode b_Li_numberInRule 34 = .ok (.lstore 9, 2) := by decide +kernel
theorem d_Li_numberInRule_36 : decode b_Li_numberInRule 36 = .ok (.aload_n 0, 1) := by decide +kernel
theorem d_Li_numberInRule_37 : decode b_Li_numberInRule 37 = .ok (.getfield 15, 3) := by decide +kernel
theorem d_Li_numberInRule_40 : decode b_Li_numberInRule 40 = .ok (.iload_n 1, 1) := by decide +kernel
theorem d_Li_numberInRule_41 : decode b_Li_numberInRule 41 = .ok (.iload 7, 2) := by decide +kernel
theorem d_Li_numberInRule_43 : decode b_Li_numberInRule 43 = .ok (.invokevirtual 71, 3) := by decide +kernel
theorem d_Li_numberInRule_46 : decode b_Li_numberInRule 46 = .ok (.invokestatic 75, 3) := by decide +kernel
theorem d_Li_numberInRule_49 : decode b_Li_numberInRule 49 = .ok (.ifCond .eq 30, 3) := by decide +kernel
theorem d_Li_numberInRule_52 : decode b_Li_numberInRule 52 = .ok (.iinc 6 (-1), 3) := by decide +kernel
theorem d_Li_numberInRule_55 : decode b_Li_numberInRule 55 = .ok (.aload_n 0, 1) := by decide +kernel
theorem d_Li_numberInRule_56 : decode b_Li_numberInRule 56 = .ok (.getfield 23, 3) := by decide +kernel
theorem d_Li_numberInRule_59 : decode b_Li_numberInRule 59 = .ok (.getfield 78, 3) := by decide +kernel
theorem d_Li_numberInRule_62 : decode b_Li_numberInRule 62 = .ok (.iload 6, 2) := by decide +kernel
theorem d_Li_numberInRule_64 : decode b_Li_numberInRule 64 = .ok (.iaload, 1) := by decide +kernel
theorem d_Li_numberInRule_65 : decode b_Li_numberInRule 65 = .ok (.istore 8, 2) := by decide +kernel
theorem d_Li_numberInRule_67 : decode b_Li_numberInRule 67 = .ok (.aload_n 0, 1) := by decide +kernel
theorem d_Li_numberInRule_68 : decode b_Li_numberInRule 68 = .ok (.getfield 23, 3) := by decide +kernel
theorem d_Li_numberInRule_71 : decode b_Li_numberInRule 71 = .ok (.getfield 55, 3) := by decide +kernel
theorem d_Li_numberInRule_74 : decode b_Li_numberInRule 74 = .ok (.iload 6, 2) := by decide +kernel
theorem d_Li_numberInRule_76 : decode b_Li_numberInRule 76 = .ok (.laload, 1) := by decide +kernel
theorem d_Li_numberInRule_77 : decode b_Li_numberInRule 77 = .ok (.lstore 9, 2) := by decide +kernel
theorem d_Li_numberInRule_79 : decode b_Li_numberInRule 79 = .ok (.iconst 0, 1) := by decide +kernel
theorem d_Li_numberInRule_80 : decode b_Li_numberInRule 80 = .ok (.istore 11, 2) := by decide +kernel
theorem d_Li_numberInRule_82 : decode b_Li_numberInRule 82 = .ok (.iload 11, 2) := by decide +kernel
theorem d_Li_numberInRule_84 : decode b_Li_numberInRule 84 = .ok (.iload 8, 2) := by decide +kernel
theorem d_Li_numberInRule_86 : decode b_Li_numberInRule 86 = .ok (.if_icmp .ge 26, 3) := by decide +kernel
theorem d_Li_numberInRule_89 : decode b_Li_numberInRule 89 = .ok (.lload_n 3, 1) := by decide +kernel
theorem d_Li_numberInRule_90 : decode b_Li_numberInRule 90 = .ok (.aload_n 0, 1) := by decide +kernel
theorem d_Li_numberInRule_91 : decode b_Li_numberInRule 91 = .ok (.getfield 19, 3) := by decide +kernel
theorem d_Li_numberInRule_94 : decode b_Li_numberInRule 94 = .ok (.iload_n 1, 1) := by decide +kernel
theorem d_Li_numberInRule_95 : decode b_Li_numberInRule 95 = .ok (.iload 7, 2) := by decide +kernel
theorem d_Li_numberInRule_97 : decode b_Li_numberInRule 97 = .ok (.iload 11, 2) := by decide +kernel
theorem d_Li_numberInRule_99 : decode b_Li_numberInRule 99 = .ok (.iload 5, 2) := by decide +kernel
theorem d_Li_numberInRule_101 : decode b_Li_numberInRule 101 = .ok (.invokevirtual 98, 3) := by decide +kernel
theorem d_Li_numberInRule_104 : decode b_Li_numberInRule 104 = .ok (.ladd, 1) := by decide +kernel
theorem d_Li_numberInRule_105 : decode b_Li_numberInRule 105 = .ok (.lstore_n 3, 1) := by decide +kernel
theorem d_Li_numberInRule_106 : decode b_Li_numberInRule 106 = .ok (.iinc 11 1, 3) := by decide +kernel
theorem d_Li_numberInRule_109 : decode b_Li_numberInRule 109 = .ok (.goto (-27), 3) := by decide +kernel
theorem d_Li_numberInRule_112 : decode b_Li_numberInRule 112 = .ok (.iload 5, 2) := by decide +kernel
theorem d_Li_numberInRule_114 : decode b_Li_numberInRule 114 = .ok (.iload 8, 2) := by decide +kernel
theorem d_Li_numberInRule_116 : decode b_Li_numberInRule 116 = .ok (.isub, 1) := by decide +kernel
theorem d_Li_numberInRule_117 : decode b_Li_numberInRule 117 = .ok (.istore 5, 2) := by decide +kernel
theorem d_Li_numberInRule_119 : decode b_Li_numberInRule 119 = .ok (.lload_n 3, 1) := by decide +kernel
theorem d_Li_numberInRule_120 : decode b_Li_numberInRule 120 = .ok (.lload 9, 2) := by decide +kernel
theorem d_Li_numberInRule_122 : decode b_Li_numberInRule 122 = .ok (.aload_n 0, 1) := by decide +kernel
theorem d_Li_numberInRule_123 : decode b_Li_numberInRule 123 = .ok (.getfield 19, 3) := by decide +kernel
theorem d_Li_numberInRule_126 : decode b_Li_numberInRule 126 = .ok (.iload_n 1, 1) := by decide +kernel
theorem d_Li_numberInRule_127 : decode b_Li_numberInRule 127 = .ok (.iload 7, 2) := by decide +kernel
theorem d_Li_numberInRule_129 : decode b_Li_numberInRule 129 = .ok (.iconst 1, 1) := by decide +kernel
theorem d_Li_numberInRule_130 : decode b_Li_numberInRule 130 = .ok (.iadd, 1) := by decide +kernel
theorem d_Li_numberInRule_131 : decode b_Li_numberInRule 131 = .ok (.iload 5, 2) := by decide +kernel
theorem d_Li_numberInRule_133 : decode b_Li_numberInRule 133 = .ok (.invokevirtual 94, 3) := by decide +kernel
theorem d_Li_numberInRule_136 : decode b_Li_numberInRule 136 = .ok (.lmul, 1) := by decide +kernel
theorem d_Li_numberInRule_137 : decode b_Li_numberInRule 137 = .ok (.ladd, 1) := by decide +kernel
theorem d_Li_numberInRule_138 : decode b_Li_numberInRule 138 = .ok (.lstore_n 3, 1) := by decide +kernel
theorem d_Li_numberInRule_139 : decode b_Li_numberInRule 139 = .ok (.iinc 7 1, 3) := by decide +kernel
theorem d_Li_numberInRule_142 : decode b_Li_numberInRule 142 = .ok (.goto (-125), 3) := by decide +kernel
theorem d_Li_numberInRule_145 : decode b_Li_numberInRule 145 = .ok (.lload_n 3, 1) := by decide +kernel
theorem d_Li_numberInRule_146 : decode b_Li_numberInRule 146 = .ok (.lreturn, 1) := by decide +kernel
theorem d_Li_numberOf_0 : decode b_Li_numberOf 0 = .ok (.aload_n 0, 1) := by decide +kernel
theorem d_Li_numberOf_1 : decode b_Li_numberOf 1 = .ok (.invokevirtual 31, 3) := by decide +kernel
theorem d_Li_numberOf_4 : decode b_Li_numberOf 4 = .ok (.istore_n 2, 1) := by decide +kernel
theorem d_Li_numberOf_5 : decode b_Li_numberOf 5 = .ok (.iload_n 2, 1) := by decide +kernel
theorem d_Li_numberOf_6 : decode b_Li_numberOf 6 = .ok (.iconst (-1), 1) := by decide +kernel
theorem d_Li_numberOf_7 : decode b_Li_numberOf 7 = .ok (.if_icmp .eq 25, 3) := by decide +kernel
theorem d_Li_numberOf_10 : decode b_Li_numberOf 10 = .ok (.iload_n 2, 1) := by decide +kernel
theorem d_Li_numberOf_11 : decode b_Li_numberOf 11 = .ok (.bipush 16, 2) := by decide +kernel
theorem d_Li_numberOf_13 : decode b_Li_numberOf 13 = .ok (.if_icmp .gt 19, 3) := by decide +kernel
theorem d_Li_numberOf_16 : decode b_Li_numberOf 16 = .ok (.aload_n 0, 1) := by decide +kernel
theorem d_Li_numberOf_17 : decode b_Li_numberOf 17 = .ok (.getfield 19, 3) := by decide +kernel
theorem d_Li_numberOf_20 : decode b_Li_numberOf 20 = .ok (.iload_n 1, 1) := by decide +kernel
theorem d_Li_numberOf_21 : decode b_Li_numberOf 21 = .ok (.iload_n 2, 1) := by decide +kernel
theorem d_Li_numberOf_22 : decode b_Li_numberOf 22 = .ok (.invokevirtual 35, 3) := by decide +kernel
theorem d_Li_numberOf_25 : decode b_Li_numberOf 25 = .ok (.ldc2_w 41, 3) := by decide +kernel
theorem d_Li_numberOf_28 : decode b_Li_numberOf 28 = .ok (.lcmp, 1) := by decide +kernel
theorem d_Li_numberOf_29 : decode b_Li_numberOf 29 = .ok (.ifCond .le 7, 3) := by decide +kernel
theorem d_Li_numberOf_32 : decode b_Li_numberOf 32 = .ok (.ldc2_w 43, 3) := by decide +kernel
theorem d_Li_numberOf_35 : decode b_Li_numberOf 35 = .ok (.lreturn, 1) := by decide +kernel
theorem d_Li_numberOf_36 : decode b_Li_numberOf 36 = .ok (.aload_n 0, 1) := by decide +kernel
theorem d_Li_numberOf_37 : decode b_Li_numberOf 37 = .ok (.getfield 23, 3) := by decide +kernel
theorem d_Li_numberOf_40 : decode b_Li_numberOf 40 = .ok (.iconst 0, 1) := by decide +kernel
theorem d_Li_numberOf_41 : decode b_Li_numberOf 41 = .ok (.putfield 45, 3) := by decide +kernel
theorem d_Li_numberOf_44 : decode b_Li_numberOf 44 = .ok (.aload_n 0, 1) := by decide +kernel
theorem d_Li_numberOf_45 : decode b_Li_numberOf 45 = .ok (.getfield 27, 3) := by decide +kernel
theorem d_Li_numberOf_48 : decode b_Li_numberOf 48 = .ok (.iconst 1, 1) := by decide +kernel
theorem d_Li_numberOf_49 : decode b_Li_numberOf 49 = .ok (.isub, 1) := by decide +kernel
theorem d_Li_numberOf_50 : decode b_Li_numberOf 50 = .ok (.istore_n 3, 1) := by decide +kernel
theorem d_Li_numberOf_51 : decode b_Li_numberOf 51 = .ok (.iload_n 3, 1) := by decide +kernel
theorem d_Li_numberOf_52 : decode b_Li_numberOf 52 = .ok (.ifCond .lt 26, 3) := by decide +kernel
theorem d_Li_numberOf_55 : decode b_Li_numberOf 55 = .ok (.aload_n 0, 1) := by decide +kernel
theorem d_Li_numberOf_56 : decode b_Li_numberOf 56 = .ok (.aload_n 0, 1) := by decide +kernel
theorem d_Li_numberOf_57 : decode b_Li_numberOf 57 = .ok (.getfield 9, 3) := by decide +kernel
theorem d_Li_numberOf_60 : decode b_Li_numberOf 60 = .ok (.iload_n 3, 1) := by decide +kernel
theorem d_Li_numberOf_61 : decode b_Li_numberOf 61 = .ok (.iaload, 1) := by decide +kernel
theorem d_Li_numberOf_62 : decode b_Li_numberOf 62 = .ok (.invokevirtual 48, 3) := by decide +kernel
theorem d_Li_numberOf_65 : decode b_Li_numberOf 65 = .ok (.ifCond .ne 7, 3) := by decide +kernel
theorem d_Li_numberOf_68 : decode b_Li_numberOf 68 = .ok (.ldc2_w 43, 3) := by decide +kernel
theorem d_Li_numberOf_71 : decode b_Li_numberOf 71 = .ok (.lreturn, 1) := by decide +kernel
theorem d_Li_numberOf_72 : decode b_Li_numberOf 72 = .ok (.iinc 3 (-1), 3) := by decide +kernel
theorem d_Li_numberOf_75 : decode b_Li_numberOf 75 = .ok (.goto (-24), 3) := by decide +kernel
theorem d_Li_numberOf_78 : decode b_Li_numberOf 78 = .ok (.aload_n 0, 1) := by decide +kernel
theorem d_Li_numberOf_79 : decode b_Li_numberOf 79 = .ok (.getfield 23, 3) := by decide +kernel
theorem d_Li_numberOf_82 : decode b_Li_numberOf 82 = .ok (.getfield 45, 3) := by decide +kernel
theorem d_Li_numberOf_85 : decode b_Li_numberOf 85 = .ok (.iconst 1, 1) := by decide +kernel
theorem d_Li_numberOf_86 : decode b_Li_numberOf 86 = .ok (.if_icmp .ne 28, 3) := by decide +kernel
theorem d_Li_numberOf_89 : decode b_Li_numberOf 89 = .ok (.aload_n 0, 1) := by decide +kernel
theorem d_Li_numberOf_90 : decode b_Li_numberOf 90 = .ok (.getfield 23, 3) := by decide +kernel
theorem d_Li_numberOf_93 : decode b_Li_numberOf 93 = .ok (.getfield 52, 3) := by decide +kernel
theorem d_Li_numberOf_96 : decode b_Li_numberOf 96 = .ok (.iconst 0, 1) := by decide +kernel
theorem d_Li_numberOf_97 : decode b_Li_numberOf 97 = .ok (.iaload, 1) := by decide +kernel
theorem d_Li_numberOf_98 : decode b_Li_numberOf 98 = .ok (.iload_n 1, 1) := by decide +kernel
theorem d_Li_numberOf_99 : decode b_Li_numberOf 99 = .ok (.if_icmp .ne 15, 3) := by decide +kernel
theorem d_Li_numberOf_102 : decode b_Li_numberOf 102 = .ok (.aload_n 0, 1) := by decide +kernel
theorem d_Li_numberOf_103 : decode b_Li_numberOf 103 = .ok (.getfield 23, 3) := by decide +kernel
theorem d_Li_numberOf_106 : decode b_Li_numberOf 106 = .ok (.getfield 55, 3) := by decide +kernel
theorem d_Li_numberOf_109 : decode b_Li_numberOf 109 = .ok (.iconst 0, 1) := by decide +kernel
theorem d_Li_numberOf_110 : decode b_Li_numberOf 110 = .ok (.laload, 1) := by decide +kernel
theorem d_Li_numberOf_111 : decode b_Li_numberOf 111 = .ok (.goto 6, 3) := by decide +kernel
theorem d_Li_numberOf_114 : decode b_Li_numberOf 114 = .ok (.ldc2_w 43, 3) := by decide +kernel
theorem d_Li_numberOf_117 : decode b_Li_numberOf 117 = .ok (.lreturn, 1) := by decide +kernel
theorem d_Li_terminals_0 : decode b_Li_terminals 0 = .ok (.iconst 0, 1) := by decide +kernel
theorem d_Li_terminals_1 : decode b_Li_terminals 1 = .ok (.istore_n 1, 1) := by decide +kernel
theorem d_Li_terminals_2 : decode b_Li_terminals 2 = .ok (.iconst 0, 1) := by decide +kernel
theorem d_Li_terminals_3 : decode b_Li_terminals 3 = .ok (.istore_n 2, 1) := by decide +kernel
theorem d_Li_terminals_4 : decode b_Li_terminals 4 = .ok (.iload_n 2, 1) := by decide +kernel
theorem d_Li_terminals_5 : decode b_Li_terminals 5 = .ok (.aload_n 0, 1) := by decide +kernel
theorem d_Li_terminals_6 : decode b_Li_terminals 6 = .ok (.getfield 27, 3) := by decide +kernel
theorem d_Li_terminals_9 : decode b_Li_terminals 9 = .ok (.if_icmp .ge 57, 3) := by decide +kernel
theorem d_Li_terminals_12 : decode b_Li_terminals 12 = .ok (.aload_n 0, 1) := by decide +kernel
theorem d_Li_terminals_13 : decode b_Li_terminals 13 = .ok (.getfield 15, 3) := by decide +kernel
theorem d_Li_terminals_16 : decode b_Li_terminals 16 = .ok (.aload_n 0, 1) := by decide +kernel
theorem d_Li_terminals_17 : decode b_Li_terminals 17 = .ok (.getfield 9, 3) := by decide +kernel
theorem d_Li_terminals_20 : decode b_Li_terminals 20 = .ok (.iload_n 2, 1) := by decide +kernel
theorem d_Li_terminals_21 : decode b_Li_terminals 21 = .ok (.iaload, 1) := by decide +kernel
theorem d_Li_terminals_22 : decode b_Li_terminals 22 = .ok (.invokevirtual 59, 3) := by decide +kernel
theorem d_Li_terminals_25 : decode b_Li_terminals 25 = .ok (.ifCond .ne 5, 3) := by decide +kernel
theorem d_Li_terminals_28 : decode b_Li_terminals 28 = .ok (.iconst (-1), 1) := by decide +kernel
theorem d_Li_terminals_29 : decode b_Li_terminals 29 = .ok (.ireturn, 1) := by decide +kernel
theorem d_Li_terminals_30 : decode b_Li_terminals 30 = .ok (.iload_n 1, 1) := by decide +kernel
theorem d_Li_terminals_31 : decode b_Li_terminals 31 = .ok (.aload_n 0, 1) := by decide +kernel
theorem d_Li_terminals_32 : decode b_Li_terminals 32 = .ok (.getfield 15, 3) := by decide +kernel
theorem d_Li_terminals_35 : decode b_Li_terminals 35 = .ok (.aload_n 0, 1) := by decide +kernel
theorem d_Li_terminals_36 : decode b_Li_terminals 36 = .ok (.getfield 9, 3) := by decide +kernel
theorem d_Li_terminals_39 : decode b_Li_terminals 39 = .ok (.iload_n 2, 1) := by decide +kernel
theorem d_Li_terminals_40 : decode b_Li_terminals 40 = .ok (.iaload, 1) := by decide +kernel
theorem d_Li_terminals_41 : decode b_Li_terminals 41 = .ok (.invokevirtual 64, 3) := by decide +kernel
theorem d_Li_terminals_44 : decode b_Li_terminals 44 = .ok (.aload_n 0, 1) := by decide +kernel
theorem d_Li_terminals_45 : decode b_Li_terminals 45 = .ok (.getfield 15, 3) := by decide +kernel
theorem d_Li_terminals_48 : decode b_Li_terminals 48 = .ok (.aload_n 0, 1) := by decide +kernel
theorem d_Li_terminals_49 : decode b_Li_terminals 49 = .ok (.getfield 9, 3) := by decide +kernel
theorem d_Li_terminals_52 : decode b_Li_terminals 52 = .ok (.iload_n 2, 1) := by decide +kernel
theorem d_Li_terminals_53 : decode b_Li_terminals 53 = .ok (.iaload, 1) := by decide +kernel
theorem d_Li_terminals_54 : decode b_Li_terminals 54 = .ok (.invokevirtual 68, 3) := by decide +kernel
theorem d_Li_terminals_57 : decode b_Li_terminals 57 = .ok (.isub, 1) := by decide +kernel
theorem d_Li_terminals_58 : decode b_Li_terminals 58 = .ok (.iadd, 1) := by decide +kernel
theorem d_Li_terminals_59 : decode b_Li_terminals 59 = .ok (.istore_n 1, 1) := by decide +kernel
theorem d_Li_terminals_60 : decode b_Li_terminals 60 = .ok (.iinc 2 1, 3) := by decide +kernel
theorem d_Li_terminals_63 : decode b_Li_terminals 63 = .ok (.goto (-59), 3) := by decide +kernel
theorem d_Li_terminals_66 : decode b_Li_terminals 66 = .ok (.iload_n 1, 1) := by decide +kernel
theorem d_Li_terminals_67 : decode b_Li_terminals 67 = .ok (.ireturn, 1) := by decide +kernel
theorem d_Li_treesBefore_0 : decode b_Li_treesBefore 0 = .ok (.lconst 0, 1) := by decide +kernel
theorem d_Li_treesBefore_1 : decode b_Li_treesBefore 1 = .ok (.lstore_n 3, 1) := by decide +kernel
theorem d_Li_treesBefore_2 : decode b_Li_treesBefore 2 = .ok (.iconst 0, 1) := by decide +kernel
theorem d_Li_treesBefore_3 : decode b_Li_treesBefore 3 = .ok (.istore 5, 2) := by decide +kernel
theorem d_Li_treesBefore_5 : decode b_Li_treesBefore 5 = .ok (.iload 5, 2) := by decide +kernel
theorem d_Li_treesBefore_7 : decode b_Li_treesBefore 7 = .ok (.iload_n 1, 1) := by decide +kernel
theorem d_Li_treesBefore_8 : decode b_Li_treesBefore 8 = .ok (.if_icmp .ge 43, 3) := by decide +kernel
theorem d_Li_treesBefore_11 : decode b_Li_treesBefore 11 = .ok (.aload_n 0, 1) := by decide +kernel
theorem d_Li_treesBefore_12 : decode b_Li_treesBefore 12 = .ok (.getfield 15, 3) := by decide +kernel
theorem d_Li_treesBefore_15 : decode b_Li_treesBefore 15 = .ok (.iload 5, 2) := by decide +kernel
theorem d_Li_treesBefore_17 : decode b_Li_treesBefore 17 = .ok (.invokevirtual 87, 3) := by decide +kernel
theorem d_Li_treesBefore_20 : decode b_Li_treesBefore 20 = .ok (.aload_n 0, 1) := by decide +kernel
theorem d_Li_treesBefore_21 : decode b_Li_treesBefore 21 = .ok (.getfield 15, 3) := by decide +kernel
theorem d_Li_treesBefore_24 : decode b_Li_treesBefore 24 = .ok (.iload_n 1, 1) := by decide +kernel
theorem d_Li_treesBefore_25 : decode b_Li_treesBefore 25 = .ok (.invokevirtual 87, 3) := by decide +kernel
theorem d_Li_treesBefore_28 : decode b_Li_treesBefore 28 = .ok (.if_icmp .ne 17, 3) := by decide +kernel
theorem d_Li_treesBefore_31 : decode b_Li_treesBefore 31 = .ok (.lload_n 3, 1) := by decide +kernel
theorem d_Li_treesBefore_32 : decode b_Li_treesBefore 32 = .ok (.aload_n 0, 1) := by decide +kernel
theorem d_Li_treesBefore_33 : decode b_Li_treesBefore 33 = .ok (.getfield 19, 3) := by decide +kernel
theorem d_Li_treesBefore_36 : decode b_Li_treesBefore 36 = .ok (.iload 5, 2) := by decide +kernel
theorem d_Li_treesBefore_38 : decode b_Li_treesBefore 38 = .ok (.iconst 0, 1) := by decide +kernel
theorem d_Li_treesBefore_39 : decode b_Li_treesBefore 39 = .ok (.iload_n 2, 1) := by decide +kernel
theorem d_Li_treesBefore_40 : decode b_Li_treesBefore 40 = .ok (.invokevirtual 94, 3) := by decide +kernel
theorem d_Li_treesBefore_43 : decode b_Li_treesBefore 43 = .ok (.ladd, 1) := by decide +kernel
theorem d_Li_treesBefore_44 : decode b_Li_treesBefore 44 = .ok (.lstore_n 3, 1) := by decide +kernel
theorem d_Li_treesBefore_45 : decode b_Li_treesBefore 45 = .ok (.iinc 5 1, 3) := by decide +kernel
theorem d_Li_treesBefore_48 : decode b_Li_treesBefore 48 = .ok (.goto (-43), 3) := by decide +kernel
theorem d_Li_treesBefore_51 : decode b_Li_treesBefore 51 = .ok (.lload_n 3, 1) := by decide +kernel
theorem d_Li_treesBefore_52 : decode b_Li_treesBefore 52 = .ok (.lreturn, 1) := by decide +kernel
theorem d_Pi_init_0 : decode b_Pi_init 0 = .ok (.aload_n 0, 1) := by decide +kernel

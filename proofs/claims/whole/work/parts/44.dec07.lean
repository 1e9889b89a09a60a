theorem d_Gl_isCounted_15 : decode b_Gl_isCounted 15 = .ok (.getfield 34, 3) := by decide +kernel
theorem d_Gl_isCounted_18 : decode b_Gl_isCounted 18 = .ok (.invokevirtual 118, 3) := by decide +kernel
theorem d_Gl_isCounted_21 : decode b_Gl_isCounted 21 = .ok (.ifCond .ne 7, 3) := by decide +kernel
theorem d_Gl_isCounted_24 : decode b_Gl_isCounted 24 = .ok (.iconst 1, 1) := by decide +kernel
theorem d_Gl_isCounted_25 : decode b_Gl_isCounted 25 = .ok (.goto 4, 3) := by decide +kernel
theorem d_Gl_isCounted_28 : decode b_Gl_isCounted 28 = .ok (.iconst 0, 1) := by decide +kernel
theorem d_Gl_isCounted_29 : decode b_Gl_isCounted 29 = .ok (.ireturn, 1) := by decide +kernel
theorem d_Gl_isNonterminal_0 : decode b_Gl_isNonterminal 0 = .ok (.iload_n 0, 1) := by decide +kernel
theorem d_Gl_isNonterminal_1 : decode b_Gl_isNonterminal 1 = .ok (.ifCond .lt 13, 3) := by decide +kernel
theorem d_Gl_isNonterminal_4 : decode b_Gl_isNonterminal 4 = .ok (.iload_n 0, 1) := by decide +kernel
theorem d_Gl_isNonterminal_5 : decode b_Gl_isNonterminal 5 = .ok (.bipush 8, 2) := by decide +kernel
theorem d_Gl_isNonterminal_7 : decode b_Gl_isNonterminal 7 = .ok (.if_icmp .ge 7, 3) := by decide +kernel
theorem d_Gl_isNonterminal_10 : decode b_Gl_isNonterminal 10 = .ok (.iconst 1, 1) := by decide +kernel
theorem d_Gl_isNonterminal_11 : decode b_Gl_isNonterminal 11 = .ok (.goto 4, 3) := by decide +kernel
theorem d_Gl_isNonterminal_14 : decode b_Gl_isNonterminal 14 = .ok (.iconst 0, 1) := by decide +kernel
theorem d_Gl_isNonterminal_15 : decode b_Gl_isNonterminal 15 = .ok (.ireturn, 1) := by decide +kernel
theorem d_Gl_leaf_0 : decode b_Gl_leaf 0 = .ok (.aload_n 0, 1) := by decide +kernel
theorem d_Gl_leaf_1 : decode b_Gl_leaf 1 = .ok (.getfield 58, 3) := by decide +kernel
theorem d_Gl_leaf_4 : decode b_Gl_leaf 4 = .ok (.iload_n 1, 1) := by decide +kernel
theorem d_Gl_leaf_5 : decode b_Gl_leaf 5 = .ok (.invokevirtual 148, 3) := by decide +kernel
theorem d_Gl_leaf_8 : decode b_Gl_leaf 8 = .ok (.ireturn, 1) := by decide +kernel
theorem d_Gl_list_0 : decode b_Gl_list 0 = .ok (.aload_n 0, 1) := by decide +kernel
theorem d_Gl_list_1 : decode b_Gl_list 1 = .ok (.getfield 65, 3) := by decide +kernel
theorem d_Gl_list_4 : decode b_Gl_list 4 = .ok (.iload_n 1, 1) := by decide +kernel
theorem d_Gl_list_5 : decode b_Gl_list 5 = .ok (.invokevirtual 151, 3) := by decide +kernel
theorem d_Gl_list_8 : decode b_Gl_list 8 = .ok (.ireturn, 1) := by decide +kernel
theorem d_Gl_number_0 : decode b_Gl_number 0 = .ok (.ldc2_w 125, 3) := by decide +kernel
theorem d_Gl_number_3 : decode b_Gl_number 3 = .ok (.lstore_n 2, 1) := by decide +kernel
theorem d_Gl_number_4 : decode b_Gl_number 4 = .ok (.iload_n 1, 1) := by decide +kernel
theorem d_Gl_number_5 : decode b_Gl_number 5 = .ok (.invokestatic 73, 3) := by decide +kernel
theorem d_Gl_number_8 : decode b_Gl_number 8 = .ok (.ifCond .eq 19, 3) := by decide +kernel
theorem d_Gl_number_11 : decode b_Gl_number 11 = .ok (.aload_n 0, 1) := by decide +kernel
theorem d_Gl_number_12 : decode b_Gl_number 12 = .ok (.invokevirtual 153, 3) := by decide +kernel
theorem d_Gl_number_15 : decode b_Gl_number 15 = .ok (.ifCond .ne 12, 3) := by decide +kernel
theorem d_Gl_number_18 : decode b_Gl_number 18 = .ok (.aload_n 0, 1) := by decide +kernel
theorem d_Gl_number_19 : decode b_Gl_number 19 = .ok (.getfield 65, 3) := by decide +kernel
theorem d_Gl_number_22 : decode b_Gl_number 22 = .ok (.iload_n 1, 1) := by decide +kernel
theorem d_Gl_number_23 : decode b_Gl_number 23 = .ok (.invokevirtual 156, 3) := by decide +kernel
theorem d_Gl_number_26 : decode b_Gl_number 26 = .ok (.lstore_n 2, 1) := by decide +kernel
theorem d_Gl_number_27 : decode b_Gl_number 27 = .ok (.aload_n 0, 1) := by decide +kernel
theorem d_Gl_number_28 : decode b_Gl_number 28 = .ok (.getfield 65, 3) := by decide +kernel
theorem d_Gl_number_31 : decode b_Gl_number 31 = .ok (.iconst 0, 1) := by decide +kernel
theorem d_Gl_number_32 : decode b_Gl_number 32 = .ok (.putfield 95, 3) := by decide +kernel
theorem d_Gl_number_35 : decode b_Gl_number 35 = .ok (.lload_n 2, 1) := by decide +kernel
theorem d_Gl_number_36 : decode b_Gl_number 36 = .ok (.lreturn, 1) := by decide +kernel
theorem d_Gl_row_0 : decode b_Gl_row 0 = .ok (.aload_n 0, 1) := by decide +kernel
theorem d_Gl_row_1 : decode b_Gl_row 1 = .ok (.getfield 58, 3) := by decide +kernel
theorem d_Gl_row_4 : decode b_Gl_row 4 = .ok (.iload_n 1, 1) := by decide +kernel
theorem d_Gl_row_5 : decode b_Gl_row 5 = .ok (.invokevirtual 145, 3) := by decide +kernel
theorem d_Gl_row_8 : decode b_Gl_row 8 = .ok (.ireturn, 1) := by decide +kernel
theorem d_Gl_rule_0 : decode b_Gl_rule 0 = .ok (.aload_n 0, 1) := by decide +kernel
theorem d_Gl_rule_1 : decode b_Gl_rule 1 = .ok (.getfield 69, 3) := by decide +kernel
theorem d_Gl_rule_4 : decode b_Gl_rule 4 = .ok (.istore_n 2, 1) := by decide +kernel
theorem d_Gl_rule_5 : decode b_Gl_rule 5 = .ok (.aload_n 0, 1) := by decide +kernel
theorem d_Gl_rule_6 : decode b_Gl_rule 6 = .ok (.iconst 0, 1) := by decide +kernel
theorem d_Gl_rule_7 : decode b_Gl_rule 7 = .ok (.putfield 69, 3) := by decide +kernel
theorem d_Gl_rule_10 : decode b_Gl_rule 10 = .ok (.iload_n 1, 1) := by decide +kernel
theorem d_Gl_rule_11 : decode b_Gl_rule 11 = .ok (.invokestatic 73, 3) := by decide +kernel
theorem d_Gl_rule_14 : decode b_Gl_rule 14 = .ok (.ifCond .eq 15, 3) := by decide +kernel
theorem d_Gl_rule_17 : decode b_Gl_rule 17 = .ok (.aload_n 0, 1) := by decide +kernel
theorem d_Gl_rule_18 : decode b_Gl_rule 18 = .ok (.getfield 16, 3) := by decide +kernel
theorem d_Gl_rule_21 : decode b_Gl_rule 21 = .ok (.getfield 77, 3) := by decide +kernel
theorem d_Gl_rule_24 : decode b_Gl_rule 24 = .ok (.bipush 24, 2) := by decide +kernel
theorem d_Gl_rule_26 : decode b_Gl_rule 26 = .ok (.if_icmp .lt 5, 3) := by decide +kernel
theorem d_Gl_rule_29 : decode b_Gl_rule 29 = .ok (.iconst (-1), 1) := by decide +kernel
theorem d_Gl_rule_30 : decode b_Gl_rule 30 = .ok (.ireturn, 1) := by decide +kernel
theorem d_Gl_rule_31 : decode b_Gl_rule 31 = .ok (.aload_n 0, 1) := by decide +kernel
theorem d_Gl_rule_32 : decode b_Gl_rule 32 = .ok (.iconst 0, 1) := by decide +kernel
theorem d_Gl_rule_33 : decode b_Gl_rule 33 = .ok (.putfield 80, 3) := by decide +kernel
theorem d_Gl_rule_36 : decode b_Gl_rule 36 = .ok (.aload_n 0, 1) := by decide +kernel
theorem d_Gl_rule_37 : decode b_Gl_rule 37 = .ok (.getfield 16, 3) := by decide +kernel
theorem d_Gl_rule_40 : decode b_Gl_rule 40 = .ok (.iload_n 1, 1) := by decide +kernel
theorem d_Gl_rule_41 : decode b_Gl_rule 41 = .ok (.aload_n 0, 1) := by decide +kernel
theorem d_Gl_rule_42 : decode b_Gl_rule 42 = .ok (.getfield 9, 3) := by decide +kernel
theorem d_Gl_rule_45 : decode b_Gl_rule 45 = .ok (.iload_n 2, 1) := by decide +kernel
theorem d_Gl_rule_46 : decode b_Gl_rule 46 = .ok (.invokevirtual 84, 3) := by decide +kernel
theorem d_Gl_rule_49 : decode b_Gl_rule 49 = .ok (.ireturn, 1) := by decide +kernel
theorem d_Gl_shortest_0 : decode b_Gl_shortest 0 = .ok (.iload_n 1, 1) := by decide +kernel
theorem d_Gl_shortest_1 : decode b_Gl_shortest 1 = .ok (.invokestatic 73, 3) := by decide +kernel
theorem d_Gl_shortest_4 : decode b_Gl_shortest 4 = .ok (.ifCond .ne 5, 3) := by decide +kernel
theorem d_Gl_shortest_7 : decode b_Gl_shortest 7 = .ok (.iconst (-1), 1) := by decide +kernel
theorem d_Gl_shortest_8 : decode b_Gl_shortest 8 = .ok (.ireturn, 1) := by decide +kernel
theorem d_Gl_shortest_9 : decode b_Gl_shortest 9 = .ok (.aload_n 0, 1) := by decide +kernel
theorem d_Gl_shortest_10 : decode b_Gl_shortest 10 = .ok (.invokevirtual 109, 3) := by decide +kernel
theorem d_Gl_shortest_13 : decode b_Gl_shortest 13 = .ok (.aload_n 0, 1) := by decide +kernel
theorem d_Gl_shortest_14 : decode b_Gl_shortest 14 = .ok (.getfield 25, 3) := by decide +kernel
theorem d_Gl_shortest_17 : decode b_Gl_shortest 17 = .ok (.iload_n 1, 1) := by decide +kernel
theorem d_Gl_shortest_18 : decode b_Gl_shortest 18 = .ok (.invokevirtual 112, 3) := by decide +kernel
theorem d_Gl_shortest_21 : decode b_Gl_shortest 21 = .ok (.ireturn, 1) := by decide +kernel
theorem d_Gl_shortestWith_0 : decode b_Gl_shortestWith 0 = .ok (.aload_n 0, 1) := by decide +kernel
theorem d_Gl_shortestWith_1 : decode b_Gl_shortestWith 1 = .ok (.getfield 16, 3) := by decide +kernel
theorem d_Gl_shortestWith_4 : decode b_Gl_shortestWith 4 = .ok (.iload_n 1, 1) := by decide +kernel
theorem d_Gl_shortestWith_5 : decode b_Gl_shortestWith 5 = .ok (.invokevirtual 88, 3) := by decide +kernel
theorem d_Gl_shortestWith_8 : decode b_Gl_shortestWith 8 = .ok (.ifCond .ne 5, 3) := by decide +kernel
theorem d_Gl_shortestWith_11 : decode b_Gl_shortestWith 11 = .ok (.iconst (-1), 1) := by decide +kernel
theorem d_Gl_shortestWith_12 : decode b_Gl_shortestWith 12 = .ok (.ireturn, 1) := by decide +kernel
theorem d_Gl_shortestWith_13 : decode b_Gl_shortestWith 13 = .ok (.aload_n 0, 1) := by decide +kernel
theorem d_Gl_shortestWith_14 : decode b_Gl_shortestWith 14 = .ok (.invokevirtual 109, 3) := by decide +kernel
theorem d_Gl_shortestWith_17 : decode b_Gl_shortestWith 17 = .ok (.aload_n 0, 1) := by decide +kernel
theorem d_Gl_shortestWith_18 : decode b_Gl_shortestWith 18 = .ok (.getfield 25, 3) := by decide +kernel
theorem d_Gl_shortestWith_21 : decode b_Gl_shortestWith 21 = .ok (.iload_n 1, 1) := by decide +kernel
theorem d_Gl_shortestWith_22 : decode b_Gl_shortestWith 22 = .ok (.invokevirtual 115, 3) := by decide +kernel
theorem d_Gl_shortestWith_25 : decode b_Gl_shortestWith 25 = .ok (.ireturn, 1) := by decide +kernel
theorem d_Gl_study_0 : decode b_Gl_study 0 = .ok (.aload_n 0, 1) := by decide +kernel
theorem d_Gl_study_1 : decode b_Gl_study 1 = .ok (.getfield 80, 3) := by decide +kernel
theorem d_Gl_study_4 : decode b_Gl_study 4 = .ok (.ifCond .eq 4, 3) := by decide +kernel
theorem d_Gl_study_7 : decode b_Gl_study 7 = .ok (.return_, 1) := by decide +kernel
theorem d_Gl_study_8 : decode b_Gl_study 8 = .ok (.aload_n 0, 1) := by decide +kernel
theorem d_Gl_study_9 : decode b_Gl_study 9 = .ok (.iconst 1, 1) := by decide +kernel
theorem d_Gl_study_10 : decode b_Gl_study 10 = .ok (.putfield 80, 3) := by decide +kernel
theorem d_Gl_study_13 : decode b_Gl_study 13 = .ok (.aload_n 0, 1) := by decide +kernel
theorem d_Gl_study_14 : decode b_Gl_study 14 = .ok (.getfield 25, 3) := by decide +kernel
theorem d_Gl_study_17 : decode b_Gl_study 17 = .ok (.invokevirtual 160, 3) := by decide +kernel
theorem d_Gl_study_20 : decode b_Gl_study 20 = .ok (.aload_n 0, 1) := by decide +kernel
theorem d_Gl_study_21 : decode b_Gl_study 21 = .ok (.getfield 34, 3) := by decide +kernel
theorem d_Gl_study_24 : decode b_Gl_study 24 = .ok (.invokevirtual 163, 3) := by decide +kernel
theorem d_Gl_study_27 : decode b_Gl_study 27 = .ok (.aload_n 0, 1) := by decide +kernel
theorem d_Gl_study_28 : decode b_Gl_study 28 = .ok (.getfield 43, 3) := by decide +kernel
theorem d_Gl_study_31 : decode b_Gl_study 31 = .ok (.invokevirtual 164, 3) := by decide +kernel
theorem d_Gl_study_34 : decode b_Gl_study 34 = .ok (.aload_n 0, 1) := by decide +kernel
theorem d_Gl_study_35 : decode b_Gl_study 35 = .ok (.getfield 47, 3) := by decide +kernel
theorem d_Gl_study_38 : decode b_Gl_study 38 = .ok (.invokevirtual 164, 3) := by decide +kernel
theorem d_Gl_study_41 : decode b_Gl_study 41 = .ok (.return_, 1) := by decide +kernel
theorem d_Gl_symbol_0 : decode b_Gl_symbol 0 = .ok (.iload_n 1, 1) := by decide +kernel
theorem d_Gl_symbol_1 : decode b_Gl_symbol 1 = .ok (.ifCond .lt 18, 3) := by decide +kernel
theorem d_Gl_symbol_4 : decode b_Gl_symbol 4 = .ok (.iload_n 1, 1) := by decide +kernel
theorem d_Gl_symbol_5 : decode b_Gl_symbol 5 = .ok (.bipush 24, 2) := by decide +kernel
theorem d_Gl_symbol_7 : decode b_Gl_symbol 7 = .ok (.if_icmp .ge 12, 3) := by decide +kernel
theorem d_Gl_symbol_10 : decode b_Gl_symbol 10 = .ok (.aload_n 0, 1) := by decide +kernel
theorem d_Gl_symbol_11 : decode b_Gl_symbol 11 = .ok (.getfield 69, 3) := by decide +kernel
theorem d_Gl_symbol_14 : decode b_Gl_symbol 14 = .ok (.bipush 6, 2) := by decide +kernel
theorem d_Gl_symbol_16 : decode b_Gl_symbol 16 = .ok (.if_icmp .lt 5, 3) := by decide +kernel
theorem d_Gl_symbol_19 : decode b_Gl_symbol 19 = .ok (.iconst (-1), 1) := by decide +kernel
theorem d_Gl_symbol_20 : decode b_Gl_symbol 20 = .ok (.ireturn, 1) := by decide +kernel
theorem d_Gl_symbol_21 : decode b_Gl_symbol 21 = .ok (.aload_n 0, 1) := by decide +kernel
theorem d_Gl_symbol_22 : decode b_Gl_symbol 22 = .ok (.getfield 9, 3) := by decide +kernel
theorem d_Gl_symbol_25 : decode b_Gl_symbol 25 = .ok (.aload_n 0, 1) := by decide +kernel
theorem d_Gl_symbol_26 : decode b_Gl_symbol 26 = .ok (.getfield 69, 3) := by decide +kernel
theorem d_Gl_symbol_29 : decode b_Gl_symbol 29 = .ok (.iload_n 1, 1) := by decide +kernel
theorem d_Gl_symbol_30 : decode b_Gl_symbol 30 = .ok (.iastore, 1) := by decide +kernel
theorem d_Gl_symbol_31 : decode b_Gl_symbol 31 = .ok (.aload_n 0, 1) := by decide +kernel
theorem d_Gl_symbol_32 : decode b_Gl_symbol 32 = .ok (.dup, 1) := by decide +kernel
theorem d_Gl_symbol_33 : decode b_Gl_symbol 33 = .ok (.getfield 69, 3) := by decide +kernel
theorem d_Gl_symbol_36 : decode b_Gl_symbol 36 = .ok (.iconst 1, 1) := by decide +kernel
theorem d_Gl_symbol_37 : decode b_Gl_symbol 37 = .ok (.iadd, 1) := by decide +kernel
theorem d_Gl_symbol_38 : decode b_Gl_symbol 38 = .ok (.putfield 69, 3) := by decide +kernel
theorem d_Gl_symbol_41 : decode b_Gl_symbol 41 = .ok (.aload_n 0, 1) := by decide +kernel
theorem d_Gl_symbol_42 : decode b_Gl_symbol 42 = .ok (.getfield 69, 3) := by decide +kernel
theorem d_Gl_symbol_45 : decode b_Gl_symbol 45 = .ok (.ireturn, 1) := by decide +kernel
theorem d_Gl_trees_0 : decode b_Gl_trees 0 = .ok (.iload_n 1, 1) := by decide +kernel
theorem d_Gl_trees_1 : decode b_Gl_trees 1 = .ok (.invokestatic 73, 3) := by decide +kernel
theorem d_Gl_trees_4 : decode b_Gl_trees 4 = .ok (.ifCond .eq 11, 3) := by decide +kernel
theorem d_Gl_trees_7 : decode b_Gl_trees 7 = .ok (.aload_n 0, 1) := by decide +kernel
theorem d_Gl_trees_8 : decode b_Gl_trees 8 = .ok (.iload_n 2, 1) := by decide +kernel
theorem d_Gl_trees_9 : decode b_Gl_trees 9 = .ok (.invokevirtual 122, 3) := by decide +kernel
theorem d_Gl_trees_12 : decode b_Gl_trees 12 = .ok (.ifCond .ne 7, 3) := by decide +kernel
theorem d_Gl_trees_15 : decode b_Gl_trees 15 = .ok (.ldc2_w 125, 3) := by decide +kernel
theorem d_Gl_trees_18 : decode b_Gl_trees 18 = .ok (.lreturn, 1) := by decide +kernel
theorem d_Gl_trees_19 : decode b_Gl_trees 19 = .ok (.aload_n 0, 1) := by decide +kernel
theorem d_Gl_trees_20 : decode b_Gl_trees 20 = .ok (.getfield 43, 3) := by decide +kernel
theorem d_Gl_trees_23 : decode b_Gl_trees 23 = .ok (.iload_n 1, 1) := by decide +kernel
theorem d_Gl_trees_24 : decode b_Gl_trees 24 = .ok (.iload_n 2, 1) := by decide +kernel
theorem d_Gl_trees_25 : decode b_Gl_trees 25 = .ok (.invokevirtual 127, 3) := by decide +kernel
theorem d_Gl_trees_28 : decode b_Gl_trees 28 = .ok (.lstore_n 3, 1) := by decide +kernel
theorem d_Gl_trees_29 : decode b_Gl_trees 29 = .ok (.lload_n 3, 1) := by decide +kernel
theorem d_Gl_trees_30 : decode b_Gl_trees 30 = .ok (.ldc2_w 131, 3) := by decide +kernel
theorem d_Gl_trees_33 : decode b_Gl_trees 33 = .ok (.lcmp, 1) := by decide +kernel
theorem d_Gl_trees_34 : decode b_Gl_trees 34 = .ok (.ifCond .le 9, 3) := by decide +kernel
theorem d_Gl_trees_37 : decode b_Gl_trees 37 = .ok (.ldc2_w 133, 3) := by decide +kernel
theorem d_Gl_trees_40 : decode b_Gl_trees 40 = .ok (.goto 4, 3) := by decide +kernel
theorem d_Gl_trees_43 : decode b_Gl_trees 43 = .ok (.lload_n 3, 1) := by decide +kernel
theorem d_Gl_trees_44 : decode b_Gl_trees 44 = .ok (.lreturn, 1) := by decide +kernel
theorem d_Gl_treesWith_0 : decode b_Gl_treesWith 0 = .ok (.aload_n 0, 1) := by decide +kernel
theorem d_Gl_treesWith_1 : decode b_Gl_treesWith 1 = .ok (.getfield 16, 3) := by decide +kernel
theorem d_Gl_treesWith_4 : decode b_Gl_treesWith 4 = .ok (.iload_n 1, 1) := by decide +kernel
theorem d_Gl_treesWith_5 : decode b_Gl_treesWith 5 = .ok (.invokevirtual 88, 3) := by decide +kernel
theorem d_Gl_treesWith_8 : decode b_Gl_treesWith 8 = .ok (.ifCond .eq 11, 3) := by decide +kernel
theorem d_Gl_treesWith_11 : decode b_Gl_treesWith 11 = .ok (.aload_n 0, 1) := by decide +kernel
theorem d_Gl_treesWith_12 : decode b_Gl_treesWith 12 = .ok (.iload_n 2, 1) := by decide +kernel
theorem d_Gl_treesWith_13 : decode b_Gl_treesWith 13 = .ok (.invokevirtual 122, 3) := by decide +kernel
theorem d_Gl_treesWith_16 : decode b_Gl_treesWith 16 = .ok (.ifCond .ne 7, 3) := by decide +kernel
theorem d_Gl_treesWith_19 : decode b_Gl_treesWith 19 = .ok (.ldc2_w 125, 3) := by decide +kernel
theorem d_Gl_treesWith_22 : decode b_Gl_treesWith 22 = .ok (.lreturn, 1) := by decide +kernel
theorem d_Gl_treesWith_23 : decode b_Gl_treesWith 23 = .ok (.aload_n 0, 1) := by decide +kernel
theorem d_Gl_treesWith_24 : decode b_Gl_treesWith 24 = .ok (.getfield 43, 3) := by decide +kernel
theorem d_Gl_treesWith_27 : decode b_Gl_treesWith 27 = .ok (.iconst 0, 1) := by decide +kernel
theorem d_Gl_treesWith_28 : decode b_Gl_treesWith 28 = .ok (.iload_n 2, 1) := by decide +kernel
theorem d_Gl_treesWith_29 : decode b_Gl_treesWith 29 = .ok (.invokevirtual 127, 3) := by decide +kernel
theorem d_Gl_treesWith_32 : decode b_Gl_treesWith 32 = .ok (.lstore_n 3, 1) := by decide +kernel
theorem d_Gl_treesWith_33 : decode b_Gl_treesWith 33 = .ok (.lload_n 3, 1) := by decide +kernel
theorem d_Gl_treesWith_34 : decode b_Gl_treesWith 34 = .ok (.ldc2_w 131, 3) := by decide +kernel
theorem d_Gl_treesWith_37 : decode b_Gl_treesWith 37 = .ok (.lcmp, 1) := by decide +kernel
theorem d_Gl_treesWith_38 : decode b_Gl_treesWith 38 = .ok (.ifCond .le 7, 3) := by decide +kernel
theorem d_Gl_treesWith_41 : decode b_Gl_treesWith 41 = .ok (.ldc2_w 133, 3) := by decide +kernel
theorem d_Gl_treesWith_44 : decode b_Gl_treesWith 44 = .ok (.lreturn, 1) := by decide +kernel
theorem d_Gl_treesWith_45 : decode b_Gl_treesWith 45 = .ok (.aload_n 0, 1) := by decide +kernel
theorem d_Gl_treesWith_46 : decode b_Gl_treesWith 46 = .ok (.getfield 47, 3) := by decide +kernel
theorem d_Gl_treesWith_49 : decode b_Gl_treesWith 49 = .ok (.iload_n 1, 1) := by decide +kernel
theorem d_Gl_treesWith_50 : decode b_Gl_treesWith 50 = .ok (.invokevirtual 135, 3) := by decide +kernel
theorem d_Gl_treesWith_53 : decode b_Gl_treesWith 53 = .ok (.lload_n 3, 1) := by decide +kernel
theorem d_Gl_treesWith_54 : decode b_Gl_treesWith 54 = .ok (.aload_n 0, 1) := by decide +kernel
theorem d_Gl_treesWith_55 : decode b_Gl_treesWith 55 = .ok (.getfield 47, 3) := by decide +kernel
theorem d_Gl_treesWith_58 : decode b_Gl_treesWith 58 = .ok (.iconst 0, 1) := by decide +kernel
theorem d_Gl_treesWith_59 : decode b_Gl_treesWith 59 = .ok (.iload_n 2, 1) := by decide +kernel
theorem d_Gl_treesWith_60 : decode b_Gl_treesWith 60 = .ok (.invokevirtual 127, 3) := by decide +kernel
theorem d_Gl_treesWith_63 : decode b_Gl_treesWith 63 = .ok (.lsub, 1) := by decide +kernel
theorem d_Gl_treesWith_64 : decode b_Gl_treesWith 64 = .ok (.lreturn, 1) := by decide +kernel
theorem d_Mo_init_0 : decode b_Mo_init 0 = .ok (.aload_n 0, 1) := by decide +kernel
theorem d_Mo_init_1 : decode b_Mo_init 1 = .ok (.invokespecial 1, 3) := by decide +kernel
theorem d_Mo_init_4 : decode b_Mo_init 4 = .ok (.aload_n 0, 1) := by decide +kernel
theorem d_Mo_init_5 : decode b_Mo_init 5 = .ok (.bipush 24, 2) := by decide +kernel
theorem d_Mo_init_7 : decode b_Mo_init 7 = .ok (.newarray .int, 2) := by decide +kernel
theorem d_Mo_init_9 : decode b_Mo_init 9 = .ok (.putfield 7, 3) := by decide +kernel
theorem d_Mo_init_12 : decode b_Mo_init 12 = .ok (.aload_n 0, 1) := by decide +kernel
theorem d_Mo_init_13 : decode b_Mo_init 13 = .ok (.bipush 24, 2) := by decide +kernel
theorem d_Mo_init_15 : decode b_Mo_init 15 = .ok (.newarray .int, 2) := by decide +kernel
theorem d_Mo_init_17 : decode b_Mo_init 17 = .ok (.putfield 13, 3) := by decide +kernel
theorem d_Mo_init_20 : decode b_Mo_init 20 = .ok (.aload_n 0, 1) := by decide +kernel
theorem d_Mo_init_21 : decode b_Mo_init 21 = .ok (.sipush 144, 3) := by decide +kernel
theorem d_Mo_init_24 : decode b_Mo_init 24 = .ok (.newarray .int, 2) := by decide +kernel
theorem d_Mo_init_26 : decode b_Mo_init 26 = .ok (.putfield 16, 3) := by decide +kernel
theorem d_Mo_init_29 : decode b_Mo_init 29 = .ok (.aload_n 0, 1) := by decide +kernel
theorem d_Mo_init_30 : decode b_Mo_init 30 = .ok (.bipush 6, 2) := by decide +kernel
theorem d_Mo_init_32 : decode b_Mo_init 32 = .ok (.newarray .int, 2) := by decide +kernel
theorem d_Mo_init_34 : decode b_Mo_init 34 = .ok (.putfield 19, 3) := by decide +kernel
theorem d_Mo_init_37 : decode b_Mo_init 37 = .ok (.aload_n 0, 1) := by decide +kernel
theorem d_Mo_init_38 : decode b_Mo_init 38 = .ok (.sipush 200, 3) := by decide +kernel
theorem d_Mo_init_41 : decode b_Mo_init 41 = .ok (.newarray .int, 2) := by decide +kernel
theorem d_Mo_init_43 : decode b_Mo_init 43 = .ok (.putfield 22, 3) := by decide +kernel
theorem d_Mo_init_46 : decode b_Mo_init 46 = .ok (.aload_n 0, 1) := by decide +kernel
theorem d_Mo_init_47 : decode b_Mo_init 47 = .ok (.sipush 200, 3) := by decide +kernel
theorem d_Mo_init_50 : decode b_Mo_init 50 = .ok (.newarray .int, 2) := by decide +kernel
theorem d_Mo_init_52 : decode b_Mo_init 52 = .ok (.putfield 25, 3) := by decide +kernel
theorem d_Mo_init_55 : decode b_Mo_init 55 = .ok (.aload_n 0, 1) := by decide +kernel
theorem d_Mo_init_56 : decode b_Mo_init 56 = .ok (.bipush 16, 2) := by decide +kernel
theorem d_Mo_init_58 : decode b_Mo_init 58 = .ok (.newarray .int, 2) := by decide +kernel
theorem d_Mo_init_60 : decode b_Mo_init 60 = .ok (.putfield 28, 3) := by decide +kernel
theorem d_Mo_init_63 : decode b_Mo_init 63 = .ok (.aload_n 0, 1) := by decide +kernel
theorem d_Mo_init_64 : decode b_Mo_init 64 = .ok (.bipush 8, 2) := by decide +kernel
theorem d_Mo_init_66 : decode b_Mo_init 66 = .ok (.newarray .long, 2) := by decide +kernel
theorem d_Mo_init_68 : decode b_Mo_init 68 = .ok (.putfield 31, 3) := by decide +kernel
theorem d_Mo_init_71 : decode b_Mo_init 71 = .ok (.aload_n 0, 1) := by decide +kernel
theorem d_Mo_init_72 : decode b_Mo_init 72 = .ok (.bipush 8, 2) := by decide +kernel
theorem d_Mo_init_74 : decode b_Mo_init 74 = .ok (.newarray .long, 2) := by decide +kernel
theorem d_Mo_init_76 : decode b_Mo_init 76 = .ok (.putfield 35, 3) := by decide +kernel
theorem d_Mo_init_79 : decode b_Mo_init 79 = .ok (.aload_n 0, 1) := by decide +kernel
theorem d_Mo_init_80 : decode b_Mo_init 80 = .ok (.bipush 8, 2) := by decide +kernel
theorem d_Mo_init_82 : decode b_Mo_init 82 = .ok (.newarray .boolean, 2) := by decide +kernel
theorem d_Mo_init_84 : decode b_Mo_init 84 = .ok (.putfield 38, 3) := by decide +kernel
theorem d_Mo_init_87 : decode b_Mo_init 87 = .ok (.aload_n 0, 1) := by decide +kernel

theorem d_Pi_init_1 : decode b_Pi_init 1 = .ok (.invokespecial 3, 3) := by decide +kernel
theorem d_Pi_init_4 : decode b_Pi_init 4 = .ok (.aload_n 0, 1) := by decide +kernel
theorem d_Pi_init_5 : decode b_Pi_init 5 = .ok (.sipush 216, 3) := by decide +kernel
theorem d_Pi_init_8 : decode b_Pi_init 8 = .ok (.newarray .int, 2) := by decide +kernel
theorem d_Pi_init_10 : decode b_Pi_init 10 = .ok (.putfield 11, 3) := by decide +kernel
theorem d_Pi_init_13 : decode b_Pi_init 13 = .ok (.aload_n 0, 1) := by decide +kernel
theorem d_Pi_init_14 : decode b_Pi_init 14 = .ok (.sipush 216, 3) := by decide +kernel
theorem d_Pi_init_17 : decode b_Pi_init 17 = .ok (.newarray .int, 2) := by decide +kernel
theorem d_Pi_init_19 : decode b_Pi_init 19 = .ok (.putfield 15, 3) := by decide +kernel
theorem d_Pi_init_22 : decode b_Pi_init 22 = .ok (.aload_n 0, 1) := by decide +kernel
theorem d_Pi_init_23 : decode b_Pi_init 23 = .ok (.sipush 216, 3) := by decide +kernel
theorem d_Pi_init_26 : decode b_Pi_init 26 = .ok (.newarray .long, 2) := by decide +kernel
theorem d_Pi_init_28 : decode b_Pi_init 28 = .ok (.putfield 18, 3) := by decide +kernel
theorem d_Pi_init_31 : decode b_Pi_init 31 = .ok (.return_, 1) := by decide +kernel
theorem d_Pi_put_0 : decode b_Pi_put 0 = .ok (.iload_n 1, 1) := by decide +kernel
theorem d_Pi_put_1 : decode b_Pi_put 1 = .ok (.ifCond .lt 32, 3) := by decide +kernel
theorem d_Pi_put_4 : decode b_Pi_put 4 = .ok (.iload_n 1, 1) := by decide +kernel
theorem d_Pi_put_5 : decode b_Pi_put 5 = .ok (.sipush 216, 3) := by decide +kernel
theorem d_Pi_put_8 : decode b_Pi_put 8 = .ok (.if_icmp .ge 25, 3) := by decide +kernel
theorem d_Pi_put_11 : decode b_Pi_put 11 = .ok (.aload_n 0, 1) := by decide +kernel
theorem d_Pi_put_12 : decode b_Pi_put 12 = .ok (.getfield 11, 3) := by decide +kernel
theorem d_Pi_put_15 : decode b_Pi_put 15 = .ok (.iload_n 1, 1) := by decide +kernel
theorem d_Pi_put_16 : decode b_Pi_put 16 = .ok (.iload_n 2, 1) := by decide +kernel
theorem d_Pi_put_17 : decode b_Pi_put 17 = .ok (.iastore, 1) := by decide +kernel
theorem d_Pi_put_18 : decode b_Pi_put 18 = .ok (.aload_n 0, 1) := by decide +kernel
theorem d_Pi_put_19 : decode b_Pi_put 19 = .ok (.getfield 15, 3) := by decide +kernel
theorem d_Pi_put_22 : decode b_Pi_put 22 = .ok (.iload_n 1, 1) := by decide +kernel
theorem d_Pi_put_23 : decode b_Pi_put 23 = .ok (.iload_n 3, 1) := by decide +kernel
theorem d_Pi_put_24 : decode b_Pi_put 24 = .ok (.iastore, 1) := by decide +kernel
theorem d_Pi_put_25 : decode b_Pi_put 25 = .ok (.aload_n 0, 1) := by decide +kernel
theorem d_Pi_put_26 : decode b_Pi_put 26 = .ok (.getfield 18, 3) := by decide +kernel
theorem d_Pi_put_29 : decode b_Pi_put 29 = .ok (.iload_n 1, 1) := by decide +kernel
theorem d_Pi_put_30 : decode b_Pi_put 30 = .ok (.lload 4, 2) := by decide +kernel
theorem d_Pi_put_32 : decode b_Pi_put 32 = .ok (.lastore, 1) := by decide +kernel
theorem d_Pi_put_33 : decode b_Pi_put 33 = .ok (.return_, 1) := by decide +kernel
theorem d_We_init_0 : decode b_We_init 0 = .ok (.aload_n 0, 1) := by decide +kernel
theorem d_We_init_1 : decode b_We_init 1 = .ok (.invokespecial 3, 3) := by decide +kernel
theorem d_We_init_4 : decode b_We_init 4 = .ok (.aload_n 0, 1) := by decide +kernel
theorem d_We_init_5 : decode b_We_init 5 = .ok (.new 9, 3) := by decide +kernel
theorem d_We_init_8 : decode b_We_init 8 = .ok (.dup, 1) := by decide +kernel
theorem d_We_init_9 : decode b_We_init 9 = .ok (.invokespecial 11, 3) := by decide +kernel
theorem d_We_init_12 : decode b_We_init 12 = .ok (.putfield 12, 3) := by decide +kernel
theorem d_We_init_15 : decode b_We_init 15 = .ok (.aload_n 0, 1) := by decide +kernel
theorem d_We_init_16 : decode b_We_init 16 = .ok (.new 9, 3) := by decide +kernel
theorem d_We_init_19 : decode b_We_init 19 = .ok (.dup, 1) := by decide +kernel
theorem d_We_init_20 : decode b_We_init 20 = .ok (.invokespecial 11, 3) := by decide +kernel
theorem d_We_init_23 : decode b_We_init 23 = .ok (.putfield 18, 3) := by decide +kernel
theorem d_We_init_26 : decode b_We_init 26 = .ok (.aload_n 0, 1) := by decide +kernel
theorem d_We_init_27 : decode b_We_init 27 = .ok (.aload_n 1, 1) := by decide +kernel
theorem d_We_init_28 : decode b_We_init 28 = .ok (.putfield 21, 3) := by decide +kernel
theorem d_We_init_31 : decode b_We_init 31 = .ok (.aload_n 0, 1) := by decide +kernel
theorem d_We_init_32 : decode b_We_init 32 = .ok (.aload_n 2, 1) := by decide +kernel
theorem d_We_init_33 : decode b_We_init 33 = .ok (.putfield 25, 3) := by decide +kernel
theorem d_We_init_36 : decode b_We_init 36 = .ok (.aload_n 0, 1) := by decide +kernel
theorem d_We_init_37 : decode b_We_init 37 = .ok (.aload_n 3, 1) := by decide +kernel
theorem d_We_init_38 : decode b_We_init 38 = .ok (.putfield 29, 3) := by decide +kernel
theorem d_We_init_41 : decode b_We_init 41 = .ok (.return_, 1) := by decide +kernel
theorem d_We_leafAt_0 : decode b_We_leafAt 0 = .ok (.iload_n 1, 1) := by decide +kernel
theorem d_We_leafAt_1 : decode b_We_leafAt 1 = .ok (.ifCond .lt 26, 3) := by decide +kernel
theorem d_We_leafAt_4 : decode b_We_leafAt 4 = .ok (.iload_n 1, 1) := by decide +kernel
theorem d_We_leafAt_5 : decode b_We_leafAt 5 = .ok (.aload_n 0, 1) := by decide +kernel
theorem d_We_leafAt_6 : decode b_We_leafAt 6 = .ok (.getfield 12, 3) := by decide +kernel
theorem d_We_leafAt_9 : decode b_We_leafAt 9 = .ok (.getfield 41, 3) := by decide +kernel
theorem d_We_leafAt_12 : decode b_We_leafAt 12 = .ok (.if_icmp .ge 15, 3) := by decide +kernel
theorem d_We_leafAt_15 : decode b_We_leafAt 15 = .ok (.aload_n 0, 1) := by decide +kernel
theorem d_We_leafAt_16 : decode b_We_leafAt 16 = .ok (.getfield 12, 3) := by decide +kernel
theorem d_We_leafAt_19 : decode b_We_leafAt 19 = .ok (.getfield 44, 3) := by decide +kernel
theorem d_We_leafAt_22 : decode b_We_leafAt 22 = .ok (.iload_n 1, 1) := by decide +kernel
theorem d_We_leafAt_23 : decode b_We_leafAt 23 = .ok (.iaload, 1) := by decide +kernel
theorem d_We_leafAt_24 : decode b_We_leafAt 24 = .ok (.goto 4, 3) := by decide +kernel
theorem d_We_leafAt_27 : decode b_We_leafAt 27 = .ok (.iconst (-1), 1) := by decide +kernel
theorem d_We_leafAt_28 : decode b_We_leafAt 28 = .ok (.ireturn, 1) := by decide +kernel
theorem d_We_ruleAt_0 : decode b_We_ruleAt 0 = .ok (.iload_n 1, 1) := by decide +kernel
theorem d_We_ruleAt_1 : decode b_We_ruleAt 1 = .ok (.ifCond .lt 26, 3) := by decide +kernel
theorem d_We_ruleAt_4 : decode b_We_ruleAt 4 = .ok (.iload_n 1, 1) := by decide +kernel
theorem d_We_ruleAt_5 : decode b_We_ruleAt 5 = .ok (.aload_n 0, 1) := by decide +kernel
theorem d_We_ruleAt_6 : decode b_We_ruleAt 6 = .ok (.getfield 12, 3) := by decide +kernel
theorem d_We_ruleAt_9 : decode b_We_ruleAt 9 = .ok (.getfield 33, 3) := by decide +kernel
theorem d_We_ruleAt_12 : decode b_We_ruleAt 12 = .ok (.if_icmp .ge 15, 3) := by decide +kernel
theorem d_We_ruleAt_15 : decode b_We_ruleAt 15 = .ok (.aload_n 0, 1) := by decide +kernel
theorem d_We_ruleAt_16 : decode b_We_ruleAt 16 = .ok (.getfield 12, 3) := by decide +kernel
theorem d_We_ruleAt_19 : decode b_We_ruleAt 19 = .ok (.getfield 37, 3) := by decide +kernel
theorem d_We_ruleAt_22 : decode b_We_ruleAt 22 = .ok (.iload_n 1, 1) := by decide +kernel
theorem d_We_ruleAt_23 : decode b_We_ruleAt 23 = .ok (.iaload, 1) := by decide +kernel
theorem d_We_ruleAt_24 : decode b_We_ruleAt 24 = .ok (.goto 4, 3) := by decide +kernel
theorem d_We_ruleAt_27 : decode b_We_ruleAt 27 = .ok (.iconst (-1), 1) := by decide +kernel
theorem d_We_ruleAt_28 : decode b_We_ruleAt 28 = .ok (.ireturn, 1) := by decide +kernel
theorem d_We_unfold_0 : decode b_We_unfold 0 = .ok (.lload_n 3, 1) := by decide +kernel
theorem d_We_unfold_1 : decode b_We_unfold 1 = .ok (.lstore 5, 2) := by decide +kernel
theorem d_We_unfold_3 : decode b_We_unfold 3 = .ok (.iconst 0, 1) := by decide +kernel
theorem d_We_unfold_4 : decode b_We_unfold 4 = .ok (.istore 7, 2) := by decide +kernel
theorem d_We_unfold_6 : decode b_We_unfold 6 = .ok (.iload 7, 2) := by decide +kernel
theorem d_We_unfold_8 : decode b_We_unfold 8 = .ok (.aload_n 0, 1) := by decide +kernel
theorem d_We_unfold_9 : decode b_We_unfold 9 = .ok (.getfield 21, 3) := by decide +kernel
theorem d_We_unfold_12 : decode b_We_unfold 12 = .ok (.getfield 84, 3) := by decide +kernel
theorem d_We_unfold_15 : decode b_We_unfold 15 = .ok (.if_icmp .ge 60, 3) := by decide +kernel
theorem d_We_unfold_18 : decode b_We_unfold 18 = .ok (.aload_n 0, 1) := by decide +kernel
theorem d_We_unfold_19 : decode b_We_unfold 19 = .ok (.getfield 21, 3) := by decide +kernel
theorem d_We_unfold_22 : decode b_We_unfold 22 = .ok (.iload 7, 2) := by decide +kernel
theorem d_We_unfold_24 : decode b_We_unfold 24 = .ok (.invokevirtual 88, 3) := by decide +kernel
theorem d_We_unfold_27 : decode b_We_unfold 27 = .ok (.iload_n 1, 1) := by decide +kernel
theorem d_We_unfold_28 : decode b_We_unfold 28 = .ok (.if_icmp .ne 41, 3) := by decide +kernel
theorem d_We_unfold_31 : decode b_We_unfold 31 = .ok (.aload_n 0, 1) := by decide +kernel
theorem d_We_unfold_32 : decode b_We_unfold 32 = .ok (.getfield 25, 3) := by decide +kernel
theorem d_We_unfold_35 : decode b_We_unfold 35 = .ok (.iload 7, 2) := by decide +kernel
theorem d_We_unfold_37 : decode b_We_unfold 37 = .ok (.iconst 0, 1) := by decide +kernel
theorem d_We_unfold_38 : decode b_We_unfold 38 = .ok (.iload_n 2, 1) := by decide +kernel
theorem d_We_unfold_39 : decode b_We_unfold 39 = .ok (.invokevirtual 92, 3) := by decide +kernel
theorem d_We_unfold_42 : decode b_We_unfold 42 = .ok (.lstore 8, 2) := by decide +kernel
theorem d_We_unfold_44 : decode b_We_unfold 44 = .ok (.lload 5, 2) := by decide +kernel
theorem d_We_unfold_46 : decode b_We_unfold 46 = .ok (.lload 8, 2) := by decide +kernel
theorem d_We_unfold_48 : decode b_We_unfold 48 = .ok (.lcmp, 1) := by decide +kernel
theorem d_We_unfold_49 : decode b_We_unfold 49 = .ok (.ifCond .ge 13, 3) := by decide +kernel
theorem d_We_unfold_52 : decode b_We_unfold 52 = .ok (.aload_n 0, 1) := by decide +kernel
theorem d_We_unfold_53 : decode b_We_unfold 53 = .ok (.iload 7, 2) := by decide +kernel
theorem d_We_unfold_55 : decode b_We_unfold 55 = .ok (.iload_n 2, 1) := by decide +kernel
theorem d_We_unfold_56 : decode b_We_unfold 56 = .ok (.lload 5, 2) := by decide +kernel
theorem d_We_unfold_58 : decode b_We_unfold 58 = .ok (.invokevirtual 98, 3) := by decide +kernel
theorem d_We_unfold_61 : decode b_We_unfold 61 = .ok (.ireturn, 1) := by decide +kernel
theorem d_We_unfold_62 : decode b_We_unfold 62 = .ok (.lload 5, 2) := by decide +kernel
theorem d_We_unfold_64 : decode b_We_unfold 64 = .ok (.lload 8, 2) := by decide +kernel
theorem d_We_unfold_66 : decode b_We_unfold 66 = .ok (.lsub, 1) := by decide +kernel
theorem d_We_unfold_67 : decode b_We_unfold 67 = .ok (.lstore 5, 2) := by decide +kernel
theorem d_We_unfold_69 : decode b_We_unfold 69 = .ok (.iinc 7 1, 3) := by decide +kernel
theorem d_We_unfold_72 : decode b_We_unfold 72 = .ok (.goto (-66), 3) := by decide +kernel
theorem d_We_unfold_75 : decode b_We_unfold 75 = .ok (.iconst 0, 1) := by decide +kernel
theorem d_We_unfold_76 : decode b_We_unfold 76 = .ok (.ireturn, 1) := by decide +kernel
theorem d_We_unfoldRule_0 : decode b_We_unfoldRule 0 = .ok (.aload_n 0, 1) := by decide +kernel
theorem d_We_unfoldRule_1 : decode b_We_unfoldRule 1 = .ok (.dup, 1) := by decide +kernel
theorem d_We_unfoldRule_2 : decode b_We_unfoldRule 2 = .ok (.getfield 59, 3) := by decide +kernel
theorem d_We_unfoldRule_5 : decode b_We_unfoldRule 5 = .ok (.aload_n 0, 1) := by decide +kernel
theorem d_We_unfoldRule_6 : decode b_We_unfoldRule 6 = .ok (.getfield 21, 3) := by decide +kernel
theorem d_We_unfoldRule_9 : decode b_We_unfoldRule 9 = .ok (.iload_n 1, 1) := by decide +kernel
theorem d_We_unfoldRule_10 : decode b_We_unfoldRule 10 = .ok (.invokevirtual 101, 3) := by decide +kernel
theorem d_We_unfoldRule_13 : decode b_We_unfoldRule 13 = .ok (.iconst 1, 1) := by decide +kernel
theorem d_We_unfoldRule_14 : decode b_We_unfoldRule 14 = .ok (.isub, 1) := by decide +kernel
theorem d_We_unfoldRule_15 : decode b_We_unfoldRule 15 = .ok (.iadd, 1) := by decide +kernel
theorem d_We_unfoldRule_16 : decode b_We_unfoldRule 16 = .ok (.putfield 59, 3) := by decide +kernel
theorem d_We_unfoldRule_19 : decode b_We_unfoldRule 19 = .ok (.aload_n 0, 1) := by decide +kernel
theorem d_We_unfoldRule_20 : decode b_We_unfoldRule 20 = .ok (.getfield 18, 3) := by decide +kernel
theorem d_We_unfoldRule_23 : decode b_We_unfoldRule 23 = .ok (.getfield 33, 3) := by decide +kernel
theorem d_We_unfoldRule_26 : decode b_We_unfoldRule 26 = .ok (.iconst 1, 1) := by decide +kernel
theorem d_We_unfoldRule_27 : decode b_We_unfoldRule 27 = .ok (.iadd, 1) := by decide +kernel
theorem d_We_unfoldRule_28 : decode b_We_unfoldRule 28 = .ok (.aload_n 0, 1) := by decide +kernel
theorem d_We_unfoldRule_29 : decode b_We_unfoldRule 29 = .ok (.getfield 59, 3) := by decide +kernel
theorem d_We_unfoldRule_32 : decode b_We_unfoldRule 32 = .ok (.iadd, 1) := by decide +kernel
theorem d_We_unfoldRule_33 : decode b_We_unfoldRule 33 = .ok (.sipush 200, 3) := by decide +kernel
theorem d_We_unfoldRule_36 : decode b_We_unfoldRule 36 = .ok (.if_icmp .le 5, 3) := by decide +kernel
theorem d_We_unfoldRule_39 : decode b_We_unfoldRule 39 = .ok (.iconst 0, 1) := by decide +kernel
theorem d_We_unfoldRule_40 : decode b_We_unfoldRule 40 = .ok (.ireturn, 1) := by decide +kernel
theorem d_We_unfoldRule_41 : decode b_We_unfoldRule 41 = .ok (.aload_n 0, 1) := by decide +kernel
theorem d_We_unfoldRule_42 : decode b_We_unfoldRule 42 = .ok (.getfield 18, 3) := by decide +kernel
theorem d_We_unfoldRule_45 : decode b_We_unfoldRule 45 = .ok (.iload_n 1, 1) := by decide +kernel
theorem d_We_unfoldRule_46 : decode b_We_unfoldRule 46 = .ok (.invokevirtual 104, 3) := by decide +kernel
theorem d_We_unfoldRule_49 : decode b_We_unfoldRule 49 = .ok (.aload_n 0, 1) := by decide +kernel
theorem d_We_unfoldRule_50 : decode b_We_unfoldRule 50 = .ok (.getfield 21, 3) := by decide +kernel
theorem d_We_unfoldRule_53 : decode b_We_unfoldRule 53 = .ok (.iload_n 1, 1) := by decide +kernel
theorem d_We_unfoldRule_54 : decode b_We_unfoldRule 54 = .ok (.invokevirtual 107, 3) := by decide +kernel
theorem d_We_unfoldRule_57 : decode b_We_unfoldRule 57 = .ok (.istore 5, 2) := by decide +kernel
theorem d_We_unfoldRule_59 : decode b_We_unfoldRule 59 = .ok (.iload_n 2, 1) := by decide +kernel
theorem d_We_unfoldRule_60 : decode b_We_unfoldRule 60 = .ok (.istore 6, 2) := by decide +kernel
theorem d_We_unfoldRule_62 : decode b_We_unfoldRule 62 = .ok (.lload_n 3, 1) := by decide +kernel
theorem d_We_unfoldRule_63 : decode b_We_unfoldRule 63 = .ok (.lstore 7, 2) := by decide +kernel
theorem d_We_unfoldRule_65 : decode b_We_unfoldRule 65 = .ok (.iconst 0, 1) := by decide +kernel
theorem d_We_unfoldRule_66 : decode b_We_unfoldRule 66 = .ok (.istore 9, 2) := by decide +kernel
theorem d_We_unfoldRule_68 : decode b_We_unfoldRule 68 = .ok (.iload 9, 2) := by decide +kernel
theorem d_We_unfoldRule_70 : decode b_We_unfoldRule 70 = .ok (.iload 5, 2) := by decide +kernel
theorem d_We_unfoldRule_72 : decode b_We_unfoldRule 72 = .ok (.if_icmp .ge 145, 3) := by decide +kernel
theorem d_We_unfoldRule_75 : decode b_We_unfoldRule 75 = .ok (.iconst 0, 1) := by decide +kernel
theorem d_We_unfoldRule_76 : decode b_We_unfoldRule 76 = .ok (.istore 10, 2) := by decide +kernel
theorem d_We_unfoldRule_78 : decode b_We_unfoldRule 78 = .ok (.aload_n 0, 1) := by decide +kernel
theorem d_We_unfoldRule_79 : decode b_We_unfoldRule 79 = .ok (.getfield 25, 3) := by decide +kernel
theorem d_We_unfoldRule_82 : decode b_We_unfoldRule 82 = .ok (.iload_n 1, 1) := by decide +kernel
theorem d_We_unfoldRule_83 : decode b_We_unfoldRule 83 = .ok (.iload 9, 2) := by decide +kernel
theorem d_We_unfoldRule_85 : decode b_We_unfoldRule 85 = .ok (.iload 10, 2) := by decide +kernel
theorem d_We_unfoldRule_87 : decode b_We_unfoldRule 87 = .ok (.iload 6, 2) := by decide +kernel
theorem d_We_unfoldRule_89 : decode b_We_unfoldRule 89 = .ok (.invokevirtual 110, 3) := by decide +kernel
theorem d_We_unfoldRule_92 : decode b_We_unfoldRule 92 = .ok (.lstore 11, 2) := by decide +kernel
theorem d_We_unfoldRule_94 : decode b_We_unfoldRule 94 = .ok (.iload 10, 2) := by decide +kernel
theorem d_We_unfoldRule_96 : decode b_We_unfoldRule 96 = .ok (.iload 6, 2) := by decide +kernel
theorem d_We_unfoldRule_98 : decode b_We_unfoldRule 98 = .ok (.if_icmp .ge 40, 3) := by decide +kernel
theorem d_We_unfoldRule_101 : decode b_We_unfoldRule 101 = .ok (.lload 7, 2) := by decide +kernel
theorem d_We_unfoldRule_103 : decode b_We_unfoldRule 103 = .ok (.lload 11, 2) := by decide +kernel
theorem d_We_unfoldRule_105 : decode b_We_unfoldRule 105 = .ok (.lcmp, 1) := by decide +kernel
theorem d_We_unfoldRule_106 : decode b_We_unfoldRule 106 = .ok (.ifCond .lt 32, 3) := by decide +kernel
theorem d_We_unfoldRule_109 : decode b_We_unfoldRule 109 = .ok (.lload 7, 2) := by decide +kernel
theorem d_We_unfoldRule_111 : decode b_We_unfoldRule 111 = .ok (.lload 11, 2) := by decide +kernel
theorem d_We_unfoldRule_113 : decode b_We_unfoldRule 113 = .ok (.lsub, 1) := by decide +kernel
theorem d_We_unfoldRule_114 : decode b_We_unfoldRule 114 = .ok (.lstore 7, 2) := by decide +kernel
theorem d_We_unfoldRule_116 : decode b_We_unfoldRule 116 = .ok (.iinc 10 1, 3) := by decide +kernel
theorem d_We_unfoldRule_119 : decode b_We_unfoldRule 119 = .ok (.aload_n 0, 1) := by decide +kernel
theorem d_We_unfoldRule_120 : decode b_We_unfoldRule 120 = .ok (.getfield 25, 3) := by decide +kernel
theorem d_We_unfoldRule_123 : decode b_We_unfoldRule 123 = .ok (.iload_n 1, 1) := by decide +kernel
theorem d_We_unfoldRule_124 : decode b_We_unfoldRule 124 = .ok (.iload 9, 2) := by decide +kernel
theorem d_We_unfoldRule_126 : decode b_We_unfoldRule 126 = .ok (.iload 10, 2) := by decide +kernel
theorem d_We_unfoldRule_128 : decode b_We_unfoldRule 128 = .ok (.iload 6, 2) := by decide +kernel
theorem d_We_unfoldRule_130 : decode b_We_unfoldRule 130 = .ok (.invokevirtual 110, 3) := by decide +kernel
theorem d_We_unfoldRule_133 : decode b_We_unfoldRule 133 = .ok (.lstore 11, 2) := by decide +kernel
theorem d_We_unfoldRule_135 : decode b_We_unfoldRule 135 = .ok (.goto (-41), 3) := by decide +kernel
theorem d_We_unfoldRule_138 : decode b_We_unfoldRule 138 = .ok (.iload 6, 2) := by decide +kernel
theorem d_We_unfoldRule_140 : decode b_We_unfoldRule 140 = .ok (.iload 10, 2) := by decide +kernel
theorem d_We_unfoldRule_142 : decode b_We_unfoldRule 142 = .ok (.isub, 1) := by decide +kernel
theorem d_We_unfoldRule_143 : decode b_We_unfoldRule 143 = .ok (.istore 6, 2) := by decide +kernel
theorem d_We_unfoldRule_145 : decode b_We_unfoldRule 145 = .ok (.lconst 1, 1) := by decide +kernel
theorem d_We_unfoldRule_146 : decode b_We_unfoldRule 146 = .ok (.aload_n 0, 1) := by decide +kernel
theorem d_We_unfoldRule_147 : decode b_We_unfoldRule 147 = .ok (.getfield 25, 3) := by decide +kernel
theorem d_We_unfoldRule_150 : decode b_We_unfoldRule 150 = .ok (.iload_n 1, 1) := by decide +kernel
theorem d_We_unfoldRule_151 : decode b_We_unfoldRule 151 = .ok (.iload 9, 2) := by decide +kernel
theorem d_We_unfoldRule_153 : decode b_We_unfoldRule 153 = .ok (.iconst 1, 1) := by decide +kernel
theorem d_We_unfoldRule_154 : decode b_We_unfoldRule 154 = .ok (.iadd, 1) := by decide +kernel
theorem d_We_unfoldRule_155 : decode b_We_unfoldRule 155 = .ok (.iload 6, 2) := by decide +kernel
theorem d_We_unfoldRule_157 : decode b_We_unfoldRule 157 = .ok (.invokevirtual 92, 3) := by decide +kernel
theorem d_We_unfoldRule_160 : decode b_We_unfoldRule 160 = .ok (.invokestatic 114, 3) := by decide +kernel
theorem d_We_unfoldRule_163 : decode b_We_unfoldRule 163 = .ok (.lstore 13, 2) := by decide +kernel
theorem d_We_unfoldRule_165 : decode b_We_unfoldRule 165 = .ok (.aload_n 0, 1) := by decide +kernel
theorem d_We_unfoldRule_166 : decode b_We_unfoldRule 166 = .ok (.getfield 29, 3) := by decide +kernel
theorem d_We_unfoldRule_169 : decode b_We_unfoldRule 169 = .ok (.aload_n 0, 1) := by decide +kernel
theorem d_We_unfoldRule_170 : decode b_We_unfoldRule 170 = .ok (.getfield 29, 3) := by decide +kernel
theorem d_We_unfoldRule_173 : decode b_We_unfoldRule 173 = .ok (.getfield 56, 3) := by decide +kernel
theorem d_We_unfoldRule_176 : decode b_We_unfoldRule 176 = .ok (.iload 5, 2) := by decide +kernel
theorem d_We_unfoldRule_178 : decode b_We_unfoldRule 178 = .ok (.iadd, 1) := by decide +kernel
theorem d_We_unfoldRule_179 : decode b_We_unfoldRule 179 = .ok (.iconst 1, 1) := by decide +kernel
theorem d_We_unfoldRule_180 : decode b_We_unfoldRule 180 = .ok (.isub, 1) := by decide +kernel
theorem d_We_unfoldRule_181 : decode b_We_unfoldRule 181 = .ok (.iload 9, 2) := by decide +kernel
theorem d_We_unfoldRule_183 : decode b_We_unfoldRule 183 = .ok (.isub, 1) := by decide +kernel
theorem d_We_unfoldRule_184 : decode b_We_unfoldRule 184 = .ok (.aload_n 0, 1) := by decide +kernel
theorem d_We_unfoldRule_185 : decode b_We_unfoldRule 185 = .ok (.getfield 21, 3) := by decide +kernel
theorem d_We_unfoldRule_188 : decode b_We_unfoldRule 188 = .ok (.iload_n 1, 1) := by decide +kernel
theorem d_We_unfoldRule_189 : decode b_We_unfoldRule 189 = .ok (.iload 9, 2) := by decide +kernel
theorem d_We_unfoldRule_191 : decode b_We_unfoldRule 191 = .ok (.invokevirtual 120, 3) := by decide +kernel
theorem d_We_unfoldRule_194 : decode b_We_unfoldRule 194 = .ok (.iload 10, 2) := by decide +kernel
theorem d_We_unfoldRule_196 : decode b_We_unfoldRule 196 = .ok (.lload 7, 2) := by decide +kernel
theorem d_We_unfoldRule_198 : decode b_We_unfoldRule 198 = .ok (.lload 13, 2) := by decide +kernel
theorem d_We_unfoldRule_200 : decode b_We_unfoldRule 200 = .ok (.ldiv, 1) := by decide +kernel
theorem d_We_unfoldRule_201 : decode b_We_unfoldRule 201 = .ok (.invokevirtual 50, 3) := by decide +kernel
theorem d_We_unfoldRule_204 : decode b_We_unfoldRule 204 = .ok (.lload 7, 2) := by decide +kernel
theorem d_We_unfoldRule_206 : decode b_We_unfoldRule 206 = .ok (.lload 13, 2) := by decide +kernel
theorem d_We_unfoldRule_208 : decode b_We_unfoldRule 208 = .ok (.lrem, 1) := by decide +kernel
theorem d_We_unfoldRule_209 : decode b_We_unfoldRule 209 = .ok (.lstore 7, 2) := by decide +kernel
theorem d_We_unfoldRule_211 : decode b_We_unfoldRule 211 = .ok (.iinc 9 1, 3) := by decide +kernel
theorem d_We_unfoldRule_214 : decode b_We_unfoldRule 214 = .ok (.goto (-146), 3) := by decide +kernel
theorem d_We_unfoldRule_217 : decode b_We_unfoldRule 217 = .ok (.aload_n 0, 1) := by decide +kernel
theorem d_We_unfoldRule_218 : decode b_We_unfoldRule 218 = .ok (.getfield 29, 3) := by decide +kernel
theorem d_We_unfoldRule_221 : decode b_We_unfoldRule 221 = .ok (.dup, 1) := by decide +kernel
theorem d_We_unfoldRule_222 : decode b_We_unfoldRule 222 = .ok (.getfield 56, 3) := by decide +kernel
theorem d_We_unfoldRule_225 : decode b_We_unfoldRule 225 = .ok (.iload 5, 2) := by decide +kernel
theorem d_We_unfoldRule_227 : decode b_We_unfoldRule 227 = .ok (.iadd, 1) := by decide +kernel
theorem d_We_unfoldRule_228 : decode b_We_unfoldRule 228 = .ok (.putfield 56, 3) := by decide +kernel
theorem d_We_unfoldRule_231 : decode b_We_unfoldRule 231 = .ok (.iconst 1, 1) := by decide +kernel
theorem d_We_unfoldRule_232 : decode b_We_unfoldRule 232 = .ok (.ireturn, 1) := by decide +kernel

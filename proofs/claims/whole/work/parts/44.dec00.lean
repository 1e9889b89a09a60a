theorem d_Co_init_0 : decode b_Co_init 0 = .ok (.aload_n 0, 1) := by decide +kernel
theorem d_Co_init_1 : decode b_Co_init 1 = .ok (.invokespecial 3, 3) := by decide +kernel
theorem d_Co_init_4 : decode b_Co_init 4 = .ok (.aload_n 0, 1) := by decide +kernel
theorem d_Co_init_5 : decode b_Co_init 5 = .ok (.sipush 136, 3) := by decide +kernel
theorem d_Co_init_8 : decode b_Co_init 8 = .ok (.newarray .long, 2) := by decide +kernel
theorem d_Co_init_10 : decode b_Co_init 10 = .ok (.putfield 11, 3) := by decide +kernel
theorem d_Co_init_13 : decode b_Co_init 13 = .ok (.aload_n 0, 1) := by decide +kernel
theorem d_Co_init_14 : decode b_Co_init 14 = .ok (.sipush 2856, 3) := by decide +kernel
theorem d_Co_init_17 : decode b_Co_init 17 = .ok (.newarray .long, 2) := by decide +kernel
theorem d_Co_init_19 : decode b_Co_init 19 = .ok (.putfield 15, 3) := by decide +kernel
theorem d_Co_init_22 : decode b_Co_init 22 = .ok (.aload_n 0, 1) := by decide +kernel
theorem d_Co_init_23 : decode b_Co_init 23 = .ok (.iconst (-1), 1) := by decide +kernel
theorem d_Co_init_24 : decode b_Co_init 24 = .ok (.putfield 18, 3) := by decide +kernel
theorem d_Co_init_27 : decode b_Co_init 27 = .ok (.aload_n 0, 1) := by decide +kernel
theorem d_Co_init_28 : decode b_Co_init 28 = .ok (.aload_n 1, 1) := by decide +kernel
theorem d_Co_init_29 : decode b_Co_init 29 = .ok (.putfield 22, 3) := by decide +kernel
theorem d_Co_init_32 : decode b_Co_init 32 = .ok (.aload_n 0, 1) := by decide +kernel
theorem d_Co_init_33 : decode b_Co_init 33 = .ok (.aload_n 2, 1) := by decide +kernel
theorem d_Co_init_34 : decode b_Co_init 34 = .ok (.putfield 26, 3) := by decide +kernel
theorem d_Co_init_37 : decode b_Co_init 37 = .ok (.return_, 1) := by decide +kernel
theorem d_Co_addTrees_0 : decode b_Co_addTrees 0 = .ok (.iload_n 1, 1) := by decide +kernel
theorem d_Co_addTrees_1 : decode b_Co_addTrees 1 = .ok (.bipush 17, 2) := by decide +kernel
theorem d_Co_addTrees_3 : decode b_Co_addTrees 3 = .ok (.imul, 1) := by decide +kernel
theorem d_Co_addTrees_4 : decode b_Co_addTrees 4 = .ok (.iload_n 2, 1) := by decide +kernel
theorem d_Co_addTrees_5 : decode b_Co_addTrees 5 = .ok (.iadd, 1) := by decide +kernel
theorem d_Co_addTrees_6 : decode b_Co_addTrees 6 = .ok (.istore 5, 2) := by decide +kernel
theorem d_Co_addTrees_8 : decode b_Co_addTrees 8 = .ok (.aload_n 0, 1) := by decide +kernel
theorem d_Co_addTrees_9 : decode b_Co_addTrees 9 = .ok (.getfield 11, 3) := by decide +kernel
theorem d_Co_addTrees_12 : decode b_Co_addTrees 12 = .ok (.iload 5, 2) := by decide +kernel
theorem d_Co_addTrees_14 : decode b_Co_addTrees 14 = .ok (.aload_n 0, 1) := by decide +kernel
theorem d_Co_addTrees_15 : decode b_Co_addTrees 15 = .ok (.getfield 11, 3) := by decide +kernel
theorem d_Co_addTrees_18 : decode b_Co_addTrees 18 = .ok (.iload 5, 2) := by decide +kernel
theorem d_Co_addTrees_20 : decode b_Co_addTrees 20 = .ok (.laload, 1) := by decide +kernel
theorem d_Co_addTrees_21 : decode b_Co_addTrees 21 = .ok (.lload_n 3, 1) := by decide +kernel
theorem d_Co_addTrees_22 : decode b_Co_addTrees 22 = .ok (.invokestatic 81, 3) := by decide +kernel
theorem d_Co_addTrees_25 : decode b_Co_addTrees 25 = .ok (.lastore, 1) := by decide +kernel
theorem d_Co_addTrees_26 : decode b_Co_addTrees 26 = .ok (.return_, 1) := by decide +kernel
theorem d_Co_countLength_0 : decode b_Co_countLength 0 = .ok (.iconst 0, 1) := by decide +kernel
theorem d_Co_countLength_1 : decode b_Co_countLength 1 = .ok (.istore_n 2, 1) := by decide +kernel
theorem d_Co_countLength_2 : decode b_Co_countLength 2 = .ok (.iload_n 2, 1) := by decide +kernel
theorem d_Co_countLength_3 : decode b_Co_countLength 3 = .ok (.bipush 8, 2) := by decide +kernel
theorem d_Co_countLength_5 : decode b_Co_countLength 5 = .ok (.if_icmp .ge 21, 3) := by decide +kernel
theorem d_Co_countLength_8 : decode b_Co_countLength 8 = .ok (.aload_n 0, 1) := by decide +kernel
theorem d_Co_countLength_9 : decode b_Co_countLength 9 = .ok (.getfield 11, 3) := by decide +kernel
theorem d_Co_countLength_12 : decode b_Co_countLength 12 = .ok (.iload_n 2, 1) := by decide +kernel
theorem d_Co_countLength_13 : decode b_Co_countLength 13 = .ok (.bipush 17, 2) := by decide +kernel
theorem d_Co_countLength_15 : decode b_Co_countLength 15 = .ok (.imul, 1) := by decide +kernel
theorem d_Co_countLength_16 : decode b_Co_countLength 16 = .ok (.iload_n 1, 1) := by decide +kernel
theorem d_Co_countLength_17 : decode b_Co_countLength 17 = .ok (.iadd, 1) := by decide +kernel
theorem d_Co_countLength_18 : decode b_Co_countLength 18 = .ok (.lconst 0, 1) := by decide +kernel
theorem d_Co_countLength_19 : decode b_Co_countLength 19 = .ok (.lastore, 1) := by decide +kernel
theorem d_Co_countLength_20 : decode b_Co_countLength 20 = .ok (.iinc 2 1, 3) := by decide +kernel
theorem d_Co_countLength_23 : decode b_Co_countLength 23 = .ok (.goto (-21), 3) := by decide +kernel
theorem d_Co_countLength_26 : decode b_Co_countLength 26 = .ok (.iconst 0, 1) := by decide +kernel
theorem d_Co_countLength_27 : decode b_Co_countLength 27 = .ok (.istore_n 2, 1) := by decide +kernel
theorem d_Co_countLength_28 : decode b_Co_countLength 28 = .ok (.iload_n 2, 1) := by decide +kernel
theorem d_Co_countLength_29 : decode b_Co_countLength 29 = .ok (.bipush 8, 2) := by decide +kernel
theorem d_Co_countLength_31 : decode b_Co_countLength 31 = .ok (.if_icmp .ge 82, 3) := by decide +kernel
theorem d_Co_countLength_34 : decode b_Co_countLength 34 = .ok (.aload_n 0, 1) := by decide +kernel
theorem d_Co_countLength_35 : decode b_Co_countLength 35 = .ok (.getfield 26, 3) := by decide +kernel
theorem d_Co_countLength_38 : decode b_Co_countLength 38 = .ok (.iload_n 2, 1) := by decide +kernel
theorem d_Co_countLength_39 : decode b_Co_countLength 39 = .ok (.invokevirtual 57, 3) := by decide +kernel
theorem d_Co_countLength_42 : decode b_Co_countLength 42 = .ok (.istore_n 3, 1) := by decide +kernel
theorem d_Co_countLength_43 : decode b_Co_countLength 43 = .ok (.iconst 0, 1) := by decide +kernel
theorem d_Co_countLength_44 : decode b_Co_countLength 44 = .ok (.istore 4, 2) := by decide +kernel
theorem d_Co_countLength_46 : decode b_Co_countLength 46 = .ok (.iload 4, 2) := by decide +kernel
theorem d_Co_countLength_48 : decode b_Co_countLength 48 = .ok (.aload_n 0, 1) := by decide +kernel
theorem d_Co_countLength_49 : decode b_Co_countLength 49 = .ok (.getfield 22, 3) := by decide +kernel
theorem d_Co_countLength_52 : decode b_Co_countLength 52 = .ok (.getfield 63, 3) := by decide +kernel
theorem d_Co_countLength_55 : decode b_Co_countLength 55 = .ok (.if_icmp .ge 52, 3) := by decide +kernel
theorem d_Co_countLength_58 : decode b_Co_countLength 58 = .ok (.iload 4, 2) := by decide +kernel
theorem d_Co_countLength_60 : decode b_Co_countLength 60 = .ok (.aload_n 0, 1) := by decide +kernel
theorem d_Co_countLength_61 : decode b_Co_countLength 61 = .ok (.getfield 18, 3) := by decide +kernel
theorem d_Co_countLength_64 : decode b_Co_countLength 64 = .ok (.if_icmp .eq 37, 3) := by decide +kernel
theorem d_Co_countLength_67 : decode b_Co_countLength 67 = .ok (.aload_n 0, 1) := by decide +kernel
theorem d_Co_countLength_68 : decode b_Co_countLength 68 = .ok (.getfield 22, 3) := by decide +kernel
theorem d_Co_countLength_71 : decode b_Co_countLength 71 = .ok (.iload 4, 2) := by decide +kernel
theorem d_Co_countLength_73 : decode b_Co_countLength 73 = .ok (.invokevirtual 66, 3) := by decide +kernel
theorem d_Co_countLength_76 : decode b_Co_countLength 76 = .ok (.iload_n 3, 1) := by decide +kernel
theorem d_Co_countLength_77 : decode b_Co_countLength 77 = .ok (.if_icmp .ne 24, 3) := by decide +kernel
theorem d_Co_countLength_80 : decode b_Co_countLength 80 = .ok (.aload_n 0, 1) := by decide +kernel
theorem d_Co_countLength_81 : decode b_Co_countLength 81 = .ok (.iload 4, 2) := by decide +kernel
theorem d_Co_countLength_83 : decode b_Co_countLength 83 = .ok (.iload_n 1, 1) := by decide +kernel
theorem d_Co_countLength_84 : decode b_Co_countLength 84 = .ok (.invokevirtual 69, 3) := by decide +kernel
theorem d_Co_countLength_87 : decode b_Co_countLength 87 = .ok (.aload_n 0, 1) := by decide +kernel
theorem d_Co_countLength_88 : decode b_Co_countLength 88 = .ok (.iload_n 3, 1) := by decide +kernel
theorem d_Co_countLength_89 : decode b_Co_countLength 89 = .ok (.iload_n 1, 1) := by decide +kernel
theorem d_Co_countLength_90 : decode b_Co_countLength 90 = .ok (.aload_n 0, 1) := by decide +kernel
theorem d_Co_countLength_91 : decode b_Co_countLength 91 = .ok (.iload 4, 2) := by decide +kernel
theorem d_Co_countLength_93 : decode b_Co_countLength 93 = .ok (.iconst 0, 1) := by decide +kernel
theorem d_Co_countLength_94 : decode b_Co_countLength 94 = .ok (.iload_n 1, 1) := by decide +kernel
theorem d_Co_countLength_95 : decode b_Co_countLength 95 = .ok (.invokevirtual 73, 3) := by decide +kernel
theorem d_Co_countLength_98 : decode b_Co_countLength 98 = .ok (.invokevirtual 77, 3) := by decide +kernel
theorem d_Co_countLength_101 : decode b_Co_countLength 101 = .ok (.iinc 4 1, 3) := by decide +kernel
theorem d_Co_countLength_104 : decode b_Co_countLength 104 = .ok (.goto (-58), 3) := by decide +kernel
theorem d_Co_countLength_107 : decode b_Co_countLength 107 = .ok (.iinc 2 1, 3) := by decide +kernel
theorem d_Co_countLength_110 : decode b_Co_countLength 110 = .ok (.goto (-82), 3) := by decide +kernel
theorem d_Co_countLength_113 : decode b_Co_countLength 113 = .ok (.iconst 0, 1) := by decide +kernel
theorem d_Co_countLength_114 : decode b_Co_countLength 114 = .ok (.istore_n 2, 1) := by decide +kernel
theorem d_Co_countLength_115 : decode b_Co_countLength 115 = .ok (.iload_n 2, 1) := by decide +kernel
theorem d_Co_countLength_116 : decode b_Co_countLength 116 = .ok (.aload_n 0, 1) := by decide +kernel
theorem d_Co_countLength_117 : decode b_Co_countLength 117 = .ok (.getfield 22, 3) := by decide +kernel
theorem d_Co_countLength_120 : decode b_Co_countLength 120 = .ok (.getfield 63, 3) := by decide +kernel
theorem d_Co_countLength_123 : decode b_Co_countLength 123 = .ok (.if_icmp .ge 23, 3) := by decide +kernel
theorem d_Co_countLength_126 : decode b_Co_countLength 126 = .ok (.iload_n 2, 1) := by decide +kernel
theorem d_Co_countLength_127 : decode b_Co_countLength 127 = .ok (.aload_n 0, 1) := by decide +kernel
theorem d_Co_countLength_128 : decode b_Co_countLength 128 = .ok (.getfield 18, 3) := by decide +kernel
theorem d_Co_countLength_131 : decode b_Co_countLength 131 = .ok (.if_icmp .eq 9, 3) := by decide +kernel
theorem d_Co_countLength_134 : decode b_Co_countLength 134 = .ok (.aload_n 0, 1) := by decide +kernel
theorem d_Co_countLength_135 : decode b_Co_countLength 135 = .ok (.iload_n 2, 1) := by decide +kernel
theorem d_Co_countLength_136 : decode b_Co_countLength 136 = .ok (.iload_n 1, 1) := by decide +kernel
theorem d_Co_countLength_137 : decode b_Co_countLength 137 = .ok (.invokevirtual 69, 3) := by decide +kernel
theorem d_Co_countLength_140 : decode b_Co_countLength 140 = .ok (.iinc 2 1, 3) := by decide +kernel
theorem d_Co_countLength_143 : decode b_Co_countLength 143 = .ok (.goto (-28), 3) := by decide +kernel
theorem d_Co_countLength_146 : decode b_Co_countLength 146 = .ok (.return_, 1) := by decide +kernel
theorem d_Co_endingsAt_0 : decode b_Co_endingsAt 0 = .ok (.iload_n 0, 1) := by decide +kernel
theorem d_Co_endingsAt_1 : decode b_Co_endingsAt 1 = .ok (.bipush 7, 2) := by decide +kernel
theorem d_Co_endingsAt_3 : decode b_Co_endingsAt 3 = .ok (.imul, 1) := by decide +kernel
theorem d_Co_endingsAt_4 : decode b_Co_endingsAt 4 = .ok (.iload_n 1, 1) := by decide +kernel
theorem d_Co_endingsAt_5 : decode b_Co_endingsAt 5 = .ok (.iadd, 1) := by decide +kernel
theorem d_Co_endingsAt_6 : decode b_Co_endingsAt 6 = .ok (.bipush 17, 2) := by decide +kernel
theorem d_Co_endingsAt_8 : decode b_Co_endingsAt 8 = .ok (.imul, 1) := by decide +kernel
theorem d_Co_endingsAt_9 : decode b_Co_endingsAt 9 = .ok (.ireturn, 1) := by decide +kernel
theorem d_Co_endingsOf_0 : decode b_Co_endingsOf 0 = .ok (.aload_n 0, 1) := by decide +kernel
theorem d_Co_endingsOf_1 : decode b_Co_endingsOf 1 = .ok (.getfield 15, 3) := by decide +kernel
theorem d_Co_endingsOf_4 : decode b_Co_endingsOf 4 = .ok (.iload_n 1, 1) := by decide +kernel
theorem d_Co_endingsOf_5 : decode b_Co_endingsOf 5 = .ok (.iload_n 2, 1) := by decide +kernel
theorem d_Co_endingsOf_6 : decode b_Co_endingsOf 6 = .ok (.invokestatic 40, 3) := by decide +kernel
theorem d_Co_endingsOf_9 : decode b_Co_endingsOf 9 = .ok (.iload_n 3, 1) := by decide +kernel
theorem d_Co_endingsOf_10 : decode b_Co_endingsOf 10 = .ok (.iadd, 1) := by decide +kernel
theorem d_Co_endingsOf_11 : decode b_Co_endingsOf 11 = .ok (.laload, 1) := by decide +kernel
theorem d_Co_endingsOf_12 : decode b_Co_endingsOf 12 = .ok (.lreturn, 1) := by decide +kernel
theorem d_Co_endingsWith_0 : decode b_Co_endingsWith 0 = .ok (.aload_n 0, 1) := by decide +kernel
theorem d_Co_endingsWith_1 : decode b_Co_endingsWith 1 = .ok (.getfield 22, 3) := by decide +kernel
theorem d_Co_endingsWith_4 : decode b_Co_endingsWith 4 = .ok (.iload_n 1, 1) := by decide +kernel
theorem d_Co_endingsWith_5 : decode b_Co_endingsWith 5 = .ok (.iload_n 2, 1) := by decide +kernel
theorem d_Co_endingsWith_6 : decode b_Co_endingsWith 6 = .ok (.invokevirtual 44, 3) := by decide +kernel
theorem d_Co_endingsWith_9 : decode b_Co_endingsWith 9 = .ok (.istore 5, 2) := by decide +kernel
theorem d_Co_endingsWith_11 : decode b_Co_endingsWith 11 = .ok (.iload_n 3, 1) := by decide +kernel
theorem d_Co_endingsWith_12 : decode b_Co_endingsWith 12 = .ok (.iconst 1, 1) := by decide +kernel
theorem d_Co_endingsWith_13 : decode b_Co_endingsWith 13 = .ok (.if_icmp .ne 7, 3) := by decide +kernel
theorem d_Co_endingsWith_16 : decode b_Co_endingsWith 16 = .ok (.lconst 1, 1) := by decide +kernel
theorem d_Co_endingsWith_17 : decode b_Co_endingsWith 17 = .ok (.goto 4, 3) := by decide +kernel
theorem d_Co_endingsWith_20 : decode b_Co_endingsWith 20 = .ok (.lconst 0, 1) := by decide +kernel
theorem d_Co_endingsWith_21 : decode b_Co_endingsWith 21 = .ok (.lstore 6, 2) := by decide +kernel
theorem d_Co_endingsWith_23 : decode b_Co_endingsWith 23 = .ok (.iload 5, 2) := by decide +kernel
theorem d_Co_endingsWith_25 : decode b_Co_endingsWith 25 = .ok (.invokestatic 49, 3) := by decide +kernel
theorem d_Co_endingsWith_28 : decode b_Co_endingsWith 28 = .ok (.ifCond .eq 17, 3) := by decide +kernel
theorem d_Co_endingsWith_31 : decode b_Co_endingsWith 31 = .ok (.aload_n 0, 1) := by decide +kernel
theorem d_Co_endingsWith_32 : decode b_Co_endingsWith 32 = .ok (.getfield 11, 3) := by decide +kernel
theorem d_Co_endingsWith_35 : decode b_Co_endingsWith 35 = .ok (.iload 5, 2) := by decide +kernel
theorem d_Co_endingsWith_37 : decode b_Co_endingsWith 37 = .ok (.bipush 17, 2) := by decide +kernel
theorem d_Co_endingsWith_39 : decode b_Co_endingsWith 39 = .ok (.imul, 1) := by decide +kernel
theorem d_Co_endingsWith_40 : decode b_Co_endingsWith 40 = .ok (.iload_n 3, 1) := by decide +kernel
theorem d_Co_endingsWith_41 : decode b_Co_endingsWith 41 = .ok (.iadd, 1) := by decide +kernel
theorem d_Co_endingsWith_42 : decode b_Co_endingsWith 42 = .ok (.laload, 1) := by decide +kernel
theorem d_Co_endingsWith_43 : decode b_Co_endingsWith 43 = .ok (.lstore 6, 2) := by decide +kernel
theorem d_Co_endingsWith_45 : decode b_Co_endingsWith 45 = .ok (.lload 6, 2) := by decide +kernel
theorem d_Co_endingsWith_47 : decode b_Co_endingsWith 47 = .ok (.aload_n 0, 1) := by decide +kernel
theorem d_Co_endingsWith_48 : decode b_Co_endingsWith 48 = .ok (.getfield 15, 3) := by decide +kernel
theorem d_Co_endingsWith_51 : decode b_Co_endingsWith 51 = .ok (.iload_n 1, 1) := by decide +kernel
theorem d_Co_endingsWith_52 : decode b_Co_endingsWith 52 = .ok (.iload_n 2, 1) := by decide +kernel
theorem d_Co_endingsWith_53 : decode b_Co_endingsWith 53 = .ok (.iconst 1, 1) := by decide +kernel
theorem d_Co_endingsWith_54 : decode b_Co_endingsWith 54 = .ok (.iadd, 1) := by decide +kernel
theorem d_Co_endingsWith_55 : decode b_Co_endingsWith 55 = .ok (.invokestatic 40, 3) := by decide +kernel
theorem d_Co_endingsWith_58 : decode b_Co_endingsWith 58 = .ok (.iload 4, 2) := by decide +kernel
theorem d_Co_endingsWith_60 : decode b_Co_endingsWith 60 = .ok (.iadd, 1) := by decide +kernel
theorem d_Co_endingsWith_61 : decode b_Co_endingsWith 61 = .ok (.iload_n 3, 1) := by decide +kernel
theorem d_Co_endingsWith_62 : decode b_Co_endingsWith 62 = .ok (.isub, 1) := by decide +kernel
theorem d_Co_endingsWith_63 : decode b_Co_endingsWith 63 = .ok (.laload, 1) := by decide +kernel
theorem d_Co_endingsWith_64 : decode b_Co_endingsWith 64 = .ok (.invokestatic 53, 3) := by decide +kernel
theorem d_Co_endingsWith_67 : decode b_Co_endingsWith 67 = .ok (.lreturn, 1) := by decide +kernel
theorem d_Co_fillEndings_0 : decode b_Co_fillEndings 0 = .ok (.aload_n 0, 1) := by decide +kernel
theorem d_Co_fillEndings_1 : decode b_Co_fillEndings 1 = .ok (.getfield 22, 3) := by decide +kernel
theorem d_Co_fillEndings_4 : decode b_Co_fillEndings 4 = .ok (.iload_n 1, 1) := by decide +kernel
theorem d_Co_fillEndings_5 : decode b_Co_fillEndings 5 = .ok (.invokevirtual 84, 3) := by decide +kernel
theorem d_Co_fillEndings_8 : decode b_Co_fillEndings 8 = .ok (.istore_n 3, 1) := by decide +kernel
theorem d_Co_fillEndings_9 : decode b_Co_fillEndings 9 = .ok (.aload_n 0, 1) := by decide +kernel
theorem d_Co_fillEndings_10 : decode b_Co_fillEndings 10 = .ok (.getfield 15, 3) := by decide +kernel
theorem d_Co_fillEndings_13 : decode b_Co_fillEndings 13 = .ok (.iload_n 1, 1) := by decide +kernel
theorem d_Co_fillEndings_14 : decode b_Co_fillEndings 14 = .ok (.iload_n 3, 1) := by decide +kernel
theorem d_Co_fillEndings_15 : decode b_Co_fillEndings 15 = .ok (.invokestatic 40, 3) := by decide +kernel
theorem d_Co_fillEndings_18 : decode b_Co_fillEndings 18 = .ok (.iload_n 2, 1) := by decide +kernel
theorem d_Co_fillEndings_19 : decode b_Co_fillEndings 19 = .ok (.iadd, 1) := by decide +kernel
theorem d_Co_fillEndings_20 : decode b_Co_fillEndings 20 = .ok (.iload_n 2, 1) := by decide +kernel
theorem d_Co_fillEndings_21 : decode b_Co_fillEndings 21 = .ok (.ifCond .ne 7, 3) := by decide +kernel
theorem d_Co_fillEndings_24 : decode b_Co_fillEndings 24 = .ok (.lconst 1, 1) := by decide +kernel
theorem d_Co_fillEndings_25 : decode b_Co_fillEndings 25 = .ok (.goto 4, 3) := by decide +kernel
theorem d_Co_fillEndings_28 : decode b_Co_fillEndings 28 = .ok (.lconst 0, 1) := by decide +kernel
theorem d_Co_fillEndings_29 : decode b_Co_fillEndings 29 = .ok (.lastore, 1) := by decide +kernel
theorem d_Co_fillEndings_30 : decode b_Co_fillEndings 30 = .ok (.iload_n 3, 1) := by decide +kernel
theorem d_Co_fillEndings_31 : decode b_Co_fillEndings 31 = .ok (.iconst 1, 1) := by decide +kernel
theorem d_Co_fillEndings_32 : decode b_Co_fillEndings 32 = .ok (.isub, 1) := by decide +kernel
theorem d_Co_fillEndings_33 : decode b_Co_fillEndings 33 = .ok (.istore 4, 2) := by decide +kernel
theorem d_Co_fillEndings_35 : decode b_Co_fillEndings 35 = .ok (.iload 4, 2) := by decide +kernel
theorem d_Co_fillEndings_37 : decode b_Co_fillEndings 37 = .ok (.ifCond .lt 91, 3) := by decide +kernel
theorem d_Co_fillEndings_40 : decode b_Co_fillEndings 40 = .ok (.aload_n 0, 1) := by decide +kernel
theorem d_Co_fillEndings_41 : decode b_Co_fillEndings 41 = .ok (.getfield 22, 3) := by decide +kernel
theorem d_Co_fillEndings_44 : decode b_Co_fillEndings 44 = .ok (.iload_n 1, 1) := by decide +kernel
theorem d_Co_fillEndings_45 : decode b_Co_fillEndings 45 = .ok (.iload 4, 2) := by decide +kernel
theorem d_Co_fillEndings_47 : decode b_Co_fillEndings 47 = .ok (.invokevirtual 44, 3) := by decide +kernel
theorem d_Co_fillEndings_50 : decode b_Co_fillEndings 50 = .ok (.istore 5, 2) := by decide +kernel
theorem d_Co_fillEndings_52 : decode b_Co_fillEndings 52 = .ok (.iload_n 1, 1) := by decide +kernel
theorem d_Co_fillEndings_53 : decode b_Co_fillEndings 53 = .ok (.iload 4, 2) := by decide +kernel
theorem d_Co_fillEndings_55 : decode b_Co_fillEndings 55 = .ok (.iconst 1, 1) := by decide +kernel
theorem d_Co_fillEndings_56 : decode b_Co_fillEndings 56 = .ok (.iadd, 1) := by decide +kernel
theorem d_Co_fillEndings_57 : decode b_Co_fillEndings 57 = .ok (.invokestatic 40, 3) := by decide +kernel
theorem d_Co_fillEndings_60 : decode b_Co_fillEndings 60 = .ok (.iload_n 2, 1) := by decide +kernel
theorem d_Co_fillEndings_61 : decode b_Co_fillEndings 61 = .ok (.iadd, 1) := by decide +kernel
theorem d_Co_fillEndings_62 : decode b_Co_fillEndings 62 = .ok (.istore 6, 2) := by decide +kernel
theorem d_Co_fillEndings_64 : decode b_Co_fillEndings 64 = .ok (.lconst 0, 1) := by decide +kernel
theorem d_Co_fillEndings_65 : decode b_Co_fillEndings 65 = .ok (.lstore 7, 2) := by decide +kernel
theorem d_Co_fillEndings_67 : decode b_Co_fillEndings 67 = .ok (.iload 5, 2) := by decide +kernel
theorem d_Co_fillEndings_69 : decode b_Co_fillEndings 69 = .ok (.invokestatic 49, 3) := by decide +kernel
theorem d_Co_fillEndings_72 : decode b_Co_fillEndings 72 = .ok (.ifCond .eq 20, 3) := by decide +kernel
theorem d_Co_fillEndings_75 : decode b_Co_fillEndings 75 = .ok (.aload_n 0, 1) := by decide +kernel
theorem d_Co_fillEndings_76 : decode b_Co_fillEndings 76 = .ok (.iload 5, 2) := by decide +kernel
theorem d_Co_fillEndings_78 : decode b_Co_fillEndings 78 = .ok (.bipush 17, 2) := by decide +kernel
theorem d_Co_fillEndings_80 : decode b_Co_fillEndings 80 = .ok (.imul, 1) := by decide +kernel
theorem d_Co_fillEndings_81 : decode b_Co_fillEndings 81 = .ok (.iload 6, 2) := by decide +kernel
theorem d_Co_fillEndings_83 : decode b_Co_fillEndings 83 = .ok (.iload_n 2, 1) := by decide +kernel
theorem d_Co_fillEndings_84 : decode b_Co_fillEndings 84 = .ok (.invokevirtual 87, 3) := by decide +kernel
theorem d_Co_fillEndings_87 : decode b_Co_fillEndings 87 = .ok (.lstore 7, 2) := by decide +kernel
theorem d_Co_fillEndings_89 : decode b_Co_fillEndings 89 = .ok (.goto 18, 3) := by decide +kernel
theorem d_Co_fillEndings_92 : decode b_Co_fillEndings 92 = .ok (.iload_n 2, 1) := by decide +kernel
theorem d_Co_fillEndings_93 : decode b_Co_fillEndings 93 = .ok (.ifCond .le 14, 3) := by decide +kernel
theorem d_Co_fillEndings_96 : decode b_Co_fillEndings 96 = .ok (.aload_n 0, 1) := by decide +kernel
theorem d_Co_fillEndings_97 : decode b_Co_fillEndings 97 = .ok (.getfield 15, 3) := by decide +kernel
theorem d_Co_fillEndings_100 : decode b_Co_fillEndings 100 = .ok (.iload 6, 2) := by decide +kernel
theorem d_Co_fillEndings_102 : decode b_Co_fillEndings 102 = .ok (.iconst 1, 1) := by decide +kernel
theorem d_Co_fillEndings_103 : decode b_Co_fillEndings 103 = .ok (.isub, 1) := by decide +kernel
theorem d_Co_fillEndings_104 : decode b_Co_fillEndings 104 = .ok (.laload, 1) := by decide +kernel
theorem d_Co_fillEndings_105 : decode b_Co_fillEndings 105 = .ok (.lstore 7, 2) := by decide +kernel
theorem d_Co_fillEndings_107 : decode b_Co_fillEndings 107 = .ok (.aload_n 0, 1) := by decide +kernel
theorem d_Co_fillEndings_108 : decode b_Co_fillEndings 108 = .ok (.getfield 15, 3) := by decide +kernel
theorem d_Co_fillEndings_111 : decode b_Co_fillEndings 111 = .ok (.iload_n 1, 1) := by decide +kernel
theorem d_Co_fillEndings_112 : decode b_Co_fillEndings 112 = .ok (.iload 4, 2) := by decide +kernel
theorem d_Co_fillEndings_114 : decode b_Co_fillEndings 114 = .ok (.invokestatic 40, 3) := by decide +kernel
theorem d_Co_fillEndings_117 : decode b_Co_fillEndings 117 = .ok (.iload_n 2, 1) := by decide +kernel
theorem d_Co_fillEndings_118 : decode b_Co_fillEndings 118 = .ok (.iadd, 1) := by decide +kernel
theorem d_Co_fillEndings_119 : decode b_Co_fillEndings 119 = .ok (.lload 7, 2) := by decide +kernel
theorem d_Co_fillEndings_121 : decode b_Co_fillEndings 121 = .ok (.lastore, 1) := by decide +kernel
theorem d_Co_fillEndings_122 : decode b_Co_fillEndings 122 = .ok (.iinc 4 (-1), 3) := by decide +kernel
theorem d_Co_fillEndings_125 : decode b_Co_fillEndings 125 = .ok (.goto (-90), 3) := by decide +kernel
theorem d_Co_fillEndings_128 : decode b_Co_fillEndings 128 = .ok (.return_, 1) := by decide +kernel
theorem d_Co_forget_0 : decode b_Co_forget 0 = .ok (.aload_n 0, 1) := by decide +kernel
theorem d_Co_forget_1 : decode b_Co_forget 1 = .ok (.iconst 0, 1) := by decide +kernel
theorem d_Co_forget_2 : decode b_Co_forget 2 = .ok (.putfield 30, 3) := by decide +kernel
theorem d_Co_forget_5 : decode b_Co_forget 5 = .ok (.return_, 1) := by decide +kernel
theorem d_Co_leaveOut_0 : decode b_Co_leaveOut 0 = .ok (.aload_n 0, 1) := by decide +kernel

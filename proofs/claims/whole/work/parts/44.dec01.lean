theorem d_Co_leaveOut_1 : decode b_Co_leaveOut 1 = .ok (.getfield 18, 3) := by decide +kernel
theorem d_Co_leaveOut_4 : decode b_Co_leaveOut 4 = .ok (.iload_n 1, 1) := by decide +kernel
theorem d_Co_leaveOut_5 : decode b_Co_leaveOut 5 = .ok (.if_icmp .eq 12, 3) := by decide +kernel
theorem d_Co_leaveOut_8 : decode b_Co_leaveOut 8 = .ok (.aload_n 0, 1) := by decide +kernel
theorem d_Co_leaveOut_9 : decode b_Co_leaveOut 9 = .ok (.iload_n 1, 1) := by decide +kernel
theorem d_Co_leaveOut_10 : decode b_Co_leaveOut 10 = .ok (.putfield 18, 3) := by decide +kernel
theorem d_Co_leaveOut_13 : decode b_Co_leaveOut 13 = .ok (.aload_n 0, 1) := by decide +kernel
theorem d_Co_leaveOut_14 : decode b_Co_leaveOut 14 = .ok (.invokevirtual 33, 3) := by decide +kernel
theorem d_Co_leaveOut_17 : decode b_Co_leaveOut 17 = .ok (.return_, 1) := by decide +kernel
theorem d_Co_pairs_0 : decode b_Co_pairs 0 = .ok (.lconst 0, 1) := by decide +kernel
theorem d_Co_pairs_1 : decode b_Co_pairs 1 = .ok (.lstore 4, 2) := by decide +kernel
theorem d_Co_pairs_3 : decode b_Co_pairs 3 = .ok (.iconst 0, 1) := by decide +kernel
theorem d_Co_pairs_4 : decode b_Co_pairs 4 = .ok (.istore 6, 2) := by decide +kernel
theorem d_Co_pairs_6 : decode b_Co_pairs 6 = .ok (.iload 6, 2) := by decide +kernel
theorem d_Co_pairs_8 : decode b_Co_pairs 8 = .ok (.iload_n 3, 1) := by decide +kernel
theorem d_Co_pairs_9 : decode b_Co_pairs 9 = .ok (.if_icmp .gt 48, 3) := by decide +kernel
theorem d_Co_pairs_12 : decode b_Co_pairs 12 = .ok (.aload_n 0, 1) := by decide +kernel
theorem d_Co_pairs_13 : decode b_Co_pairs 13 = .ok (.getfield 11, 3) := by decide +kernel
theorem d_Co_pairs_16 : decode b_Co_pairs 16 = .ok (.iload_n 1, 1) := by decide +kernel
theorem d_Co_pairs_17 : decode b_Co_pairs 17 = .ok (.iload 6, 2) := by decide +kernel
theorem d_Co_pairs_19 : decode b_Co_pairs 19 = .ok (.iadd, 1) := by decide +kernel
theorem d_Co_pairs_20 : decode b_Co_pairs 20 = .ok (.laload, 1) := by decide +kernel
theorem d_Co_pairs_21 : decode b_Co_pairs 21 = .ok (.lstore 7, 2) := by decide +kernel
theorem d_Co_pairs_23 : decode b_Co_pairs 23 = .ok (.lload 7, 2) := by decide +kernel
theorem d_Co_pairs_25 : decode b_Co_pairs 25 = .ok (.lconst 0, 1) := by decide +kernel
theorem d_Co_pairs_26 : decode b_Co_pairs 26 = .ok (.lcmp, 1) := by decide +kernel
theorem d_Co_pairs_27 : decode b_Co_pairs 27 = .ok (.ifCond .eq 24, 3) := by decide +kernel
theorem d_Co_pairs_30 : decode b_Co_pairs 30 = .ok (.lload 4, 2) := by decide +kernel
theorem d_Co_pairs_32 : decode b_Co_pairs 32 = .ok (.lload 7, 2) := by decide +kernel
theorem d_Co_pairs_34 : decode b_Co_pairs 34 = .ok (.aload_n 0, 1) := by decide +kernel
theorem d_Co_pairs_35 : decode b_Co_pairs 35 = .ok (.getfield 15, 3) := by decide +kernel
theorem d_Co_pairs_38 : decode b_Co_pairs 38 = .ok (.iload_n 2, 1) := by decide +kernel
theorem d_Co_pairs_39 : decode b_Co_pairs 39 = .ok (.iload 6, 2) := by decide +kernel
theorem d_Co_pairs_41 : decode b_Co_pairs 41 = .ok (.isub, 1) := by decide +kernel
theorem d_Co_pairs_42 : decode b_Co_pairs 42 = .ok (.laload, 1) := by decide +kernel
theorem d_Co_pairs_43 : decode b_Co_pairs 43 = .ok (.invokestatic 53, 3) := by decide +kernel
theorem d_Co_pairs_46 : decode b_Co_pairs 46 = .ok (.invokestatic 81, 3) := by decide +kernel
theorem d_Co_pairs_49 : decode b_Co_pairs 49 = .ok (.lstore 4, 2) := by decide +kernel
theorem d_Co_pairs_51 : decode b_Co_pairs 51 = .ok (.iinc 6 1, 3) := by decide +kernel
theorem d_Co_pairs_54 : decode b_Co_pairs 54 = .ok (.goto (-48), 3) := by decide +kernel
theorem d_Co_pairs_57 : decode b_Co_pairs 57 = .ok (.lload 4, 2) := by decide +kernel
theorem d_Co_pairs_59 : decode b_Co_pairs 59 = .ok (.lreturn, 1) := by decide +kernel
theorem d_Co_plus_0 : decode b_Co_plus 0 = .ok (.lload_n 0, 1) := by decide +kernel
theorem d_Co_plus_1 : decode b_Co_plus 1 = .ok (.lload_n 2, 1) := by decide +kernel
theorem d_Co_plus_2 : decode b_Co_plus 2 = .ok (.ladd, 1) := by decide +kernel
theorem d_Co_plus_3 : decode b_Co_plus 3 = .ok (.ldc2_w 90, 3) := by decide +kernel
theorem d_Co_plus_6 : decode b_Co_plus 6 = .ok (.invokestatic 92, 3) := by decide +kernel
theorem d_Co_plus_9 : decode b_Co_plus 9 = .ok (.lreturn, 1) := by decide +kernel
theorem d_Co_times_0 : decode b_Co_times 0 = .ok (.lload_n 2, 1) := by decide +kernel
theorem d_Co_times_1 : decode b_Co_times 1 = .ok (.lconst 0, 1) := by decide +kernel
theorem d_Co_times_2 : decode b_Co_times 2 = .ok (.lcmp, 1) := by decide +kernel
theorem d_Co_times_3 : decode b_Co_times 3 = .ok (.ifCond .ne 5, 3) := by decide +kernel
theorem d_Co_times_6 : decode b_Co_times 6 = .ok (.lconst 0, 1) := by decide +kernel
theorem d_Co_times_7 : decode b_Co_times 7 = .ok (.lreturn, 1) := by decide +kernel
theorem d_Co_times_8 : decode b_Co_times 8 = .ok (.lload_n 0, 1) := by decide +kernel
theorem d_Co_times_9 : decode b_Co_times 9 = .ok (.ldc2_w 97, 3) := by decide +kernel
theorem d_Co_times_12 : decode b_Co_times 12 = .ok (.lload_n 2, 1) := by decide +kernel
theorem d_Co_times_13 : decode b_Co_times 13 = .ok (.ldiv, 1) := by decide +kernel
theorem d_Co_times_14 : decode b_Co_times 14 = .ok (.lcmp, 1) := by decide +kernel
theorem d_Co_times_15 : decode b_Co_times 15 = .ok (.ifCond .le 9, 3) := by decide +kernel
theorem d_Co_times_18 : decode b_Co_times 18 = .ok (.ldc2_w 90, 3) := by decide +kernel
theorem d_Co_times_21 : decode b_Co_times 21 = .ok (.goto 6, 3) := by decide +kernel
theorem d_Co_times_24 : decode b_Co_times 24 = .ok (.lload_n 0, 1) := by decide +kernel
theorem d_Co_times_25 : decode b_Co_times 25 = .ok (.lload_n 2, 1) := by decide +kernel
theorem d_Co_times_26 : decode b_Co_times 26 = .ok (.lmul, 1) := by decide +kernel
theorem d_Co_times_27 : decode b_Co_times 27 = .ok (.lreturn, 1) := by decide +kernel
theorem d_Co_treesOf_0 : decode b_Co_treesOf 0 = .ok (.aload_n 0, 1) := by decide +kernel
theorem d_Co_treesOf_1 : decode b_Co_treesOf 1 = .ok (.getfield 30, 3) := by decide +kernel
theorem d_Co_treesOf_4 : decode b_Co_treesOf 4 = .ok (.istore_n 3, 1) := by decide +kernel
theorem d_Co_treesOf_5 : decode b_Co_treesOf 5 = .ok (.iload_n 3, 1) := by decide +kernel
theorem d_Co_treesOf_6 : decode b_Co_treesOf 6 = .ok (.iload_n 2, 1) := by decide +kernel
theorem d_Co_treesOf_7 : decode b_Co_treesOf 7 = .ok (.if_icmp .gt 21, 3) := by decide +kernel
theorem d_Co_treesOf_10 : decode b_Co_treesOf 10 = .ok (.aload_n 0, 1) := by decide +kernel
theorem d_Co_treesOf_11 : decode b_Co_treesOf 11 = .ok (.iload_n 3, 1) := by decide +kernel
theorem d_Co_treesOf_12 : decode b_Co_treesOf 12 = .ok (.invokevirtual 36, 3) := by decide +kernel
theorem d_Co_treesOf_15 : decode b_Co_treesOf 15 = .ok (.aload_n 0, 1) := by decide +kernel
theorem d_Co_treesOf_16 : decode b_Co_treesOf 16 = .ok (.iload_n 3, 1) := by decide +kernel
theorem d_Co_treesOf_17 : decode b_Co_treesOf 17 = .ok (.iconst 1, 1) := by decide +kernel
theorem d_Co_treesOf_18 : decode b_Co_treesOf 18 = .ok (.iadd, 1) := by decide +kernel
theorem d_Co_treesOf_19 : decode b_Co_treesOf 19 = .ok (.putfield 30, 3) := by decide +kernel
theorem d_Co_treesOf_22 : decode b_Co_treesOf 22 = .ok (.iinc 3 1, 3) := by decide +kernel
theorem d_Co_treesOf_25 : decode b_Co_treesOf 25 = .ok (.goto (-20), 3) := by decide +kernel
theorem d_Co_treesOf_28 : decode b_Co_treesOf 28 = .ok (.aload_n 0, 1) := by decide +kernel
theorem d_Co_treesOf_29 : decode b_Co_treesOf 29 = .ok (.getfield 11, 3) := by decide +kernel
theorem d_Co_treesOf_32 : decode b_Co_treesOf 32 = .ok (.iload_n 1, 1) := by decide +kernel
theorem d_Co_treesOf_33 : decode b_Co_treesOf 33 = .ok (.bipush 17, 2) := by decide +kernel
theorem d_Co_treesOf_35 : decode b_Co_treesOf 35 = .ok (.imul, 1) := by decide +kernel
theorem d_Co_treesOf_36 : decode b_Co_treesOf 36 = .ok (.iload_n 2, 1) := by decide +kernel
theorem d_Co_treesOf_37 : decode b_Co_treesOf 37 = .ok (.iadd, 1) := by decide +kernel
theorem d_Co_treesOf_38 : decode b_Co_treesOf 38 = .ok (.laload, 1) := by decide +kernel
theorem d_Co_treesOf_39 : decode b_Co_treesOf 39 = .ok (.lreturn, 1) := by decide +kernel
theorem d_Dr_init_0 : decode b_Dr_init 0 = .ok (.aload_n 0, 1) := by decide +kernel
theorem d_Dr_init_1 : decode b_Dr_init 1 = .ok (.invokespecial 3, 3) := by decide +kernel
theorem d_Dr_init_4 : decode b_Dr_init 4 = .ok (.aload_n 0, 1) := by decide +kernel
theorem d_Dr_init_5 : decode b_Dr_init 5 = .ok (.sipush 200, 3) := by decide +kernel
theorem d_Dr_init_8 : decode b_Dr_init 8 = .ok (.newarray .int, 2) := by decide +kernel
theorem d_Dr_init_10 : decode b_Dr_init 10 = .ok (.putfield 9, 3) := by decide +kernel
theorem d_Dr_init_13 : decode b_Dr_init 13 = .ok (.aload_n 0, 1) := by decide +kernel
theorem d_Dr_init_14 : decode b_Dr_init 14 = .ok (.bipush 16, 2) := by decide +kernel
theorem d_Dr_init_16 : decode b_Dr_init 16 = .ok (.newarray .int, 2) := by decide +kernel
theorem d_Dr_init_18 : decode b_Dr_init 18 = .ok (.putfield 15, 3) := by decide +kernel
theorem d_Dr_init_21 : decode b_Dr_init 21 = .ok (.return_, 1) := by decide +kernel
theorem d_Dr_addLeaf_0 : decode b_Dr_addLeaf 0 = .ok (.aload_n 0, 1) := by decide +kernel
theorem d_Dr_addLeaf_1 : decode b_Dr_addLeaf 1 = .ok (.getfield 22, 3) := by decide +kernel
theorem d_Dr_addLeaf_4 : decode b_Dr_addLeaf 4 = .ok (.bipush 16, 2) := by decide +kernel
theorem d_Dr_addLeaf_6 : decode b_Dr_addLeaf 6 = .ok (.if_icmp .ge 23, 3) := by decide +kernel
theorem d_Dr_addLeaf_9 : decode b_Dr_addLeaf 9 = .ok (.aload_n 0, 1) := by decide +kernel
theorem d_Dr_addLeaf_10 : decode b_Dr_addLeaf 10 = .ok (.getfield 15, 3) := by decide +kernel
theorem d_Dr_addLeaf_13 : decode b_Dr_addLeaf 13 = .ok (.aload_n 0, 1) := by decide +kernel
theorem d_Dr_addLeaf_14 : decode b_Dr_addLeaf 14 = .ok (.getfield 22, 3) := by decide +kernel
theorem d_Dr_addLeaf_17 : decode b_Dr_addLeaf 17 = .ok (.iload_n 1, 1) := by decide +kernel
theorem d_Dr_addLeaf_18 : decode b_Dr_addLeaf 18 = .ok (.iastore, 1) := by decide +kernel
theorem d_Dr_addLeaf_19 : decode b_Dr_addLeaf 19 = .ok (.aload_n 0, 1) := by decide +kernel
theorem d_Dr_addLeaf_20 : decode b_Dr_addLeaf 20 = .ok (.dup, 1) := by decide +kernel
theorem d_Dr_addLeaf_21 : decode b_Dr_addLeaf 21 = .ok (.getfield 22, 3) := by decide +kernel
theorem d_Dr_addLeaf_24 : decode b_Dr_addLeaf 24 = .ok (.iconst 1, 1) := by decide +kernel
theorem d_Dr_addLeaf_25 : decode b_Dr_addLeaf 25 = .ok (.iadd, 1) := by decide +kernel
theorem d_Dr_addLeaf_26 : decode b_Dr_addLeaf 26 = .ok (.putfield 22, 3) := by decide +kernel
theorem d_Dr_addLeaf_29 : decode b_Dr_addLeaf 29 = .ok (.return_, 1) := by decide +kernel
theorem d_Dr_addRule_0 : decode b_Dr_addRule 0 = .ok (.aload_n 0, 1) := by decide +kernel
theorem d_Dr_addRule_1 : decode b_Dr_addRule 1 = .ok (.getfield 18, 3) := by decide +kernel
theorem d_Dr_addRule_4 : decode b_Dr_addRule 4 = .ok (.sipush 200, 3) := by decide +kernel
theorem d_Dr_addRule_7 : decode b_Dr_addRule 7 = .ok (.if_icmp .ge 23, 3) := by decide +kernel
theorem d_Dr_addRule_10 : decode b_Dr_addRule 10 = .ok (.aload_n 0, 1) := by decide +kernel
theorem d_Dr_addRule_11 : decode b_Dr_addRule 11 = .ok (.getfield 9, 3) := by decide +kernel
theorem d_Dr_addRule_14 : decode b_Dr_addRule 14 = .ok (.aload_n 0, 1) := by decide +kernel
theorem d_Dr_addRule_15 : decode b_Dr_addRule 15 = .ok (.getfield 18, 3) := by decide +kernel
theorem d_Dr_addRule_18 : decode b_Dr_addRule 18 = .ok (.iload_n 1, 1) := by decide +kernel
theorem d_Dr_addRule_19 : decode b_Dr_addRule 19 = .ok (.iastore, 1) := by decide +kernel
theorem d_Dr_addRule_20 : decode b_Dr_addRule 20 = .ok (.aload_n 0, 1) := by decide +kernel
theorem d_Dr_addRule_21 : decode b_Dr_addRule 21 = .ok (.dup, 1) := by decide +kernel
theorem d_Dr_addRule_22 : decode b_Dr_addRule 22 = .ok (.getfield 18, 3) := by decide +kernel
theorem d_Dr_addRule_25 : decode b_Dr_addRule 25 = .ok (.iconst 1, 1) := by decide +kernel
theorem d_Dr_addRule_26 : decode b_Dr_addRule 26 = .ok (.iadd, 1) := by decide +kernel
theorem d_Dr_addRule_27 : decode b_Dr_addRule 27 = .ok (.putfield 18, 3) := by decide +kernel
theorem d_Dr_addRule_30 : decode b_Dr_addRule 30 = .ok (.return_, 1) := by decide +kernel
theorem d_Dr_clear_0 : decode b_Dr_clear 0 = .ok (.aload_n 0, 1) := by decide +kernel
theorem d_Dr_clear_1 : decode b_Dr_clear 1 = .ok (.iconst 0, 1) := by decide +kernel
theorem d_Dr_clear_2 : decode b_Dr_clear 2 = .ok (.putfield 18, 3) := by decide +kernel
theorem d_Dr_clear_5 : decode b_Dr_clear 5 = .ok (.aload_n 0, 1) := by decide +kernel
theorem d_Dr_clear_6 : decode b_Dr_clear 6 = .ok (.iconst 0, 1) := by decide +kernel
theorem d_Dr_clear_7 : decode b_Dr_clear 7 = .ok (.putfield 22, 3) := by decide +kernel
theorem d_Dr_clear_10 : decode b_Dr_clear 10 = .ok (.return_, 1) := by decide +kernel
theorem d_Gr_init_0 : decode b_Gr_init 0 = .ok (.aload_n 0, 1) := by decide +kernel
theorem d_Gr_init_1 : decode b_Gr_init 1 = .ok (.invokespecial 3, 3) := by decide +kernel
theorem d_Gr_init_4 : decode b_Gr_init 4 = .ok (.aload_n 0, 1) := by decide +kernel
theorem d_Gr_init_5 : decode b_Gr_init 5 = .ok (.bipush 24, 2) := by decide +kernel
theorem d_Gr_init_7 : decode b_Gr_init 7 = .ok (.newarray .int, 2) := by decide +kernel
theorem d_Gr_init_9 : decode b_Gr_init 9 = .ok (.putfield 9, 3) := by decide +kernel
theorem d_Gr_init_12 : decode b_Gr_init 12 = .ok (.aload_n 0, 1) := by decide +kernel
theorem d_Gr_init_13 : decode b_Gr_init 13 = .ok (.bipush 24, 2) := by decide +kernel
theorem d_Gr_init_15 : decode b_Gr_init 15 = .ok (.newarray .int, 2) := by decide +kernel
theorem d_Gr_init_17 : decode b_Gr_init 17 = .ok (.putfield 15, 3) := by decide +kernel
theorem d_Gr_init_20 : decode b_Gr_init 20 = .ok (.aload_n 0, 1) := by decide +kernel
theorem d_Gr_init_21 : decode b_Gr_init 21 = .ok (.sipush 144, 3) := by decide +kernel
theorem d_Gr_init_24 : decode b_Gr_init 24 = .ok (.newarray .int, 2) := by decide +kernel
theorem d_Gr_init_26 : decode b_Gr_init 26 = .ok (.putfield 18, 3) := by decide +kernel
theorem d_Gr_init_29 : decode b_Gr_init 29 = .ok (.return_, 1) := by decide +kernel
theorem d_Gr_add_0 : decode b_Gr_add 0 = .ok (.aload_n 0, 1) := by decide +kernel
theorem d_Gr_add_1 : decode b_Gr_add 1 = .ok (.getfield 9, 3) := by decide +kernel
theorem d_Gr_add_4 : decode b_Gr_add 4 = .ok (.aload_n 0, 1) := by decide +kernel
theorem d_Gr_add_5 : decode b_Gr_add 5 = .ok (.getfield 21, 3) := by decide +kernel
theorem d_Gr_add_8 : decode b_Gr_add 8 = .ok (.iload_n 1, 1) := by decide +kernel
theorem d_Gr_add_9 : decode b_Gr_add 9 = .ok (.iastore, 1) := by decide +kernel
theorem d_Gr_add_10 : decode b_Gr_add 10 = .ok (.aload_n 0, 1) := by decide +kernel
theorem d_Gr_add_11 : decode b_Gr_add 11 = .ok (.getfield 15, 3) := by decide +kernel
theorem d_Gr_add_14 : decode b_Gr_add 14 = .ok (.aload_n 0, 1) := by decide +kernel
theorem d_Gr_add_15 : decode b_Gr_add 15 = .ok (.getfield 21, 3) := by decide +kernel
theorem d_Gr_add_18 : decode b_Gr_add 18 = .ok (.iload_n 3, 1) := by decide +kernel
theorem d_Gr_add_19 : decode b_Gr_add 19 = .ok (.iastore, 1) := by decide +kernel
theorem d_Gr_add_20 : decode b_Gr_add 20 = .ok (.aload_n 2, 1) := by decide +kernel
theorem d_Gr_add_21 : decode b_Gr_add 21 = .ok (.iconst 0, 1) := by decide +kernel
theorem d_Gr_add_22 : decode b_Gr_add 22 = .ok (.aload_n 0, 1) := by decide +kernel
theorem d_Gr_add_23 : decode b_Gr_add 23 = .ok (.getfield 18, 3) := by decide +kernel
theorem d_Gr_add_26 : decode b_Gr_add 26 = .ok (.aload_n 0, 1) := by decide +kernel
theorem d_Gr_add_27 : decode b_Gr_add 27 = .ok (.getfield 21, 3) := by decide +kernel
theorem d_Gr_add_30 : decode b_Gr_add 30 = .ok (.bipush 6, 2) := by decide +kernel
theorem d_Gr_add_32 : decode b_Gr_add 32 = .ok (.imul, 1) := by decide +kernel
theorem d_Gr_add_33 : decode b_Gr_add 33 = .ok (.iload_n 3, 1) := by decide +kernel
theorem d_Gr_add_34 : decode b_Gr_add 34 = .ok (.invokestatic 33, 3) := by decide +kernel
theorem d_Gr_add_37 : decode b_Gr_add 37 = .ok (.aload_n 0, 1) := by decide +kernel
theorem d_Gr_add_38 : decode b_Gr_add 38 = .ok (.dup, 1) := by decide +kernel
theorem d_Gr_add_39 : decode b_Gr_add 39 = .ok (.getfield 21, 3) := by decide +kernel
theorem d_Gr_add_42 : decode b_Gr_add 42 = .ok (.iconst 1, 1) := by decide +kernel
theorem d_Gr_add_43 : decode b_Gr_add 43 = .ok (.iadd, 1) := by decide +kernel
theorem d_Gr_add_44 : decode b_Gr_add 44 = .ok (.putfield 21, 3) := by decide +kernel
theorem d_Gr_add_47 : decode b_Gr_add 47 = .ok (.aload_n 0, 1) := by decide +kernel
theorem d_Gr_add_48 : decode b_Gr_add 48 = .ok (.getfield 21, 3) := by decide +kernel
theorem d_Gr_add_51 : decode b_Gr_add 51 = .ok (.iconst 1, 1) := by decide +kernel
theorem d_Gr_add_52 : decode b_Gr_add 52 = .ok (.isub, 1) := by decide +kernel
theorem d_Gr_add_53 : decode b_Gr_add 53 = .ok (.ireturn, 1) := by decide +kernel
theorem d_Gr_has_0 : decode b_Gr_has 0 = .ok (.iload_n 1, 1) := by decide +kernel
theorem d_Gr_has_1 : decode b_Gr_has 1 = .ok (.ifCond .lt 15, 3) := by decide +kernel
theorem d_Gr_has_4 : decode b_Gr_has 4 = .ok (.iload_n 1, 1) := by decide +kernel
theorem d_Gr_has_5 : decode b_Gr_has 5 = .ok (.aload_n 0, 1) := by decide +kernel
theorem d_Gr_has_6 : decode b_Gr_has 6 = .ok (.getfield 21, 3) := by decide +kernel
theorem d_Gr_has_9 : decode b_Gr_has 9 = .ok (.if_icmp .ge 7, 3) := by decide +kernel
theorem d_Gr_has_12 : decode b_Gr_has 12 = .ok (.iconst 1, 1) := by decide +kernel
theorem d_Gr_has_13 : decode b_Gr_has 13 = .ok (.goto 4, 3) := by decide +kernel
theorem d_Gr_has_16 : decode b_Gr_has 16 = .ok (.iconst 0, 1) := by decide +kernel
theorem d_Gr_has_17 : decode b_Gr_has 17 = .ok (.ireturn, 1) := by decide +kernel
theorem d_Gr_leftOf_0 : decode b_Gr_leftOf 0 = .ok (.aload_n 0, 1) := by decide +kernel
theorem d_Gr_leftOf_1 : decode b_Gr_leftOf 1 = .ok (.getfield 9, 3) := by decide +kernel
theorem d_Gr_leftOf_4 : decode b_Gr_leftOf 4 = .ok (.iload_n 1, 1) := by decide +kernel
theorem d_Gr_leftOf_5 : decode b_Gr_leftOf 5 = .ok (.iaload, 1) := by decide +kernel
theorem d_Gr_leftOf_6 : decode b_Gr_leftOf 6 = .ok (.ireturn, 1) := by decide +kernel
theorem d_Gr_nonterminalsIn_0 : decode b_Gr_nonterminalsIn 0 = .ok (.iconst 0, 1) := by decide +kernel
theorem d_Gr_nonterminalsIn_1 : decode b_Gr_nonterminalsIn 1 = .ok (.istore_n 2, 1) := by decide +kernel
theorem d_Gr_nonterminalsIn_2 : decode b_Gr_nonterminalsIn 2 = .ok (.iconst 0, 1) := by decide +kernel
theorem d_Gr_nonterminalsIn_3 : decode b_Gr_nonterminalsIn 3 = .ok (.istore_n 3, 1) := by decide +kernel
theorem d_Gr_nonterminalsIn_4 : decode b_Gr_nonterminalsIn 4 = .ok (.iload_n 3, 1) := by decide +kernel
theorem d_Gr_nonterminalsIn_5 : decode b_Gr_nonterminalsIn 5 = .ok (.aload_n 0, 1) := by decide +kernel
theorem d_Gr_nonterminalsIn_6 : decode b_Gr_nonterminalsIn 6 = .ok (.getfield 15, 3) := by decide +kernel
theorem d_Gr_nonterminalsIn_9 : decode b_Gr_nonterminalsIn 9 = .ok (.iload_n 1, 1) := by decide +kernel
theorem d_Gr_nonterminalsIn_10 : decode b_Gr_nonterminalsIn 10 = .ok (.iaload, 1) := by decide +kernel
theorem d_Gr_nonterminalsIn_11 : decode b_Gr_nonterminalsIn 11 = .ok (.if_icmp .ge 24, 3) := by decide +kernel
theorem d_Gr_nonterminalsIn_14 : decode b_Gr_nonterminalsIn 14 = .ok (.aload_n 0, 1) := by decide +kernel
theorem d_Gr_nonterminalsIn_15 : decode b_Gr_nonterminalsIn 15 = .ok (.iload_n 1, 1) := by decide +kernel
theorem d_Gr_nonterminalsIn_16 : decode b_Gr_nonterminalsIn 16 = .ok (.iload_n 3, 1) := by decide +kernel
theorem d_Gr_nonterminalsIn_17 : decode b_Gr_nonterminalsIn 17 = .ok (.invokevirtual 25, 3) := by decide +kernel
theorem d_Gr_nonterminalsIn_20 : decode b_Gr_nonterminalsIn 20 = .ok (.invokestatic 29, 3) := by decide +kernel
theorem d_Gr_nonterminalsIn_23 : decode b_Gr_nonterminalsIn 23 = .ok (.ifCond .eq 6, 3) := by decide +kernel
theorem d_Gr_nonterminalsIn_26 : decode b_Gr_nonterminalsIn 26 = .ok (.iinc 2 1, 3) := by decide +kernel
theorem d_Gr_nonterminalsIn_29 : decode b_Gr_nonterminalsIn 29 = .ok (.iinc 3 1, 3) := by decide +kernel
theorem d_Gr_nonterminalsIn_32 : decode b_Gr_nonterminalsIn 32 = .ok (.goto (-28), 3) := by decide +kernel
theorem d_Gr_nonterminalsIn_35 : decode b_Gr_nonterminalsIn 35 = .ok (.iload_n 2, 1) := by decide +kernel
theorem d_Gr_nonterminalsIn_36 : decode b_Gr_nonterminalsIn 36 = .ok (.ireturn, 1) := by decide +kernel
theorem d_Gr_remove_0 : decode b_Gr_remove 0 = .ok (.iload_n 1, 1) := by decide +kernel
theorem d_Gr_remove_1 : decode b_Gr_remove 1 = .ok (.iconst 1, 1) := by decide +kernel
theorem d_Gr_remove_2 : decode b_Gr_remove 2 = .ok (.iadd, 1) := by decide +kernel
theorem d_Gr_remove_3 : decode b_Gr_remove 3 = .ok (.istore_n 2, 1) := by decide +kernel
theorem d_Gr_remove_4 : decode b_Gr_remove 4 = .ok (.aload_n 0, 1) := by decide +kernel
theorem d_Gr_remove_5 : decode b_Gr_remove 5 = .ok (.getfield 21, 3) := by decide +kernel
theorem d_Gr_remove_8 : decode b_Gr_remove 8 = .ok (.iload_n 2, 1) := by decide +kernel
theorem d_Gr_remove_9 : decode b_Gr_remove 9 = .ok (.isub, 1) := by decide +kernel
theorem d_Gr_remove_10 : decode b_Gr_remove 10 = .ok (.istore_n 3, 1) := by decide +kernel
theorem d_Gr_remove_11 : decode b_Gr_remove 11 = .ok (.aload_n 0, 1) := by decide +kernel
theorem d_Gr_remove_12 : decode b_Gr_remove 12 = .ok (.getfield 9, 3) := by decide +kernel
theorem d_Gr_remove_15 : decode b_Gr_remove 15 = .ok (.iload_n 2, 1) := by decide +kernel
theorem d_Gr_remove_16 : decode b_Gr_remove 16 = .ok (.aload_n 0, 1) := by decide +kernel
theorem d_Gr_remove_17 : decode b_Gr_remove 17 = .ok (.getfield 9, 3) := by decide +kernel
theorem d_Gr_remove_20 : decode b_Gr_remove 20 = .ok (.iload_n 1, 1) := by decide +kernel
theorem d_Gr_remove_21 : decode b_Gr_remove 21 = .ok (.iload_n 3, 1) := by decide +kernel
theorem d_Gr_remove_22 : decode b_Gr_remove 22 = .ok (.invokestatic 33, 3) := by decide +kernel
theorem d_Gr_remove_25 : decode b_Gr_remove 25 = .ok (.aload_n 0, 1) := by decide +kernel
theorem d_Gr_remove_26 : decode b_Gr_remove 26 = .ok (.getfield 15, 3) := by decide +kernel
theorem d_Gr_remove_29 : decode b_Gr_remove 29 = .ok (.iload_n 2, 1) := by decide +kernel
theorem d_Gr_remove_30 : decode b_Gr_remove 30 = .ok (.aload_n 0, 1) := by decide +kernel
theorem d_Gr_remove_31 : decode b_Gr_remove 31 = .ok (.getfield 15, 3) := by decide +kernel
theorem d_Gr_remove_34 : decode b_Gr_remove 34 = .ok (.iload_n 1, 1) := by decide +kernel

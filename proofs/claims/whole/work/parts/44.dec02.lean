theorem d_Gr_remove_35 : decode b_Gr_remove 35 = .ok (.iload_n 3, 1) := by decide +kernel
theorem d_Gr_remove_36 : decode b_Gr_remove 36 = .ok (.invokestatic 33, 3) := by decide +kernel
theorem d_Gr_remove_39 : decode b_Gr_remove 39 = .ok (.aload_n 0, 1) := by decide +kernel
theorem d_Gr_remove_40 : decode b_Gr_remove 40 = .ok (.getfield 18, 3) := by decide +kernel
theorem d_Gr_remove_43 : decode b_Gr_remove 43 = .ok (.iload_n 2, 1) := by decide +kernel
theorem d_Gr_remove_44 : decode b_Gr_remove 44 = .ok (.bipush 6, 2) := by decide +kernel
theorem d_Gr_remove_46 : decode b_Gr_remove 46 = .ok (.imul, 1) := by decide +kernel
theorem d_Gr_remove_47 : decode b_Gr_remove 47 = .ok (.aload_n 0, 1) := by decide +kernel
theorem d_Gr_remove_48 : decode b_Gr_remove 48 = .ok (.getfield 18, 3) := by decide +kernel
theorem d_Gr_remove_51 : decode b_Gr_remove 51 = .ok (.iload_n 1, 1) := by decide +kernel
theorem d_Gr_remove_52 : decode b_Gr_remove 52 = .ok (.bipush 6, 2) := by decide +kernel
theorem d_Gr_remove_54 : decode b_Gr_remove 54 = .ok (.imul, 1) := by decide +kernel
theorem d_Gr_remove_55 : decode b_Gr_remove 55 = .ok (.iload_n 3, 1) := by decide +kernel
theorem d_Gr_remove_56 : decode b_Gr_remove 56 = .ok (.bipush 6, 2) := by decide +kernel
theorem d_Gr_remove_58 : decode b_Gr_remove 58 = .ok (.imul, 1) := by decide +kernel
theorem d_Gr_remove_59 : decode b_Gr_remove 59 = .ok (.invokestatic 33, 3) := by decide +kernel
theorem d_Gr_remove_62 : decode b_Gr_remove 62 = .ok (.aload_n 0, 1) := by decide +kernel
theorem d_Gr_remove_63 : decode b_Gr_remove 63 = .ok (.dup, 1) := by decide +kernel
theorem d_Gr_remove_64 : decode b_Gr_remove 64 = .ok (.getfield 21, 3) := by decide +kernel
theorem d_Gr_remove_67 : decode b_Gr_remove 67 = .ok (.iconst 1, 1) := by decide +kernel
theorem d_Gr_remove_68 : decode b_Gr_remove 68 = .ok (.isub, 1) := by decide +kernel
theorem d_Gr_remove_69 : decode b_Gr_remove 69 = .ok (.putfield 21, 3) := by decide +kernel
theorem d_Gr_remove_72 : decode b_Gr_remove 72 = .ok (.return_, 1) := by decide +kernel
theorem d_Gr_sizeOf_0 : decode b_Gr_sizeOf 0 = .ok (.aload_n 0, 1) := by decide +kernel
theorem d_Gr_sizeOf_1 : decode b_Gr_sizeOf 1 = .ok (.getfield 15, 3) := by decide +kernel
theorem d_Gr_sizeOf_4 : decode b_Gr_sizeOf 4 = .ok (.iload_n 1, 1) := by decide +kernel
theorem d_Gr_sizeOf_5 : decode b_Gr_sizeOf 5 = .ok (.iaload, 1) := by decide +kernel
theorem d_Gr_sizeOf_6 : decode b_Gr_sizeOf 6 = .ok (.ireturn, 1) := by decide +kernel
theorem d_Gr_symbolAt_0 : decode b_Gr_symbolAt 0 = .ok (.aload_n 0, 1) := by decide +kernel
theorem d_Gr_symbolAt_1 : decode b_Gr_symbolAt 1 = .ok (.getfield 18, 3) := by decide +kernel
theorem d_Gr_symbolAt_4 : decode b_Gr_symbolAt 4 = .ok (.iload_n 1, 1) := by decide +kernel
theorem d_Gr_symbolAt_5 : decode b_Gr_symbolAt 5 = .ok (.bipush 6, 2) := by decide +kernel
theorem d_Gr_symbolAt_7 : decode b_Gr_symbolAt 7 = .ok (.imul, 1) := by decide +kernel
theorem d_Gr_symbolAt_8 : decode b_Gr_symbolAt 8 = .ok (.iload_n 2, 1) := by decide +kernel
theorem d_Gr_symbolAt_9 : decode b_Gr_symbolAt 9 = .ok (.iadd, 1) := by decide +kernel
theorem d_Gr_symbolAt_10 : decode b_Gr_symbolAt 10 = .ok (.iaload, 1) := by decide +kernel
theorem d_Gr_symbolAt_11 : decode b_Gr_symbolAt 11 = .ok (.ireturn, 1) := by decide +kernel
theorem d_Ld_init_0 : decode b_Ld_init 0 = .ok (.aload_n 0, 1) := by decide +kernel
theorem d_Ld_init_1 : decode b_Ld_init 1 = .ok (.invokespecial 3, 3) := by decide +kernel
theorem d_Ld_init_4 : decode b_Ld_init 4 = .ok (.aload_n 0, 1) := by decide +kernel
theorem d_Ld_init_5 : decode b_Ld_init 5 = .ok (.bipush 8, 2) := by decide +kernel
theorem d_Ld_init_7 : decode b_Ld_init 7 = .ok (.newarray .int, 2) := by decide +kernel
theorem d_Ld_init_9 : decode b_Ld_init 9 = .ok (.putfield 9, 3) := by decide +kernel
theorem d_Ld_init_12 : decode b_Ld_init 12 = .ok (.aload_n 0, 1) := by decide +kernel
theorem d_Ld_init_13 : decode b_Ld_init 13 = .ok (.bipush 8, 2) := by decide +kernel
theorem d_Ld_init_15 : decode b_Ld_init 15 = .ok (.newarray .int, 2) := by decide +kernel
theorem d_Ld_init_17 : decode b_Ld_init 17 = .ok (.putfield 15, 3) := by decide +kernel
theorem d_Ld_init_20 : decode b_Ld_init 20 = .ok (.aload_n 0, 1) := by decide +kernel
theorem d_Ld_init_21 : decode b_Ld_init 21 = .ok (.aload_n 1, 1) := by decide +kernel
theorem d_Ld_init_22 : decode b_Ld_init 22 = .ok (.putfield 18, 3) := by decide +kernel
theorem d_Ld_init_25 : decode b_Ld_init 25 = .ok (.aload_n 0, 1) := by decide +kernel
theorem d_Ld_init_26 : decode b_Ld_init 26 = .ok (.aload_n 2, 1) := by decide +kernel
theorem d_Ld_init_27 : decode b_Ld_init 27 = .ok (.putfield 22, 3) := by decide +kernel
theorem d_Ld_init_30 : decode b_Ld_init 30 = .ok (.return_, 1) := by decide +kernel
theorem d_Ld_find_0 : decode b_Ld_find 0 = .ok (.aload_n 0, 1) := by decide +kernel
theorem d_Ld_find_1 : decode b_Ld_find 1 = .ok (.getfield 9, 3) := by decide +kernel
theorem d_Ld_find_4 : decode b_Ld_find 4 = .ok (.iconst 0, 1) := by decide +kernel
theorem d_Ld_find_5 : decode b_Ld_find 5 = .ok (.invokestatic 30, 3) := by decide +kernel
theorem d_Ld_find_8 : decode b_Ld_find 8 = .ok (.iconst 0, 1) := by decide +kernel
theorem d_Ld_find_9 : decode b_Ld_find 9 = .ok (.istore_n 1, 1) := by decide +kernel
theorem d_Ld_find_10 : decode b_Ld_find 10 = .ok (.iload_n 1, 1) := by decide +kernel
theorem d_Ld_find_11 : decode b_Ld_find 11 = .ok (.aload_n 0, 1) := by decide +kernel
theorem d_Ld_find_12 : decode b_Ld_find 12 = .ok (.getfield 18, 3) := by decide +kernel
theorem d_Ld_find_15 : decode b_Ld_find 15 = .ok (.getfield 36, 3) := by decide +kernel
theorem d_Ld_find_18 : decode b_Ld_find 18 = .ok (.if_icmp .ge 74, 3) := by decide +kernel
theorem d_Ld_find_21 : decode b_Ld_find 21 = .ok (.iconst 0, 1) := by decide +kernel
theorem d_Ld_find_22 : decode b_Ld_find 22 = .ok (.istore_n 2, 1) := by decide +kernel
theorem d_Ld_find_23 : decode b_Ld_find 23 = .ok (.iload_n 2, 1) := by decide +kernel
theorem d_Ld_find_24 : decode b_Ld_find 24 = .ok (.aload_n 0, 1) := by decide +kernel
theorem d_Ld_find_25 : decode b_Ld_find 25 = .ok (.getfield 18, 3) := by decide +kernel
theorem d_Ld_find_28 : decode b_Ld_find 28 = .ok (.iload_n 1, 1) := by decide +kernel
theorem d_Ld_find_29 : decode b_Ld_find 29 = .ok (.invokevirtual 41, 3) := by decide +kernel
theorem d_Ld_find_32 : decode b_Ld_find 32 = .ok (.if_icmp .ge 54, 3) := by decide +kernel
theorem d_Ld_find_35 : decode b_Ld_find 35 = .ok (.aload_n 0, 1) := by decide +kernel
theorem d_Ld_find_36 : decode b_Ld_find 36 = .ok (.getfield 18, 3) := by decide +kernel
theorem d_Ld_find_39 : decode b_Ld_find 39 = .ok (.iload_n 1, 1) := by decide +kernel
theorem d_Ld_find_40 : decode b_Ld_find 40 = .ok (.iload_n 2, 1) := by decide +kernel
theorem d_Ld_find_41 : decode b_Ld_find 41 = .ok (.invokevirtual 45, 3) := by decide +kernel
theorem d_Ld_find_44 : decode b_Ld_find 44 = .ok (.istore_n 3, 1) := by decide +kernel
theorem d_Ld_find_45 : decode b_Ld_find 45 = .ok (.iload_n 3, 1) := by decide +kernel
theorem d_Ld_find_46 : decode b_Ld_find 46 = .ok (.invokestatic 49, 3) := by decide +kernel
theorem d_Ld_find_49 : decode b_Ld_find 49 = .ok (.ifCond .eq 31, 3) := by decide +kernel
theorem d_Ld_find_52 : decode b_Ld_find 52 = .ok (.aload_n 0, 1) := by decide +kernel
theorem d_Ld_find_53 : decode b_Ld_find 53 = .ok (.iload_n 1, 1) := by decide +kernel
theorem d_Ld_find_54 : decode b_Ld_find 54 = .ok (.iload_n 2, 1) := by decide +kernel
theorem d_Ld_find_55 : decode b_Ld_find 55 = .ok (.invokevirtual 53, 3) := by decide +kernel
theorem d_Ld_find_58 : decode b_Ld_find 58 = .ok (.ifCond .eq 22, 3) := by decide +kernel
theorem d_Ld_find_61 : decode b_Ld_find 61 = .ok (.aload_n 0, 1) := by decide +kernel
theorem d_Ld_find_62 : decode b_Ld_find 62 = .ok (.getfield 9, 3) := by decide +kernel
theorem d_Ld_find_65 : decode b_Ld_find 65 = .ok (.aload_n 0, 1) := by decide +kernel
theorem d_Ld_find_66 : decode b_Ld_find 66 = .ok (.getfield 18, 3) := by decide +kernel
theorem d_Ld_find_69 : decode b_Ld_find 69 = .ok (.iload_n 1, 1) := by decide +kernel
theorem d_Ld_find_70 : decode b_Ld_find 70 = .ok (.invokevirtual 57, 3) := by decide +kernel
theorem d_Ld_find_73 : decode b_Ld_find 73 = .ok (.dup2, 1) := by decide +kernel
theorem d_Ld_find_74 : decode b_Ld_find 74 = .ok (.iaload, 1) := by decide +kernel
theorem d_Ld_find_75 : decode b_Ld_find 75 = .ok (.iconst 1, 1) := by decide +kernel
theorem d_Ld_find_76 : decode b_Ld_find 76 = .ok (.iload_n 3, 1) := by decide +kernel
theorem d_Ld_find_77 : decode b_Ld_find 77 = .ok (.ishl, 1) := by decide +kernel
theorem d_Ld_find_78 : decode b_Ld_find 78 = .ok (.ior, 1) := by decide +kernel
theorem d_Ld_find_79 : decode b_Ld_find 79 = .ok (.iastore, 1) := by decide +kernel
theorem d_Ld_find_80 : decode b_Ld_find 80 = .ok (.iinc 2 1, 3) := by decide +kernel
theorem d_Ld_find_83 : decode b_Ld_find 83 = .ok (.goto (-60), 3) := by decide +kernel
theorem d_Ld_find_86 : decode b_Ld_find 86 = .ok (.iinc 1 1, 3) := by decide +kernel
theorem d_Ld_find_89 : decode b_Ld_find 89 = .ok (.goto (-79), 3) := by decide +kernel
theorem d_Ld_find_92 : decode b_Ld_find 92 = .ok (.aload_n 0, 1) := by decide +kernel
theorem d_Ld_find_93 : decode b_Ld_find 93 = .ok (.invokevirtual 60, 3) := by decide +kernel
theorem d_Ld_find_96 : decode b_Ld_find 96 = .ok (.return_, 1) := by decide +kernel
theorem d_Ld_inOrder_0 : decode b_Ld_inOrder 0 = .ok (.aload_n 0, 1) := by decide +kernel
theorem d_Ld_inOrder_1 : decode b_Ld_inOrder 1 = .ok (.getfield 15, 3) := by decide +kernel
theorem d_Ld_inOrder_4 : decode b_Ld_inOrder 4 = .ok (.iload_n 1, 1) := by decide +kernel
theorem d_Ld_inOrder_5 : decode b_Ld_inOrder 5 = .ok (.iaload, 1) := by decide +kernel
theorem d_Ld_inOrder_6 : decode b_Ld_inOrder 6 = .ok (.ireturn, 1) := by decide +kernel
theorem d_Ld_isCircle_0 : decode b_Ld_isCircle 0 = .ok (.aload_n 0, 1) := by decide +kernel
theorem d_Ld_isCircle_1 : decode b_Ld_isCircle 1 = .ok (.getfield 26, 3) := by decide +kernel
theorem d_Ld_isCircle_4 : decode b_Ld_isCircle 4 = .ok (.bipush 8, 2) := by decide +kernel
theorem d_Ld_isCircle_6 : decode b_Ld_isCircle 6 = .ok (.if_icmp .ge 7, 3) := by decide +kernel
theorem d_Ld_isCircle_9 : decode b_Ld_isCircle 9 = .ok (.iconst 1, 1) := by decide +kernel
theorem d_Ld_isCircle_10 : decode b_Ld_isCircle 10 = .ok (.goto 4, 3) := by decide +kernel
theorem d_Ld_isCircle_13 : decode b_Ld_isCircle 13 = .ok (.iconst 0, 1) := by decide +kernel
theorem d_Ld_isCircle_14 : decode b_Ld_isCircle 14 = .ok (.ireturn, 1) := by decide +kernel
theorem d_Ld_isEmptyBut_0 : decode b_Ld_isEmptyBut 0 = .ok (.iconst 0, 1) := by decide +kernel
theorem d_Ld_isEmptyBut_1 : decode b_Ld_isEmptyBut 1 = .ok (.istore_n 3, 1) := by decide +kernel
theorem d_Ld_isEmptyBut_2 : decode b_Ld_isEmptyBut 2 = .ok (.iload_n 3, 1) := by decide +kernel
theorem d_Ld_isEmptyBut_3 : decode b_Ld_isEmptyBut 3 = .ok (.aload_n 0, 1) := by decide +kernel
theorem d_Ld_isEmptyBut_4 : decode b_Ld_isEmptyBut 4 = .ok (.getfield 18, 3) := by decide +kernel
theorem d_Ld_isEmptyBut_7 : decode b_Ld_isEmptyBut 7 = .ok (.iload_n 1, 1) := by decide +kernel
theorem d_Ld_isEmptyBut_8 : decode b_Ld_isEmptyBut 8 = .ok (.invokevirtual 41, 3) := by decide +kernel
theorem d_Ld_isEmptyBut_11 : decode b_Ld_isEmptyBut 11 = .ok (.if_icmp .ge 35, 3) := by decide +kernel
theorem d_Ld_isEmptyBut_14 : decode b_Ld_isEmptyBut 14 = .ok (.iload_n 3, 1) := by decide +kernel
theorem d_Ld_isEmptyBut_15 : decode b_Ld_isEmptyBut 15 = .ok (.iload_n 2, 1) := by decide +kernel
theorem d_Ld_isEmptyBut_16 : decode b_Ld_isEmptyBut 16 = .ok (.if_icmp .eq 24, 3) := by decide +kernel
theorem d_Ld_isEmptyBut_19 : decode b_Ld_isEmptyBut 19 = .ok (.aload_n 0, 1) := by decide +kernel
theorem d_Ld_isEmptyBut_20 : decode b_Ld_isEmptyBut 20 = .ok (.getfield 22, 3) := by decide +kernel
theorem d_Ld_isEmptyBut_23 : decode b_Ld_isEmptyBut 23 = .ok (.aload_n 0, 1) := by decide +kernel
theorem d_Ld_isEmptyBut_24 : decode b_Ld_isEmptyBut 24 = .ok (.getfield 18, 3) := by decide +kernel
theorem d_Ld_isEmptyBut_27 : decode b_Ld_isEmptyBut 27 = .ok (.iload_n 1, 1) := by decide +kernel
theorem d_Ld_isEmptyBut_28 : decode b_Ld_isEmptyBut 28 = .ok (.iload_n 3, 1) := by decide +kernel
theorem d_Ld_isEmptyBut_29 : decode b_Ld_isEmptyBut 29 = .ok (.invokevirtual 45, 3) := by decide +kernel
theorem d_Ld_isEmptyBut_32 : decode b_Ld_isEmptyBut 32 = .ok (.invokevirtual 63, 3) := by decide +kernel
theorem d_Ld_isEmptyBut_35 : decode b_Ld_isEmptyBut 35 = .ok (.ifCond .ne 5, 3) := by decide +kernel
theorem d_Ld_isEmptyBut_38 : decode b_Ld_isEmptyBut 38 = .ok (.iconst 0, 1) := by decide +kernel
theorem d_Ld_isEmptyBut_39 : decode b_Ld_isEmptyBut 39 = .ok (.ireturn, 1) := by decide +kernel
theorem d_Ld_isEmptyBut_40 : decode b_Ld_isEmptyBut 40 = .ok (.iinc 3 1, 3) := by decide +kernel
theorem d_Ld_isEmptyBut_43 : decode b_Ld_isEmptyBut 43 = .ok (.goto (-41), 3) := by decide +kernel
theorem d_Ld_isEmptyBut_46 : decode b_Ld_isEmptyBut 46 = .ok (.iconst 1, 1) := by decide +kernel
theorem d_Ld_isEmptyBut_47 : decode b_Ld_isEmptyBut 47 = .ok (.ireturn, 1) := by decide +kernel
theorem d_Ld_putInOrder_0 : decode b_Ld_putInOrder 0 = .ok (.aload_n 0, 1) := by decide +kernel
theorem d_Ld_putInOrder_1 : decode b_Ld_putInOrder 1 = .ok (.iconst 0, 1) := by decide +kernel
theorem d_Ld_putInOrder_2 : decode b_Ld_putInOrder 2 = .ok (.putfield 26, 3) := by decide +kernel
theorem d_Ld_putInOrder_5 : decode b_Ld_putInOrder 5 = .ok (.iconst 0, 1) := by decide +kernel
theorem d_Ld_putInOrder_6 : decode b_Ld_putInOrder 6 = .ok (.istore_n 1, 1) := by decide +kernel
theorem d_Ld_putInOrder_7 : decode b_Ld_putInOrder 7 = .ok (.iconst 0, 1) := by decide +kernel
theorem d_Ld_putInOrder_8 : decode b_Ld_putInOrder 8 = .ok (.istore_n 2, 1) := by decide +kernel
theorem d_Ld_putInOrder_9 : decode b_Ld_putInOrder 9 = .ok (.iload_n 2, 1) := by decide +kernel
theorem d_Ld_putInOrder_10 : decode b_Ld_putInOrder 10 = .ok (.bipush 8, 2) := by decide +kernel
theorem d_Ld_putInOrder_12 : decode b_Ld_putInOrder 12 = .ok (.if_icmp .ge 82, 3) := by decide +kernel
theorem d_Ld_putInOrder_15 : decode b_Ld_putInOrder 15 = .ok (.iconst 0, 1) := by decide +kernel
theorem d_Ld_putInOrder_16 : decode b_Ld_putInOrder 16 = .ok (.istore_n 3, 1) := by decide +kernel
theorem d_Ld_putInOrder_17 : decode b_Ld_putInOrder 17 = .ok (.iload_n 3, 1) := by decide +kernel
theorem d_Ld_putInOrder_18 : decode b_Ld_putInOrder 18 = .ok (.bipush 8, 2) := by decide +kernel
theorem d_Ld_putInOrder_20 : decode b_Ld_putInOrder 20 = .ok (.if_icmp .ge 68, 3) := by decide +kernel
theorem d_Ld_putInOrder_23 : decode b_Ld_putInOrder 23 = .ok (.iload_n 1, 1) := by decide +kernel
theorem d_Ld_putInOrder_24 : decode b_Ld_putInOrder 24 = .ok (.iconst 1, 1) := by decide +kernel
theorem d_Ld_putInOrder_25 : decode b_Ld_putInOrder 25 = .ok (.iload_n 3, 1) := by decide +kernel
theorem d_Ld_putInOrder_26 : decode b_Ld_putInOrder 26 = .ok (.ishl, 1) := by decide +kernel
theorem d_Ld_putInOrder_27 : decode b_Ld_putInOrder 27 = .ok (.iand, 1) := by decide +kernel
theorem d_Ld_putInOrder_28 : decode b_Ld_putInOrder 28 = .ok (.ifCond .ne 7, 3) := by decide +kernel
theorem d_Ld_putInOrder_31 : decode b_Ld_putInOrder 31 = .ok (.iconst 1, 1) := by decide +kernel
theorem d_Ld_putInOrder_32 : decode b_Ld_putInOrder 32 = .ok (.goto 4, 3) := by decide +kernel
theorem d_Ld_putInOrder_35 : decode b_Ld_putInOrder 35 = .ok (.iconst 0, 1) := by decide +kernel
theorem d_Ld_putInOrder_36 : decode b_Ld_putInOrder 36 = .ok (.istore 4, 2) := by decide +kernel
theorem d_Ld_putInOrder_38 : decode b_Ld_putInOrder 38 = .ok (.iload 4, 2) := by decide +kernel
theorem d_Ld_putInOrder_40 : decode b_Ld_putInOrder 40 = .ok (.ifCond .eq 42, 3) := by decide +kernel
theorem d_Ld_putInOrder_43 : decode b_Ld_putInOrder 43 = .ok (.aload_n 0, 1) := by decide +kernel
theorem d_Ld_putInOrder_44 : decode b_Ld_putInOrder 44 = .ok (.getfield 9, 3) := by decide +kernel
theorem d_Ld_putInOrder_47 : decode b_Ld_putInOrder 47 = .ok (.iload_n 3, 1) := by decide +kernel
theorem d_Ld_putInOrder_48 : decode b_Ld_putInOrder 48 = .ok (.iaload, 1) := by decide +kernel
theorem d_Ld_putInOrder_49 : decode b_Ld_putInOrder 49 = .ok (.iload_n 1, 1) := by decide +kernel
theorem d_Ld_putInOrder_50 : decode b_Ld_putInOrder 50 = .ok (.iconst (-1), 1) := by decide +kernel
theorem d_Ld_putInOrder_51 : decode b_Ld_putInOrder 51 = .ok (.ixor, 1) := by decide +kernel
theorem d_Ld_putInOrder_52 : decode b_Ld_putInOrder 52 = .ok (.iand, 1) := by decide +kernel
theorem d_Ld_putInOrder_53 : decode b_Ld_putInOrder 53 = .ok (.ifCond .ne 29, 3) := by decide +kernel
theorem d_Ld_putInOrder_56 : decode b_Ld_putInOrder 56 = .ok (.iload_n 1, 1) := by decide +kernel
theorem d_Ld_putInOrder_57 : decode b_Ld_putInOrder 57 = .ok (.iconst 1, 1) := by decide +kernel
theorem d_Ld_putInOrder_58 : decode b_Ld_putInOrder 58 = .ok (.iload_n 3, 1) := by decide +kernel
theorem d_Ld_putInOrder_59 : decode b_Ld_putInOrder 59 = .ok (.ishl, 1) := by decide +kernel
theorem d_Ld_putInOrder_60 : decode b_Ld_putInOrder 60 = .ok (.ior, 1) := by decide +kernel
theorem d_Ld_putInOrder_61 : decode b_Ld_putInOrder 61 = .ok (.istore_n 1, 1) := by decide +kernel
theorem d_Ld_putInOrder_62 : decode b_Ld_putInOrder 62 = .ok (.aload_n 0, 1) := by decide +kernel
theorem d_Ld_putInOrder_63 : decode b_Ld_putInOrder 63 = .ok (.getfield 15, 3) := by decide +kernel
theorem d_Ld_putInOrder_66 : decode b_Ld_putInOrder 66 = .ok (.aload_n 0, 1) := by decide +kernel
theorem d_Ld_putInOrder_67 : decode b_Ld_putInOrder 67 = .ok (.getfield 26, 3) := by decide +kernel
theorem d_Ld_putInOrder_70 : decode b_Ld_putInOrder 70 = .ok (.iload_n 3, 1) := by decide +kernel
theorem d_Ld_putInOrder_71 : decode b_Ld_putInOrder 71 = .ok (.iastore, 1) := by decide +kernel
theorem d_Ld_putInOrder_72 : decode b_Ld_putInOrder 72 = .ok (.aload_n 0, 1) := by decide +kernel
theorem d_Ld_putInOrder_73 : decode b_Ld_putInOrder 73 = .ok (.dup, 1) := by decide +kernel
theorem d_Ld_putInOrder_74 : decode b_Ld_putInOrder 74 = .ok (.getfield 26, 3) := by decide +kernel
theorem d_Ld_putInOrder_77 : decode b_Ld_putInOrder 77 = .ok (.iconst 1, 1) := by decide +kernel
theorem d_Ld_putInOrder_78 : decode b_Ld_putInOrder 78 = .ok (.iadd, 1) := by decide +kernel
theorem d_Ld_putInOrder_79 : decode b_Ld_putInOrder 79 = .ok (.putfield 26, 3) := by decide +kernel
theorem d_Ld_putInOrder_82 : decode b_Ld_putInOrder 82 = .ok (.iinc 3 1, 3) := by decide +kernel
theorem d_Ld_putInOrder_85 : decode b_Ld_putInOrder 85 = .ok (.goto (-68), 3) := by decide +kernel
theorem d_Ld_putInOrder_88 : decode b_Ld_putInOrder 88 = .ok (.iinc 2 1, 3) := by decide +kernel
theorem d_Ld_putInOrder_91 : decode b_Ld_putInOrder 91 = .ok (.goto (-82), 3) := by decide +kernel
theorem d_Ld_putInOrder_94 : decode b_Ld_putInOrder 94 = .ok (.return_, 1) := by decide +kernel
theorem d_Le_init_0 : decode b_Le_init 0 = .ok (.aload_n 0, 1) := by decide +kernel
theorem d_Le_init_1 : decode b_Le_init 1 = .ok (.invokespecial 3, 3) := by decide +kernel
theorem d_Le_init_4 : decode b_Le_init 4 = .ok (.aload_n 0, 1) := by decide +kernel
theorem d_Le_init_5 : decode b_Le_init 5 = .ok (.bipush 8, 2) := by decide +kernel
theorem d_Le_init_7 : decode b_Le_init 7 = .ok (.newarray .int, 2) := by decide +kernel
theorem d_Le_init_9 : decode b_Le_init 9 = .ok (.putfield 9, 3) := by decide +kernel
theorem d_Le_init_12 : decode b_Le_init 12 = .ok (.aload_n 0, 1) := by decide +kernel
theorem d_Le_init_13 : decode b_Le_init 13 = .ok (.bipush 8, 2) := by decide +kernel
theorem d_Le_init_15 : decode b_Le_init 15 = .ok (.newarray .int, 2) := by decide +kernel
theorem d_Le_init_17 : decode b_Le_init 17 = .ok (.putfield 15, 3) := by decide +kernel
theorem d_Le_init_20 : decode b_Le_init 20 = .ok (.aload_n 0, 1) := by decide +kernel
theorem d_Le_init_21 : decode b_Le_init 21 = .ok (.aload_n 1, 1) := by decide +kernel
theorem d_Le_init_22 : decode b_Le_init 22 = .ok (.putfield 18, 3) := by decide +kernel
theorem d_Le_init_25 : decode b_Le_init 25 = .ok (.return_, 1) := by decide +kernel
theorem d_Le_find_0 : decode b_Le_find 0 = .ok (.aload_n 0, 1) := by decide +kernel
theorem d_Le_find_1 : decode b_Le_find 1 = .ok (.getfield 9, 3) := by decide +kernel
theorem d_Le_find_4 : decode b_Le_find 4 = .ok (.iconst (-1), 1) := by decide +kernel
theorem d_Le_find_5 : decode b_Le_find 5 = .ok (.invokestatic 36, 3) := by decide +kernel
theorem d_Le_find_8 : decode b_Le_find 8 = .ok (.iconst 0, 1) := by decide +kernel
theorem d_Le_find_9 : decode b_Le_find 9 = .ok (.istore_n 1, 1) := by decide +kernel
theorem d_Le_find_10 : decode b_Le_find 10 = .ok (.iload_n 1, 1) := by decide +kernel
theorem d_Le_find_11 : decode b_Le_find 11 = .ok (.bipush 8, 2) := by decide +kernel
theorem d_Le_find_13 : decode b_Le_find 13 = .ok (.if_icmp .ge 49, 3) := by decide +kernel
theorem d_Le_find_16 : decode b_Le_find 16 = .ok (.iconst 0, 1) := by decide +kernel
theorem d_Le_find_17 : decode b_Le_find 17 = .ok (.istore_n 2, 1) := by decide +kernel
theorem d_Le_find_18 : decode b_Le_find 18 = .ok (.iload_n 2, 1) := by decide +kernel
theorem d_Le_find_19 : decode b_Le_find 19 = .ok (.aload_n 0, 1) := by decide +kernel
theorem d_Le_find_20 : decode b_Le_find 20 = .ok (.getfield 18, 3) := by decide +kernel
theorem d_Le_find_23 : decode b_Le_find 23 = .ok (.getfield 42, 3) := by decide +kernel
theorem d_Le_find_26 : decode b_Le_find 26 = .ok (.if_icmp .ge 30, 3) := by decide +kernel
theorem d_Le_find_29 : decode b_Le_find 29 = .ok (.aload_n 0, 1) := by decide +kernel
theorem d_Le_find_30 : decode b_Le_find 30 = .ok (.getfield 9, 3) := by decide +kernel
theorem d_Le_find_33 : decode b_Le_find 33 = .ok (.aload_n 0, 1) := by decide +kernel
theorem d_Le_find_34 : decode b_Le_find 34 = .ok (.getfield 18, 3) := by decide +kernel
theorem d_Le_find_37 : decode b_Le_find 37 = .ok (.iload_n 2, 1) := by decide +kernel
theorem d_Le_find_38 : decode b_Le_find 38 = .ok (.invokevirtual 30, 3) := by decide +kernel
theorem d_Le_find_41 : decode b_Le_find 41 = .ok (.aload_n 0, 1) := by decide +kernel
theorem d_Le_find_42 : decode b_Le_find 42 = .ok (.iload_n 2, 1) := by decide +kernel
theorem d_Le_find_43 : decode b_Le_find 43 = .ok (.iconst (-1), 1) := by decide +kernel
theorem d_Le_find_44 : decode b_Le_find 44 = .ok (.invokevirtual 26, 3) := by decide +kernel
theorem d_Le_find_47 : decode b_Le_find 47 = .ok (.invokestatic 46, 3) := by decide +kernel
theorem d_Le_find_50 : decode b_Le_find 50 = .ok (.iinc 2 1, 3) := by decide +kernel
theorem d_Le_find_53 : decode b_Le_find 53 = .ok (.goto (-35), 3) := by decide +kernel
theorem d_Le_find_56 : decode b_Le_find 56 = .ok (.iinc 1 1, 3) := by decide +kernel
theorem d_Le_find_59 : decode b_Le_find 59 = .ok (.goto (-49), 3) := by decide +kernel

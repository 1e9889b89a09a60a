theorem d_Le_find_62 : decode b_Le_find 62 = .ok (.aload_n 0, 1) := by decide +kernel
theorem d_Le_find_63 : decode b_Le_find 63 = .ok (.getfield 15, 3) := by decide +kernel
theorem d_Le_find_66 : decode b_Le_find 66 = .ok (.iconst (-1), 1) := by decide +kernel
theorem d_Le_find_67 : decode b_Le_find 67 = .ok (.invokestatic 36, 3) := by decide +kernel
theorem d_Le_find_70 : decode b_Le_find 70 = .ok (.aload_n 0, 1) := by decide +kernel
theorem d_Le_find_71 : decode b_Le_find 71 = .ok (.getfield 15, 3) := by decide +kernel
theorem d_Le_find_74 : decode b_Le_find 74 = .ok (.iconst 0, 1) := by decide +kernel
theorem d_Le_find_75 : decode b_Le_find 75 = .ok (.iconst 0, 1) := by decide +kernel
theorem d_Le_find_76 : decode b_Le_find 76 = .ok (.iastore, 1) := by decide +kernel
theorem d_Le_find_77 : decode b_Le_find 77 = .ok (.iconst 0, 1) := by decide +kernel
theorem d_Le_find_78 : decode b_Le_find 78 = .ok (.istore_n 1, 1) := by decide +kernel
theorem d_Le_find_79 : decode b_Le_find 79 = .ok (.iload_n 1, 1) := by decide +kernel
theorem d_Le_find_80 : decode b_Le_find 80 = .ok (.bipush 8, 2) := by decide +kernel
theorem d_Le_find_82 : decode b_Le_find 82 = .ok (.if_icmp .ge 33, 3) := by decide +kernel
theorem d_Le_find_85 : decode b_Le_find 85 = .ok (.iconst 0, 1) := by decide +kernel
theorem d_Le_find_86 : decode b_Le_find 86 = .ok (.istore_n 2, 1) := by decide +kernel
theorem d_Le_find_87 : decode b_Le_find 87 = .ok (.iload_n 2, 1) := by decide +kernel
theorem d_Le_find_88 : decode b_Le_find 88 = .ok (.aload_n 0, 1) := by decide +kernel
theorem d_Le_find_89 : decode b_Le_find 89 = .ok (.getfield 18, 3) := by decide +kernel
theorem d_Le_find_92 : decode b_Le_find 92 = .ok (.getfield 42, 3) := by decide +kernel
theorem d_Le_find_95 : decode b_Le_find 95 = .ok (.if_icmp .ge 14, 3) := by decide +kernel
theorem d_Le_find_98 : decode b_Le_find 98 = .ok (.aload_n 0, 1) := by decide +kernel
theorem d_Le_find_99 : decode b_Le_find 99 = .ok (.iload_n 2, 1) := by decide +kernel
theorem d_Le_find_100 : decode b_Le_find 100 = .ok (.invokevirtual 50, 3) := by decide +kernel
theorem d_Le_find_103 : decode b_Le_find 103 = .ok (.iinc 2 1, 3) := by decide +kernel
theorem d_Le_find_106 : decode b_Le_find 106 = .ok (.goto (-19), 3) := by decide +kernel
theorem d_Le_find_109 : decode b_Le_find 109 = .ok (.iinc 1 1, 3) := by decide +kernel
theorem d_Le_find_112 : decode b_Le_find 112 = .ok (.goto (-33), 3) := by decide +kernel
theorem d_Le_find_115 : decode b_Le_find 115 = .ok (.return_, 1) := by decide +kernel
theorem d_Le_isEmpty_0 : decode b_Le_isEmpty 0 = .ok (.iload_n 1, 1) := by decide +kernel
theorem d_Le_isEmpty_1 : decode b_Le_isEmpty 1 = .ok (.invokestatic 22, 3) := by decide +kernel
theorem d_Le_isEmpty_4 : decode b_Le_isEmpty 4 = .ok (.ifCond .eq 16, 3) := by decide +kernel
theorem d_Le_isEmpty_7 : decode b_Le_isEmpty 7 = .ok (.aload_n 0, 1) := by decide +kernel
theorem d_Le_isEmpty_8 : decode b_Le_isEmpty 8 = .ok (.getfield 9, 3) := by decide +kernel
theorem d_Le_isEmpty_11 : decode b_Le_isEmpty 11 = .ok (.iload_n 1, 1) := by decide +kernel
theorem d_Le_isEmpty_12 : decode b_Le_isEmpty 12 = .ok (.iaload, 1) := by decide +kernel
theorem d_Le_isEmpty_13 : decode b_Le_isEmpty 13 = .ok (.ifCond .ne 7, 3) := by decide +kernel
theorem d_Le_isEmpty_16 : decode b_Le_isEmpty 16 = .ok (.iconst 1, 1) := by decide +kernel
theorem d_Le_isEmpty_17 : decode b_Le_isEmpty 17 = .ok (.goto 4, 3) := by decide +kernel
theorem d_Le_isEmpty_20 : decode b_Le_isEmpty 20 = .ok (.iconst 0, 1) := by decide +kernel
theorem d_Le_isEmpty_21 : decode b_Le_isEmpty 21 = .ok (.ireturn, 1) := by decide +kernel
theorem d_Le_leastBut_0 : decode b_Le_leastBut 0 = .ok (.iconst 0, 1) := by decide +kernel
theorem d_Le_leastBut_1 : decode b_Le_leastBut 1 = .ok (.istore_n 3, 1) := by decide +kernel
theorem d_Le_leastBut_2 : decode b_Le_leastBut 2 = .ok (.iconst 0, 1) := by decide +kernel
theorem d_Le_leastBut_3 : decode b_Le_leastBut 3 = .ok (.istore 4, 2) := by decide +kernel
theorem d_Le_leastBut_5 : decode b_Le_leastBut 5 = .ok (.iload 4, 2) := by decide +kernel
theorem d_Le_leastBut_7 : decode b_Le_leastBut 7 = .ok (.aload_n 0, 1) := by decide +kernel
theorem d_Le_leastBut_8 : decode b_Le_leastBut 8 = .ok (.getfield 18, 3) := by decide +kernel
theorem d_Le_leastBut_11 : decode b_Le_leastBut 11 = .ok (.iload_n 1, 1) := by decide +kernel
theorem d_Le_leastBut_12 : decode b_Le_leastBut 12 = .ok (.invokevirtual 54, 3) := by decide +kernel
theorem d_Le_leastBut_15 : decode b_Le_leastBut 15 = .ok (.if_icmp .ge 64, 3) := by decide +kernel
theorem d_Le_leastBut_18 : decode b_Le_leastBut 18 = .ok (.iload 4, 2) := by decide +kernel
theorem d_Le_leastBut_20 : decode b_Le_leastBut 20 = .ok (.iload_n 2, 1) := by decide +kernel
theorem d_Le_leastBut_21 : decode b_Le_leastBut 21 = .ok (.if_icmp .ne 6, 3) := by decide +kernel
theorem d_Le_leastBut_24 : decode b_Le_leastBut 24 = .ok (.goto 49, 3) := by decide +kernel
theorem d_Le_leastBut_27 : decode b_Le_leastBut 27 = .ok (.aload_n 0, 1) := by decide +kernel
theorem d_Le_leastBut_28 : decode b_Le_leastBut 28 = .ok (.getfield 18, 3) := by decide +kernel
theorem d_Le_leastBut_31 : decode b_Le_leastBut 31 = .ok (.iload_n 1, 1) := by decide +kernel
theorem d_Le_leastBut_32 : decode b_Le_leastBut 32 = .ok (.iload 4, 2) := by decide +kernel
theorem d_Le_leastBut_34 : decode b_Le_leastBut 34 = .ok (.invokevirtual 57, 3) := by decide +kernel
theorem d_Le_leastBut_37 : decode b_Le_leastBut 37 = .ok (.istore 5, 2) := by decide +kernel
theorem d_Le_leastBut_39 : decode b_Le_leastBut 39 = .ok (.iload 5, 2) := by decide +kernel
theorem d_Le_leastBut_41 : decode b_Le_leastBut 41 = .ok (.invokestatic 22, 3) := by decide +kernel
theorem d_Le_leastBut_44 : decode b_Le_leastBut 44 = .ok (.ifCond .eq 13, 3) := by decide +kernel
theorem d_Le_leastBut_47 : decode b_Le_leastBut 47 = .ok (.aload_n 0, 1) := by decide +kernel
theorem d_Le_leastBut_48 : decode b_Le_leastBut 48 = .ok (.getfield 9, 3) := by decide +kernel
theorem d_Le_leastBut_51 : decode b_Le_leastBut 51 = .ok (.iload 5, 2) := by decide +kernel
theorem d_Le_leastBut_53 : decode b_Le_leastBut 53 = .ok (.iaload, 1) := by decide +kernel
theorem d_Le_leastBut_54 : decode b_Le_leastBut 54 = .ok (.goto 4, 3) := by decide +kernel
theorem d_Le_leastBut_57 : decode b_Le_leastBut 57 = .ok (.iconst 1, 1) := by decide +kernel
theorem d_Le_leastBut_58 : decode b_Le_leastBut 58 = .ok (.istore 6, 2) := by decide +kernel
theorem d_Le_leastBut_60 : decode b_Le_leastBut 60 = .ok (.iload 6, 2) := by decide +kernel
theorem d_Le_leastBut_62 : decode b_Le_leastBut 62 = .ok (.iconst (-1), 1) := by decide +kernel
theorem d_Le_leastBut_63 : decode b_Le_leastBut 63 = .ok (.if_icmp .ne 5, 3) := by decide +kernel
theorem d_Le_leastBut_66 : decode b_Le_leastBut 66 = .ok (.iconst (-1), 1) := by decide +kernel
theorem d_Le_leastBut_67 : decode b_Le_leastBut 67 = .ok (.ireturn, 1) := by decide +kernel
theorem d_Le_leastBut_68 : decode b_Le_leastBut 68 = .ok (.iload_n 3, 1) := by decide +kernel
theorem d_Le_leastBut_69 : decode b_Le_leastBut 69 = .ok (.iload 6, 2) := by decide +kernel
theorem d_Le_leastBut_71 : decode b_Le_leastBut 71 = .ok (.iadd, 1) := by decide +kernel
theorem d_Le_leastBut_72 : decode b_Le_leastBut 72 = .ok (.istore_n 3, 1) := by decide +kernel
theorem d_Le_leastBut_73 : decode b_Le_leastBut 73 = .ok (.iinc 4 1, 3) := by decide +kernel
theorem d_Le_leastBut_76 : decode b_Le_leastBut 76 = .ok (.goto (-71), 3) := by decide +kernel
theorem d_Le_leastBut_79 : decode b_Le_leastBut 79 = .ok (.iload_n 3, 1) := by decide +kernel
theorem d_Le_leastBut_80 : decode b_Le_leastBut 80 = .ok (.ireturn, 1) := by decide +kernel
theorem d_Le_leastOf_0 : decode b_Le_leastOf 0 = .ok (.aload_n 0, 1) := by decide +kernel
theorem d_Le_leastOf_1 : decode b_Le_leastOf 1 = .ok (.getfield 9, 3) := by decide +kernel
theorem d_Le_leastOf_4 : decode b_Le_leastOf 4 = .ok (.iload_n 1, 1) := by decide +kernel
theorem d_Le_leastOf_5 : decode b_Le_leastOf 5 = .ok (.iaload, 1) := by decide +kernel
theorem d_Le_leastOf_6 : decode b_Le_leastOf 6 = .ok (.ireturn, 1) := by decide +kernel
theorem d_Le_leastWith_0 : decode b_Le_leastWith 0 = .ok (.aload_n 0, 1) := by decide +kernel
theorem d_Le_leastWith_1 : decode b_Le_leastWith 1 = .ok (.iload_n 1, 1) := by decide +kernel
theorem d_Le_leastWith_2 : decode b_Le_leastWith 2 = .ok (.iconst (-1), 1) := by decide +kernel
theorem d_Le_leastWith_3 : decode b_Le_leastWith 3 = .ok (.invokevirtual 26, 3) := by decide +kernel
theorem d_Le_leastWith_6 : decode b_Le_leastWith 6 = .ok (.istore_n 2, 1) := by decide +kernel
theorem d_Le_leastWith_7 : decode b_Le_leastWith 7 = .ok (.aload_n 0, 1) := by decide +kernel
theorem d_Le_leastWith_8 : decode b_Le_leastWith 8 = .ok (.getfield 15, 3) := by decide +kernel
theorem d_Le_leastWith_11 : decode b_Le_leastWith 11 = .ok (.aload_n 0, 1) := by decide +kernel
theorem d_Le_leastWith_12 : decode b_Le_leastWith 12 = .ok (.getfield 18, 3) := by decide +kernel
theorem d_Le_leastWith_15 : decode b_Le_leastWith 15 = .ok (.iload_n 1, 1) := by decide +kernel
theorem d_Le_leastWith_16 : decode b_Le_leastWith 16 = .ok (.invokevirtual 30, 3) := by decide +kernel
theorem d_Le_leastWith_19 : decode b_Le_leastWith 19 = .ok (.iaload, 1) := by decide +kernel
theorem d_Le_leastWith_20 : decode b_Le_leastWith 20 = .ok (.istore_n 3, 1) := by decide +kernel
theorem d_Le_leastWith_21 : decode b_Le_leastWith 21 = .ok (.iload_n 2, 1) := by decide +kernel
theorem d_Le_leastWith_22 : decode b_Le_leastWith 22 = .ok (.iconst (-1), 1) := by decide +kernel
theorem d_Le_leastWith_23 : decode b_Le_leastWith 23 = .ok (.if_icmp .eq 8, 3) := by decide +kernel
theorem d_Le_leastWith_26 : decode b_Le_leastWith 26 = .ok (.iload_n 3, 1) := by decide +kernel
theorem d_Le_leastWith_27 : decode b_Le_leastWith 27 = .ok (.iconst (-1), 1) := by decide +kernel
theorem d_Le_leastWith_28 : decode b_Le_leastWith 28 = .ok (.if_icmp .ne 7, 3) := by decide +kernel
theorem d_Le_leastWith_31 : decode b_Le_leastWith 31 = .ok (.iconst (-1), 1) := by decide +kernel
theorem d_Le_leastWith_32 : decode b_Le_leastWith 32 = .ok (.goto 6, 3) := by decide +kernel
theorem d_Le_leastWith_35 : decode b_Le_leastWith 35 = .ok (.iload_n 2, 1) := by decide +kernel
theorem d_Le_leastWith_36 : decode b_Le_leastWith 36 = .ok (.iload_n 3, 1) := by decide +kernel
theorem d_Le_leastWith_37 : decode b_Le_leastWith 37 = .ok (.iadd, 1) := by decide +kernel
theorem d_Le_leastWith_38 : decode b_Le_leastWith 38 = .ok (.ireturn, 1) := by decide +kernel
theorem d_Le_lower_0 : decode b_Le_lower 0 = .ok (.aload_n 0, 1) := by decide +kernel
theorem d_Le_lower_1 : decode b_Le_lower 1 = .ok (.iload_n 1, 1) := by decide +kernel
theorem d_Le_lower_2 : decode b_Le_lower 2 = .ok (.iaload, 1) := by decide +kernel
theorem d_Le_lower_3 : decode b_Le_lower 3 = .ok (.istore_n 3, 1) := by decide +kernel
theorem d_Le_lower_4 : decode b_Le_lower 4 = .ok (.iload_n 2, 1) := by decide +kernel
theorem d_Le_lower_5 : decode b_Le_lower 5 = .ok (.iconst (-1), 1) := by decide +kernel
theorem d_Le_lower_6 : decode b_Le_lower 6 = .ok (.if_icmp .eq 17, 3) := by decide +kernel
theorem d_Le_lower_9 : decode b_Le_lower 9 = .ok (.iload_n 3, 1) := by decide +kernel
theorem d_Le_lower_10 : decode b_Le_lower 10 = .ok (.iconst (-1), 1) := by decide +kernel
theorem d_Le_lower_11 : decode b_Le_lower 11 = .ok (.if_icmp .eq 8, 3) := by decide +kernel
theorem d_Le_lower_14 : decode b_Le_lower 14 = .ok (.iload_n 2, 1) := by decide +kernel
theorem d_Le_lower_15 : decode b_Le_lower 15 = .ok (.iload_n 3, 1) := by decide +kernel
theorem d_Le_lower_16 : decode b_Le_lower 16 = .ok (.if_icmp .ge 7, 3) := by decide +kernel
theorem d_Le_lower_19 : decode b_Le_lower 19 = .ok (.aload_n 0, 1) := by decide +kernel
theorem d_Le_lower_20 : decode b_Le_lower 20 = .ok (.iload_n 1, 1) := by decide +kernel
theorem d_Le_lower_21 : decode b_Le_lower 21 = .ok (.iload_n 2, 1) := by decide +kernel
theorem d_Le_lower_22 : decode b_Le_lower 22 = .ok (.iastore, 1) := by decide +kernel
theorem d_Le_lower_23 : decode b_Le_lower 23 = .ok (.return_, 1) := by decide +kernel
theorem d_Le_lowerAround_0 : decode b_Le_lowerAround 0 = .ok (.aload_n 0, 1) := by decide +kernel
theorem d_Le_lowerAround_1 : decode b_Le_lowerAround 1 = .ok (.getfield 15, 3) := by decide +kernel
theorem d_Le_lowerAround_4 : decode b_Le_lowerAround 4 = .ok (.aload_n 0, 1) := by decide +kernel
theorem d_Le_lowerAround_5 : decode b_Le_lowerAround 5 = .ok (.getfield 18, 3) := by decide +kernel
theorem d_Le_lowerAround_8 : decode b_Le_lowerAround 8 = .ok (.iload_n 1, 1) := by decide +kernel
theorem d_Le_lowerAround_9 : decode b_Le_lowerAround 9 = .ok (.invokevirtual 30, 3) := by decide +kernel
theorem d_Le_lowerAround_12 : decode b_Le_lowerAround 12 = .ok (.iaload, 1) := by decide +kernel
theorem d_Le_lowerAround_13 : decode b_Le_lowerAround 13 = .ok (.istore_n 2, 1) := by decide +kernel
theorem d_Le_lowerAround_14 : decode b_Le_lowerAround 14 = .ok (.iload_n 2, 1) := by decide +kernel
theorem d_Le_lowerAround_15 : decode b_Le_lowerAround 15 = .ok (.iconst (-1), 1) := by decide +kernel
theorem d_Le_lowerAround_16 : decode b_Le_lowerAround 16 = .ok (.if_icmp .ne 4, 3) := by decide +kernel
theorem d_Le_lowerAround_19 : decode b_Le_lowerAround 19 = .ok (.return_, 1) := by decide +kernel
theorem d_Le_lowerAround_20 : decode b_Le_lowerAround 20 = .ok (.iconst 0, 1) := by decide +kernel
theorem d_Le_lowerAround_21 : decode b_Le_lowerAround 21 = .ok (.istore_n 3, 1) := by decide +kernel
theorem d_Le_lowerAround_22 : decode b_Le_lowerAround 22 = .ok (.iload_n 3, 1) := by decide +kernel
theorem d_Le_lowerAround_23 : decode b_Le_lowerAround 23 = .ok (.aload_n 0, 1) := by decide +kernel
theorem d_Le_lowerAround_24 : decode b_Le_lowerAround 24 = .ok (.getfield 18, 3) := by decide +kernel
theorem d_Le_lowerAround_27 : decode b_Le_lowerAround 27 = .ok (.iload_n 1, 1) := by decide +kernel
theorem d_Le_lowerAround_28 : decode b_Le_lowerAround 28 = .ok (.invokevirtual 54, 3) := by decide +kernel
theorem d_Le_lowerAround_31 : decode b_Le_lowerAround 31 = .ok (.if_icmp .ge 55, 3) := by decide +kernel
theorem d_Le_lowerAround_34 : decode b_Le_lowerAround 34 = .ok (.aload_n 0, 1) := by decide +kernel
theorem d_Le_lowerAround_35 : decode b_Le_lowerAround 35 = .ok (.getfield 18, 3) := by decide +kernel
theorem d_Le_lowerAround_38 : decode b_Le_lowerAround 38 = .ok (.iload_n 1, 1) := by decide +kernel
theorem d_Le_lowerAround_39 : decode b_Le_lowerAround 39 = .ok (.iload_n 3, 1) := by decide +kernel
theorem d_Le_lowerAround_40 : decode b_Le_lowerAround 40 = .ok (.invokevirtual 57, 3) := by decide +kernel
theorem d_Le_lowerAround_43 : decode b_Le_lowerAround 43 = .ok (.istore 4, 2) := by decide +kernel
theorem d_Le_lowerAround_45 : decode b_Le_lowerAround 45 = .ok (.aload_n 0, 1) := by decide +kernel
theorem d_Le_lowerAround_46 : decode b_Le_lowerAround 46 = .ok (.iload_n 1, 1) := by decide +kernel
theorem d_Le_lowerAround_47 : decode b_Le_lowerAround 47 = .ok (.iload_n 3, 1) := by decide +kernel
theorem d_Le_lowerAround_48 : decode b_Le_lowerAround 48 = .ok (.invokevirtual 26, 3) := by decide +kernel
theorem d_Le_lowerAround_51 : decode b_Le_lowerAround 51 = .ok (.istore 5, 2) := by decide +kernel
theorem d_Le_lowerAround_53 : decode b_Le_lowerAround 53 = .ok (.iload 4, 2) := by decide +kernel
theorem d_Le_lowerAround_55 : decode b_Le_lowerAround 55 = .ok (.invokestatic 22, 3) := by decide +kernel
theorem d_Le_lowerAround_58 : decode b_Le_lowerAround 58 = .ok (.ifCond .eq 22, 3) := by decide +kernel
theorem d_Le_lowerAround_61 : decode b_Le_lowerAround 61 = .ok (.iload 5, 2) := by decide +kernel
theorem d_Le_lowerAround_63 : decode b_Le_lowerAround 63 = .ok (.iconst (-1), 1) := by decide +kernel
theorem d_Le_lowerAround_64 : decode b_Le_lowerAround 64 = .ok (.if_icmp .eq 16, 3) := by decide +kernel
theorem d_Le_lowerAround_67 : decode b_Le_lowerAround 67 = .ok (.aload_n 0, 1) := by decide +kernel
theorem d_Le_lowerAround_68 : decode b_Le_lowerAround 68 = .ok (.getfield 15, 3) := by decide +kernel
theorem d_Le_lowerAround_71 : decode b_Le_lowerAround 71 = .ok (.iload 4, 2) := by decide +kernel
theorem d_Le_lowerAround_73 : decode b_Le_lowerAround 73 = .ok (.iload_n 2, 1) := by decide +kernel
theorem d_Le_lowerAround_74 : decode b_Le_lowerAround 74 = .ok (.iload 5, 2) := by decide +kernel
theorem d_Le_lowerAround_76 : decode b_Le_lowerAround 76 = .ok (.iadd, 1) := by decide +kernel
theorem d_Le_lowerAround_77 : decode b_Le_lowerAround 77 = .ok (.invokestatic 46, 3) := by decide +kernel
theorem d_Le_lowerAround_80 : decode b_Le_lowerAround 80 = .ok (.iinc 3 1, 3) := by decide +kernel
theorem d_Le_lowerAround_83 : decode b_Le_lowerAround 83 = .ok (.goto (-61), 3) := by decide +kernel
theorem d_Le_lowerAround_86 : decode b_Le_lowerAround 86 = .ok (.return_, 1) := by decide +kernel
theorem d_Li_init_0 : decode b_Li_init 0 = .ok (.aload_n 0, 1) := by decide +kernel
theorem d_Li_init_1 : decode b_Li_init 1 = .ok (.invokespecial 3, 3) := by decide +kernel
theorem d_Li_init_4 : decode b_Li_init 4 = .ok (.aload_n 0, 1) := by decide +kernel
theorem d_Li_init_5 : decode b_Li_init 5 = .ok (.sipush 200, 3) := by decide +kernel
theorem d_Li_init_8 : decode b_Li_init 8 = .ok (.newarray .int, 2) := by decide +kernel
theorem d_Li_init_10 : decode b_Li_init 10 = .ok (.putfield 9, 3) := by decide +kernel
theorem d_Li_init_13 : decode b_Li_init 13 = .ok (.aload_n 0, 1) := by decide +kernel
theorem d_Li_init_14 : decode b_Li_init 14 = .ok (.aload_n 1, 1) := by decide +kernel
theorem d_Li_init_15 : decode b_Li_init 15 = .ok (.putfield 15, 3) := by decide +kernel
theorem d_Li_init_18 : decode b_Li_init 18 = .ok (.aload_n 0, 1) := by decide +kernel
theorem d_Li_init_19 : decode b_Li_init 19 = .ok (.aload_n 2, 1) := by decide +kernel
theorem d_Li_init_20 : decode b_Li_init 20 = .ok (.putfield 19, 3) := by decide +kernel
theorem d_Li_init_23 : decode b_Li_init 23 = .ok (.aload_n 0, 1) := by decide +kernel
theorem d_Li_init_24 : decode b_Li_init 24 = .ok (.aload_n 3, 1) := by decide +kernel
theorem d_Li_init_25 : decode b_Li_init 25 = .ok (.putfield 23, 3) := by decide +kernel
theorem d_Li_init_28 : decode b_Li_init 28 = .ok (.return_, 1) := by decide +kernel
theorem d_Li_add_0 : decode b_Li_add 0 = .ok (.aload_n 0, 1) := by decide +kernel
theorem d_Li_add_1 : decode b_Li_add 1 = .ok (.getfield 27, 3) := by decide +kernel
theorem d_Li_add_4 : decode b_Li_add 4 = .ok (.sipush 200, 3) := by decide +kernel
theorem d_Li_add_7 : decode b_Li_add 7 = .ok (.if_icmp .lt 5, 3) := by decide +kernel
theorem d_Li_add_10 : decode b_Li_add 10 = .ok (.iconst (-1), 1) := by decide +kernel
theorem d_Li_add_11 : decode b_Li_add 11 = .ok (.ireturn, 1) := by decide +kernel
theorem d_Li_add_12 : decode b_Li_add 12 = .ok (.aload_n 0, 1) := by decide +kernel
theorem d_Li_add_13 : decode b_Li_add 13 = .ok (.getfield 9, 3) := by decide +kernel
theorem d_Li_add_16 : decode b_Li_add 16 = .ok (.aload_n 0, 1) := by decide +kernel
theorem d_Li_add_17 : decode b_Li_add 17 = .ok (.getfield 27, 3) := by decide +kernel
theorem d_Li_add_20 : decode b_Li_add 20 = .ok (.iload_n 1, 1) := by decide +kernel
theorem d_Li_add_21 : decode b_Li_add 21 = .ok (.iastore, 1) := by decide +kernel
theorem d_Li_add_22 : decode b_Li_add 22 = .ok (.aload_n 0, 1) := by decide +kernel
theorem d_Li_add_23 : decode b_Li_add 23 = .ok (.dup, 1) := by decide +kernel
theorem d_Li_add_24 : decode b_Li_add 24 = .ok (.getfield 27, 3) := by decide +kernel
theorem d_Li_add_27 : decode b_Li_add 27 = .ok (.iconst 1, 1) := by decide +kernel
theorem d_Li_add_28 : decode b_Li_add 28 = .ok (.iadd, 1) := by decide +kernel
theorem d_Li_add_29 : decode b_Li_add 29 = .ok (.putfield 27, 3) := by decide +kernel
theorem d_Li_add_32 : decode b_Li_add 32 = .ok (.aload_n 0, 1) := by decide +kernel
theorem d_Li_add_33 : decode b_Li_add 33 = .ok (.getfield 27, 3) := by decide +kernel
theorem d_Li_add_36 : decode b_Li_add 36 = .ok (.ireturn, 1) := by decide +kernel
theorem d_Li_fold_0 : decode b_Li_fold 0 = .ok (.iconst 0, 1) := by decide +kernel
theorem d_Li_fold_1 : decode b_Li_fold 1 = .ok (.istore_n 2, 1) := by decide +kernel
theorem d_Li_fold_2 : decode b_Li_fold 2 = .ok (.aload_n 0, 1) := by decide +kernel
theorem d_Li_fold_3 : decode b_Li_fold 3 = .ok (.getfield 23, 3) := by decide +kernel
theorem d_Li_fold_6 : decode b_Li_fold 6 = .ok (.getfield 45, 3) := by decide +kernel
theorem d_Li_fold_9 : decode b_Li_fold 9 = .ok (.istore_n 3, 1) := by decide +kernel
theorem d_Li_fold_10 : decode b_Li_fold 10 = .ok (.iconst 0, 1) := by decide +kernel
theorem d_Li_fold_11 : decode b_Li_fold 11 = .ok (.istore 4, 2) := by decide +kernel
theorem d_Li_fold_13 : decode b_Li_fold 13 = .ok (.iload 4, 2) := by decide +kernel
theorem d_Li_fold_15 : decode b_Li_fold 15 = .ok (.aload_n 0, 1) := by decide +kernel
theorem d_Li_fold_16 : decode b_Li_fold 16 = .ok (.getfield 15, 3) := by decide +kernel
theorem d_Li_fold_19 : decode b_Li_fold 19 = .ok (.iload_n 1, 1) := by decide +kernel
theorem d_Li_fold_20 : decode b_Li_fold 20 = .ok (.invokevirtual 64, 3) := by decide +kernel
theorem d_Li_fold_23 : decode b_Li_fold 23 = .ok (.if_icmp .ge 70, 3) := by decide +kernel
theorem d_Li_fold_26 : decode b_Li_fold 26 = .ok (.aload_n 0, 1) := by decide +kernel
theorem d_Li_fold_27 : decode b_Li_fold 27 = .ok (.getfield 15, 3) := by decide +kernel
theorem d_Li_fold_30 : decode b_Li_fold 30 = .ok (.iload_n 1, 1) := by decide +kernel
theorem d_Li_fold_31 : decode b_Li_fold 31 = .ok (.iload 4, 2) := by decide +kernel
theorem d_Li_fold_33 : decode b_Li_fold 33 = .ok (.invokevirtual 71, 3) := by decide +kernel
theorem d_Li_fold_36 : decode b_Li_fold 36 = .ok (.istore 5, 2) := by decide +kernel
theorem d_Li_fold_38 : decode b_Li_fold 38 = .ok (.iload 5, 2) := by decide +kernel
theorem d_Li_fold_40 : decode b_Li_fold 40 = .ok (.invokestatic 75, 3) := by decide +kernel
theorem d_Li_fold_43 : decode b_Li_fold 43 = .ok (.ifCond .ne 9, 3) := by decide +kernel
theorem d_Li_fold_46 : decode b_Li_fold 46 = .ok (.iinc 2 1, 3) := by decide +kernel
theorem d_Li_fold_49 : decode b_Li_fold 49 = .ok (.goto 38, 3) := by decide +kernel
theorem d_Li_fold_52 : decode b_Li_fold 52 = .ok (.iinc 3 (-1), 3) := by decide +kernel
theorem d_Li_fold_55 : decode b_Li_fold 55 = .ok (.iload_n 3, 1) := by decide +kernel
theorem d_Li_fold_56 : decode b_Li_fold 56 = .ok (.ifCond .lt 17, 3) := by decide +kernel
theorem d_Li_fold_59 : decode b_Li_fold 59 = .ok (.aload_n 0, 1) := by decide +kernel
theorem d_Li_fold_60 : decode b_Li_fold 60 = .ok (.getfield 23, 3) := by decide +kernel
theorem d_Li_fold_63 : decode b_Li_fold 63 = .ok (.getfield 52, 3) := by decide +kernel
theorem d_Li_fold_66 : decode b_Li_fold 66 = .ok (.iload_n 3, 1) := by decide +kernel
theorem d_Li_fold_67 : decode b_Li_fold 67 = .ok (.iaload, 1) := by decide +kernel
theorem d_Li_fold_68 : decode b_Li_fold 68 = .ok (.iload 5, 2) := by decide +kernel

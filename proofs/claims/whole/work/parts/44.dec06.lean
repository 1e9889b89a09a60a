theorem d_We_weave_0 : decode b_We_weave 0 = .ok (.aload_n 0, 1) := by decide +kernel
theorem d_We_weave_1 : decode b_We_weave 1 = .ok (.getfield 18, 3) := by decide +kernel
theorem d_We_weave_4 : decode b_We_weave 4 = .ok (.invokevirtual 47, 3) := by decide +kernel
theorem d_We_weave_7 : decode b_We_weave 7 = .ok (.aload_n 0, 1) := by decide +kernel
theorem d_We_weave_8 : decode b_We_weave 8 = .ok (.getfield 29, 3) := by decide +kernel
theorem d_We_weave_11 : decode b_We_weave 11 = .ok (.iconst 0, 1) := by decide +kernel
theorem d_We_weave_12 : decode b_We_weave 12 = .ok (.iload_n 1, 1) := by decide +kernel
theorem d_We_weave_13 : decode b_We_weave 13 = .ok (.iload_n 2, 1) := by decide +kernel
theorem d_We_weave_14 : decode b_We_weave 14 = .ok (.lload_n 3, 1) := by decide +kernel
theorem d_We_weave_15 : decode b_We_weave 15 = .ok (.invokevirtual 50, 3) := by decide +kernel
theorem d_We_weave_18 : decode b_We_weave 18 = .ok (.aload_n 0, 1) := by decide +kernel
theorem d_We_weave_19 : decode b_We_weave 19 = .ok (.getfield 29, 3) := by decide +kernel
theorem d_We_weave_22 : decode b_We_weave 22 = .ok (.iconst 1, 1) := by decide +kernel
theorem d_We_weave_23 : decode b_We_weave 23 = .ok (.putfield 56, 3) := by decide +kernel
theorem d_We_weave_26 : decode b_We_weave 26 = .ok (.aload_n 0, 1) := by decide +kernel
theorem d_We_weave_27 : decode b_We_weave 27 = .ok (.iconst 1, 1) := by decide +kernel
theorem d_We_weave_28 : decode b_We_weave 28 = .ok (.putfield 59, 3) := by decide +kernel
theorem d_We_weave_31 : decode b_We_weave 31 = .ok (.iconst 0, 1) := by decide +kernel
theorem d_We_weave_32 : decode b_We_weave 32 = .ok (.istore 5, 2) := by decide +kernel
theorem d_We_weave_34 : decode b_We_weave 34 = .ok (.iload 5, 2) := by decide +kernel
theorem d_We_weave_36 : decode b_We_weave 36 = .ok (.sipush 216, 3) := by decide +kernel
theorem d_We_weave_39 : decode b_We_weave 39 = .ok (.if_icmp .ge 111, 3) := by decide +kernel
theorem d_We_weave_42 : decode b_We_weave 42 = .ok (.aload_n 0, 1) := by decide +kernel
theorem d_We_weave_43 : decode b_We_weave 43 = .ok (.getfield 29, 3) := by decide +kernel
theorem d_We_weave_46 : decode b_We_weave 46 = .ok (.getfield 56, 3) := by decide +kernel
theorem d_We_weave_49 : decode b_We_weave 49 = .ok (.ifCond .le 101, 3) := by decide +kernel
theorem d_We_weave_52 : decode b_We_weave 52 = .ok (.aload_n 0, 1) := by decide +kernel
theorem d_We_weave_53 : decode b_We_weave 53 = .ok (.getfield 29, 3) := by decide +kernel
theorem d_We_weave_56 : decode b_We_weave 56 = .ok (.dup, 1) := by decide +kernel
theorem d_We_weave_57 : decode b_We_weave 57 = .ok (.getfield 56, 3) := by decide +kernel
theorem d_We_weave_60 : decode b_We_weave 60 = .ok (.iconst 1, 1) := by decide +kernel
theorem d_We_weave_61 : decode b_We_weave 61 = .ok (.isub, 1) := by decide +kernel
theorem d_We_weave_62 : decode b_We_weave 62 = .ok (.putfield 56, 3) := by decide +kernel
theorem d_We_weave_65 : decode b_We_weave 65 = .ok (.aload_n 0, 1) := by decide +kernel
theorem d_We_weave_66 : decode b_We_weave 66 = .ok (.getfield 29, 3) := by decide +kernel
theorem d_We_weave_69 : decode b_We_weave 69 = .ok (.getfield 62, 3) := by decide +kernel
theorem d_We_weave_72 : decode b_We_weave 72 = .ok (.aload_n 0, 1) := by decide +kernel
theorem d_We_weave_73 : decode b_We_weave 73 = .ok (.getfield 29, 3) := by decide +kernel
theorem d_We_weave_76 : decode b_We_weave 76 = .ok (.getfield 56, 3) := by decide +kernel
theorem d_We_weave_79 : decode b_We_weave 79 = .ok (.iaload, 1) := by decide +kernel
theorem d_We_weave_80 : decode b_We_weave 80 = .ok (.istore 6, 2) := by decide +kernel
theorem d_We_weave_82 : decode b_We_weave 82 = .ok (.iload 6, 2) := by decide +kernel
theorem d_We_weave_84 : decode b_We_weave 84 = .ok (.invokestatic 65, 3) := by decide +kernel
theorem d_We_weave_87 : decode b_We_weave 87 = .ok (.ifCond .ne 15, 3) := by decide +kernel
theorem d_We_weave_90 : decode b_We_weave 90 = .ok (.aload_n 0, 1) := by decide +kernel
theorem d_We_weave_91 : decode b_We_weave 91 = .ok (.getfield 18, 3) := by decide +kernel
theorem d_We_weave_94 : decode b_We_weave 94 = .ok (.iload 6, 2) := by decide +kernel
theorem d_We_weave_96 : decode b_We_weave 96 = .ok (.invokevirtual 69, 3) := by decide +kernel
theorem d_We_weave_99 : decode b_We_weave 99 = .ok (.goto 45, 3) := by decide +kernel
theorem d_We_weave_102 : decode b_We_weave 102 = .ok (.aload_n 0, 1) := by decide +kernel
theorem d_We_weave_103 : decode b_We_weave 103 = .ok (.iload 6, 2) := by decide +kernel
theorem d_We_weave_105 : decode b_We_weave 105 = .ok (.aload_n 0, 1) := by decide +kernel
theorem d_We_weave_106 : decode b_We_weave 106 = .ok (.getfield 29, 3) := by decide +kernel
theorem d_We_weave_109 : decode b_We_weave 109 = .ok (.getfield 73, 3) := by decide +kernel
theorem d_We_weave_112 : decode b_We_weave 112 = .ok (.aload_n 0, 1) := by decide +kernel
theorem d_We_weave_113 : decode b_We_weave 113 = .ok (.getfield 29, 3) := by decide +kernel
theorem d_We_weave_116 : decode b_We_weave 116 = .ok (.getfield 56, 3) := by decide +kernel
theorem d_We_weave_119 : decode b_We_weave 119 = .ok (.iaload, 1) := by decide +kernel
theorem d_We_weave_120 : decode b_We_weave 120 = .ok (.aload_n 0, 1) := by decide +kernel
theorem d_We_weave_121 : decode b_We_weave 121 = .ok (.getfield 29, 3) := by decide +kernel
theorem d_We_weave_124 : decode b_We_weave 124 = .ok (.getfield 76, 3) := by decide +kernel
theorem d_We_weave_127 : decode b_We_weave 127 = .ok (.aload_n 0, 1) := by decide +kernel
theorem d_We_weave_128 : decode b_We_weave 128 = .ok (.getfield 29, 3) := by decide +kernel
theorem d_We_weave_131 : decode b_We_weave 131 = .ok (.getfield 56, 3) := by decide +kernel
theorem d_We_weave_134 : decode b_We_weave 134 = .ok (.laload, 1) := by decide +kernel
theorem d_We_weave_135 : decode b_We_weave 135 = .ok (.invokevirtual 80, 3) := by decide +kernel
theorem d_We_weave_138 : decode b_We_weave 138 = .ok (.ifCond .ne 6, 3) := by decide +kernel
theorem d_We_weave_141 : decode b_We_weave 141 = .ok (.bipush (-2), 2) := by decide +kernel
theorem d_We_weave_143 : decode b_We_weave 143 = .ok (.ireturn, 1) := by decide +kernel
theorem d_We_weave_144 : decode b_We_weave 144 = .ok (.iinc 5 1, 3) := by decide +kernel
theorem d_We_weave_147 : decode b_We_weave 147 = .ok (.goto (-113), 3) := by decide +kernel
theorem d_We_weave_150 : decode b_We_weave 150 = .ok (.aload_n 0, 1) := by decide +kernel
theorem d_We_weave_151 : decode b_We_weave 151 = .ok (.getfield 12, 3) := by decide +kernel
theorem d_We_weave_154 : decode b_We_weave 154 = .ok (.astore 5, 2) := by decide +kernel
theorem d_We_weave_156 : decode b_We_weave 156 = .ok (.aload_n 0, 1) := by decide +kernel
theorem d_We_weave_157 : decode b_We_weave 157 = .ok (.aload_n 0, 1) := by decide +kernel
theorem d_We_weave_158 : decode b_We_weave 158 = .ok (.getfield 18, 3) := by decide +kernel
theorem d_We_weave_161 : decode b_We_weave 161 = .ok (.putfield 12, 3) := by decide +kernel
theorem d_We_weave_164 : decode b_We_weave 164 = .ok (.aload_n 0, 1) := by decide +kernel
theorem d_We_weave_165 : decode b_We_weave 165 = .ok (.aload 5, 2) := by decide +kernel
theorem d_We_weave_167 : decode b_We_weave 167 = .ok (.putfield 18, 3) := by decide +kernel
theorem d_We_weave_170 : decode b_We_weave 170 = .ok (.aload_n 0, 1) := by decide +kernel
theorem d_We_weave_171 : decode b_We_weave 171 = .ok (.getfield 12, 3) := by decide +kernel
theorem d_We_weave_174 : decode b_We_weave 174 = .ok (.getfield 33, 3) := by decide +kernel
theorem d_We_weave_177 : decode b_We_weave 177 = .ok (.ireturn, 1) := by decide +kernel
theorem d_Gl_init_0 : decode b_Gl_init 0 = .ok (.aload_n 0, 1) := by decide +kernel
theorem d_Gl_init_1 : decode b_Gl_init 1 = .ok (.invokespecial 1, 3) := by decide +kernel
theorem d_Gl_init_4 : decode b_Gl_init 4 = .ok (.aload_n 0, 1) := by decide +kernel
theorem d_Gl_init_5 : decode b_Gl_init 5 = .ok (.bipush 6, 2) := by decide +kernel
theorem d_Gl_init_7 : decode b_Gl_init 7 = .ok (.newarray .int, 2) := by decide +kernel
theorem d_Gl_init_9 : decode b_Gl_init 9 = .ok (.putfield 9, 3) := by decide +kernel
theorem d_Gl_init_12 : decode b_Gl_init 12 = .ok (.aload_n 0, 1) := by decide +kernel
theorem d_Gl_init_13 : decode b_Gl_init 13 = .ok (.new 13, 3) := by decide +kernel
theorem d_Gl_init_16 : decode b_Gl_init 16 = .ok (.dup, 1) := by decide +kernel
theorem d_Gl_init_17 : decode b_Gl_init 17 = .ok (.invokespecial 15, 3) := by decide +kernel
theorem d_Gl_init_20 : decode b_Gl_init 20 = .ok (.putfield 16, 3) := by decide +kernel
theorem d_Gl_init_23 : decode b_Gl_init 23 = .ok (.aload_n 0, 1) := by decide +kernel
theorem d_Gl_init_24 : decode b_Gl_init 24 = .ok (.new 20, 3) := by decide +kernel
theorem d_Gl_init_27 : decode b_Gl_init 27 = .ok (.dup, 1) := by decide +kernel
theorem d_Gl_init_28 : decode b_Gl_init 28 = .ok (.aload_n 0, 1) := by decide +kernel
theorem d_Gl_init_29 : decode b_Gl_init 29 = .ok (.getfield 16, 3) := by decide +kernel
theorem d_Gl_init_32 : decode b_Gl_init 32 = .ok (.invokespecial 22, 3) := by decide +kernel
theorem d_Gl_init_35 : decode b_Gl_init 35 = .ok (.putfield 25, 3) := by decide +kernel
theorem d_Gl_init_38 : decode b_Gl_init 38 = .ok (.aload_n 0, 1) := by decide +kernel
theorem d_Gl_init_39 : decode b_Gl_init 39 = .ok (.new 29, 3) := by decide +kernel
theorem d_Gl_init_42 : decode b_Gl_init 42 = .ok (.dup, 1) := by decide +kernel
theorem d_Gl_init_43 : decode b_Gl_init 43 = .ok (.aload_n 0, 1) := by decide +kernel
theorem d_Gl_init_44 : decode b_Gl_init 44 = .ok (.getfield 16, 3) := by decide +kernel
theorem d_Gl_init_47 : decode b_Gl_init 47 = .ok (.aload_n 0, 1) := by decide +kernel
theorem d_Gl_init_48 : decode b_Gl_init 48 = .ok (.getfield 25, 3) := by decide +kernel
theorem d_Gl_init_51 : decode b_Gl_init 51 = .ok (.invokespecial 31, 3) := by decide +kernel
theorem d_Gl_init_54 : decode b_Gl_init 54 = .ok (.putfield 34, 3) := by decide +kernel
theorem d_Gl_init_57 : decode b_Gl_init 57 = .ok (.aload_n 0, 1) := by decide +kernel
theorem d_Gl_init_58 : decode b_Gl_init 58 = .ok (.new 38, 3) := by decide +kernel
theorem d_Gl_init_61 : decode b_Gl_init 61 = .ok (.dup, 1) := by decide +kernel
theorem d_Gl_init_62 : decode b_Gl_init 62 = .ok (.aload_n 0, 1) := by decide +kernel
theorem d_Gl_init_63 : decode b_Gl_init 63 = .ok (.getfield 16, 3) := by decide +kernel
theorem d_Gl_init_66 : decode b_Gl_init 66 = .ok (.aload_n 0, 1) := by decide +kernel
theorem d_Gl_init_67 : decode b_Gl_init 67 = .ok (.getfield 34, 3) := by decide +kernel
theorem d_Gl_init_70 : decode b_Gl_init 70 = .ok (.invokespecial 40, 3) := by decide +kernel
theorem d_Gl_init_73 : decode b_Gl_init 73 = .ok (.putfield 43, 3) := by decide +kernel
theorem d_Gl_init_76 : decode b_Gl_init 76 = .ok (.aload_n 0, 1) := by decide +kernel
theorem d_Gl_init_77 : decode b_Gl_init 77 = .ok (.new 38, 3) := by decide +kernel
theorem d_Gl_init_80 : decode b_Gl_init 80 = .ok (.dup, 1) := by decide +kernel
theorem d_Gl_init_81 : decode b_Gl_init 81 = .ok (.aload_n 0, 1) := by decide +kernel
theorem d_Gl_init_82 : decode b_Gl_init 82 = .ok (.getfield 16, 3) := by decide +kernel
theorem d_Gl_init_85 : decode b_Gl_init 85 = .ok (.aload_n 0, 1) := by decide +kernel
theorem d_Gl_init_86 : decode b_Gl_init 86 = .ok (.getfield 34, 3) := by decide +kernel
theorem d_Gl_init_89 : decode b_Gl_init 89 = .ok (.invokespecial 40, 3) := by decide +kernel
theorem d_Gl_init_92 : decode b_Gl_init 92 = .ok (.putfield 47, 3) := by decide +kernel
theorem d_Gl_init_95 : decode b_Gl_init 95 = .ok (.new 50, 3) := by decide +kernel
theorem d_Gl_init_98 : decode b_Gl_init 98 = .ok (.dup, 1) := by decide +kernel
theorem d_Gl_init_99 : decode b_Gl_init 99 = .ok (.invokespecial 52, 3) := by decide +kernel
theorem d_Gl_init_102 : decode b_Gl_init 102 = .ok (.astore_n 1, 1) := by decide +kernel
theorem d_Gl_init_103 : decode b_Gl_init 103 = .ok (.aload_n 0, 1) := by decide +kernel
theorem d_Gl_init_104 : decode b_Gl_init 104 = .ok (.new 53, 3) := by decide +kernel
theorem d_Gl_init_107 : decode b_Gl_init 107 = .ok (.dup, 1) := by decide +kernel
theorem d_Gl_init_108 : decode b_Gl_init 108 = .ok (.aload_n 0, 1) := by decide +kernel
theorem d_Gl_init_109 : decode b_Gl_init 109 = .ok (.getfield 16, 3) := by decide +kernel
theorem d_Gl_init_112 : decode b_Gl_init 112 = .ok (.aload_n 0, 1) := by decide +kernel
theorem d_Gl_init_113 : decode b_Gl_init 113 = .ok (.getfield 43, 3) := by decide +kernel
theorem d_Gl_init_116 : decode b_Gl_init 116 = .ok (.aload_n 1, 1) := by decide +kernel
theorem d_Gl_init_117 : decode b_Gl_init 117 = .ok (.invokespecial 55, 3) := by decide +kernel
theorem d_Gl_init_120 : decode b_Gl_init 120 = .ok (.putfield 58, 3) := by decide +kernel
theorem d_Gl_init_123 : decode b_Gl_init 123 = .ok (.aload_n 0, 1) := by decide +kernel
theorem d_Gl_init_124 : decode b_Gl_init 124 = .ok (.new 62, 3) := by decide +kernel
theorem d_Gl_init_127 : decode b_Gl_init 127 = .ok (.dup, 1) := by decide +kernel
theorem d_Gl_init_128 : decode b_Gl_init 128 = .ok (.aload_n 0, 1) := by decide +kernel
theorem d_Gl_init_129 : decode b_Gl_init 129 = .ok (.getfield 16, 3) := by decide +kernel
theorem d_Gl_init_132 : decode b_Gl_init 132 = .ok (.aload_n 0, 1) := by decide +kernel
theorem d_Gl_init_133 : decode b_Gl_init 133 = .ok (.getfield 43, 3) := by decide +kernel
theorem d_Gl_init_136 : decode b_Gl_init 136 = .ok (.aload_n 1, 1) := by decide +kernel
theorem d_Gl_init_137 : decode b_Gl_init 137 = .ok (.invokespecial 64, 3) := by decide +kernel
theorem d_Gl_init_140 : decode b_Gl_init 140 = .ok (.putfield 65, 3) := by decide +kernel
theorem d_Gl_init_143 : decode b_Gl_init 143 = .ok (.return_, 1) := by decide +kernel
theorem d_Gl_about_0 : decode b_Gl_about 0 = .ok (.aload_n 0, 1) := by decide +kernel
theorem d_Gl_about_1 : decode b_Gl_about 1 = .ok (.getfield 16, 3) := by decide +kernel
theorem d_Gl_about_4 : decode b_Gl_about 4 = .ok (.iload_n 1, 1) := by decide +kernel
theorem d_Gl_about_5 : decode b_Gl_about 5 = .ok (.invokevirtual 88, 3) := by decide +kernel
theorem d_Gl_about_8 : decode b_Gl_about 8 = .ok (.ifCond .eq 20, 3) := by decide +kernel
theorem d_Gl_about_11 : decode b_Gl_about 11 = .ok (.iload_n 2, 1) := by decide +kernel
theorem d_Gl_about_12 : decode b_Gl_about 12 = .ok (.iconst (-1), 1) := by decide +kernel
theorem d_Gl_about_13 : decode b_Gl_about 13 = .ok (.if_icmp .lt 15, 3) := by decide +kernel
theorem d_Gl_about_16 : decode b_Gl_about 16 = .ok (.iload_n 2, 1) := by decide +kernel
theorem d_Gl_about_17 : decode b_Gl_about 17 = .ok (.aload_n 0, 1) := by decide +kernel
theorem d_Gl_about_18 : decode b_Gl_about 18 = .ok (.getfield 16, 3) := by decide +kernel
theorem d_Gl_about_21 : decode b_Gl_about 21 = .ok (.iload_n 1, 1) := by decide +kernel
theorem d_Gl_about_22 : decode b_Gl_about 22 = .ok (.invokevirtual 98, 3) := by decide +kernel
theorem d_Gl_about_25 : decode b_Gl_about 25 = .ok (.if_icmp .lt 5, 3) := by decide +kernel
theorem d_Gl_about_28 : decode b_Gl_about 28 = .ok (.iconst (-1), 1) := by decide +kernel
theorem d_Gl_about_29 : decode b_Gl_about 29 = .ok (.ireturn, 1) := by decide +kernel
theorem d_Gl_about_30 : decode b_Gl_about 30 = .ok (.iload_n 2, 1) := by decide +kernel
theorem d_Gl_about_31 : decode b_Gl_about 31 = .ok (.iconst (-1), 1) := by decide +kernel
theorem d_Gl_about_32 : decode b_Gl_about 32 = .ok (.if_icmp .ne 14, 3) := by decide +kernel
theorem d_Gl_about_35 : decode b_Gl_about 35 = .ok (.aload_n 0, 1) := by decide +kernel
theorem d_Gl_about_36 : decode b_Gl_about 36 = .ok (.getfield 16, 3) := by decide +kernel
theorem d_Gl_about_39 : decode b_Gl_about 39 = .ok (.iload_n 1, 1) := by decide +kernel
theorem d_Gl_about_40 : decode b_Gl_about 40 = .ok (.invokevirtual 102, 3) := by decide +kernel
theorem d_Gl_about_43 : decode b_Gl_about 43 = .ok (.goto 12, 3) := by decide +kernel
theorem d_Gl_about_46 : decode b_Gl_about 46 = .ok (.aload_n 0, 1) := by decide +kernel
theorem d_Gl_about_47 : decode b_Gl_about 47 = .ok (.getfield 16, 3) := by decide +kernel
theorem d_Gl_about_50 : decode b_Gl_about 50 = .ok (.iload_n 1, 1) := by decide +kernel
theorem d_Gl_about_51 : decode b_Gl_about 51 = .ok (.iload_n 2, 1) := by decide +kernel
theorem d_Gl_about_52 : decode b_Gl_about 52 = .ok (.invokevirtual 105, 3) := by decide +kernel
theorem d_Gl_about_55 : decode b_Gl_about 55 = .ok (.ireturn, 1) := by decide +kernel
theorem d_Gl_circle_0 : decode b_Gl_circle 0 = .ok (.aload_n 0, 1) := by decide +kernel
theorem d_Gl_circle_1 : decode b_Gl_circle 1 = .ok (.invokevirtual 109, 3) := by decide +kernel
theorem d_Gl_circle_4 : decode b_Gl_circle 4 = .ok (.aload_n 0, 1) := by decide +kernel
theorem d_Gl_circle_5 : decode b_Gl_circle 5 = .ok (.getfield 34, 3) := by decide +kernel
theorem d_Gl_circle_8 : decode b_Gl_circle 8 = .ok (.invokevirtual 118, 3) := by decide +kernel
theorem d_Gl_circle_11 : decode b_Gl_circle 11 = .ok (.ireturn, 1) := by decide +kernel
theorem d_Gl_count_0 : decode b_Gl_count 0 = .ok (.iload_n 1, 1) := by decide +kernel
theorem d_Gl_count_1 : decode b_Gl_count 1 = .ok (.tableswitch 48 0 2 #[27, 35, 40], 27) := by decide +kernel
theorem d_Gl_count_28 : decode b_Gl_count 28 = .ok (.aload_n 0, 1) := by decide +kernel
theorem d_Gl_count_29 : decode b_Gl_count 29 = .ok (.getfield 16, 3) := by decide +kernel
theorem d_Gl_count_32 : decode b_Gl_count 32 = .ok (.getfield 77, 3) := by decide +kernel
theorem d_Gl_count_35 : decode b_Gl_count 35 = .ok (.ireturn, 1) := by decide +kernel
theorem d_Gl_count_36 : decode b_Gl_count 36 = .ok (.aload_n 0, 1) := by decide +kernel
theorem d_Gl_count_37 : decode b_Gl_count 37 = .ok (.getfield 69, 3) := by decide +kernel
theorem d_Gl_count_40 : decode b_Gl_count 40 = .ok (.ireturn, 1) := by decide +kernel
theorem d_Gl_count_41 : decode b_Gl_count 41 = .ok (.aload_n 0, 1) := by decide +kernel
theorem d_Gl_count_42 : decode b_Gl_count 42 = .ok (.getfield 65, 3) := by decide +kernel
theorem d_Gl_count_45 : decode b_Gl_count 45 = .ok (.getfield 95, 3) := by decide +kernel
theorem d_Gl_count_48 : decode b_Gl_count 48 = .ok (.ireturn, 1) := by decide +kernel
theorem d_Gl_count_49 : decode b_Gl_count 49 = .ok (.iconst (-1), 1) := by decide +kernel
theorem d_Gl_count_50 : decode b_Gl_count 50 = .ok (.ireturn, 1) := by decide +kernel
theorem d_Gl_draw_0 : decode b_Gl_draw 0 = .ok (.lload_n 3, 1) := by decide +kernel
theorem d_Gl_draw_1 : decode b_Gl_draw 1 = .ok (.lconst 0, 1) := by decide +kernel
theorem d_Gl_draw_2 : decode b_Gl_draw 2 = .ok (.lcmp, 1) := by decide +kernel
theorem d_Gl_draw_3 : decode b_Gl_draw 3 = .ok (.ifCond .lt 14, 3) := by decide +kernel
theorem d_Gl_draw_6 : decode b_Gl_draw 6 = .ok (.lload_n 3, 1) := by decide +kernel
theorem d_Gl_draw_7 : decode b_Gl_draw 7 = .ok (.aload_n 0, 1) := by decide +kernel
theorem d_Gl_draw_8 : decode b_Gl_draw 8 = .ok (.iload_n 1, 1) := by decide +kernel
theorem d_Gl_draw_9 : decode b_Gl_draw 9 = .ok (.iload_n 2, 1) := by decide +kernel
theorem d_Gl_draw_10 : decode b_Gl_draw 10 = .ok (.invokevirtual 138, 3) := by decide +kernel
theorem d_Gl_draw_13 : decode b_Gl_draw 13 = .ok (.lcmp, 1) := by decide +kernel
theorem d_Gl_draw_14 : decode b_Gl_draw 14 = .ok (.ifCond .lt 5, 3) := by decide +kernel
theorem d_Gl_draw_17 : decode b_Gl_draw 17 = .ok (.iconst (-1), 1) := by decide +kernel
theorem d_Gl_draw_18 : decode b_Gl_draw 18 = .ok (.ireturn, 1) := by decide +kernel
theorem d_Gl_draw_19 : decode b_Gl_draw 19 = .ok (.aload_n 0, 1) := by decide +kernel
theorem d_Gl_draw_20 : decode b_Gl_draw 20 = .ok (.getfield 58, 3) := by decide +kernel
theorem d_Gl_draw_23 : decode b_Gl_draw 23 = .ok (.iload_n 1, 1) := by decide +kernel
theorem d_Gl_draw_24 : decode b_Gl_draw 24 = .ok (.iload_n 2, 1) := by decide +kernel
theorem d_Gl_draw_25 : decode b_Gl_draw 25 = .ok (.lload_n 3, 1) := by decide +kernel
theorem d_Gl_draw_26 : decode b_Gl_draw 26 = .ok (.invokevirtual 141, 3) := by decide +kernel
theorem d_Gl_draw_29 : decode b_Gl_draw 29 = .ok (.ireturn, 1) := by decide +kernel
theorem d_Gl_drop_0 : decode b_Gl_drop 0 = .ok (.aload_n 0, 1) := by decide +kernel
theorem d_Gl_drop_1 : decode b_Gl_drop 1 = .ok (.getfield 16, 3) := by decide +kernel
theorem d_Gl_drop_4 : decode b_Gl_drop 4 = .ok (.iload_n 1, 1) := by decide +kernel
theorem d_Gl_drop_5 : decode b_Gl_drop 5 = .ok (.invokevirtual 88, 3) := by decide +kernel
theorem d_Gl_drop_8 : decode b_Gl_drop 8 = .ok (.ifCond .ne 5, 3) := by decide +kernel
theorem d_Gl_drop_11 : decode b_Gl_drop 11 = .ok (.iconst 0, 1) := by decide +kernel
theorem d_Gl_drop_12 : decode b_Gl_drop 12 = .ok (.ireturn, 1) := by decide +kernel
theorem d_Gl_drop_13 : decode b_Gl_drop 13 = .ok (.aload_n 0, 1) := by decide +kernel
theorem d_Gl_drop_14 : decode b_Gl_drop 14 = .ok (.iconst 0, 1) := by decide +kernel
theorem d_Gl_drop_15 : decode b_Gl_drop 15 = .ok (.putfield 80, 3) := by decide +kernel
theorem d_Gl_drop_18 : decode b_Gl_drop 18 = .ok (.aload_n 0, 1) := by decide +kernel
theorem d_Gl_drop_19 : decode b_Gl_drop 19 = .ok (.getfield 16, 3) := by decide +kernel
theorem d_Gl_drop_22 : decode b_Gl_drop 22 = .ok (.iload_n 1, 1) := by decide +kernel
theorem d_Gl_drop_23 : decode b_Gl_drop 23 = .ok (.invokevirtual 91, 3) := by decide +kernel
theorem d_Gl_drop_26 : decode b_Gl_drop 26 = .ok (.iconst 1, 1) := by decide +kernel
theorem d_Gl_drop_27 : decode b_Gl_drop 27 = .ok (.ireturn, 1) := by decide +kernel
theorem d_Gl_isCounted_0 : decode b_Gl_isCounted 0 = .ok (.aload_n 0, 1) := by decide +kernel
theorem d_Gl_isCounted_1 : decode b_Gl_isCounted 1 = .ok (.invokevirtual 109, 3) := by decide +kernel
theorem d_Gl_isCounted_4 : decode b_Gl_isCounted 4 = .ok (.iload_n 1, 1) := by decide +kernel
theorem d_Gl_isCounted_5 : decode b_Gl_isCounted 5 = .ok (.ifCond .lt 23, 3) := by decide +kernel
theorem d_Gl_isCounted_8 : decode b_Gl_isCounted 8 = .ok (.iload_n 1, 1) := by decide +kernel
theorem d_Gl_isCounted_9 : decode b_Gl_isCounted 9 = .ok (.bipush 16, 2) := by decide +kernel
theorem d_Gl_isCounted_11 : decode b_Gl_isCounted 11 = .ok (.if_icmp .gt 17, 3) := by decide +kernel
theorem d_Gl_isCounted_14 : decode b_Gl_isCounted 14 = .ok (.aload_n 0, 1) := by decide +kernel

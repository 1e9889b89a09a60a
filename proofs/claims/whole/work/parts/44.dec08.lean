theorem d_Mo_init_88 : decode b_Mo_init 88 = .ok (.bipush 64, 2) := by decide +kernel
theorem d_Mo_init_90 : decode b_Mo_init 90 = .ok (.newarray .boolean, 2) := by decide +kernel
theorem d_Mo_init_92 : decode b_Mo_init 92 = .ok (.putfield 42, 3) := by decide +kernel
theorem d_Mo_init_95 : decode b_Mo_init 95 = .ok (.aload_n 0, 1) := by decide +kernel
theorem d_Mo_init_96 : decode b_Mo_init 96 = .ok (.sipush 136, 3) := by decide +kernel
theorem d_Mo_init_99 : decode b_Mo_init 99 = .ok (.newarray .long, 2) := by decide +kernel
theorem d_Mo_init_101 : decode b_Mo_init 101 = .ok (.putfield 45, 3) := by decide +kernel
theorem d_Mo_init_104 : decode b_Mo_init 104 = .ok (.aload_n 0, 1) := by decide +kernel
theorem d_Mo_init_105 : decode b_Mo_init 105 = .ok (.iconst (-1), 1) := by decide +kernel
theorem d_Mo_init_106 : decode b_Mo_init 106 = .ok (.putfield 48, 3) := by decide +kernel
theorem d_Mo_init_109 : decode b_Mo_init 109 = .ok (.aload_n 0, 1) := by decide +kernel
theorem d_Mo_init_110 : decode b_Mo_init 110 = .ok (.bipush 119, 2) := by decide +kernel
theorem d_Mo_init_112 : decode b_Mo_init 112 = .ok (.newarray .long, 2) := by decide +kernel
theorem d_Mo_init_114 : decode b_Mo_init 114 = .ok (.putfield 52, 3) := by decide +kernel
theorem d_Mo_init_117 : decode b_Mo_init 117 = .ok (.aload_n 0, 1) := by decide +kernel
theorem d_Mo_init_118 : decode b_Mo_init 118 = .ok (.sipush 1300, 3) := by decide +kernel
theorem d_Mo_init_121 : decode b_Mo_init 121 = .ok (.newarray .int, 2) := by decide +kernel
theorem d_Mo_init_123 : decode b_Mo_init 123 = .ok (.putfield 55, 3) := by decide +kernel
theorem d_Mo_init_126 : decode b_Mo_init 126 = .ok (.aload_n 0, 1) := by decide +kernel
theorem d_Mo_init_127 : decode b_Mo_init 127 = .ok (.sipush 1300, 3) := by decide +kernel
theorem d_Mo_init_130 : decode b_Mo_init 130 = .ok (.newarray .int, 2) := by decide +kernel
theorem d_Mo_init_132 : decode b_Mo_init 132 = .ok (.putfield 58, 3) := by decide +kernel
theorem d_Mo_init_135 : decode b_Mo_init 135 = .ok (.aload_n 0, 1) := by decide +kernel
theorem d_Mo_init_136 : decode b_Mo_init 136 = .ok (.sipush 1300, 3) := by decide +kernel
theorem d_Mo_init_139 : decode b_Mo_init 139 = .ok (.newarray .long, 2) := by decide +kernel
theorem d_Mo_init_141 : decode b_Mo_init 141 = .ok (.putfield 61, 3) := by decide +kernel
theorem d_Mo_init_144 : decode b_Mo_init 144 = .ok (.aload_n 0, 1) := by decide +kernel
theorem d_Mo_init_145 : decode b_Mo_init 145 = .ok (.sipush 200, 3) := by decide +kernel
theorem d_Mo_init_148 : decode b_Mo_init 148 = .ok (.newarray .int, 2) := by decide +kernel
theorem d_Mo_init_150 : decode b_Mo_init 150 = .ok (.putfield 64, 3) := by decide +kernel
theorem d_Mo_init_153 : decode b_Mo_init 153 = .ok (.aload_n 0, 1) := by decide +kernel
theorem d_Mo_init_154 : decode b_Mo_init 154 = .ok (.bipush 16, 2) := by decide +kernel
theorem d_Mo_init_156 : decode b_Mo_init 156 = .ok (.newarray .int, 2) := by decide +kernel
theorem d_Mo_init_158 : decode b_Mo_init 158 = .ok (.putfield 67, 3) := by decide +kernel
theorem d_Mo_init_161 : decode b_Mo_init 161 = .ok (.aload_n 0, 1) := by decide +kernel
theorem d_Mo_init_162 : decode b_Mo_init 162 = .ok (.bipush 6, 2) := by decide +kernel
theorem d_Mo_init_164 : decode b_Mo_init 164 = .ok (.newarray .int, 2) := by decide +kernel
theorem d_Mo_init_166 : decode b_Mo_init 166 = .ok (.putfield 70, 3) := by decide +kernel
theorem d_Mo_init_169 : decode b_Mo_init 169 = .ok (.aload_n 0, 1) := by decide +kernel
theorem d_Mo_init_170 : decode b_Mo_init 170 = .ok (.bipush 6, 2) := by decide +kernel
theorem d_Mo_init_172 : decode b_Mo_init 172 = .ok (.newarray .long, 2) := by decide +kernel
theorem d_Mo_init_174 : decode b_Mo_init 174 = .ok (.putfield 73, 3) := by decide +kernel
theorem d_Mo_init_177 : decode b_Mo_init 177 = .ok (.return_, 1) := by decide +kernel
theorem d_Mo_about_0 : decode b_Mo_about 0 = .ok (.aload_n 0, 1) := by decide +kernel
theorem d_Mo_about_1 : decode b_Mo_about 1 = .ok (.iload_n 1, 1) := by decide +kernel
theorem d_Mo_about_2 : decode b_Mo_about 2 = .ok (.invokevirtual 90, 3) := by decide +kernel
theorem d_Mo_about_5 : decode b_Mo_about 5 = .ok (.ifCond .eq 18, 3) := by decide +kernel
theorem d_Mo_about_8 : decode b_Mo_about 8 = .ok (.iload_n 2, 1) := by decide +kernel
theorem d_Mo_about_9 : decode b_Mo_about 9 = .ok (.iconst (-1), 1) := by decide +kernel
theorem d_Mo_about_10 : decode b_Mo_about 10 = .ok (.if_icmp .lt 13, 3) := by decide +kernel
theorem d_Mo_about_13 : decode b_Mo_about 13 = .ok (.iload_n 2, 1) := by decide +kernel
theorem d_Mo_about_14 : decode b_Mo_about 14 = .ok (.aload_n 0, 1) := by decide +kernel
theorem d_Mo_about_15 : decode b_Mo_about 15 = .ok (.getfield 13, 3) := by decide +kernel
theorem d_Mo_about_18 : decode b_Mo_about 18 = .ok (.iload_n 1, 1) := by decide +kernel
theorem d_Mo_about_19 : decode b_Mo_about 19 = .ok (.iaload, 1) := by decide +kernel
theorem d_Mo_about_20 : decode b_Mo_about 20 = .ok (.if_icmp .lt 5, 3) := by decide +kernel
theorem d_Mo_about_23 : decode b_Mo_about 23 = .ok (.iconst (-1), 1) := by decide +kernel
theorem d_Mo_about_24 : decode b_Mo_about 24 = .ok (.ireturn, 1) := by decide +kernel
theorem d_Mo_about_25 : decode b_Mo_about 25 = .ok (.iload_n 2, 1) := by decide +kernel
theorem d_Mo_about_26 : decode b_Mo_about 26 = .ok (.iconst (-1), 1) := by decide +kernel
theorem d_Mo_about_27 : decode b_Mo_about 27 = .ok (.if_icmp .ne 12, 3) := by decide +kernel
theorem d_Mo_about_30 : decode b_Mo_about 30 = .ok (.aload_n 0, 1) := by decide +kernel
theorem d_Mo_about_31 : decode b_Mo_about 31 = .ok (.getfield 7, 3) := by decide +kernel
theorem d_Mo_about_34 : decode b_Mo_about 34 = .ok (.iload_n 1, 1) := by decide +kernel
theorem d_Mo_about_35 : decode b_Mo_about 35 = .ok (.iaload, 1) := by decide +kernel
theorem d_Mo_about_36 : decode b_Mo_about 36 = .ok (.goto 9, 3) := by decide +kernel
theorem d_Mo_about_39 : decode b_Mo_about 39 = .ok (.aload_n 0, 1) := by decide +kernel
theorem d_Mo_about_40 : decode b_Mo_about 40 = .ok (.iload_n 1, 1) := by decide +kernel
theorem d_Mo_about_41 : decode b_Mo_about 41 = .ok (.iload_n 2, 1) := by decide +kernel
theorem d_Mo_about_42 : decode b_Mo_about 42 = .ok (.invokevirtual 96, 3) := by decide +kernel
theorem d_Mo_about_45 : decode b_Mo_about 45 = .ok (.ireturn, 1) := by decide +kernel
theorem d_Mo_allEmpty_0 : decode b_Mo_allEmpty 0 = .ok (.iconst 1, 1) := by decide +kernel
theorem d_Mo_allEmpty_1 : decode b_Mo_allEmpty 1 = .ok (.istore_n 3, 1) := by decide +kernel
theorem d_Mo_allEmpty_2 : decode b_Mo_allEmpty 2 = .ok (.iconst 0, 1) := by decide +kernel
theorem d_Mo_allEmpty_3 : decode b_Mo_allEmpty 3 = .ok (.istore 4, 2) := by decide +kernel
theorem d_Mo_allEmpty_5 : decode b_Mo_allEmpty 5 = .ok (.iload 4, 2) := by decide +kernel
theorem d_Mo_allEmpty_7 : decode b_Mo_allEmpty 7 = .ok (.aload_n 0, 1) := by decide +kernel
theorem d_Mo_allEmpty_8 : decode b_Mo_allEmpty 8 = .ok (.getfield 13, 3) := by decide +kernel
theorem d_Mo_allEmpty_11 : decode b_Mo_allEmpty 11 = .ok (.iload_n 1, 1) := by decide +kernel
theorem d_Mo_allEmpty_12 : decode b_Mo_allEmpty 12 = .ok (.iaload, 1) := by decide +kernel
theorem d_Mo_allEmpty_13 : decode b_Mo_allEmpty 13 = .ok (.if_icmp .ge 39, 3) := by decide +kernel
theorem d_Mo_allEmpty_16 : decode b_Mo_allEmpty 16 = .ok (.iload_n 3, 1) := by decide +kernel
theorem d_Mo_allEmpty_17 : decode b_Mo_allEmpty 17 = .ok (.ifCond .eq 27, 3) := by decide +kernel
theorem d_Mo_allEmpty_20 : decode b_Mo_allEmpty 20 = .ok (.iload 4, 2) := by decide +kernel
theorem d_Mo_allEmpty_22 : decode b_Mo_allEmpty 22 = .ok (.iload_n 2, 1) := by decide +kernel
theorem d_Mo_allEmpty_23 : decode b_Mo_allEmpty 23 = .ok (.if_icmp .eq 17, 3) := by decide +kernel
theorem d_Mo_allEmpty_26 : decode b_Mo_allEmpty 26 = .ok (.aload_n 0, 1) := by decide +kernel
theorem d_Mo_allEmpty_27 : decode b_Mo_allEmpty 27 = .ok (.aload_n 0, 1) := by decide +kernel
theorem d_Mo_allEmpty_28 : decode b_Mo_allEmpty 28 = .ok (.iload_n 1, 1) := by decide +kernel
theorem d_Mo_allEmpty_29 : decode b_Mo_allEmpty 29 = .ok (.iload 4, 2) := by decide +kernel
theorem d_Mo_allEmpty_31 : decode b_Mo_allEmpty 31 = .ok (.invokevirtual 96, 3) := by decide +kernel
theorem d_Mo_allEmpty_34 : decode b_Mo_allEmpty 34 = .ok (.invokevirtual 113, 3) := by decide +kernel
theorem d_Mo_allEmpty_37 : decode b_Mo_allEmpty 37 = .ok (.ifCond .eq 7, 3) := by decide +kernel
theorem d_Mo_allEmpty_40 : decode b_Mo_allEmpty 40 = .ok (.iconst 1, 1) := by decide +kernel
theorem d_Mo_allEmpty_41 : decode b_Mo_allEmpty 41 = .ok (.goto 4, 3) := by decide +kernel
theorem d_Mo_allEmpty_44 : decode b_Mo_allEmpty 44 = .ok (.iconst 0, 1) := by decide +kernel
theorem d_Mo_allEmpty_45 : decode b_Mo_allEmpty 45 = .ok (.istore_n 3, 1) := by decide +kernel
theorem d_Mo_allEmpty_46 : decode b_Mo_allEmpty 46 = .ok (.iinc 4 1, 3) := by decide +kernel
theorem d_Mo_allEmpty_49 : decode b_Mo_allEmpty 49 = .ok (.goto (-44), 3) := by decide +kernel
theorem d_Mo_allEmpty_52 : decode b_Mo_allEmpty 52 = .ok (.iload_n 3, 1) := by decide +kernel
theorem d_Mo_allEmpty_53 : decode b_Mo_allEmpty 53 = .ok (.ireturn, 1) := by decide +kernel
theorem d_Mo_at_0 : decode b_Mo_at 0 = .ok (.aload_n 0, 1) := by decide +kernel
theorem d_Mo_at_1 : decode b_Mo_at 1 = .ok (.getfield 16, 3) := by decide +kernel
theorem d_Mo_at_4 : decode b_Mo_at 4 = .ok (.bipush 6, 2) := by decide +kernel
theorem d_Mo_at_6 : decode b_Mo_at 6 = .ok (.iload_n 1, 1) := by decide +kernel
theorem d_Mo_at_7 : decode b_Mo_at 7 = .ok (.imul, 1) := by decide +kernel
theorem d_Mo_at_8 : decode b_Mo_at 8 = .ok (.iload_n 2, 1) := by decide +kernel
theorem d_Mo_at_9 : decode b_Mo_at 9 = .ok (.iadd, 1) := by decide +kernel
theorem d_Mo_at_10 : decode b_Mo_at 10 = .ok (.iaload, 1) := by decide +kernel
theorem d_Mo_at_11 : decode b_Mo_at 11 = .ok (.ireturn, 1) := by decide +kernel
theorem d_Mo_circle_0 : decode b_Mo_circle 0 = .ok (.iconst 0, 1) := by decide +kernel
theorem d_Mo_circle_1 : decode b_Mo_circle 1 = .ok (.istore_n 1, 1) := by decide +kernel
theorem d_Mo_circle_2 : decode b_Mo_circle 2 = .ok (.iload_n 1, 1) := by decide +kernel
theorem d_Mo_circle_3 : decode b_Mo_circle 3 = .ok (.bipush 8, 2) := by decide +kernel
theorem d_Mo_circle_5 : decode b_Mo_circle 5 = .ok (.if_icmp .ge 16, 3) := by decide +kernel
theorem d_Mo_circle_8 : decode b_Mo_circle 8 = .ok (.aload_n 0, 1) := by decide +kernel
theorem d_Mo_circle_9 : decode b_Mo_circle 9 = .ok (.getfield 38, 3) := by decide +kernel
theorem d_Mo_circle_12 : decode b_Mo_circle 12 = .ok (.iload_n 1, 1) := by decide +kernel
theorem d_Mo_circle_13 : decode b_Mo_circle 13 = .ok (.iconst 0, 1) := by decide +kernel
theorem d_Mo_circle_14 : decode b_Mo_circle 14 = .ok (.bastore, 1) := by decide +kernel
theorem d_Mo_circle_15 : decode b_Mo_circle 15 = .ok (.iinc 1 1, 3) := by decide +kernel
theorem d_Mo_circle_18 : decode b_Mo_circle 18 = .ok (.goto (-16), 3) := by decide +kernel
theorem d_Mo_circle_21 : decode b_Mo_circle 21 = .ok (.iconst 0, 1) := by decide +kernel
theorem d_Mo_circle_22 : decode b_Mo_circle 22 = .ok (.istore_n 1, 1) := by decide +kernel
theorem d_Mo_circle_23 : decode b_Mo_circle 23 = .ok (.iload_n 1, 1) := by decide +kernel
theorem d_Mo_circle_24 : decode b_Mo_circle 24 = .ok (.bipush 8, 2) := by decide +kernel
theorem d_Mo_circle_26 : decode b_Mo_circle 26 = .ok (.if_icmp .ge 64, 3) := by decide +kernel
theorem d_Mo_circle_29 : decode b_Mo_circle 29 = .ok (.iconst 0, 1) := by decide +kernel
theorem d_Mo_circle_30 : decode b_Mo_circle 30 = .ok (.istore_n 2, 1) := by decide +kernel
theorem d_Mo_circle_31 : decode b_Mo_circle 31 = .ok (.iload_n 2, 1) := by decide +kernel
theorem d_Mo_circle_32 : decode b_Mo_circle 32 = .ok (.aload_n 0, 1) := by decide +kernel
theorem d_Mo_circle_33 : decode b_Mo_circle 33 = .ok (.getfield 76, 3) := by decide +kernel
theorem d_Mo_circle_36 : decode b_Mo_circle 36 = .ok (.if_icmp .ge 48, 3) := by decide +kernel
theorem d_Mo_circle_39 : decode b_Mo_circle 39 = .ok (.aload_n 0, 1) := by decide +kernel
theorem d_Mo_circle_40 : decode b_Mo_circle 40 = .ok (.getfield 38, 3) := by decide +kernel
theorem d_Mo_circle_43 : decode b_Mo_circle 43 = .ok (.aload_n 0, 1) := by decide +kernel
theorem d_Mo_circle_44 : decode b_Mo_circle 44 = .ok (.getfield 7, 3) := by decide +kernel
theorem d_Mo_circle_47 : decode b_Mo_circle 47 = .ok (.iload_n 2, 1) := by decide +kernel
theorem d_Mo_circle_48 : decode b_Mo_circle 48 = .ok (.iaload, 1) := by decide +kernel
theorem d_Mo_circle_49 : decode b_Mo_circle 49 = .ok (.aload_n 0, 1) := by decide +kernel
theorem d_Mo_circle_50 : decode b_Mo_circle 50 = .ok (.getfield 38, 3) := by decide +kernel
theorem d_Mo_circle_53 : decode b_Mo_circle 53 = .ok (.aload_n 0, 1) := by decide +kernel
theorem d_Mo_circle_54 : decode b_Mo_circle 54 = .ok (.getfield 7, 3) := by decide +kernel
theorem d_Mo_circle_57 : decode b_Mo_circle 57 = .ok (.iload_n 2, 1) := by decide +kernel
theorem d_Mo_circle_58 : decode b_Mo_circle 58 = .ok (.iaload, 1) := by decide +kernel
theorem d_Mo_circle_59 : decode b_Mo_circle 59 = .ok (.baload, 1) := by decide +kernel
theorem d_Mo_circle_60 : decode b_Mo_circle 60 = .ok (.ifCond .ne 12, 3) := by decide +kernel
theorem d_Mo_circle_63 : decode b_Mo_circle 63 = .ok (.aload_n 0, 1) := by decide +kernel
theorem d_Mo_circle_64 : decode b_Mo_circle 64 = .ok (.iload_n 2, 1) := by decide +kernel
theorem d_Mo_circle_65 : decode b_Mo_circle 65 = .ok (.iconst (-1), 1) := by decide +kernel
theorem d_Mo_circle_66 : decode b_Mo_circle 66 = .ok (.invokevirtual 116, 3) := by decide +kernel
theorem d_Mo_circle_69 : decode b_Mo_circle 69 = .ok (.ifCond .eq 7, 3) := by decide +kernel
theorem d_Mo_circle_72 : decode b_Mo_circle 72 = .ok (.iconst 1, 1) := by decide +kernel
theorem d_Mo_circle_73 : decode b_Mo_circle 73 = .ok (.goto 4, 3) := by decide +kernel
theorem d_Mo_circle_76 : decode b_Mo_circle 76 = .ok (.iconst 0, 1) := by decide +kernel
theorem d_Mo_circle_77 : decode b_Mo_circle 77 = .ok (.bastore, 1) := by decide +kernel
theorem d_Mo_circle_78 : decode b_Mo_circle 78 = .ok (.iinc 2 1, 3) := by decide +kernel
theorem d_Mo_circle_81 : decode b_Mo_circle 81 = .ok (.goto (-50), 3) := by decide +kernel
theorem d_Mo_circle_84 : decode b_Mo_circle 84 = .ok (.iinc 1 1, 3) := by decide +kernel
theorem d_Mo_circle_87 : decode b_Mo_circle 87 = .ok (.goto (-64), 3) := by decide +kernel
theorem d_Mo_circle_90 : decode b_Mo_circle 90 = .ok (.iconst 0, 1) := by decide +kernel
theorem d_Mo_circle_91 : decode b_Mo_circle 91 = .ok (.istore_n 1, 1) := by decide +kernel
theorem d_Mo_circle_92 : decode b_Mo_circle 92 = .ok (.iload_n 1, 1) := by decide +kernel
theorem d_Mo_circle_93 : decode b_Mo_circle 93 = .ok (.bipush 64, 2) := by decide +kernel
theorem d_Mo_circle_95 : decode b_Mo_circle 95 = .ok (.if_icmp .ge 16, 3) := by decide +kernel
theorem d_Mo_circle_98 : decode b_Mo_circle 98 = .ok (.aload_n 0, 1) := by decide +kernel
theorem d_Mo_circle_99 : decode b_Mo_circle 99 = .ok (.getfield 42, 3) := by decide +kernel
theorem d_Mo_circle_102 : decode b_Mo_circle 102 = .ok (.iload_n 1, 1) := by decide +kernel
theorem d_Mo_circle_103 : decode b_Mo_circle 103 = .ok (.iconst 0, 1) := by decide +kernel
theorem d_Mo_circle_104 : decode b_Mo_circle 104 = .ok (.bastore, 1) := by decide +kernel
theorem d_Mo_circle_105 : decode b_Mo_circle 105 = .ok (.iinc 1 1, 3) := by decide +kernel
theorem d_Mo_circle_108 : decode b_Mo_circle 108 = .ok (.goto (-16), 3) := by decide +kernel
theorem d_Mo_circle_111 : decode b_Mo_circle 111 = .ok (.iconst 0, 1) := by decide +kernel
theorem d_Mo_circle_112 : decode b_Mo_circle 112 = .ok (.istore_n 1, 1) := by decide +kernel
theorem d_Mo_circle_113 : decode b_Mo_circle 113 = .ok (.iload_n 1, 1) := by decide +kernel
theorem d_Mo_circle_114 : decode b_Mo_circle 114 = .ok (.aload_n 0, 1) := by decide +kernel
theorem d_Mo_circle_115 : decode b_Mo_circle 115 = .ok (.getfield 76, 3) := by decide +kernel
theorem d_Mo_circle_118 : decode b_Mo_circle 118 = .ok (.if_icmp .ge 70, 3) := by decide +kernel
theorem d_Mo_circle_121 : decode b_Mo_circle 121 = .ok (.iconst 0, 1) := by decide +kernel
theorem d_Mo_circle_122 : decode b_Mo_circle 122 = .ok (.istore_n 2, 1) := by decide +kernel
theorem d_Mo_circle_123 : decode b_Mo_circle 123 = .ok (.iload_n 2, 1) := by decide +kernel
theorem d_Mo_circle_124 : decode b_Mo_circle 124 = .ok (.aload_n 0, 1) := by decide +kernel
theorem d_Mo_circle_125 : decode b_Mo_circle 125 = .ok (.getfield 13, 3) := by decide +kernel
theorem d_Mo_circle_128 : decode b_Mo_circle 128 = .ok (.iload_n 1, 1) := by decide +kernel
theorem d_Mo_circle_129 : decode b_Mo_circle 129 = .ok (.iaload, 1) := by decide +kernel
theorem d_Mo_circle_130 : decode b_Mo_circle 130 = .ok (.if_icmp .ge 52, 3) := by decide +kernel
theorem d_Mo_circle_133 : decode b_Mo_circle 133 = .ok (.aload_n 0, 1) := by decide +kernel
theorem d_Mo_circle_134 : decode b_Mo_circle 134 = .ok (.iload_n 1, 1) := by decide +kernel
theorem d_Mo_circle_135 : decode b_Mo_circle 135 = .ok (.iload_n 2, 1) := by decide +kernel
theorem d_Mo_circle_136 : decode b_Mo_circle 136 = .ok (.invokevirtual 96, 3) := by decide +kernel
theorem d_Mo_circle_139 : decode b_Mo_circle 139 = .ok (.invokestatic 82, 3) := by decide +kernel
theorem d_Mo_circle_142 : decode b_Mo_circle 142 = .ok (.ifCond .eq 34, 3) := by decide +kernel
theorem d_Mo_circle_145 : decode b_Mo_circle 145 = .ok (.aload_n 0, 1) := by decide +kernel
theorem d_Mo_circle_146 : decode b_Mo_circle 146 = .ok (.iload_n 1, 1) := by decide +kernel
theorem d_Mo_circle_147 : decode b_Mo_circle 147 = .ok (.iload_n 2, 1) := by decide +kernel
theorem d_Mo_circle_148 : decode b_Mo_circle 148 = .ok (.invokevirtual 116, 3) := by decide +kernel
theorem d_Mo_circle_151 : decode b_Mo_circle 151 = .ok (.ifCond .eq 25, 3) := by decide +kernel
theorem d_Mo_circle_154 : decode b_Mo_circle 154 = .ok (.aload_n 0, 1) := by decide +kernel
theorem d_Mo_circle_155 : decode b_Mo_circle 155 = .ok (.getfield 42, 3) := by decide +kernel
theorem d_Mo_circle_158 : decode b_Mo_circle 158 = .ok (.bipush 8, 2) := by decide +kernel
theorem d_Mo_circle_160 : decode b_Mo_circle 160 = .ok (.aload_n 0, 1) := by decide +kernel
theorem d_Mo_circle_161 : decode b_Mo_circle 161 = .ok (.getfield 7, 3) := by decide +kernel
theorem d_Mo_circle_164 : decode b_Mo_circle 164 = .ok (.iload_n 1, 1) := by decide +kernel
theorem d_Mo_circle_165 : decode b_Mo_circle 165 = .ok (.iaload, 1) := by decide +kernel
theorem d_Mo_circle_166 : decode b_Mo_circle 166 = .ok (.imul, 1) := by decide +kernel
theorem d_Mo_circle_167 : decode b_Mo_circle 167 = .ok (.aload_n 0, 1) := by decide +kernel
theorem d_Mo_circle_168 : decode b_Mo_circle 168 = .ok (.iload_n 1, 1) := by decide +kernel
theorem d_Mo_circle_169 : decode b_Mo_circle 169 = .ok (.iload_n 2, 1) := by decide +kernel
theorem d_Mo_circle_170 : decode b_Mo_circle 170 = .ok (.invokevirtual 96, 3) := by decide +kernel
theorem d_Mo_circle_173 : decode b_Mo_circle 173 = .ok (.iadd, 1) := by decide +kernel
theorem d_Mo_circle_174 : decode b_Mo_circle 174 = .ok (.iconst 1, 1) := by decide +kernel
theorem d_Mo_circle_175 : decode b_Mo_circle 175 = .ok (.bastore, 1) := by decide +kernel
theorem d_Mo_circle_176 : decode b_Mo_circle 176 = .ok (.iinc 2 1, 3) := by decide +kernel
theorem d_Mo_circle_179 : decode b_Mo_circle 179 = .ok (.goto (-56), 3) := by decide +kernel
theorem d_Mo_circle_182 : decode b_Mo_circle 182 = .ok (.iinc 1 1, 3) := by decide +kernel
theorem d_Mo_circle_185 : decode b_Mo_circle 185 = .ok (.goto (-72), 3) := by decide +kernel
theorem d_Mo_circle_188 : decode b_Mo_circle 188 = .ok (.iconst 0, 1) := by decide +kernel
theorem d_Mo_circle_189 : decode b_Mo_circle 189 = .ok (.istore_n 1, 1) := by decide +kernel
theorem d_Mo_circle_190 : decode b_Mo_circle 190 = .ok (.iload_n 1, 1) := by decide +kernel
theorem d_Mo_circle_191 : decode b_Mo_circle 191 = .ok (.bipush 8, 2) := by decide +kernel
theorem d_Mo_circle_193 : decode b_Mo_circle 193 = .ok (.if_icmp .ge 77, 3) := by decide +kernel
theorem d_Mo_circle_196 : decode b_Mo_circle 196 = .ok (.iconst 0, 1) := by decide +kernel
theorem d_Mo_circle_197 : decode b_Mo_circle 197 = .ok (.istore_n 2, 1) := by decide +kernel
theorem d_Mo_circle_198 : decode b_Mo_circle 198 = .ok (.iload_n 2, 1) := by decide +kernel
theorem d_Mo_circle_199 : decode b_Mo_circle 199 = .ok (.bipush 64, 2) := by decide +kernel
theorem d_Mo_circle_201 : decode b_Mo_circle 201 = .ok (.if_icmp .ge 63, 3) := by decide +kernel
theorem d_Mo_circle_204 : decode b_Mo_circle 204 = .ok (.aload_n 0, 1) := by decide +kernel
theorem d_Mo_circle_205 : decode b_Mo_circle 205 = .ok (.getfield 42, 3) := by decide +kernel
theorem d_Mo_circle_208 : decode b_Mo_circle 208 = .ok (.iload_n 2, 1) := by decide +kernel
theorem d_Mo_circle_209 : decode b_Mo_circle 209 = .ok (.aload_n 0, 1) := by decide +kernel
theorem d_Mo_circle_210 : decode b_Mo_circle 210 = .ok (.getfield 42, 3) := by decide +kernel
theorem d_Mo_circle_213 : decode b_Mo_circle 213 = .ok (.iload_n 2, 1) := by decide +kernel
theorem d_Mo_circle_214 : decode b_Mo_circle 214 = .ok (.baload, 1) := by decide +kernel
theorem d_Mo_circle_215 : decode b_Mo_circle 215 = .ok (.ifCond .ne 37, 3) := by decide +kernel
theorem d_Mo_circle_218 : decode b_Mo_circle 218 = .ok (.aload_n 0, 1) := by decide +kernel
theorem d_Mo_circle_219 : decode b_Mo_circle 219 = .ok (.getfield 42, 3) := by decide +kernel
theorem d_Mo_circle_222 : decode b_Mo_circle 222 = .ok (.iload_n 2, 1) := by decide +kernel
theorem d_Mo_circle_223 : decode b_Mo_circle 223 = .ok (.bipush 8, 2) := by decide +kernel
theorem d_Mo_circle_225 : decode b_Mo_circle 225 = .ok (.idiv, 1) := by decide +kernel
theorem d_Mo_circle_226 : decode b_Mo_circle 226 = .ok (.bipush 8, 2) := by decide +kernel
theorem d_Mo_circle_228 : decode b_Mo_circle 228 = .ok (.imul, 1) := by decide +kernel
theorem d_Mo_circle_229 : decode b_Mo_circle 229 = .ok (.iload_n 1, 1) := by decide +kernel
theorem d_Mo_circle_230 : decode b_Mo_circle 230 = .ok (.iadd, 1) := by decide +kernel
theorem d_Mo_circle_231 : decode b_Mo_circle 231 = .ok (.baload, 1) := by decide +kernel
theorem d_Mo_circle_232 : decode b_Mo_circle 232 = .ok (.ifCond .eq 24, 3) := by decide +kernel
theorem d_Mo_circle_235 : decode b_Mo_circle 235 = .ok (.aload_n 0, 1) := by decide +kernel
theorem d_Mo_circle_236 : decode b_Mo_circle 236 = .ok (.getfield 42, 3) := by decide +kernel
theorem d_Mo_circle_239 : decode b_Mo_circle 239 = .ok (.bipush 8, 2) := by decide +kernel
theorem d_Mo_circle_241 : decode b_Mo_circle 241 = .ok (.iload_n 1, 1) := by decide +kernel
theorem d_Mo_circle_242 : decode b_Mo_circle 242 = .ok (.imul, 1) := by decide +kernel

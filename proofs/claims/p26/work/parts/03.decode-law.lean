theorem dL_cell_0 : decode cL_cell 0 = .ok (.iload_n 1, 1) := by decide +kernel
theorem dL_cell_1 : decode cL_cell 1 = .ok (.aload_n 0, 1) := by decide +kernel
theorem dL_cell_2 : decode cL_cell 2 = .ok (.arraylength, 1) := by decide +kernel
theorem dL_cell_3 : decode cL_cell 3 = .ok (.if_icmp .ge 9, 3) := by decide +kernel
theorem dL_cell_6 : decode cL_cell 6 = .ok (.aload_n 0, 1) := by decide +kernel
theorem dL_cell_7 : decode cL_cell 7 = .ok (.iload_n 1, 1) := by decide +kernel
theorem dL_cell_8 : decode cL_cell 8 = .ok (.iaload, 1) := by decide +kernel
theorem dL_cell_9 : decode cL_cell 9 = .ok (.goto 12, 3) := by decide +kernel
theorem dL_cell_12 : decode cL_cell 12 = .ok (.ldc 7, 2) := by decide +kernel
theorem dL_cell_14 : decode cL_cell 14 = .ok (.iload_n 1, 1) := by decide +kernel
theorem dL_cell_15 : decode cL_cell 15 = .ok (.iconst 1, 1) := by decide +kernel
theorem dL_cell_16 : decode cL_cell 16 = .ok (.iadd, 1) := by decide +kernel
theorem dL_cell_17 : decode cL_cell 17 = .ok (.imul, 1) := by decide +kernel
theorem dL_cell_18 : decode cL_cell 18 = .ok (.ldc 8, 2) := by decide +kernel
theorem dL_cell_20 : decode cL_cell 20 = .ok (.iadd, 1) := by decide +kernel
theorem dL_cell_21 : decode cL_cell 21 = .ok (.ireturn, 1) := by decide +kernel
theorem dL_low_0 : decode cL_low 0 = .ok (.iload_n 0, 1) := by decide +kernel
theorem dL_low_1 : decode cL_low 1 = .ok (.ldc 9, 2) := by decide +kernel
theorem dL_low_3 : decode cL_low 3 = .ok (.iand, 1) := by decide +kernel
theorem dL_low_4 : decode cL_low 4 = .ok (.iload_n 1, 1) := by decide +kernel
theorem dL_low_5 : decode cL_low 5 = .ok (.irem, 1) := by decide +kernel
theorem dL_low_6 : decode cL_low 6 = .ok (.ireturn, 1) := by decide +kernel
theorem dL_bound_0 : decode cL_bound 0 = .ok (.iload_n 0, 1) := by decide +kernel
theorem dL_bound_1 : decode cL_bound 1 = .ok (.sipush 9999, 3) := by decide +kernel
theorem dL_bound_4 : decode cL_bound 4 = .ok (.if_icmp .le 9, 3) := by decide +kernel
theorem dL_bound_7 : decode cL_bound 7 = .ok (.sipush 9999, 3) := by decide +kernel
theorem dL_bound_10 : decode cL_bound 10 = .ok (.goto 17, 3) := by decide +kernel
theorem dL_bound_13 : decode cL_bound 13 = .ok (.iload_n 0, 1) := by decide +kernel
theorem dL_bound_14 : decode cL_bound 14 = .ok (.sipush (-9999), 3) := by decide +kernel
theorem dL_bound_17 : decode cL_bound 17 = .ok (.if_icmp .ge 9, 3) := by decide +kernel
theorem dL_bound_20 : decode cL_bound 20 = .ok (.sipush (-9999), 3) := by decide +kernel
theorem dL_bound_23 : decode cL_bound 23 = .ok (.goto 4, 3) := by decide +kernel
theorem dL_bound_26 : decode cL_bound 26 = .ok (.iload_n 0, 1) := by decide +kernel
theorem dL_bound_27 : decode cL_bound 27 = .ok (.ireturn, 1) := by decide +kernel
theorem dL_abs_0 : decode cL_abs 0 = .ok (.iload_n 0, 1) := by decide +kernel
theorem dL_abs_1 : decode cL_abs 1 = .ok (.ifCond .ge 8, 3) := by decide +kernel
theorem dL_abs_4 : decode cL_abs 4 = .ok (.iload_n 0, 1) := by decide +kernel
theorem dL_abs_5 : decode cL_abs 5 = .ok (.ineg, 1) := by decide +kernel
theorem dL_abs_6 : decode cL_abs 6 = .ok (.goto 4, 3) := by decide +kernel
theorem dL_abs_9 : decode cL_abs 9 = .ok (.iload_n 0, 1) := by decide +kernel
theorem dL_abs_10 : decode cL_abs 10 = .ok (.ireturn, 1) := by decide +kernel
theorem dL_push_0 : decode cL_push 0 = .ok (.aload_n 2, 1) := by decide +kernel
theorem dL_push_1 : decode cL_push 1 = .ok (.iconst 5, 1) := by decide +kernel
theorem dL_push_2 : decode cL_push 2 = .ok (.iload_n 0, 1) := by decide +kernel
theorem dL_push_3 : decode cL_push 3 = .ok (.imul, 1) := by decide +kernel
theorem dL_push_4 : decode cL_push 4 = .ok (.iconst 1, 1) := by decide +kernel
theorem dL_push_5 : decode cL_push 5 = .ok (.iadd, 1) := by decide +kernel
theorem dL_push_6 : decode cL_push 6 = .ok (.iaload, 1) := by decide +kernel
theorem dL_push_7 : decode cL_push 7 = .ok (.istore_n 3, 1) := by decide +kernel
theorem dL_push_8 : decode cL_push 8 = .ok (.aload_n 2, 1) := by decide +kernel
theorem dL_push_9 : decode cL_push 9 = .ok (.iconst 5, 1) := by decide +kernel
theorem dL_push_10 : decode cL_push 10 = .ok (.iload_n 0, 1) := by decide +kernel
theorem dL_push_11 : decode cL_push 11 = .ok (.imul, 1) := by decide +kernel
theorem dL_push_12 : decode cL_push 12 = .ok (.iconst 2, 1) := by decide +kernel
theorem dL_push_13 : decode cL_push 13 = .ok (.iadd, 1) := by decide +kernel
theorem dL_push_14 : decode cL_push 14 = .ok (.iaload, 1) := by decide +kernel
theorem dL_push_15 : decode cL_push 15 = .ok (.istore 4, 2) := by decide +kernel
theorem dL_push_17 : decode cL_push 17 = .ok (.aload_n 1, 1) := by decide +kernel
theorem dL_push_18 : decode cL_push 18 = .ok (.iconst 3, 1) := by decide +kernel
theorem dL_push_19 : decode cL_push 19 = .ok (.iaload, 1) := by decide +kernel
theorem dL_push_20 : decode cL_push 20 = .ok (.aload_n 2, 1) := by decide +kernel
theorem dL_push_21 : decode cL_push 21 = .ok (.iconst 5, 1) := by decide +kernel
theorem dL_push_22 : decode cL_push 22 = .ok (.iload_n 0, 1) := by decide +kernel
theorem dL_push_23 : decode cL_push 23 = .ok (.imul, 1) := by decide +kernel
theorem dL_push_24 : decode cL_push 24 = .ok (.iconst 3, 1) := by decide +kernel
theorem dL_push_25 : decode cL_push 25 = .ok (.iadd, 1) := by decide +kernel
theorem dL_push_26 : decode cL_push 26 = .ok (.iaload, 1) := by decide +kernel
theorem dL_push_27 : decode cL_push 27 = .ok (.iadd, 1) := by decide +kernel
theorem dL_push_28 : decode cL_push 28 = .ok (.iload 4, 2) := by decide +kernel
theorem dL_push_30 : decode cL_push 30 = .ok (.irem, 1) := by decide +kernel
theorem dL_push_31 : decode cL_push 31 = .ok (.istore 5, 2) := by decide +kernel
theorem dL_push_33 : decode cL_push 33 = .ok (.aload_n 2, 1) := by decide +kernel
theorem dL_push_34 : decode cL_push 34 = .ok (.iconst 5, 1) := by decide +kernel
theorem dL_push_35 : decode cL_push 35 = .ok (.iload_n 0, 1) := by decide +kernel
theorem dL_push_36 : decode cL_push 36 = .ok (.imul, 1) := by decide +kernel
theorem dL_push_37 : decode cL_push 37 = .ok (.iaload, 1) := by decide +kernel
theorem dL_push_38 : decode cL_push 38 = .ok (.ifCond .ne 5, 3) := by decide +kernel
theorem dL_push_41 : decode cL_push 41 = .ok (.iload_n 3, 1) := by decide +kernel
theorem dL_push_42 : decode cL_push 42 = .ok (.ireturn, 1) := by decide +kernel
theorem dL_push_43 : decode cL_push 43 = .ok (.aload_n 2, 1) := by decide +kernel
theorem dL_push_44 : decode cL_push 44 = .ok (.iconst 5, 1) := by decide +kernel
theorem dL_push_45 : decode cL_push 45 = .ok (.iload_n 0, 1) := by decide +kernel
theorem dL_push_46 : decode cL_push 46 = .ok (.imul, 1) := by decide +kernel
theorem dL_push_47 : decode cL_push 47 = .ok (.iaload, 1) := by decide +kernel
theorem dL_push_48 : decode cL_push 48 = .ok (.iconst 1, 1) := by decide +kernel
theorem dL_push_49 : decode cL_push 49 = .ok (.if_icmp .ne 17, 3) := by decide +kernel
theorem dL_push_52 : decode cL_push 52 = .ok (.iload_n 3, 1) := by decide +kernel
theorem dL_push_53 : decode cL_push 53 = .ok (.iload 5, 2) := by decide +kernel
theorem dL_push_55 : decode cL_push 55 = .ok (.iload 5, 2) := by decide +kernel
theorem dL_push_57 : decode cL_push 57 = .ok (.iadd, 1) := by decide +kernel
theorem dL_push_58 : decode cL_push 58 = .ok (.iload 4, 2) := by decide +kernel
theorem dL_push_60 : decode cL_push 60 = .ok (.isub, 1) := by decide +kernel
theorem dL_push_61 : decode cL_push 61 = .ok (.imul, 1) := by decide +kernel
theorem dL_push_62 : decode cL_push 62 = .ok (.iload 4, 2) := by decide +kernel
theorem dL_push_64 : decode cL_push 64 = .ok (.idiv, 1) := by decide +kernel
theorem dL_push_65 : decode cL_push 65 = .ok (.ireturn, 1) := by decide +kernel
theorem dL_push_66 : decode cL_push 66 = .ok (.aload_n 2, 1) := by decide +kernel
theorem dL_push_67 : decode cL_push 67 = .ok (.iconst 5, 1) := by decide +kernel
theorem dL_push_68 : decode cL_push 68 = .ok (.iload_n 0, 1) := by decide +kernel
theorem dL_push_69 : decode cL_push 69 = .ok (.imul, 1) := by decide +kernel
theorem dL_push_70 : decode cL_push 70 = .ok (.iaload, 1) := by decide +kernel
theorem dL_push_71 : decode cL_push 71 = .ok (.iconst 2, 1) := by decide +kernel
theorem dL_push_72 : decode cL_push 72 = .ok (.if_icmp .ne 20, 3) := by decide +kernel
theorem dL_push_75 : decode cL_push 75 = .ok (.iload 5, 2) := by decide +kernel
theorem dL_push_77 : decode cL_push 77 = .ok (.iload 5, 2) := by decide +kernel
theorem dL_push_79 : decode cL_push 79 = .ok (.iadd, 1) := by decide +kernel
theorem dL_push_80 : decode cL_push 80 = .ok (.iload 4, 2) := by decide +kernel
theorem dL_push_82 : decode cL_push 82 = .ok (.if_icmp .ge 7, 3) := by decide +kernel
theorem dL_push_85 : decode cL_push 85 = .ok (.iload_n 3, 1) := by decide +kernel
theorem dL_push_86 : decode cL_push 86 = .ok (.goto 5, 3) := by decide +kernel
theorem dL_push_89 : decode cL_push 89 = .ok (.iload_n 3, 1) := by decide +kernel
theorem dL_push_90 : decode cL_push 90 = .ok (.ineg, 1) := by decide +kernel
theorem dL_push_91 : decode cL_push 91 = .ok (.ireturn, 1) := by decide +kernel
theorem dL_push_92 : decode cL_push 92 = .ok (.iload_n 3, 1) := by decide +kernel
theorem dL_push_93 : decode cL_push 93 = .ok (.iload 5, 2) := by decide +kernel
theorem dL_push_95 : decode cL_push 95 = .ok (.iload 4, 2) := by decide +kernel
theorem dL_push_97 : decode cL_push 97 = .ok (.iload 5, 2) := by decide +kernel
theorem dL_push_99 : decode cL_push 99 = .ok (.isub, 1) := by decide +kernel
theorem dL_push_100 : decode cL_push 100 = .ok (.if_icmp .ge 10, 3) := by decide +kernel
theorem dL_push_103 : decode cL_push 103 = .ok (.iconst 4, 1) := by decide +kernel
theorem dL_push_104 : decode cL_push 104 = .ok (.iload 5, 2) := by decide +kernel
theorem dL_push_106 : decode cL_push 106 = .ok (.imul, 1) := by decide +kernel
theorem dL_push_107 : decode cL_push 107 = .ok (.goto 10, 3) := by decide +kernel
theorem dL_push_110 : decode cL_push 110 = .ok (.iconst 4, 1) := by decide +kernel
theorem dL_push_111 : decode cL_push 111 = .ok (.iload 4, 2) := by decide +kernel
theorem dL_push_113 : decode cL_push 113 = .ok (.iload 5, 2) := by decide +kernel
theorem dL_push_115 : decode cL_push 115 = .ok (.isub, 1) := by decide +kernel
theorem dL_push_116 : decode cL_push 116 = .ok (.imul, 1) := by decide +kernel
theorem dL_push_117 : decode cL_push 117 = .ok (.iload 4, 2) := by decide +kernel
theorem dL_push_119 : decode cL_push 119 = .ok (.isub, 1) := by decide +kernel
theorem dL_push_120 : decode cL_push 120 = .ok (.imul, 1) := by decide +kernel
theorem dL_push_121 : decode cL_push 121 = .ok (.iload 4, 2) := by decide +kernel
theorem dL_push_123 : decode cL_push 123 = .ok (.idiv, 1) := by decide +kernel
theorem dL_push_124 : decode cL_push 124 = .ok (.ireturn, 1) := by decide +kernel
theorem dL_step_0 : decode cL_step 0 = .ok (.iconst 0, 1) := by decide +kernel
theorem dL_step_1 : decode cL_step 1 = .ok (.istore 5, 2) := by decide +kernel
theorem dL_step_3 : decode cL_step 3 = .ok (.iconst 0, 1) := by decide +kernel
theorem dL_step_4 : decode cL_step 4 = .ok (.istore 6, 2) := by decide +kernel
theorem dL_step_6 : decode cL_step 6 = .ok (.iload 6, 2) := by decide +kernel
theorem dL_step_8 : decode cL_step 8 = .ok (.bipush 36, 2) := by decide +kernel
theorem dL_step_10 : decode cL_step 10 = .ok (.if_icmp .ge 78, 3) := by decide +kernel
theorem dL_step_13 : decode cL_step 13 = .ok (.aload_n 3, 1) := by decide +kernel
theorem dL_step_14 : decode cL_step 14 = .ok (.iload 6, 2) := by decide +kernel
theorem dL_step_16 : decode cL_step 16 = .ok (.iaload, 1) := by decide +kernel
theorem dL_step_17 : decode cL_step 17 = .ok (.iconst 1, 1) := by decide +kernel
theorem dL_step_18 : decode cL_step 18 = .ok (.isub, 1) := by decide +kernel
theorem dL_step_19 : decode cL_step 19 = .ok (.istore 7, 2) := by decide +kernel
theorem dL_step_21 : decode cL_step 21 = .ok (.iload 7, 2) := by decide +kernel
theorem dL_step_23 : decode cL_step 23 = .ok (.ifCond .lt 59, 3) := by decide +kernel
theorem dL_step_26 : decode cL_step 26 = .ok (.aload 4, 2) := by decide +kernel
theorem dL_step_28 : decode cL_step 28 = .ok (.iconst 5, 1) := by decide +kernel
theorem dL_step_29 : decode cL_step 29 = .ok (.iload 7, 2) := by decide +kernel
theorem dL_step_31 : decode cL_step 31 = .ok (.imul, 1) := by decide +kernel
theorem dL_step_32 : decode cL_step 32 = .ok (.iconst 4, 1) := by decide +kernel
theorem dL_step_33 : decode cL_step 33 = .ok (.iadd, 1) := by decide +kernel
theorem dL_step_34 : decode cL_step 34 = .ok (.iaload, 1) := by decide +kernel
theorem dL_step_35 : decode cL_step 35 = .ok (.ifCond .ne 6, 3) := by decide +kernel
theorem dL_step_38 : decode cL_step 38 = .ok (.goto 44, 3) := by decide +kernel
theorem dL_step_41 : decode cL_step 41 = .ok (.aload_n 1, 1) := by decide +kernel
theorem dL_step_42 : decode cL_step 42 = .ok (.iload 6, 2) := by decide +kernel
theorem dL_step_44 : decode cL_step 44 = .ok (.iaload, 1) := by decide +kernel
theorem dL_step_45 : decode cL_step 45 = .ok (.invokestatic 10, 3) := by decide +kernel
theorem dL_step_48 : decode cL_step 48 = .ok (.aload_n 0, 1) := by decide +kernel
theorem dL_step_49 : decode cL_step 49 = .ok (.iconst 2, 1) := by decide +kernel
theorem dL_step_50 : decode cL_step 50 = .ok (.iaload, 1) := by decide +kernel
theorem dL_step_51 : decode cL_step 51 = .ok (.if_icmp .le 19, 3) := by decide +kernel
theorem dL_step_54 : decode cL_step 54 = .ok (.aload 4, 2) := by decide +kernel
theorem dL_step_56 : decode cL_step 56 = .ok (.iconst 5, 1) := by decide +kernel
theorem dL_step_57 : decode cL_step 57 = .ok (.iload 7, 2) := by decide +kernel
theorem dL_step_59 : decode cL_step 59 = .ok (.imul, 1) := by decide +kernel
theorem dL_step_60 : decode cL_step 60 = .ok (.iconst 4, 1) := by decide +kernel
theorem dL_step_61 : decode cL_step 61 = .ok (.iadd, 1) := by decide +kernel
theorem dL_step_62 : decode cL_step 62 = .ok (.iconst 0, 1) := by decide +kernel
theorem dL_step_63 : decode cL_step 63 = .ok (.iastore, 1) := by decide +kernel
theorem dL_step_64 : decode cL_step 64 = .ok (.iinc 5 1, 3) := by decide +kernel
theorem dL_step_67 : decode cL_step 67 = .ok (.goto 15, 3) := by decide +kernel
theorem dL_step_70 : decode cL_step 70 = .ok (.aload_n 1, 1) := by decide +kernel
theorem dL_step_71 : decode cL_step 71 = .ok (.iload 6, 2) := by decide +kernel
theorem dL_step_73 : decode cL_step 73 = .ok (.iload 7, 2) := by decide +kernel
theorem dL_step_75 : decode cL_step 75 = .ok (.aload_n 0, 1) := by decide +kernel
theorem dL_step_76 : decode cL_step 76 = .ok (.aload 4, 2) := by decide +kernel
theorem dL_step_78 : decode cL_step 78 = .ok (.invokestatic 16, 3) := by decide +kernel
theorem dL_step_81 : decode cL_step 81 = .ok (.iastore, 1) := by decide +kernel
theorem dL_step_82 : decode cL_step 82 = .ok (.iinc 6 1, 3) := by decide +kernel
theorem dL_step_85 : decode cL_step 85 = .ok (.goto (-79), 3) := by decide +kernel
theorem dL_step_88 : decode cL_step 88 = .ok (.aload_n 1, 1) := by decide +kernel
theorem dL_step_89 : decode cL_step 89 = .ok (.iconst 0, 1) := by decide +kernel
theorem dL_step_90 : decode cL_step 90 = .ok (.iaload, 1) := by decide +kernel
theorem dL_step_91 : decode cL_step 91 = .ok (.istore 6, 2) := by decide +kernel
theorem dL_step_93 : decode cL_step 93 = .ok (.iconst 0, 1) := by decide +kernel
theorem dL_step_94 : decode cL_step 94 = .ok (.istore 7, 2) := by decide +kernel
theorem dL_step_96 : decode cL_step 96 = .ok (.iload 7, 2) := by decide +kernel
theorem dL_step_98 : decode cL_step 98 = .ok (.bipush 40, 2) := by decide +kernel
theorem dL_step_100 : decode cL_step 100 = .ok (.if_icmp .ge 92, 3) := by decide +kernel
theorem dL_step_103 : decode cL_step 103 = .ok (.aload_n 1, 1) := by decide +kernel
theorem dL_step_104 : decode cL_step 104 = .ok (.iload 7, 2) := by decide +kernel
theorem dL_step_106 : decode cL_step 106 = .ok (.iaload, 1) := by decide +kernel
theorem dL_step_107 : decode cL_step 107 = .ok (.istore 8, 2) := by decide +kernel
theorem dL_step_109 : decode cL_step 109 = .ok (.iload 7, 2) := by decide +kernel
theorem dL_step_111 : decode cL_step 111 = .ok (.bipush 39, 2) := by decide +kernel
theorem dL_step_113 : decode cL_step 113 = .ok (.if_icmp .ne 8, 3) := by decide +kernel
theorem dL_step_116 : decode cL_step 116 = .ok (.iload 8, 2) := by decide +kernel
theorem dL_step_118 : decode cL_step 118 = .ok (.goto 9, 3) := by decide +kernel
theorem dL_step_121 : decode cL_step 121 = .ok (.aload_n 1, 1) := by decide +kernel
theorem dL_step_122 : decode cL_step 122 = .ok (.iload 7, 2) := by decide +kernel
theorem dL_step_124 : decode cL_step 124 = .ok (.iconst 1, 1) := by decide +kernel
theorem dL_step_125 : decode cL_step 125 = .ok (.iadd, 1) := by decide +kernel
theorem dL_step_126 : decode cL_step 126 = .ok (.iaload, 1) := by decide +kernel
theorem dL_step_127 : decode cL_step 127 = .ok (.istore 9, 2) := by decide +kernel
theorem dL_step_129 : decode cL_step 129 = .ok (.aload_n 2, 1) := by decide +kernel
theorem dL_step_130 : decode cL_step 130 = .ok (.iload 7, 2) := by decide +kernel
theorem dL_step_132 : decode cL_step 132 = .ok (.iaload, 1) := by decide +kernel
theorem dL_step_133 : decode cL_step 133 = .ok (.iload 6, 2) := by decide +kernel
theorem dL_step_135 : decode cL_step 135 = .ok (.iload 9, 2) := by decide +kernel
theorem dL_step_137 : decode cL_step 137 = .ok (.iadd, 1) := by decide +kernel
theorem dL_step_138 : decode cL_step 138 = .ok (.iload 8, 2) := by decide +kernel
theorem dL_step_140 : decode cL_step 140 = .ok (.isub, 1) := by decide +kernel
theorem dL_step_141 : decode cL_step 141 = .ok (.iload 8, 2) := by decide +kernel
theorem dL_step_143 : decode cL_step 143 = .ok (.isub, 1) := by decide +kernel
theorem dL_step_144 : decode cL_step 144 = .ok (.iconst 4, 1) := by decide +kernel
theorem dL_step_145 : decode cL_step 145 = .ok (.idiv, 1) := by decide +kernel
theorem dL_step_146 : decode cL_step 146 = .ok (.iadd, 1) := by decide +kernel
theorem dL_step_147 : decode cL_step 147 = .ok (.invokestatic 20, 3) := by decide +kernel
theorem dL_step_150 : decode cL_step 150 = .ok (.istore 10, 2) := by decide +kernel
theorem dL_step_152 : decode cL_step 152 = .ok (.aload_n 2, 1) := by decide +kernel
theorem dL_step_153 : decode cL_step 153 = .ok (.iload 7, 2) := by decide +kernel
theorem dL_step_155 : decode cL_step 155 = .ok (.iload 10, 2) := by decide +kernel
theorem dL_step_157 : decode cL_step 157 = .ok (.iload 10, 2) := by decide +kernel
theorem dL_step_159 : decode cL_step 159 = .ok (.aload_n 0, 1) := by decide +kernel
theorem dL_step_160 : decode cL_step 160 = .ok (.iconst 1, 1) := by decide +kernel
theorem dL_step_161 : decode cL_step 161 = .ok (.iaload, 1) := by decide +kernel
theorem dL_step_162 : decode cL_step 162 = .ok (.imul, 1) := by decide +kernel
theorem dL_step_163 : decode cL_step 163 = .ok (.bipush 100, 2) := by decide +kernel
theorem dL_step_165 : decode cL_step 165 = .ok (.idiv, 1) := by decide +kernel
theorem dL_step_166 : decode cL_step 166 = .ok (.isub, 1) := by decide +kernel
theorem dL_step_167 : decode cL_step 167 = .ok (.iastore, 1) := by decide +kernel
theorem dL_step_168 : decode cL_step 168 = .ok (.iload 8, 2) := by decide +kernel
theorem dL_step_170 : decode cL_step 170 = .ok (.istore 6, 2) := by decide +kernel
theorem dL_step_172 : decode cL_step 172 = .ok (.aload_n 1, 1) := by decide +kernel
theorem dL_step_173 : decode cL_step 173 = .ok (.iload 7, 2) := by decide +kernel
theorem dL_step_175 : decode cL_step 175 = .ok (.iload 8, 2) := by decide +kernel
theorem dL_step_177 : decode cL_step 177 = .ok (.aload_n 2, 1) := by decide +kernel
theorem dL_step_178 : decode cL_step 178 = .ok (.iload 7, 2) := by decide +kernel
theorem dL_step_180 : decode cL_step 180 = .ok (.iaload, 1) := by decide +kernel
theorem dL_step_181 : decode cL_step 181 = .ok (.iadd, 1) := by decide +kernel
theorem dL_step_182 : decode cL_step 182 = .ok (.invokestatic 20, 3) := by decide +kernel
theorem dL_step_185 : decode cL_step 185 = .ok (.iastore, 1) := by decide +kernel
theorem dL_step_186 : decode cL_step 186 = .ok (.iinc 7 1, 3) := by decide +kernel
theorem dL_step_189 : decode cL_step 189 = .ok (.goto (-93), 3) := by decide +kernel
theorem dL_step_192 : decode cL_step 192 = .ok (.iconst 1, 1) := by decide +kernel
theorem dL_step_193 : decode cL_step 193 = .ok (.istore 7, 2) := by decide +kernel
theorem dL_step_195 : decode cL_step 195 = .ok (.iload 7, 2) := by decide +kernel
theorem dL_step_197 : decode cL_step 197 = .ok (.iconst 5, 1) := by decide +kernel
theorem dL_step_198 : decode cL_step 198 = .ok (.if_icmp .ge 65, 3) := by decide +kernel
theorem dL_step_201 : decode cL_step 201 = .ok (.aload_n 1, 1) := by decide +kernel
theorem dL_step_202 : decode cL_step 202 = .ok (.bipush 35, 2) := by decide +kernel
theorem dL_step_204 : decode cL_step 204 = .ok (.iload 7, 2) := by decide +kernel
theorem dL_step_206 : decode cL_step 206 = .ok (.iadd, 1) := by decide +kernel
theorem dL_step_207 : decode cL_step 207 = .ok (.dup2, 1) := by decide +kernel
theorem dL_step_208 : decode cL_step 208 = .ok (.iaload, 1) := by decide +kernel
theorem dL_step_209 : decode cL_step 209 = .ok (.aload_n 1, 1) := by decide +kernel
theorem dL_step_210 : decode cL_step 210 = .ok (.bipush 35, 2) := by decide +kernel
theorem dL_step_212 : decode cL_step 212 = .ok (.iload 7, 2) := by decide +kernel
theorem dL_step_214 : decode cL_step 214 = .ok (.iadd, 1) := by decide +kernel
theorem dL_step_215 : decode cL_step 215 = .ok (.iaload, 1) := by decide +kernel
theorem dL_step_216 : decode cL_step 216 = .ok (.aload_n 0, 1) := by decide +kernel
theorem dL_step_217 : decode cL_step 217 = .ok (.iconst 0, 1) := by decide +kernel
theorem dL_step_218 : decode cL_step 218 = .ok (.iaload, 1) := by decide +kernel
theorem dL_step_219 : decode cL_step 219 = .ok (.iload 7, 2) := by decide +kernel
theorem dL_step_221 : decode cL_step 221 = .ok (.imul, 1) := by decide +kernel
theorem dL_step_222 : decode cL_step 222 = .ok (.imul, 1) := by decide +kernel
theorem dL_step_223 : decode cL_step 223 = .ok (.sipush 400, 3) := by decide +kernel
theorem dL_step_226 : decode cL_step 226 = .ok (.idiv, 1) := by decide +kernel
theorem dL_step_227 : decode cL_step 227 = .ok (.isub, 1) := by decide +kernel
theorem dL_step_228 : decode cL_step 228 = .ok (.iastore, 1) := by decide +kernel
theorem dL_step_229 : decode cL_step 229 = .ok (.aload_n 2, 1) := by decide +kernel
theorem dL_step_230 : decode cL_step 230 = .ok (.bipush 35, 2) := by decide +kernel
theorem dL_step_232 : decode cL_step 232 = .ok (.iload 7, 2) := by decide +kernel
theorem dL_step_234 : decode cL_step 234 = .ok (.iadd, 1) := by decide +kernel
theorem dL_step_235 : decode cL_step 235 = .ok (.dup2, 1) := by decide +kernel
theorem dL_step_236 : decode cL_step 236 = .ok (.iaload, 1) := by decide +kernel
theorem dL_step_237 : decode cL_step 237 = .ok (.aload_n 2, 1) := by decide +kernel
theorem dL_step_238 : decode cL_step 238 = .ok (.bipush 35, 2) := by decide +kernel
theorem dL_step_240 : decode cL_step 240 = .ok (.iload 7, 2) := by decide +kernel
theorem dL_step_242 : decode cL_step 242 = .ok (.iadd, 1) := by decide +kernel
theorem dL_step_243 : decode cL_step 243 = .ok (.iaload, 1) := by decide +kernel
theorem dL_step_244 : decode cL_step 244 = .ok (.aload_n 0, 1) := by decide +kernel
theorem dL_step_245 : decode cL_step 245 = .ok (.iconst 0, 1) := by decide +kernel
theorem dL_step_246 : decode cL_step 246 = .ok (.iaload, 1) := by decide +kernel
theorem dL_step_247 : decode cL_step 247 = .ok (.iload 7, 2) := by decide +kernel
theorem dL_step_249 : decode cL_step 249 = .ok (.imul, 1) := by decide +kernel
theorem dL_step_250 : decode cL_step 250 = .ok (.imul, 1) := by decide +kernel
theorem dL_step_251 : decode cL_step 251 = .ok (.sipush 400, 3) := by decide +kernel
theorem dL_step_254 : decode cL_step 254 = .ok (.idiv, 1) := by decide +kernel
theorem dL_step_255 : decode cL_step 255 = .ok (.isub, 1) := by decide +kernel
theorem dL_step_256 : decode cL_step 256 = .ok (.iastore, 1) := by decide +kernel
theorem dL_step_257 : decode cL_step 257 = .ok (.iinc 7 1, 3) := by decide +kernel
theorem dL_step_260 : decode cL_step 260 = .ok (.goto (-65), 3) := by decide +kernel
theorem dL_step_263 : decode cL_step 263 = .ok (.aload_n 0, 1) := by decide +kernel
theorem dL_step_264 : decode cL_step 264 = .ok (.iconst 3, 1) := by decide +kernel
theorem dL_step_265 : decode cL_step 265 = .ok (.dup2, 1) := by decide +kernel
theorem dL_step_266 : decode cL_step 266 = .ok (.iaload, 1) := by decide +kernel
theorem dL_step_267 : decode cL_step 267 = .ok (.iconst 1, 1) := by decide +kernel
theorem dL_step_268 : decode cL_step 268 = .ok (.iadd, 1) := by decide +kernel
theorem dL_step_269 : decode cL_step 269 = .ok (.iastore, 1) := by decide +kernel
theorem dL_step_270 : decode cL_step 270 = .ok (.iload 5, 2) := by decide +kernel
theorem dL_step_272 : decode cL_step 272 = .ok (.ireturn, 1) := by decide +kernel
theorem dL_copy_0 : decode cL_copy 0 = .ok (.iconst 0, 1) := by decide +kernel
theorem dL_copy_1 : decode cL_copy 1 = .ok (.istore_n 3, 1) := by decide +kernel
theorem dL_copy_2 : decode cL_copy 2 = .ok (.iload_n 3, 1) := by decide +kernel
theorem dL_copy_3 : decode cL_copy 3 = .ok (.iload_n 2, 1) := by decide +kernel
theorem dL_copy_4 : decode cL_copy 4 = .ok (.if_icmp .ge 15, 3) := by decide +kernel
theorem dL_copy_7 : decode cL_copy 7 = .ok (.aload_n 1, 1) := by decide +kernel
theorem dL_copy_8 : decode cL_copy 8 = .ok (.iload_n 3, 1) := by decide +kernel
theorem dL_copy_9 : decode cL_copy 9 = .ok (.aload_n 0, 1) := by decide +kernel
theorem dL_copy_10 : decode cL_copy 10 = .ok (.iload_n 3, 1) := by decide +kernel
theorem dL_copy_11 : decode cL_copy 11 = .ok (.iaload, 1) := by decide +kernel
theorem dL_copy_12 : decode cL_copy 12 = .ok (.iastore, 1) := by decide +kernel
theorem dL_copy_13 : decode cL_copy 13 = .ok (.iinc 3 1, 3) := by decide +kernel
theorem dL_copy_16 : decode cL_copy 16 = .ok (.goto (-14), 3) := by decide +kernel
theorem dL_copy_19 : decode cL_copy 19 = .ok (.return_, 1) := by decide +kernel

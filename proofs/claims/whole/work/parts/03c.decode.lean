theorem d_Model_thrown_0 : decode b_Model_thrown 0 = .ok (.aload_n 0, 1) := by decide +kernel
theorem d_Model_thrown_1 : decode b_Model_thrown 1 = .ok (.getfield 60, 3) := by decide +kernel
theorem d_Model_thrown_4 : decode b_Model_thrown 4 = .ok (.ireturn, 1) := by decide +kernel
theorem d_Model_paint_0 : decode b_Model_paint 0 = .ok (.aload_n 0, 1) := by decide +kernel
theorem d_Model_paint_1 : decode b_Model_paint 1 = .ok (.iconst 0, 1) := by decide +kernel
theorem d_Model_paint_2 : decode b_Model_paint 2 = .ok (.putfield 60, 3) := by decide +kernel
theorem d_Model_paint_5 : decode b_Model_paint 5 = .ok (.iload_n 1, 1) := by decide +kernel
theorem d_Model_paint_6 : decode b_Model_paint 6 = .ok (.ifCond .lt 26, 3) := by decide +kernel
theorem d_Model_paint_9 : decode b_Model_paint 9 = .ok (.iload_n 2, 1) := by decide +kernel
theorem d_Model_paint_10 : decode b_Model_paint 10 = .ok (.iconst 1, 1) := by decide +kernel
theorem d_Model_paint_11 : decode b_Model_paint 11 = .ok (.if_icmp .lt 21, 3) := by decide +kernel
theorem d_Model_paint_14 : decode b_Model_paint 14 = .ok (.iload_n 2, 1) := by decide +kernel
theorem d_Model_paint_15 : decode b_Model_paint 15 = .ok (.aload_n 0, 1) := by decide +kernel
theorem d_Model_paint_16 : decode b_Model_paint 16 = .ok (.getfield 41, 3) := by decide +kernel
theorem d_Model_paint_19 : decode b_Model_paint 19 = .ok (.if_icmp .gt 13, 3) := by decide +kernel
theorem d_Model_paint_22 : decode b_Model_paint 22 = .ok (.iload_n 1, 1) := by decide +kernel
theorem d_Model_paint_23 : decode b_Model_paint 23 = .ok (.aload_n 0, 1) := by decide +kernel
theorem d_Model_paint_24 : decode b_Model_paint 24 = .ok (.getfield 41, 3) := by decide +kernel
theorem d_Model_paint_27 : decode b_Model_paint 27 = .ok (.iload_n 2, 1) := by decide +kernel
theorem d_Model_paint_28 : decode b_Model_paint 28 = .ok (.isub, 1) := by decide +kernel
theorem d_Model_paint_29 : decode b_Model_paint 29 = .ok (.if_icmp .le 5, 3) := by decide +kernel
theorem d_Model_paint_32 : decode b_Model_paint 32 = .ok (.iconst 0, 1) := by decide +kernel
theorem d_Model_paint_33 : decode b_Model_paint 33 = .ok (.ireturn, 1) := by decide +kernel
theorem d_Model_paint_34 : decode b_Model_paint 34 = .ok (.iload_n 1, 1) := by decide +kernel
theorem d_Model_paint_35 : decode b_Model_paint 35 = .ok (.istore 4, 2) := by decide +kernel
theorem d_Model_paint_37 : decode b_Model_paint 37 = .ok (.iload 4, 2) := by decide +kernel
theorem d_Model_paint_39 : decode b_Model_paint 39 = .ok (.iload_n 1, 1) := by decide +kernel
theorem d_Model_paint_40 : decode b_Model_paint 40 = .ok (.iload_n 2, 1) := by decide +kernel
theorem d_Model_paint_41 : decode b_Model_paint 41 = .ok (.iadd, 1) := by decide +kernel
theorem d_Model_paint_42 : decode b_Model_paint 42 = .ok (.if_icmp .ge 17, 3) := by decide +kernel
theorem d_Model_paint_45 : decode b_Model_paint 45 = .ok (.aload_n 0, 1) := by decide +kernel
theorem d_Model_paint_46 : decode b_Model_paint 46 = .ok (.getfield 45, 3) := by decide +kernel
theorem d_Model_paint_49 : decode b_Model_paint 49 = .ok (.iload 4, 2) := by decide +kernel
theorem d_Model_paint_51 : decode b_Model_paint 51 = .ok (.iload_n 3, 1) := by decide +kernel
theorem d_Model_paint_52 : decode b_Model_paint 52 = .ok (.bastore, 1) := by decide +kernel
theorem d_Model_paint_53 : decode b_Model_paint 53 = .ok (.iinc 4 1, 3) := by decide +kernel
theorem d_Model_paint_56 : decode b_Model_paint 56 = .ok (.goto (-19), 3) := by decide +kernel
theorem d_Model_paint_59 : decode b_Model_paint 59 = .ok (.iconst 1, 1) := by decide +kernel
theorem d_Model_paint_60 : decode b_Model_paint 60 = .ok (.ireturn, 1) := by decide +kernel
theorem d_Model_code_0 : decode b_Model_code 0 = .ok (.aload_n 0, 1) := by decide +kernel
theorem d_Model_code_1 : decode b_Model_code 1 = .ok (.invokevirtual 93, 3) := by decide +kernel
theorem d_Model_code_4 : decode b_Model_code 4 = .ok (.aload_n 0, 1) := by decide +kernel
theorem d_Model_code_5 : decode b_Model_code 5 = .ok (.aload_n 0, 1) := by decide +kernel
theorem d_Model_code_6 : decode b_Model_code 6 = .ok (.getfield 96, 3) := by decide +kernel
theorem d_Model_code_9 : decode b_Model_code 9 = .ok (.ifCond .ne 17, 3) := by decide +kernel
theorem d_Model_code_12 : decode b_Model_code 12 = .ok (.aload_n 0, 1) := by decide +kernel
theorem d_Model_code_13 : decode b_Model_code 13 = .ok (.getfield 90, 3) := by decide +kernel
theorem d_Model_code_16 : decode b_Model_code 16 = .ok (.aload_n 0, 1) := by decide +kernel
theorem d_Model_code_17 : decode b_Model_code 17 = .ok (.getfield 63, 3) := by decide +kernel
theorem d_Model_code_20 : decode b_Model_code 20 = .ok (.iadd, 1) := by decide +kernel
theorem d_Model_code_21 : decode b_Model_code 21 = .ok (.ldc 28, 2) := by decide +kernel
theorem d_Model_code_23 : decode b_Model_code 23 = .ok (.if_icmp .le 7, 3) := by decide +kernel
theorem d_Model_code_26 : decode b_Model_code 26 = .ok (.iconst 1, 1) := by decide +kernel
theorem d_Model_code_27 : decode b_Model_code 27 = .ok (.goto 4, 3) := by decide +kernel
theorem d_Model_code_30 : decode b_Model_code 30 = .ok (.iconst 0, 1) := by decide +kernel
theorem d_Model_code_31 : decode b_Model_code 31 = .ok (.putfield 60, 3) := by decide +kernel
theorem d_Model_code_34 : decode b_Model_code 34 = .ok (.aload_n 0, 1) := by decide +kernel
theorem d_Model_code_35 : decode b_Model_code 35 = .ok (.getfield 60, 3) := by decide +kernel
theorem d_Model_code_38 : decode b_Model_code 38 = .ok (.ifCond .le 5, 3) := by decide +kernel
theorem d_Model_code_41 : decode b_Model_code 41 = .ok (.iconst 0, 1) := by decide +kernel
theorem d_Model_code_42 : decode b_Model_code 42 = .ok (.ireturn, 1) := by decide +kernel
theorem d_Model_code_43 : decode b_Model_code 43 = .ok (.aload_n 0, 1) := by decide +kernel
theorem d_Model_code_44 : decode b_Model_code 44 = .ok (.invokevirtual 100, 3) := by decide +kernel
theorem d_Model_code_47 : decode b_Model_code 47 = .ok (.aload_n 0, 1) := by decide +kernel
theorem d_Model_code_48 : decode b_Model_code 48 = .ok (.dup, 1) := by decide +kernel
theorem d_Model_code_49 : decode b_Model_code 49 = .ok (.getfield 103, 3) := by decide +kernel
theorem d_Model_code_52 : decode b_Model_code 52 = .ok (.aload_n 0, 1) := by decide +kernel
theorem d_Model_code_53 : decode b_Model_code 53 = .ok (.getfield 70, 3) := by decide +kernel
theorem d_Model_code_56 : decode b_Model_code 56 = .ok (.iadd, 1) := by decide +kernel
theorem d_Model_code_57 : decode b_Model_code 57 = .ok (.putfield 103, 3) := by decide +kernel
theorem d_Model_code_60 : decode b_Model_code 60 = .ok (.aload_n 0, 1) := by decide +kernel
theorem d_Model_code_61 : decode b_Model_code 61 = .ok (.dup, 1) := by decide +kernel
theorem d_Model_code_62 : decode b_Model_code 62 = .ok (.getfield 106, 3) := by decide +kernel
theorem d_Model_code_65 : decode b_Model_code 65 = .ok (.aload_n 0, 1) := by decide +kernel
theorem d_Model_code_66 : decode b_Model_code 66 = .ok (.getfield 73, 3) := by decide +kernel
theorem d_Model_code_69 : decode b_Model_code 69 = .ok (.iadd, 1) := by decide +kernel
theorem d_Model_code_70 : decode b_Model_code 70 = .ok (.putfield 106, 3) := by decide +kernel
theorem d_Model_code_73 : decode b_Model_code 73 = .ok (.aload_n 0, 1) := by decide +kernel
theorem d_Model_code_74 : decode b_Model_code 74 = .ok (.dup, 1) := by decide +kernel
theorem d_Model_code_75 : decode b_Model_code 75 = .ok (.getfield 109, 3) := by decide +kernel
theorem d_Model_code_78 : decode b_Model_code 78 = .ok (.aload_n 0, 1) := by decide +kernel
theorem d_Model_code_79 : decode b_Model_code 79 = .ok (.getfield 76, 3) := by decide +kernel
theorem d_Model_code_82 : decode b_Model_code 82 = .ok (.iadd, 1) := by decide +kernel
theorem d_Model_code_83 : decode b_Model_code 83 = .ok (.putfield 109, 3) := by decide +kernel
theorem d_Model_code_86 : decode b_Model_code 86 = .ok (.aload_n 0, 1) := by decide +kernel
theorem d_Model_code_87 : decode b_Model_code 87 = .ok (.dup, 1) := by decide +kernel
theorem d_Model_code_88 : decode b_Model_code 88 = .ok (.getfield 112, 3) := by decide +kernel
theorem d_Model_code_91 : decode b_Model_code 91 = .ok (.iconst 1, 1) := by decide +kernel
theorem d_Model_code_92 : decode b_Model_code 92 = .ok (.iadd, 1) := by decide +kernel
theorem d_Model_code_93 : decode b_Model_code 93 = .ok (.putfield 112, 3) := by decide +kernel
theorem d_Model_code_96 : decode b_Model_code 96 = .ok (.iconst 0, 1) := by decide +kernel
theorem d_Model_code_97 : decode b_Model_code 97 = .ok (.istore_n 1, 1) := by decide +kernel
theorem d_Model_code_98 : decode b_Model_code 98 = .ok (.iload_n 1, 1) := by decide +kernel
theorem d_Model_code_99 : decode b_Model_code 99 = .ok (.aload_n 0, 1) := by decide +kernel
theorem d_Model_code_100 : decode b_Model_code 100 = .ok (.getfield 41, 3) := by decide +kernel
theorem d_Model_code_103 : decode b_Model_code 103 = .ok (.if_icmp .ge 28, 3) := by decide +kernel
theorem d_Model_code_106 : decode b_Model_code 106 = .ok (.aload_n 0, 1) := by decide +kernel
theorem d_Model_code_107 : decode b_Model_code 107 = .ok (.getfield 48, 3) := by decide +kernel
theorem d_Model_code_110 : decode b_Model_code 110 = .ok (.iload_n 1, 1) := by decide +kernel
theorem d_Model_code_111 : decode b_Model_code 111 = .ok (.aload_n 0, 1) := by decide +kernel
theorem d_Model_code_112 : decode b_Model_code 112 = .ok (.getfield 45, 3) := by decide +kernel
theorem d_Model_code_115 : decode b_Model_code 115 = .ok (.iload_n 1, 1) := by decide +kernel
theorem d_Model_code_116 : decode b_Model_code 116 = .ok (.baload, 1) := by decide +kernel
theorem d_Model_code_117 : decode b_Model_code 117 = .ok (.bastore, 1) := by decide +kernel
theorem d_Model_code_118 : decode b_Model_code 118 = .ok (.aload_n 0, 1) := by decide +kernel
theorem d_Model_code_119 : decode b_Model_code 119 = .ok (.getfield 45, 3) := by decide +kernel
theorem d_Model_code_122 : decode b_Model_code 122 = .ok (.iload_n 1, 1) := by decide +kernel
theorem d_Model_code_123 : decode b_Model_code 123 = .ok (.iconst 0, 1) := by decide +kernel
theorem d_Model_code_124 : decode b_Model_code 124 = .ok (.bastore, 1) := by decide +kernel
theorem d_Model_code_125 : decode b_Model_code 125 = .ok (.iinc 1 1, 3) := by decide +kernel
theorem d_Model_code_128 : decode b_Model_code 128 = .ok (.goto (-30), 3) := by decide +kernel
theorem d_Model_code_131 : decode b_Model_code 131 = .ok (.aload_n 0, 1) := by decide +kernel
theorem d_Model_code_132 : decode b_Model_code 132 = .ok (.getfield 63, 3) := by decide +kernel
theorem d_Model_code_135 : decode b_Model_code 135 = .ok (.ireturn, 1) := by decide +kernel
theorem d_Model_lineWords_0 : decode b_Model_lineWords 0 = .ok (.aload_n 0, 1) := by decide +kernel
theorem d_Model_lineWords_1 : decode b_Model_lineWords 1 = .ok (.iconst 0, 1) := by decide +kernel
theorem d_Model_lineWords_2 : decode b_Model_lineWords 2 = .ok (.putfield 63, 3) := by decide +kernel
theorem d_Model_lineWords_5 : decode b_Model_lineWords 5 = .ok (.aload_n 0, 1) := by decide +kernel
theorem d_Model_lineWords_6 : decode b_Model_lineWords 6 = .ok (.iconst 0, 1) := by decide +kernel
theorem d_Model_lineWords_7 : decode b_Model_lineWords 7 = .ok (.putfield 70, 3) := by decide +kernel
theorem d_Model_lineWords_10 : decode b_Model_lineWords 10 = .ok (.aload_n 0, 1) := by decide +kernel
theorem d_Model_lineWords_11 : decode b_Model_lineWords 11 = .ok (.iconst 0, 1) := by decide +kernel
theorem d_Model_lineWords_12 : decode b_Model_lineWords 12 = .ok (.putfield 73, 3) := by decide +kernel
theorem d_Model_lineWords_15 : decode b_Model_lineWords 15 = .ok (.aload_n 0, 1) := by decide +kernel
theorem d_Model_lineWords_16 : decode b_Model_lineWords 16 = .ok (.iconst 0, 1) := by decide +kernel
theorem d_Model_lineWords_17 : decode b_Model_lineWords 17 = .ok (.putfield 76, 3) := by decide +kernel
theorem d_Model_lineWords_20 : decode b_Model_lineWords 20 = .ok (.iconst (-1), 1) := by decide +kernel
theorem d_Model_lineWords_21 : decode b_Model_lineWords 21 = .ok (.istore_n 1, 1) := by decide +kernel
theorem d_Model_lineWords_22 : decode b_Model_lineWords 22 = .ok (.iconst 0, 1) := by decide +kernel
theorem d_Model_lineWords_23 : decode b_Model_lineWords 23 = .ok (.istore_n 2, 1) := by decide +kernel
theorem d_Model_lineWords_24 : decode b_Model_lineWords 24 = .ok (.iload_n 1, 1) := by decide +kernel
theorem d_Model_lineWords_25 : decode b_Model_lineWords 25 = .ok (.aload_n 0, 1) := by decide +kernel
theorem d_Model_lineWords_26 : decode b_Model_lineWords 26 = .ok (.getfield 41, 3) := by decide +kernel
theorem d_Model_lineWords_29 : decode b_Model_lineWords 29 = .ok (.if_icmp .ge 246, 3) := by decide +kernel
theorem d_Model_lineWords_32 : decode b_Model_lineWords 32 = .ok (.aload_n 0, 1) := by decide +kernel
theorem d_Model_lineWords_33 : decode b_Model_lineWords 33 = .ok (.aload_n 0, 1) := by decide +kernel
theorem d_Model_lineWords_34 : decode b_Model_lineWords 34 = .ok (.getfield 45, 3) := by decide +kernel
theorem d_Model_lineWords_37 : decode b_Model_lineWords 37 = .ok (.iload_n 1, 1) := by decide +kernel
theorem d_Model_lineWords_38 : decode b_Model_lineWords 38 = .ok (.iload_n 2, 1) := by decide +kernel
theorem d_Model_lineWords_39 : decode b_Model_lineWords 39 = .ok (.ifCond .ne 7, 3) := by decide +kernel
theorem d_Model_lineWords_42 : decode b_Model_lineWords 42 = .ok (.iconst 1, 1) := by decide +kernel
theorem d_Model_lineWords_43 : decode b_Model_lineWords 43 = .ok (.goto 4, 3) := by decide +kernel
theorem d_Model_lineWords_46 : decode b_Model_lineWords 46 = .ok (.iconst 0, 1) := by decide +kernel
theorem d_Model_lineWords_47 : decode b_Model_lineWords 47 = .ok (.invokevirtual 79, 3) := by decide +kernel
theorem d_Model_lineWords_50 : decode b_Model_lineWords 50 = .ok (.istore_n 3, 1) := by decide +kernel
theorem d_Model_lineWords_51 : decode b_Model_lineWords 51 = .ok (.aload_n 0, 1) := by decide +kernel
theorem d_Model_lineWords_52 : decode b_Model_lineWords 52 = .ok (.aload_n 0, 1) := by decide +kernel
theorem d_Model_lineWords_53 : decode b_Model_lineWords 53 = .ok (.getfield 48, 3) := by decide +kernel
theorem d_Model_lineWords_56 : decode b_Model_lineWords 56 = .ok (.iload_n 1, 1) := by decide +kernel
theorem d_Model_lineWords_57 : decode b_Model_lineWords 57 = .ok (.iload_n 2, 1) := by decide +kernel
theorem d_Model_lineWords_58 : decode b_Model_lineWords 58 = .ok (.ifCond .ne 7, 3) := by decide +kernel
theorem d_Model_lineWords_61 : decode b_Model_lineWords 61 = .ok (.iconst 1, 1) := by decide +kernel
theorem d_Model_lineWords_62 : decode b_Model_lineWords 62 = .ok (.goto 4, 3) := by decide +kernel
theorem d_Model_lineWords_65 : decode b_Model_lineWords 65 = .ok (.iconst 0, 1) := by decide +kernel
theorem d_Model_lineWords_66 : decode b_Model_lineWords 66 = .ok (.invokevirtual 83, 3) := by decide +kernel
theorem d_Model_lineWords_69 : decode b_Model_lineWords 69 = .ok (.istore 4, 2) := by decide +kernel
theorem d_Model_lineWords_71 : decode b_Model_lineWords 71 = .ok (.iload 4, 2) := by decide +kernel
theorem d_Model_lineWords_73 : decode b_Model_lineWords 73 = .ok (.aload_n 0, 1) := by decide +kernel
theorem d_Model_lineWords_74 : decode b_Model_lineWords 74 = .ok (.getfield 41, 3) := by decide +kernel
theorem d_Model_lineWords_77 : decode b_Model_lineWords 77 = .ok (.if_icmp .ne 10, 3) := by decide +kernel
theorem d_Model_lineWords_80 : decode b_Model_lineWords 80 = .ok (.aload_n 0, 1) := by decide +kernel
theorem d_Model_lineWords_81 : decode b_Model_lineWords 81 = .ok (.getfield 41, 3) := by decide +kernel
theorem d_Model_lineWords_84 : decode b_Model_lineWords 84 = .ok (.goto 14, 3) := by decide +kernel
theorem d_Model_lineWords_87 : decode b_Model_lineWords 87 = .ok (.aload_n 0, 1) := by decide +kernel
theorem d_Model_lineWords_88 : decode b_Model_lineWords 88 = .ok (.aload_n 0, 1) := by decide +kernel
theorem d_Model_lineWords_89 : decode b_Model_lineWords 89 = .ok (.getfield 48, 3) := by decide +kernel
theorem d_Model_lineWords_92 : decode b_Model_lineWords 92 = .ok (.iload 4, 2) := by decide +kernel
theorem d_Model_lineWords_94 : decode b_Model_lineWords 94 = .ok (.iload_n 2, 1) := by decide +kernel
theorem d_Model_lineWords_95 : decode b_Model_lineWords 95 = .ok (.invokevirtual 79, 3) := by decide +kernel
theorem d_Model_lineWords_98 : decode b_Model_lineWords 98 = .ok (.istore 5, 2) := by decide +kernel
theorem d_Model_lineWords_100 : decode b_Model_lineWords 100 = .ok (.iload_n 3, 1) := by decide +kernel
theorem d_Model_lineWords_101 : decode b_Model_lineWords 101 = .ok (.iload 4, 2) := by decide +kernel
theorem d_Model_lineWords_103 : decode b_Model_lineWords 103 = .ok (.isub, 1) := by decide +kernel
theorem d_Model_lineWords_104 : decode b_Model_lineWords 104 = .ok (.istore 6, 2) := by decide +kernel
theorem d_Model_lineWords_106 : decode b_Model_lineWords 106 = .ok (.iload 5, 2) := by decide +kernel
theorem d_Model_lineWords_108 : decode b_Model_lineWords 108 = .ok (.iload_n 3, 1) := by decide +kernel
theorem d_Model_lineWords_109 : decode b_Model_lineWords 109 = .ok (.if_icmp .ge 29, 3) := by decide +kernel
theorem d_Model_lineWords_112 : decode b_Model_lineWords 112 = .ok (.aload_n 0, 1) := by decide +kernel
theorem d_Model_lineWords_113 : decode b_Model_lineWords 113 = .ok (.aload_n 0, 1) := by decide +kernel
theorem d_Model_lineWords_114 : decode b_Model_lineWords 114 = .ok (.getfield 25, 3) := by decide +kernel
theorem d_Model_lineWords_117 : decode b_Model_lineWords 117 = .ok (.iconst 0, 1) := by decide +kernel
theorem d_Model_lineWords_118 : decode b_Model_lineWords 118 = .ok (.iaload, 1) := by decide +kernel
theorem d_Model_lineWords_119 : decode b_Model_lineWords 119 = .ok (.invokevirtual 66, 3) := by decide +kernel
theorem d_Model_lineWords_122 : decode b_Model_lineWords 122 = .ok (.aload_n 0, 1) := by decide +kernel
theorem d_Model_lineWords_123 : decode b_Model_lineWords 123 = .ok (.dup, 1) := by decide +kernel
theorem d_Model_lineWords_124 : decode b_Model_lineWords 124 = .ok (.getfield 70, 3) := by decide +kernel
theorem d_Model_lineWords_127 : decode b_Model_lineWords 127 = .ok (.iconst 1, 1) := by decide +kernel
theorem d_Model_lineWords_128 : decode b_Model_lineWords 128 = .ok (.iadd, 1) := by decide +kernel
theorem d_Model_lineWords_129 : decode b_Model_lineWords 129 = .ok (.putfield 70, 3) := by decide +kernel
theorem d_Model_lineWords_132 : decode b_Model_lineWords 132 = .ok (.iload 5, 2) := by decide +kernel
theorem d_Model_lineWords_134 : decode b_Model_lineWords 134 = .ok (.istore_n 1, 1) := by decide +kernel
theorem d_Model_lineWords_135 : decode b_Model_lineWords 135 = .ok (.goto 137, 3) := by decide +kernel
theorem d_Model_lineWords_138 : decode b_Model_lineWords 138 = .ok (.iload 6, 2) := by decide +kernel
theorem d_Model_lineWords_140 : decode b_Model_lineWords 140 = .ok (.bipush (-3), 2) := by decide +kernel
theorem d_Model_lineWords_142 : decode b_Model_lineWords 142 = .ok (.if_icmp .lt 47, 3) := by decide +kernel
theorem d_Model_lineWords_145 : decode b_Model_lineWords 145 = .ok (.iload 6, 2) := by decide +kernel
theorem d_Model_lineWords_147 : decode b_Model_lineWords 147 = .ok (.iconst 3, 1) := by decide +kernel
theorem d_Model_lineWords_148 : decode b_Model_lineWords 148 = .ok (.if_icmp .gt 41, 3) := by decide +kernel
theorem d_Model_lineWords_151 : decode b_Model_lineWords 151 = .ok (.aload_n 0, 1) := by decide +kernel
theorem d_Model_lineWords_152 : decode b_Model_lineWords 152 = .ok (.aload_n 0, 1) := by decide +kernel
theorem d_Model_lineWords_153 : decode b_Model_lineWords 153 = .ok (.getfield 25, 3) := by decide +kernel
theorem d_Model_lineWords_156 : decode b_Model_lineWords 156 = .ok (.iconst 5, 1) := by decide +kernel
theorem d_Model_lineWords_157 : decode b_Model_lineWords 157 = .ok (.iload 6, 2) := by decide +kernel
theorem d_Model_lineWords_159 : decode b_Model_lineWords 159 = .ok (.iadd, 1) := by decide +kernel
theorem d_Model_lineWords_160 : decode b_Model_lineWords 160 = .ok (.iaload, 1) := by decide +kernel
theorem d_Model_lineWords_161 : decode b_Model_lineWords 161 = .ok (.invokevirtual 66, 3) := by decide +kernel
theorem d_Model_lineWords_164 : decode b_Model_lineWords 164 = .ok (.aload_n 0, 1) := by decide +kernel
theorem d_Model_lineWords_165 : decode b_Model_lineWords 165 = .ok (.dup, 1) := by decide +kernel
theorem d_Model_lineWords_166 : decode b_Model_lineWords 166 = .ok (.getfield 73, 3) := by decide +kernel
theorem d_Model_lineWords_169 : decode b_Model_lineWords 169 = .ok (.iconst 1, 1) := by decide +kernel
theorem d_Model_lineWords_170 : decode b_Model_lineWords 170 = .ok (.iadd, 1) := by decide +kernel
theorem d_Model_lineWords_171 : decode b_Model_lineWords 171 = .ok (.putfield 73, 3) := by decide +kernel
theorem d_Model_lineWords_174 : decode b_Model_lineWords 174 = .ok (.iload_n 3, 1) := by decide +kernel
theorem d_Model_lineWords_175 : decode b_Model_lineWords 175 = .ok (.istore_n 1, 1) := by decide +kernel
theorem d_Model_lineWords_176 : decode b_Model_lineWords 176 = .ok (.iload_n 2, 1) := by decide +kernel
theorem d_Model_lineWords_177 : decode b_Model_lineWords 177 = .ok (.ifCond .ne 7, 3) := by decide +kernel
theorem d_Model_lineWords_180 : decode b_Model_lineWords 180 = .ok (.iconst 1, 1) := by decide +kernel
theorem d_Model_lineWords_181 : decode b_Model_lineWords 181 = .ok (.goto 4, 3) := by decide +kernel
theorem d_Model_lineWords_184 : decode b_Model_lineWords 184 = .ok (.iconst 0, 1) := by decide +kernel
theorem d_Model_lineWords_185 : decode b_Model_lineWords 185 = .ok (.istore_n 2, 1) := by decide +kernel
theorem d_Model_lineWords_186 : decode b_Model_lineWords 186 = .ok (.goto 86, 3) := by decide +kernel
theorem d_Model_lineWords_189 : decode b_Model_lineWords 189 = .ok (.iload_n 3, 1) := by decide +kernel
theorem d_Model_lineWords_190 : decode b_Model_lineWords 190 = .ok (.aload_n 0, 1) := by decide +kernel
theorem d_Model_lineWords_191 : decode b_Model_lineWords 191 = .ok (.getfield 41, 3) := by decide +kernel
theorem d_Model_lineWords_194 : decode b_Model_lineWords 194 = .ok (.if_icmp .ne 10, 3) := by decide +kernel
theorem d_Model_lineWords_197 : decode b_Model_lineWords 197 = .ok (.aload_n 0, 1) := by decide +kernel
theorem d_Model_lineWords_198 : decode b_Model_lineWords 198 = .ok (.getfield 41, 3) := by decide +kernel
theorem d_Model_lineWords_201 : decode b_Model_lineWords 201 = .ok (.goto 13, 3) := by decide +kernel
theorem d_Model_lineWords_204 : decode b_Model_lineWords 204 = .ok (.aload_n 0, 1) := by decide +kernel
theorem d_Model_lineWords_205 : decode b_Model_lineWords 205 = .ok (.aload_n 0, 1) := by decide +kernel
theorem d_Model_lineWords_206 : decode b_Model_lineWords 206 = .ok (.getfield 45, 3) := by decide +kernel
theorem d_Model_lineWords_209 : decode b_Model_lineWords 209 = .ok (.iload_n 3, 1) := by decide +kernel
theorem d_Model_lineWords_210 : decode b_Model_lineWords 210 = .ok (.iload_n 2, 1) := by decide +kernel
theorem d_Model_lineWords_211 : decode b_Model_lineWords 211 = .ok (.invokevirtual 79, 3) := by decide +kernel
theorem d_Model_lineWords_214 : decode b_Model_lineWords 214 = .ok (.istore 7, 2) := by decide +kernel
theorem d_Model_lineWords_216 : decode b_Model_lineWords 216 = .ok (.aload_n 0, 1) := by decide +kernel
theorem d_Model_lineWords_217 : decode b_Model_lineWords 217 = .ok (.aload_n 0, 1) := by decide +kernel
theorem d_Model_lineWords_218 : decode b_Model_lineWords 218 = .ok (.getfield 25, 3) := by decide +kernel
theorem d_Model_lineWords_221 : decode b_Model_lineWords 221 = .ok (.iconst 1, 1) := by decide +kernel
theorem d_Model_lineWords_222 : decode b_Model_lineWords 222 = .ok (.iaload, 1) := by decide +kernel
theorem d_Model_lineWords_223 : decode b_Model_lineWords 223 = .ok (.invokevirtual 66, 3) := by decide +kernel
theorem d_Model_lineWords_226 : decode b_Model_lineWords 226 = .ok (.aload_n 0, 1) := by decide +kernel
theorem d_Model_lineWords_227 : decode b_Model_lineWords 227 = .ok (.iload_n 3, 1) := by decide +kernel
theorem d_Model_lineWords_228 : decode b_Model_lineWords 228 = .ok (.iload_n 1, 1) := by decide +kernel
theorem d_Model_lineWords_229 : decode b_Model_lineWords 229 = .ok (.ifCond .ge 7, 3) := by decide +kernel
theorem d_Model_lineWords_232 : decode b_Model_lineWords 232 = .ok (.iconst 0, 1) := by decide +kernel
theorem d_Model_lineWords_233 : decode b_Model_lineWords 233 = .ok (.goto 4, 3) := by decide +kernel
theorem d_Model_lineWords_236 : decode b_Model_lineWords 236 = .ok (.iload_n 1, 1) := by decide +kernel
theorem d_Model_lineWords_237 : decode b_Model_lineWords 237 = .ok (.isub, 1) := by decide +kernel
theorem d_Model_lineWords_238 : decode b_Model_lineWords 238 = .ok (.iload_n 2, 1) := by decide +kernel
theorem d_Model_lineWords_239 : decode b_Model_lineWords 239 = .ok (.invokevirtual 86, 3) := by decide +kernel
theorem d_Model_lineWords_242 : decode b_Model_lineWords 242 = .ok (.aload_n 0, 1) := by decide +kernel
theorem d_Model_lineWords_243 : decode b_Model_lineWords 243 = .ok (.iload 7, 2) := by decide +kernel
theorem d_Model_lineWords_245 : decode b_Model_lineWords 245 = .ok (.iload_n 3, 1) := by decide +kernel
theorem d_Model_lineWords_246 : decode b_Model_lineWords 246 = .ok (.isub, 1) := by decide +kernel
theorem d_Model_lineWords_247 : decode b_Model_lineWords 247 = .ok (.iload_n 2, 1) := by decide +kernel
theorem d_Model_lineWords_248 : decode b_Model_lineWords 248 = .ok (.ifCond .ne 7, 3) := by decide +kernel
theorem d_Model_lineWords_251 : decode b_Model_lineWords 251 = .ok (.iconst 1, 1) := by decide +kernel
theorem d_Model_lineWords_252 : decode b_Model_lineWords 252 = .ok (.goto 4, 3) := by decide +kernel
theorem d_Model_lineWords_255 : decode b_Model_lineWords 255 = .ok (.iconst 0, 1) := by decide +kernel
theorem d_Model_lineWords_256 : decode b_Model_lineWords 256 = .ok (.invokevirtual 86, 3) := by decide +kernel
theorem d_Model_lineWords_259 : decode b_Model_lineWords 259 = .ok (.aload_n 0, 1) := by decide +kernel
theorem d_Model_lineWords_260 : decode b_Model_lineWords 260 = .ok (.dup, 1) := by decide +kernel
theorem d_Model_lineWords_261 : decode b_Model_lineWords 261 = .ok (.getfield 76, 3) := by decide +kernel
theorem d_Model_lineWords_264 : decode b_Model_lineWords 264 = .ok (.iconst 1, 1) := by decide +kernel
theorem d_Model_lineWords_265 : decode b_Model_lineWords 265 = .ok (.iadd, 1) := by decide +kernel
theorem d_Model_lineWords_266 : decode b_Model_lineWords 266 = .ok (.putfield 76, 3) := by decide +kernel
theorem d_Model_lineWords_269 : decode b_Model_lineWords 269 = .ok (.iload 7, 2) := by decide +kernel
theorem d_Model_lineWords_271 : decode b_Model_lineWords 271 = .ok (.istore_n 1, 1) := by decide +kernel
theorem d_Model_lineWords_272 : decode b_Model_lineWords 272 = .ok (.goto (-248), 3) := by decide +kernel
theorem d_Model_lineWords_275 : decode b_Model_lineWords 275 = .ok (.return_, 1) := by decide +kernel
theorem d_Model_dotAfter_0 : decode b_Model_dotAfter 0 = .ok (.iload_n 2, 1) := by decide +kernel
theorem d_Model_dotAfter_1 : decode b_Model_dotAfter 1 = .ok (.iconst 1, 1) := by decide +kernel
theorem d_Model_dotAfter_2 : decode b_Model_dotAfter 2 = .ok (.iadd, 1) := by decide +kernel
theorem d_Model_dotAfter_3 : decode b_Model_dotAfter 3 = .ok (.istore 4, 2) := by decide +kernel
theorem d_Model_dotAfter_5 : decode b_Model_dotAfter 5 = .ok (.iload 4, 2) := by decide +kernel
theorem d_Model_dotAfter_7 : decode b_Model_dotAfter 7 = .ok (.aload_n 0, 1) := by decide +kernel
theorem d_Model_dotAfter_8 : decode b_Model_dotAfter 8 = .ok (.getfield 41, 3) := by decide +kernel
theorem d_Model_dotAfter_11 : decode b_Model_dotAfter 11 = .ok (.if_icmp .ge 30, 3) := by decide +kernel
theorem d_Model_dotAfter_14 : decode b_Model_dotAfter 14 = .ok (.aload_n 1, 1) := by decide +kernel
theorem d_Model_dotAfter_15 : decode b_Model_dotAfter 15 = .ok (.iload 4, 2) := by decide +kernel
theorem d_Model_dotAfter_17 : decode b_Model_dotAfter 17 = .ok (.aload_n 0, 1) := by decide +kernel
theorem d_Model_dotAfter_18 : decode b_Model_dotAfter 18 = .ok (.getfield 41, 3) := by decide +kernel
theorem d_Model_dotAfter_21 : decode b_Model_dotAfter 21 = .ok (.if_icmp .ge 8, 3) := by decide +kernel
theorem d_Model_dotAfter_24 : decode b_Model_dotAfter 24 = .ok (.iload 4, 2) := by decide +kernel
theorem d_Model_dotAfter_26 : decode b_Model_dotAfter 26 = .ok (.goto 4, 3) := by decide +kernel
theorem d_Model_dotAfter_29 : decode b_Model_dotAfter 29 = .ok (.iconst 0, 1) := by decide +kernel
theorem d_Model_dotAfter_30 : decode b_Model_dotAfter 30 = .ok (.baload, 1) := by decide +kernel
theorem d_Model_dotAfter_31 : decode b_Model_dotAfter 31 = .ok (.iload_n 3, 1) := by decide +kernel
theorem d_Model_dotAfter_32 : decode b_Model_dotAfter 32 = .ok (.if_icmp .eq 9, 3) := by decide +kernel
theorem d_Model_dotAfter_35 : decode b_Model_dotAfter 35 = .ok (.iinc 4 1, 3) := by decide +kernel
theorem d_Model_dotAfter_38 : decode b_Model_dotAfter 38 = .ok (.goto (-33), 3) := by decide +kernel
theorem d_Model_dotAfter_41 : decode b_Model_dotAfter 41 = .ok (.iload 4, 2) := by decide +kernel
theorem d_Model_dotAfter_43 : decode b_Model_dotAfter 43 = .ok (.aload_n 0, 1) := by decide +kernel
theorem d_Model_dotAfter_44 : decode b_Model_dotAfter 44 = .ok (.getfield 41, 3) := by decide +kernel
theorem d_Model_dotAfter_47 : decode b_Model_dotAfter 47 = .ok (.if_icmp .ge 8, 3) := by decide +kernel
theorem d_Model_dotAfter_50 : decode b_Model_dotAfter 50 = .ok (.iload 4, 2) := by decide +kernel
theorem d_Model_dotAfter_52 : decode b_Model_dotAfter 52 = .ok (.goto 7, 3) := by decide +kernel
theorem d_Model_dotAfter_55 : decode b_Model_dotAfter 55 = .ok (.aload_n 0, 1) := by decide +kernel
theorem d_Model_dotAfter_56 : decode b_Model_dotAfter 56 = .ok (.getfield 41, 3) := by decide +kernel
theorem d_Model_dotAfter_59 : decode b_Model_dotAfter 59 = .ok (.ireturn, 1) := by decide +kernel
theorem d_Model_changeAfter_0 : decode b_Model_changeAfter 0 = .ok (.iload_n 2, 1) := by decide +kernel
theorem d_Model_changeAfter_1 : decode b_Model_changeAfter 1 = .ok (.iconst 1, 1) := by decide +kernel
theorem d_Model_changeAfter_2 : decode b_Model_changeAfter 2 = .ok (.iadd, 1) := by decide +kernel
theorem d_Model_changeAfter_3 : decode b_Model_changeAfter 3 = .ok (.istore 4, 2) := by decide +kernel
theorem d_Model_changeAfter_5 : decode b_Model_changeAfter 5 = .ok (.iload 4, 2) := by decide +kernel
theorem d_Model_changeAfter_7 : decode b_Model_changeAfter 7 = .ok (.aload_n 0, 1) := by decide +kernel
theorem d_Model_changeAfter_8 : decode b_Model_changeAfter 8 = .ok (.getfield 41, 3) := by decide +kernel
theorem d_Model_changeAfter_11 : decode b_Model_changeAfter 11 = .ok (.if_icmp .ge 59, 3) := by decide +kernel
theorem d_Model_changeAfter_14 : decode b_Model_changeAfter 14 = .ok (.iload 4, 2) := by decide +kernel
theorem d_Model_changeAfter_16 : decode b_Model_changeAfter 16 = .ok (.ifCond .le 25, 3) := by decide +kernel
theorem d_Model_changeAfter_19 : decode b_Model_changeAfter 19 = .ok (.aload_n 1, 1) := by decide +kernel
theorem d_Model_changeAfter_20 : decode b_Model_changeAfter 20 = .ok (.iload 4, 2) := by decide +kernel
theorem d_Model_changeAfter_22 : decode b_Model_changeAfter 22 = .ok (.ifCond .le 10, 3) := by decide +kernel
theorem d_Model_changeAfter_25 : decode b_Model_changeAfter 25 = .ok (.iload 4, 2) := by decide +kernel
theorem d_Model_changeAfter_27 : decode b_Model_changeAfter 27 = .ok (.iconst 1, 1) := by decide +kernel
theorem d_Model_changeAfter_28 : decode b_Model_changeAfter 28 = .ok (.isub, 1) := by decide +kernel
theorem d_Model_changeAfter_29 : decode b_Model_changeAfter 29 = .ok (.goto 4, 3) := by decide +kernel
theorem d_Model_changeAfter_32 : decode b_Model_changeAfter 32 = .ok (.iconst 0, 1) := by decide +kernel
theorem d_Model_changeAfter_33 : decode b_Model_changeAfter 33 = .ok (.baload, 1) := by decide +kernel
theorem d_Model_changeAfter_34 : decode b_Model_changeAfter 34 = .ok (.ifCond .eq 7, 3) := by decide +kernel
theorem d_Model_changeAfter_37 : decode b_Model_changeAfter 37 = .ok (.iconst 1, 1) := by decide +kernel
theorem d_Model_changeAfter_38 : decode b_Model_changeAfter 38 = .ok (.goto 4, 3) := by decide +kernel
theorem d_Model_changeAfter_41 : decode b_Model_changeAfter 41 = .ok (.iconst 0, 1) := by decide +kernel
theorem d_Model_changeAfter_42 : decode b_Model_changeAfter 42 = .ok (.istore 5, 2) := by decide +kernel
theorem d_Model_changeAfter_44 : decode b_Model_changeAfter 44 = .ok (.aload_n 1, 1) := by decide +kernel
theorem d_Model_changeAfter_45 : decode b_Model_changeAfter 45 = .ok (.iload 4, 2) := by decide +kernel
theorem d_Model_changeAfter_47 : decode b_Model_changeAfter 47 = .ok (.baload, 1) := by decide +kernel
theorem d_Model_changeAfter_48 : decode b_Model_changeAfter 48 = .ok (.iload 5, 2) := by decide +kernel
theorem d_Model_changeAfter_50 : decode b_Model_changeAfter 50 = .ok (.if_icmp .eq 14, 3) := by decide +kernel
theorem d_Model_changeAfter_53 : decode b_Model_changeAfter 53 = .ok (.aload_n 1, 1) := by decide +kernel
theorem d_Model_changeAfter_54 : decode b_Model_changeAfter 54 = .ok (.iload 4, 2) := by decide +kernel
theorem d_Model_changeAfter_56 : decode b_Model_changeAfter 56 = .ok (.baload, 1) := by decide +kernel
theorem d_Model_changeAfter_57 : decode b_Model_changeAfter 57 = .ok (.iload_n 3, 1) := by decide +kernel
theorem d_Model_changeAfter_58 : decode b_Model_changeAfter 58 = .ok (.if_icmp .ne 6, 3) := by decide +kernel
theorem d_Model_changeAfter_61 : decode b_Model_changeAfter 61 = .ok (.iload 4, 2) := by decide +kernel
theorem d_Model_changeAfter_63 : decode b_Model_changeAfter 63 = .ok (.ireturn, 1) := by decide +kernel
theorem d_Model_changeAfter_64 : decode b_Model_changeAfter 64 = .ok (.iinc 4 1, 3) := by decide +kernel
theorem d_Model_changeAfter_67 : decode b_Model_changeAfter 67 = .ok (.goto (-62), 3) := by decide +kernel
theorem d_Model_changeAfter_70 : decode b_Model_changeAfter 70 = .ok (.aload_n 0, 1) := by decide +kernel
theorem d_Model_changeAfter_71 : decode b_Model_changeAfter 71 = .ok (.getfield 41, 3) := by decide +kernel
theorem d_Model_changeAfter_74 : decode b_Model_changeAfter 74 = .ok (.ireturn, 1) := by decide +kernel
theorem d_Model_word_0 : decode b_Model_word 0 = .ok (.iconst 0, 1) := by decide +kernel
theorem d_Model_word_1 : decode b_Model_word 1 = .ok (.istore_n 2, 1) := by decide +kernel
theorem d_Model_word_2 : decode b_Model_word 2 = .ok (.iload_n 1, 1) := by decide +kernel
theorem d_Model_word_3 : decode b_Model_word 3 = .ok (.iload_n 2, 1) := by decide +kernel
theorem d_Model_word_4 : decode b_Model_word 4 = .ok (.ishr, 1) := by decide +kernel
theorem d_Model_word_5 : decode b_Model_word 5 = .ok (.iconst 1, 1) := by decide +kernel
theorem d_Model_word_6 : decode b_Model_word 6 = .ok (.if_icmp .le 9, 3) := by decide +kernel
theorem d_Model_word_9 : decode b_Model_word 9 = .ok (.iinc 2 1, 3) := by decide +kernel
theorem d_Model_word_12 : decode b_Model_word 12 = .ok (.goto (-10), 3) := by decide +kernel
theorem d_Model_word_15 : decode b_Model_word 15 = .ok (.iload_n 2, 1) := by decide +kernel
theorem d_Model_word_16 : decode b_Model_word 16 = .ok (.iconst 1, 1) := by decide +kernel
theorem d_Model_word_17 : decode b_Model_word 17 = .ok (.isub, 1) := by decide +kernel
theorem d_Model_word_18 : decode b_Model_word 18 = .ok (.istore_n 3, 1) := by decide +kernel
theorem d_Model_word_19 : decode b_Model_word 19 = .ok (.iload_n 3, 1) := by decide +kernel
theorem d_Model_word_20 : decode b_Model_word 20 = .ok (.ifCond .lt 42, 3) := by decide +kernel
theorem d_Model_word_23 : decode b_Model_word 23 = .ok (.aload_n 0, 1) := by decide +kernel
theorem d_Model_word_24 : decode b_Model_word 24 = .ok (.getfield 34, 3) := by decide +kernel
theorem d_Model_word_27 : decode b_Model_word 27 = .ok (.aload_n 0, 1) := by decide +kernel
theorem d_Model_word_28 : decode b_Model_word 28 = .ok (.getfield 63, 3) := by decide +kernel
theorem d_Model_word_31 : decode b_Model_word 31 = .ok (.iload_n 1, 1) := by decide +kernel
theorem d_Model_word_32 : decode b_Model_word 32 = .ok (.iload_n 3, 1) := by decide +kernel
theorem d_Model_word_33 : decode b_Model_word 33 = .ok (.ishr, 1) := by decide +kernel
theorem d_Model_word_34 : decode b_Model_word 34 = .ok (.iconst 1, 1) := by decide +kernel
theorem d_Model_word_35 : decode b_Model_word 35 = .ok (.iand, 1) := by decide +kernel
theorem d_Model_word_36 : decode b_Model_word 36 = .ok (.iconst 1, 1) := by decide +kernel
theorem d_Model_word_37 : decode b_Model_word 37 = .ok (.if_icmp .ne 7, 3) := by decide +kernel
theorem d_Model_word_40 : decode b_Model_word 40 = .ok (.iconst 1, 1) := by decide +kernel
theorem d_Model_word_41 : decode b_Model_word 41 = .ok (.goto 4, 3) := by decide +kernel
theorem d_Model_word_44 : decode b_Model_word 44 = .ok (.iconst 0, 1) := by decide +kernel
theorem d_Model_word_45 : decode b_Model_word 45 = .ok (.bastore, 1) := by decide +kernel
theorem d_Model_word_46 : decode b_Model_word 46 = .ok (.aload_n 0, 1) := by decide +kernel
theorem d_Model_word_47 : decode b_Model_word 47 = .ok (.dup, 1) := by decide +kernel
theorem d_Model_word_48 : decode b_Model_word 48 = .ok (.getfield 63, 3) := by decide +kernel
theorem d_Model_word_51 : decode b_Model_word 51 = .ok (.iconst 1, 1) := by decide +kernel
theorem d_Model_word_52 : decode b_Model_word 52 = .ok (.iadd, 1) := by decide +kernel
theorem d_Model_word_53 : decode b_Model_word 53 = .ok (.putfield 63, 3) := by decide +kernel
theorem d_Model_word_56 : decode b_Model_word 56 = .ok (.iinc 3 (-1), 3) := by decide +kernel
theorem d_Model_word_59 : decode b_Model_word 59 = .ok (.goto (-40), 3) := by decide +kernel
theorem d_Model_word_62 : decode b_Model_word 62 = .ok (.return_, 1) := by decide +kernel
theorem d_Model_run_0 : decode b_Model_run 0 = .ok (.iload_n 1, 1) := by decide +kernel
theorem d_Model_run_1 : decode b_Model_run 1 = .ok (.istore_n 3, 1) := by decide +kernel
theorem d_Model_run_2 : decode b_Model_run 2 = .ok (.iload_n 3, 1) := by decide +kernel
theorem d_Model_run_3 : decode b_Model_run 3 = .ok (.sipush 2560, 3) := by decide +kernel
theorem d_Model_run_6 : decode b_Model_run 6 = .ok (.if_icmp .lt 23, 3) := by decide +kernel
theorem d_Model_run_9 : decode b_Model_run 9 = .ok (.aload_n 0, 1) := by decide +kernel
theorem d_Model_run_10 : decode b_Model_run 10 = .ok (.aload_n 0, 1) := by decide +kernel
theorem d_Model_run_11 : decode b_Model_run 11 = .ok (.getfield 22, 3) := by decide +kernel
theorem d_Model_run_14 : decode b_Model_run 14 = .ok (.bipush 12, 2) := by decide +kernel
theorem d_Model_run_16 : decode b_Model_run 16 = .ok (.iaload, 1) := by decide +kernel
theorem d_Model_run_17 : decode b_Model_run 17 = .ok (.invokevirtual 66, 3) := by decide +kernel
theorem d_Model_run_20 : decode b_Model_run 20 = .ok (.iinc 3 (-2560), 6) := by decide +kernel
theorem d_Model_run_26 : decode b_Model_run 26 = .ok (.goto (-24), 3) := by decide +kernel
theorem d_Model_run_29 : decode b_Model_run 29 = .ok (.iload_n 3, 1) := by decide +kernel
theorem d_Model_run_30 : decode b_Model_run 30 = .ok (.bipush 64, 2) := by decide +kernel
theorem d_Model_run_32 : decode b_Model_run 32 = .ok (.idiv, 1) := by decide +kernel
theorem d_Model_run_33 : decode b_Model_run 33 = .ok (.istore 4, 2) := by decide +kernel
theorem d_Model_run_35 : decode b_Model_run 35 = .ok (.iload 4, 2) := by decide +kernel
theorem d_Model_run_37 : decode b_Model_run 37 = .ok (.ifCond .le 52, 3) := by decide +kernel
theorem d_Model_run_40 : decode b_Model_run 40 = .ok (.aload_n 0, 1) := by decide +kernel
theorem d_Model_run_41 : decode b_Model_run 41 = .ok (.iload 4, 2) := by decide +kernel
theorem d_Model_run_43 : decode b_Model_run 43 = .ok (.bipush 27, 2) := by decide +kernel
theorem d_Model_run_45 : decode b_Model_run 45 = .ok (.if_icmp .le 16, 3) := by decide +kernel
theorem d_Model_run_48 : decode b_Model_run 48 = .ok (.aload_n 0, 1) := by decide +kernel
theorem d_Model_run_49 : decode b_Model_run 49 = .ok (.getfield 22, 3) := by decide +kernel
theorem d_Model_run_52 : decode b_Model_run 52 = .ok (.iload 4, 2) := by decide +kernel
theorem d_Model_run_54 : decode b_Model_run 54 = .ok (.bipush 28, 2) := by decide +kernel
theorem d_Model_run_56 : decode b_Model_run 56 = .ok (.isub, 1) := by decide +kernel
theorem d_Model_run_57 : decode b_Model_run 57 = .ok (.iaload, 1) := by decide +kernel
theorem d_Model_run_58 : decode b_Model_run 58 = .ok (.goto 28, 3) := by decide +kernel
theorem d_Model_run_61 : decode b_Model_run 61 = .ok (.iload_n 2, 1) := by decide +kernel
theorem d_Model_run_62 : decode b_Model_run 62 = .ok (.ifCond .eq 15, 3) := by decide +kernel
theorem d_Model_run_65 : decode b_Model_run 65 = .ok (.aload_n 0, 1) := by decide +kernel
theorem d_Model_run_66 : decode b_Model_run 66 = .ok (.getfield 19, 3) := by decide +kernel
theorem d_Model_run_69 : decode b_Model_run 69 = .ok (.iload 4, 2) := by decide +kernel
theorem d_Model_run_71 : decode b_Model_run 71 = .ok (.iconst 1, 1) := by decide +kernel
theorem d_Model_run_72 : decode b_Model_run 72 = .ok (.isub, 1) := by decide +kernel
theorem d_Model_run_73 : decode b_Model_run 73 = .ok (.iaload, 1) := by decide +kernel
theorem d_Model_run_74 : decode b_Model_run 74 = .ok (.goto 12, 3) := by decide +kernel
theorem d_Model_run_77 : decode b_Model_run 77 = .ok (.aload_n 0, 1) := by decide +kernel
theorem d_Model_run_78 : decode b_Model_run 78 = .ok (.getfield 16, 3) := by decide +kernel
theorem d_Model_run_81 : decode b_Model_run 81 = .ok (.iload 4, 2) := by decide +kernel
theorem d_Model_run_83 : decode b_Model_run 83 = .ok (.iconst 1, 1) := by decide +kernel
theorem d_Model_run_84 : decode b_Model_run 84 = .ok (.isub, 1) := by decide +kernel
theorem d_Model_run_85 : decode b_Model_run 85 = .ok (.iaload, 1) := by decide +kernel
theorem d_Model_run_86 : decode b_Model_run 86 = .ok (.invokevirtual 66, 3) := by decide +kernel
theorem d_Model_run_89 : decode b_Model_run 89 = .ok (.aload_n 0, 1) := by decide +kernel
theorem d_Model_run_90 : decode b_Model_run 90 = .ok (.iload_n 2, 1) := by decide +kernel
theorem d_Model_run_91 : decode b_Model_run 91 = .ok (.ifCond .eq 15, 3) := by decide +kernel
theorem d_Model_run_94 : decode b_Model_run 94 = .ok (.aload_n 0, 1) := by decide +kernel
theorem d_Model_run_95 : decode b_Model_run 95 = .ok (.getfield 13, 3) := by decide +kernel
theorem d_Model_run_98 : decode b_Model_run 98 = .ok (.iload_n 3, 1) := by decide +kernel
theorem d_Model_run_99 : decode b_Model_run 99 = .ok (.bipush 64, 2) := by decide +kernel
theorem d_Model_run_101 : decode b_Model_run 101 = .ok (.irem, 1) := by decide +kernel
theorem d_Model_run_102 : decode b_Model_run 102 = .ok (.iaload, 1) := by decide +kernel
theorem d_Model_run_103 : decode b_Model_run 103 = .ok (.goto 12, 3) := by decide +kernel
theorem d_Model_run_106 : decode b_Model_run 106 = .ok (.aload_n 0, 1) := by decide +kernel
theorem d_Model_run_107 : decode b_Model_run 107 = .ok (.getfield 7, 3) := by decide +kernel
theorem d_Model_run_110 : decode b_Model_run 110 = .ok (.iload_n 3, 1) := by decide +kernel
theorem d_Model_run_111 : decode b_Model_run 111 = .ok (.bipush 64, 2) := by decide +kernel
theorem d_Model_run_113 : decode b_Model_run 113 = .ok (.irem, 1) := by decide +kernel
theorem d_Model_run_114 : decode b_Model_run 114 = .ok (.iaload, 1) := by decide +kernel
theorem d_Model_run_115 : decode b_Model_run 115 = .ok (.invokevirtual 66, 3) := by decide +kernel
theorem d_Model_run_118 : decode b_Model_run 118 = .ok (.return_, 1) := by decide +kernel
theorem d_Model_take_0 : decode b_Model_take 0 = .ok (.iconst 0, 1) := by decide +kernel
theorem d_Model_take_1 : decode b_Model_take 1 = .ok (.istore_n 1, 1) := by decide +kernel
theorem d_Model_take_2 : decode b_Model_take 2 = .ok (.iload_n 1, 1) := by decide +kernel
theorem d_Model_take_3 : decode b_Model_take 3 = .ok (.aload_n 0, 1) := by decide +kernel
theorem d_Model_take_4 : decode b_Model_take 4 = .ok (.getfield 63, 3) := by decide +kernel
theorem d_Model_take_7 : decode b_Model_take 7 = .ok (.if_icmp .ge 26, 3) := by decide +kernel
theorem d_Model_take_10 : decode b_Model_take 10 = .ok (.aload_n 0, 1) := by decide +kernel
theorem d_Model_take_11 : decode b_Model_take 11 = .ok (.getfield 29, 3) := by decide +kernel
theorem d_Model_take_14 : decode b_Model_take 14 = .ok (.aload_n 0, 1) := by decide +kernel
theorem d_Model_take_15 : decode b_Model_take 15 = .ok (.getfield 90, 3) := by decide +kernel
theorem d_Model_take_18 : decode b_Model_take 18 = .ok (.iload_n 1, 1) := by decide +kernel
theorem d_Model_take_19 : decode b_Model_take 19 = .ok (.iadd, 1) := by decide +kernel
theorem d_Model_take_20 : decode b_Model_take 20 = .ok (.aload_n 0, 1) := by decide +kernel
theorem d_Model_take_21 : decode b_Model_take 21 = .ok (.getfield 34, 3) := by decide +kernel
theorem d_Model_take_24 : decode b_Model_take 24 = .ok (.iload_n 1, 1) := by decide +kernel
theorem d_Model_take_25 : decode b_Model_take 25 = .ok (.baload, 1) := by decide +kernel
theorem d_Model_take_26 : decode b_Model_take 26 = .ok (.bastore, 1) := by decide +kernel
theorem d_Model_take_27 : decode b_Model_take 27 = .ok (.iinc 1 1, 3) := by decide +kernel
theorem d_Model_take_30 : decode b_Model_take 30 = .ok (.goto (-28), 3) := by decide +kernel
theorem d_Model_take_33 : decode b_Model_take 33 = .ok (.aload_n 0, 1) := by decide +kernel
theorem d_Model_take_34 : decode b_Model_take 34 = .ok (.dup, 1) := by decide +kernel
theorem d_Model_take_35 : decode b_Model_take 35 = .ok (.getfield 90, 3) := by decide +kernel
theorem d_Model_take_38 : decode b_Model_take 38 = .ok (.aload_n 0, 1) := by decide +kernel
theorem d_Model_take_39 : decode b_Model_take 39 = .ok (.getfield 63, 3) := by decide +kernel
theorem d_Model_take_42 : decode b_Model_take 42 = .ok (.iadd, 1) := by decide +kernel
theorem d_Model_take_43 : decode b_Model_take 43 = .ok (.putfield 90, 3) := by decide +kernel
theorem d_Model_take_46 : decode b_Model_take 46 = .ok (.return_, 1) := by decide +kernel
theorem d_Model_close_0 : decode b_Model_close 0 = .ok (.aload_n 0, 1) := by decide +kernel
theorem d_Model_close_1 : decode b_Model_close 1 = .ok (.iconst 0, 1) := by decide +kernel
theorem d_Model_close_2 : decode b_Model_close 2 = .ok (.putfield 63, 3) := by decide +kernel
theorem d_Model_close_5 : decode b_Model_close 5 = .ok (.aload_n 0, 1) := by decide +kernel
theorem d_Model_close_6 : decode b_Model_close 6 = .ok (.sipush 4097, 3) := by decide +kernel
theorem d_Model_close_9 : decode b_Model_close 9 = .ok (.invokevirtual 66, 3) := by decide +kernel
theorem d_Model_close_12 : decode b_Model_close 12 = .ok (.aload_n 0, 1) := by decide +kernel
theorem d_Model_close_13 : decode b_Model_close 13 = .ok (.sipush 4097, 3) := by decide +kernel
theorem d_Model_close_16 : decode b_Model_close 16 = .ok (.invokevirtual 66, 3) := by decide +kernel
theorem d_Model_close_19 : decode b_Model_close 19 = .ok (.aload_n 0, 1) := by decide +kernel
theorem d_Model_close_20 : decode b_Model_close 20 = .ok (.getfield 90, 3) := by decide +kernel
theorem d_Model_close_23 : decode b_Model_close 23 = .ok (.aload_n 0, 1) := by decide +kernel
theorem d_Model_close_24 : decode b_Model_close 24 = .ok (.getfield 63, 3) := by decide +kernel
theorem d_Model_close_27 : decode b_Model_close 27 = .ok (.iadd, 1) := by decide +kernel
theorem d_Model_close_28 : decode b_Model_close 28 = .ok (.bipush 8, 2) := by decide +kernel
theorem d_Model_close_30 : decode b_Model_close 30 = .ok (.irem, 1) := by decide +kernel
theorem d_Model_close_31 : decode b_Model_close 31 = .ok (.ifCond .eq 26, 3) := by decide +kernel
theorem d_Model_close_34 : decode b_Model_close 34 = .ok (.aload_n 0, 1) := by decide +kernel
theorem d_Model_close_35 : decode b_Model_close 35 = .ok (.getfield 34, 3) := by decide +kernel
theorem d_Model_close_38 : decode b_Model_close 38 = .ok (.aload_n 0, 1) := by decide +kernel
theorem d_Model_close_39 : decode b_Model_close 39 = .ok (.getfield 63, 3) := by decide +kernel
theorem d_Model_close_42 : decode b_Model_close 42 = .ok (.iconst 0, 1) := by decide +kernel
theorem d_Model_close_43 : decode b_Model_close 43 = .ok (.bastore, 1) := by decide +kernel
theorem d_Model_close_44 : decode b_Model_close 44 = .ok (.aload_n 0, 1) := by decide +kernel
theorem d_Model_close_45 : decode b_Model_close 45 = .ok (.dup, 1) := by decide +kernel
theorem d_Model_close_46 : decode b_Model_close 46 = .ok (.getfield 63, 3) := by decide +kernel
theorem d_Model_close_49 : decode b_Model_close 49 = .ok (.iconst 1, 1) := by decide +kernel
theorem d_Model_close_50 : decode b_Model_close 50 = .ok (.iadd, 1) := by decide +kernel
theorem d_Model_close_51 : decode b_Model_close 51 = .ok (.putfield 63, 3) := by decide +kernel
theorem d_Model_close_54 : decode b_Model_close 54 = .ok (.goto (-35), 3) := by decide +kernel
theorem d_Model_close_57 : decode b_Model_close 57 = .ok (.aload_n 0, 1) := by decide +kernel
theorem d_Model_close_58 : decode b_Model_close 58 = .ok (.aload_n 0, 1) := by decide +kernel
theorem d_Model_close_59 : decode b_Model_close 59 = .ok (.getfield 96, 3) := by decide +kernel
theorem d_Model_close_62 : decode b_Model_close 62 = .ok (.ifCond .ne 17, 3) := by decide +kernel
theorem d_Model_close_65 : decode b_Model_close 65 = .ok (.aload_n 0, 1) := by decide +kernel
theorem d_Model_close_66 : decode b_Model_close 66 = .ok (.getfield 90, 3) := by decide +kernel
theorem d_Model_close_69 : decode b_Model_close 69 = .ok (.aload_n 0, 1) := by decide +kernel
theorem d_Model_close_70 : decode b_Model_close 70 = .ok (.getfield 63, 3) := by decide +kernel
theorem d_Model_close_73 : decode b_Model_close 73 = .ok (.iadd, 1) := by decide +kernel
theorem d_Model_close_74 : decode b_Model_close 74 = .ok (.ldc 28, 2) := by decide +kernel
theorem d_Model_close_76 : decode b_Model_close 76 = .ok (.if_icmp .le 7, 3) := by decide +kernel
theorem d_Model_close_79 : decode b_Model_close 79 = .ok (.iconst 1, 1) := by decide +kernel
theorem d_Model_close_80 : decode b_Model_close 80 = .ok (.goto 4, 3) := by decide +kernel
theorem d_Model_close_83 : decode b_Model_close 83 = .ok (.iconst 0, 1) := by decide +kernel
theorem d_Model_close_84 : decode b_Model_close 84 = .ok (.putfield 60, 3) := by decide +kernel
theorem d_Model_close_87 : decode b_Model_close 87 = .ok (.aload_n 0, 1) := by decide +kernel
theorem d_Model_close_88 : decode b_Model_close 88 = .ok (.getfield 60, 3) := by decide +kernel
theorem d_Model_close_91 : decode b_Model_close 91 = .ok (.ifCond .le 5, 3) := by decide +kernel
theorem d_Model_close_94 : decode b_Model_close 94 = .ok (.iconst 0, 1) := by decide +kernel
theorem d_Model_close_95 : decode b_Model_close 95 = .ok (.ireturn, 1) := by decide +kernel
theorem d_Model_close_96 : decode b_Model_close 96 = .ok (.aload_n 0, 1) := by decide +kernel
theorem d_Model_close_97 : decode b_Model_close 97 = .ok (.invokevirtual 100, 3) := by decide +kernel
theorem d_Model_close_100 : decode b_Model_close 100 = .ok (.aload_n 0, 1) := by decide +kernel
theorem d_Model_close_101 : decode b_Model_close 101 = .ok (.iconst 1, 1) := by decide +kernel
theorem d_Model_close_102 : decode b_Model_close 102 = .ok (.putfield 96, 3) := by decide +kernel
theorem d_Model_close_105 : decode b_Model_close 105 = .ok (.aload_n 0, 1) := by decide +kernel
theorem d_Model_close_106 : decode b_Model_close 106 = .ok (.invokevirtual 115, 3) := by decide +kernel
theorem d_Model_close_109 : decode b_Model_close 109 = .ok (.ireturn, 1) := by decide +kernel
theorem d_Model_bytesOut_0 : decode b_Model_bytesOut 0 = .ok (.aload_n 0, 1) := by decide +kernel
theorem d_Model_bytesOut_1 : decode b_Model_bytesOut 1 = .ok (.getfield 90, 3) := by decide +kernel
theorem d_Model_bytesOut_4 : decode b_Model_bytesOut 4 = .ok (.bipush 7, 2) := by decide +kernel
theorem d_Model_bytesOut_6 : decode b_Model_bytesOut 6 = .ok (.iadd, 1) := by decide +kernel
theorem d_Model_bytesOut_7 : decode b_Model_bytesOut 7 = .ok (.bipush 8, 2) := by decide +kernel
theorem d_Model_bytesOut_9 : decode b_Model_bytesOut 9 = .ok (.idiv, 1) := by decide +kernel
theorem d_Model_bytesOut_10 : decode b_Model_bytesOut 10 = .ok (.ireturn, 1) := by decide +kernel
theorem d_Model_clear_0 : decode b_Model_clear 0 = .ok (.aload_n 0, 1) := by decide +kernel
theorem d_Model_clear_1 : decode b_Model_clear 1 = .ok (.iconst 0, 1) := by decide +kernel
theorem d_Model_clear_2 : decode b_Model_clear 2 = .ok (.putfield 60, 3) := by decide +kernel
theorem d_Model_clear_5 : decode b_Model_clear 5 = .ok (.aload_n 0, 1) := by decide +kernel
theorem d_Model_clear_6 : decode b_Model_clear 6 = .ok (.iconst 0, 1) := by decide +kernel
theorem d_Model_clear_7 : decode b_Model_clear 7 = .ok (.putfield 90, 3) := by decide +kernel
theorem d_Model_clear_10 : decode b_Model_clear 10 = .ok (.aload_n 0, 1) := by decide +kernel
theorem d_Model_clear_11 : decode b_Model_clear 11 = .ok (.iconst 0, 1) := by decide +kernel
theorem d_Model_clear_12 : decode b_Model_clear 12 = .ok (.putfield 96, 3) := by decide +kernel
theorem d_Model_clear_15 : decode b_Model_clear 15 = .ok (.aload_n 0, 1) := by decide +kernel
theorem d_Model_clear_16 : decode b_Model_clear 16 = .ok (.iconst 0, 1) := by decide +kernel
theorem d_Model_clear_17 : decode b_Model_clear 17 = .ok (.putfield 112, 3) := by decide +kernel
theorem d_Model_clear_20 : decode b_Model_clear 20 = .ok (.aload_n 0, 1) := by decide +kernel
theorem d_Model_clear_21 : decode b_Model_clear 21 = .ok (.iconst 0, 1) := by decide +kernel
theorem d_Model_clear_22 : decode b_Model_clear 22 = .ok (.putfield 103, 3) := by decide +kernel
theorem d_Model_clear_25 : decode b_Model_clear 25 = .ok (.aload_n 0, 1) := by decide +kernel
theorem d_Model_clear_26 : decode b_Model_clear 26 = .ok (.iconst 0, 1) := by decide +kernel
theorem d_Model_clear_27 : decode b_Model_clear 27 = .ok (.putfield 106, 3) := by decide +kernel
theorem d_Model_clear_30 : decode b_Model_clear 30 = .ok (.aload_n 0, 1) := by decide +kernel
theorem d_Model_clear_31 : decode b_Model_clear 31 = .ok (.iconst 0, 1) := by decide +kernel
theorem d_Model_clear_32 : decode b_Model_clear 32 = .ok (.putfield 109, 3) := by decide +kernel
theorem d_Model_clear_35 : decode b_Model_clear 35 = .ok (.iconst 0, 1) := by decide +kernel
theorem d_Model_clear_36 : decode b_Model_clear 36 = .ok (.istore_n 1, 1) := by decide +kernel
theorem d_Model_clear_37 : decode b_Model_clear 37 = .ok (.iload_n 1, 1) := by decide +kernel
theorem d_Model_clear_38 : decode b_Model_clear 38 = .ok (.aload_n 0, 1) := by decide +kernel
theorem d_Model_clear_39 : decode b_Model_clear 39 = .ok (.getfield 41, 3) := by decide +kernel
theorem d_Model_clear_42 : decode b_Model_clear 42 = .ok (.if_icmp .ge 23, 3) := by decide +kernel
theorem d_Model_clear_45 : decode b_Model_clear 45 = .ok (.aload_n 0, 1) := by decide +kernel
theorem d_Model_clear_46 : decode b_Model_clear 46 = .ok (.getfield 48, 3) := by decide +kernel
theorem d_Model_clear_49 : decode b_Model_clear 49 = .ok (.iload_n 1, 1) := by decide +kernel
theorem d_Model_clear_50 : decode b_Model_clear 50 = .ok (.iconst 0, 1) := by decide +kernel
theorem d_Model_clear_51 : decode b_Model_clear 51 = .ok (.bastore, 1) := by decide +kernel
theorem d_Model_clear_52 : decode b_Model_clear 52 = .ok (.aload_n 0, 1) := by decide +kernel
theorem d_Model_clear_53 : decode b_Model_clear 53 = .ok (.getfield 45, 3) := by decide +kernel
theorem d_Model_clear_56 : decode b_Model_clear 56 = .ok (.iload_n 1, 1) := by decide +kernel
theorem d_Model_clear_57 : decode b_Model_clear 57 = .ok (.iconst 0, 1) := by decide +kernel
theorem d_Model_clear_58 : decode b_Model_clear 58 = .ok (.bastore, 1) := by decide +kernel
theorem d_Model_clear_59 : decode b_Model_clear 59 = .ok (.iinc 1 1, 3) := by decide +kernel
theorem d_Model_clear_62 : decode b_Model_clear 62 = .ok (.goto (-25), 3) := by decide +kernel
theorem d_Model_clear_65 : decode b_Model_clear 65 = .ok (.return_, 1) := by decide +kernel
theorem d_Model_out_0 : decode b_Model_out 0 = .ok (.aload_n 0, 1) := by decide +kernel
theorem d_Model_out_1 : decode b_Model_out 1 = .ok (.iconst 0, 1) := by decide +kernel
theorem d_Model_out_2 : decode b_Model_out 2 = .ok (.putfield 60, 3) := by decide +kernel
theorem d_Model_out_5 : decode b_Model_out 5 = .ok (.lconst 0, 1) := by decide +kernel
theorem d_Model_out_6 : decode b_Model_out 6 = .ok (.lstore_n 2, 1) := by decide +kernel
theorem d_Model_out_7 : decode b_Model_out 7 = .ok (.iconst 0, 1) := by decide +kernel
theorem d_Model_out_8 : decode b_Model_out 8 = .ok (.istore 4, 2) := by decide +kernel
theorem d_Model_out_10 : decode b_Model_out 10 = .ok (.iload 4, 2) := by decide +kernel
theorem d_Model_out_12 : decode b_Model_out 12 = .ok (.bipush 8, 2) := by decide +kernel
theorem d_Model_out_14 : decode b_Model_out 14 = .ok (.if_icmp .ge 30, 3) := by decide +kernel
theorem d_Model_out_17 : decode b_Model_out 17 = .ok (.lload_n 2, 1) := by decide +kernel
theorem d_Model_out_18 : decode b_Model_out 18 = .ok (.bipush 8, 2) := by decide +kernel
theorem d_Model_out_20 : decode b_Model_out 20 = .ok (.lshl, 1) := by decide +kernel
theorem d_Model_out_21 : decode b_Model_out 21 = .ok (.aload_n 0, 1) := by decide +kernel
theorem d_Model_out_22 : decode b_Model_out 22 = .ok (.ldc2_w 119, 3) := by decide +kernel
theorem d_Model_out_25 : decode b_Model_out 25 = .ok (.iload_n 1, 1) := by decide +kernel
theorem d_Model_out_26 : decode b_Model_out 26 = .ok (.i2l, 1) := by decide +kernel
theorem d_Model_out_27 : decode b_Model_out 27 = .ok (.lmul, 1) := by decide +kernel
theorem d_Model_out_28 : decode b_Model_out 28 = .ok (.iload 4, 2) := by decide +kernel
theorem d_Model_out_30 : decode b_Model_out 30 = .ok (.i2l, 1) := by decide +kernel
theorem d_Model_out_31 : decode b_Model_out 31 = .ok (.ladd, 1) := by decide +kernel
theorem d_Model_out_32 : decode b_Model_out 32 = .ok (.invokevirtual 121, 3) := by decide +kernel
theorem d_Model_out_35 : decode b_Model_out 35 = .ok (.i2l, 1) := by decide +kernel
theorem d_Model_out_36 : decode b_Model_out 36 = .ok (.lor, 1) := by decide +kernel
theorem d_Model_out_37 : decode b_Model_out 37 = .ok (.lstore_n 2, 1) := by decide +kernel
theorem d_Model_out_38 : decode b_Model_out 38 = .ok (.iinc 4 1, 3) := by decide +kernel
theorem d_Model_out_41 : decode b_Model_out 41 = .ok (.goto (-31), 3) := by decide +kernel
theorem d_Model_out_44 : decode b_Model_out 44 = .ok (.lload_n 2, 1) := by decide +kernel
theorem d_Model_out_45 : decode b_Model_out 45 = .ok (.lreturn, 1) := by decide +kernel
theorem d_Model_byteOut_0 : decode b_Model_byteOut 0 = .ok (.iconst 0, 1) := by decide +kernel
theorem d_Model_byteOut_1 : decode b_Model_byteOut 1 = .ok (.istore_n 3, 1) := by decide +kernel
theorem d_Model_byteOut_2 : decode b_Model_byteOut 2 = .ok (.iconst 0, 1) := by decide +kernel
theorem d_Model_byteOut_3 : decode b_Model_byteOut 3 = .ok (.istore 4, 2) := by decide +kernel
theorem d_Model_byteOut_5 : decode b_Model_byteOut 5 = .ok (.iload 4, 2) := by decide +kernel
theorem d_Model_byteOut_7 : decode b_Model_byteOut 7 = .ok (.bipush 8, 2) := by decide +kernel
theorem d_Model_byteOut_9 : decode b_Model_byteOut 9 = .ok (.if_icmp .ge 81, 3) := by decide +kernel
theorem d_Model_byteOut_12 : decode b_Model_byteOut 12 = .ok (.ldc2_w 119, 3) := by decide +kernel
theorem d_Model_byteOut_15 : decode b_Model_byteOut 15 = .ok (.lload_n 1, 1) := by decide +kernel
theorem d_Model_byteOut_16 : decode b_Model_byteOut 16 = .ok (.lmul, 1) := by decide +kernel
theorem d_Model_byteOut_17 : decode b_Model_byteOut 17 = .ok (.iload 4, 2) := by decide +kernel
theorem d_Model_byteOut_19 : decode b_Model_byteOut 19 = .ok (.i2l, 1) := by decide +kernel
theorem d_Model_byteOut_20 : decode b_Model_byteOut 20 = .ok (.ladd, 1) := by decide +kernel
theorem d_Model_byteOut_21 : decode b_Model_byteOut 21 = .ok (.lstore 5, 2) := by decide +kernel
theorem d_Model_byteOut_23 : decode b_Model_byteOut 23 = .ok (.iconst 2, 1) := by decide +kernel
theorem d_Model_byteOut_24 : decode b_Model_byteOut 24 = .ok (.iload_n 3, 1) := by decide +kernel
theorem d_Model_byteOut_25 : decode b_Model_byteOut 25 = .ok (.imul, 1) := by decide +kernel
theorem d_Model_byteOut_26 : decode b_Model_byteOut 26 = .ok (.lload 5, 2) := by decide +kernel
theorem d_Model_byteOut_28 : decode b_Model_byteOut 28 = .ok (.lconst 0, 1) := by decide +kernel
theorem d_Model_byteOut_29 : decode b_Model_byteOut 29 = .ok (.lcmp, 1) := by decide +kernel
theorem d_Model_byteOut_30 : decode b_Model_byteOut 30 = .ok (.ifCond .lt 51, 3) := by decide +kernel
theorem d_Model_byteOut_33 : decode b_Model_byteOut 33 = .ok (.lload 5, 2) := by decide +kernel
theorem d_Model_byteOut_35 : decode b_Model_byteOut 35 = .ok (.aload_n 0, 1) := by decide +kernel
theorem d_Model_byteOut_36 : decode b_Model_byteOut 36 = .ok (.getfield 90, 3) := by decide +kernel
theorem d_Model_byteOut_39 : decode b_Model_byteOut 39 = .ok (.i2l, 1) := by decide +kernel
theorem d_Model_byteOut_40 : decode b_Model_byteOut 40 = .ok (.lcmp, 1) := by decide +kernel
theorem d_Model_byteOut_41 : decode b_Model_byteOut 41 = .ok (.ifCond .ge 40, 3) := by decide +kernel
theorem d_Model_byteOut_44 : decode b_Model_byteOut 44 = .ok (.aload_n 0, 1) := by decide +kernel
theorem d_Model_byteOut_45 : decode b_Model_byteOut 45 = .ok (.getfield 29, 3) := by decide +kernel
theorem d_Model_byteOut_48 : decode b_Model_byteOut 48 = .ok (.lload 5, 2) := by decide +kernel
theorem d_Model_byteOut_50 : decode b_Model_byteOut 50 = .ok (.lconst 0, 1) := by decide +kernel
theorem d_Model_byteOut_51 : decode b_Model_byteOut 51 = .ok (.lcmp, 1) := by decide +kernel
theorem d_Model_byteOut_52 : decode b_Model_byteOut 52 = .ok (.ifCond .lt 20, 3) := by decide +kernel
theorem d_Model_byteOut_55 : decode b_Model_byteOut 55 = .ok (.lload 5, 2) := by decide +kernel
theorem d_Model_byteOut_57 : decode b_Model_byteOut 57 = .ok (.aload_n 0, 1) := by decide +kernel
theorem d_Model_byteOut_58 : decode b_Model_byteOut 58 = .ok (.getfield 90, 3) := by decide +kernel
theorem d_Model_byteOut_61 : decode b_Model_byteOut 61 = .ok (.i2l, 1) := by decide +kernel
theorem d_Model_byteOut_62 : decode b_Model_byteOut 62 = .ok (.lcmp, 1) := by decide +kernel
theorem d_Model_byteOut_63 : decode b_Model_byteOut 63 = .ok (.ifCond .ge 9, 3) := by decide +kernel
theorem d_Model_byteOut_66 : decode b_Model_byteOut 66 = .ok (.lload 5, 2) := by decide +kernel
theorem d_Model_byteOut_68 : decode b_Model_byteOut 68 = .ok (.l2i, 1) := by decide +kernel
theorem d_Model_byteOut_69 : decode b_Model_byteOut 69 = .ok (.goto 4, 3) := by decide +kernel
theorem d_Model_byteOut_72 : decode b_Model_byteOut 72 = .ok (.iconst 0, 1) := by decide +kernel
theorem d_Model_byteOut_73 : decode b_Model_byteOut 73 = .ok (.baload, 1) := by decide +kernel
theorem d_Model_byteOut_74 : decode b_Model_byteOut 74 = .ok (.ifCond .eq 7, 3) := by decide +kernel
theorem d_Model_byteOut_77 : decode b_Model_byteOut 77 = .ok (.iconst 1, 1) := by decide +kernel
theorem d_Model_byteOut_78 : decode b_Model_byteOut 78 = .ok (.goto 4, 3) := by decide +kernel
theorem d_Model_byteOut_81 : decode b_Model_byteOut 81 = .ok (.iconst 0, 1) := by decide +kernel
theorem d_Model_byteOut_82 : decode b_Model_byteOut 82 = .ok (.iadd, 1) := by decide +kernel
theorem d_Model_byteOut_83 : decode b_Model_byteOut 83 = .ok (.istore_n 3, 1) := by decide +kernel
theorem d_Model_byteOut_84 : decode b_Model_byteOut 84 = .ok (.iinc 4 1, 3) := by decide +kernel
theorem d_Model_byteOut_87 : decode b_Model_byteOut 87 = .ok (.goto (-82), 3) := by decide +kernel
theorem d_Model_byteOut_90 : decode b_Model_byteOut 90 = .ok (.iload_n 3, 1) := by decide +kernel
theorem d_Model_byteOut_91 : decode b_Model_byteOut 91 = .ok (.ireturn, 1) := by decide +kernel
theorem d_Model_give_0 : decode b_Model_give 0 = .ok (.aload_n 0, 1) := by decide +kernel
theorem d_Model_give_1 : decode b_Model_give 1 = .ok (.iconst 0, 1) := by decide +kernel
theorem d_Model_give_2 : decode b_Model_give 2 = .ok (.putfield 60, 3) := by decide +kernel
theorem d_Model_give_5 : decode b_Model_give 5 = .ok (.iload_n 3, 1) := by decide +kernel
theorem d_Model_give_6 : decode b_Model_give 6 = .ok (.iconst 1, 1) := by decide +kernel
theorem d_Model_give_7 : decode b_Model_give 7 = .ok (.if_icmp .lt 20, 3) := by decide +kernel
theorem d_Model_give_10 : decode b_Model_give 10 = .ok (.iload_n 3, 1) := by decide +kernel
theorem d_Model_give_11 : decode b_Model_give 11 = .ok (.bipush 8, 2) := by decide +kernel
theorem d_Model_give_13 : decode b_Model_give 13 = .ok (.if_icmp .gt 14, 3) := by decide +kernel
theorem d_Model_give_16 : decode b_Model_give 16 = .ok (.aload_n 0, 1) := by decide +kernel
theorem d_Model_give_17 : decode b_Model_give 17 = .ok (.getfield 125, 3) := by decide +kernel
theorem d_Model_give_20 : decode b_Model_give 20 = .ok (.iload_n 3, 1) := by decide +kernel
theorem d_Model_give_21 : decode b_Model_give 21 = .ok (.iadd, 1) := by decide +kernel
theorem d_Model_give_22 : decode b_Model_give 22 = .ok (.ldc 37, 2) := by decide +kernel
theorem d_Model_give_24 : decode b_Model_give 24 = .ok (.if_icmp .le 5, 3) := by decide +kernel
theorem d_Model_give_27 : decode b_Model_give 27 = .ok (.iconst 0, 1) := by decide +kernel
theorem d_Model_give_28 : decode b_Model_give 28 = .ok (.ireturn, 1) := by decide +kernel
theorem d_Model_give_29 : decode b_Model_give 29 = .ok (.iload_n 3, 1) := by decide +kernel
theorem d_Model_give_30 : decode b_Model_give 30 = .ok (.iconst 1, 1) := by decide +kernel
theorem d_Model_give_31 : decode b_Model_give 31 = .ok (.isub, 1) := by decide +kernel
theorem d_Model_give_32 : decode b_Model_give 32 = .ok (.istore 4, 2) := by decide +kernel
theorem d_Model_give_34 : decode b_Model_give 34 = .ok (.iload 4, 2) := by decide +kernel
theorem d_Model_give_36 : decode b_Model_give 36 = .ok (.ifCond .lt 40, 3) := by decide +kernel
theorem d_Model_give_39 : decode b_Model_give 39 = .ok (.aload_n 0, 1) := by decide +kernel
theorem d_Model_give_40 : decode b_Model_give 40 = .ok (.getfield 38, 3) := by decide +kernel
theorem d_Model_give_43 : decode b_Model_give 43 = .ok (.aload_n 0, 1) := by decide +kernel
theorem d_Model_give_44 : decode b_Model_give 44 = .ok (.getfield 125, 3) := by decide +kernel
theorem d_Model_give_47 : decode b_Model_give 47 = .ok (.lload_n 1, 1) := by decide +kernel
theorem d_Model_give_48 : decode b_Model_give 48 = .ok (.bipush 8, 2) := by decide +kernel
theorem d_Model_give_50 : decode b_Model_give 50 = .ok (.iload 4, 2) := by decide +kernel
theorem d_Model_give_52 : decode b_Model_give 52 = .ok (.imul, 1) := by decide +kernel
theorem d_Model_give_53 : decode b_Model_give 53 = .ok (.lshr, 1) := by decide +kernel
theorem d_Model_give_54 : decode b_Model_give 54 = .ok (.ldc2_w 128, 3) := by decide +kernel
theorem d_Model_give_57 : decode b_Model_give 57 = .ok (.land, 1) := by decide +kernel
theorem d_Model_give_58 : decode b_Model_give 58 = .ok (.l2i, 1) := by decide +kernel
theorem d_Model_give_59 : decode b_Model_give 59 = .ok (.iastore, 1) := by decide +kernel
theorem d_Model_give_60 : decode b_Model_give 60 = .ok (.aload_n 0, 1) := by decide +kernel
theorem d_Model_give_61 : decode b_Model_give 61 = .ok (.dup, 1) := by decide +kernel
theorem d_Model_give_62 : decode b_Model_give 62 = .ok (.getfield 125, 3) := by decide +kernel
theorem d_Model_give_65 : decode b_Model_give 65 = .ok (.iconst 1, 1) := by decide +kernel
theorem d_Model_give_66 : decode b_Model_give 66 = .ok (.iadd, 1) := by decide +kernel
theorem d_Model_give_67 : decode b_Model_give 67 = .ok (.putfield 125, 3) := by decide +kernel
theorem d_Model_give_70 : decode b_Model_give 70 = .ok (.iinc 4 (-1), 3) := by decide +kernel
theorem d_Model_give_73 : decode b_Model_give 73 = .ok (.goto (-39), 3) := by decide +kernel
theorem d_Model_give_76 : decode b_Model_give 76 = .ok (.iconst 1, 1) := by decide +kernel
theorem d_Model_give_77 : decode b_Model_give 77 = .ok (.ireturn, 1) := by decide +kernel
theorem d_Model_turn_0 : decode b_Model_turn 0 = .ok (.aload_n 0, 1) := by decide +kernel
theorem d_Model_turn_1 : decode b_Model_turn 1 = .ok (.iload_n 1, 1) := by decide +kernel
theorem d_Model_turn_2 : decode b_Model_turn 2 = .ok (.ifCond .lt 11, 3) := by decide +kernel
theorem d_Model_turn_5 : decode b_Model_turn 5 = .ok (.iload_n 1, 1) := by decide +kernel
theorem d_Model_turn_6 : decode b_Model_turn 6 = .ok (.aload_n 0, 1) := by decide +kernel
theorem d_Model_turn_7 : decode b_Model_turn 7 = .ok (.invokevirtual 115, 3) := by decide +kernel
theorem d_Model_turn_10 : decode b_Model_turn 10 = .ok (.if_icmp .le 7, 3) := by decide +kernel
theorem d_Model_turn_13 : decode b_Model_turn 13 = .ok (.iconst 1, 1) := by decide +kernel
theorem d_Model_turn_14 : decode b_Model_turn 14 = .ok (.goto 4, 3) := by decide +kernel
theorem d_Model_turn_17 : decode b_Model_turn 17 = .ok (.iconst 0, 1) := by decide +kernel
theorem d_Model_turn_18 : decode b_Model_turn 18 = .ok (.putfield 60, 3) := by decide +kernel
theorem d_Model_turn_21 : decode b_Model_turn 21 = .ok (.aload_n 0, 1) := by decide +kernel
theorem d_Model_turn_22 : decode b_Model_turn 22 = .ok (.getfield 60, 3) := by decide +kernel
theorem d_Model_turn_25 : decode b_Model_turn 25 = .ok (.ifCond .le 5, 3) := by decide +kernel
theorem d_Model_turn_28 : decode b_Model_turn 28 = .ok (.iconst 0, 1) := by decide +kernel
theorem d_Model_turn_29 : decode b_Model_turn 29 = .ok (.ireturn, 1) := by decide +kernel
theorem d_Model_turn_30 : decode b_Model_turn 30 = .ok (.aload_n 0, 1) := by decide +kernel
theorem d_Model_turn_31 : decode b_Model_turn 31 = .ok (.iconst 0, 1) := by decide +kernel
theorem d_Model_turn_32 : decode b_Model_turn 32 = .ok (.putfield 125, 3) := by decide +kernel
theorem d_Model_turn_35 : decode b_Model_turn 35 = .ok (.iload_n 1, 1) := by decide +kernel
theorem d_Model_turn_36 : decode b_Model_turn 36 = .ok (.istore_n 2, 1) := by decide +kernel
theorem d_Model_turn_37 : decode b_Model_turn 37 = .ok (.iload_n 2, 1) := by decide +kernel
theorem d_Model_turn_38 : decode b_Model_turn 38 = .ok (.aload_n 0, 1) := by decide +kernel
theorem d_Model_turn_39 : decode b_Model_turn 39 = .ok (.invokevirtual 115, 3) := by decide +kernel
theorem d_Model_turn_42 : decode b_Model_turn 42 = .ok (.if_icmp .ge 34, 3) := by decide +kernel
theorem d_Model_turn_45 : decode b_Model_turn 45 = .ok (.aload_n 0, 1) := by decide +kernel
theorem d_Model_turn_46 : decode b_Model_turn 46 = .ok (.getfield 38, 3) := by decide +kernel
theorem d_Model_turn_49 : decode b_Model_turn 49 = .ok (.aload_n 0, 1) := by decide +kernel
theorem d_Model_turn_50 : decode b_Model_turn 50 = .ok (.getfield 125, 3) := by decide +kernel
theorem d_Model_turn_53 : decode b_Model_turn 53 = .ok (.aload_n 0, 1) := by decide +kernel
theorem d_Model_turn_54 : decode b_Model_turn 54 = .ok (.iload_n 2, 1) := by decide +kernel
theorem d_Model_turn_55 : decode b_Model_turn 55 = .ok (.i2l, 1) := by decide +kernel
theorem d_Model_turn_56 : decode b_Model_turn 56 = .ok (.invokevirtual 121, 3) := by decide +kernel
theorem d_Model_turn_59 : decode b_Model_turn 59 = .ok (.iastore, 1) := by decide +kernel
theorem d_Model_turn_60 : decode b_Model_turn 60 = .ok (.aload_n 0, 1) := by decide +kernel
theorem d_Model_turn_61 : decode b_Model_turn 61 = .ok (.dup, 1) := by decide +kernel
theorem d_Model_turn_62 : decode b_Model_turn 62 = .ok (.getfield 125, 3) := by decide +kernel
theorem d_Model_turn_65 : decode b_Model_turn 65 = .ok (.iconst 1, 1) := by decide +kernel
theorem d_Model_turn_66 : decode b_Model_turn 66 = .ok (.iadd, 1) := by decide +kernel
theorem d_Model_turn_67 : decode b_Model_turn 67 = .ok (.putfield 125, 3) := by decide +kernel
theorem d_Model_turn_70 : decode b_Model_turn 70 = .ok (.iinc 2 1, 3) := by decide +kernel
theorem d_Model_turn_73 : decode b_Model_turn 73 = .ok (.goto (-36), 3) := by decide +kernel
theorem d_Model_turn_76 : decode b_Model_turn 76 = .ok (.aload_n 0, 1) := by decide +kernel
theorem d_Model_turn_77 : decode b_Model_turn 77 = .ok (.invokevirtual 130, 3) := by decide +kernel
theorem d_Model_turn_80 : decode b_Model_turn 80 = .ok (.aload_n 0, 1) := by decide +kernel
theorem d_Model_turn_81 : decode b_Model_turn 81 = .ok (.getfield 125, 3) := by decide +kernel
theorem d_Model_turn_84 : decode b_Model_turn 84 = .ok (.ireturn, 1) := by decide +kernel
theorem d_Model_begin_0 : decode b_Model_begin 0 = .ok (.aload_n 0, 1) := by decide +kernel
theorem d_Model_begin_1 : decode b_Model_begin 1 = .ok (.iconst 0, 1) := by decide +kernel
theorem d_Model_begin_2 : decode b_Model_begin 2 = .ok (.putfield 133, 3) := by decide +kernel
theorem d_Model_begin_5 : decode b_Model_begin 5 = .ok (.aload_n 0, 1) := by decide +kernel
theorem d_Model_begin_6 : decode b_Model_begin 6 = .ok (.iconst 1, 1) := by decide +kernel
theorem d_Model_begin_7 : decode b_Model_begin 7 = .ok (.putfield 57, 3) := by decide +kernel
theorem d_Model_begin_10 : decode b_Model_begin 10 = .ok (.aload_n 0, 1) := by decide +kernel
theorem d_Model_begin_11 : decode b_Model_begin 11 = .ok (.iconst 0, 1) := by decide +kernel
theorem d_Model_begin_12 : decode b_Model_begin 12 = .ok (.putfield 136, 3) := by decide +kernel
theorem d_Model_begin_15 : decode b_Model_begin 15 = .ok (.iconst 0, 1) := by decide +kernel
theorem d_Model_begin_16 : decode b_Model_begin 16 = .ok (.istore_n 1, 1) := by decide +kernel
theorem d_Model_begin_17 : decode b_Model_begin 17 = .ok (.iload_n 1, 1) := by decide +kernel
theorem d_Model_begin_18 : decode b_Model_begin 18 = .ok (.aload_n 0, 1) := by decide +kernel
theorem d_Model_begin_19 : decode b_Model_begin 19 = .ok (.getfield 41, 3) := by decide +kernel
theorem d_Model_begin_22 : decode b_Model_begin 22 = .ok (.if_icmp .ge 16, 3) := by decide +kernel
theorem d_Model_begin_25 : decode b_Model_begin 25 = .ok (.aload_n 0, 1) := by decide +kernel
theorem d_Model_begin_26 : decode b_Model_begin 26 = .ok (.getfield 54, 3) := by decide +kernel
theorem d_Model_begin_29 : decode b_Model_begin 29 = .ok (.iload_n 1, 1) := by decide +kernel
theorem d_Model_begin_30 : decode b_Model_begin 30 = .ok (.iconst 0, 1) := by decide +kernel
theorem d_Model_begin_31 : decode b_Model_begin 31 = .ok (.bastore, 1) := by decide +kernel
theorem d_Model_begin_32 : decode b_Model_begin 32 = .ok (.iinc 1 1, 3) := by decide +kernel
theorem d_Model_begin_35 : decode b_Model_begin 35 = .ok (.goto (-18), 3) := by decide +kernel
theorem d_Model_begin_38 : decode b_Model_begin 38 = .ok (.return_, 1) := by decide +kernel
theorem d_Model_wipe_0 : decode b_Model_wipe 0 = .ok (.aload_n 0, 1) := by decide +kernel
theorem d_Model_wipe_1 : decode b_Model_wipe 1 = .ok (.iconst 0, 1) := by decide +kernel
theorem d_Model_wipe_2 : decode b_Model_wipe 2 = .ok (.putfield 60, 3) := by decide +kernel
theorem d_Model_wipe_5 : decode b_Model_wipe 5 = .ok (.aload_n 0, 1) := by decide +kernel
theorem d_Model_wipe_6 : decode b_Model_wipe 6 = .ok (.iconst 0, 1) := by decide +kernel
theorem d_Model_wipe_7 : decode b_Model_wipe 7 = .ok (.putfield 125, 3) := by decide +kernel
theorem d_Model_wipe_10 : decode b_Model_wipe 10 = .ok (.aload_n 0, 1) := by decide +kernel
theorem d_Model_wipe_11 : decode b_Model_wipe 11 = .ok (.invokevirtual 130, 3) := by decide +kernel
theorem d_Model_wipe_14 : decode b_Model_wipe 14 = .ok (.return_, 1) := by decide +kernel
theorem d_Model_rewind_0 : decode b_Model_rewind 0 = .ok (.aload_n 0, 1) := by decide +kernel
theorem d_Model_rewind_1 : decode b_Model_rewind 1 = .ok (.iconst 0, 1) := by decide +kernel
theorem d_Model_rewind_2 : decode b_Model_rewind 2 = .ok (.putfield 60, 3) := by decide +kernel
theorem d_Model_rewind_5 : decode b_Model_rewind 5 = .ok (.aload_n 0, 1) := by decide +kernel
theorem d_Model_rewind_6 : decode b_Model_rewind 6 = .ok (.invokevirtual 130, 3) := by decide +kernel
theorem d_Model_rewind_9 : decode b_Model_rewind 9 = .ok (.return_, 1) := by decide +kernel
theorem d_Model_read_0 : decode b_Model_read 0 = .ok (.aload_n 0, 1) := by decide +kernel
theorem d_Model_read_1 : decode b_Model_read 1 = .ok (.iconst 0, 1) := by decide +kernel
theorem d_Model_read_2 : decode b_Model_read 2 = .ok (.putfield 60, 3) := by decide +kernel
theorem d_Model_read_5 : decode b_Model_read 5 = .ok (.aload_n 0, 1) := by decide +kernel
theorem d_Model_read_6 : decode b_Model_read 6 = .ok (.getfield 57, 3) := by decide +kernel
theorem d_Model_read_9 : decode b_Model_read 9 = .ok (.iconst 1, 1) := by decide +kernel
theorem d_Model_read_10 : decode b_Model_read 10 = .ok (.if_icmp .ge 8, 3) := by decide +kernel
theorem d_Model_read_13 : decode b_Model_read 13 = .ok (.aload_n 0, 1) := by decide +kernel
theorem d_Model_read_14 : decode b_Model_read 14 = .ok (.getfield 57, 3) := by decide +kernel
theorem d_Model_read_17 : decode b_Model_read 17 = .ok (.ireturn, 1) := by decide +kernel
theorem d_Model_read_18 : decode b_Model_read 18 = .ok (.iconst (-1), 1) := by decide +kernel
theorem d_Model_read_19 : decode b_Model_read 19 = .ok (.istore_n 1, 1) := by decide +kernel
theorem d_Model_read_20 : decode b_Model_read 20 = .ok (.iconst 0, 1) := by decide +kernel
theorem d_Model_read_21 : decode b_Model_read 21 = .ok (.istore_n 2, 1) := by decide +kernel
theorem d_Model_read_22 : decode b_Model_read 22 = .ok (.iload_n 1, 1) := by decide +kernel
theorem d_Model_read_23 : decode b_Model_read 23 = .ok (.aload_n 0, 1) := by decide +kernel
theorem d_Model_read_24 : decode b_Model_read 24 = .ok (.getfield 41, 3) := by decide +kernel
theorem d_Model_read_27 : decode b_Model_read 27 = .ok (.if_icmp .ge 41, 3) := by decide +kernel
theorem d_Model_read_30 : decode b_Model_read 30 = .ok (.aload_n 0, 1) := by decide +kernel
theorem d_Model_read_31 : decode b_Model_read 31 = .ok (.getfield 57, 3) := by decide +kernel
theorem d_Model_read_34 : decode b_Model_read 34 = .ok (.ifCond .le 34, 3) := by decide +kernel
theorem d_Model_read_37 : decode b_Model_read 37 = .ok (.aload_n 0, 1) := by decide +kernel
theorem d_Model_read_38 : decode b_Model_read 38 = .ok (.iload_n 1, 1) := by decide +kernel
theorem d_Model_read_39 : decode b_Model_read 39 = .ok (.iload_n 2, 1) := by decide +kernel
theorem d_Model_read_40 : decode b_Model_read 40 = .ok (.invokevirtual 172, 3) := by decide +kernel
theorem d_Model_read_43 : decode b_Model_read 43 = .ok (.istore_n 1, 1) := by decide +kernel
theorem d_Model_read_44 : decode b_Model_read 44 = .ok (.aload_n 0, 1) := by decide +kernel
theorem d_Model_read_45 : decode b_Model_read 45 = .ok (.getfield 165, 3) := by decide +kernel
theorem d_Model_read_48 : decode b_Model_read 48 = .ok (.ifCond .eq 15, 3) := by decide +kernel
theorem d_Model_read_51 : decode b_Model_read 51 = .ok (.iload_n 2, 1) := by decide +kernel
theorem d_Model_read_52 : decode b_Model_read 52 = .ok (.ifCond .ne 7, 3) := by decide +kernel
theorem d_Model_read_55 : decode b_Model_read 55 = .ok (.iconst 1, 1) := by decide +kernel
theorem d_Model_read_56 : decode b_Model_read 56 = .ok (.goto 8, 3) := by decide +kernel
theorem d_Model_read_59 : decode b_Model_read 59 = .ok (.iconst 0, 1) := by decide +kernel
theorem d_Model_read_60 : decode b_Model_read 60 = .ok (.goto 4, 3) := by decide +kernel
theorem d_Model_read_63 : decode b_Model_read 63 = .ok (.iload_n 2, 1) := by decide +kernel
theorem d_Model_read_64 : decode b_Model_read 64 = .ok (.istore_n 2, 1) := by decide +kernel
theorem d_Model_read_65 : decode b_Model_read 65 = .ok (.goto (-43), 3) := by decide +kernel
theorem d_Model_read_68 : decode b_Model_read 68 = .ok (.aload_n 0, 1) := by decide +kernel
theorem d_Model_read_69 : decode b_Model_read 69 = .ok (.getfield 57, 3) := by decide +kernel
theorem d_Model_read_72 : decode b_Model_read 72 = .ok (.iconst 1, 1) := by decide +kernel
theorem d_Model_read_73 : decode b_Model_read 73 = .ok (.if_icmp .ge 8, 3) := by decide +kernel
theorem d_Model_read_76 : decode b_Model_read 76 = .ok (.aload_n 0, 1) := by decide +kernel
theorem d_Model_read_77 : decode b_Model_read 77 = .ok (.getfield 57, 3) := by decide +kernel
theorem d_Model_read_80 : decode b_Model_read 80 = .ok (.ireturn, 1) := by decide +kernel
theorem d_Model_read_81 : decode b_Model_read 81 = .ok (.iconst 0, 1) := by decide +kernel
theorem d_Model_read_82 : decode b_Model_read 82 = .ok (.istore_n 3, 1) := by decide +kernel
theorem d_Model_read_83 : decode b_Model_read 83 = .ok (.iload_n 3, 1) := by decide +kernel
theorem d_Model_read_84 : decode b_Model_read 84 = .ok (.aload_n 0, 1) := by decide +kernel
theorem d_Model_read_85 : decode b_Model_read 85 = .ok (.getfield 41, 3) := by decide +kernel
theorem d_Model_read_88 : decode b_Model_read 88 = .ok (.if_icmp .ge 21, 3) := by decide +kernel
theorem d_Model_read_91 : decode b_Model_read 91 = .ok (.aload_n 0, 1) := by decide +kernel
theorem d_Model_read_92 : decode b_Model_read 92 = .ok (.getfield 54, 3) := by decide +kernel
theorem d_Model_read_95 : decode b_Model_read 95 = .ok (.iload_n 3, 1) := by decide +kernel
theorem d_Model_read_96 : decode b_Model_read 96 = .ok (.aload_n 0, 1) := by decide +kernel
theorem d_Model_read_97 : decode b_Model_read 97 = .ok (.getfield 51, 3) := by decide +kernel
theorem d_Model_read_100 : decode b_Model_read 100 = .ok (.iload_n 3, 1) := by decide +kernel
theorem d_Model_read_101 : decode b_Model_read 101 = .ok (.baload, 1) := by decide +kernel
theorem d_Model_read_102 : decode b_Model_read 102 = .ok (.bastore, 1) := by decide +kernel
theorem d_Model_read_103 : decode b_Model_read 103 = .ok (.iinc 3 1, 3) := by decide +kernel
theorem d_Model_read_106 : decode b_Model_read 106 = .ok (.goto (-23), 3) := by decide +kernel
theorem d_Model_read_109 : decode b_Model_read 109 = .ok (.aload_n 0, 1) := by decide +kernel
theorem d_Model_read_110 : decode b_Model_read 110 = .ok (.dup, 1) := by decide +kernel
theorem d_Model_read_111 : decode b_Model_read 111 = .ok (.getfield 136, 3) := by decide +kernel
theorem d_Model_read_114 : decode b_Model_read 114 = .ok (.iconst 1, 1) := by decide +kernel
theorem d_Model_read_115 : decode b_Model_read 115 = .ok (.iadd, 1) := by decide +kernel
theorem d_Model_read_116 : decode b_Model_read 116 = .ok (.putfield 136, 3) := by decide +kernel
theorem d_Model_read_119 : decode b_Model_read 119 = .ok (.iconst 1, 1) := by decide +kernel
theorem d_Model_read_120 : decode b_Model_read 120 = .ok (.ireturn, 1) := by decide +kernel
theorem d_Model_piece_0 : decode b_Model_piece 0 = .ok (.aload_n 0, 1) := by decide +kernel
theorem d_Model_piece_1 : decode b_Model_piece 1 = .ok (.getfield 133, 3) := by decide +kernel
theorem d_Model_piece_4 : decode b_Model_piece 4 = .ok (.istore_n 3, 1) := by decide +kernel
theorem d_Model_piece_5 : decode b_Model_piece 5 = .ok (.aload_n 0, 1) := by decide +kernel
theorem d_Model_piece_6 : decode b_Model_piece 6 = .ok (.iload_n 1, 1) := by decide +kernel
theorem d_Model_piece_7 : decode b_Model_piece 7 = .ok (.ifCond .ge 8, 3) := by decide +kernel
theorem d_Model_piece_10 : decode b_Model_piece 10 = .ok (.bipush 10, 2) := by decide +kernel
theorem d_Model_piece_12 : decode b_Model_piece 12 = .ok (.goto 5, 3) := by decide +kernel
theorem d_Model_piece_15 : decode b_Model_piece 15 = .ok (.bipush 9, 2) := by decide +kernel
theorem d_Model_piece_17 : decode b_Model_piece 17 = .ok (.invokevirtual 155, 3) := by decide +kernel
theorem d_Model_piece_20 : decode b_Model_piece 20 = .ok (.istore 4, 2) := by decide +kernel
theorem d_Model_piece_22 : decode b_Model_piece 22 = .ok (.iload 4, 2) := by decide +kernel
theorem d_Model_piece_24 : decode b_Model_piece 24 = .ok (.ifCond .ge 5, 3) := by decide +kernel
theorem d_Model_piece_27 : decode b_Model_piece 27 = .ok (.iload_n 1, 1) := by decide +kernel
theorem d_Model_piece_28 : decode b_Model_piece 28 = .ok (.ireturn, 1) := by decide +kernel
theorem d_Model_piece_29 : decode b_Model_piece 29 = .ok (.iload 4, 2) := by decide +kernel
theorem d_Model_piece_31 : decode b_Model_piece 31 = .ok (.bipush 9, 2) := by decide +kernel
theorem d_Model_piece_33 : decode b_Model_piece 33 = .ok (.if_icmp .ne 9, 3) := by decide +kernel
theorem d_Model_piece_36 : decode b_Model_piece 36 = .ok (.aload_n 0, 1) := by decide +kernel
theorem d_Model_piece_37 : decode b_Model_piece 37 = .ok (.invokevirtual 158, 3) := by decide +kernel
theorem d_Model_piece_40 : decode b_Model_piece 40 = .ok (.iload_n 1, 1) := by decide +kernel
theorem d_Model_piece_41 : decode b_Model_piece 41 = .ok (.ireturn, 1) := by decide +kernel
theorem d_Model_piece_42 : decode b_Model_piece 42 = .ok (.aload_n 0, 1) := by decide +kernel
theorem d_Model_piece_43 : decode b_Model_piece 43 = .ok (.aload_n 0, 1) := by decide +kernel
theorem d_Model_piece_44 : decode b_Model_piece 44 = .ok (.getfield 54, 3) := by decide +kernel
theorem d_Model_piece_47 : decode b_Model_piece 47 = .ok (.iload_n 1, 1) := by decide +kernel
theorem d_Model_piece_48 : decode b_Model_piece 48 = .ok (.iload_n 2, 1) := by decide +kernel
theorem d_Model_piece_49 : decode b_Model_piece 49 = .ok (.ifCond .ne 7, 3) := by decide +kernel
theorem d_Model_piece_52 : decode b_Model_piece 52 = .ok (.iconst 1, 1) := by decide +kernel
theorem d_Model_piece_53 : decode b_Model_piece 53 = .ok (.goto 4, 3) := by decide +kernel
theorem d_Model_piece_56 : decode b_Model_piece 56 = .ok (.iconst 0, 1) := by decide +kernel
theorem d_Model_piece_57 : decode b_Model_piece 57 = .ok (.invokevirtual 83, 3) := by decide +kernel
theorem d_Model_piece_60 : decode b_Model_piece 60 = .ok (.istore 5, 2) := by decide +kernel
theorem d_Model_piece_62 : decode b_Model_piece 62 = .ok (.iload 5, 2) := by decide +kernel
theorem d_Model_piece_64 : decode b_Model_piece 64 = .ok (.aload_n 0, 1) := by decide +kernel
theorem d_Model_piece_65 : decode b_Model_piece 65 = .ok (.getfield 41, 3) := by decide +kernel
theorem d_Model_piece_68 : decode b_Model_piece 68 = .ok (.if_icmp .ne 10, 3) := by decide +kernel
theorem d_Model_piece_71 : decode b_Model_piece 71 = .ok (.aload_n 0, 1) := by decide +kernel
theorem d_Model_piece_72 : decode b_Model_piece 72 = .ok (.getfield 41, 3) := by decide +kernel
theorem d_Model_piece_75 : decode b_Model_piece 75 = .ok (.goto 14, 3) := by decide +kernel
theorem d_Model_piece_78 : decode b_Model_piece 78 = .ok (.aload_n 0, 1) := by decide +kernel
theorem d_Model_piece_79 : decode b_Model_piece 79 = .ok (.aload_n 0, 1) := by decide +kernel
theorem d_Model_piece_80 : decode b_Model_piece 80 = .ok (.getfield 54, 3) := by decide +kernel
theorem d_Model_piece_83 : decode b_Model_piece 83 = .ok (.iload 5, 2) := by decide +kernel
theorem d_Model_piece_85 : decode b_Model_piece 85 = .ok (.iload_n 2, 1) := by decide +kernel
theorem d_Model_piece_86 : decode b_Model_piece 86 = .ok (.invokevirtual 79, 3) := by decide +kernel
theorem d_Model_piece_89 : decode b_Model_piece 89 = .ok (.istore 6, 2) := by decide +kernel
theorem d_Model_piece_91 : decode b_Model_piece 91 = .ok (.iload 4, 2) := by decide +kernel
theorem d_Model_piece_93 : decode b_Model_piece 93 = .ok (.ifCond .ne 36, 3) := by decide +kernel
theorem d_Model_piece_96 : decode b_Model_piece 96 = .ok (.iload 6, 2) := by decide +kernel
theorem d_Model_piece_98 : decode b_Model_piece 98 = .ok (.aload_n 0, 1) := by decide +kernel
theorem d_Model_piece_99 : decode b_Model_piece 99 = .ok (.getfield 41, 3) := by decide +kernel
theorem d_Model_piece_102 : decode b_Model_piece 102 = .ok (.if_icmp .ne 11, 3) := by decide +kernel
theorem d_Model_piece_105 : decode b_Model_piece 105 = .ok (.aload_n 0, 1) := by decide +kernel
theorem d_Model_piece_106 : decode b_Model_piece 106 = .ok (.iconst 3, 1) := by decide +kernel
theorem d_Model_piece_107 : decode b_Model_piece 107 = .ok (.iload_n 3, 1) := by decide +kernel
theorem d_Model_piece_108 : decode b_Model_piece 108 = .ok (.invokevirtual 139, 3) := by decide +kernel
theorem d_Model_piece_111 : decode b_Model_piece 111 = .ok (.iload_n 1, 1) := by decide +kernel
theorem d_Model_piece_112 : decode b_Model_piece 112 = .ok (.ireturn, 1) := by decide +kernel
theorem d_Model_piece_113 : decode b_Model_piece 113 = .ok (.aload_n 0, 1) := by decide +kernel
theorem d_Model_piece_114 : decode b_Model_piece 114 = .ok (.iload_n 1, 1) := by decide +kernel
theorem d_Model_piece_115 : decode b_Model_piece 115 = .ok (.iload 6, 2) := by decide +kernel
theorem d_Model_piece_117 : decode b_Model_piece 117 = .ok (.iload_n 2, 1) := by decide +kernel
theorem d_Model_piece_118 : decode b_Model_piece 118 = .ok (.invokevirtual 161, 3) := by decide +kernel
theorem d_Model_piece_121 : decode b_Model_piece 121 = .ok (.aload_n 0, 1) := by decide +kernel
theorem d_Model_piece_122 : decode b_Model_piece 122 = .ok (.iconst 0, 1) := by decide +kernel
theorem d_Model_piece_123 : decode b_Model_piece 123 = .ok (.putfield 165, 3) := by decide +kernel
theorem d_Model_piece_126 : decode b_Model_piece 126 = .ok (.iload 6, 2) := by decide +kernel
theorem d_Model_piece_128 : decode b_Model_piece 128 = .ok (.ireturn, 1) := by decide +kernel
theorem d_Model_piece_129 : decode b_Model_piece 129 = .ok (.iload 4, 2) := by decide +kernel
theorem d_Model_piece_131 : decode b_Model_piece 131 = .ok (.iconst 1, 1) := by decide +kernel
theorem d_Model_piece_132 : decode b_Model_piece 132 = .ok (.if_icmp .le 51, 3) := by decide +kernel
theorem d_Model_piece_135 : decode b_Model_piece 135 = .ok (.iload 5, 2) := by decide +kernel
theorem d_Model_piece_137 : decode b_Model_piece 137 = .ok (.iload 4, 2) := by decide +kernel
theorem d_Model_piece_139 : decode b_Model_piece 139 = .ok (.iadd, 1) := by decide +kernel
theorem d_Model_piece_140 : decode b_Model_piece 140 = .ok (.iconst 5, 1) := by decide +kernel
theorem d_Model_piece_141 : decode b_Model_piece 141 = .ok (.isub, 1) := by decide +kernel
theorem d_Model_piece_142 : decode b_Model_piece 142 = .ok (.istore 7, 2) := by decide +kernel
theorem d_Model_piece_144 : decode b_Model_piece 144 = .ok (.iload 7, 2) := by decide +kernel
theorem d_Model_piece_146 : decode b_Model_piece 146 = .ok (.iload_n 1, 1) := by decide +kernel
theorem d_Model_piece_147 : decode b_Model_piece 147 = .ok (.if_icmp .le 12, 3) := by decide +kernel
theorem d_Model_piece_150 : decode b_Model_piece 150 = .ok (.iload 7, 2) := by decide +kernel
theorem d_Model_piece_152 : decode b_Model_piece 152 = .ok (.aload_n 0, 1) := by decide +kernel
theorem d_Model_piece_153 : decode b_Model_piece 153 = .ok (.getfield 41, 3) := by decide +kernel
theorem d_Model_piece_156 : decode b_Model_piece 156 = .ok (.if_icmp .le 11, 3) := by decide +kernel
theorem d_Model_piece_159 : decode b_Model_piece 159 = .ok (.aload_n 0, 1) := by decide +kernel
theorem d_Model_piece_160 : decode b_Model_piece 160 = .ok (.iconst 4, 1) := by decide +kernel
theorem d_Model_piece_161 : decode b_Model_piece 161 = .ok (.iload_n 3, 1) := by decide +kernel
theorem d_Model_piece_162 : decode b_Model_piece 162 = .ok (.invokevirtual 139, 3) := by decide +kernel
theorem d_Model_piece_165 : decode b_Model_piece 165 = .ok (.iload_n 1, 1) := by decide +kernel
theorem d_Model_piece_166 : decode b_Model_piece 166 = .ok (.ireturn, 1) := by decide +kernel
theorem d_Model_piece_167 : decode b_Model_piece 167 = .ok (.aload_n 0, 1) := by decide +kernel
theorem d_Model_piece_168 : decode b_Model_piece 168 = .ok (.iload_n 1, 1) := by decide +kernel
theorem d_Model_piece_169 : decode b_Model_piece 169 = .ok (.iload 7, 2) := by decide +kernel
theorem d_Model_piece_171 : decode b_Model_piece 171 = .ok (.iload_n 2, 1) := by decide +kernel
theorem d_Model_piece_172 : decode b_Model_piece 172 = .ok (.invokevirtual 161, 3) := by decide +kernel
theorem d_Model_piece_175 : decode b_Model_piece 175 = .ok (.aload_n 0, 1) := by decide +kernel
theorem d_Model_piece_176 : decode b_Model_piece 176 = .ok (.iconst 1, 1) := by decide +kernel
theorem d_Model_piece_177 : decode b_Model_piece 177 = .ok (.putfield 165, 3) := by decide +kernel
theorem d_Model_piece_180 : decode b_Model_piece 180 = .ok (.iload 7, 2) := by decide +kernel
theorem d_Model_piece_182 : decode b_Model_piece 182 = .ok (.ireturn, 1) := by decide +kernel
theorem d_Model_piece_183 : decode b_Model_piece 183 = .ok (.iload_n 1, 1) := by decide +kernel
theorem d_Model_piece_184 : decode b_Model_piece 184 = .ok (.ifCond .ge 7, 3) := by decide +kernel
theorem d_Model_piece_187 : decode b_Model_piece 187 = .ok (.iconst 0, 1) := by decide +kernel
theorem d_Model_piece_188 : decode b_Model_piece 188 = .ok (.goto 4, 3) := by decide +kernel
theorem d_Model_piece_191 : decode b_Model_piece 191 = .ok (.iload_n 1, 1) := by decide +kernel
theorem d_Model_piece_192 : decode b_Model_piece 192 = .ok (.istore 7, 2) := by decide +kernel
theorem d_Model_piece_194 : decode b_Model_piece 194 = .ok (.aload_n 0, 1) := by decide +kernel
theorem d_Model_piece_195 : decode b_Model_piece 195 = .ok (.iload 7, 2) := by decide +kernel
theorem d_Model_piece_197 : decode b_Model_piece 197 = .ok (.iload_n 2, 1) := by decide +kernel
theorem d_Model_piece_198 : decode b_Model_piece 198 = .ok (.invokevirtual 168, 3) := by decide +kernel
theorem d_Model_piece_201 : decode b_Model_piece 201 = .ok (.istore 8, 2) := by decide +kernel
theorem d_Model_piece_203 : decode b_Model_piece 203 = .ok (.aload_n 0, 1) := by decide +kernel
theorem d_Model_piece_204 : decode b_Model_piece 204 = .ok (.getfield 57, 3) := by decide +kernel
theorem d_Model_piece_207 : decode b_Model_piece 207 = .ok (.ifCond .le 24, 3) := by decide +kernel
theorem d_Model_piece_210 : decode b_Model_piece 210 = .ok (.aload_n 0, 1) := by decide +kernel
theorem d_Model_piece_211 : decode b_Model_piece 211 = .ok (.iload 7, 2) := by decide +kernel
theorem d_Model_piece_213 : decode b_Model_piece 213 = .ok (.iload 8, 2) := by decide +kernel
theorem d_Model_piece_215 : decode b_Model_piece 215 = .ok (.iadd, 1) := by decide +kernel
theorem d_Model_piece_216 : decode b_Model_piece 216 = .ok (.iload_n 2, 1) := by decide +kernel
theorem d_Model_piece_217 : decode b_Model_piece 217 = .ok (.ifCond .ne 7, 3) := by decide +kernel
theorem d_Model_piece_220 : decode b_Model_piece 220 = .ok (.iconst 1, 1) := by decide +kernel
theorem d_Model_piece_221 : decode b_Model_piece 221 = .ok (.goto 4, 3) := by decide +kernel
theorem d_Model_piece_224 : decode b_Model_piece 224 = .ok (.iconst 0, 1) := by decide +kernel
theorem d_Model_piece_225 : decode b_Model_piece 225 = .ok (.invokevirtual 168, 3) := by decide +kernel
theorem d_Model_piece_228 : decode b_Model_piece 228 = .ok (.goto 4, 3) := by decide +kernel
theorem d_Model_piece_231 : decode b_Model_piece 231 = .ok (.iconst 0, 1) := by decide +kernel
theorem d_Model_piece_232 : decode b_Model_piece 232 = .ok (.istore 9, 2) := by decide +kernel
theorem d_Model_piece_234 : decode b_Model_piece 234 = .ok (.aload_n 0, 1) := by decide +kernel
theorem d_Model_piece_235 : decode b_Model_piece 235 = .ok (.getfield 57, 3) := by decide +kernel
theorem d_Model_piece_238 : decode b_Model_piece 238 = .ok (.ifCond .le 18, 3) := by decide +kernel
theorem d_Model_piece_241 : decode b_Model_piece 241 = .ok (.iload 8, 2) := by decide +kernel
theorem d_Model_piece_243 : decode b_Model_piece 243 = .ok (.iload 9, 2) := by decide +kernel
theorem d_Model_piece_245 : decode b_Model_piece 245 = .ok (.iadd, 1) := by decide +kernel
theorem d_Model_piece_246 : decode b_Model_piece 246 = .ok (.ifCond .ne 10, 3) := by decide +kernel
theorem d_Model_piece_249 : decode b_Model_piece 249 = .ok (.aload_n 0, 1) := by decide +kernel
theorem d_Model_piece_250 : decode b_Model_piece 250 = .ok (.bipush 6, 2) := by decide +kernel
theorem d_Model_piece_252 : decode b_Model_piece 252 = .ok (.iload_n 3, 1) := by decide +kernel
theorem d_Model_piece_253 : decode b_Model_piece 253 = .ok (.invokevirtual 139, 3) := by decide +kernel
theorem d_Model_piece_256 : decode b_Model_piece 256 = .ok (.aload_n 0, 1) := by decide +kernel
theorem d_Model_piece_257 : decode b_Model_piece 257 = .ok (.getfield 57, 3) := by decide +kernel
theorem d_Model_piece_260 : decode b_Model_piece 260 = .ok (.ifCond .le 41, 3) := by decide +kernel
theorem d_Model_piece_263 : decode b_Model_piece 263 = .ok (.aload_n 0, 1) := by decide +kernel
theorem d_Model_piece_264 : decode b_Model_piece 264 = .ok (.iload 7, 2) := by decide +kernel
theorem d_Model_piece_266 : decode b_Model_piece 266 = .ok (.iload 7, 2) := by decide +kernel
theorem d_Model_piece_268 : decode b_Model_piece 268 = .ok (.iload 8, 2) := by decide +kernel
theorem d_Model_piece_270 : decode b_Model_piece 270 = .ok (.iadd, 1) := by decide +kernel
theorem d_Model_piece_271 : decode b_Model_piece 271 = .ok (.iload_n 2, 1) := by decide +kernel
theorem d_Model_piece_272 : decode b_Model_piece 272 = .ok (.invokevirtual 161, 3) := by decide +kernel
theorem d_Model_piece_275 : decode b_Model_piece 275 = .ok (.aload_n 0, 1) := by decide +kernel
theorem d_Model_piece_276 : decode b_Model_piece 276 = .ok (.iload 7, 2) := by decide +kernel
theorem d_Model_piece_278 : decode b_Model_piece 278 = .ok (.iload 8, 2) := by decide +kernel
theorem d_Model_piece_280 : decode b_Model_piece 280 = .ok (.iadd, 1) := by decide +kernel
theorem d_Model_piece_281 : decode b_Model_piece 281 = .ok (.iload 7, 2) := by decide +kernel
theorem d_Model_piece_283 : decode b_Model_piece 283 = .ok (.iload 8, 2) := by decide +kernel
theorem d_Model_piece_285 : decode b_Model_piece 285 = .ok (.iadd, 1) := by decide +kernel
theorem d_Model_piece_286 : decode b_Model_piece 286 = .ok (.iload 9, 2) := by decide +kernel
theorem d_Model_piece_288 : decode b_Model_piece 288 = .ok (.iadd, 1) := by decide +kernel
theorem d_Model_piece_289 : decode b_Model_piece 289 = .ok (.iload_n 2, 1) := by decide +kernel
theorem d_Model_piece_290 : decode b_Model_piece 290 = .ok (.ifCond .ne 7, 3) := by decide +kernel
theorem d_Model_piece_293 : decode b_Model_piece 293 = .ok (.iconst 1, 1) := by decide +kernel
theorem d_Model_piece_294 : decode b_Model_piece 294 = .ok (.goto 4, 3) := by decide +kernel
theorem d_Model_piece_297 : decode b_Model_piece 297 = .ok (.iconst 0, 1) := by decide +kernel
theorem d_Model_piece_298 : decode b_Model_piece 298 = .ok (.invokevirtual 161, 3) := by decide +kernel
theorem d_Model_piece_301 : decode b_Model_piece 301 = .ok (.aload_n 0, 1) := by decide +kernel
theorem d_Model_piece_302 : decode b_Model_piece 302 = .ok (.iconst 0, 1) := by decide +kernel
theorem d_Model_piece_303 : decode b_Model_piece 303 = .ok (.putfield 165, 3) := by decide +kernel
theorem d_Model_piece_306 : decode b_Model_piece 306 = .ok (.aload_n 0, 1) := by decide +kernel
theorem d_Model_piece_307 : decode b_Model_piece 307 = .ok (.getfield 57, 3) := by decide +kernel
theorem d_Model_piece_310 : decode b_Model_piece 310 = .ok (.ifCond .le 14, 3) := by decide +kernel
theorem d_Model_piece_313 : decode b_Model_piece 313 = .ok (.iload 7, 2) := by decide +kernel
theorem d_Model_piece_315 : decode b_Model_piece 315 = .ok (.iload 8, 2) := by decide +kernel
theorem d_Model_piece_317 : decode b_Model_piece 317 = .ok (.iadd, 1) := by decide +kernel
theorem d_Model_piece_318 : decode b_Model_piece 318 = .ok (.iload 9, 2) := by decide +kernel
theorem d_Model_piece_320 : decode b_Model_piece 320 = .ok (.iadd, 1) := by decide +kernel
theorem d_Model_piece_321 : decode b_Model_piece 321 = .ok (.goto 4, 3) := by decide +kernel
theorem d_Model_piece_324 : decode b_Model_piece 324 = .ok (.iload_n 1, 1) := by decide +kernel
theorem d_Model_piece_325 : decode b_Model_piece 325 = .ok (.ireturn, 1) := by decide +kernel
theorem d_Model_mode_0 : decode b_Model_mode 0 = .ok (.aload_n 0, 1) := by decide +kernel
theorem d_Model_mode_1 : decode b_Model_mode 1 = .ok (.getfield 133, 3) := by decide +kernel
theorem d_Model_mode_4 : decode b_Model_mode 4 = .ok (.istore_n 2, 1) := by decide +kernel
theorem d_Model_mode_5 : decode b_Model_mode 5 = .ok (.iconst 1, 1) := by decide +kernel
theorem d_Model_mode_6 : decode b_Model_mode 6 = .ok (.istore_n 3, 1) := by decide +kernel
theorem d_Model_mode_7 : decode b_Model_mode 7 = .ok (.iconst (-1), 1) := by decide +kernel
theorem d_Model_mode_8 : decode b_Model_mode 8 = .ok (.istore 4, 2) := by decide +kernel
theorem d_Model_mode_10 : decode b_Model_mode 10 = .ok (.iload 4, 2) := by decide +kernel
theorem d_Model_mode_12 : decode b_Model_mode 12 = .ok (.ifCond .ge 89, 3) := by decide +kernel
theorem d_Model_mode_15 : decode b_Model_mode 15 = .ok (.aload_n 0, 1) := by decide +kernel
theorem d_Model_mode_16 : decode b_Model_mode 16 = .ok (.getfield 57, 3) := by decide +kernel
theorem d_Model_mode_19 : decode b_Model_mode 19 = .ok (.ifCond .le 82, 3) := by decide +kernel
theorem d_Model_mode_22 : decode b_Model_mode 22 = .ok (.aload_n 0, 1) := by decide +kernel
theorem d_Model_mode_23 : decode b_Model_mode 23 = .ok (.getfield 133, 3) := by decide +kernel
theorem d_Model_mode_26 : decode b_Model_mode 26 = .ok (.bipush 8, 2) := by decide +kernel
theorem d_Model_mode_28 : decode b_Model_mode 28 = .ok (.aload_n 0, 1) := by decide +kernel
theorem d_Model_mode_29 : decode b_Model_mode 29 = .ok (.getfield 125, 3) := by decide +kernel
theorem d_Model_mode_32 : decode b_Model_mode 32 = .ok (.imul, 1) := by decide +kernel
theorem d_Model_mode_33 : decode b_Model_mode 33 = .ok (.if_icmp .ne 12, 3) := by decide +kernel
theorem d_Model_mode_36 : decode b_Model_mode 36 = .ok (.aload_n 0, 1) := by decide +kernel
theorem d_Model_mode_37 : decode b_Model_mode 37 = .ok (.iconst 1, 1) := by decide +kernel
theorem d_Model_mode_38 : decode b_Model_mode 38 = .ok (.iload_n 2, 1) := by decide +kernel
theorem d_Model_mode_39 : decode b_Model_mode 39 = .ok (.invokevirtual 139, 3) := by decide +kernel
theorem d_Model_mode_42 : decode b_Model_mode 42 = .ok (.goto (-32), 3) := by decide +kernel
theorem d_Model_mode_45 : decode b_Model_mode 45 = .ok (.iconst 2, 1) := by decide +kernel
theorem d_Model_mode_46 : decode b_Model_mode 46 = .ok (.iload_n 3, 1) := by decide +kernel
theorem d_Model_mode_47 : decode b_Model_mode 47 = .ok (.imul, 1) := by decide +kernel
theorem d_Model_mode_48 : decode b_Model_mode 48 = .ok (.aload_n 0, 1) := by decide +kernel
theorem d_Model_mode_49 : decode b_Model_mode 49 = .ok (.aload_n 0, 1) := by decide +kernel
theorem d_Model_mode_50 : decode b_Model_mode 50 = .ok (.getfield 133, 3) := by decide +kernel
theorem d_Model_mode_53 : decode b_Model_mode 53 = .ok (.invokevirtual 143, 3) := by decide +kernel
theorem d_Model_mode_56 : decode b_Model_mode 56 = .ok (.iadd, 1) := by decide +kernel
theorem d_Model_mode_57 : decode b_Model_mode 57 = .ok (.istore_n 3, 1) := by decide +kernel
theorem d_Model_mode_58 : decode b_Model_mode 58 = .ok (.aload_n 0, 1) := by decide +kernel
theorem d_Model_mode_59 : decode b_Model_mode 59 = .ok (.dup, 1) := by decide +kernel
theorem d_Model_mode_60 : decode b_Model_mode 60 = .ok (.getfield 133, 3) := by decide +kernel
theorem d_Model_mode_63 : decode b_Model_mode 63 = .ok (.iconst 1, 1) := by decide +kernel
theorem d_Model_mode_64 : decode b_Model_mode 64 = .ok (.iadd, 1) := by decide +kernel
theorem d_Model_mode_65 : decode b_Model_mode 65 = .ok (.putfield 133, 3) := by decide +kernel
theorem d_Model_mode_68 : decode b_Model_mode 68 = .ok (.aload_n 0, 1) := by decide +kernel
theorem d_Model_mode_69 : decode b_Model_mode 69 = .ok (.getfield 25, 3) := by decide +kernel
theorem d_Model_mode_72 : decode b_Model_mode 72 = .ok (.iload_n 1, 1) := by decide +kernel
theorem d_Model_mode_73 : decode b_Model_mode 73 = .ok (.iload_n 3, 1) := by decide +kernel
theorem d_Model_mode_74 : decode b_Model_mode 74 = .ok (.invokestatic 147, 3) := by decide +kernel
theorem d_Model_mode_77 : decode b_Model_mode 77 = .ok (.istore 4, 2) := by decide +kernel
theorem d_Model_mode_79 : decode b_Model_mode 79 = .ok (.aload_n 0, 1) := by decide +kernel
theorem d_Model_mode_80 : decode b_Model_mode 80 = .ok (.aload_n 0, 1) := by decide +kernel
theorem d_Model_mode_81 : decode b_Model_mode 81 = .ok (.getfield 25, 3) := by decide +kernel
theorem d_Model_mode_84 : decode b_Model_mode 84 = .ok (.iload_n 1, 1) := by decide +kernel
theorem d_Model_mode_85 : decode b_Model_mode 85 = .ok (.iload_n 3, 1) := by decide +kernel
theorem d_Model_mode_86 : decode b_Model_mode 86 = .ok (.invokevirtual 151, 3) := by decide +kernel
theorem d_Model_mode_89 : decode b_Model_mode 89 = .ok (.ifCond .ne (-79), 3) := by decide +kernel
theorem d_Model_mode_92 : decode b_Model_mode 92 = .ok (.aload_n 0, 1) := by decide +kernel
theorem d_Model_mode_93 : decode b_Model_mode 93 = .ok (.iconst 2, 1) := by decide +kernel
theorem d_Model_mode_94 : decode b_Model_mode 94 = .ok (.iload_n 2, 1) := by decide +kernel
theorem d_Model_mode_95 : decode b_Model_mode 95 = .ok (.invokevirtual 139, 3) := by decide +kernel
theorem d_Model_mode_98 : decode b_Model_mode 98 = .ok (.goto (-88), 3) := by decide +kernel
theorem d_Model_mode_101 : decode b_Model_mode 101 = .ok (.iload 4, 2) := by decide +kernel
theorem d_Model_mode_103 : decode b_Model_mode 103 = .ok (.ireturn, 1) := by decide +kernel
theorem d_Model_fault_0 : decode b_Model_fault 0 = .ok (.aload_n 0, 1) := by decide +kernel
theorem d_Model_fault_1 : decode b_Model_fault 1 = .ok (.iload_n 1, 1) := by decide +kernel
theorem d_Model_fault_2 : decode b_Model_fault 2 = .ok (.ineg, 1) := by decide +kernel
theorem d_Model_fault_3 : decode b_Model_fault 3 = .ok (.putfield 57, 3) := by decide +kernel
theorem d_Model_fault_6 : decode b_Model_fault 6 = .ok (.aload_n 0, 1) := by decide +kernel
theorem d_Model_fault_7 : decode b_Model_fault 7 = .ok (.iload_n 2, 1) := by decide +kernel
theorem d_Model_fault_8 : decode b_Model_fault 8 = .ok (.putfield 133, 3) := by decide +kernel
theorem d_Model_fault_11 : decode b_Model_fault 11 = .ok (.return_, 1) := by decide +kernel
theorem d_Model_bit_0 : decode b_Model_bit 0 = .ok (.aload_n 0, 1) := by decide +kernel
theorem d_Model_bit_1 : decode b_Model_bit 1 = .ok (.getfield 38, 3) := by decide +kernel
theorem d_Model_bit_4 : decode b_Model_bit 4 = .ok (.iload_n 1, 1) := by decide +kernel
theorem d_Model_bit_5 : decode b_Model_bit 5 = .ok (.bipush 8, 2) := by decide +kernel
theorem d_Model_bit_7 : decode b_Model_bit 7 = .ok (.idiv, 1) := by decide +kernel
theorem d_Model_bit_8 : decode b_Model_bit 8 = .ok (.iaload, 1) := by decide +kernel
theorem d_Model_bit_9 : decode b_Model_bit 9 = .ok (.bipush 7, 2) := by decide +kernel
theorem d_Model_bit_11 : decode b_Model_bit 11 = .ok (.iload_n 1, 1) := by decide +kernel
theorem d_Model_bit_12 : decode b_Model_bit 12 = .ok (.bipush 8, 2) := by decide +kernel
theorem d_Model_bit_14 : decode b_Model_bit 14 = .ok (.irem, 1) := by decide +kernel
theorem d_Model_bit_15 : decode b_Model_bit 15 = .ok (.isub, 1) := by decide +kernel
theorem d_Model_bit_16 : decode b_Model_bit 16 = .ok (.ishr, 1) := by decide +kernel
theorem d_Model_bit_17 : decode b_Model_bit 17 = .ok (.iconst 1, 1) := by decide +kernel
theorem d_Model_bit_18 : decode b_Model_bit 18 = .ok (.iand, 1) := by decide +kernel
theorem d_Model_bit_19 : decode b_Model_bit 19 = .ok (.ireturn, 1) := by decide +kernel
theorem d_Model_placeOf_0 : decode b_Model_placeOf 0 = .ok (.iconst (-1), 1) := by decide +kernel
theorem d_Model_placeOf_1 : decode b_Model_placeOf 1 = .ok (.istore_n 3, 1) := by decide +kernel
theorem d_Model_placeOf_2 : decode b_Model_placeOf 2 = .ok (.iconst 0, 1) := by decide +kernel
theorem d_Model_placeOf_3 : decode b_Model_placeOf 3 = .ok (.istore 4, 2) := by decide +kernel
theorem d_Model_placeOf_5 : decode b_Model_placeOf 5 = .ok (.iload 4, 2) := by decide +kernel
theorem d_Model_placeOf_7 : decode b_Model_placeOf 7 = .ok (.iload_n 1, 1) := by decide +kernel
theorem d_Model_placeOf_8 : decode b_Model_placeOf 8 = .ok (.if_icmp .ge 24, 3) := by decide +kernel
theorem d_Model_placeOf_11 : decode b_Model_placeOf 11 = .ok (.aload_n 0, 1) := by decide +kernel
theorem d_Model_placeOf_12 : decode b_Model_placeOf 12 = .ok (.iload 4, 2) := by decide +kernel
theorem d_Model_placeOf_14 : decode b_Model_placeOf 14 = .ok (.iaload, 1) := by decide +kernel
theorem d_Model_placeOf_15 : decode b_Model_placeOf 15 = .ok (.iload_n 2, 1) := by decide +kernel
theorem d_Model_placeOf_16 : decode b_Model_placeOf 16 = .ok (.if_icmp .ne 8, 3) := by decide +kernel
theorem d_Model_placeOf_19 : decode b_Model_placeOf 19 = .ok (.iload 4, 2) := by decide +kernel
theorem d_Model_placeOf_21 : decode b_Model_placeOf 21 = .ok (.goto 4, 3) := by decide +kernel
theorem d_Model_placeOf_24 : decode b_Model_placeOf 24 = .ok (.iload_n 3, 1) := by decide +kernel
theorem d_Model_placeOf_25 : decode b_Model_placeOf 25 = .ok (.istore_n 3, 1) := by decide +kernel
theorem d_Model_placeOf_26 : decode b_Model_placeOf 26 = .ok (.iinc 4 1, 3) := by decide +kernel
theorem d_Model_placeOf_29 : decode b_Model_placeOf 29 = .ok (.goto (-24), 3) := by decide +kernel
theorem d_Model_placeOf_32 : decode b_Model_placeOf 32 = .ok (.iload_n 3, 1) := by decide +kernel
theorem d_Model_placeOf_33 : decode b_Model_placeOf 33 = .ok (.ireturn, 1) := by decide +kernel
theorem d_Model_begins_0 : decode b_Model_begins 0 = .ok (.iconst 0, 1) := by decide +kernel
theorem d_Model_begins_1 : decode b_Model_begins 1 = .ok (.istore 4, 2) := by decide +kernel
theorem d_Model_begins_3 : decode b_Model_begins 3 = .ok (.iconst 0, 1) := by decide +kernel
theorem d_Model_begins_4 : decode b_Model_begins 4 = .ok (.istore 5, 2) := by decide +kernel
theorem d_Model_begins_6 : decode b_Model_begins 6 = .ok (.iload 5, 2) := by decide +kernel
theorem d_Model_begins_8 : decode b_Model_begins 8 = .ok (.iload_n 2, 1) := by decide +kernel
theorem d_Model_begins_9 : decode b_Model_begins 9 = .ok (.if_icmp .ge 48, 3) := by decide +kernel
theorem d_Model_begins_12 : decode b_Model_begins 12 = .ok (.aload_n 1, 1) := by decide +kernel
theorem d_Model_begins_13 : decode b_Model_begins 13 = .ok (.iload 5, 2) := by decide +kernel
theorem d_Model_begins_15 : decode b_Model_begins 15 = .ok (.iaload, 1) := by decide +kernel
theorem d_Model_begins_16 : decode b_Model_begins 16 = .ok (.istore 6, 2) := by decide +kernel
theorem d_Model_begins_18 : decode b_Model_begins 18 = .ok (.iload 6, 2) := by decide +kernel
theorem d_Model_begins_20 : decode b_Model_begins 20 = .ok (.iload_n 3, 1) := by decide +kernel
theorem d_Model_begins_21 : decode b_Model_begins 21 = .ok (.if_icmp .le 12, 3) := by decide +kernel
theorem d_Model_begins_24 : decode b_Model_begins 24 = .ok (.iload 6, 2) := by decide +kernel
theorem d_Model_begins_26 : decode b_Model_begins 26 = .ok (.iconst 1, 1) := by decide +kernel
theorem d_Model_begins_27 : decode b_Model_begins 27 = .ok (.ishr, 1) := by decide +kernel
theorem d_Model_begins_28 : decode b_Model_begins 28 = .ok (.istore 6, 2) := by decide +kernel
theorem d_Model_begins_30 : decode b_Model_begins 30 = .ok (.goto (-12), 3) := by decide +kernel
theorem d_Model_begins_33 : decode b_Model_begins 33 = .ok (.iload 4, 2) := by decide +kernel
theorem d_Model_begins_35 : decode b_Model_begins 35 = .ok (.ifCond .ne 9, 3) := by decide +kernel
theorem d_Model_begins_38 : decode b_Model_begins 38 = .ok (.iload 6, 2) := by decide +kernel
theorem d_Model_begins_40 : decode b_Model_begins 40 = .ok (.iload_n 3, 1) := by decide +kernel
theorem d_Model_begins_41 : decode b_Model_begins 41 = .ok (.if_icmp .ne 7, 3) := by decide +kernel
theorem d_Model_begins_44 : decode b_Model_begins 44 = .ok (.iconst 1, 1) := by decide +kernel
theorem d_Model_begins_45 : decode b_Model_begins 45 = .ok (.goto 4, 3) := by decide +kernel
theorem d_Model_begins_48 : decode b_Model_begins 48 = .ok (.iconst 0, 1) := by decide +kernel
theorem d_Model_begins_49 : decode b_Model_begins 49 = .ok (.istore 4, 2) := by decide +kernel
theorem d_Model_begins_51 : decode b_Model_begins 51 = .ok (.iinc 5 1, 3) := by decide +kernel
theorem d_Model_begins_54 : decode b_Model_begins 54 = .ok (.goto (-48), 3) := by decide +kernel
theorem d_Model_begins_57 : decode b_Model_begins 57 = .ok (.iload 4, 2) := by decide +kernel
theorem d_Model_begins_59 : decode b_Model_begins 59 = .ok (.ireturn, 1) := by decide +kernel
theorem d_Model_end_0 : decode b_Model_end 0 = .ok (.aload_n 0, 1) := by decide +kernel
theorem d_Model_end_1 : decode b_Model_end 1 = .ok (.getfield 133, 3) := by decide +kernel
theorem d_Model_end_4 : decode b_Model_end 4 = .ok (.istore_n 1, 1) := by decide +kernel
theorem d_Model_end_5 : decode b_Model_end 5 = .ok (.iconst 1, 1) := by decide +kernel
theorem d_Model_end_6 : decode b_Model_end 6 = .ok (.istore_n 2, 1) := by decide +kernel
theorem d_Model_end_7 : decode b_Model_end 7 = .ok (.iload_n 2, 1) := by decide +kernel
theorem d_Model_end_8 : decode b_Model_end 8 = .ok (.sipush 4097, 3) := by decide +kernel
theorem d_Model_end_11 : decode b_Model_end 11 = .ok (.if_icmp .eq 86, 3) := by decide +kernel
theorem d_Model_end_14 : decode b_Model_end 14 = .ok (.aload_n 0, 1) := by decide +kernel
theorem d_Model_end_15 : decode b_Model_end 15 = .ok (.getfield 57, 3) := by decide +kernel
theorem d_Model_end_18 : decode b_Model_end 18 = .ok (.ifCond .le 79, 3) := by decide +kernel
theorem d_Model_end_21 : decode b_Model_end 21 = .ok (.aload_n 0, 1) := by decide +kernel
theorem d_Model_end_22 : decode b_Model_end 22 = .ok (.getfield 133, 3) := by decide +kernel
theorem d_Model_end_25 : decode b_Model_end 25 = .ok (.bipush 8, 2) := by decide +kernel
theorem d_Model_end_27 : decode b_Model_end 27 = .ok (.aload_n 0, 1) := by decide +kernel
theorem d_Model_end_28 : decode b_Model_end 28 = .ok (.getfield 125, 3) := by decide +kernel
theorem d_Model_end_31 : decode b_Model_end 31 = .ok (.imul, 1) := by decide +kernel
theorem d_Model_end_32 : decode b_Model_end 32 = .ok (.if_icmp .ne 12, 3) := by decide +kernel
theorem d_Model_end_35 : decode b_Model_end 35 = .ok (.aload_n 0, 1) := by decide +kernel
theorem d_Model_end_36 : decode b_Model_end 36 = .ok (.iconst 1, 1) := by decide +kernel
theorem d_Model_end_37 : decode b_Model_end 37 = .ok (.iload_n 1, 1) := by decide +kernel
theorem d_Model_end_38 : decode b_Model_end 38 = .ok (.invokevirtual 139, 3) := by decide +kernel
theorem d_Model_end_41 : decode b_Model_end 41 = .ok (.goto (-34), 3) := by decide +kernel
theorem d_Model_end_44 : decode b_Model_end 44 = .ok (.iconst 2, 1) := by decide +kernel
theorem d_Model_end_45 : decode b_Model_end 45 = .ok (.iload_n 2, 1) := by decide +kernel
theorem d_Model_end_46 : decode b_Model_end 46 = .ok (.imul, 1) := by decide +kernel
theorem d_Model_end_47 : decode b_Model_end 47 = .ok (.aload_n 0, 1) := by decide +kernel
theorem d_Model_end_48 : decode b_Model_end 48 = .ok (.aload_n 0, 1) := by decide +kernel
theorem d_Model_end_49 : decode b_Model_end 49 = .ok (.getfield 133, 3) := by decide +kernel
theorem d_Model_end_52 : decode b_Model_end 52 = .ok (.invokevirtual 143, 3) := by decide +kernel
theorem d_Model_end_55 : decode b_Model_end 55 = .ok (.iadd, 1) := by decide +kernel
theorem d_Model_end_56 : decode b_Model_end 56 = .ok (.istore_n 2, 1) := by decide +kernel
theorem d_Model_end_57 : decode b_Model_end 57 = .ok (.aload_n 0, 1) := by decide +kernel
theorem d_Model_end_58 : decode b_Model_end 58 = .ok (.dup, 1) := by decide +kernel
theorem d_Model_end_59 : decode b_Model_end 59 = .ok (.getfield 133, 3) := by decide +kernel
theorem d_Model_end_62 : decode b_Model_end 62 = .ok (.iconst 1, 1) := by decide +kernel
theorem d_Model_end_63 : decode b_Model_end 63 = .ok (.iadd, 1) := by decide +kernel
theorem d_Model_end_64 : decode b_Model_end 64 = .ok (.putfield 133, 3) := by decide +kernel
theorem d_Model_end_67 : decode b_Model_end 67 = .ok (.sipush 4097, 3) := by decide +kernel
theorem d_Model_end_70 : decode b_Model_end 70 = .ok (.istore_n 3, 1) := by decide +kernel
theorem d_Model_end_71 : decode b_Model_end 71 = .ok (.iload_n 3, 1) := by decide +kernel
theorem d_Model_end_72 : decode b_Model_end 72 = .ok (.iload_n 2, 1) := by decide +kernel
theorem d_Model_end_73 : decode b_Model_end 73 = .ok (.if_icmp .le 10, 3) := by decide +kernel
theorem d_Model_end_76 : decode b_Model_end 76 = .ok (.iload_n 3, 1) := by decide +kernel
theorem d_Model_end_77 : decode b_Model_end 77 = .ok (.iconst 1, 1) := by decide +kernel
theorem d_Model_end_78 : decode b_Model_end 78 = .ok (.ishr, 1) := by decide +kernel
theorem d_Model_end_79 : decode b_Model_end 79 = .ok (.istore_n 3, 1) := by decide +kernel
theorem d_Model_end_80 : decode b_Model_end 80 = .ok (.goto (-9), 3) := by decide +kernel
theorem d_Model_end_83 : decode b_Model_end 83 = .ok (.iload_n 3, 1) := by decide +kernel
theorem d_Model_end_84 : decode b_Model_end 84 = .ok (.iload_n 2, 1) := by decide +kernel
theorem d_Model_end_85 : decode b_Model_end 85 = .ok (.if_icmp .eq 9, 3) := by decide +kernel
theorem d_Model_end_88 : decode b_Model_end 88 = .ok (.aload_n 0, 1) := by decide +kernel
theorem d_Model_end_89 : decode b_Model_end 89 = .ok (.iconst 2, 1) := by decide +kernel
theorem d_Model_end_90 : decode b_Model_end 90 = .ok (.iload_n 1, 1) := by decide +kernel
theorem d_Model_end_91 : decode b_Model_end 91 = .ok (.invokevirtual 139, 3) := by decide +kernel
theorem d_Model_end_94 : decode b_Model_end 94 = .ok (.goto (-87), 3) := by decide +kernel
theorem d_Model_end_97 : decode b_Model_end 97 = .ok (.aload_n 0, 1) := by decide +kernel
theorem d_Model_end_98 : decode b_Model_end 98 = .ok (.aload_n 0, 1) := by decide +kernel
theorem d_Model_end_99 : decode b_Model_end 99 = .ok (.getfield 57, 3) := by decide +kernel
theorem d_Model_end_102 : decode b_Model_end 102 = .ok (.ifCond .le 7, 3) := by decide +kernel
theorem d_Model_end_105 : decode b_Model_end 105 = .ok (.iconst 0, 1) := by decide +kernel
theorem d_Model_end_106 : decode b_Model_end 106 = .ok (.goto 7, 3) := by decide +kernel
theorem d_Model_end_109 : decode b_Model_end 109 = .ok (.aload_n 0, 1) := by decide +kernel
theorem d_Model_end_110 : decode b_Model_end 110 = .ok (.getfield 57, 3) := by decide +kernel
theorem d_Model_end_113 : decode b_Model_end 113 = .ok (.putfield 57, 3) := by decide +kernel
theorem d_Model_end_116 : decode b_Model_end 116 = .ok (.return_, 1) := by decide +kernel
theorem d_Model_fill_0 : decode b_Model_fill 0 = .ok (.iload_n 1, 1) := by decide +kernel
theorem d_Model_fill_1 : decode b_Model_fill 1 = .ok (.ifCond .ge 7, 3) := by decide +kernel
theorem d_Model_fill_4 : decode b_Model_fill 4 = .ok (.iconst 0, 1) := by decide +kernel
theorem d_Model_fill_5 : decode b_Model_fill 5 = .ok (.goto 4, 3) := by decide +kernel
theorem d_Model_fill_8 : decode b_Model_fill 8 = .ok (.iload_n 1, 1) := by decide +kernel
theorem d_Model_fill_9 : decode b_Model_fill 9 = .ok (.istore 4, 2) := by decide +kernel
theorem d_Model_fill_11 : decode b_Model_fill 11 = .ok (.iload 4, 2) := by decide +kernel
theorem d_Model_fill_13 : decode b_Model_fill 13 = .ok (.iload_n 2, 1) := by decide +kernel
theorem d_Model_fill_14 : decode b_Model_fill 14 = .ok (.if_icmp .ge 17, 3) := by decide +kernel
theorem d_Model_fill_17 : decode b_Model_fill 17 = .ok (.aload_n 0, 1) := by decide +kernel
theorem d_Model_fill_18 : decode b_Model_fill 18 = .ok (.getfield 51, 3) := by decide +kernel
theorem d_Model_fill_21 : decode b_Model_fill 21 = .ok (.iload 4, 2) := by decide +kernel
theorem d_Model_fill_23 : decode b_Model_fill 23 = .ok (.iload_n 3, 1) := by decide +kernel
theorem d_Model_fill_24 : decode b_Model_fill 24 = .ok (.bastore, 1) := by decide +kernel
theorem d_Model_fill_25 : decode b_Model_fill 25 = .ok (.iinc 4 1, 3) := by decide +kernel
theorem d_Model_fill_28 : decode b_Model_fill 28 = .ok (.goto (-17), 3) := by decide +kernel
theorem d_Model_fill_31 : decode b_Model_fill 31 = .ok (.return_, 1) := by decide +kernel
theorem d_Model_readRun_0 : decode b_Model_readRun 0 = .ok (.iconst 0, 1) := by decide +kernel
theorem d_Model_readRun_1 : decode b_Model_readRun 1 = .ok (.istore_n 3, 1) := by decide +kernel
theorem d_Model_readRun_2 : decode b_Model_readRun 2 = .ok (.iconst 1, 1) := by decide +kernel
theorem d_Model_readRun_3 : decode b_Model_readRun 3 = .ok (.istore 4, 2) := by decide +kernel
theorem d_Model_readRun_5 : decode b_Model_readRun 5 = .ok (.iload 4, 2) := by decide +kernel
theorem d_Model_readRun_7 : decode b_Model_readRun 7 = .ok (.ifCond .eq 306, 3) := by decide +kernel
theorem d_Model_readRun_10 : decode b_Model_readRun 10 = .ok (.aload_n 0, 1) := by decide +kernel
theorem d_Model_readRun_11 : decode b_Model_readRun 11 = .ok (.getfield 57, 3) := by decide +kernel
theorem d_Model_readRun_14 : decode b_Model_readRun 14 = .ok (.ifCond .le 299, 3) := by decide +kernel
theorem d_Model_readRun_17 : decode b_Model_readRun 17 = .ok (.aload_n 0, 1) := by decide +kernel
theorem d_Model_readRun_18 : decode b_Model_readRun 18 = .ok (.getfield 133, 3) := by decide +kernel
theorem d_Model_readRun_21 : decode b_Model_readRun 21 = .ok (.istore 5, 2) := by decide +kernel
theorem d_Model_readRun_23 : decode b_Model_readRun 23 = .ok (.iconst 1, 1) := by decide +kernel
theorem d_Model_readRun_24 : decode b_Model_readRun 24 = .ok (.istore 6, 2) := by decide +kernel
theorem d_Model_readRun_26 : decode b_Model_readRun 26 = .ok (.iconst (-1), 1) := by decide +kernel
theorem d_Model_readRun_27 : decode b_Model_readRun 27 = .ok (.istore 7, 2) := by decide +kernel
theorem d_Model_readRun_29 : decode b_Model_readRun 29 = .ok (.iload 7, 2) := by decide +kernel
theorem d_Model_readRun_31 : decode b_Model_readRun 31 = .ok (.ifCond .ge 241, 3) := by decide +kernel
theorem d_Model_readRun_34 : decode b_Model_readRun 34 = .ok (.aload_n 0, 1) := by decide +kernel
theorem d_Model_readRun_35 : decode b_Model_readRun 35 = .ok (.getfield 57, 3) := by decide +kernel
theorem d_Model_readRun_38 : decode b_Model_readRun 38 = .ok (.ifCond .le 234, 3) := by decide +kernel
theorem d_Model_readRun_41 : decode b_Model_readRun 41 = .ok (.aload_n 0, 1) := by decide +kernel
theorem d_Model_readRun_42 : decode b_Model_readRun 42 = .ok (.getfield 133, 3) := by decide +kernel
theorem d_Model_readRun_45 : decode b_Model_readRun 45 = .ok (.bipush 8, 2) := by decide +kernel
theorem d_Model_readRun_47 : decode b_Model_readRun 47 = .ok (.aload_n 0, 1) := by decide +kernel
theorem d_Model_readRun_48 : decode b_Model_readRun 48 = .ok (.getfield 125, 3) := by decide +kernel
theorem d_Model_readRun_51 : decode b_Model_readRun 51 = .ok (.imul, 1) := by decide +kernel
theorem d_Model_readRun_52 : decode b_Model_readRun 52 = .ok (.if_icmp .ne 13, 3) := by decide +kernel
theorem d_Model_readRun_55 : decode b_Model_readRun 55 = .ok (.aload_n 0, 1) := by decide +kernel
theorem d_Model_readRun_56 : decode b_Model_readRun 56 = .ok (.iconst 1, 1) := by decide +kernel
theorem d_Model_readRun_57 : decode b_Model_readRun 57 = .ok (.iload 5, 2) := by decide +kernel
theorem d_Model_readRun_59 : decode b_Model_readRun 59 = .ok (.invokevirtual 139, 3) := by decide +kernel
theorem d_Model_readRun_62 : decode b_Model_readRun 62 = .ok (.goto (-33), 3) := by decide +kernel
theorem d_Model_readRun_65 : decode b_Model_readRun 65 = .ok (.iconst 2, 1) := by decide +kernel
theorem d_Model_readRun_66 : decode b_Model_readRun 66 = .ok (.iload 6, 2) := by decide +kernel
theorem d_Model_readRun_68 : decode b_Model_readRun 68 = .ok (.imul, 1) := by decide +kernel
theorem d_Model_readRun_69 : decode b_Model_readRun 69 = .ok (.aload_n 0, 1) := by decide +kernel
theorem d_Model_readRun_70 : decode b_Model_readRun 70 = .ok (.aload_n 0, 1) := by decide +kernel
theorem d_Model_readRun_71 : decode b_Model_readRun 71 = .ok (.getfield 133, 3) := by decide +kernel
theorem d_Model_readRun_74 : decode b_Model_readRun 74 = .ok (.invokevirtual 143, 3) := by decide +kernel
theorem d_Model_readRun_77 : decode b_Model_readRun 77 = .ok (.iadd, 1) := by decide +kernel
theorem d_Model_readRun_78 : decode b_Model_readRun 78 = .ok (.istore 6, 2) := by decide +kernel
theorem d_Model_readRun_80 : decode b_Model_readRun 80 = .ok (.aload_n 0, 1) := by decide +kernel
theorem d_Model_readRun_81 : decode b_Model_readRun 81 = .ok (.dup, 1) := by decide +kernel
theorem d_Model_readRun_82 : decode b_Model_readRun 82 = .ok (.getfield 133, 3) := by decide +kernel
theorem d_Model_readRun_85 : decode b_Model_readRun 85 = .ok (.iconst 1, 1) := by decide +kernel
theorem d_Model_readRun_86 : decode b_Model_readRun 86 = .ok (.iadd, 1) := by decide +kernel
theorem d_Model_readRun_87 : decode b_Model_readRun 87 = .ok (.putfield 133, 3) := by decide +kernel
theorem d_Model_readRun_90 : decode b_Model_readRun 90 = .ok (.iload_n 2, 1) := by decide +kernel
theorem d_Model_readRun_91 : decode b_Model_readRun 91 = .ok (.ifCond .eq 10, 3) := by decide +kernel
theorem d_Model_readRun_94 : decode b_Model_readRun 94 = .ok (.aload_n 0, 1) := by decide +kernel
theorem d_Model_readRun_95 : decode b_Model_readRun 95 = .ok (.getfield 13, 3) := by decide +kernel
theorem d_Model_readRun_98 : decode b_Model_readRun 98 = .ok (.goto 7, 3) := by decide +kernel
theorem d_Model_readRun_101 : decode b_Model_readRun 101 = .ok (.aload_n 0, 1) := by decide +kernel
theorem d_Model_readRun_102 : decode b_Model_readRun 102 = .ok (.getfield 7, 3) := by decide +kernel
theorem d_Model_readRun_105 : decode b_Model_readRun 105 = .ok (.astore 8, 2) := by decide +kernel
theorem d_Model_readRun_107 : decode b_Model_readRun 107 = .ok (.iload_n 2, 1) := by decide +kernel
theorem d_Model_readRun_108 : decode b_Model_readRun 108 = .ok (.ifCond .eq 10, 3) := by decide +kernel
theorem d_Model_readRun_111 : decode b_Model_readRun 111 = .ok (.aload_n 0, 1) := by decide +kernel
theorem d_Model_readRun_112 : decode b_Model_readRun 112 = .ok (.getfield 19, 3) := by decide +kernel
theorem d_Model_readRun_115 : decode b_Model_readRun 115 = .ok (.goto 7, 3) := by decide +kernel
theorem d_Model_readRun_118 : decode b_Model_readRun 118 = .ok (.aload_n 0, 1) := by decide +kernel
theorem d_Model_readRun_119 : decode b_Model_readRun 119 = .ok (.getfield 16, 3) := by decide +kernel
theorem d_Model_readRun_122 : decode b_Model_readRun 122 = .ok (.astore 9, 2) := by decide +kernel
theorem d_Model_readRun_124 : decode b_Model_readRun 124 = .ok (.aload 8, 2) := by decide +kernel
theorem d_Model_readRun_126 : decode b_Model_readRun 126 = .ok (.bipush 64, 2) := by decide +kernel
theorem d_Model_readRun_128 : decode b_Model_readRun 128 = .ok (.iload 6, 2) := by decide +kernel
theorem d_Model_readRun_130 : decode b_Model_readRun 130 = .ok (.invokestatic 147, 3) := by decide +kernel
theorem d_Model_readRun_133 : decode b_Model_readRun 133 = .ok (.istore 10, 2) := by decide +kernel
theorem d_Model_readRun_135 : decode b_Model_readRun 135 = .ok (.aload 9, 2) := by decide +kernel
theorem d_Model_readRun_137 : decode b_Model_readRun 137 = .ok (.bipush 27, 2) := by decide +kernel
theorem d_Model_readRun_139 : decode b_Model_readRun 139 = .ok (.iload 6, 2) := by decide +kernel
theorem d_Model_readRun_141 : decode b_Model_readRun 141 = .ok (.invokestatic 147, 3) := by decide +kernel
theorem d_Model_readRun_144 : decode b_Model_readRun 144 = .ok (.istore 11, 2) := by decide +kernel
theorem d_Model_readRun_146 : decode b_Model_readRun 146 = .ok (.aload_n 0, 1) := by decide +kernel
theorem d_Model_readRun_147 : decode b_Model_readRun 147 = .ok (.getfield 22, 3) := by decide +kernel
theorem d_Model_readRun_150 : decode b_Model_readRun 150 = .ok (.bipush 13, 2) := by decide +kernel
theorem d_Model_readRun_152 : decode b_Model_readRun 152 = .ok (.iload 6, 2) := by decide +kernel
theorem d_Model_readRun_154 : decode b_Model_readRun 154 = .ok (.invokestatic 147, 3) := by decide +kernel
theorem d_Model_readRun_157 : decode b_Model_readRun 157 = .ok (.istore 12, 2) := by decide +kernel
theorem d_Model_readRun_159 : decode b_Model_readRun 159 = .ok (.iload 10, 2) := by decide +kernel
theorem d_Model_readRun_161 : decode b_Model_readRun 161 = .ok (.ifCond .ge 7, 3) := by decide +kernel
theorem d_Model_readRun_164 : decode b_Model_readRun 164 = .ok (.iconst 1, 1) := by decide +kernel
theorem d_Model_readRun_165 : decode b_Model_readRun 165 = .ok (.goto 4, 3) := by decide +kernel
theorem d_Model_readRun_168 : decode b_Model_readRun 168 = .ok (.iconst 0, 1) := by decide +kernel
theorem d_Model_readRun_169 : decode b_Model_readRun 169 = .ok (.istore 4, 2) := by decide +kernel
theorem d_Model_readRun_171 : decode b_Model_readRun 171 = .ok (.iload 10, 2) := by decide +kernel
theorem d_Model_readRun_173 : decode b_Model_readRun 173 = .ok (.ifCond .lt 8, 3) := by decide +kernel
theorem d_Model_readRun_176 : decode b_Model_readRun 176 = .ok (.iload 10, 2) := by decide +kernel
theorem d_Model_readRun_178 : decode b_Model_readRun 178 = .ok (.goto 36, 3) := by decide +kernel
theorem d_Model_readRun_181 : decode b_Model_readRun 181 = .ok (.iload 11, 2) := by decide +kernel
theorem d_Model_readRun_183 : decode b_Model_readRun 183 = .ok (.ifCond .lt 13, 3) := by decide +kernel
theorem d_Model_readRun_186 : decode b_Model_readRun 186 = .ok (.bipush 64, 2) := by decide +kernel
theorem d_Model_readRun_188 : decode b_Model_readRun 188 = .ok (.iload 11, 2) := by decide +kernel
theorem d_Model_readRun_190 : decode b_Model_readRun 190 = .ok (.iconst 1, 1) := by decide +kernel
theorem d_Model_readRun_191 : decode b_Model_readRun 191 = .ok (.iadd, 1) := by decide +kernel
theorem d_Model_readRun_192 : decode b_Model_readRun 192 = .ok (.imul, 1) := by decide +kernel
theorem d_Model_readRun_193 : decode b_Model_readRun 193 = .ok (.goto 21, 3) := by decide +kernel
theorem d_Model_readRun_196 : decode b_Model_readRun 196 = .ok (.iload 12, 2) := by decide +kernel
theorem d_Model_readRun_198 : decode b_Model_readRun 198 = .ok (.ifCond .lt 15, 3) := by decide +kernel
theorem d_Model_readRun_201 : decode b_Model_readRun 201 = .ok (.sipush 1792, 3) := by decide +kernel
theorem d_Model_readRun_204 : decode b_Model_readRun 204 = .ok (.bipush 64, 2) := by decide +kernel
theorem d_Model_readRun_206 : decode b_Model_readRun 206 = .ok (.iload 12, 2) := by decide +kernel
theorem d_Model_readRun_208 : decode b_Model_readRun 208 = .ok (.imul, 1) := by decide +kernel
theorem d_Model_readRun_209 : decode b_Model_readRun 209 = .ok (.iadd, 1) := by decide +kernel
theorem d_Model_readRun_210 : decode b_Model_readRun 210 = .ok (.goto 4, 3) := by decide +kernel
theorem d_Model_readRun_213 : decode b_Model_readRun 213 = .ok (.iconst (-1), 1) := by decide +kernel
theorem d_Model_readRun_214 : decode b_Model_readRun 214 = .ok (.istore 7, 2) := by decide +kernel
theorem d_Model_readRun_216 : decode b_Model_readRun 216 = .ok (.iload 7, 2) := by decide +kernel
theorem d_Model_readRun_218 : decode b_Model_readRun 218 = .ok (.ifCond .ge 51, 3) := by decide +kernel
theorem d_Model_readRun_221 : decode b_Model_readRun 221 = .ok (.aload_n 0, 1) := by decide +kernel
theorem d_Model_readRun_222 : decode b_Model_readRun 222 = .ok (.aload 8, 2) := by decide +kernel
theorem d_Model_readRun_224 : decode b_Model_readRun 224 = .ok (.bipush 64, 2) := by decide +kernel
theorem d_Model_readRun_226 : decode b_Model_readRun 226 = .ok (.iload 6, 2) := by decide +kernel
theorem d_Model_readRun_228 : decode b_Model_readRun 228 = .ok (.invokevirtual 151, 3) := by decide +kernel
theorem d_Model_readRun_231 : decode b_Model_readRun 231 = .ok (.ifCond .ne 38, 3) := by decide +kernel
theorem d_Model_readRun_234 : decode b_Model_readRun 234 = .ok (.aload_n 0, 1) := by decide +kernel
theorem d_Model_readRun_235 : decode b_Model_readRun 235 = .ok (.aload 9, 2) := by decide +kernel
theorem d_Model_readRun_237 : decode b_Model_readRun 237 = .ok (.bipush 27, 2) := by decide +kernel
theorem d_Model_readRun_239 : decode b_Model_readRun 239 = .ok (.iload 6, 2) := by decide +kernel
theorem d_Model_readRun_241 : decode b_Model_readRun 241 = .ok (.invokevirtual 151, 3) := by decide +kernel
theorem d_Model_readRun_244 : decode b_Model_readRun 244 = .ok (.ifCond .ne 25, 3) := by decide +kernel
theorem d_Model_readRun_247 : decode b_Model_readRun 247 = .ok (.aload_n 0, 1) := by decide +kernel
theorem d_Model_readRun_248 : decode b_Model_readRun 248 = .ok (.aload_n 0, 1) := by decide +kernel
theorem d_Model_readRun_249 : decode b_Model_readRun 249 = .ok (.getfield 22, 3) := by decide +kernel
theorem d_Model_readRun_252 : decode b_Model_readRun 252 = .ok (.bipush 13, 2) := by decide +kernel
theorem d_Model_readRun_254 : decode b_Model_readRun 254 = .ok (.iload 6, 2) := by decide +kernel
theorem d_Model_readRun_256 : decode b_Model_readRun 256 = .ok (.invokevirtual 151, 3) := by decide +kernel
theorem d_Model_readRun_259 : decode b_Model_readRun 259 = .ok (.ifCond .ne 10, 3) := by decide +kernel
theorem d_Model_readRun_262 : decode b_Model_readRun 262 = .ok (.aload_n 0, 1) := by decide +kernel
theorem d_Model_readRun_263 : decode b_Model_readRun 263 = .ok (.iconst 2, 1) := by decide +kernel
theorem d_Model_readRun_264 : decode b_Model_readRun 264 = .ok (.iload 5, 2) := by decide +kernel
theorem d_Model_readRun_266 : decode b_Model_readRun 266 = .ok (.invokevirtual 139, 3) := by decide +kernel
theorem d_Model_readRun_269 : decode b_Model_readRun 269 = .ok (.goto (-240), 3) := by decide +kernel
theorem d_Model_readRun_272 : decode b_Model_readRun 272 = .ok (.iload_n 3, 1) := by decide +kernel
theorem d_Model_readRun_273 : decode b_Model_readRun 273 = .ok (.iload 7, 2) := by decide +kernel
theorem d_Model_readRun_275 : decode b_Model_readRun 275 = .ok (.ifCond .ge 7, 3) := by decide +kernel
theorem d_Model_readRun_278 : decode b_Model_readRun 278 = .ok (.iconst 0, 1) := by decide +kernel
theorem d_Model_readRun_279 : decode b_Model_readRun 279 = .ok (.goto 5, 3) := by decide +kernel
theorem d_Model_readRun_282 : decode b_Model_readRun 282 = .ok (.iload 7, 2) := by decide +kernel
theorem d_Model_readRun_284 : decode b_Model_readRun 284 = .ok (.iadd, 1) := by decide +kernel
theorem d_Model_readRun_285 : decode b_Model_readRun 285 = .ok (.istore_n 3, 1) := by decide +kernel
theorem d_Model_readRun_286 : decode b_Model_readRun 286 = .ok (.aload_n 0, 1) := by decide +kernel
theorem d_Model_readRun_287 : decode b_Model_readRun 287 = .ok (.getfield 57, 3) := by decide +kernel
theorem d_Model_readRun_290 : decode b_Model_readRun 290 = .ok (.ifCond .le 20, 3) := by decide +kernel
theorem d_Model_readRun_293 : decode b_Model_readRun 293 = .ok (.iload_n 1, 1) := by decide +kernel
theorem d_Model_readRun_294 : decode b_Model_readRun 294 = .ok (.iload_n 3, 1) := by decide +kernel
theorem d_Model_readRun_295 : decode b_Model_readRun 295 = .ok (.iadd, 1) := by decide +kernel
theorem d_Model_readRun_296 : decode b_Model_readRun 296 = .ok (.aload_n 0, 1) := by decide +kernel
theorem d_Model_readRun_297 : decode b_Model_readRun 297 = .ok (.getfield 41, 3) := by decide +kernel
theorem d_Model_readRun_300 : decode b_Model_readRun 300 = .ok (.if_icmp .le 10, 3) := by decide +kernel
theorem d_Model_readRun_303 : decode b_Model_readRun 303 = .ok (.aload_n 0, 1) := by decide +kernel
theorem d_Model_readRun_304 : decode b_Model_readRun 304 = .ok (.iconst 5, 1) := by decide +kernel
theorem d_Model_readRun_305 : decode b_Model_readRun 305 = .ok (.iload 5, 2) := by decide +kernel
theorem d_Model_readRun_307 : decode b_Model_readRun 307 = .ok (.invokevirtual 139, 3) := by decide +kernel
theorem d_Model_readRun_310 : decode b_Model_readRun 310 = .ok (.goto (-305), 3) := by decide +kernel
theorem d_Model_readRun_313 : decode b_Model_readRun 313 = .ok (.iload_n 3, 1) := by decide +kernel
theorem d_Model_readRun_314 : decode b_Model_readRun 314 = .ok (.ireturn, 1) := by decide +kernel
theorem d_Model_black_0 : decode b_Model_black 0 = .ok (.aload_n 0, 1) := by decide +kernel
theorem d_Model_black_1 : decode b_Model_black 1 = .ok (.iload_n 1, 1) := by decide +kernel
theorem d_Model_black_2 : decode b_Model_black 2 = .ok (.ifCond .lt 11, 3) := by decide +kernel
theorem d_Model_black_5 : decode b_Model_black 5 = .ok (.iload_n 1, 1) := by decide +kernel
theorem d_Model_black_6 : decode b_Model_black 6 = .ok (.aload_n 0, 1) := by decide +kernel
theorem d_Model_black_7 : decode b_Model_black 7 = .ok (.getfield 41, 3) := by decide +kernel
theorem d_Model_black_10 : decode b_Model_black 10 = .ok (.if_icmp .lt 7, 3) := by decide +kernel
theorem d_Model_black_13 : decode b_Model_black 13 = .ok (.iconst 1, 1) := by decide +kernel
theorem d_Model_black_14 : decode b_Model_black 14 = .ok (.goto 4, 3) := by decide +kernel
theorem d_Model_black_17 : decode b_Model_black 17 = .ok (.iconst 0, 1) := by decide +kernel
theorem d_Model_black_18 : decode b_Model_black 18 = .ok (.putfield 60, 3) := by decide +kernel
theorem d_Model_black_21 : decode b_Model_black 21 = .ok (.aload_n 0, 1) := by decide +kernel
theorem d_Model_black_22 : decode b_Model_black 22 = .ok (.getfield 60, 3) := by decide +kernel
theorem d_Model_black_25 : decode b_Model_black 25 = .ok (.ifCond .ne 16, 3) := by decide +kernel
theorem d_Model_black_28 : decode b_Model_black 28 = .ok (.aload_n 0, 1) := by decide +kernel
theorem d_Model_black_29 : decode b_Model_black 29 = .ok (.getfield 54, 3) := by decide +kernel
theorem d_Model_black_32 : decode b_Model_black 32 = .ok (.iload_n 1, 1) := by decide +kernel
theorem d_Model_black_33 : decode b_Model_black 33 = .ok (.baload, 1) := by decide +kernel
theorem d_Model_black_34 : decode b_Model_black 34 = .ok (.ifCond .eq 7, 3) := by decide +kernel
theorem d_Model_black_37 : decode b_Model_black 37 = .ok (.iconst 1, 1) := by decide +kernel
theorem d_Model_black_38 : decode b_Model_black 38 = .ok (.goto 4, 3) := by decide +kernel
theorem d_Model_black_41 : decode b_Model_black 41 = .ok (.iconst 0, 1) := by decide +kernel
theorem d_Model_black_42 : decode b_Model_black 42 = .ok (.ireturn, 1) := by decide +kernel
theorem d_Model_dots_0 : decode b_Model_dots 0 = .ok (.aload_n 0, 1) := by decide +kernel
theorem d_Model_dots_1 : decode b_Model_dots 1 = .ok (.iconst 0, 1) := by decide +kernel
theorem d_Model_dots_2 : decode b_Model_dots 2 = .ok (.putfield 60, 3) := by decide +kernel
theorem d_Model_dots_5 : decode b_Model_dots 5 = .ok (.lconst 0, 1) := by decide +kernel
theorem d_Model_dots_6 : decode b_Model_dots 6 = .ok (.lstore_n 2, 1) := by decide +kernel
theorem d_Model_dots_7 : decode b_Model_dots 7 = .ok (.iconst 0, 1) := by decide +kernel
theorem d_Model_dots_8 : decode b_Model_dots 8 = .ok (.istore 4, 2) := by decide +kernel
theorem d_Model_dots_10 : decode b_Model_dots 10 = .ok (.iload 4, 2) := by decide +kernel
theorem d_Model_dots_12 : decode b_Model_dots 12 = .ok (.bipush 64, 2) := by decide +kernel
theorem d_Model_dots_14 : decode b_Model_dots 14 = .ok (.if_icmp .ge 81, 3) := by decide +kernel
theorem d_Model_dots_17 : decode b_Model_dots 17 = .ok (.ldc2_w 175, 3) := by decide +kernel
theorem d_Model_dots_20 : decode b_Model_dots 20 = .ok (.iload_n 1, 1) := by decide +kernel
theorem d_Model_dots_21 : decode b_Model_dots 21 = .ok (.i2l, 1) := by decide +kernel
theorem d_Model_dots_22 : decode b_Model_dots 22 = .ok (.lmul, 1) := by decide +kernel
theorem d_Model_dots_23 : decode b_Model_dots 23 = .ok (.iload 4, 2) := by decide +kernel
theorem d_Model_dots_25 : decode b_Model_dots 25 = .ok (.i2l, 1) := by decide +kernel
theorem d_Model_dots_26 : decode b_Model_dots 26 = .ok (.ladd, 1) := by decide +kernel
theorem d_Model_dots_27 : decode b_Model_dots 27 = .ok (.lstore 5, 2) := by decide +kernel
theorem d_Model_dots_29 : decode b_Model_dots 29 = .ok (.lload 5, 2) := by decide +kernel
theorem d_Model_dots_31 : decode b_Model_dots 31 = .ok (.lconst 0, 1) := by decide +kernel
theorem d_Model_dots_32 : decode b_Model_dots 32 = .ok (.lcmp, 1) := by decide +kernel
theorem d_Model_dots_33 : decode b_Model_dots 33 = .ok (.ifCond .lt 18, 3) := by decide +kernel
theorem d_Model_dots_36 : decode b_Model_dots 36 = .ok (.lload 5, 2) := by decide +kernel
theorem d_Model_dots_38 : decode b_Model_dots 38 = .ok (.aload_n 0, 1) := by decide +kernel
theorem d_Model_dots_39 : decode b_Model_dots 39 = .ok (.getfield 41, 3) := by decide +kernel
theorem d_Model_dots_42 : decode b_Model_dots 42 = .ok (.i2l, 1) := by decide +kernel
theorem d_Model_dots_43 : decode b_Model_dots 43 = .ok (.lcmp, 1) := by decide +kernel
theorem d_Model_dots_44 : decode b_Model_dots 44 = .ok (.ifCond .ge 7, 3) := by decide +kernel
theorem d_Model_dots_47 : decode b_Model_dots 47 = .ok (.iconst 1, 1) := by decide +kernel
theorem d_Model_dots_48 : decode b_Model_dots 48 = .ok (.goto 4, 3) := by decide +kernel
theorem d_Model_dots_51 : decode b_Model_dots 51 = .ok (.iconst 0, 1) := by decide +kernel
theorem d_Model_dots_52 : decode b_Model_dots 52 = .ok (.istore 7, 2) := by decide +kernel
theorem d_Model_dots_54 : decode b_Model_dots 54 = .ok (.lload_n 2, 1) := by decide +kernel
theorem d_Model_dots_55 : decode b_Model_dots 55 = .ok (.iconst 1, 1) := by decide +kernel
theorem d_Model_dots_56 : decode b_Model_dots 56 = .ok (.lshl, 1) := by decide +kernel
theorem d_Model_dots_57 : decode b_Model_dots 57 = .ok (.iload 7, 2) := by decide +kernel
theorem d_Model_dots_59 : decode b_Model_dots 59 = .ok (.ifCond .eq 27, 3) := by decide +kernel
theorem d_Model_dots_62 : decode b_Model_dots 62 = .ok (.aload_n 0, 1) := by decide +kernel
theorem d_Model_dots_63 : decode b_Model_dots 63 = .ok (.getfield 54, 3) := by decide +kernel
theorem d_Model_dots_66 : decode b_Model_dots 66 = .ok (.iload 7, 2) := by decide +kernel
theorem d_Model_dots_68 : decode b_Model_dots 68 = .ok (.ifCond .eq 9, 3) := by decide +kernel
theorem d_Model_dots_71 : decode b_Model_dots 71 = .ok (.lload 5, 2) := by decide +kernel
theorem d_Model_dots_73 : decode b_Model_dots 73 = .ok (.l2i, 1) := by decide +kernel
theorem d_Model_dots_74 : decode b_Model_dots 74 = .ok (.goto 4, 3) := by decide +kernel
theorem d_Model_dots_77 : decode b_Model_dots 77 = .ok (.iconst 0, 1) := by decide +kernel
theorem d_Model_dots_78 : decode b_Model_dots 78 = .ok (.baload, 1) := by decide +kernel
theorem d_Model_dots_79 : decode b_Model_dots 79 = .ok (.ifCond .eq 7, 3) := by decide +kernel
theorem d_Model_dots_82 : decode b_Model_dots 82 = .ok (.lconst 1, 1) := by decide +kernel
theorem d_Model_dots_83 : decode b_Model_dots 83 = .ok (.goto 4, 3) := by decide +kernel
theorem d_Model_dots_86 : decode b_Model_dots 86 = .ok (.lconst 0, 1) := by decide +kernel
theorem d_Model_dots_87 : decode b_Model_dots 87 = .ok (.lor, 1) := by decide +kernel
theorem d_Model_dots_88 : decode b_Model_dots 88 = .ok (.lstore_n 2, 1) := by decide +kernel
theorem d_Model_dots_89 : decode b_Model_dots 89 = .ok (.iinc 4 1, 3) := by decide +kernel
theorem d_Model_dots_92 : decode b_Model_dots 92 = .ok (.goto (-82), 3) := by decide +kernel
theorem d_Model_dots_95 : decode b_Model_dots 95 = .ok (.lload_n 2, 1) := by decide +kernel
theorem d_Model_dots_96 : decode b_Model_dots 96 = .ok (.lreturn, 1) := by decide +kernel
theorem d_Model_change_0 : decode b_Model_change 0 = .ok (.aload_n 0, 1) := by decide +kernel
theorem d_Model_change_1 : decode b_Model_change 1 = .ok (.iconst 0, 1) := by decide +kernel
theorem d_Model_change_2 : decode b_Model_change 2 = .ok (.putfield 60, 3) := by decide +kernel
theorem d_Model_change_5 : decode b_Model_change 5 = .ok (.iconst 0, 1) := by decide +kernel
theorem d_Model_change_6 : decode b_Model_change 6 = .ok (.istore_n 2, 1) := by decide +kernel
theorem d_Model_change_7 : decode b_Model_change 7 = .ok (.iconst 0, 1) := by decide +kernel
theorem d_Model_change_8 : decode b_Model_change 8 = .ok (.istore_n 3, 1) := by decide +kernel
theorem d_Model_change_9 : decode b_Model_change 9 = .ok (.iload_n 3, 1) := by decide +kernel
theorem d_Model_change_10 : decode b_Model_change 10 = .ok (.aload_n 0, 1) := by decide +kernel
theorem d_Model_change_11 : decode b_Model_change 11 = .ok (.getfield 41, 3) := by decide +kernel
theorem d_Model_change_14 : decode b_Model_change 14 = .ok (.if_icmp .ge 60, 3) := by decide +kernel
theorem d_Model_change_17 : decode b_Model_change 17 = .ok (.iload_n 3, 1) := by decide +kernel
theorem d_Model_change_18 : decode b_Model_change 18 = .ok (.ifCond .le 26, 3) := by decide +kernel
theorem d_Model_change_21 : decode b_Model_change 21 = .ok (.aload_n 0, 1) := by decide +kernel
theorem d_Model_change_22 : decode b_Model_change 22 = .ok (.getfield 54, 3) := by decide +kernel
theorem d_Model_change_25 : decode b_Model_change 25 = .ok (.iload_n 3, 1) := by decide +kernel
theorem d_Model_change_26 : decode b_Model_change 26 = .ok (.ifCond .le 9, 3) := by decide +kernel
theorem d_Model_change_29 : decode b_Model_change 29 = .ok (.iload_n 3, 1) := by decide +kernel
theorem d_Model_change_30 : decode b_Model_change 30 = .ok (.iconst 1, 1) := by decide +kernel
theorem d_Model_change_31 : decode b_Model_change 31 = .ok (.isub, 1) := by decide +kernel
theorem d_Model_change_32 : decode b_Model_change 32 = .ok (.goto 4, 3) := by decide +kernel
theorem d_Model_change_35 : decode b_Model_change 35 = .ok (.iconst 0, 1) := by decide +kernel
theorem d_Model_change_36 : decode b_Model_change 36 = .ok (.baload, 1) := by decide +kernel
theorem d_Model_change_37 : decode b_Model_change 37 = .ok (.ifCond .eq 7, 3) := by decide +kernel
theorem d_Model_change_40 : decode b_Model_change 40 = .ok (.iconst 1, 1) := by decide +kernel
theorem d_Model_change_41 : decode b_Model_change 41 = .ok (.goto 4, 3) := by decide +kernel
theorem d_Model_change_44 : decode b_Model_change 44 = .ok (.iconst 0, 1) := by decide +kernel
theorem d_Model_change_45 : decode b_Model_change 45 = .ok (.istore 4, 2) := by decide +kernel
theorem d_Model_change_47 : decode b_Model_change 47 = .ok (.aload_n 0, 1) := by decide +kernel
theorem d_Model_change_48 : decode b_Model_change 48 = .ok (.getfield 54, 3) := by decide +kernel
theorem d_Model_change_51 : decode b_Model_change 51 = .ok (.iload_n 3, 1) := by decide +kernel
theorem d_Model_change_52 : decode b_Model_change 52 = .ok (.baload, 1) := by decide +kernel
theorem d_Model_change_53 : decode b_Model_change 53 = .ok (.iload 4, 2) := by decide +kernel
theorem d_Model_change_55 : decode b_Model_change 55 = .ok (.if_icmp .eq 13, 3) := by decide +kernel
theorem d_Model_change_58 : decode b_Model_change 58 = .ok (.iload_n 2, 1) := by decide +kernel
theorem d_Model_change_59 : decode b_Model_change 59 = .ok (.iload_n 1, 1) := by decide +kernel
theorem d_Model_change_60 : decode b_Model_change 60 = .ok (.if_icmp .ne 5, 3) := by decide +kernel
theorem d_Model_change_63 : decode b_Model_change 63 = .ok (.iload_n 3, 1) := by decide +kernel
theorem d_Model_change_64 : decode b_Model_change 64 = .ok (.ireturn, 1) := by decide +kernel
theorem d_Model_change_65 : decode b_Model_change 65 = .ok (.iinc 2 1, 3) := by decide +kernel
theorem d_Model_change_68 : decode b_Model_change 68 = .ok (.iinc 3 1, 3) := by decide +kernel
theorem d_Model_change_71 : decode b_Model_change 71 = .ok (.goto (-62), 3) := by decide +kernel
theorem d_Model_change_74 : decode b_Model_change 74 = .ok (.iload_n 1, 1) := by decide +kernel
theorem d_Model_change_75 : decode b_Model_change 75 = .ok (.iconst (-1), 1) := by decide +kernel
theorem d_Model_change_76 : decode b_Model_change 76 = .ok (.if_icmp .ne 7, 3) := by decide +kernel
theorem d_Model_change_79 : decode b_Model_change 79 = .ok (.iload_n 2, 1) := by decide +kernel
theorem d_Model_change_80 : decode b_Model_change 80 = .ok (.goto 4, 3) := by decide +kernel
theorem d_Model_change_83 : decode b_Model_change 83 = .ok (.iconst (-1), 1) := by decide +kernel
theorem d_Model_change_84 : decode b_Model_change 84 = .ok (.ireturn, 1) := by decide +kernel
theorem d_Model_look_0 : decode b_Model_look 0 = .ok (.aload_n 0, 1) := by decide +kernel
theorem d_Model_look_1 : decode b_Model_look 1 = .ok (.iconst 0, 1) := by decide +kernel
theorem d_Model_look_2 : decode b_Model_look 2 = .ok (.putfield 60, 3) := by decide +kernel
theorem d_Model_look_5 : decode b_Model_look 5 = .ok (.iload_n 1, 1) := by decide +kernel
theorem d_Model_look_6 : decode b_Model_look 6 = .ok (.tableswitch 112 0 9 #[54, 59, 64, 77, 82, 87, 92, 97, 102, 107], 54) := by decide +kernel
theorem d_Model_look_60 : decode b_Model_look 60 = .ok (.aload_n 0, 1) := by decide +kernel
theorem d_Model_look_61 : decode b_Model_look 61 = .ok (.getfield 41, 3) := by decide +kernel
theorem d_Model_look_64 : decode b_Model_look 64 = .ok (.ireturn, 1) := by decide +kernel
theorem d_Model_look_65 : decode b_Model_look 65 = .ok (.aload_n 0, 1) := by decide +kernel
theorem d_Model_look_66 : decode b_Model_look 66 = .ok (.getfield 90, 3) := by decide +kernel
theorem d_Model_look_69 : decode b_Model_look 69 = .ok (.ireturn, 1) := by decide +kernel
theorem d_Model_look_70 : decode b_Model_look 70 = .ok (.aload_n 0, 1) := by decide +kernel
theorem d_Model_look_71 : decode b_Model_look 71 = .ok (.getfield 96, 3) := by decide +kernel
theorem d_Model_look_74 : decode b_Model_look 74 = .ok (.ifCond .eq 7, 3) := by decide +kernel
theorem d_Model_look_77 : decode b_Model_look 77 = .ok (.iconst 1, 1) := by decide +kernel
theorem d_Model_look_78 : decode b_Model_look 78 = .ok (.goto 4, 3) := by decide +kernel
theorem d_Model_look_81 : decode b_Model_look 81 = .ok (.iconst 0, 1) := by decide +kernel
theorem d_Model_look_82 : decode b_Model_look 82 = .ok (.ireturn, 1) := by decide +kernel
theorem d_Model_look_83 : decode b_Model_look 83 = .ok (.aload_n 0, 1) := by decide +kernel
theorem d_Model_look_84 : decode b_Model_look 84 = .ok (.getfield 125, 3) := by decide +kernel
theorem d_Model_look_87 : decode b_Model_look 87 = .ok (.ireturn, 1) := by decide +kernel
theorem d_Model_look_88 : decode b_Model_look 88 = .ok (.aload_n 0, 1) := by decide +kernel
theorem d_Model_look_89 : decode b_Model_look 89 = .ok (.getfield 136, 3) := by decide +kernel
theorem d_Model_look_92 : decode b_Model_look 92 = .ok (.ireturn, 1) := by decide +kernel
theorem d_Model_look_93 : decode b_Model_look 93 = .ok (.aload_n 0, 1) := by decide +kernel
theorem d_Model_look_94 : decode b_Model_look 94 = .ok (.getfield 112, 3) := by decide +kernel
theorem d_Model_look_97 : decode b_Model_look 97 = .ok (.ireturn, 1) := by decide +kernel
theorem d_Model_look_98 : decode b_Model_look 98 = .ok (.aload_n 0, 1) := by decide +kernel
theorem d_Model_look_99 : decode b_Model_look 99 = .ok (.getfield 103, 3) := by decide +kernel
theorem d_Model_look_102 : decode b_Model_look 102 = .ok (.ireturn, 1) := by decide +kernel
theorem d_Model_look_103 : decode b_Model_look 103 = .ok (.aload_n 0, 1) := by decide +kernel
theorem d_Model_look_104 : decode b_Model_look 104 = .ok (.getfield 106, 3) := by decide +kernel
theorem d_Model_look_107 : decode b_Model_look 107 = .ok (.ireturn, 1) := by decide +kernel
theorem d_Model_look_108 : decode b_Model_look 108 = .ok (.aload_n 0, 1) := by decide +kernel
theorem d_Model_look_109 : decode b_Model_look 109 = .ok (.getfield 109, 3) := by decide +kernel
theorem d_Model_look_112 : decode b_Model_look 112 = .ok (.ireturn, 1) := by decide +kernel
theorem d_Model_look_113 : decode b_Model_look 113 = .ok (.aload_n 0, 1) := by decide +kernel
theorem d_Model_look_114 : decode b_Model_look 114 = .ok (.getfield 133, 3) := by decide +kernel
theorem d_Model_look_117 : decode b_Model_look 117 = .ok (.ireturn, 1) := by decide +kernel
theorem d_Model_look_118 : decode b_Model_look 118 = .ok (.iconst (-1), 1) := by decide +kernel
theorem d_Model_look_119 : decode b_Model_look 119 = .ok (.ireturn, 1) := by decide +kernel

theorem d_Bits_init_0 : decode b_Bits_init 0 = .ok (.aload_n 0, 1) := by decide +kernel
theorem d_Bits_init_1 : decode b_Bits_init 1 = .ok (.invokespecial 1, 3) := by decide +kernel
theorem d_Bits_init_4 : decode b_Bits_init 4 = .ok (.aload_n 0, 1) := by decide +kernel
theorem d_Bits_init_5 : decode b_Bits_init 5 = .ok (.sipush 8192, 3) := by decide +kernel
theorem d_Bits_init_8 : decode b_Bits_init 8 = .ok (.newarray .long, 2) := by decide +kernel
theorem d_Bits_init_10 : decode b_Bits_init 10 = .ok (.putfield 9, 3) := by decide +kernel
theorem d_Bits_init_13 : decode b_Bits_init 13 = .ok (.return_, 1) := by decide +kernel
theorem d_Line_init_0 : decode b_Line_init 0 = .ok (.aload_n 0, 1) := by decide +kernel
theorem d_Line_init_1 : decode b_Line_init 1 = .ok (.invokespecial 1, 3) := by decide +kernel
theorem d_Line_init_4 : decode b_Line_init 4 = .ok (.aload_n 0, 1) := by decide +kernel
theorem d_Line_init_5 : decode b_Line_init 5 = .ok (.iload_n 1, 1) := by decide +kernel
theorem d_Line_init_6 : decode b_Line_init 6 = .ok (.putfield 7, 3) := by decide +kernel
theorem d_Line_init_9 : decode b_Line_init 9 = .ok (.aload_n 0, 1) := by decide +kernel
theorem d_Line_init_10 : decode b_Line_init 10 = .ok (.iload_n 1, 1) := by decide +kernel
theorem d_Line_init_11 : decode b_Line_init 11 = .ok (.bipush 63, 2) := by decide +kernel
theorem d_Line_init_13 : decode b_Line_init 13 = .ok (.iadd, 1) := by decide +kernel
theorem d_Line_init_14 : decode b_Line_init 14 = .ok (.bipush 64, 2) := by decide +kernel
theorem d_Line_init_16 : decode b_Line_init 16 = .ok (.idiv, 1) := by decide +kernel
theorem d_Line_init_17 : decode b_Line_init 17 = .ok (.newarray .long, 2) := by decide +kernel
theorem d_Line_init_19 : decode b_Line_init 19 = .ok (.putfield 13, 3) := by decide +kernel
theorem d_Line_init_22 : decode b_Line_init 22 = .ok (.aload_n 0, 1) := by decide +kernel
theorem d_Line_init_23 : decode b_Line_init 23 = .ok (.iload_n 1, 1) := by decide +kernel
theorem d_Line_init_24 : decode b_Line_init 24 = .ok (.newarray .int, 2) := by decide +kernel
theorem d_Line_init_26 : decode b_Line_init 26 = .ok (.putfield 17, 3) := by decide +kernel
theorem d_Line_init_29 : decode b_Line_init 29 = .ok (.return_, 1) := by decide +kernel
theorem d_Spot_init_0 : decode b_Spot_init 0 = .ok (.aload_n 0, 1) := by decide +kernel
theorem d_Spot_init_1 : decode b_Spot_init 1 = .ok (.invokespecial 1, 3) := by decide +kernel
theorem d_Spot_init_4 : decode b_Spot_init 4 = .ok (.aload_n 0, 1) := by decide +kernel
theorem d_Spot_init_5 : decode b_Spot_init 5 = .ok (.aload_n 1, 1) := by decide +kernel
theorem d_Spot_init_6 : decode b_Spot_init 6 = .ok (.putfield 7, 3) := by decide +kernel
theorem d_Spot_init_9 : decode b_Spot_init 9 = .ok (.return_, 1) := by decide +kernel
theorem d_Tree_init_0 : decode b_Tree_init 0 = .ok (.aload_n 0, 1) := by decide +kernel
theorem d_Tree_init_1 : decode b_Tree_init 1 = .ok (.invokespecial 1, 3) := by decide +kernel
theorem d_Tree_init_4 : decode b_Tree_init 4 = .ok (.aload_n 0, 1) := by decide +kernel
theorem d_Tree_init_5 : decode b_Tree_init 5 = .ok (.sipush 512, 3) := by decide +kernel
theorem d_Tree_init_8 : decode b_Tree_init 8 = .ok (.newarray .int, 2) := by decide +kernel
theorem d_Tree_init_10 : decode b_Tree_init 10 = .ok (.putfield 9, 3) := by decide +kernel
theorem d_Tree_init_13 : decode b_Tree_init 13 = .ok (.aload_n 0, 1) := by decide +kernel
theorem d_Tree_init_14 : decode b_Tree_init 14 = .ok (.iconst 5, 1) := by decide +kernel
theorem d_Tree_init_15 : decode b_Tree_init 15 = .ok (.putfield 13, 3) := by decide +kernel
theorem d_Tree_init_18 : decode b_Tree_init 18 = .ok (.iconst 0, 1) := by decide +kernel
theorem d_Tree_init_19 : decode b_Tree_init 19 = .ok (.istore_n 1, 1) := by decide +kernel
theorem d_Tree_init_20 : decode b_Tree_init 20 = .ok (.iload_n 1, 1) := by decide +kernel
theorem d_Tree_init_21 : decode b_Tree_init 21 = .ok (.bipush 9, 2) := by decide +kernel
theorem d_Tree_init_23 : decode b_Tree_init 23 = .ok (.if_icmp .ge 29, 3) := by decide +kernel
theorem d_Tree_init_26 : decode b_Tree_init 26 = .ok (.aload_n 0, 1) := by decide +kernel
theorem d_Tree_init_27 : decode b_Tree_init 27 = .ok (.iconst 0, 1) := by decide +kernel
theorem d_Tree_init_28 : decode b_Tree_init 28 = .ok (.iload_n 1, 1) := by decide +kernel
theorem d_Tree_init_29 : decode b_Tree_init 29 = .ok (.invokestatic 19, 3) := by decide +kernel
theorem d_Tree_init_32 : decode b_Tree_init 32 = .ok (.iload_n 1, 1) := by decide +kernel
theorem d_Tree_init_33 : decode b_Tree_init 33 = .ok (.invokevirtual 23, 3) := by decide +kernel
theorem d_Tree_init_36 : decode b_Tree_init 36 = .ok (.aload_n 0, 1) := by decide +kernel
theorem d_Tree_init_37 : decode b_Tree_init 37 = .ok (.iconst 1, 1) := by decide +kernel
theorem d_Tree_init_38 : decode b_Tree_init 38 = .ok (.iload_n 1, 1) := by decide +kernel
theorem d_Tree_init_39 : decode b_Tree_init 39 = .ok (.invokestatic 19, 3) := by decide +kernel
theorem d_Tree_init_42 : decode b_Tree_init 42 = .ok (.iload_n 1, 1) := by decide +kernel
theorem d_Tree_init_43 : decode b_Tree_init 43 = .ok (.invokevirtual 23, 3) := by decide +kernel
theorem d_Tree_init_46 : decode b_Tree_init 46 = .ok (.iinc 1 1, 3) := by decide +kernel
theorem d_Tree_init_49 : decode b_Tree_init 49 = .ok (.goto (-29), 3) := by decide +kernel
theorem d_Tree_init_52 : decode b_Tree_init 52 = .ok (.aload_n 0, 1) := by decide +kernel
theorem d_Tree_init_53 : decode b_Tree_init 53 = .ok (.iconst 1, 1) := by decide +kernel
theorem d_Tree_init_54 : decode b_Tree_init 54 = .ok (.bipush 9, 2) := by decide +kernel
theorem d_Tree_init_56 : decode b_Tree_init 56 = .ok (.invokestatic 19, 3) := by decide +kernel
theorem d_Tree_init_59 : decode b_Tree_init 59 = .ok (.bipush 9, 2) := by decide +kernel
theorem d_Tree_init_61 : decode b_Tree_init 61 = .ok (.invokevirtual 23, 3) := by decide +kernel
theorem d_Tree_init_64 : decode b_Tree_init 64 = .ok (.aload_n 0, 1) := by decide +kernel
theorem d_Tree_init_65 : decode b_Tree_init 65 = .ok (.iconst 2, 1) := by decide +kernel
theorem d_Tree_init_66 : decode b_Tree_init 66 = .ok (.bipush 9, 2) := by decide +kernel
theorem d_Tree_init_68 : decode b_Tree_init 68 = .ok (.invokestatic 19, 3) := by decide +kernel
theorem d_Tree_init_71 : decode b_Tree_init 71 = .ok (.bipush 9, 2) := by decide +kernel
theorem d_Tree_init_73 : decode b_Tree_init 73 = .ok (.invokevirtual 23, 3) := by decide +kernel
theorem d_Tree_init_76 : decode b_Tree_init 76 = .ok (.iconst 0, 1) := by decide +kernel
theorem d_Tree_init_77 : decode b_Tree_init 77 = .ok (.istore_n 1, 1) := by decide +kernel
theorem d_Tree_init_78 : decode b_Tree_init 78 = .ok (.iload_n 1, 1) := by decide +kernel
theorem d_Tree_init_79 : decode b_Tree_init 79 = .ok (.bipush 64, 2) := by decide +kernel
theorem d_Tree_init_81 : decode b_Tree_init 81 = .ok (.if_icmp .ge 31, 3) := by decide +kernel
theorem d_Tree_init_84 : decode b_Tree_init 84 = .ok (.aload_n 0, 1) := by decide +kernel
theorem d_Tree_init_85 : decode b_Tree_init 85 = .ok (.iconst 3, 1) := by decide +kernel
theorem d_Tree_init_86 : decode b_Tree_init 86 = .ok (.iload_n 1, 1) := by decide +kernel
theorem d_Tree_init_87 : decode b_Tree_init 87 = .ok (.iconst 0, 1) := by decide +kernel
theorem d_Tree_init_88 : decode b_Tree_init 88 = .ok (.invokestatic 27, 3) := by decide +kernel
theorem d_Tree_init_91 : decode b_Tree_init 91 = .ok (.iload_n 1, 1) := by decide +kernel
theorem d_Tree_init_92 : decode b_Tree_init 92 = .ok (.invokevirtual 23, 3) := by decide +kernel
theorem d_Tree_init_95 : decode b_Tree_init 95 = .ok (.aload_n 0, 1) := by decide +kernel
theorem d_Tree_init_96 : decode b_Tree_init 96 = .ok (.iconst 4, 1) := by decide +kernel
theorem d_Tree_init_97 : decode b_Tree_init 97 = .ok (.iload_n 1, 1) := by decide +kernel
theorem d_Tree_init_98 : decode b_Tree_init 98 = .ok (.iconst 1, 1) := by decide +kernel
theorem d_Tree_init_99 : decode b_Tree_init 99 = .ok (.invokestatic 27, 3) := by decide +kernel
theorem d_Tree_init_102 : decode b_Tree_init 102 = .ok (.iload_n 1, 1) := by decide +kernel
theorem d_Tree_init_103 : decode b_Tree_init 103 = .ok (.invokevirtual 23, 3) := by decide +kernel
theorem d_Tree_init_106 : decode b_Tree_init 106 = .ok (.iinc 1 1, 3) := by decide +kernel
theorem d_Tree_init_109 : decode b_Tree_init 109 = .ok (.goto (-31), 3) := by decide +kernel
theorem d_Tree_init_112 : decode b_Tree_init 112 = .ok (.bipush 64, 2) := by decide +kernel
theorem d_Tree_init_114 : decode b_Tree_init 114 = .ok (.istore_n 1, 1) := by decide +kernel
theorem d_Tree_init_115 : decode b_Tree_init 115 = .ok (.iload_n 1, 1) := by decide +kernel
theorem d_Tree_init_116 : decode b_Tree_init 116 = .ok (.sipush 2560, 3) := by decide +kernel
theorem d_Tree_init_119 : decode b_Tree_init 119 = .ok (.if_icmp .gt 31, 3) := by decide +kernel
theorem d_Tree_init_122 : decode b_Tree_init 122 = .ok (.aload_n 0, 1) := by decide +kernel
theorem d_Tree_init_123 : decode b_Tree_init 123 = .ok (.iconst 3, 1) := by decide +kernel
theorem d_Tree_init_124 : decode b_Tree_init 124 = .ok (.iload_n 1, 1) := by decide +kernel
theorem d_Tree_init_125 : decode b_Tree_init 125 = .ok (.iconst 0, 1) := by decide +kernel
theorem d_Tree_init_126 : decode b_Tree_init 126 = .ok (.invokestatic 31, 3) := by decide +kernel
theorem d_Tree_init_129 : decode b_Tree_init 129 = .ok (.iload_n 1, 1) := by decide +kernel
theorem d_Tree_init_130 : decode b_Tree_init 130 = .ok (.invokevirtual 23, 3) := by decide +kernel
theorem d_Tree_init_133 : decode b_Tree_init 133 = .ok (.aload_n 0, 1) := by decide +kernel
theorem d_Tree_init_134 : decode b_Tree_init 134 = .ok (.iconst 4, 1) := by decide +kernel
theorem d_Tree_init_135 : decode b_Tree_init 135 = .ok (.iload_n 1, 1) := by decide +kernel
theorem d_Tree_init_136 : decode b_Tree_init 136 = .ok (.iconst 1, 1) := by decide +kernel
theorem d_Tree_init_137 : decode b_Tree_init 137 = .ok (.invokestatic 31, 3) := by decide +kernel
theorem d_Tree_init_140 : decode b_Tree_init 140 = .ok (.iload_n 1, 1) := by decide +kernel
theorem d_Tree_init_141 : decode b_Tree_init 141 = .ok (.invokevirtual 23, 3) := by decide +kernel
theorem d_Tree_init_144 : decode b_Tree_init 144 = .ok (.iinc 1 64, 3) := by decide +kernel
theorem d_Tree_init_147 : decode b_Tree_init 147 = .ok (.goto (-32), 3) := by decide +kernel
theorem d_Tree_init_150 : decode b_Tree_init 150 = .ok (.return_, 1) := by decide +kernel
theorem d_Words_step_0 : decode b_Words_step 0 = .ok (.getstatic 13, 3) := by decide +kernel
theorem d_Words_step_3 : decode b_Words_step 3 = .ok (.iload_n 0, 1) := by decide +kernel
theorem d_Words_step_4 : decode b_Words_step 4 = .ok (.invokestatic 19, 3) := by decide +kernel
theorem d_Words_step_7 : decode b_Words_step 7 = .ok (.ireturn, 1) := by decide +kernel
theorem d_Words_at_0 : decode b_Words_at 0 = .ok (.iload_n 1, 1) := by decide +kernel
theorem d_Words_at_1 : decode b_Words_at 1 = .ok (.ifCond .lt 9, 3) := by decide +kernel
theorem d_Words_at_4 : decode b_Words_at 4 = .ok (.iload_n 1, 1) := by decide +kernel
theorem d_Words_at_5 : decode b_Words_at 5 = .ok (.aload_n 0, 1) := by decide +kernel
theorem d_Words_at_6 : decode b_Words_at 6 = .ok (.arraylength, 1) := by decide +kernel
theorem d_Words_at_7 : decode b_Words_at 7 = .ok (.if_icmp .lt 7, 3) := by decide +kernel
theorem d_Words_at_10 : decode b_Words_at 10 = .ok (.iconst 1, 1) := by decide +kernel
theorem d_Words_at_11 : decode b_Words_at 11 = .ok (.goto 6, 3) := by decide +kernel
theorem d_Words_at_14 : decode b_Words_at 14 = .ok (.aload_n 0, 1) := by decide +kernel
theorem d_Words_at_15 : decode b_Words_at 15 = .ok (.iload_n 1, 1) := by decide +kernel
theorem d_Words_at_16 : decode b_Words_at 16 = .ok (.iaload, 1) := by decide +kernel
theorem d_Words_at_17 : decode b_Words_at 17 = .ok (.ireturn, 1) := by decide +kernel
theorem d_Tree_put_0 : decode b_Tree_put 0 = .ok (.iload_n 1, 1) := by decide +kernel
theorem d_Tree_put_1 : decode b_Tree_put 1 = .ok (.istore 4, 2) := by decide +kernel
theorem d_Tree_put_3 : decode b_Tree_put 3 = .ok (.iload_n 2, 1) := by decide +kernel
theorem d_Tree_put_4 : decode b_Tree_put 4 = .ok (.invokestatic 34, 3) := by decide +kernel
theorem d_Tree_put_7 : decode b_Tree_put 7 = .ok (.iconst 1, 1) := by decide +kernel
theorem d_Tree_put_8 : decode b_Tree_put 8 = .ok (.isub, 1) := by decide +kernel
theorem d_Tree_put_9 : decode b_Tree_put 9 = .ok (.istore 5, 2) := by decide +kernel
theorem d_Tree_put_11 : decode b_Tree_put 11 = .ok (.iload 5, 2) := by decide +kernel
theorem d_Tree_put_13 : decode b_Tree_put 13 = .ok (.ifCond .le 23, 3) := by decide +kernel
theorem d_Tree_put_16 : decode b_Tree_put 16 = .ok (.aload_n 0, 1) := by decide +kernel
theorem d_Tree_put_17 : decode b_Tree_put 17 = .ok (.iload 4, 2) := by decide +kernel
theorem d_Tree_put_19 : decode b_Tree_put 19 = .ok (.iload_n 2, 1) := by decide +kernel
theorem d_Tree_put_20 : decode b_Tree_put 20 = .ok (.iload 5, 2) := by decide +kernel
theorem d_Tree_put_22 : decode b_Tree_put 22 = .ok (.ishr, 1) := by decide +kernel
theorem d_Tree_put_23 : decode b_Tree_put 23 = .ok (.iconst 1, 1) := by decide +kernel
theorem d_Tree_put_24 : decode b_Tree_put 24 = .ok (.iand, 1) := by decide +kernel
theorem d_Tree_put_25 : decode b_Tree_put 25 = .ok (.invokevirtual 37, 3) := by decide +kernel
theorem d_Tree_put_28 : decode b_Tree_put 28 = .ok (.istore 4, 2) := by decide +kernel
theorem d_Tree_put_30 : decode b_Tree_put 30 = .ok (.iinc 5 (-1), 3) := by decide +kernel
theorem d_Tree_put_33 : decode b_Tree_put 33 = .ok (.goto (-22), 3) := by decide +kernel
theorem d_Tree_put_36 : decode b_Tree_put 36 = .ok (.aload_n 0, 1) := by decide +kernel
theorem d_Tree_put_37 : decode b_Tree_put 37 = .ok (.iload 4, 2) := by decide +kernel
theorem d_Tree_put_39 : decode b_Tree_put 39 = .ok (.iload_n 2, 1) := by decide +kernel
theorem d_Tree_put_40 : decode b_Tree_put 40 = .ok (.iconst 1, 1) := by decide +kernel
theorem d_Tree_put_41 : decode b_Tree_put 41 = .ok (.iand, 1) := by decide +kernel
theorem d_Tree_put_42 : decode b_Tree_put 42 = .ok (.iload_n 3, 1) := by decide +kernel
theorem d_Tree_put_43 : decode b_Tree_put 43 = .ok (.iconst (-1), 1) := by decide +kernel
theorem d_Tree_put_44 : decode b_Tree_put 44 = .ok (.ixor, 1) := by decide +kernel
theorem d_Tree_put_45 : decode b_Tree_put 45 = .ok (.invokevirtual 41, 3) := by decide +kernel
theorem d_Tree_put_48 : decode b_Tree_put 48 = .ok (.return_, 1) := by decide +kernel
theorem d_Words_length_0 : decode b_Words_length 0 = .ok (.bipush 31, 2) := by decide +kernel
theorem d_Words_length_2 : decode b_Words_length 2 = .ok (.iload_n 0, 1) := by decide +kernel
theorem d_Words_length_3 : decode b_Words_length 3 = .ok (.invokestatic 7, 3) := by decide +kernel
theorem d_Words_length_6 : decode b_Words_length 6 = .ok (.isub, 1) := by decide +kernel
theorem d_Words_length_7 : decode b_Words_length 7 = .ok (.ireturn, 1) := by decide +kernel
theorem d_Integer_numberOfLeadingZeros_0 : decode b_Integer_numberOfLeadingZeros 0 = .ok (.iload_n 0, 1) := by decide +kernel
theorem d_Integer_numberOfLeadingZeros_1 : decode b_Integer_numberOfLeadingZeros 1 = .ok (.ifCond .gt 14, 3) := by decide +kernel
theorem d_Integer_numberOfLeadingZeros_4 : decode b_Integer_numberOfLeadingZeros 4 = .ok (.iload_n 0, 1) := by decide +kernel
theorem d_Integer_numberOfLeadingZeros_5 : decode b_Integer_numberOfLeadingZeros 5 = .ok (.ifCond .ne 8, 3) := by decide +kernel
theorem d_Integer_numberOfLeadingZeros_8 : decode b_Integer_numberOfLeadingZeros 8 = .ok (.bipush 32, 2) := by decide +kernel
theorem d_Integer_numberOfLeadingZeros_10 : decode b_Integer_numberOfLeadingZeros 10 = .ok (.goto 4, 3) := by decide +kernel
theorem d_Integer_numberOfLeadingZeros_13 : decode b_Integer_numberOfLeadingZeros 13 = .ok (.iconst 0, 1) := by decide +kernel
theorem d_Integer_numberOfLeadingZeros_14 : decode b_Integer_numberOfLeadingZeros 14 = .ok (.ireturn, 1) := by decide +kernel
theorem d_Integer_numberOfLeadingZeros_15 : decode b_Integer_numberOfLeadingZeros 15 = .ok (.bipush 31, 2) := by decide +kernel
theorem d_Integer_numberOfLeadingZeros_17 : decode b_Integer_numberOfLeadingZeros 17 = .ok (.istore_n 1, 1) := by decide +kernel
theorem d_Integer_numberOfLeadingZeros_18 : decode b_Integer_numberOfLeadingZeros 18 = .ok (.iload_n 0, 1) := by decide +kernel
theorem d_Integer_numberOfLeadingZeros_19 : decode b_Integer_numberOfLeadingZeros 19 = .ok (.ldc_w 264, 3) := by decide +kernel
theorem d_Integer_numberOfLeadingZeros_22 : decode b_Integer_numberOfLeadingZeros 22 = .ok (.if_icmp .lt 11, 3) := by decide +kernel
theorem d_Integer_numberOfLeadingZeros_25 : decode b_Integer_numberOfLeadingZeros 25 = .ok (.iinc 1 (-16), 3) := by decide +kernel
theorem d_Integer_numberOfLeadingZeros_28 : decode b_Integer_numberOfLeadingZeros 28 = .ok (.iload_n 0, 1) := by decide +kernel
theorem d_Integer_numberOfLeadingZeros_29 : decode b_Integer_numberOfLeadingZeros 29 = .ok (.bipush 16, 2) := by decide +kernel
theorem d_Integer_numberOfLeadingZeros_31 : decode b_Integer_numberOfLeadingZeros 31 = .ok (.iushr, 1) := by decide +kernel
theorem d_Integer_numberOfLeadingZeros_32 : decode b_Integer_numberOfLeadingZeros 32 = .ok (.istore_n 0, 1) := by decide +kernel
theorem d_Integer_numberOfLeadingZeros_33 : decode b_Integer_numberOfLeadingZeros 33 = .ok (.iload_n 0, 1) := by decide +kernel
theorem d_Integer_numberOfLeadingZeros_34 : decode b_Integer_numberOfLeadingZeros 34 = .ok (.sipush 256, 3) := by decide +kernel
theorem d_Integer_numberOfLeadingZeros_37 : decode b_Integer_numberOfLeadingZeros 37 = .ok (.if_icmp .lt 11, 3) := by decide +kernel
theorem d_Integer_numberOfLeadingZeros_40 : decode b_Integer_numberOfLeadingZeros 40 = .ok (.iinc 1 (-8), 3) := by decide +kernel
theorem d_Integer_numberOfLeadingZeros_43 : decode b_Integer_numberOfLeadingZeros 43 = .ok (.iload_n 0, 1) := by decide +kernel
theorem d_Integer_numberOfLeadingZeros_44 : decode b_Integer_numberOfLeadingZeros 44 = .ok (.bipush 8, 2) := by decide +kernel
theorem d_Integer_numberOfLeadingZeros_46 : decode b_Integer_numberOfLeadingZeros 46 = .ok (.iushr, 1) := by decide +kernel
theorem d_Integer_numberOfLeadingZeros_47 : decode b_Integer_numberOfLeadingZeros 47 = .ok (.istore_n 0, 1) := by decide +kernel
theorem d_Integer_numberOfLeadingZeros_48 : decode b_Integer_numberOfLeadingZeros 48 = .ok (.iload_n 0, 1) := by decide +kernel
theorem d_Integer_numberOfLeadingZeros_49 : decode b_Integer_numberOfLeadingZeros 49 = .ok (.bipush 16, 2) := by decide +kernel
theorem d_Integer_numberOfLeadingZeros_51 : decode b_Integer_numberOfLeadingZeros 51 = .ok (.if_icmp .lt 10, 3) := by decide +kernel
theorem d_Integer_numberOfLeadingZeros_54 : decode b_Integer_numberOfLeadingZeros 54 = .ok (.iinc 1 (-4), 3) := by decide +kernel
theorem d_Integer_numberOfLeadingZeros_57 : decode b_Integer_numberOfLeadingZeros 57 = .ok (.iload_n 0, 1) := by decide +kernel
theorem d_Integer_numberOfLeadingZeros_58 : decode b_Integer_numberOfLeadingZeros 58 = .ok (.iconst 4, 1) := by decide +kernel
theorem d_Integer_numberOfLeadingZeros_59 : decode b_Integer_numberOfLeadingZeros 59 = .ok (.iushr, 1) := by decide +kernel
theorem d_Integer_numberOfLeadingZeros_60 : decode b_Integer_numberOfLeadingZeros 60 = .ok (.istore_n 0, 1) := by decide +kernel
theorem d_Integer_numberOfLeadingZeros_61 : decode b_Integer_numberOfLeadingZeros 61 = .ok (.iload_n 0, 1) := by decide +kernel
theorem d_Integer_numberOfLeadingZeros_62 : decode b_Integer_numberOfLeadingZeros 62 = .ok (.iconst 4, 1) := by decide +kernel
theorem d_Integer_numberOfLeadingZeros_63 : decode b_Integer_numberOfLeadingZeros 63 = .ok (.if_icmp .lt 10, 3) := by decide +kernel
theorem d_Integer_numberOfLeadingZeros_66 : decode b_Integer_numberOfLeadingZeros 66 = .ok (.iinc 1 (-2), 3) := by decide +kernel
theorem d_Integer_numberOfLeadingZeros_69 : decode b_Integer_numberOfLeadingZeros 69 = .ok (.iload_n 0, 1) := by decide +kernel
theorem d_Integer_numberOfLeadingZeros_70 : decode b_Integer_numberOfLeadingZeros 70 = .ok (.iconst 2, 1) := by decide +kernel
theorem d_Integer_numberOfLeadingZeros_71 : decode b_Integer_numberOfLeadingZeros 71 = .ok (.iushr, 1) := by decide +kernel
theorem d_Integer_numberOfLeadingZeros_72 : decode b_Integer_numberOfLeadingZeros 72 = .ok (.istore_n 0, 1) := by decide +kernel
theorem d_Integer_numberOfLeadingZeros_73 : decode b_Integer_numberOfLeadingZeros 73 = .ok (.iload_n 1, 1) := by decide +kernel
theorem d_Integer_numberOfLeadingZeros_74 : decode b_Integer_numberOfLeadingZeros 74 = .ok (.iload_n 0, 1) := by decide +kernel
theorem d_Integer_numberOfLeadingZeros_75 : decode b_Integer_numberOfLeadingZeros 75 = .ok (.iconst 1, 1) := by decide +kernel
theorem d_Integer_numberOfLeadingZeros_76 : decode b_Integer_numberOfLeadingZeros 76 = .ok (.iushr, 1) := by decide +kernel
theorem d_Integer_numberOfLeadingZeros_77 : decode b_Integer_numberOfLeadingZeros 77 = .ok (.isub, 1) := by decide +kernel
theorem d_Integer_numberOfLeadingZeros_78 : decode b_Integer_numberOfLeadingZeros 78 = .ok (.ireturn, 1) := by decide +kernel
theorem d_Tree_grow_0 : decode b_Tree_grow 0 = .ok (.aload_n 0, 1) := by decide +kernel
theorem d_Tree_grow_1 : decode b_Tree_grow 1 = .ok (.iload_n 1, 1) := by decide +kernel
theorem d_Tree_grow_2 : decode b_Tree_grow 2 = .ok (.iload_n 2, 1) := by decide +kernel
theorem d_Tree_grow_3 : decode b_Tree_grow 3 = .ok (.invokevirtual 44, 3) := by decide +kernel
theorem d_Tree_grow_6 : decode b_Tree_grow 6 = .ok (.ifCond .ne 33, 3) := by decide +kernel
theorem d_Tree_grow_9 : decode b_Tree_grow 9 = .ok (.aload_n 0, 1) := by decide +kernel
theorem d_Tree_grow_10 : decode b_Tree_grow 10 = .ok (.getfield 13, 3) := by decide +kernel
theorem d_Tree_grow_13 : decode b_Tree_grow 13 = .ok (.sipush 256, 3) := by decide +kernel
theorem d_Tree_grow_16 : decode b_Tree_grow 16 = .ok (.if_icmp .ge 23, 3) := by decide +kernel
theorem d_Tree_grow_19 : decode b_Tree_grow 19 = .ok (.aload_n 0, 1) := by decide +kernel
theorem d_Tree_grow_20 : decode b_Tree_grow 20 = .ok (.iload_n 1, 1) := by decide +kernel
theorem d_Tree_grow_21 : decode b_Tree_grow 21 = .ok (.iload_n 2, 1) := by decide +kernel
theorem d_Tree_grow_22 : decode b_Tree_grow 22 = .ok (.aload_n 0, 1) := by decide +kernel
theorem d_Tree_grow_23 : decode b_Tree_grow 23 = .ok (.getfield 13, 3) := by decide +kernel
theorem d_Tree_grow_26 : decode b_Tree_grow 26 = .ok (.invokevirtual 41, 3) := by decide +kernel
theorem d_Tree_grow_29 : decode b_Tree_grow 29 = .ok (.aload_n 0, 1) := by decide +kernel
theorem d_Tree_grow_30 : decode b_Tree_grow 30 = .ok (.dup, 1) := by decide +kernel
theorem d_Tree_grow_31 : decode b_Tree_grow 31 = .ok (.getfield 13, 3) := by decide +kernel
theorem d_Tree_grow_34 : decode b_Tree_grow 34 = .ok (.iconst 1, 1) := by decide +kernel
theorem d_Tree_grow_35 : decode b_Tree_grow 35 = .ok (.iadd, 1) := by decide +kernel
theorem d_Tree_grow_36 : decode b_Tree_grow 36 = .ok (.putfield 13, 3) := by decide +kernel
theorem d_Tree_grow_39 : decode b_Tree_grow 39 = .ok (.aload_n 0, 1) := by decide +kernel
theorem d_Tree_grow_40 : decode b_Tree_grow 40 = .ok (.iload_n 1, 1) := by decide +kernel
theorem d_Tree_grow_41 : decode b_Tree_grow 41 = .ok (.iload_n 2, 1) := by decide +kernel
theorem d_Tree_grow_42 : decode b_Tree_grow 42 = .ok (.invokevirtual 44, 3) := by decide +kernel
theorem d_Tree_grow_45 : decode b_Tree_grow 45 = .ok (.ireturn, 1) := by decide +kernel
theorem d_Tree_follow_0 : decode b_Tree_follow 0 = .ok (.iconst 2, 1) := by decide +kernel
theorem d_Tree_follow_1 : decode b_Tree_follow 1 = .ok (.iload_n 1, 1) := by decide +kernel
theorem d_Tree_follow_2 : decode b_Tree_follow 2 = .ok (.imul, 1) := by decide +kernel
theorem d_Tree_follow_3 : decode b_Tree_follow 3 = .ok (.iload_n 2, 1) := by decide +kernel
theorem d_Tree_follow_4 : decode b_Tree_follow 4 = .ok (.iadd, 1) := by decide +kernel
theorem d_Tree_follow_5 : decode b_Tree_follow 5 = .ok (.istore_n 3, 1) := by decide +kernel
theorem d_Tree_follow_6 : decode b_Tree_follow 6 = .ok (.iload_n 3, 1) := by decide +kernel
theorem d_Tree_follow_7 : decode b_Tree_follow 7 = .ok (.ifCond .lt 12, 3) := by decide +kernel
theorem d_Tree_follow_10 : decode b_Tree_follow 10 = .ok (.iload_n 3, 1) := by decide +kernel
theorem d_Tree_follow_11 : decode b_Tree_follow 11 = .ok (.aload_n 0, 1) := by decide +kernel
theorem d_Tree_follow_12 : decode b_Tree_follow 12 = .ok (.getfield 9, 3) := by decide +kernel
theorem d_Tree_follow_15 : decode b_Tree_follow 15 = .ok (.arraylength, 1) := by decide +kernel
theorem d_Tree_follow_16 : decode b_Tree_follow 16 = .ok (.if_icmp .lt 7, 3) := by decide +kernel
theorem d_Tree_follow_19 : decode b_Tree_follow 19 = .ok (.iconst 0, 1) := by decide +kernel
theorem d_Tree_follow_20 : decode b_Tree_follow 20 = .ok (.goto 9, 3) := by decide +kernel
theorem d_Tree_follow_23 : decode b_Tree_follow 23 = .ok (.aload_n 0, 1) := by decide +kernel
theorem d_Tree_follow_24 : decode b_Tree_follow 24 = .ok (.getfield 9, 3) := by decide +kernel
theorem d_Tree_follow_27 : decode b_Tree_follow 27 = .ok (.iload_n 3, 1) := by decide +kernel
theorem d_Tree_follow_28 : decode b_Tree_follow 28 = .ok (.iaload, 1) := by decide +kernel
theorem d_Tree_follow_29 : decode b_Tree_follow 29 = .ok (.ireturn, 1) := by decide +kernel
theorem d_Tree_set_0 : decode b_Tree_set 0 = .ok (.iconst 2, 1) := by decide +kernel
theorem d_Tree_set_1 : decode b_Tree_set 1 = .ok (.iload_n 1, 1) := by decide +kernel
theorem d_Tree_set_2 : decode b_Tree_set 2 = .ok (.imul, 1) := by decide +kernel
theorem d_Tree_set_3 : decode b_Tree_set 3 = .ok (.iload_n 2, 1) := by decide +kernel
theorem d_Tree_set_4 : decode b_Tree_set 4 = .ok (.iadd, 1) := by decide +kernel
theorem d_Tree_set_5 : decode b_Tree_set 5 = .ok (.istore 4, 2) := by decide +kernel
theorem d_Tree_set_7 : decode b_Tree_set 7 = .ok (.iload 4, 2) := by decide +kernel
theorem d_Tree_set_9 : decode b_Tree_set 9 = .ok (.ifCond .lt 21, 3) := by decide +kernel
theorem d_Tree_set_12 : decode b_Tree_set 12 = .ok (.iload 4, 2) := by decide +kernel
theorem d_Tree_set_14 : decode b_Tree_set 14 = .ok (.aload_n 0, 1) := by decide +kernel
theorem d_Tree_set_15 : decode b_Tree_set 15 = .ok (.getfield 9, 3) := by decide +kernel
theorem d_Tree_set_18 : decode b_Tree_set 18 = .ok (.arraylength, 1) := by decide +kernel
theorem d_Tree_set_19 : decode b_Tree_set 19 = .ok (.if_icmp .ge 11, 3) := by decide +kernel
theorem d_Tree_set_22 : decode b_Tree_set 22 = .ok (.aload_n 0, 1) := by decide +kernel
theorem d_Tree_set_23 : decode b_Tree_set 23 = .ok (.getfield 9, 3) := by decide +kernel
theorem d_Tree_set_26 : decode b_Tree_set 26 = .ok (.iload 4, 2) := by decide +kernel
theorem d_Tree_set_28 : decode b_Tree_set 28 = .ok (.iload_n 3, 1) := by decide +kernel
theorem d_Tree_set_29 : decode b_Tree_set 29 = .ok (.iastore, 1) := by decide +kernel
theorem d_Tree_set_30 : decode b_Tree_set 30 = .ok (.return_, 1) := by decide +kernel
theorem d_Words_rest_0 : decode b_Words_rest 0 = .ok (.iload_n 1, 1) := by decide +kernel
theorem d_Words_rest_1 : decode b_Words_rest 1 = .ok (.ifCond .eq 9, 3) := by decide +kernel
theorem d_Words_rest_4 : decode b_Words_rest 4 = .ok (.getstatic 23, 3) := by decide +kernel
theorem d_Words_rest_7 : decode b_Words_rest 7 = .ok (.goto 6, 3) := by decide +kernel
theorem d_Words_rest_10 : decode b_Words_rest 10 = .ok (.getstatic 26, 3) := by decide +kernel
theorem d_Words_rest_13 : decode b_Words_rest 13 = .ok (.iload_n 0, 1) := by decide +kernel
theorem d_Words_rest_14 : decode b_Words_rest 14 = .ok (.invokestatic 19, 3) := by decide +kernel
theorem d_Words_rest_17 : decode b_Words_rest 17 = .ok (.ireturn, 1) := by decide +kernel
theorem d_Words_block_0 : decode b_Words_block 0 = .ok (.iload_n 0, 1) := by decide +kernel
theorem d_Words_block_1 : decode b_Words_block 1 = .ok (.bipush 64, 2) := by decide +kernel
theorem d_Words_block_3 : decode b_Words_block 3 = .ok (.idiv, 1) := by decide +kernel
theorem d_Words_block_4 : decode b_Words_block 4 = .ok (.iconst 1, 1) := by decide +kernel
theorem d_Words_block_5 : decode b_Words_block 5 = .ok (.isub, 1) := by decide +kernel
theorem d_Words_block_6 : decode b_Words_block 6 = .ok (.istore_n 2, 1) := by decide +kernel
theorem d_Words_block_7 : decode b_Words_block 7 = .ok (.iload_n 2, 1) := by decide +kernel
theorem d_Words_block_8 : decode b_Words_block 8 = .ok (.getstatic 29, 3) := by decide +kernel
theorem d_Words_block_11 : decode b_Words_block 11 = .ok (.arraylength, 1) := by decide +kernel
theorem d_Words_block_12 : decode b_Words_block 12 = .ok (.if_icmp .lt 16, 3) := by decide +kernel
theorem d_Words_block_15 : decode b_Words_block 15 = .ok (.getstatic 32, 3) := by decide +kernel
theorem d_Words_block_18 : decode b_Words_block 18 = .ok (.iload_n 2, 1) := by decide +kernel
theorem d_Words_block_19 : decode b_Words_block 19 = .ok (.getstatic 29, 3) := by decide +kernel
theorem d_Words_block_22 : decode b_Words_block 22 = .ok (.arraylength, 1) := by decide +kernel
theorem d_Words_block_23 : decode b_Words_block 23 = .ok (.isub, 1) := by decide +kernel
theorem d_Words_block_24 : decode b_Words_block 24 = .ok (.invokestatic 19, 3) := by decide +kernel
theorem d_Words_block_27 : decode b_Words_block 27 = .ok (.ireturn, 1) := by decide +kernel
theorem d_Words_block_28 : decode b_Words_block 28 = .ok (.iload_n 1, 1) := by decide +kernel
theorem d_Words_block_29 : decode b_Words_block 29 = .ok (.ifCond .eq 9, 3) := by decide +kernel
theorem d_Words_block_32 : decode b_Words_block 32 = .ok (.getstatic 35, 3) := by decide +kernel
theorem d_Words_block_35 : decode b_Words_block 35 = .ok (.goto 6, 3) := by decide +kernel
theorem d_Words_block_38 : decode b_Words_block 38 = .ok (.getstatic 29, 3) := by decide +kernel
theorem d_Words_block_41 : decode b_Words_block 41 = .ok (.iload_n 2, 1) := by decide +kernel
theorem d_Words_block_42 : decode b_Words_block 42 = .ok (.invokestatic 19, 3) := by decide +kernel
theorem d_Words_block_45 : decode b_Words_block 45 = .ok (.ireturn, 1) := by decide +kernel
theorem d_Line_fill_0 : decode b_Line_fill 0 = .ok (.iload_n 1, 1) := by decide +kernel
theorem d_Line_fill_1 : decode b_Line_fill 1 = .ok (.ifCond .lt 16, 3) := by decide +kernel
theorem d_Line_fill_4 : decode b_Line_fill 4 = .ok (.iload_n 1, 1) := by decide +kernel
theorem d_Line_fill_5 : decode b_Line_fill 5 = .ok (.iload_n 2, 1) := by decide +kernel
theorem d_Line_fill_6 : decode b_Line_fill 6 = .ok (.if_icmp .ge 11, 3) := by decide +kernel
theorem d_Line_fill_9 : decode b_Line_fill 9 = .ok (.iload_n 2, 1) := by decide +kernel
theorem d_Line_fill_10 : decode b_Line_fill 10 = .ok (.aload_n 0, 1) := by decide +kernel
theorem d_Line_fill_11 : decode b_Line_fill 11 = .ok (.getfield 7, 3) := by decide +kernel
theorem d_Line_fill_14 : decode b_Line_fill 14 = .ok (.if_icmp .le 4, 3) := by decide +kernel
theorem d_Line_fill_17 : decode b_Line_fill 17 = .ok (.return_, 1) := by decide +kernel
theorem d_Line_fill_18 : decode b_Line_fill 18 = .ok (.iload_n 1, 1) := by decide +kernel
theorem d_Line_fill_19 : decode b_Line_fill 19 = .ok (.bipush 6, 2) := by decide +kernel
theorem d_Line_fill_21 : decode b_Line_fill 21 = .ok (.ishr, 1) := by decide +kernel
theorem d_Line_fill_22 : decode b_Line_fill 22 = .ok (.istore 4, 2) := by decide +kernel
theorem d_Line_fill_24 : decode b_Line_fill 24 = .ok (.iload 4, 2) := by decide +kernel
theorem d_Line_fill_26 : decode b_Line_fill 26 = .ok (.aload_n 0, 1) := by decide +kernel
theorem d_Line_fill_27 : decode b_Line_fill 27 = .ok (.getfield 13, 3) := by decide +kernel
theorem d_Line_fill_30 : decode b_Line_fill 30 = .ok (.arraylength, 1) := by decide +kernel
theorem d_Line_fill_31 : decode b_Line_fill 31 = .ok (.if_icmp .ge 105, 3) := by decide +kernel
theorem d_Line_fill_34 : decode b_Line_fill 34 = .ok (.iload 4, 2) := by decide +kernel
theorem d_Line_fill_36 : decode b_Line_fill 36 = .ok (.iload_n 2, 1) := by decide +kernel
theorem d_Line_fill_37 : decode b_Line_fill 37 = .ok (.iconst 1, 1) := by decide +kernel
theorem d_Line_fill_38 : decode b_Line_fill 38 = .ok (.isub, 1) := by decide +kernel
theorem d_Line_fill_39 : decode b_Line_fill 39 = .ok (.bipush 6, 2) := by decide +kernel
theorem d_Line_fill_41 : decode b_Line_fill 41 = .ok (.ishr, 1) := by decide +kernel
theorem d_Line_fill_42 : decode b_Line_fill 42 = .ok (.if_icmp .gt 94, 3) := by decide +kernel
theorem d_Line_fill_45 : decode b_Line_fill 45 = .ok (.iload_n 1, 1) := by decide +kernel
theorem d_Line_fill_46 : decode b_Line_fill 46 = .ok (.bipush 64, 2) := by decide +kernel
theorem d_Line_fill_48 : decode b_Line_fill 48 = .ok (.iload 4, 2) := by decide +kernel
theorem d_Line_fill_50 : decode b_Line_fill 50 = .ok (.imul, 1) := by decide +kernel
theorem d_Line_fill_51 : decode b_Line_fill 51 = .ok (.isub, 1) := by decide +kernel
theorem d_Line_fill_52 : decode b_Line_fill 52 = .ok (.iconst 0, 1) := by decide +kernel
theorem d_Line_fill_53 : decode b_Line_fill 53 = .ok (.invokestatic 30, 3) := by decide +kernel
theorem d_Line_fill_56 : decode b_Line_fill 56 = .ok (.istore 5, 2) := by decide +kernel
theorem d_Line_fill_58 : decode b_Line_fill 58 = .ok (.iload_n 2, 1) := by decide +kernel
theorem d_Line_fill_59 : decode b_Line_fill 59 = .ok (.iconst 1, 1) := by decide +kernel
theorem d_Line_fill_60 : decode b_Line_fill 60 = .ok (.isub, 1) := by decide +kernel
theorem d_Line_fill_61 : decode b_Line_fill 61 = .ok (.bipush 64, 2) := by decide +kernel
theorem d_Line_fill_63 : decode b_Line_fill 63 = .ok (.iload 4, 2) := by decide +kernel
theorem d_Line_fill_65 : decode b_Line_fill 65 = .ok (.imul, 1) := by decide +kernel
theorem d_Line_fill_66 : decode b_Line_fill 66 = .ok (.isub, 1) := by decide +kernel
theorem d_Line_fill_67 : decode b_Line_fill 67 = .ok (.bipush 63, 2) := by decide +kernel
theorem d_Line_fill_69 : decode b_Line_fill 69 = .ok (.invokestatic 36, 3) := by decide +kernel
theorem d_Line_fill_72 : decode b_Line_fill 72 = .ok (.istore 6, 2) := by decide +kernel
theorem d_Line_fill_74 : decode b_Line_fill 74 = .ok (.ldc2_w 39, 3) := by decide +kernel
theorem d_Line_fill_77 : decode b_Line_fill 77 = .ok (.iload 5, 2) := by decide +kernel
theorem d_Line_fill_79 : decode b_Line_fill 79 = .ok (.lushr, 1) := by decide +kernel
theorem d_Line_fill_80 : decode b_Line_fill 80 = .ok (.ldc2_w 39, 3) := by decide +kernel
theorem d_Line_fill_83 : decode b_Line_fill 83 = .ok (.bipush 63, 2) := by decide +kernel
theorem d_Line_fill_85 : decode b_Line_fill 85 = .ok (.iload 6, 2) := by decide +kernel
theorem d_Line_fill_87 : decode b_Line_fill 87 = .ok (.isub, 1) := by decide +kernel
theorem d_Line_fill_88 : decode b_Line_fill 88 = .ok (.lshl, 1) := by decide +kernel
theorem d_Line_fill_89 : decode b_Line_fill 89 = .ok (.land, 1) := by decide +kernel
theorem d_Line_fill_90 : decode b_Line_fill 90 = .ok (.lstore 7, 2) := by decide +kernel
theorem d_Line_fill_92 : decode b_Line_fill 92 = .ok (.aload_n 0, 1) := by decide +kernel
theorem d_Line_fill_93 : decode b_Line_fill 93 = .ok (.getfield 13, 3) := by decide +kernel
theorem d_Line_fill_96 : decode b_Line_fill 96 = .ok (.iload 4, 2) := by decide +kernel
theorem d_Line_fill_98 : decode b_Line_fill 98 = .ok (.iload_n 3, 1) := by decide +kernel
theorem d_Line_fill_99 : decode b_Line_fill 99 = .ok (.ifCond .eq 16, 3) := by decide +kernel
theorem d_Line_fill_102 : decode b_Line_fill 102 = .ok (.aload_n 0, 1) := by decide +kernel
theorem d_Line_fill_103 : decode b_Line_fill 103 = .ok (.getfield 13, 3) := by decide +kernel
theorem d_Line_fill_106 : decode b_Line_fill 106 = .ok (.iload 4, 2) := by decide +kernel
theorem d_Line_fill_108 : decode b_Line_fill 108 = .ok (.laload, 1) := by decide +kernel
theorem d_Line_fill_109 : decode b_Line_fill 109 = .ok (.lload 7, 2) := by decide +kernel
theorem d_Line_fill_111 : decode b_Line_fill 111 = .ok (.lor, 1) := by decide +kernel
theorem d_Line_fill_112 : decode b_Line_fill 112 = .ok (.goto 17, 3) := by decide +kernel
theorem d_Line_fill_115 : decode b_Line_fill 115 = .ok (.aload_n 0, 1) := by decide +kernel
theorem d_Line_fill_116 : decode b_Line_fill 116 = .ok (.getfield 13, 3) := by decide +kernel
theorem d_Line_fill_119 : decode b_Line_fill 119 = .ok (.iload 4, 2) := by decide +kernel
theorem d_Line_fill_121 : decode b_Line_fill 121 = .ok (.laload, 1) := by decide +kernel
theorem d_Line_fill_122 : decode b_Line_fill 122 = .ok (.lload 7, 2) := by decide +kernel
theorem d_Line_fill_124 : decode b_Line_fill 124 = .ok (.ldc2_w 39, 3) := by decide +kernel
theorem d_Line_fill_127 : decode b_Line_fill 127 = .ok (.lxor, 1) := by decide +kernel
theorem d_Line_fill_128 : decode b_Line_fill 128 = .ok (.land, 1) := by decide +kernel
theorem d_Line_fill_129 : decode b_Line_fill 129 = .ok (.lastore, 1) := by decide +kernel
theorem d_Line_fill_130 : decode b_Line_fill 130 = .ok (.iinc 4 1, 3) := by decide +kernel
theorem d_Line_fill_133 : decode b_Line_fill 133 = .ok (.goto (-109), 3) := by decide +kernel
theorem d_Line_fill_136 : decode b_Line_fill 136 = .ok (.return_, 1) := by decide +kernel
theorem d_Bits_cut_0 : decode b_Bits_cut 0 = .ok (.iload_n 1, 1) := by decide +kernel
theorem d_Bits_cut_1 : decode b_Bits_cut 1 = .ok (.ifCond .lt 11, 3) := by decide +kernel
theorem d_Bits_cut_4 : decode b_Bits_cut 4 = .ok (.iload_n 1, 1) := by decide +kernel
theorem d_Bits_cut_5 : decode b_Bits_cut 5 = .ok (.aload_n 0, 1) := by decide +kernel
theorem d_Bits_cut_6 : decode b_Bits_cut 6 = .ok (.getfield 13, 3) := by decide +kernel
theorem d_Bits_cut_9 : decode b_Bits_cut 9 = .ok (.if_icmp .lt 4, 3) := by decide +kernel
theorem d_Bits_cut_12 : decode b_Bits_cut 12 = .ok (.return_, 1) := by decide +kernel
theorem d_Bits_cut_13 : decode b_Bits_cut 13 = .ok (.iload_n 1, 1) := by decide +kernel
theorem d_Bits_cut_14 : decode b_Bits_cut 14 = .ok (.bipush 6, 2) := by decide +kernel
theorem d_Bits_cut_16 : decode b_Bits_cut 16 = .ok (.ishr, 1) := by decide +kernel
theorem d_Bits_cut_17 : decode b_Bits_cut 17 = .ok (.istore_n 2, 1) := by decide +kernel
theorem d_Bits_cut_18 : decode b_Bits_cut 18 = .ok (.iload_n 2, 1) := by decide +kernel
theorem d_Bits_cut_19 : decode b_Bits_cut 19 = .ok (.istore_n 3, 1) := by decide +kernel
theorem d_Bits_cut_20 : decode b_Bits_cut 20 = .ok (.iload_n 3, 1) := by decide +kernel
theorem d_Bits_cut_21 : decode b_Bits_cut 21 = .ok (.aload_n 0, 1) := by decide +kernel
theorem d_Bits_cut_22 : decode b_Bits_cut 22 = .ok (.getfield 9, 3) := by decide +kernel
theorem d_Bits_cut_25 : decode b_Bits_cut 25 = .ok (.arraylength, 1) := by decide +kernel
theorem d_Bits_cut_26 : decode b_Bits_cut 26 = .ok (.if_icmp .ge 52, 3) := by decide +kernel
theorem d_Bits_cut_29 : decode b_Bits_cut 29 = .ok (.iload_n 3, 1) := by decide +kernel
theorem d_Bits_cut_30 : decode b_Bits_cut 30 = .ok (.aload_n 0, 1) := by decide +kernel
theorem d_Bits_cut_31 : decode b_Bits_cut 31 = .ok (.getfield 13, 3) := by decide +kernel
theorem d_Bits_cut_34 : decode b_Bits_cut 34 = .ok (.iconst 1, 1) := by decide +kernel
theorem d_Bits_cut_35 : decode b_Bits_cut 35 = .ok (.isub, 1) := by decide +kernel
theorem d_Bits_cut_36 : decode b_Bits_cut 36 = .ok (.bipush 6, 2) := by decide +kernel
theorem d_Bits_cut_38 : decode b_Bits_cut 38 = .ok (.ishr, 1) := by decide +kernel
theorem d_Bits_cut_39 : decode b_Bits_cut 39 = .ok (.if_icmp .gt 39, 3) := by decide +kernel
theorem d_Bits_cut_42 : decode b_Bits_cut 42 = .ok (.aload_n 0, 1) := by decide +kernel
theorem d_Bits_cut_43 : decode b_Bits_cut 43 = .ok (.getfield 9, 3) := by decide +kernel
theorem d_Bits_cut_46 : decode b_Bits_cut 46 = .ok (.iload_n 3, 1) := by decide +kernel
theorem d_Bits_cut_47 : decode b_Bits_cut 47 = .ok (.dup2, 1) := by decide +kernel
theorem d_Bits_cut_48 : decode b_Bits_cut 48 = .ok (.laload, 1) := by decide +kernel
theorem d_Bits_cut_49 : decode b_Bits_cut 49 = .ok (.iload_n 3, 1) := by decide +kernel
theorem d_Bits_cut_50 : decode b_Bits_cut 50 = .ok (.iload_n 2, 1) := by decide +kernel
theorem d_Bits_cut_51 : decode b_Bits_cut 51 = .ok (.if_icmp .ne 18, 3) := by decide +kernel
theorem d_Bits_cut_54 : decode b_Bits_cut 54 = .ok (.ldc2_w 18, 3) := by decide +kernel
theorem d_Bits_cut_57 : decode b_Bits_cut 57 = .ok (.iload_n 1, 1) := by decide +kernel
theorem d_Bits_cut_58 : decode b_Bits_cut 58 = .ok (.bipush 63, 2) := by decide +kernel
theorem d_Bits_cut_60 : decode b_Bits_cut 60 = .ok (.iand, 1) := by decide +kernel
theorem d_Bits_cut_61 : decode b_Bits_cut 61 = .ok (.lushr, 1) := by decide +kernel
theorem d_Bits_cut_62 : decode b_Bits_cut 62 = .ok (.ldc2_w 18, 3) := by decide +kernel
theorem d_Bits_cut_65 : decode b_Bits_cut 65 = .ok (.lxor, 1) := by decide +kernel
theorem d_Bits_cut_66 : decode b_Bits_cut 66 = .ok (.goto 4, 3) := by decide +kernel
theorem d_Bits_cut_69 : decode b_Bits_cut 69 = .ok (.lconst 0, 1) := by decide +kernel
theorem d_Bits_cut_70 : decode b_Bits_cut 70 = .ok (.land, 1) := by decide +kernel
theorem d_Bits_cut_71 : decode b_Bits_cut 71 = .ok (.lastore, 1) := by decide +kernel
theorem d_Bits_cut_72 : decode b_Bits_cut 72 = .ok (.iinc 3 1, 3) := by decide +kernel
theorem d_Bits_cut_75 : decode b_Bits_cut 75 = .ok (.goto (-55), 3) := by decide +kernel
theorem d_Bits_cut_78 : decode b_Bits_cut 78 = .ok (.aload_n 0, 1) := by decide +kernel
theorem d_Bits_cut_79 : decode b_Bits_cut 79 = .ok (.iload_n 1, 1) := by decide +kernel
theorem d_Bits_cut_80 : decode b_Bits_cut 80 = .ok (.putfield 13, 3) := by decide +kernel
theorem d_Bits_cut_83 : decode b_Bits_cut 83 = .ok (.return_, 1) := by decide +kernel
theorem d_Line_whiten_0 : decode b_Line_whiten 0 = .ok (.aload_n 0, 1) := by decide +kernel
theorem d_Line_whiten_1 : decode b_Line_whiten 1 = .ok (.getfield 13, 3) := by decide +kernel
theorem d_Line_whiten_4 : decode b_Line_whiten 4 = .ok (.lconst 0, 1) := by decide +kernel
theorem d_Line_whiten_5 : decode b_Line_whiten 5 = .ok (.invokestatic 21, 3) := by decide +kernel
theorem d_Line_whiten_8 : decode b_Line_whiten 8 = .ok (.aload_n 0, 1) := by decide +kernel
theorem d_Line_whiten_9 : decode b_Line_whiten 9 = .ok (.iconst 0, 1) := by decide +kernel
theorem d_Line_whiten_10 : decode b_Line_whiten 10 = .ok (.putfield 27, 3) := by decide +kernel
theorem d_Line_whiten_13 : decode b_Line_whiten 13 = .ok (.return_, 1) := by decide +kernel
theorem d_Arrays_fill_0 : decode b_Arrays_fill 0 = .ok (.iconst 0, 1) := by decide +kernel
theorem d_Arrays_fill_1 : decode b_Arrays_fill 1 = .ok (.istore_n 3, 1) := by decide +kernel
theorem d_Arrays_fill_2 : decode b_Arrays_fill 2 = .ok (.aload_n 0, 1) := by decide +kernel
theorem d_Arrays_fill_3 : decode b_Arrays_fill 3 = .ok (.arraylength, 1) := by decide +kernel
theorem d_Arrays_fill_4 : decode b_Arrays_fill 4 = .ok (.istore 4, 2) := by decide +kernel
theorem d_Arrays_fill_6 : decode b_Arrays_fill 6 = .ok (.iload_n 3, 1) := by decide +kernel
theorem d_Arrays_fill_7 : decode b_Arrays_fill 7 = .ok (.iload 4, 2) := by decide +kernel
theorem d_Arrays_fill_9 : decode b_Arrays_fill 9 = .ok (.if_icmp .ge 13, 3) := by decide +kernel
theorem d_Arrays_fill_12 : decode b_Arrays_fill 12 = .ok (.aload_n 0, 1) := by decide +kernel
theorem d_Arrays_fill_13 : decode b_Arrays_fill 13 = .ok (.iload_n 3, 1) := by decide +kernel
theorem d_Arrays_fill_14 : decode b_Arrays_fill 14 = .ok (.lload_n 1, 1) := by decide +kernel
theorem d_Arrays_fill_15 : decode b_Arrays_fill 15 = .ok (.lastore, 1) := by decide +kernel
theorem d_Arrays_fill_16 : decode b_Arrays_fill 16 = .ok (.iinc 3 1, 3) := by decide +kernel
theorem d_Arrays_fill_19 : decode b_Arrays_fill 19 = .ok (.goto (-13), 3) := by decide +kernel
theorem d_Arrays_fill_22 : decode b_Arrays_fill 22 = .ok (.return_, 1) := by decide +kernel
theorem d_Bits_part_0 : decode b_Bits_part 0 = .ok (.iload_n 1, 1) := by decide +kernel
theorem d_Bits_part_1 : decode b_Bits_part 1 = .ok (.ifCond .lt 12, 3) := by decide +kernel
theorem d_Bits_part_4 : decode b_Bits_part 4 = .ok (.iload_n 1, 1) := by decide +kernel
theorem d_Bits_part_5 : decode b_Bits_part 5 = .ok (.aload_n 0, 1) := by decide +kernel
theorem d_Bits_part_6 : decode b_Bits_part 6 = .ok (.getfield 9, 3) := by decide +kernel
theorem d_Bits_part_9 : decode b_Bits_part 9 = .ok (.arraylength, 1) := by decide +kernel
theorem d_Bits_part_10 : decode b_Bits_part 10 = .ok (.if_icmp .lt 7, 3) := by decide +kernel
theorem d_Bits_part_13 : decode b_Bits_part 13 = .ok (.lconst 0, 1) := by decide +kernel
theorem d_Bits_part_14 : decode b_Bits_part 14 = .ok (.goto 9, 3) := by decide +kernel
theorem d_Bits_part_17 : decode b_Bits_part 17 = .ok (.aload_n 0, 1) := by decide +kernel
theorem d_Bits_part_18 : decode b_Bits_part 18 = .ok (.getfield 9, 3) := by decide +kernel
theorem d_Bits_part_21 : decode b_Bits_part 21 = .ok (.iload_n 1, 1) := by decide +kernel
theorem d_Bits_part_22 : decode b_Bits_part 22 = .ok (.laload, 1) := by decide +kernel
theorem d_Bits_part_23 : decode b_Bits_part 23 = .ok (.lreturn, 1) := by decide +kernel
theorem d_Bits_add_0 : decode b_Bits_add 0 = .ok (.aload_n 0, 1) := by decide +kernel
theorem d_Bits_add_1 : decode b_Bits_add 1 = .ok (.getfield 13, 3) := by decide +kernel
theorem d_Bits_add_4 : decode b_Bits_add 4 = .ok (.bipush 6, 2) := by decide +kernel
theorem d_Bits_add_6 : decode b_Bits_add 6 = .ok (.ishr, 1) := by decide +kernel
theorem d_Bits_add_7 : decode b_Bits_add 7 = .ok (.istore 4, 2) := by decide +kernel
theorem d_Bits_add_9 : decode b_Bits_add 9 = .ok (.iload_n 3, 1) := by decide +kernel
theorem d_Bits_add_10 : decode b_Bits_add 10 = .ok (.iconst 1, 1) := by decide +kernel
theorem d_Bits_add_11 : decode b_Bits_add 11 = .ok (.if_icmp .lt 35, 3) := by decide +kernel
theorem d_Bits_add_14 : decode b_Bits_add 14 = .ok (.iload_n 3, 1) := by decide +kernel
theorem d_Bits_add_15 : decode b_Bits_add 15 = .ok (.bipush 64, 2) := by decide +kernel
theorem d_Bits_add_17 : decode b_Bits_add 17 = .ok (.if_icmp .gt 29, 3) := by decide +kernel
theorem d_Bits_add_20 : decode b_Bits_add 20 = .ok (.iload_n 3, 1) := by decide +kernel
theorem d_Bits_add_21 : decode b_Bits_add 21 = .ok (.ldc 17, 2) := by decide +kernel
theorem d_Bits_add_23 : decode b_Bits_add 23 = .ok (.aload_n 0, 1) := by decide +kernel
theorem d_Bits_add_24 : decode b_Bits_add 24 = .ok (.getfield 13, 3) := by decide +kernel
theorem d_Bits_add_27 : decode b_Bits_add 27 = .ok (.isub, 1) := by decide +kernel
theorem d_Bits_add_28 : decode b_Bits_add 28 = .ok (.if_icmp .gt 18, 3) := by decide +kernel
theorem d_Bits_add_31 : decode b_Bits_add 31 = .ok (.iload 4, 2) := by decide +kernel
theorem d_Bits_add_33 : decode b_Bits_add 33 = .ok (.ifCond .lt 13, 3) := by decide +kernel
theorem d_Bits_add_36 : decode b_Bits_add 36 = .ok (.iload 4, 2) := by decide +kernel
theorem d_Bits_add_38 : decode b_Bits_add 38 = .ok (.aload_n 0, 1) := by decide +kernel
theorem d_Bits_add_39 : decode b_Bits_add 39 = .ok (.getfield 9, 3) := by decide +kernel
theorem d_Bits_add_42 : decode b_Bits_add 42 = .ok (.arraylength, 1) := by decide +kernel
theorem d_Bits_add_43 : decode b_Bits_add 43 = .ok (.if_icmp .lt 5, 3) := by decide +kernel
theorem d_Bits_add_46 : decode b_Bits_add 46 = .ok (.iconst 0, 1) := by decide +kernel
theorem d_Bits_add_47 : decode b_Bits_add 47 = .ok (.ireturn, 1) := by decide +kernel
theorem d_Bits_add_48 : decode b_Bits_add 48 = .ok (.lload_n 1, 1) := by decide +kernel
theorem d_Bits_add_49 : decode b_Bits_add 49 = .ok (.ldc2_w 18, 3) := by decide +kernel
theorem d_Bits_add_52 : decode b_Bits_add 52 = .ok (.bipush 64, 2) := by decide +kernel
theorem d_Bits_add_54 : decode b_Bits_add 54 = .ok (.iload_n 3, 1) := by decide +kernel
theorem d_Bits_add_55 : decode b_Bits_add 55 = .ok (.isub, 1) := by decide +kernel
theorem d_Bits_add_56 : decode b_Bits_add 56 = .ok (.lushr, 1) := by decide +kernel
theorem d_Bits_add_57 : decode b_Bits_add 57 = .ok (.land, 1) := by decide +kernel
theorem d_Bits_add_58 : decode b_Bits_add 58 = .ok (.lstore 5, 2) := by decide +kernel
theorem d_Bits_add_60 : decode b_Bits_add 60 = .ok (.bipush 64, 2) := by decide +kernel
theorem d_Bits_add_62 : decode b_Bits_add 62 = .ok (.aload_n 0, 1) := by decide +kernel
theorem d_Bits_add_63 : decode b_Bits_add 63 = .ok (.getfield 13, 3) := by decide +kernel
theorem d_Bits_add_66 : decode b_Bits_add 66 = .ok (.bipush 63, 2) := by decide +kernel
theorem d_Bits_add_68 : decode b_Bits_add 68 = .ok (.iand, 1) := by decide +kernel
theorem d_Bits_add_69 : decode b_Bits_add 69 = .ok (.isub, 1) := by decide +kernel
theorem d_Bits_add_70 : decode b_Bits_add 70 = .ok (.istore 7, 2) := by decide +kernel
theorem d_Bits_add_72 : decode b_Bits_add 72 = .ok (.iload_n 3, 1) := by decide +kernel
theorem d_Bits_add_73 : decode b_Bits_add 73 = .ok (.iload 7, 2) := by decide +kernel
theorem d_Bits_add_75 : decode b_Bits_add 75 = .ok (.if_icmp .gt 23, 3) := by decide +kernel
theorem d_Bits_add_78 : decode b_Bits_add 78 = .ok (.aload_n 0, 1) := by decide +kernel
theorem d_Bits_add_79 : decode b_Bits_add 79 = .ok (.getfield 9, 3) := by decide +kernel
theorem d_Bits_add_82 : decode b_Bits_add 82 = .ok (.iload 4, 2) := by decide +kernel
theorem d_Bits_add_84 : decode b_Bits_add 84 = .ok (.dup2, 1) := by decide +kernel
theorem d_Bits_add_85 : decode b_Bits_add 85 = .ok (.laload, 1) := by decide +kernel
theorem d_Bits_add_86 : decode b_Bits_add 86 = .ok (.lload 5, 2) := by decide +kernel
theorem d_Bits_add_88 : decode b_Bits_add 88 = .ok (.iload 7, 2) := by decide +kernel
theorem d_Bits_add_90 : decode b_Bits_add 90 = .ok (.iload_n 3, 1) := by decide +kernel
theorem d_Bits_add_91 : decode b_Bits_add 91 = .ok (.isub, 1) := by decide +kernel
theorem d_Bits_add_92 : decode b_Bits_add 92 = .ok (.lshl, 1) := by decide +kernel
theorem d_Bits_add_93 : decode b_Bits_add 93 = .ok (.lor, 1) := by decide +kernel
theorem d_Bits_add_94 : decode b_Bits_add 94 = .ok (.lastore, 1) := by decide +kernel
theorem d_Bits_add_95 : decode b_Bits_add 95 = .ok (.goto 54, 3) := by decide +kernel
theorem d_Bits_add_98 : decode b_Bits_add 98 = .ok (.aload_n 0, 1) := by decide +kernel
theorem d_Bits_add_99 : decode b_Bits_add 99 = .ok (.getfield 9, 3) := by decide +kernel
theorem d_Bits_add_102 : decode b_Bits_add 102 = .ok (.iload 4, 2) := by decide +kernel
theorem d_Bits_add_104 : decode b_Bits_add 104 = .ok (.dup2, 1) := by decide +kernel
theorem d_Bits_add_105 : decode b_Bits_add 105 = .ok (.laload, 1) := by decide +kernel
theorem d_Bits_add_106 : decode b_Bits_add 106 = .ok (.lload 5, 2) := by decide +kernel
theorem d_Bits_add_108 : decode b_Bits_add 108 = .ok (.iload_n 3, 1) := by decide +kernel
theorem d_Bits_add_109 : decode b_Bits_add 109 = .ok (.iload 7, 2) := by decide +kernel
theorem d_Bits_add_111 : decode b_Bits_add 111 = .ok (.isub, 1) := by decide +kernel
theorem d_Bits_add_112 : decode b_Bits_add 112 = .ok (.lushr, 1) := by decide +kernel
theorem d_Bits_add_113 : decode b_Bits_add 113 = .ok (.lor, 1) := by decide +kernel
theorem d_Bits_add_114 : decode b_Bits_add 114 = .ok (.lastore, 1) := by decide +kernel
theorem d_Bits_add_115 : decode b_Bits_add 115 = .ok (.iload 4, 2) := by decide +kernel
theorem d_Bits_add_117 : decode b_Bits_add 117 = .ok (.iconst 1, 1) := by decide +kernel
theorem d_Bits_add_118 : decode b_Bits_add 118 = .ok (.iadd, 1) := by decide +kernel
theorem d_Bits_add_119 : decode b_Bits_add 119 = .ok (.aload_n 0, 1) := by decide +kernel
theorem d_Bits_add_120 : decode b_Bits_add 120 = .ok (.getfield 9, 3) := by decide +kernel
theorem d_Bits_add_123 : decode b_Bits_add 123 = .ok (.arraylength, 1) := by decide +kernel
theorem d_Bits_add_124 : decode b_Bits_add 124 = .ok (.if_icmp .ge 25, 3) := by decide +kernel
theorem d_Bits_add_127 : decode b_Bits_add 127 = .ok (.aload_n 0, 1) := by decide +kernel
theorem d_Bits_add_128 : decode b_Bits_add 128 = .ok (.getfield 9, 3) := by decide +kernel
theorem d_Bits_add_131 : decode b_Bits_add 131 = .ok (.iload 4, 2) := by decide +kernel
theorem d_Bits_add_133 : decode b_Bits_add 133 = .ok (.iconst 1, 1) := by decide +kernel
theorem d_Bits_add_134 : decode b_Bits_add 134 = .ok (.iadd, 1) := by decide +kernel
theorem d_Bits_add_135 : decode b_Bits_add 135 = .ok (.dup2, 1) := by decide +kernel
theorem d_Bits_add_136 : decode b_Bits_add 136 = .ok (.laload, 1) := by decide +kernel
theorem d_Bits_add_137 : decode b_Bits_add 137 = .ok (.lload 5, 2) := by decide +kernel
theorem d_Bits_add_139 : decode b_Bits_add 139 = .ok (.bipush 64, 2) := by decide +kernel
theorem d_Bits_add_141 : decode b_Bits_add 141 = .ok (.iload_n 3, 1) := by decide +kernel
theorem d_Bits_add_142 : decode b_Bits_add 142 = .ok (.iload 7, 2) := by decide +kernel
theorem d_Bits_add_144 : decode b_Bits_add 144 = .ok (.isub, 1) := by decide +kernel
theorem d_Bits_add_145 : decode b_Bits_add 145 = .ok (.isub, 1) := by decide +kernel
theorem d_Bits_add_146 : decode b_Bits_add 146 = .ok (.lshl, 1) := by decide +kernel
theorem d_Bits_add_147 : decode b_Bits_add 147 = .ok (.lor, 1) := by decide +kernel
theorem d_Bits_add_148 : decode b_Bits_add 148 = .ok (.lastore, 1) := by decide +kernel
theorem d_Bits_add_149 : decode b_Bits_add 149 = .ok (.aload_n 0, 1) := by decide +kernel
theorem d_Bits_add_150 : decode b_Bits_add 150 = .ok (.dup, 1) := by decide +kernel
theorem d_Bits_add_151 : decode b_Bits_add 151 = .ok (.getfield 13, 3) := by decide +kernel
theorem d_Bits_add_154 : decode b_Bits_add 154 = .ok (.iload_n 3, 1) := by decide +kernel
theorem d_Bits_add_155 : decode b_Bits_add 155 = .ok (.iadd, 1) := by decide +kernel
theorem d_Bits_add_156 : decode b_Bits_add 156 = .ok (.putfield 13, 3) := by decide +kernel
theorem d_Bits_add_159 : decode b_Bits_add 159 = .ok (.iconst 1, 1) := by decide +kernel
theorem d_Bits_add_160 : decode b_Bits_add 160 = .ok (.ireturn, 1) := by decide +kernel
theorem d_Spot_begin_0 : decode b_Spot_begin 0 = .ok (.aload_n 0, 1) := by decide +kernel
theorem d_Spot_begin_1 : decode b_Spot_begin 1 = .ok (.aload_n 1, 1) := by decide +kernel
theorem d_Spot_begin_2 : decode b_Spot_begin 2 = .ok (.putfield 7, 3) := by decide +kernel
theorem d_Spot_begin_5 : decode b_Spot_begin 5 = .ok (.aload_n 0, 1) := by decide +kernel
theorem d_Spot_begin_6 : decode b_Spot_begin 6 = .ok (.iconst 0, 1) := by decide +kernel
theorem d_Spot_begin_7 : decode b_Spot_begin 7 = .ok (.putfield 13, 3) := by decide +kernel
theorem d_Spot_begin_10 : decode b_Spot_begin 10 = .ok (.aload_n 0, 1) := by decide +kernel
theorem d_Spot_begin_11 : decode b_Spot_begin 11 = .ok (.iconst (-1), 1) := by decide +kernel
theorem d_Spot_begin_12 : decode b_Spot_begin 12 = .ok (.iconst 0, 1) := by decide +kernel
theorem d_Spot_begin_13 : decode b_Spot_begin 13 = .ok (.invokevirtual 17, 3) := by decide +kernel
theorem d_Spot_begin_16 : decode b_Spot_begin 16 = .ok (.return_, 1) := by decide +kernel
theorem d_Spot_move_0 : decode b_Spot_move 0 = .ok (.aload_n 0, 1) := by decide +kernel
theorem d_Spot_move_1 : decode b_Spot_move 1 = .ok (.iload_n 1, 1) := by decide +kernel
theorem d_Spot_move_2 : decode b_Spot_move 2 = .ok (.putfield 21, 3) := by decide +kernel
theorem d_Spot_move_5 : decode b_Spot_move 5 = .ok (.aload_n 0, 1) := by decide +kernel
theorem d_Spot_move_6 : decode b_Spot_move 6 = .ok (.iload_n 2, 1) := by decide +kernel
theorem d_Spot_move_7 : decode b_Spot_move 7 = .ok (.putfield 24, 3) := by decide +kernel
theorem d_Spot_move_10 : decode b_Spot_move 10 = .ok (.aload_n 0, 1) := by decide +kernel
theorem d_Spot_move_11 : decode b_Spot_move 11 = .ok (.aload_n 0, 1) := by decide +kernel
theorem d_Spot_move_12 : decode b_Spot_move 12 = .ok (.getfield 7, 3) := by decide +kernel
theorem d_Spot_move_15 : decode b_Spot_move 15 = .ok (.iload_n 1, 1) := by decide +kernel
theorem d_Spot_move_16 : decode b_Spot_move 16 = .ok (.aload_n 0, 1) := by decide +kernel
theorem d_Spot_move_17 : decode b_Spot_move 17 = .ok (.getfield 13, 3) := by decide +kernel
theorem d_Spot_move_20 : decode b_Spot_move 20 = .ok (.invokevirtual 28, 3) := by decide +kernel
theorem d_Spot_move_23 : decode b_Spot_move 23 = .ok (.putfield 13, 3) := by decide +kernel
theorem d_Spot_move_26 : decode b_Spot_move 26 = .ok (.aload_n 0, 1) := by decide +kernel
theorem d_Spot_move_27 : decode b_Spot_move 27 = .ok (.getfield 13, 3) := by decide +kernel
theorem d_Spot_move_30 : decode b_Spot_move 30 = .ok (.iconst 1, 1) := by decide +kernel
theorem d_Spot_move_31 : decode b_Spot_move 31 = .ok (.iand, 1) := by decide +kernel
theorem d_Spot_move_32 : decode b_Spot_move 32 = .ok (.iconst 1, 1) := by decide +kernel
theorem d_Spot_move_33 : decode b_Spot_move 33 = .ok (.if_icmp .ne 7, 3) := by decide +kernel
theorem d_Spot_move_36 : decode b_Spot_move 36 = .ok (.iconst 1, 1) := by decide +kernel
theorem d_Spot_move_37 : decode b_Spot_move 37 = .ok (.goto 4, 3) := by decide +kernel
theorem d_Spot_move_40 : decode b_Spot_move 40 = .ok (.iconst 0, 1) := by decide +kernel
theorem d_Spot_move_41 : decode b_Spot_move 41 = .ok (.istore_n 3, 1) := by decide +kernel
theorem d_Spot_move_42 : decode b_Spot_move 42 = .ok (.iload_n 3, 1) := by decide +kernel
theorem d_Spot_move_43 : decode b_Spot_move 43 = .ok (.iload_n 2, 1) := by decide +kernel
theorem d_Spot_move_44 : decode b_Spot_move 44 = .ok (.if_icmp .ne 10, 3) := by decide +kernel
theorem d_Spot_move_47 : decode b_Spot_move 47 = .ok (.aload_n 0, 1) := by decide +kernel
theorem d_Spot_move_48 : decode b_Spot_move 48 = .ok (.getfield 13, 3) := by decide +kernel
theorem d_Spot_move_51 : decode b_Spot_move 51 = .ok (.goto 9, 3) := by decide +kernel
theorem d_Spot_move_54 : decode b_Spot_move 54 = .ok (.aload_n 0, 1) := by decide +kernel
theorem d_Spot_move_55 : decode b_Spot_move 55 = .ok (.getfield 13, 3) := by decide +kernel
theorem d_Spot_move_58 : decode b_Spot_move 58 = .ok (.iconst 1, 1) := by decide +kernel
theorem d_Spot_move_59 : decode b_Spot_move 59 = .ok (.iadd, 1) := by decide +kernel
theorem d_Spot_move_60 : decode b_Spot_move 60 = .ok (.istore 4, 2) := by decide +kernel
theorem d_Spot_move_62 : decode b_Spot_move 62 = .ok (.aload_n 0, 1) := by decide +kernel
theorem d_Spot_move_63 : decode b_Spot_move 63 = .ok (.aload_n 0, 1) := by decide +kernel
theorem d_Spot_move_64 : decode b_Spot_move 64 = .ok (.getfield 7, 3) := by decide +kernel
theorem d_Spot_move_67 : decode b_Spot_move 67 = .ok (.iload 4, 2) := by decide +kernel
theorem d_Spot_move_69 : decode b_Spot_move 69 = .ok (.invokevirtual 34, 3) := by decide +kernel
theorem d_Spot_move_72 : decode b_Spot_move 72 = .ok (.putfield 38, 3) := by decide +kernel
theorem d_Spot_move_75 : decode b_Spot_move 75 = .ok (.aload_n 0, 1) := by decide +kernel
theorem d_Spot_move_76 : decode b_Spot_move 76 = .ok (.aload_n 0, 1) := by decide +kernel
theorem d_Spot_move_77 : decode b_Spot_move 77 = .ok (.getfield 7, 3) := by decide +kernel
theorem d_Spot_move_80 : decode b_Spot_move 80 = .ok (.iload 4, 2) := by decide +kernel
theorem d_Spot_move_82 : decode b_Spot_move 82 = .ok (.iconst 1, 1) := by decide +kernel
theorem d_Spot_move_83 : decode b_Spot_move 83 = .ok (.iadd, 1) := by decide +kernel
theorem d_Spot_move_84 : decode b_Spot_move 84 = .ok (.invokevirtual 34, 3) := by decide +kernel
theorem d_Spot_move_87 : decode b_Spot_move 87 = .ok (.putfield 41, 3) := by decide +kernel
theorem d_Spot_move_90 : decode b_Spot_move 90 = .ok (.return_, 1) := by decide +kernel
theorem d_Line_firstRightOf_0 : decode b_Line_firstRightOf 0 = .ok (.iload_n 2, 1) := by decide +kernel
theorem d_Line_firstRightOf_1 : decode b_Line_firstRightOf 1 = .ok (.istore_n 3, 1) := by decide +kernel
theorem d_Line_firstRightOf_2 : decode b_Line_firstRightOf 2 = .ok (.iload_n 3, 1) := by decide +kernel
theorem d_Line_firstRightOf_3 : decode b_Line_firstRightOf 3 = .ok (.aload_n 0, 1) := by decide +kernel
theorem d_Line_firstRightOf_4 : decode b_Line_firstRightOf 4 = .ok (.getfield 27, 3) := by decide +kernel
theorem d_Line_firstRightOf_7 : decode b_Line_firstRightOf 7 = .ok (.if_icmp .ge 18, 3) := by decide +kernel
theorem d_Line_firstRightOf_10 : decode b_Line_firstRightOf 10 = .ok (.aload_n 0, 1) := by decide +kernel
theorem d_Line_firstRightOf_11 : decode b_Line_firstRightOf 11 = .ok (.iload_n 3, 1) := by decide +kernel
theorem d_Line_firstRightOf_12 : decode b_Line_firstRightOf 12 = .ok (.invokevirtual 54, 3) := by decide +kernel
theorem d_Line_firstRightOf_15 : decode b_Line_firstRightOf 15 = .ok (.iload_n 1, 1) := by decide +kernel
theorem d_Line_firstRightOf_16 : decode b_Line_firstRightOf 16 = .ok (.if_icmp .gt 9, 3) := by decide +kernel
theorem d_Line_firstRightOf_19 : decode b_Line_firstRightOf 19 = .ok (.iinc 3 1, 3) := by decide +kernel
theorem d_Line_firstRightOf_22 : decode b_Line_firstRightOf 22 = .ok (.goto (-20), 3) := by decide +kernel
theorem d_Line_firstRightOf_25 : decode b_Line_firstRightOf 25 = .ok (.iload_n 3, 1) := by decide +kernel
theorem d_Line_firstRightOf_26 : decode b_Line_firstRightOf 26 = .ok (.ireturn, 1) := by decide +kernel
theorem d_Line_placeOf_0 : decode b_Line_placeOf 0 = .ok (.iload_n 1, 1) := by decide +kernel
theorem d_Line_placeOf_1 : decode b_Line_placeOf 1 = .ok (.ifCond .lt 20, 3) := by decide +kernel
theorem d_Line_placeOf_4 : decode b_Line_placeOf 4 = .ok (.iload_n 1, 1) := by decide +kernel
theorem d_Line_placeOf_5 : decode b_Line_placeOf 5 = .ok (.aload_n 0, 1) := by decide +kernel
theorem d_Line_placeOf_6 : decode b_Line_placeOf 6 = .ok (.getfield 27, 3) := by decide +kernel
theorem d_Line_placeOf_9 : decode b_Line_placeOf 9 = .ok (.if_icmp .ge 12, 3) := by decide +kernel
theorem d_Line_placeOf_12 : decode b_Line_placeOf 12 = .ok (.iload_n 1, 1) := by decide +kernel
theorem d_Line_placeOf_13 : decode b_Line_placeOf 13 = .ok (.aload_n 0, 1) := by decide +kernel
theorem d_Line_placeOf_14 : decode b_Line_placeOf 14 = .ok (.getfield 17, 3) := by decide +kernel
theorem d_Line_placeOf_17 : decode b_Line_placeOf 17 = .ok (.arraylength, 1) := by decide +kernel
theorem d_Line_placeOf_18 : decode b_Line_placeOf 18 = .ok (.if_icmp .lt 10, 3) := by decide +kernel
theorem d_Line_placeOf_21 : decode b_Line_placeOf 21 = .ok (.aload_n 0, 1) := by decide +kernel
theorem d_Line_placeOf_22 : decode b_Line_placeOf 22 = .ok (.getfield 7, 3) := by decide +kernel
theorem d_Line_placeOf_25 : decode b_Line_placeOf 25 = .ok (.goto 9, 3) := by decide +kernel
theorem d_Line_placeOf_28 : decode b_Line_placeOf 28 = .ok (.aload_n 0, 1) := by decide +kernel
theorem d_Line_placeOf_29 : decode b_Line_placeOf 29 = .ok (.getfield 17, 3) := by decide +kernel
theorem d_Line_placeOf_32 : decode b_Line_placeOf 32 = .ok (.iload_n 1, 1) := by decide +kernel
theorem d_Line_placeOf_33 : decode b_Line_placeOf 33 = .ok (.iaload, 1) := by decide +kernel
theorem d_Line_placeOf_34 : decode b_Line_placeOf 34 = .ok (.ireturn, 1) := by decide +kernel
theorem d_Bits_bit_0 : decode b_Bits_bit 0 = .ok (.iload_n 1, 1) := by decide +kernel
theorem d_Bits_bit_1 : decode b_Bits_bit 1 = .ok (.bipush 6, 2) := by decide +kernel
theorem d_Bits_bit_3 : decode b_Bits_bit 3 = .ok (.ishr, 1) := by decide +kernel
theorem d_Bits_bit_4 : decode b_Bits_bit 4 = .ok (.istore_n 2, 1) := by decide +kernel
theorem d_Bits_bit_5 : decode b_Bits_bit 5 = .ok (.iload_n 2, 1) := by decide +kernel
theorem d_Bits_bit_6 : decode b_Bits_bit 6 = .ok (.ifCond .lt 12, 3) := by decide +kernel
theorem d_Bits_bit_9 : decode b_Bits_bit 9 = .ok (.iload_n 2, 1) := by decide +kernel
theorem d_Bits_bit_10 : decode b_Bits_bit 10 = .ok (.aload_n 0, 1) := by decide +kernel
theorem d_Bits_bit_11 : decode b_Bits_bit 11 = .ok (.getfield 9, 3) := by decide +kernel
theorem d_Bits_bit_14 : decode b_Bits_bit 14 = .ok (.arraylength, 1) := by decide +kernel
theorem d_Bits_bit_15 : decode b_Bits_bit 15 = .ok (.if_icmp .lt 7, 3) := by decide +kernel
theorem d_Bits_bit_18 : decode b_Bits_bit 18 = .ok (.iconst 0, 1) := by decide +kernel
theorem d_Bits_bit_19 : decode b_Bits_bit 19 = .ok (.goto 20, 3) := by decide +kernel
theorem d_Bits_bit_22 : decode b_Bits_bit 22 = .ok (.aload_n 0, 1) := by decide +kernel
theorem d_Bits_bit_23 : decode b_Bits_bit 23 = .ok (.getfield 9, 3) := by decide +kernel
theorem d_Bits_bit_26 : decode b_Bits_bit 26 = .ok (.iload_n 2, 1) := by decide +kernel
theorem d_Bits_bit_27 : decode b_Bits_bit 27 = .ok (.laload, 1) := by decide +kernel
theorem d_Bits_bit_28 : decode b_Bits_bit 28 = .ok (.bipush 63, 2) := by decide +kernel
theorem d_Bits_bit_30 : decode b_Bits_bit 30 = .ok (.iload_n 1, 1) := by decide +kernel
theorem d_Bits_bit_31 : decode b_Bits_bit 31 = .ok (.bipush 63, 2) := by decide +kernel
theorem d_Bits_bit_33 : decode b_Bits_bit 33 = .ok (.iand, 1) := by decide +kernel
theorem d_Bits_bit_34 : decode b_Bits_bit 34 = .ok (.isub, 1) := by decide +kernel
theorem d_Bits_bit_35 : decode b_Bits_bit 35 = .ok (.lushr, 1) := by decide +kernel
theorem d_Bits_bit_36 : decode b_Bits_bit 36 = .ok (.l2i, 1) := by decide +kernel
theorem d_Bits_bit_37 : decode b_Bits_bit 37 = .ok (.iconst 1, 1) := by decide +kernel
theorem d_Bits_bit_38 : decode b_Bits_bit 38 = .ok (.iand, 1) := by decide +kernel
theorem d_Bits_bit_39 : decode b_Bits_bit 39 = .ok (.ireturn, 1) := by decide +kernel
theorem d_Tree_isWord_0 : decode b_Tree_isWord 0 = .ok (.iload_n 0, 1) := by decide +kernel
theorem d_Tree_isWord_1 : decode b_Tree_isWord 1 = .ok (.ifCond .ge 7, 3) := by decide +kernel
theorem d_Tree_isWord_4 : decode b_Tree_isWord 4 = .ok (.iconst 1, 1) := by decide +kernel
theorem d_Tree_isWord_5 : decode b_Tree_isWord 5 = .ok (.goto 4, 3) := by decide +kernel
theorem d_Tree_isWord_8 : decode b_Tree_isWord 8 = .ok (.iconst 0, 1) := by decide +kernel
theorem d_Tree_isWord_9 : decode b_Tree_isWord 9 = .ok (.ireturn, 1) := by decide +kernel
theorem d_Tree_meaning_0 : decode b_Tree_meaning 0 = .ok (.iload_n 0, 1) := by decide +kernel
theorem d_Tree_meaning_1 : decode b_Tree_meaning 1 = .ok (.iconst (-1), 1) := by decide +kernel
theorem d_Tree_meaning_2 : decode b_Tree_meaning 2 = .ok (.ixor, 1) := by decide +kernel
theorem d_Tree_meaning_3 : decode b_Tree_meaning 3 = .ok (.ireturn, 1) := by decide +kernel
theorem d_Line_findChanges_0 : decode b_Line_findChanges 0 = .ok (.aload_n 0, 1) := by decide +kernel
theorem d_Line_findChanges_1 : decode b_Line_findChanges 1 = .ok (.iconst 0, 1) := by decide +kernel
theorem d_Line_findChanges_2 : decode b_Line_findChanges 2 = .ok (.putfield 27, 3) := by decide +kernel
theorem d_Line_findChanges_5 : decode b_Line_findChanges 5 = .ok (.lconst 0, 1) := by decide +kernel
theorem d_Line_findChanges_6 : decode b_Line_findChanges 6 = .ok (.lstore_n 1, 1) := by decide +kernel
theorem d_Line_findChanges_7 : decode b_Line_findChanges 7 = .ok (.iconst 0, 1) := by decide +kernel
theorem d_Line_findChanges_8 : decode b_Line_findChanges 8 = .ok (.istore_n 3, 1) := by decide +kernel
theorem d_Line_findChanges_9 : decode b_Line_findChanges 9 = .ok (.iload_n 3, 1) := by decide +kernel
theorem d_Line_findChanges_10 : decode b_Line_findChanges 10 = .ok (.aload_n 0, 1) := by decide +kernel
theorem d_Line_findChanges_11 : decode b_Line_findChanges 11 = .ok (.getfield 13, 3) := by decide +kernel
theorem d_Line_findChanges_14 : decode b_Line_findChanges 14 = .ok (.arraylength, 1) := by decide +kernel
theorem d_Line_findChanges_15 : decode b_Line_findChanges 15 = .ok (.if_icmp .ge 42, 3) := by decide +kernel
theorem d_Line_findChanges_18 : decode b_Line_findChanges 18 = .ok (.aload_n 0, 1) := by decide +kernel
theorem d_Line_findChanges_19 : decode b_Line_findChanges 19 = .ok (.getfield 13, 3) := by decide +kernel
theorem d_Line_findChanges_22 : decode b_Line_findChanges 22 = .ok (.iload_n 3, 1) := by decide +kernel
theorem d_Line_findChanges_23 : decode b_Line_findChanges 23 = .ok (.laload, 1) := by decide +kernel
theorem d_Line_findChanges_24 : decode b_Line_findChanges 24 = .ok (.lstore 4, 2) := by decide +kernel
theorem d_Line_findChanges_26 : decode b_Line_findChanges 26 = .ok (.aload_n 0, 1) := by decide +kernel
theorem d_Line_findChanges_27 : decode b_Line_findChanges 27 = .ok (.bipush 64, 2) := by decide +kernel
theorem d_Line_findChanges_29 : decode b_Line_findChanges 29 = .ok (.iload_n 3, 1) := by decide +kernel
theorem d_Line_findChanges_30 : decode b_Line_findChanges 30 = .ok (.imul, 1) := by decide +kernel
theorem d_Line_findChanges_31 : decode b_Line_findChanges 31 = .ok (.lload 4, 2) := by decide +kernel
theorem d_Line_findChanges_33 : decode b_Line_findChanges 33 = .ok (.lload 4, 2) := by decide +kernel
theorem d_Line_findChanges_35 : decode b_Line_findChanges 35 = .ok (.iconst 1, 1) := by decide +kernel
theorem d_Line_findChanges_36 : decode b_Line_findChanges 36 = .ok (.lushr, 1) := by decide +kernel
theorem d_Line_findChanges_37 : decode b_Line_findChanges 37 = .ok (.lload_n 1, 1) := by decide +kernel
theorem d_Line_findChanges_38 : decode b_Line_findChanges 38 = .ok (.bipush 63, 2) := by decide +kernel
theorem d_Line_findChanges_40 : decode b_Line_findChanges 40 = .ok (.lshl, 1) := by decide +kernel
theorem d_Line_findChanges_41 : decode b_Line_findChanges 41 = .ok (.lor, 1) := by decide +kernel
theorem d_Line_findChanges_42 : decode b_Line_findChanges 42 = .ok (.lxor, 1) := by decide +kernel
theorem d_Line_findChanges_43 : decode b_Line_findChanges 43 = .ok (.invokevirtual 41, 3) := by decide +kernel
theorem d_Line_findChanges_46 : decode b_Line_findChanges 46 = .ok (.lload 4, 2) := by decide +kernel
theorem d_Line_findChanges_48 : decode b_Line_findChanges 48 = .ok (.lconst 1, 1) := by decide +kernel
theorem d_Line_findChanges_49 : decode b_Line_findChanges 49 = .ok (.land, 1) := by decide +kernel
theorem d_Line_findChanges_50 : decode b_Line_findChanges 50 = .ok (.lstore_n 1, 1) := by decide +kernel
theorem d_Line_findChanges_51 : decode b_Line_findChanges 51 = .ok (.iinc 3 1, 3) := by decide +kernel
theorem d_Line_findChanges_54 : decode b_Line_findChanges 54 = .ok (.goto (-45), 3) := by decide +kernel
theorem d_Line_findChanges_57 : decode b_Line_findChanges 57 = .ok (.return_, 1) := by decide +kernel
theorem d_Line_addChanges_0 : decode b_Line_addChanges 0 = .ok (.lload_n 2, 1) := by decide +kernel
theorem d_Line_addChanges_1 : decode b_Line_addChanges 1 = .ok (.lstore 4, 2) := by decide +kernel
theorem d_Line_addChanges_3 : decode b_Line_addChanges 3 = .ok (.lload_n 2, 1) := by decide +kernel
theorem d_Line_addChanges_4 : decode b_Line_addChanges 4 = .ok (.invokestatic 45, 3) := by decide +kernel
theorem d_Line_addChanges_7 : decode b_Line_addChanges 7 = .ok (.istore 6, 2) := by decide +kernel
theorem d_Line_addChanges_9 : decode b_Line_addChanges 9 = .ok (.iload 6, 2) := by decide +kernel
theorem d_Line_addChanges_11 : decode b_Line_addChanges 11 = .ok (.ifCond .le 78, 3) := by decide +kernel
theorem d_Line_addChanges_14 : decode b_Line_addChanges 14 = .ok (.lload 4, 2) := by decide +kernel
theorem d_Line_addChanges_16 : decode b_Line_addChanges 16 = .ok (.invokestatic 51, 3) := by decide +kernel
theorem d_Line_addChanges_19 : decode b_Line_addChanges 19 = .ok (.istore 7, 2) := by decide +kernel
theorem d_Line_addChanges_21 : decode b_Line_addChanges 21 = .ok (.iload_n 1, 1) := by decide +kernel
theorem d_Line_addChanges_22 : decode b_Line_addChanges 22 = .ok (.iload 7, 2) := by decide +kernel
theorem d_Line_addChanges_24 : decode b_Line_addChanges 24 = .ok (.iadd, 1) := by decide +kernel
theorem d_Line_addChanges_25 : decode b_Line_addChanges 25 = .ok (.aload_n 0, 1) := by decide +kernel
theorem d_Line_addChanges_26 : decode b_Line_addChanges 26 = .ok (.getfield 7, 3) := by decide +kernel
theorem d_Line_addChanges_29 : decode b_Line_addChanges 29 = .ok (.if_icmp .ge 38, 3) := by decide +kernel
theorem d_Line_addChanges_32 : decode b_Line_addChanges 32 = .ok (.aload_n 0, 1) := by decide +kernel
theorem d_Line_addChanges_33 : decode b_Line_addChanges 33 = .ok (.getfield 27, 3) := by decide +kernel
theorem d_Line_addChanges_36 : decode b_Line_addChanges 36 = .ok (.aload_n 0, 1) := by decide +kernel
theorem d_Line_addChanges_37 : decode b_Line_addChanges 37 = .ok (.getfield 17, 3) := by decide +kernel
theorem d_Line_addChanges_40 : decode b_Line_addChanges 40 = .ok (.arraylength, 1) := by decide +kernel
theorem d_Line_addChanges_41 : decode b_Line_addChanges 41 = .ok (.if_icmp .ge 26, 3) := by decide +kernel
theorem d_Line_addChanges_44 : decode b_Line_addChanges 44 = .ok (.aload_n 0, 1) := by decide +kernel
theorem d_Line_addChanges_45 : decode b_Line_addChanges 45 = .ok (.getfield 17, 3) := by decide +kernel
theorem d_Line_addChanges_48 : decode b_Line_addChanges 48 = .ok (.aload_n 0, 1) := by decide +kernel
theorem d_Line_addChanges_49 : decode b_Line_addChanges 49 = .ok (.getfield 27, 3) := by decide +kernel
theorem d_Line_addChanges_52 : decode b_Line_addChanges 52 = .ok (.iload_n 1, 1) := by decide +kernel
theorem d_Line_addChanges_53 : decode b_Line_addChanges 53 = .ok (.iload 7, 2) := by decide +kernel
theorem d_Line_addChanges_55 : decode b_Line_addChanges 55 = .ok (.iadd, 1) := by decide +kernel
theorem d_Line_addChanges_56 : decode b_Line_addChanges 56 = .ok (.iastore, 1) := by decide +kernel
theorem d_Line_addChanges_57 : decode b_Line_addChanges 57 = .ok (.aload_n 0, 1) := by decide +kernel
theorem d_Line_addChanges_58 : decode b_Line_addChanges 58 = .ok (.dup, 1) := by decide +kernel
theorem d_Line_addChanges_59 : decode b_Line_addChanges 59 = .ok (.getfield 27, 3) := by decide +kernel
theorem d_Line_addChanges_62 : decode b_Line_addChanges 62 = .ok (.iconst 1, 1) := by decide +kernel
theorem d_Line_addChanges_63 : decode b_Line_addChanges 63 = .ok (.iadd, 1) := by decide +kernel
theorem d_Line_addChanges_64 : decode b_Line_addChanges 64 = .ok (.putfield 27, 3) := by decide +kernel
theorem d_Line_addChanges_67 : decode b_Line_addChanges 67 = .ok (.lload 4, 2) := by decide +kernel
theorem d_Line_addChanges_69 : decode b_Line_addChanges 69 = .ok (.lconst 1, 1) := by decide +kernel
theorem d_Line_addChanges_70 : decode b_Line_addChanges 70 = .ok (.bipush 63, 2) := by decide +kernel
theorem d_Line_addChanges_72 : decode b_Line_addChanges 72 = .ok (.iload 7, 2) := by decide +kernel
theorem d_Line_addChanges_74 : decode b_Line_addChanges 74 = .ok (.isub, 1) := by decide +kernel
theorem d_Line_addChanges_75 : decode b_Line_addChanges 75 = .ok (.lshl, 1) := by decide +kernel
theorem d_Line_addChanges_76 : decode b_Line_addChanges 76 = .ok (.ldc2_w 39, 3) := by decide +kernel
theorem d_Line_addChanges_79 : decode b_Line_addChanges 79 = .ok (.lxor, 1) := by decide +kernel
theorem d_Line_addChanges_80 : decode b_Line_addChanges 80 = .ok (.land, 1) := by decide +kernel
theorem d_Line_addChanges_81 : decode b_Line_addChanges 81 = .ok (.lstore 4, 2) := by decide +kernel
theorem d_Line_addChanges_83 : decode b_Line_addChanges 83 = .ok (.iinc 6 (-1), 3) := by decide +kernel
theorem d_Line_addChanges_86 : decode b_Line_addChanges 86 = .ok (.goto (-77), 3) := by decide +kernel
theorem d_Line_addChanges_89 : decode b_Line_addChanges 89 = .ok (.return_, 1) := by decide +kernel
theorem d_Long_bitCount_0 : decode b_Long_bitCount 0 = .ok (.lload_n 0, 1) := by decide +kernel
theorem d_Long_bitCount_1 : decode b_Long_bitCount 1 = .ok (.lload_n 0, 1) := by decide +kernel
theorem d_Long_bitCount_2 : decode b_Long_bitCount 2 = .ok (.iconst 1, 1) := by decide +kernel
theorem d_Long_bitCount_3 : decode b_Long_bitCount 3 = .ok (.lushr, 1) := by decide +kernel
theorem d_Long_bitCount_4 : decode b_Long_bitCount 4 = .ok (.ldc2_w 314, 3) := by decide +kernel
theorem d_Long_bitCount_7 : decode b_Long_bitCount 7 = .ok (.land, 1) := by decide +kernel
theorem d_Long_bitCount_8 : decode b_Long_bitCount 8 = .ok (.lsub, 1) := by decide +kernel
theorem d_Long_bitCount_9 : decode b_Long_bitCount 9 = .ok (.lstore_n 0, 1) := by decide +kernel
theorem d_Long_bitCount_10 : decode b_Long_bitCount 10 = .ok (.lload_n 0, 1) := by decide +kernel
theorem d_Long_bitCount_11 : decode b_Long_bitCount 11 = .ok (.ldc2_w 316, 3) := by decide +kernel
theorem d_Long_bitCount_14 : decode b_Long_bitCount 14 = .ok (.land, 1) := by decide +kernel
theorem d_Long_bitCount_15 : decode b_Long_bitCount 15 = .ok (.lload_n 0, 1) := by decide +kernel
theorem d_Long_bitCount_16 : decode b_Long_bitCount 16 = .ok (.iconst 2, 1) := by decide +kernel
theorem d_Long_bitCount_17 : decode b_Long_bitCount 17 = .ok (.lushr, 1) := by decide +kernel
theorem d_Long_bitCount_18 : decode b_Long_bitCount 18 = .ok (.ldc2_w 316, 3) := by decide +kernel
theorem d_Long_bitCount_21 : decode b_Long_bitCount 21 = .ok (.land, 1) := by decide +kernel
theorem d_Long_bitCount_22 : decode b_Long_bitCount 22 = .ok (.ladd, 1) := by decide +kernel
theorem d_Long_bitCount_23 : decode b_Long_bitCount 23 = .ok (.lstore_n 0, 1) := by decide +kernel
theorem d_Long_bitCount_24 : decode b_Long_bitCount 24 = .ok (.lload_n 0, 1) := by decide +kernel
theorem d_Long_bitCount_25 : decode b_Long_bitCount 25 = .ok (.lload_n 0, 1) := by decide +kernel
theorem d_Long_bitCount_26 : decode b_Long_bitCount 26 = .ok (.iconst 4, 1) := by decide +kernel
theorem d_Long_bitCount_27 : decode b_Long_bitCount 27 = .ok (.lushr, 1) := by decide +kernel
theorem d_Long_bitCount_28 : decode b_Long_bitCount 28 = .ok (.ladd, 1) := by decide +kernel
theorem d_Long_bitCount_29 : decode b_Long_bitCount 29 = .ok (.ldc2_w 318, 3) := by decide +kernel
theorem d_Long_bitCount_32 : decode b_Long_bitCount 32 = .ok (.land, 1) := by decide +kernel
theorem d_Long_bitCount_33 : decode b_Long_bitCount 33 = .ok (.lstore_n 0, 1) := by decide +kernel
theorem d_Long_bitCount_34 : decode b_Long_bitCount 34 = .ok (.lload_n 0, 1) := by decide +kernel
theorem d_Long_bitCount_35 : decode b_Long_bitCount 35 = .ok (.lload_n 0, 1) := by decide +kernel
theorem d_Long_bitCount_36 : decode b_Long_bitCount 36 = .ok (.bipush 8, 2) := by decide +kernel
theorem d_Long_bitCount_38 : decode b_Long_bitCount 38 = .ok (.lushr, 1) := by decide +kernel
theorem d_Long_bitCount_39 : decode b_Long_bitCount 39 = .ok (.ladd, 1) := by decide +kernel
theorem d_Long_bitCount_40 : decode b_Long_bitCount 40 = .ok (.lstore_n 0, 1) := by decide +kernel
theorem d_Long_bitCount_41 : decode b_Long_bitCount 41 = .ok (.lload_n 0, 1) := by decide +kernel
theorem d_Long_bitCount_42 : decode b_Long_bitCount 42 = .ok (.lload_n 0, 1) := by decide +kernel
theorem d_Long_bitCount_43 : decode b_Long_bitCount 43 = .ok (.bipush 16, 2) := by decide +kernel
theorem d_Long_bitCount_45 : decode b_Long_bitCount 45 = .ok (.lushr, 1) := by decide +kernel
theorem d_Long_bitCount_46 : decode b_Long_bitCount 46 = .ok (.ladd, 1) := by decide +kernel
theorem d_Long_bitCount_47 : decode b_Long_bitCount 47 = .ok (.lstore_n 0, 1) := by decide +kernel
theorem d_Long_bitCount_48 : decode b_Long_bitCount 48 = .ok (.lload_n 0, 1) := by decide +kernel
theorem d_Long_bitCount_49 : decode b_Long_bitCount 49 = .ok (.lload_n 0, 1) := by decide +kernel
theorem d_Long_bitCount_50 : decode b_Long_bitCount 50 = .ok (.bipush 32, 2) := by decide +kernel
theorem d_Long_bitCount_52 : decode b_Long_bitCount 52 = .ok (.lushr, 1) := by decide +kernel
theorem d_Long_bitCount_53 : decode b_Long_bitCount 53 = .ok (.ladd, 1) := by decide +kernel
theorem d_Long_bitCount_54 : decode b_Long_bitCount 54 = .ok (.lstore_n 0, 1) := by decide +kernel
theorem d_Long_bitCount_55 : decode b_Long_bitCount 55 = .ok (.lload_n 0, 1) := by decide +kernel
theorem d_Long_bitCount_56 : decode b_Long_bitCount 56 = .ok (.l2i, 1) := by decide +kernel
theorem d_Long_bitCount_57 : decode b_Long_bitCount 57 = .ok (.bipush 127, 2) := by decide +kernel
theorem d_Long_bitCount_59 : decode b_Long_bitCount 59 = .ok (.iand, 1) := by decide +kernel
theorem d_Long_bitCount_60 : decode b_Long_bitCount 60 = .ok (.ireturn, 1) := by decide +kernel
theorem d_Long_numberOfLeadingZeros_0 : decode b_Long_numberOfLeadingZeros 0 = .ok (.lload_n 0, 1) := by decide +kernel
theorem d_Long_numberOfLeadingZeros_1 : decode b_Long_numberOfLeadingZeros 1 = .ok (.bipush 32, 2) := by decide +kernel
theorem d_Long_numberOfLeadingZeros_3 : decode b_Long_numberOfLeadingZeros 3 = .ok (.lushr, 1) := by decide +kernel
theorem d_Long_numberOfLeadingZeros_4 : decode b_Long_numberOfLeadingZeros 4 = .ok (.l2i, 1) := by decide +kernel
theorem d_Long_numberOfLeadingZeros_5 : decode b_Long_numberOfLeadingZeros 5 = .ok (.istore_n 2, 1) := by decide +kernel
theorem d_Long_numberOfLeadingZeros_6 : decode b_Long_numberOfLeadingZeros 6 = .ok (.iload_n 2, 1) := by decide +kernel
theorem d_Long_numberOfLeadingZeros_7 : decode b_Long_numberOfLeadingZeros 7 = .ok (.ifCond .ne 14, 3) := by decide +kernel
theorem d_Long_numberOfLeadingZeros_10 : decode b_Long_numberOfLeadingZeros 10 = .ok (.bipush 32, 2) := by decide +kernel
theorem d_Long_numberOfLeadingZeros_12 : decode b_Long_numberOfLeadingZeros 12 = .ok (.lload_n 0, 1) := by decide +kernel
theorem d_Long_numberOfLeadingZeros_13 : decode b_Long_numberOfLeadingZeros 13 = .ok (.l2i, 1) := by decide +kernel
theorem d_Long_numberOfLeadingZeros_14 : decode b_Long_numberOfLeadingZeros 14 = .ok (.invokestatic 308, 3) := by decide +kernel
theorem d_Long_numberOfLeadingZeros_17 : decode b_Long_numberOfLeadingZeros 17 = .ok (.iadd, 1) := by decide +kernel
theorem d_Long_numberOfLeadingZeros_18 : decode b_Long_numberOfLeadingZeros 18 = .ok (.goto 7, 3) := by decide +kernel
theorem d_Long_numberOfLeadingZeros_21 : decode b_Long_numberOfLeadingZeros 21 = .ok (.iload_n 2, 1) := by decide +kernel
theorem d_Long_numberOfLeadingZeros_22 : decode b_Long_numberOfLeadingZeros 22 = .ok (.invokestatic 308, 3) := by decide +kernel
theorem d_Long_numberOfLeadingZeros_25 : decode b_Long_numberOfLeadingZeros 25 = .ok (.ireturn, 1) := by decide +kernel
theorem d_Line_part_0 : decode b_Line_part 0 = .ok (.iload_n 1, 1) := by decide +kernel
theorem d_Line_part_1 : decode b_Line_part 1 = .ok (.ifCond .lt 12, 3) := by decide +kernel
theorem d_Line_part_4 : decode b_Line_part 4 = .ok (.iload_n 1, 1) := by decide +kernel
theorem d_Line_part_5 : decode b_Line_part 5 = .ok (.aload_n 0, 1) := by decide +kernel
theorem d_Line_part_6 : decode b_Line_part 6 = .ok (.getfield 13, 3) := by decide +kernel
theorem d_Line_part_9 : decode b_Line_part 9 = .ok (.arraylength, 1) := by decide +kernel
theorem d_Line_part_10 : decode b_Line_part 10 = .ok (.if_icmp .lt 7, 3) := by decide +kernel
theorem d_Line_part_13 : decode b_Line_part 13 = .ok (.lconst 0, 1) := by decide +kernel
theorem d_Line_part_14 : decode b_Line_part 14 = .ok (.goto 9, 3) := by decide +kernel
theorem d_Line_part_17 : decode b_Line_part 17 = .ok (.aload_n 0, 1) := by decide +kernel
theorem d_Line_part_18 : decode b_Line_part 18 = .ok (.getfield 13, 3) := by decide +kernel
theorem d_Line_part_21 : decode b_Line_part 21 = .ok (.iload_n 1, 1) := by decide +kernel
theorem d_Line_part_22 : decode b_Line_part 22 = .ok (.laload, 1) := by decide +kernel
theorem d_Line_part_23 : decode b_Line_part 23 = .ok (.lreturn, 1) := by decide +kernel
theorem d_Bits_bytes_0 : decode b_Bits_bytes 0 = .ok (.aload_n 0, 1) := by decide +kernel
theorem d_Bits_bytes_1 : decode b_Bits_bytes 1 = .ok (.getfield 13, 3) := by decide +kernel
theorem d_Bits_bytes_4 : decode b_Bits_bytes 4 = .ok (.bipush 7, 2) := by decide +kernel
theorem d_Bits_bytes_6 : decode b_Bits_bytes 6 = .ok (.iadd, 1) := by decide +kernel
theorem d_Bits_bytes_7 : decode b_Bits_bytes 7 = .ok (.bipush 8, 2) := by decide +kernel
theorem d_Bits_bytes_9 : decode b_Bits_bytes 9 = .ok (.idiv, 1) := by decide +kernel
theorem d_Bits_bytes_10 : decode b_Bits_bytes 10 = .ok (.ireturn, 1) := by decide +kernel
theorem d_Bits_become_0 : decode b_Bits_become 0 = .ok (.aload_n 0, 1) := by decide +kernel
theorem d_Bits_become_1 : decode b_Bits_become 1 = .ok (.iconst 0, 1) := by decide +kernel
theorem d_Bits_become_2 : decode b_Bits_become 2 = .ok (.invokevirtual 20, 3) := by decide +kernel
theorem d_Bits_become_5 : decode b_Bits_become 5 = .ok (.iload_n 2, 1) := by decide +kernel
theorem d_Bits_become_6 : decode b_Bits_become 6 = .ok (.bipush 8, 2) := by decide +kernel
theorem d_Bits_become_8 : decode b_Bits_become 8 = .ok (.idiv, 1) := by decide +kernel
theorem d_Bits_become_9 : decode b_Bits_become 9 = .ok (.istore_n 3, 1) := by decide +kernel
theorem d_Bits_become_10 : decode b_Bits_become 10 = .ok (.bipush 8, 2) := by decide +kernel
theorem d_Bits_become_12 : decode b_Bits_become 12 = .ok (.aload_n 1, 1) := by decide +kernel
theorem d_Bits_become_13 : decode b_Bits_become 13 = .ok (.invokevirtual 24, 3) := by decide +kernel
theorem d_Bits_become_16 : decode b_Bits_become 16 = .ok (.iload_n 2, 1) := by decide +kernel
theorem d_Bits_become_17 : decode b_Bits_become 17 = .ok (.isub, 1) := by decide +kernel
theorem d_Bits_become_18 : decode b_Bits_become 18 = .ok (.imul, 1) := by decide +kernel
theorem d_Bits_become_19 : decode b_Bits_become 19 = .ok (.istore 4, 2) := by decide +kernel
theorem d_Bits_become_21 : decode b_Bits_become 21 = .ok (.aload_n 0, 1) := by decide +kernel
theorem d_Bits_become_22 : decode b_Bits_become 22 = .ok (.aload_n 1, 1) := by decide +kernel
theorem d_Bits_become_23 : decode b_Bits_become 23 = .ok (.iload_n 3, 1) := by decide +kernel
theorem d_Bits_become_24 : decode b_Bits_become 24 = .ok (.invokevirtual 28, 3) := by decide +kernel
theorem d_Bits_become_27 : decode b_Bits_become 27 = .ok (.bipush 64, 2) := by decide +kernel
theorem d_Bits_become_29 : decode b_Bits_become 29 = .ok (.bipush 8, 2) := by decide +kernel
theorem d_Bits_become_31 : decode b_Bits_become 31 = .ok (.iload_n 2, 1) := by decide +kernel
theorem d_Bits_become_32 : decode b_Bits_become 32 = .ok (.bipush 8, 2) := by decide +kernel
theorem d_Bits_become_34 : decode b_Bits_become 34 = .ok (.irem, 1) := by decide +kernel
theorem d_Bits_become_35 : decode b_Bits_become 35 = .ok (.imul, 1) := by decide +kernel
theorem d_Bits_become_36 : decode b_Bits_become 36 = .ok (.isub, 1) := by decide +kernel
theorem d_Bits_become_37 : decode b_Bits_become 37 = .ok (.invokevirtual 32, 3) := by decide +kernel
theorem d_Bits_become_40 : decode b_Bits_become 40 = .ok (.pop, 1) := by decide +kernel
theorem d_Bits_become_41 : decode b_Bits_become 41 = .ok (.iload_n 3, 1) := by decide +kernel
theorem d_Bits_become_42 : decode b_Bits_become 42 = .ok (.iconst 1, 1) := by decide +kernel
theorem d_Bits_become_43 : decode b_Bits_become 43 = .ok (.iadd, 1) := by decide +kernel
theorem d_Bits_become_44 : decode b_Bits_become 44 = .ok (.istore 5, 2) := by decide +kernel
theorem d_Bits_become_46 : decode b_Bits_become 46 = .ok (.iload 5, 2) := by decide +kernel
theorem d_Bits_become_48 : decode b_Bits_become 48 = .ok (.aload_n 0, 1) := by decide +kernel
theorem d_Bits_become_49 : decode b_Bits_become 49 = .ok (.getfield 9, 3) := by decide +kernel
theorem d_Bits_become_52 : decode b_Bits_become 52 = .ok (.arraylength, 1) := by decide +kernel
theorem d_Bits_become_53 : decode b_Bits_become 53 = .ok (.if_icmp .ge 31, 3) := by decide +kernel
theorem d_Bits_become_56 : decode b_Bits_become 56 = .ok (.aload_n 0, 1) := by decide +kernel
theorem d_Bits_become_57 : decode b_Bits_become 57 = .ok (.getfield 13, 3) := by decide +kernel
theorem d_Bits_become_60 : decode b_Bits_become 60 = .ok (.iload 4, 2) := by decide +kernel
theorem d_Bits_become_62 : decode b_Bits_become 62 = .ok (.if_icmp .ge 22, 3) := by decide +kernel
theorem d_Bits_become_65 : decode b_Bits_become 65 = .ok (.aload_n 0, 1) := by decide +kernel
theorem d_Bits_become_66 : decode b_Bits_become 66 = .ok (.aload_n 1, 1) := by decide +kernel
theorem d_Bits_become_67 : decode b_Bits_become 67 = .ok (.iload 5, 2) := by decide +kernel
theorem d_Bits_become_69 : decode b_Bits_become 69 = .ok (.invokevirtual 28, 3) := by decide +kernel
theorem d_Bits_become_72 : decode b_Bits_become 72 = .ok (.bipush 64, 2) := by decide +kernel
theorem d_Bits_become_74 : decode b_Bits_become 74 = .ok (.invokevirtual 32, 3) := by decide +kernel
theorem d_Bits_become_77 : decode b_Bits_become 77 = .ok (.pop, 1) := by decide +kernel
theorem d_Bits_become_78 : decode b_Bits_become 78 = .ok (.iinc 5 1, 3) := by decide +kernel
theorem d_Bits_become_81 : decode b_Bits_become 81 = .ok (.goto (-35), 3) := by decide +kernel
theorem d_Bits_become_84 : decode b_Bits_become 84 = .ok (.aload_n 0, 1) := by decide +kernel
theorem d_Bits_become_85 : decode b_Bits_become 85 = .ok (.iload 4, 2) := by decide +kernel
theorem d_Bits_become_87 : decode b_Bits_become 87 = .ok (.invokevirtual 20, 3) := by decide +kernel
theorem d_Bits_become_90 : decode b_Bits_become 90 = .ok (.return_, 1) := by decide +kernel

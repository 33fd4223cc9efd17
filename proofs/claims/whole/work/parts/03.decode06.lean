theorem dX10_resell_67 : decode cX10_resell 67 = .ok (.ireturn, 1) := by decide +kernel
theorem dX10_resell_68 : decode cX10_resell 68 = .ok (.aload_n 0, 1) := by decide +kernel
theorem dX10_resell_69 : decode cX10_resell 69 = .ok (.invokevirtual 453, 3) := by decide +kernel
theorem dX10_resell_72 : decode cX10_resell 72 = .ok (.sipush 176, 3) := by decide +kernel
theorem dX10_resell_75 : decode cX10_resell 75 = .ok (.iconst 4, 1) := by decide +kernel
theorem dX10_resell_76 : decode cX10_resell 76 = .ok (.aload_n 0, 1) := by decide +kernel
theorem dX10_resell_77 : decode cX10_resell 77 = .ok (.getfield 13, 3) := by decide +kernel
theorem dX10_resell_80 : decode cX10_resell 80 = .ok (.iconst 4, 1) := by decide +kernel
theorem dX10_resell_81 : decode cX10_resell 81 = .ok (.iaload, 1) := by decide +kernel
theorem dX10_resell_82 : decode cX10_resell 82 = .ok (.imul, 1) := by decide +kernel
theorem dX10_resell_83 : decode cX10_resell 83 = .ok (.iadd, 1) := by decide +kernel
theorem dX10_resell_84 : decode cX10_resell 84 = .ok (.istore 5, 2) := by decide +kernel
theorem dX10_resell_86 : decode cX10_resell 86 = .ok (.aload_n 0, 1) := by decide +kernel
theorem dX10_resell_87 : decode cX10_resell 87 = .ok (.getfield 13, 3) := by decide +kernel
theorem dX10_resell_90 : decode cX10_resell 90 = .ok (.iload 5, 2) := by decide +kernel
theorem dX10_resell_92 : decode cX10_resell 92 = .ok (.iconst 0, 1) := by decide +kernel
theorem dX10_resell_93 : decode cX10_resell 93 = .ok (.iadd, 1) := by decide +kernel
theorem dX10_resell_94 : decode cX10_resell 94 = .ok (.iload_n 1, 1) := by decide +kernel
theorem dX10_resell_95 : decode cX10_resell 95 = .ok (.iastore, 1) := by decide +kernel
theorem dX10_resell_96 : decode cX10_resell 96 = .ok (.aload_n 0, 1) := by decide +kernel
theorem dX10_resell_97 : decode cX10_resell 97 = .ok (.getfield 13, 3) := by decide +kernel
theorem dX10_resell_100 : decode cX10_resell 100 = .ok (.iload 5, 2) := by decide +kernel
theorem dX10_resell_102 : decode cX10_resell 102 = .ok (.iconst 1, 1) := by decide +kernel
theorem dX10_resell_103 : decode cX10_resell 103 = .ok (.iadd, 1) := by decide +kernel
theorem dX10_resell_104 : decode cX10_resell 104 = .ok (.iload_n 2, 1) := by decide +kernel
theorem dX10_resell_105 : decode cX10_resell 105 = .ok (.iastore, 1) := by decide +kernel
theorem dX10_resell_106 : decode cX10_resell 106 = .ok (.aload_n 0, 1) := by decide +kernel
theorem dX10_resell_107 : decode cX10_resell 107 = .ok (.getfield 13, 3) := by decide +kernel
theorem dX10_resell_110 : decode cX10_resell 110 = .ok (.iload 5, 2) := by decide +kernel
theorem dX10_resell_112 : decode cX10_resell 112 = .ok (.iconst 2, 1) := by decide +kernel
theorem dX10_resell_113 : decode cX10_resell 113 = .ok (.iadd, 1) := by decide +kernel
theorem dX10_resell_114 : decode cX10_resell 114 = .ok (.iload_n 3, 1) := by decide +kernel
theorem dX10_resell_115 : decode cX10_resell 115 = .ok (.iastore, 1) := by decide +kernel
theorem dX10_resell_116 : decode cX10_resell 116 = .ok (.aload_n 0, 1) := by decide +kernel
theorem dX10_resell_117 : decode cX10_resell 117 = .ok (.getfield 13, 3) := by decide +kernel
theorem dX10_resell_120 : decode cX10_resell 120 = .ok (.iload 5, 2) := by decide +kernel
theorem dX10_resell_122 : decode cX10_resell 122 = .ok (.iconst 3, 1) := by decide +kernel
theorem dX10_resell_123 : decode cX10_resell 123 = .ok (.iadd, 1) := by decide +kernel
theorem dX10_resell_124 : decode cX10_resell 124 = .ok (.iload 4, 2) := by decide +kernel
theorem dX10_resell_126 : decode cX10_resell 126 = .ok (.iastore, 1) := by decide +kernel
theorem dX10_resell_127 : decode cX10_resell 127 = .ok (.aload_n 0, 1) := by decide +kernel
theorem dX10_resell_128 : decode cX10_resell 128 = .ok (.getfield 13, 3) := by decide +kernel
theorem dX10_resell_131 : decode cX10_resell 131 = .ok (.iconst 4, 1) := by decide +kernel
theorem dX10_resell_132 : decode cX10_resell 132 = .ok (.dup2, 1) := by decide +kernel
theorem dX10_resell_133 : decode cX10_resell 133 = .ok (.iaload, 1) := by decide +kernel
theorem dX10_resell_134 : decode cX10_resell 134 = .ok (.iconst 1, 1) := by decide +kernel
theorem dX10_resell_135 : decode cX10_resell 135 = .ok (.iadd, 1) := by decide +kernel
theorem dX10_resell_136 : decode cX10_resell 136 = .ok (.iastore, 1) := by decide +kernel
theorem dX10_resell_137 : decode cX10_resell 137 = .ok (.aload_n 0, 1) := by decide +kernel
theorem dX10_resell_138 : decode cX10_resell 138 = .ok (.getfield 13, 3) := by decide +kernel
theorem dX10_resell_141 : decode cX10_resell 141 = .ok (.iconst 4, 1) := by decide +kernel
theorem dX10_resell_142 : decode cX10_resell 142 = .ok (.iaload, 1) := by decide +kernel
theorem dX10_resell_143 : decode cX10_resell 143 = .ok (.iconst 1, 1) := by decide +kernel
theorem dX10_resell_144 : decode cX10_resell 144 = .ok (.isub, 1) := by decide +kernel
theorem dX10_resell_145 : decode cX10_resell 145 = .ok (.ireturn, 1) := by decide +kernel
theorem dX10_spread_0 : decode cX10_spread 0 = .ok (.aload_n 0, 1) := by decide +kernel
theorem dX10_spread_1 : decode cX10_spread 1 = .ok (.iconst 0, 1) := by decide +kernel
theorem dX10_spread_2 : decode cX10_spread 2 = .ok (.putfield 1, 3) := by decide +kernel
theorem dX10_spread_5 : decode cX10_spread 5 = .ok (.aload_n 0, 1) := by decide +kernel
theorem dX10_spread_6 : decode cX10_spread 6 = .ok (.getfield 13, 3) := by decide +kernel
theorem dX10_spread_9 : decode cX10_spread 9 = .ok (.iconst 2, 1) := by decide +kernel
theorem dX10_spread_10 : decode cX10_spread 10 = .ok (.iaload, 1) := by decide +kernel
theorem dX10_spread_11 : decode cX10_spread 11 = .ok (.iload_n 1, 1) := by decide +kernel
theorem dX10_spread_12 : decode cX10_spread 12 = .ok (.invokestatic 278, 3) := by decide +kernel
theorem dX10_spread_15 : decode cX10_spread 15 = .ok (.ifCond .eq 31, 3) := by decide +kernel
theorem dX10_spread_18 : decode cX10_spread 18 = .ok (.iload_n 2, 1) := by decide +kernel
theorem dX10_spread_19 : decode cX10_spread 19 = .ok (.i2l, 1) := by decide +kernel
theorem dX10_spread_20 : decode cX10_spread 20 = .ok (.lconst 0, 1) := by decide +kernel
theorem dX10_spread_21 : decode cX10_spread 21 = .ok (.ldc2_w 456, 3) := by decide +kernel
theorem dX10_spread_24 : decode cX10_spread 24 = .ok (.invokestatic 97, 3) := by decide +kernel
theorem dX10_spread_27 : decode cX10_spread 27 = .ok (.ifCond .eq 19, 3) := by decide +kernel
theorem dX10_spread_30 : decode cX10_spread 30 = .ok (.aload_n 0, 1) := by decide +kernel
theorem dX10_spread_31 : decode cX10_spread 31 = .ok (.bipush 48, 2) := by decide +kernel
theorem dX10_spread_33 : decode cX10_spread 33 = .ok (.iconst 2, 1) := by decide +kernel
theorem dX10_spread_34 : decode cX10_spread 34 = .ok (.iload_n 1, 1) := by decide +kernel
theorem dX10_spread_35 : decode cX10_spread 35 = .ok (.imul, 1) := by decide +kernel
theorem dX10_spread_36 : decode cX10_spread 36 = .ok (.iadd, 1) := by decide +kernel
theorem dX10_spread_37 : decode cX10_spread 37 = .ok (.iconst 1, 1) := by decide +kernel
theorem dX10_spread_38 : decode cX10_spread 38 = .ok (.iadd, 1) := by decide +kernel
theorem dX10_spread_39 : decode cX10_spread 39 = .ok (.iload_n 2, 1) := by decide +kernel
theorem dX10_spread_40 : decode cX10_spread 40 = .ok (.invokevirtual 458, 3) := by decide +kernel
theorem dX10_spread_43 : decode cX10_spread 43 = .ok (.goto 4, 3) := by decide +kernel
theorem dX10_spread_46 : decode cX10_spread 46 = .ok (.iconst (-1), 1) := by decide +kernel
theorem dX10_spread_47 : decode cX10_spread 47 = .ok (.ireturn, 1) := by decide +kernel
theorem dX10_lessen_0 : decode cX10_lessen 0 = .ok (.aload_n 0, 1) := by decide +kernel
theorem dX10_lessen_1 : decode cX10_lessen 1 = .ok (.iconst 0, 1) := by decide +kernel
theorem dX10_lessen_2 : decode cX10_lessen 2 = .ok (.putfield 1, 3) := by decide +kernel
theorem dX10_lessen_5 : decode cX10_lessen 5 = .ok (.aload_n 0, 1) := by decide +kernel
theorem dX10_lessen_6 : decode cX10_lessen 6 = .ok (.getfield 13, 3) := by decide +kernel
theorem dX10_lessen_9 : decode cX10_lessen 9 = .ok (.iconst 5, 1) := by decide +kernel
theorem dX10_lessen_10 : decode cX10_lessen 10 = .ok (.iaload, 1) := by decide +kernel
theorem dX10_lessen_11 : decode cX10_lessen 11 = .ok (.iload_n 1, 1) := by decide +kernel
theorem dX10_lessen_12 : decode cX10_lessen 12 = .ok (.invokestatic 278, 3) := by decide +kernel
theorem dX10_lessen_15 : decode cX10_lessen 15 = .ok (.ifCond .eq 32, 3) := by decide +kernel
theorem dX10_lessen_18 : decode cX10_lessen 18 = .ok (.iload_n 2, 1) := by decide +kernel
theorem dX10_lessen_19 : decode cX10_lessen 19 = .ok (.i2l, 1) := by decide +kernel
theorem dX10_lessen_20 : decode cX10_lessen 20 = .ok (.lconst 0, 1) := by decide +kernel
theorem dX10_lessen_21 : decode cX10_lessen 21 = .ok (.ldc2_w 463, 3) := by decide +kernel
theorem dX10_lessen_24 : decode cX10_lessen 24 = .ok (.invokestatic 97, 3) := by decide +kernel
theorem dX10_lessen_27 : decode cX10_lessen 27 = .ok (.ifCond .eq 20, 3) := by decide +kernel
theorem dX10_lessen_30 : decode cX10_lessen 30 = .ok (.aload_n 0, 1) := by decide +kernel
theorem dX10_lessen_31 : decode cX10_lessen 31 = .ok (.sipush 224, 3) := by decide +kernel
theorem dX10_lessen_34 : decode cX10_lessen 34 = .ok (.iconst 2, 1) := by decide +kernel
theorem dX10_lessen_35 : decode cX10_lessen 35 = .ok (.iload_n 1, 1) := by decide +kernel
theorem dX10_lessen_36 : decode cX10_lessen 36 = .ok (.imul, 1) := by decide +kernel
theorem dX10_lessen_37 : decode cX10_lessen 37 = .ok (.iadd, 1) := by decide +kernel
theorem dX10_lessen_38 : decode cX10_lessen 38 = .ok (.iconst 1, 1) := by decide +kernel
theorem dX10_lessen_39 : decode cX10_lessen 39 = .ok (.iadd, 1) := by decide +kernel
theorem dX10_lessen_40 : decode cX10_lessen 40 = .ok (.iload_n 2, 1) := by decide +kernel
theorem dX10_lessen_41 : decode cX10_lessen 41 = .ok (.invokevirtual 458, 3) := by decide +kernel
theorem dX10_lessen_44 : decode cX10_lessen 44 = .ok (.goto 4, 3) := by decide +kernel
theorem dX10_lessen_47 : decode cX10_lessen 47 = .ok (.iconst (-1), 1) := by decide +kernel
theorem dX10_lessen_48 : decode cX10_lessen 48 = .ok (.ireturn, 1) := by decide +kernel
theorem dX10_undo_0 : decode cX10_undo 0 = .ok (.aload_n 0, 1) := by decide +kernel
theorem dX10_undo_1 : decode cX10_undo 1 = .ok (.iconst 0, 1) := by decide +kernel
theorem dX10_undo_2 : decode cX10_undo 2 = .ok (.putfield 1, 3) := by decide +kernel
theorem dX10_undo_5 : decode cX10_undo 5 = .ok (.aload_n 0, 1) := by decide +kernel
theorem dX10_undo_6 : decode cX10_undo 6 = .ok (.getfield 275, 3) := by decide +kernel
theorem dX10_undo_9 : decode cX10_undo 9 = .ok (.ifCond .ne 5, 3) := by decide +kernel
theorem dX10_undo_12 : decode cX10_undo 12 = .ok (.iconst (-1), 1) := by decide +kernel
theorem dX10_undo_13 : decode cX10_undo 13 = .ok (.ireturn, 1) := by decide +kernel
theorem dX10_undo_14 : decode cX10_undo 14 = .ok (.aload_n 0, 1) := by decide +kernel
theorem dX10_undo_15 : decode cX10_undo 15 = .ok (.dup, 1) := by decide +kernel
theorem dX10_undo_16 : decode cX10_undo 16 = .ok (.getfield 275, 3) := by decide +kernel
theorem dX10_undo_19 : decode cX10_undo 19 = .ok (.iconst 1, 1) := by decide +kernel
theorem dX10_undo_20 : decode cX10_undo 20 = .ok (.isub, 1) := by decide +kernel
theorem dX10_undo_21 : decode cX10_undo 21 = .ok (.putfield 275, 3) := by decide +kernel
theorem dX10_undo_24 : decode cX10_undo 24 = .ok (.aload_n 0, 1) := by decide +kernel
theorem dX10_undo_25 : decode cX10_undo 25 = .ok (.getfield 20, 3) := by decide +kernel
theorem dX10_undo_28 : decode cX10_undo 28 = .ok (.sipush 232, 3) := by decide +kernel
theorem dX10_undo_31 : decode cX10_undo 31 = .ok (.aload_n 0, 1) := by decide +kernel
theorem dX10_undo_32 : decode cX10_undo 32 = .ok (.getfield 275, 3) := by decide +kernel
theorem dX10_undo_35 : decode cX10_undo 35 = .ok (.imul, 1) := by decide +kernel
theorem dX10_undo_36 : decode cX10_undo 36 = .ok (.aload_n 0, 1) := by decide +kernel
theorem dX10_undo_37 : decode cX10_undo 37 = .ok (.getfield 13, 3) := by decide +kernel
theorem dX10_undo_40 : decode cX10_undo 40 = .ok (.iconst 0, 1) := by decide +kernel
theorem dX10_undo_41 : decode cX10_undo 41 = .ok (.invokestatic 271, 3) := by decide +kernel
theorem dX10_undo_44 : decode cX10_undo 44 = .ok (.aload_n 0, 1) := by decide +kernel
theorem dX10_undo_45 : decode cX10_undo 45 = .ok (.getfield 275, 3) := by decide +kernel
theorem dX10_undo_48 : decode cX10_undo 48 = .ok (.ireturn, 1) := by decide +kernel
theorem dX10_keep_0 : decode cX10_keep 0 = .ok (.aload_n 0, 1) := by decide +kernel
theorem dX10_keep_1 : decode cX10_keep 1 = .ok (.iconst 0, 1) := by decide +kernel
theorem dX10_keep_2 : decode cX10_keep 2 = .ok (.putfield 1, 3) := by decide +kernel
theorem dX10_keep_5 : decode cX10_keep 5 = .ok (.iload_n 1, 1) := by decide +kernel
theorem dX10_keep_6 : decode cX10_keep 6 = .ok (.i2l, 1) := by decide +kernel
theorem dX10_keep_7 : decode cX10_keep 7 = .ok (.lconst 0, 1) := by decide +kernel
theorem dX10_keep_8 : decode cX10_keep 8 = .ok (.lconst 1, 1) := by decide +kernel
theorem dX10_keep_9 : decode cX10_keep 9 = .ok (.invokestatic 97, 3) := by decide +kernel
theorem dX10_keep_12 : decode cX10_keep 12 = .ok (.ifCond .eq 16, 3) := by decide +kernel
theorem dX10_keep_15 : decode cX10_keep 15 = .ok (.iload_n 2, 1) := by decide +kernel
theorem dX10_keep_16 : decode cX10_keep 16 = .ok (.ifCond .eq 14, 3) := by decide +kernel
theorem dX10_keep_19 : decode cX10_keep 19 = .ok (.aload_n 0, 1) := by decide +kernel
theorem dX10_keep_20 : decode cX10_keep 20 = .ok (.getfield 26, 3) := by decide +kernel
theorem dX10_keep_23 : decode cX10_keep 23 = .ok (.iload_n 1, 1) := by decide +kernel
theorem dX10_keep_24 : decode cX10_keep 24 = .ok (.baload, 1) := by decide +kernel
theorem dX10_keep_25 : decode cX10_keep 25 = .ok (.ifCond .ne 5, 3) := by decide +kernel
theorem dX10_keep_28 : decode cX10_keep 28 = .ok (.iconst 0, 1) := by decide +kernel
theorem dX10_keep_29 : decode cX10_keep 29 = .ok (.ireturn, 1) := by decide +kernel
theorem dX10_keep_30 : decode cX10_keep 30 = .ok (.iload_n 2, 1) := by decide +kernel
theorem dX10_keep_31 : decode cX10_keep 31 = .ok (.ifCond .eq 28, 3) := by decide +kernel
theorem dX10_keep_34 : decode cX10_keep 34 = .ok (.aload_n 0, 1) := by decide +kernel
theorem dX10_keep_35 : decode cX10_keep 35 = .ok (.getfield 23, 3) := by decide +kernel
theorem dX10_keep_38 : decode cX10_keep 38 = .ok (.sipush 232, 3) := by decide +kernel
theorem dX10_keep_41 : decode cX10_keep 41 = .ok (.iload_n 1, 1) := by decide +kernel
theorem dX10_keep_42 : decode cX10_keep 42 = .ok (.imul, 1) := by decide +kernel
theorem dX10_keep_43 : decode cX10_keep 43 = .ok (.aload_n 0, 1) := by decide +kernel
theorem dX10_keep_44 : decode cX10_keep 44 = .ok (.getfield 13, 3) := by decide +kernel
theorem dX10_keep_47 : decode cX10_keep 47 = .ok (.iconst 0, 1) := by decide +kernel
theorem dX10_keep_48 : decode cX10_keep 48 = .ok (.invokestatic 271, 3) := by decide +kernel
theorem dX10_keep_51 : decode cX10_keep 51 = .ok (.aload_n 0, 1) := by decide +kernel
theorem dX10_keep_52 : decode cX10_keep 52 = .ok (.iconst 0, 1) := by decide +kernel
theorem dX10_keep_53 : decode cX10_keep 53 = .ok (.putfield 275, 3) := by decide +kernel
theorem dX10_keep_56 : decode cX10_keep 56 = .ok (.goto 27, 3) := by decide +kernel
theorem dX10_keep_59 : decode cX10_keep 59 = .ok (.aload_n 0, 1) := by decide +kernel
theorem dX10_keep_60 : decode cX10_keep 60 = .ok (.getfield 13, 3) := by decide +kernel
theorem dX10_keep_63 : decode cX10_keep 63 = .ok (.iconst 0, 1) := by decide +kernel
theorem dX10_keep_64 : decode cX10_keep 64 = .ok (.aload_n 0, 1) := by decide +kernel
theorem dX10_keep_65 : decode cX10_keep 65 = .ok (.getfield 23, 3) := by decide +kernel
theorem dX10_keep_68 : decode cX10_keep 68 = .ok (.sipush 232, 3) := by decide +kernel
theorem dX10_keep_71 : decode cX10_keep 71 = .ok (.iload_n 1, 1) := by decide +kernel
theorem dX10_keep_72 : decode cX10_keep 72 = .ok (.imul, 1) := by decide +kernel
theorem dX10_keep_73 : decode cX10_keep 73 = .ok (.invokestatic 271, 3) := by decide +kernel
theorem dX10_keep_76 : decode cX10_keep 76 = .ok (.aload_n 0, 1) := by decide +kernel
theorem dX10_keep_77 : decode cX10_keep 77 = .ok (.getfield 26, 3) := by decide +kernel
theorem dX10_keep_80 : decode cX10_keep 80 = .ok (.iload_n 1, 1) := by decide +kernel
theorem dX10_keep_81 : decode cX10_keep 81 = .ok (.iconst 1, 1) := by decide +kernel
theorem dX10_keep_82 : decode cX10_keep 82 = .ok (.bastore, 1) := by decide +kernel
theorem dX10_keep_83 : decode cX10_keep 83 = .ok (.iconst 1, 1) := by decide +kernel
theorem dX10_keep_84 : decode cX10_keep 84 = .ok (.ireturn, 1) := by decide +kernel
theorem dJ7_fill_53178_0 : decode cJ7_fill_53178 0 = .ok (.iconst 0, 1) := by decide +kernel
theorem dJ7_fill_53178_1 : decode cJ7_fill_53178 1 = .ok (.istore_n 2, 1) := by decide +kernel
theorem dJ7_fill_53178_2 : decode cJ7_fill_53178 2 = .ok (.aload_n 0, 1) := by decide +kernel
theorem dJ7_fill_53178_3 : decode cJ7_fill_53178 3 = .ok (.arraylength, 1) := by decide +kernel
theorem dJ7_fill_53178_4 : decode cJ7_fill_53178 4 = .ok (.istore_n 3, 1) := by decide +kernel
theorem dJ7_fill_53178_5 : decode cJ7_fill_53178 5 = .ok (.iload_n 2, 1) := by decide +kernel
theorem dJ7_fill_53178_6 : decode cJ7_fill_53178 6 = .ok (.iload_n 3, 1) := by decide +kernel
theorem dJ7_fill_53178_7 : decode cJ7_fill_53178 7 = .ok (.if_icmp .ge 13, 3) := by decide +kernel
theorem dJ7_fill_53178_10 : decode cJ7_fill_53178 10 = .ok (.aload_n 0, 1) := by decide +kernel
theorem dJ7_fill_53178_11 : decode cJ7_fill_53178 11 = .ok (.iload_n 2, 1) := by decide +kernel
theorem dJ7_fill_53178_12 : decode cJ7_fill_53178 12 = .ok (.iload_n 1, 1) := by decide +kernel
theorem dJ7_fill_53178_13 : decode cJ7_fill_53178 13 = .ok (.iastore, 1) := by decide +kernel
theorem dJ7_fill_53178_14 : decode cJ7_fill_53178 14 = .ok (.iinc 2 1, 3) := by decide +kernel
theorem dJ7_fill_53178_17 : decode cJ7_fill_53178 17 = .ok (.goto (-12), 3) := by decide +kernel
theorem dJ7_fill_53178_20 : decode cJ7_fill_53178 20 = .ok (.return_, 1) := by decide +kernel
theorem dL_sale_0 : decode cL_sale 0 = .ok (.aload_n 3, 1) := by decide +kernel
theorem dL_sale_1 : decode cL_sale 1 = .ok (.iconst 0, 1) := by decide +kernel
theorem dL_sale_2 : decode cL_sale 2 = .ok (.aload_n 0, 1) := by decide +kernel
theorem dL_sale_3 : decode cL_sale 3 = .ok (.iload_n 1, 1) := by decide +kernel
theorem dL_sale_4 : decode cL_sale 4 = .ok (.iload_n 2, 1) := by decide +kernel
theorem dL_sale_5 : decode cL_sale 5 = .ok (.invokevirtual 7, 3) := by decide +kernel
theorem dL_sale_8 : decode cL_sale 8 = .ok (.i2l, 1) := by decide +kernel
theorem dL_sale_9 : decode cL_sale 9 = .ok (.lastore, 1) := by decide +kernel
theorem dL_sale_10 : decode cL_sale 10 = .ok (.goto 7, 3) := by decide +kernel
theorem dL_sale_13 : decode cL_sale 13 = .ok (.astore 4, 2) := by decide +kernel
theorem dL_sale_15 : decode cL_sale 15 = .ok (.iconst 1, 1) := by decide +kernel
theorem dL_sale_16 : decode cL_sale 16 = .ok (.ireturn, 1) := by decide +kernel
theorem dL_sale_17 : decode cL_sale 17 = .ok (.iconst 0, 1) := by decide +kernel
theorem dL_sale_18 : decode cL_sale 18 = .ok (.ireturn, 1) := by decide +kernel
theorem dL_law_0 : decode cL_law 0 = .ok (.new 8, 3) := by decide +kernel
theorem dL_law_3 : decode cL_law 3 = .ok (.dup, 1) := by decide +kernel
theorem dL_law_4 : decode cL_law 4 = .ok (.invokespecial 15, 3) := by decide +kernel
theorem dL_law_7 : decode cL_law 7 = .ok (.astore_n 1, 1) := by decide +kernel
theorem dL_law_8 : decode cL_law 8 = .ok (.new 16, 3) := by decide +kernel
theorem dL_law_11 : decode cL_law 11 = .ok (.dup, 1) := by decide +kernel
theorem dL_law_12 : decode cL_law 12 = .ok (.invokespecial 18, 3) := by decide +kernel
theorem dL_law_15 : decode cL_law 15 = .ok (.astore_n 2, 1) := by decide +kernel
theorem dL_law_16 : decode cL_law 16 = .ok (.iconst 1, 1) := by decide +kernel
theorem dL_law_17 : decode cL_law 17 = .ok (.newarray .long, 2) := by decide +kernel
theorem dL_law_19 : decode cL_law 19 = .ok (.astore_n 3, 1) := by decide +kernel
theorem dL_law_20 : decode cL_law 20 = .ok (.iconst 0, 1) := by decide +kernel
theorem dL_law_21 : decode cL_law 21 = .ok (.istore 4, 2) := by decide +kernel
theorem dL_law_23 : decode cL_law 23 = .ok (.iload 4, 2) := by decide +kernel
theorem dL_law_25 : decode cL_law 25 = .ok (.aload_n 0, 1) := by decide +kernel
theorem dL_law_26 : decode cL_law 26 = .ok (.arraylength, 1) := by decide +kernel
theorem dL_law_27 : decode cL_law 27 = .ok (.bipush 6, 2) := by decide +kernel
theorem dL_law_29 : decode cL_law 29 = .ok (.isub, 1) := by decide +kernel
theorem dL_law_30 : decode cL_law 30 = .ok (.if_icmp .gt 1479, 3) := by decide +kernel
theorem dL_law_33 : decode cL_law 33 = .ok (.aload_n 0, 1) := by decide +kernel
theorem dL_law_34 : decode cL_law 34 = .ok (.iload 4, 2) := by decide +kernel
theorem dL_law_36 : decode cL_law 36 = .ok (.iaload, 1) := by decide +kernel
theorem dL_law_37 : decode cL_law 37 = .ok (.bipush 63, 2) := by decide +kernel
theorem dL_law_39 : decode cL_law 39 = .ok (.iand, 1) := by decide +kernel
theorem dL_law_40 : decode cL_law 40 = .ok (.tableswitch 1463 0 36 #[164, 237, 262, 287, 355, 392, 429, 466, 503, 540, 577, 602, 628, 666, 703, 729, 754, 791, 829, 854, 891, 916, 941, 967, 993, 1007, 1032, 1057, 1094, 1147, 1212, 1249, 1262, 1323, 1360, 1397, 1410], 164) := by decide +kernel
theorem dL_law_204 : decode cL_law 204 = .ok (.aload_n 1, 1) := by decide +kernel
theorem dL_law_205 : decode cL_law 205 = .ok (.aload_n 0, 1) := by decide +kernel
theorem dL_law_206 : decode cL_law 206 = .ok (.iload 4, 2) := by decide +kernel
theorem dL_law_208 : decode cL_law 208 = .ok (.iconst 1, 1) := by decide +kernel
theorem dL_law_209 : decode cL_law 209 = .ok (.iadd, 1) := by decide +kernel
theorem dL_law_210 : decode cL_law 210 = .ok (.iaload, 1) := by decide +kernel
theorem dL_law_211 : decode cL_law 211 = .ok (.aload_n 0, 1) := by decide +kernel
theorem dL_law_212 : decode cL_law 212 = .ok (.iload 4, 2) := by decide +kernel
theorem dL_law_214 : decode cL_law 214 = .ok (.iconst 2, 1) := by decide +kernel
theorem dL_law_215 : decode cL_law 215 = .ok (.iadd, 1) := by decide +kernel
theorem dL_law_216 : decode cL_law 216 = .ok (.iaload, 1) := by decide +kernel
theorem dL_law_217 : decode cL_law 217 = .ok (.aload_n 0, 1) := by decide +kernel
theorem dL_law_218 : decode cL_law 218 = .ok (.iload 4, 2) := by decide +kernel
theorem dL_law_220 : decode cL_law 220 = .ok (.iconst 3, 1) := by decide +kernel
theorem dL_law_221 : decode cL_law 221 = .ok (.iadd, 1) := by decide +kernel
theorem dL_law_222 : decode cL_law 222 = .ok (.iaload, 1) := by decide +kernel
theorem dL_law_223 : decode cL_law 223 = .ok (.aload_n 0, 1) := by decide +kernel
theorem dL_law_224 : decode cL_law 224 = .ok (.iload 4, 2) := by decide +kernel
theorem dL_law_226 : decode cL_law 226 = .ok (.iconst 4, 1) := by decide +kernel
theorem dL_law_227 : decode cL_law 227 = .ok (.iadd, 1) := by decide +kernel
theorem dL_law_228 : decode cL_law 228 = .ok (.iaload, 1) := by decide +kernel
theorem dL_law_229 : decode cL_law 229 = .ok (.aload_n 0, 1) := by decide +kernel
theorem dL_law_230 : decode cL_law 230 = .ok (.iload 4, 2) := by decide +kernel
theorem dL_law_232 : decode cL_law 232 = .ok (.iconst 5, 1) := by decide +kernel
theorem dL_law_233 : decode cL_law 233 = .ok (.iadd, 1) := by decide +kernel
theorem dL_law_234 : decode cL_law 234 = .ok (.iaload, 1) := by decide +kernel
theorem dL_law_235 : decode cL_law 235 = .ok (.invokevirtual 19, 3) := by decide +kernel
theorem dL_law_238 : decode cL_law 238 = .ok (.aload_n 2, 1) := by decide +kernel
theorem dL_law_239 : decode cL_law 239 = .ok (.aload_n 0, 1) := by decide +kernel
theorem dL_law_240 : decode cL_law 240 = .ok (.iload 4, 2) := by decide +kernel
theorem dL_law_242 : decode cL_law 242 = .ok (.iconst 1, 1) := by decide +kernel
theorem dL_law_243 : decode cL_law 243 = .ok (.iadd, 1) := by decide +kernel
theorem dL_law_244 : decode cL_law 244 = .ok (.iaload, 1) := by decide +kernel
theorem dL_law_245 : decode cL_law 245 = .ok (.aload_n 0, 1) := by decide +kernel
theorem dL_law_246 : decode cL_law 246 = .ok (.iload 4, 2) := by decide +kernel
theorem dL_law_248 : decode cL_law 248 = .ok (.iconst 2, 1) := by decide +kernel
theorem dL_law_249 : decode cL_law 249 = .ok (.iadd, 1) := by decide +kernel
theorem dL_law_250 : decode cL_law 250 = .ok (.iaload, 1) := by decide +kernel
theorem dL_law_251 : decode cL_law 251 = .ok (.aload_n 0, 1) := by decide +kernel
theorem dL_law_252 : decode cL_law 252 = .ok (.iload 4, 2) := by decide +kernel
theorem dL_law_254 : decode cL_law 254 = .ok (.iconst 3, 1) := by decide +kernel
theorem dL_law_255 : decode cL_law 255 = .ok (.iadd, 1) := by decide +kernel
theorem dL_law_256 : decode cL_law 256 = .ok (.iaload, 1) := by decide +kernel
theorem dL_law_257 : decode cL_law 257 = .ok (.aload_n 0, 1) := by decide +kernel
theorem dL_law_258 : decode cL_law 258 = .ok (.iload 4, 2) := by decide +kernel
theorem dL_law_260 : decode cL_law 260 = .ok (.iconst 4, 1) := by decide +kernel
theorem dL_law_261 : decode cL_law 261 = .ok (.iadd, 1) := by decide +kernel
theorem dL_law_262 : decode cL_law 262 = .ok (.iaload, 1) := by decide +kernel
theorem dL_law_263 : decode cL_law 263 = .ok (.aload_n 0, 1) := by decide +kernel
theorem dL_law_264 : decode cL_law 264 = .ok (.iload 4, 2) := by decide +kernel
theorem dL_law_266 : decode cL_law 266 = .ok (.iconst 5, 1) := by decide +kernel
theorem dL_law_267 : decode cL_law 267 = .ok (.iadd, 1) := by decide +kernel
theorem dL_law_268 : decode cL_law 268 = .ok (.iaload, 1) := by decide +kernel
theorem dL_law_269 : decode cL_law 269 = .ok (.invokevirtual 23, 3) := by decide +kernel
theorem dL_law_272 : decode cL_law 272 = .ok (.if_icmp .eq 1231, 3) := by decide +kernel
theorem dL_law_275 : decode cL_law 275 = .ok (.iconst 0, 1) := by decide +kernel
theorem dL_law_276 : decode cL_law 276 = .ok (.ireturn, 1) := by decide +kernel
theorem dL_law_277 : decode cL_law 277 = .ok (.aload_n 1, 1) := by decide +kernel
theorem dL_law_278 : decode cL_law 278 = .ok (.aload_n 0, 1) := by decide +kernel
theorem dL_law_279 : decode cL_law 279 = .ok (.iload 4, 2) := by decide +kernel
theorem dL_law_281 : decode cL_law 281 = .ok (.iconst 1, 1) := by decide +kernel
theorem dL_law_282 : decode cL_law 282 = .ok (.iadd, 1) := by decide +kernel
theorem dL_law_283 : decode cL_law 283 = .ok (.iaload, 1) := by decide +kernel
theorem dL_law_284 : decode cL_law 284 = .ok (.invokevirtual 24, 3) := by decide +kernel
theorem dL_law_287 : decode cL_law 287 = .ok (.aload_n 2, 1) := by decide +kernel
theorem dL_law_288 : decode cL_law 288 = .ok (.aload_n 0, 1) := by decide +kernel
theorem dL_law_289 : decode cL_law 289 = .ok (.iload 4, 2) := by decide +kernel
theorem dL_law_291 : decode cL_law 291 = .ok (.iconst 1, 1) := by decide +kernel
theorem dL_law_292 : decode cL_law 292 = .ok (.iadd, 1) := by decide +kernel
theorem dL_law_293 : decode cL_law 293 = .ok (.iaload, 1) := by decide +kernel
theorem dL_law_294 : decode cL_law 294 = .ok (.invokevirtual 28, 3) := by decide +kernel
theorem dL_law_297 : decode cL_law 297 = .ok (.if_icmp .eq 1206, 3) := by decide +kernel
theorem dL_law_300 : decode cL_law 300 = .ok (.iconst 0, 1) := by decide +kernel
theorem dL_law_301 : decode cL_law 301 = .ok (.ireturn, 1) := by decide +kernel
theorem dL_law_302 : decode cL_law 302 = .ok (.aload_n 1, 1) := by decide +kernel
theorem dL_law_303 : decode cL_law 303 = .ok (.aload_n 0, 1) := by decide +kernel
theorem dL_law_304 : decode cL_law 304 = .ok (.iload 4, 2) := by decide +kernel
theorem dL_law_306 : decode cL_law 306 = .ok (.iconst 1, 1) := by decide +kernel
theorem dL_law_307 : decode cL_law 307 = .ok (.iadd, 1) := by decide +kernel
theorem dL_law_308 : decode cL_law 308 = .ok (.iaload, 1) := by decide +kernel
theorem dL_law_309 : decode cL_law 309 = .ok (.invokevirtual 29, 3) := by decide +kernel
theorem dL_law_312 : decode cL_law 312 = .ok (.aload_n 2, 1) := by decide +kernel
theorem dL_law_313 : decode cL_law 313 = .ok (.aload_n 0, 1) := by decide +kernel
theorem dL_law_314 : decode cL_law 314 = .ok (.iload 4, 2) := by decide +kernel
theorem dL_law_316 : decode cL_law 316 = .ok (.iconst 1, 1) := by decide +kernel
theorem dL_law_317 : decode cL_law 317 = .ok (.iadd, 1) := by decide +kernel
theorem dL_law_318 : decode cL_law 318 = .ok (.iaload, 1) := by decide +kernel
theorem dL_law_319 : decode cL_law 319 = .ok (.invokevirtual 32, 3) := by decide +kernel
theorem dL_law_322 : decode cL_law 322 = .ok (.if_icmp .eq 1181, 3) := by decide +kernel
theorem dL_law_325 : decode cL_law 325 = .ok (.iconst 0, 1) := by decide +kernel
theorem dL_law_326 : decode cL_law 326 = .ok (.ireturn, 1) := by decide +kernel
theorem dL_law_327 : decode cL_law 327 = .ok (.aload_n 1, 1) := by decide +kernel
theorem dL_law_328 : decode cL_law 328 = .ok (.aload_n 0, 1) := by decide +kernel
theorem dL_law_329 : decode cL_law 329 = .ok (.iload 4, 2) := by decide +kernel
theorem dL_law_331 : decode cL_law 331 = .ok (.iconst 1, 1) := by decide +kernel
theorem dL_law_332 : decode cL_law 332 = .ok (.iadd, 1) := by decide +kernel
theorem dL_law_333 : decode cL_law 333 = .ok (.iaload, 1) := by decide +kernel
theorem dL_law_334 : decode cL_law 334 = .ok (.aload_n 0, 1) := by decide +kernel
theorem dL_law_335 : decode cL_law 335 = .ok (.iload 4, 2) := by decide +kernel
theorem dL_law_337 : decode cL_law 337 = .ok (.iconst 2, 1) := by decide +kernel
theorem dL_law_338 : decode cL_law 338 = .ok (.iadd, 1) := by decide +kernel
theorem dL_law_339 : decode cL_law 339 = .ok (.iaload, 1) := by decide +kernel
theorem dL_law_340 : decode cL_law 340 = .ok (.aload_n 3, 1) := by decide +kernel
theorem dL_law_341 : decode cL_law 341 = .ok (.invokestatic 33, 3) := by decide +kernel
theorem dL_law_344 : decode cL_law 344 = .ok (.istore 5, 2) := by decide +kernel
theorem dL_law_346 : decode cL_law 346 = .ok (.aload_n 2, 1) := by decide +kernel
theorem dL_law_347 : decode cL_law 347 = .ok (.aload_n 0, 1) := by decide +kernel
theorem dL_law_348 : decode cL_law 348 = .ok (.iload 4, 2) := by decide +kernel
theorem dL_law_350 : decode cL_law 350 = .ok (.iconst 1, 1) := by decide +kernel
theorem dL_law_351 : decode cL_law 351 = .ok (.iadd, 1) := by decide +kernel
theorem dL_law_352 : decode cL_law 352 = .ok (.iaload, 1) := by decide +kernel
theorem dL_law_353 : decode cL_law 353 = .ok (.aload_n 0, 1) := by decide +kernel
theorem dL_law_354 : decode cL_law 354 = .ok (.iload 4, 2) := by decide +kernel
theorem dL_law_356 : decode cL_law 356 = .ok (.iconst 2, 1) := by decide +kernel
theorem dL_law_357 : decode cL_law 357 = .ok (.iadd, 1) := by decide +kernel
theorem dL_law_358 : decode cL_law 358 = .ok (.iaload, 1) := by decide +kernel
theorem dL_law_359 : decode cL_law 359 = .ok (.invokevirtual 38, 3) := by decide +kernel
theorem dL_law_362 : decode cL_law 362 = .ok (.istore 6, 2) := by decide +kernel
theorem dL_law_364 : decode cL_law 364 = .ok (.aload_n 2, 1) := by decide +kernel
theorem dL_law_365 : decode cL_law 365 = .ok (.invokevirtual 39, 3) := by decide +kernel
theorem dL_law_368 : decode cL_law 368 = .ok (.iload 5, 2) := by decide +kernel
theorem dL_law_370 : decode cL_law 370 = .ok (.if_icmp .eq 5, 3) := by decide +kernel
theorem dL_law_373 : decode cL_law 373 = .ok (.iconst 0, 1) := by decide +kernel
theorem dL_law_374 : decode cL_law 374 = .ok (.ireturn, 1) := by decide +kernel
theorem dL_law_375 : decode cL_law 375 = .ok (.iload 5, 2) := by decide +kernel
theorem dL_law_377 : decode cL_law 377 = .ok (.ifCond .ne 15, 3) := by decide +kernel
theorem dL_law_380 : decode cL_law 380 = .ok (.aload_n 3, 1) := by decide +kernel
theorem dL_law_381 : decode cL_law 381 = .ok (.iconst 0, 1) := by decide +kernel
theorem dL_law_382 : decode cL_law 382 = .ok (.laload, 1) := by decide +kernel
theorem dL_law_383 : decode cL_law 383 = .ok (.iload 6, 2) := by decide +kernel
theorem dL_law_385 : decode cL_law 385 = .ok (.i2l, 1) := by decide +kernel
theorem dL_law_386 : decode cL_law 386 = .ok (.lcmp, 1) := by decide +kernel
theorem dL_law_387 : decode cL_law 387 = .ok (.ifCond .eq 5, 3) := by decide +kernel
theorem dL_law_390 : decode cL_law 390 = .ok (.iconst 0, 1) := by decide +kernel
theorem dL_law_391 : decode cL_law 391 = .ok (.ireturn, 1) := by decide +kernel
theorem dL_law_392 : decode cL_law 392 = .ok (.goto 1111, 3) := by decide +kernel
theorem dL_law_395 : decode cL_law 395 = .ok (.aload_n 1, 1) := by decide +kernel
theorem dL_law_396 : decode cL_law 396 = .ok (.aload_n 0, 1) := by decide +kernel
theorem dL_law_397 : decode cL_law 397 = .ok (.iload 4, 2) := by decide +kernel
theorem dL_law_399 : decode cL_law 399 = .ok (.iconst 1, 1) := by decide +kernel
theorem dL_law_400 : decode cL_law 400 = .ok (.iadd, 1) := by decide +kernel
theorem dL_law_401 : decode cL_law 401 = .ok (.iaload, 1) := by decide +kernel
theorem dL_law_402 : decode cL_law 402 = .ok (.aload_n 0, 1) := by decide +kernel
theorem dL_law_403 : decode cL_law 403 = .ok (.iload 4, 2) := by decide +kernel
theorem dL_law_405 : decode cL_law 405 = .ok (.iconst 2, 1) := by decide +kernel
theorem dL_law_406 : decode cL_law 406 = .ok (.iadd, 1) := by decide +kernel
theorem dL_law_407 : decode cL_law 407 = .ok (.iaload, 1) := by decide +kernel
theorem dL_law_408 : decode cL_law 408 = .ok (.invokevirtual 43, 3) := by decide +kernel
theorem dL_law_411 : decode cL_law 411 = .ok (.aload_n 2, 1) := by decide +kernel
theorem dL_law_412 : decode cL_law 412 = .ok (.aload_n 0, 1) := by decide +kernel
theorem dL_law_413 : decode cL_law 413 = .ok (.iload 4, 2) := by decide +kernel
theorem dL_law_415 : decode cL_law 415 = .ok (.iconst 1, 1) := by decide +kernel
theorem dL_law_416 : decode cL_law 416 = .ok (.iadd, 1) := by decide +kernel
theorem dL_law_417 : decode cL_law 417 = .ok (.iaload, 1) := by decide +kernel
theorem dL_law_418 : decode cL_law 418 = .ok (.aload_n 0, 1) := by decide +kernel
theorem dL_law_419 : decode cL_law 419 = .ok (.iload 4, 2) := by decide +kernel
theorem dL_law_421 : decode cL_law 421 = .ok (.iconst 2, 1) := by decide +kernel
theorem dL_law_422 : decode cL_law 422 = .ok (.iadd, 1) := by decide +kernel
theorem dL_law_423 : decode cL_law 423 = .ok (.iaload, 1) := by decide +kernel
theorem dL_law_424 : decode cL_law 424 = .ok (.invokevirtual 46, 3) := by decide +kernel
theorem dL_law_427 : decode cL_law 427 = .ok (.if_icmp .eq 1076, 3) := by decide +kernel
theorem dL_law_430 : decode cL_law 430 = .ok (.iconst 0, 1) := by decide +kernel
theorem dL_law_431 : decode cL_law 431 = .ok (.ireturn, 1) := by decide +kernel
theorem dL_law_432 : decode cL_law 432 = .ok (.aload_n 1, 1) := by decide +kernel
theorem dL_law_433 : decode cL_law 433 = .ok (.aload_n 0, 1) := by decide +kernel
theorem dL_law_434 : decode cL_law 434 = .ok (.iload 4, 2) := by decide +kernel
theorem dL_law_436 : decode cL_law 436 = .ok (.iconst 1, 1) := by decide +kernel
theorem dL_law_437 : decode cL_law 437 = .ok (.iadd, 1) := by decide +kernel
theorem dL_law_438 : decode cL_law 438 = .ok (.iaload, 1) := by decide +kernel
theorem dL_law_439 : decode cL_law 439 = .ok (.aload_n 0, 1) := by decide +kernel
theorem dL_law_440 : decode cL_law 440 = .ok (.iload 4, 2) := by decide +kernel
theorem dL_law_442 : decode cL_law 442 = .ok (.iconst 2, 1) := by decide +kernel
theorem dL_law_443 : decode cL_law 443 = .ok (.iadd, 1) := by decide +kernel
theorem dL_law_444 : decode cL_law 444 = .ok (.iaload, 1) := by decide +kernel
theorem dL_law_445 : decode cL_law 445 = .ok (.invokevirtual 47, 3) := by decide +kernel
theorem dL_law_448 : decode cL_law 448 = .ok (.aload_n 2, 1) := by decide +kernel
theorem dL_law_449 : decode cL_law 449 = .ok (.aload_n 0, 1) := by decide +kernel
theorem dL_law_450 : decode cL_law 450 = .ok (.iload 4, 2) := by decide +kernel
theorem dL_law_452 : decode cL_law 452 = .ok (.iconst 1, 1) := by decide +kernel
theorem dL_law_453 : decode cL_law 453 = .ok (.iadd, 1) := by decide +kernel
theorem dL_law_454 : decode cL_law 454 = .ok (.iaload, 1) := by decide +kernel
theorem dL_law_455 : decode cL_law 455 = .ok (.aload_n 0, 1) := by decide +kernel
theorem dL_law_456 : decode cL_law 456 = .ok (.iload 4, 2) := by decide +kernel
theorem dL_law_458 : decode cL_law 458 = .ok (.iconst 2, 1) := by decide +kernel
theorem dL_law_459 : decode cL_law 459 = .ok (.iadd, 1) := by decide +kernel
theorem dL_law_460 : decode cL_law 460 = .ok (.iaload, 1) := by decide +kernel
theorem dL_law_461 : decode cL_law 461 = .ok (.invokevirtual 50, 3) := by decide +kernel
theorem dL_law_464 : decode cL_law 464 = .ok (.if_icmp .eq 1039, 3) := by decide +kernel
theorem dL_law_467 : decode cL_law 467 = .ok (.iconst 0, 1) := by decide +kernel
theorem dL_law_468 : decode cL_law 468 = .ok (.ireturn, 1) := by decide +kernel
theorem dL_law_469 : decode cL_law 469 = .ok (.aload_n 1, 1) := by decide +kernel
theorem dL_law_470 : decode cL_law 470 = .ok (.aload_n 0, 1) := by decide +kernel
theorem dL_law_471 : decode cL_law 471 = .ok (.iload 4, 2) := by decide +kernel
theorem dL_law_473 : decode cL_law 473 = .ok (.iconst 1, 1) := by decide +kernel
theorem dL_law_474 : decode cL_law 474 = .ok (.iadd, 1) := by decide +kernel
theorem dL_law_475 : decode cL_law 475 = .ok (.iaload, 1) := by decide +kernel
theorem dL_law_476 : decode cL_law 476 = .ok (.aload_n 0, 1) := by decide +kernel
theorem dL_law_477 : decode cL_law 477 = .ok (.iload 4, 2) := by decide +kernel
theorem dL_law_479 : decode cL_law 479 = .ok (.iconst 2, 1) := by decide +kernel
theorem dL_law_480 : decode cL_law 480 = .ok (.iadd, 1) := by decide +kernel
theorem dL_law_481 : decode cL_law 481 = .ok (.iaload, 1) := by decide +kernel
theorem dL_law_482 : decode cL_law 482 = .ok (.invokevirtual 51, 3) := by decide +kernel
theorem dL_law_485 : decode cL_law 485 = .ok (.aload_n 2, 1) := by decide +kernel
theorem dL_law_486 : decode cL_law 486 = .ok (.aload_n 0, 1) := by decide +kernel
theorem dL_law_487 : decode cL_law 487 = .ok (.iload 4, 2) := by decide +kernel
theorem dL_law_489 : decode cL_law 489 = .ok (.iconst 1, 1) := by decide +kernel
theorem dL_law_490 : decode cL_law 490 = .ok (.iadd, 1) := by decide +kernel
theorem dL_law_491 : decode cL_law 491 = .ok (.iaload, 1) := by decide +kernel
theorem dL_law_492 : decode cL_law 492 = .ok (.aload_n 0, 1) := by decide +kernel
theorem dL_law_493 : decode cL_law 493 = .ok (.iload 4, 2) := by decide +kernel
theorem dL_law_495 : decode cL_law 495 = .ok (.iconst 2, 1) := by decide +kernel
theorem dL_law_496 : decode cL_law 496 = .ok (.iadd, 1) := by decide +kernel
theorem dL_law_497 : decode cL_law 497 = .ok (.iaload, 1) := by decide +kernel
theorem dL_law_498 : decode cL_law 498 = .ok (.invokevirtual 54, 3) := by decide +kernel
theorem dL_law_501 : decode cL_law 501 = .ok (.if_icmp .eq 1002, 3) := by decide +kernel
theorem dL_law_504 : decode cL_law 504 = .ok (.iconst 0, 1) := by decide +kernel
theorem dL_law_505 : decode cL_law 505 = .ok (.ireturn, 1) := by decide +kernel
theorem dL_law_506 : decode cL_law 506 = .ok (.aload_n 1, 1) := by decide +kernel
theorem dL_law_507 : decode cL_law 507 = .ok (.aload_n 0, 1) := by decide +kernel
theorem dL_law_508 : decode cL_law 508 = .ok (.iload 4, 2) := by decide +kernel
theorem dL_law_510 : decode cL_law 510 = .ok (.iconst 1, 1) := by decide +kernel
theorem dL_law_511 : decode cL_law 511 = .ok (.iadd, 1) := by decide +kernel
theorem dL_law_512 : decode cL_law 512 = .ok (.iaload, 1) := by decide +kernel
theorem dL_law_513 : decode cL_law 513 = .ok (.aload_n 0, 1) := by decide +kernel
theorem dL_law_514 : decode cL_law 514 = .ok (.iload 4, 2) := by decide +kernel
theorem dL_law_516 : decode cL_law 516 = .ok (.iconst 2, 1) := by decide +kernel
theorem dL_law_517 : decode cL_law 517 = .ok (.iadd, 1) := by decide +kernel
theorem dL_law_518 : decode cL_law 518 = .ok (.iaload, 1) := by decide +kernel
theorem dL_law_519 : decode cL_law 519 = .ok (.invokevirtual 55, 3) := by decide +kernel
theorem dL_law_522 : decode cL_law 522 = .ok (.aload_n 2, 1) := by decide +kernel
theorem dL_law_523 : decode cL_law 523 = .ok (.aload_n 0, 1) := by decide +kernel
theorem dL_law_524 : decode cL_law 524 = .ok (.iload 4, 2) := by decide +kernel
theorem dL_law_526 : decode cL_law 526 = .ok (.iconst 1, 1) := by decide +kernel
theorem dL_law_527 : decode cL_law 527 = .ok (.iadd, 1) := by decide +kernel
theorem dL_law_528 : decode cL_law 528 = .ok (.iaload, 1) := by decide +kernel
theorem dL_law_529 : decode cL_law 529 = .ok (.aload_n 0, 1) := by decide +kernel
theorem dL_law_530 : decode cL_law 530 = .ok (.iload 4, 2) := by decide +kernel
theorem dL_law_532 : decode cL_law 532 = .ok (.iconst 2, 1) := by decide +kernel
theorem dL_law_533 : decode cL_law 533 = .ok (.iadd, 1) := by decide +kernel
theorem dL_law_534 : decode cL_law 534 = .ok (.iaload, 1) := by decide +kernel
theorem dL_law_535 : decode cL_law 535 = .ok (.invokevirtual 58, 3) := by decide +kernel
theorem dL_law_538 : decode cL_law 538 = .ok (.if_icmp .eq 965, 3) := by decide +kernel
theorem dL_law_541 : decode cL_law 541 = .ok (.iconst 0, 1) := by decide +kernel
theorem dL_law_542 : decode cL_law 542 = .ok (.ireturn, 1) := by decide +kernel
theorem dL_law_543 : decode cL_law 543 = .ok (.aload_n 1, 1) := by decide +kernel
theorem dL_law_544 : decode cL_law 544 = .ok (.aload_n 0, 1) := by decide +kernel
theorem dL_law_545 : decode cL_law 545 = .ok (.iload 4, 2) := by decide +kernel
theorem dL_law_547 : decode cL_law 547 = .ok (.iconst 1, 1) := by decide +kernel
theorem dL_law_548 : decode cL_law 548 = .ok (.iadd, 1) := by decide +kernel
theorem dL_law_549 : decode cL_law 549 = .ok (.iaload, 1) := by decide +kernel
theorem dL_law_550 : decode cL_law 550 = .ok (.aload_n 0, 1) := by decide +kernel
theorem dL_law_551 : decode cL_law 551 = .ok (.iload 4, 2) := by decide +kernel
theorem dL_law_553 : decode cL_law 553 = .ok (.iconst 2, 1) := by decide +kernel
theorem dL_law_554 : decode cL_law 554 = .ok (.iadd, 1) := by decide +kernel
theorem dL_law_555 : decode cL_law 555 = .ok (.iaload, 1) := by decide +kernel
theorem dL_law_556 : decode cL_law 556 = .ok (.invokevirtual 59, 3) := by decide +kernel
theorem dL_law_559 : decode cL_law 559 = .ok (.aload_n 2, 1) := by decide +kernel
theorem dL_law_560 : decode cL_law 560 = .ok (.aload_n 0, 1) := by decide +kernel
theorem dL_law_561 : decode cL_law 561 = .ok (.iload 4, 2) := by decide +kernel
theorem dL_law_563 : decode cL_law 563 = .ok (.iconst 1, 1) := by decide +kernel
theorem dL_law_564 : decode cL_law 564 = .ok (.iadd, 1) := by decide +kernel
theorem dL_law_565 : decode cL_law 565 = .ok (.iaload, 1) := by decide +kernel
theorem dL_law_566 : decode cL_law 566 = .ok (.aload_n 0, 1) := by decide +kernel
theorem dL_law_567 : decode cL_law 567 = .ok (.iload 4, 2) := by decide +kernel
theorem dL_law_569 : decode cL_law 569 = .ok (.iconst 2, 1) := by decide +kernel
theorem dL_law_570 : decode cL_law 570 = .ok (.iadd, 1) := by decide +kernel
theorem dL_law_571 : decode cL_law 571 = .ok (.iaload, 1) := by decide +kernel
theorem dL_law_572 : decode cL_law 572 = .ok (.invokevirtual 62, 3) := by decide +kernel
theorem dL_law_575 : decode cL_law 575 = .ok (.if_icmp .eq 928, 3) := by decide +kernel
theorem dL_law_578 : decode cL_law 578 = .ok (.iconst 0, 1) := by decide +kernel
theorem dL_law_579 : decode cL_law 579 = .ok (.ireturn, 1) := by decide +kernel
theorem dL_law_580 : decode cL_law 580 = .ok (.aload_n 1, 1) := by decide +kernel
theorem dL_law_581 : decode cL_law 581 = .ok (.aload_n 0, 1) := by decide +kernel
theorem dL_law_582 : decode cL_law 582 = .ok (.iload 4, 2) := by decide +kernel
theorem dL_law_584 : decode cL_law 584 = .ok (.iconst 1, 1) := by decide +kernel
theorem dL_law_585 : decode cL_law 585 = .ok (.iadd, 1) := by decide +kernel
theorem dL_law_586 : decode cL_law 586 = .ok (.iaload, 1) := by decide +kernel
theorem dL_law_587 : decode cL_law 587 = .ok (.aload_n 0, 1) := by decide +kernel
theorem dL_law_588 : decode cL_law 588 = .ok (.iload 4, 2) := by decide +kernel
theorem dL_law_590 : decode cL_law 590 = .ok (.iconst 2, 1) := by decide +kernel
theorem dL_law_591 : decode cL_law 591 = .ok (.iadd, 1) := by decide +kernel
theorem dL_law_592 : decode cL_law 592 = .ok (.iaload, 1) := by decide +kernel
theorem dL_law_593 : decode cL_law 593 = .ok (.invokevirtual 63, 3) := by decide +kernel
theorem dL_law_596 : decode cL_law 596 = .ok (.aload_n 2, 1) := by decide +kernel
theorem dL_law_597 : decode cL_law 597 = .ok (.aload_n 0, 1) := by decide +kernel
theorem dL_law_598 : decode cL_law 598 = .ok (.iload 4, 2) := by decide +kernel
theorem dL_law_600 : decode cL_law 600 = .ok (.iconst 1, 1) := by decide +kernel
theorem dL_law_601 : decode cL_law 601 = .ok (.iadd, 1) := by decide +kernel
theorem dL_law_602 : decode cL_law 602 = .ok (.iaload, 1) := by decide +kernel
theorem dL_law_603 : decode cL_law 603 = .ok (.aload_n 0, 1) := by decide +kernel
theorem dL_law_604 : decode cL_law 604 = .ok (.iload 4, 2) := by decide +kernel
theorem dL_law_606 : decode cL_law 606 = .ok (.iconst 2, 1) := by decide +kernel
theorem dL_law_607 : decode cL_law 607 = .ok (.iadd, 1) := by decide +kernel
theorem dL_law_608 : decode cL_law 608 = .ok (.iaload, 1) := by decide +kernel
theorem dL_law_609 : decode cL_law 609 = .ok (.invokevirtual 66, 3) := by decide +kernel
theorem dL_law_612 : decode cL_law 612 = .ok (.if_icmp .eq 891, 3) := by decide +kernel
theorem dL_law_615 : decode cL_law 615 = .ok (.iconst 0, 1) := by decide +kernel
theorem dL_law_616 : decode cL_law 616 = .ok (.ireturn, 1) := by decide +kernel
theorem dL_law_617 : decode cL_law 617 = .ok (.aload_n 1, 1) := by decide +kernel
theorem dL_law_618 : decode cL_law 618 = .ok (.aload_n 0, 1) := by decide +kernel
theorem dL_law_619 : decode cL_law 619 = .ok (.iload 4, 2) := by decide +kernel
theorem dL_law_621 : decode cL_law 621 = .ok (.iconst 1, 1) := by decide +kernel
theorem dL_law_622 : decode cL_law 622 = .ok (.iadd, 1) := by decide +kernel
theorem dL_law_623 : decode cL_law 623 = .ok (.iaload, 1) := by decide +kernel
theorem dL_law_624 : decode cL_law 624 = .ok (.invokevirtual 67, 3) := by decide +kernel
theorem dL_law_627 : decode cL_law 627 = .ok (.aload_n 2, 1) := by decide +kernel
theorem dL_law_628 : decode cL_law 628 = .ok (.aload_n 0, 1) := by decide +kernel
theorem dL_law_629 : decode cL_law 629 = .ok (.iload 4, 2) := by decide +kernel
theorem dL_law_631 : decode cL_law 631 = .ok (.iconst 1, 1) := by decide +kernel
theorem dL_law_632 : decode cL_law 632 = .ok (.iadd, 1) := by decide +kernel
theorem dL_law_633 : decode cL_law 633 = .ok (.iaload, 1) := by decide +kernel
theorem dL_law_634 : decode cL_law 634 = .ok (.invokevirtual 70, 3) := by decide +kernel
theorem dL_law_637 : decode cL_law 637 = .ok (.if_icmp .eq 866, 3) := by decide +kernel
theorem dL_law_640 : decode cL_law 640 = .ok (.iconst 0, 1) := by decide +kernel
theorem dL_law_641 : decode cL_law 641 = .ok (.ireturn, 1) := by decide +kernel
theorem dL_law_642 : decode cL_law 642 = .ok (.aload_n 1, 1) := by decide +kernel
theorem dL_law_643 : decode cL_law 643 = .ok (.aload_n 0, 1) := by decide +kernel
theorem dL_law_644 : decode cL_law 644 = .ok (.iload 4, 2) := by decide +kernel
theorem dL_law_646 : decode cL_law 646 = .ok (.iconst 1, 1) := by decide +kernel
theorem dL_law_647 : decode cL_law 647 = .ok (.iadd, 1) := by decide +kernel
theorem dL_law_648 : decode cL_law 648 = .ok (.iaload, 1) := by decide +kernel
theorem dL_law_649 : decode cL_law 649 = .ok (.invokevirtual 71, 3) := by decide +kernel
theorem dL_law_652 : decode cL_law 652 = .ok (.aload_n 2, 1) := by decide +kernel
theorem dL_law_653 : decode cL_law 653 = .ok (.aload_n 0, 1) := by decide +kernel
theorem dL_law_654 : decode cL_law 654 = .ok (.iload 4, 2) := by decide +kernel
theorem dL_law_656 : decode cL_law 656 = .ok (.iconst 1, 1) := by decide +kernel
theorem dL_law_657 : decode cL_law 657 = .ok (.iadd, 1) := by decide +kernel
theorem dL_law_658 : decode cL_law 658 = .ok (.iaload, 1) := by decide +kernel
theorem dL_law_659 : decode cL_law 659 = .ok (.invokevirtual 75, 3) := by decide +kernel
theorem dL_law_662 : decode cL_law 662 = .ok (.lcmp, 1) := by decide +kernel
theorem dL_law_663 : decode cL_law 663 = .ok (.ifCond .eq 840, 3) := by decide +kernel
theorem dL_law_666 : decode cL_law 666 = .ok (.iconst 0, 1) := by decide +kernel
theorem dL_law_667 : decode cL_law 667 = .ok (.ireturn, 1) := by decide +kernel
theorem dL_law_668 : decode cL_law 668 = .ok (.aload_n 1, 1) := by decide +kernel
theorem dL_law_669 : decode cL_law 669 = .ok (.aload_n 0, 1) := by decide +kernel
theorem dL_law_670 : decode cL_law 670 = .ok (.iload 4, 2) := by decide +kernel
theorem dL_law_672 : decode cL_law 672 = .ok (.iconst 1, 1) := by decide +kernel
theorem dL_law_673 : decode cL_law 673 = .ok (.iadd, 1) := by decide +kernel
theorem dL_law_674 : decode cL_law 674 = .ok (.iaload, 1) := by decide +kernel
theorem dL_law_675 : decode cL_law 675 = .ok (.aload_n 0, 1) := by decide +kernel
theorem dL_law_676 : decode cL_law 676 = .ok (.iload 4, 2) := by decide +kernel
theorem dL_law_678 : decode cL_law 678 = .ok (.iconst 2, 1) := by decide +kernel
theorem dL_law_679 : decode cL_law 679 = .ok (.iadd, 1) := by decide +kernel
theorem dL_law_680 : decode cL_law 680 = .ok (.iaload, 1) := by decide +kernel
theorem dL_law_681 : decode cL_law 681 = .ok (.invokevirtual 76, 3) := by decide +kernel
theorem dL_law_684 : decode cL_law 684 = .ok (.aload_n 2, 1) := by decide +kernel
theorem dL_law_685 : decode cL_law 685 = .ok (.aload_n 0, 1) := by decide +kernel
theorem dL_law_686 : decode cL_law 686 = .ok (.iload 4, 2) := by decide +kernel
theorem dL_law_688 : decode cL_law 688 = .ok (.iconst 1, 1) := by decide +kernel
theorem dL_law_689 : decode cL_law 689 = .ok (.iadd, 1) := by decide +kernel
theorem dL_law_690 : decode cL_law 690 = .ok (.iaload, 1) := by decide +kernel
theorem dL_law_691 : decode cL_law 691 = .ok (.aload_n 0, 1) := by decide +kernel
theorem dL_law_692 : decode cL_law 692 = .ok (.iload 4, 2) := by decide +kernel
theorem dL_law_694 : decode cL_law 694 = .ok (.iconst 2, 1) := by decide +kernel
theorem dL_law_695 : decode cL_law 695 = .ok (.iadd, 1) := by decide +kernel
theorem dL_law_696 : decode cL_law 696 = .ok (.iaload, 1) := by decide +kernel
theorem dL_law_697 : decode cL_law 697 = .ok (.invokevirtual 80, 3) := by decide +kernel
theorem dL_law_700 : decode cL_law 700 = .ok (.lcmp, 1) := by decide +kernel
theorem dL_law_701 : decode cL_law 701 = .ok (.ifCond .eq 802, 3) := by decide +kernel
theorem dL_law_704 : decode cL_law 704 = .ok (.iconst 0, 1) := by decide +kernel
theorem dL_law_705 : decode cL_law 705 = .ok (.ireturn, 1) := by decide +kernel
theorem dL_law_706 : decode cL_law 706 = .ok (.aload_n 1, 1) := by decide +kernel
theorem dL_law_707 : decode cL_law 707 = .ok (.aload_n 0, 1) := by decide +kernel
theorem dL_law_708 : decode cL_law 708 = .ok (.iload 4, 2) := by decide +kernel
theorem dL_law_710 : decode cL_law 710 = .ok (.iconst 1, 1) := by decide +kernel
theorem dL_law_711 : decode cL_law 711 = .ok (.iadd, 1) := by decide +kernel
theorem dL_law_712 : decode cL_law 712 = .ok (.iaload, 1) := by decide +kernel
theorem dL_law_713 : decode cL_law 713 = .ok (.aload_n 0, 1) := by decide +kernel
theorem dL_law_714 : decode cL_law 714 = .ok (.iload 4, 2) := by decide +kernel
theorem dL_law_716 : decode cL_law 716 = .ok (.iconst 2, 1) := by decide +kernel
theorem dL_law_717 : decode cL_law 717 = .ok (.iadd, 1) := by decide +kernel
theorem dL_law_718 : decode cL_law 718 = .ok (.iaload, 1) := by decide +kernel
theorem dL_law_719 : decode cL_law 719 = .ok (.invokevirtual 81, 3) := by decide +kernel
theorem dL_law_722 : decode cL_law 722 = .ok (.aload_n 2, 1) := by decide +kernel
theorem dL_law_723 : decode cL_law 723 = .ok (.aload_n 0, 1) := by decide +kernel
theorem dL_law_724 : decode cL_law 724 = .ok (.iload 4, 2) := by decide +kernel
theorem dL_law_726 : decode cL_law 726 = .ok (.iconst 1, 1) := by decide +kernel
theorem dL_law_727 : decode cL_law 727 = .ok (.iadd, 1) := by decide +kernel
theorem dL_law_728 : decode cL_law 728 = .ok (.iaload, 1) := by decide +kernel
theorem dL_law_729 : decode cL_law 729 = .ok (.aload_n 0, 1) := by decide +kernel
theorem dL_law_730 : decode cL_law 730 = .ok (.iload 4, 2) := by decide +kernel
theorem dL_law_732 : decode cL_law 732 = .ok (.iconst 2, 1) := by decide +kernel
theorem dL_law_733 : decode cL_law 733 = .ok (.iadd, 1) := by decide +kernel
theorem dL_law_734 : decode cL_law 734 = .ok (.iaload, 1) := by decide +kernel
theorem dL_law_735 : decode cL_law 735 = .ok (.invokevirtual 84, 3) := by decide +kernel
theorem dL_law_738 : decode cL_law 738 = .ok (.if_icmp .eq 765, 3) := by decide +kernel
theorem dL_law_741 : decode cL_law 741 = .ok (.iconst 0, 1) := by decide +kernel
theorem dL_law_742 : decode cL_law 742 = .ok (.ireturn, 1) := by decide +kernel
theorem dL_law_743 : decode cL_law 743 = .ok (.aload_n 1, 1) := by decide +kernel
theorem dL_law_744 : decode cL_law 744 = .ok (.aload_n 0, 1) := by decide +kernel
theorem dL_law_745 : decode cL_law 745 = .ok (.iload 4, 2) := by decide +kernel
theorem dL_law_747 : decode cL_law 747 = .ok (.iconst 1, 1) := by decide +kernel
theorem dL_law_748 : decode cL_law 748 = .ok (.iadd, 1) := by decide +kernel
theorem dL_law_749 : decode cL_law 749 = .ok (.iaload, 1) := by decide +kernel
theorem dL_law_750 : decode cL_law 750 = .ok (.invokevirtual 85, 3) := by decide +kernel
theorem dL_law_753 : decode cL_law 753 = .ok (.aload_n 2, 1) := by decide +kernel
theorem dL_law_754 : decode cL_law 754 = .ok (.aload_n 0, 1) := by decide +kernel
theorem dL_law_755 : decode cL_law 755 = .ok (.iload 4, 2) := by decide +kernel
theorem dL_law_757 : decode cL_law 757 = .ok (.iconst 1, 1) := by decide +kernel
theorem dL_law_758 : decode cL_law 758 = .ok (.iadd, 1) := by decide +kernel
theorem dL_law_759 : decode cL_law 759 = .ok (.iaload, 1) := by decide +kernel
theorem dL_law_760 : decode cL_law 760 = .ok (.invokevirtual 88, 3) := by decide +kernel
theorem dL_law_763 : decode cL_law 763 = .ok (.lcmp, 1) := by decide +kernel
theorem dL_law_764 : decode cL_law 764 = .ok (.ifCond .eq 739, 3) := by decide +kernel
theorem dL_law_767 : decode cL_law 767 = .ok (.iconst 0, 1) := by decide +kernel
theorem dL_law_768 : decode cL_law 768 = .ok (.ireturn, 1) := by decide +kernel
theorem dL_law_769 : decode cL_law 769 = .ok (.aload_n 1, 1) := by decide +kernel
theorem dL_law_770 : decode cL_law 770 = .ok (.aload_n 0, 1) := by decide +kernel
theorem dL_law_771 : decode cL_law 771 = .ok (.iload 4, 2) := by decide +kernel
theorem dL_law_773 : decode cL_law 773 = .ok (.iconst 1, 1) := by decide +kernel
theorem dL_law_774 : decode cL_law 774 = .ok (.iadd, 1) := by decide +kernel
theorem dL_law_775 : decode cL_law 775 = .ok (.iaload, 1) := by decide +kernel
theorem dL_law_776 : decode cL_law 776 = .ok (.invokevirtual 89, 3) := by decide +kernel
theorem dL_law_779 : decode cL_law 779 = .ok (.aload_n 2, 1) := by decide +kernel
theorem dL_law_780 : decode cL_law 780 = .ok (.aload_n 0, 1) := by decide +kernel
theorem dL_law_781 : decode cL_law 781 = .ok (.iload 4, 2) := by decide +kernel
theorem dL_law_783 : decode cL_law 783 = .ok (.iconst 1, 1) := by decide +kernel
theorem dL_law_784 : decode cL_law 784 = .ok (.iadd, 1) := by decide +kernel
theorem dL_law_785 : decode cL_law 785 = .ok (.iaload, 1) := by decide +kernel
theorem dL_law_786 : decode cL_law 786 = .ok (.invokevirtual 92, 3) := by decide +kernel
theorem dL_law_789 : decode cL_law 789 = .ok (.if_icmp .eq 714, 3) := by decide +kernel
theorem dL_law_792 : decode cL_law 792 = .ok (.iconst 0, 1) := by decide +kernel
theorem dL_law_793 : decode cL_law 793 = .ok (.ireturn, 1) := by decide +kernel
theorem dL_law_794 : decode cL_law 794 = .ok (.aload_n 1, 1) := by decide +kernel
theorem dL_law_795 : decode cL_law 795 = .ok (.aload_n 0, 1) := by decide +kernel
theorem dL_law_796 : decode cL_law 796 = .ok (.iload 4, 2) := by decide +kernel
theorem dL_law_798 : decode cL_law 798 = .ok (.iconst 1, 1) := by decide +kernel
theorem dL_law_799 : decode cL_law 799 = .ok (.iadd, 1) := by decide +kernel
theorem dL_law_800 : decode cL_law 800 = .ok (.iaload, 1) := by decide +kernel
theorem dL_law_801 : decode cL_law 801 = .ok (.aload_n 0, 1) := by decide +kernel
theorem dL_law_802 : decode cL_law 802 = .ok (.iload 4, 2) := by decide +kernel
theorem dL_law_804 : decode cL_law 804 = .ok (.iconst 2, 1) := by decide +kernel
theorem dL_law_805 : decode cL_law 805 = .ok (.iadd, 1) := by decide +kernel
theorem dL_law_806 : decode cL_law 806 = .ok (.iaload, 1) := by decide +kernel
theorem dL_law_807 : decode cL_law 807 = .ok (.invokevirtual 93, 3) := by decide +kernel
theorem dL_law_810 : decode cL_law 810 = .ok (.aload_n 2, 1) := by decide +kernel
theorem dL_law_811 : decode cL_law 811 = .ok (.aload_n 0, 1) := by decide +kernel
theorem dL_law_812 : decode cL_law 812 = .ok (.iload 4, 2) := by decide +kernel
theorem dL_law_814 : decode cL_law 814 = .ok (.iconst 1, 1) := by decide +kernel
theorem dL_law_815 : decode cL_law 815 = .ok (.iadd, 1) := by decide +kernel
theorem dL_law_816 : decode cL_law 816 = .ok (.iaload, 1) := by decide +kernel
theorem dL_law_817 : decode cL_law 817 = .ok (.aload_n 0, 1) := by decide +kernel
theorem dL_law_818 : decode cL_law 818 = .ok (.iload 4, 2) := by decide +kernel
theorem dL_law_820 : decode cL_law 820 = .ok (.iconst 2, 1) := by decide +kernel
theorem dL_law_821 : decode cL_law 821 = .ok (.iadd, 1) := by decide +kernel
theorem dL_law_822 : decode cL_law 822 = .ok (.iaload, 1) := by decide +kernel
theorem dL_law_823 : decode cL_law 823 = .ok (.invokevirtual 96, 3) := by decide +kernel
theorem dL_law_826 : decode cL_law 826 = .ok (.if_icmp .eq 677, 3) := by decide +kernel
theorem dL_law_829 : decode cL_law 829 = .ok (.iconst 0, 1) := by decide +kernel
theorem dL_law_830 : decode cL_law 830 = .ok (.ireturn, 1) := by decide +kernel
theorem dL_law_831 : decode cL_law 831 = .ok (.aload_n 1, 1) := by decide +kernel
theorem dL_law_832 : decode cL_law 832 = .ok (.aload_n 0, 1) := by decide +kernel
theorem dL_law_833 : decode cL_law 833 = .ok (.iload 4, 2) := by decide +kernel
theorem dL_law_835 : decode cL_law 835 = .ok (.iconst 1, 1) := by decide +kernel
theorem dL_law_836 : decode cL_law 836 = .ok (.iadd, 1) := by decide +kernel
theorem dL_law_837 : decode cL_law 837 = .ok (.iaload, 1) := by decide +kernel
theorem dL_law_838 : decode cL_law 838 = .ok (.aload_n 0, 1) := by decide +kernel
theorem dL_law_839 : decode cL_law 839 = .ok (.iload 4, 2) := by decide +kernel
theorem dL_law_841 : decode cL_law 841 = .ok (.iconst 2, 1) := by decide +kernel
theorem dL_law_842 : decode cL_law 842 = .ok (.iadd, 1) := by decide +kernel
theorem dL_law_843 : decode cL_law 843 = .ok (.iaload, 1) := by decide +kernel
theorem dL_law_844 : decode cL_law 844 = .ok (.invokevirtual 97, 3) := by decide +kernel
theorem dL_law_847 : decode cL_law 847 = .ok (.aload_n 2, 1) := by decide +kernel
theorem dL_law_848 : decode cL_law 848 = .ok (.aload_n 0, 1) := by decide +kernel
theorem dL_law_849 : decode cL_law 849 = .ok (.iload 4, 2) := by decide +kernel
theorem dL_law_851 : decode cL_law 851 = .ok (.iconst 1, 1) := by decide +kernel
theorem dL_law_852 : decode cL_law 852 = .ok (.iadd, 1) := by decide +kernel
theorem dL_law_853 : decode cL_law 853 = .ok (.iaload, 1) := by decide +kernel
theorem dL_law_854 : decode cL_law 854 = .ok (.aload_n 0, 1) := by decide +kernel
theorem dL_law_855 : decode cL_law 855 = .ok (.iload 4, 2) := by decide +kernel
theorem dL_law_857 : decode cL_law 857 = .ok (.iconst 2, 1) := by decide +kernel
theorem dL_law_858 : decode cL_law 858 = .ok (.iadd, 1) := by decide +kernel
theorem dL_law_859 : decode cL_law 859 = .ok (.iaload, 1) := by decide +kernel
theorem dL_law_860 : decode cL_law 860 = .ok (.invokevirtual 100, 3) := by decide +kernel
theorem dL_law_863 : decode cL_law 863 = .ok (.lcmp, 1) := by decide +kernel
theorem dL_law_864 : decode cL_law 864 = .ok (.ifCond .eq 639, 3) := by decide +kernel
theorem dL_law_867 : decode cL_law 867 = .ok (.iconst 0, 1) := by decide +kernel
theorem dL_law_868 : decode cL_law 868 = .ok (.ireturn, 1) := by decide +kernel
theorem dL_law_869 : decode cL_law 869 = .ok (.aload_n 1, 1) := by decide +kernel
theorem dL_law_870 : decode cL_law 870 = .ok (.aload_n 0, 1) := by decide +kernel
theorem dL_law_871 : decode cL_law 871 = .ok (.iload 4, 2) := by decide +kernel
theorem dL_law_873 : decode cL_law 873 = .ok (.iconst 1, 1) := by decide +kernel
theorem dL_law_874 : decode cL_law 874 = .ok (.iadd, 1) := by decide +kernel
theorem dL_law_875 : decode cL_law 875 = .ok (.iaload, 1) := by decide +kernel
theorem dL_law_876 : decode cL_law 876 = .ok (.invokevirtual 101, 3) := by decide +kernel
theorem dL_law_879 : decode cL_law 879 = .ok (.aload_n 2, 1) := by decide +kernel
theorem dL_law_880 : decode cL_law 880 = .ok (.aload_n 0, 1) := by decide +kernel
theorem dL_law_881 : decode cL_law 881 = .ok (.iload 4, 2) := by decide +kernel
theorem dL_law_883 : decode cL_law 883 = .ok (.iconst 1, 1) := by decide +kernel
theorem dL_law_884 : decode cL_law 884 = .ok (.iadd, 1) := by decide +kernel
theorem dL_law_885 : decode cL_law 885 = .ok (.iaload, 1) := by decide +kernel
theorem dL_law_886 : decode cL_law 886 = .ok (.invokevirtual 104, 3) := by decide +kernel
theorem dL_law_889 : decode cL_law 889 = .ok (.if_icmp .eq 614, 3) := by decide +kernel
theorem dL_law_892 : decode cL_law 892 = .ok (.iconst 0, 1) := by decide +kernel
theorem dL_law_893 : decode cL_law 893 = .ok (.ireturn, 1) := by decide +kernel
theorem dL_law_894 : decode cL_law 894 = .ok (.aload_n 1, 1) := by decide +kernel
theorem dL_law_895 : decode cL_law 895 = .ok (.aload_n 0, 1) := by decide +kernel
theorem dL_law_896 : decode cL_law 896 = .ok (.iload 4, 2) := by decide +kernel
theorem dL_law_898 : decode cL_law 898 = .ok (.iconst 1, 1) := by decide +kernel
theorem dL_law_899 : decode cL_law 899 = .ok (.iadd, 1) := by decide +kernel
theorem dL_law_900 : decode cL_law 900 = .ok (.iaload, 1) := by decide +kernel
theorem dL_law_901 : decode cL_law 901 = .ok (.aload_n 0, 1) := by decide +kernel
theorem dL_law_902 : decode cL_law 902 = .ok (.iload 4, 2) := by decide +kernel
theorem dL_law_904 : decode cL_law 904 = .ok (.iconst 2, 1) := by decide +kernel
theorem dL_law_905 : decode cL_law 905 = .ok (.iadd, 1) := by decide +kernel
theorem dL_law_906 : decode cL_law 906 = .ok (.iaload, 1) := by decide +kernel
theorem dL_law_907 : decode cL_law 907 = .ok (.invokevirtual 105, 3) := by decide +kernel
theorem dL_law_910 : decode cL_law 910 = .ok (.aload_n 2, 1) := by decide +kernel
theorem dL_law_911 : decode cL_law 911 = .ok (.aload_n 0, 1) := by decide +kernel
theorem dL_law_912 : decode cL_law 912 = .ok (.iload 4, 2) := by decide +kernel
theorem dL_law_914 : decode cL_law 914 = .ok (.iconst 1, 1) := by decide +kernel
theorem dL_law_915 : decode cL_law 915 = .ok (.iadd, 1) := by decide +kernel
theorem dL_law_916 : decode cL_law 916 = .ok (.iaload, 1) := by decide +kernel
theorem dL_law_917 : decode cL_law 917 = .ok (.aload_n 0, 1) := by decide +kernel
theorem dL_law_918 : decode cL_law 918 = .ok (.iload 4, 2) := by decide +kernel
theorem dL_law_920 : decode cL_law 920 = .ok (.iconst 2, 1) := by decide +kernel
theorem dL_law_921 : decode cL_law 921 = .ok (.iadd, 1) := by decide +kernel
theorem dL_law_922 : decode cL_law 922 = .ok (.iaload, 1) := by decide +kernel
theorem dL_law_923 : decode cL_law 923 = .ok (.invokevirtual 108, 3) := by decide +kernel
theorem dL_law_926 : decode cL_law 926 = .ok (.if_icmp .eq 577, 3) := by decide +kernel
theorem dL_law_929 : decode cL_law 929 = .ok (.iconst 0, 1) := by decide +kernel
theorem dL_law_930 : decode cL_law 930 = .ok (.ireturn, 1) := by decide +kernel
theorem dL_law_931 : decode cL_law 931 = .ok (.aload_n 1, 1) := by decide +kernel
theorem dL_law_932 : decode cL_law 932 = .ok (.aload_n 0, 1) := by decide +kernel
theorem dL_law_933 : decode cL_law 933 = .ok (.iload 4, 2) := by decide +kernel
theorem dL_law_935 : decode cL_law 935 = .ok (.iconst 1, 1) := by decide +kernel
theorem dL_law_936 : decode cL_law 936 = .ok (.iadd, 1) := by decide +kernel
theorem dL_law_937 : decode cL_law 937 = .ok (.iaload, 1) := by decide +kernel
theorem dL_law_938 : decode cL_law 938 = .ok (.invokevirtual 109, 3) := by decide +kernel
theorem dL_law_941 : decode cL_law 941 = .ok (.aload_n 2, 1) := by decide +kernel
theorem dL_law_942 : decode cL_law 942 = .ok (.aload_n 0, 1) := by decide +kernel
theorem dL_law_943 : decode cL_law 943 = .ok (.iload 4, 2) := by decide +kernel
theorem dL_law_945 : decode cL_law 945 = .ok (.iconst 1, 1) := by decide +kernel
theorem dL_law_946 : decode cL_law 946 = .ok (.iadd, 1) := by decide +kernel
theorem dL_law_947 : decode cL_law 947 = .ok (.iaload, 1) := by decide +kernel
theorem dL_law_948 : decode cL_law 948 = .ok (.invokevirtual 112, 3) := by decide +kernel
theorem dL_law_951 : decode cL_law 951 = .ok (.if_icmp .eq 552, 3) := by decide +kernel
theorem dL_law_954 : decode cL_law 954 = .ok (.iconst 0, 1) := by decide +kernel
theorem dL_law_955 : decode cL_law 955 = .ok (.ireturn, 1) := by decide +kernel
theorem dL_law_956 : decode cL_law 956 = .ok (.aload_n 1, 1) := by decide +kernel
theorem dL_law_957 : decode cL_law 957 = .ok (.aload_n 0, 1) := by decide +kernel
theorem dL_law_958 : decode cL_law 958 = .ok (.iload 4, 2) := by decide +kernel
theorem dL_law_960 : decode cL_law 960 = .ok (.iconst 1, 1) := by decide +kernel
theorem dL_law_961 : decode cL_law 961 = .ok (.iadd, 1) := by decide +kernel
theorem dL_law_962 : decode cL_law 962 = .ok (.iaload, 1) := by decide +kernel
theorem dL_law_963 : decode cL_law 963 = .ok (.invokevirtual 113, 3) := by decide +kernel
theorem dL_law_966 : decode cL_law 966 = .ok (.aload_n 2, 1) := by decide +kernel
theorem dL_law_967 : decode cL_law 967 = .ok (.aload_n 0, 1) := by decide +kernel
theorem dL_law_968 : decode cL_law 968 = .ok (.iload 4, 2) := by decide +kernel
theorem dL_law_970 : decode cL_law 970 = .ok (.iconst 1, 1) := by decide +kernel
theorem dL_law_971 : decode cL_law 971 = .ok (.iadd, 1) := by decide +kernel
theorem dL_law_972 : decode cL_law 972 = .ok (.iaload, 1) := by decide +kernel
theorem dL_law_973 : decode cL_law 973 = .ok (.invokevirtual 116, 3) := by decide +kernel
theorem dL_law_976 : decode cL_law 976 = .ok (.if_icmp .eq 527, 3) := by decide +kernel
theorem dL_law_979 : decode cL_law 979 = .ok (.iconst 0, 1) := by decide +kernel
theorem dL_law_980 : decode cL_law 980 = .ok (.ireturn, 1) := by decide +kernel
theorem dL_law_981 : decode cL_law 981 = .ok (.aload_n 1, 1) := by decide +kernel
theorem dL_law_982 : decode cL_law 982 = .ok (.aload_n 0, 1) := by decide +kernel
theorem dL_law_983 : decode cL_law 983 = .ok (.iload 4, 2) := by decide +kernel
theorem dL_law_985 : decode cL_law 985 = .ok (.iconst 1, 1) := by decide +kernel
theorem dL_law_986 : decode cL_law 986 = .ok (.iadd, 1) := by decide +kernel
theorem dL_law_987 : decode cL_law 987 = .ok (.iaload, 1) := by decide +kernel
theorem dL_law_988 : decode cL_law 988 = .ok (.invokevirtual 117, 3) := by decide +kernel
theorem dL_law_991 : decode cL_law 991 = .ok (.aload_n 2, 1) := by decide +kernel
theorem dL_law_992 : decode cL_law 992 = .ok (.aload_n 0, 1) := by decide +kernel
theorem dL_law_993 : decode cL_law 993 = .ok (.iload 4, 2) := by decide +kernel
theorem dL_law_995 : decode cL_law 995 = .ok (.iconst 1, 1) := by decide +kernel
theorem dL_law_996 : decode cL_law 996 = .ok (.iadd, 1) := by decide +kernel
theorem dL_law_997 : decode cL_law 997 = .ok (.iaload, 1) := by decide +kernel
theorem dL_law_998 : decode cL_law 998 = .ok (.invokevirtual 120, 3) := by decide +kernel
theorem dL_law_1001 : decode cL_law 1001 = .ok (.lcmp, 1) := by decide +kernel
theorem dL_law_1002 : decode cL_law 1002 = .ok (.ifCond .eq 501, 3) := by decide +kernel
theorem dL_law_1005 : decode cL_law 1005 = .ok (.iconst 0, 1) := by decide +kernel
theorem dL_law_1006 : decode cL_law 1006 = .ok (.ireturn, 1) := by decide +kernel
theorem dL_law_1007 : decode cL_law 1007 = .ok (.aload_n 1, 1) := by decide +kernel
theorem dL_law_1008 : decode cL_law 1008 = .ok (.aload_n 0, 1) := by decide +kernel
theorem dL_law_1009 : decode cL_law 1009 = .ok (.iload 4, 2) := by decide +kernel
theorem dL_law_1011 : decode cL_law 1011 = .ok (.iconst 1, 1) := by decide +kernel
theorem dL_law_1012 : decode cL_law 1012 = .ok (.iadd, 1) := by decide +kernel
theorem dL_law_1013 : decode cL_law 1013 = .ok (.iaload, 1) := by decide +kernel
theorem dL_law_1014 : decode cL_law 1014 = .ok (.invokevirtual 121, 3) := by decide +kernel
theorem dL_law_1017 : decode cL_law 1017 = .ok (.aload_n 2, 1) := by decide +kernel
theorem dL_law_1018 : decode cL_law 1018 = .ok (.aload_n 0, 1) := by decide +kernel
theorem dL_law_1019 : decode cL_law 1019 = .ok (.iload 4, 2) := by decide +kernel
theorem dL_law_1021 : decode cL_law 1021 = .ok (.iconst 1, 1) := by decide +kernel
theorem dL_law_1022 : decode cL_law 1022 = .ok (.iadd, 1) := by decide +kernel
theorem dL_law_1023 : decode cL_law 1023 = .ok (.iaload, 1) := by decide +kernel
theorem dL_law_1024 : decode cL_law 1024 = .ok (.invokevirtual 124, 3) := by decide +kernel
theorem dL_law_1027 : decode cL_law 1027 = .ok (.lcmp, 1) := by decide +kernel
theorem dL_law_1028 : decode cL_law 1028 = .ok (.ifCond .eq 475, 3) := by decide +kernel
theorem dL_law_1031 : decode cL_law 1031 = .ok (.iconst 0, 1) := by decide +kernel
theorem dL_law_1032 : decode cL_law 1032 = .ok (.ireturn, 1) := by decide +kernel
theorem dL_law_1033 : decode cL_law 1033 = .ok (.aload_n 1, 1) := by decide +kernel
theorem dL_law_1034 : decode cL_law 1034 = .ok (.invokevirtual 125, 3) := by decide +kernel
theorem dL_law_1037 : decode cL_law 1037 = .ok (.aload_n 2, 1) := by decide +kernel
theorem dL_law_1038 : decode cL_law 1038 = .ok (.invokevirtual 129, 3) := by decide +kernel
theorem dL_law_1041 : decode cL_law 1041 = .ok (.lcmp, 1) := by decide +kernel
theorem dL_law_1042 : decode cL_law 1042 = .ok (.ifCond .eq 461, 3) := by decide +kernel
theorem dL_law_1045 : decode cL_law 1045 = .ok (.iconst 0, 1) := by decide +kernel
theorem dL_law_1046 : decode cL_law 1046 = .ok (.ireturn, 1) := by decide +kernel
theorem dL_law_1047 : decode cL_law 1047 = .ok (.aload_n 1, 1) := by decide +kernel
theorem dL_law_1048 : decode cL_law 1048 = .ok (.aload_n 0, 1) := by decide +kernel
theorem dL_law_1049 : decode cL_law 1049 = .ok (.iload 4, 2) := by decide +kernel
theorem dL_law_1051 : decode cL_law 1051 = .ok (.iconst 1, 1) := by decide +kernel
theorem dL_law_1052 : decode cL_law 1052 = .ok (.iadd, 1) := by decide +kernel
theorem dL_law_1053 : decode cL_law 1053 = .ok (.iaload, 1) := by decide +kernel
theorem dL_law_1054 : decode cL_law 1054 = .ok (.invokevirtual 130, 3) := by decide +kernel
theorem dL_law_1057 : decode cL_law 1057 = .ok (.aload_n 2, 1) := by decide +kernel
theorem dL_law_1058 : decode cL_law 1058 = .ok (.aload_n 0, 1) := by decide +kernel
theorem dL_law_1059 : decode cL_law 1059 = .ok (.iload 4, 2) := by decide +kernel
theorem dL_law_1061 : decode cL_law 1061 = .ok (.iconst 1, 1) := by decide +kernel
theorem dL_law_1062 : decode cL_law 1062 = .ok (.iadd, 1) := by decide +kernel
theorem dL_law_1063 : decode cL_law 1063 = .ok (.iaload, 1) := by decide +kernel
theorem dL_law_1064 : decode cL_law 1064 = .ok (.invokevirtual 133, 3) := by decide +kernel
theorem dL_law_1067 : decode cL_law 1067 = .ok (.if_icmp .eq 436, 3) := by decide +kernel
theorem dL_law_1070 : decode cL_law 1070 = .ok (.iconst 0, 1) := by decide +kernel
theorem dL_law_1071 : decode cL_law 1071 = .ok (.ireturn, 1) := by decide +kernel
theorem dL_law_1072 : decode cL_law 1072 = .ok (.aload_n 1, 1) := by decide +kernel
theorem dL_law_1073 : decode cL_law 1073 = .ok (.aload_n 0, 1) := by decide +kernel
theorem dL_law_1074 : decode cL_law 1074 = .ok (.iload 4, 2) := by decide +kernel
theorem dL_law_1076 : decode cL_law 1076 = .ok (.iconst 1, 1) := by decide +kernel
theorem dL_law_1077 : decode cL_law 1077 = .ok (.iadd, 1) := by decide +kernel
theorem dL_law_1078 : decode cL_law 1078 = .ok (.iaload, 1) := by decide +kernel
theorem dL_law_1079 : decode cL_law 1079 = .ok (.invokevirtual 134, 3) := by decide +kernel
theorem dL_law_1082 : decode cL_law 1082 = .ok (.aload_n 2, 1) := by decide +kernel
theorem dL_law_1083 : decode cL_law 1083 = .ok (.aload_n 0, 1) := by decide +kernel
theorem dL_law_1084 : decode cL_law 1084 = .ok (.iload 4, 2) := by decide +kernel
theorem dL_law_1086 : decode cL_law 1086 = .ok (.iconst 1, 1) := by decide +kernel
theorem dL_law_1087 : decode cL_law 1087 = .ok (.iadd, 1) := by decide +kernel
theorem dL_law_1088 : decode cL_law 1088 = .ok (.iaload, 1) := by decide +kernel
theorem dL_law_1089 : decode cL_law 1089 = .ok (.invokevirtual 137, 3) := by decide +kernel
theorem dL_law_1092 : decode cL_law 1092 = .ok (.if_icmp .eq 411, 3) := by decide +kernel
theorem dL_law_1095 : decode cL_law 1095 = .ok (.iconst 0, 1) := by decide +kernel
theorem dL_law_1096 : decode cL_law 1096 = .ok (.ireturn, 1) := by decide +kernel
theorem dL_law_1097 : decode cL_law 1097 = .ok (.aload_n 1, 1) := by decide +kernel
theorem dL_law_1098 : decode cL_law 1098 = .ok (.aload_n 0, 1) := by decide +kernel
theorem dL_law_1099 : decode cL_law 1099 = .ok (.iload 4, 2) := by decide +kernel
theorem dL_law_1101 : decode cL_law 1101 = .ok (.iconst 1, 1) := by decide +kernel
theorem dL_law_1102 : decode cL_law 1102 = .ok (.iadd, 1) := by decide +kernel
theorem dL_law_1103 : decode cL_law 1103 = .ok (.iaload, 1) := by decide +kernel
theorem dL_law_1104 : decode cL_law 1104 = .ok (.aload_n 0, 1) := by decide +kernel
theorem dL_law_1105 : decode cL_law 1105 = .ok (.iload 4, 2) := by decide +kernel
theorem dL_law_1107 : decode cL_law 1107 = .ok (.iconst 2, 1) := by decide +kernel
theorem dL_law_1108 : decode cL_law 1108 = .ok (.iadd, 1) := by decide +kernel
theorem dL_law_1109 : decode cL_law 1109 = .ok (.iaload, 1) := by decide +kernel
theorem dL_law_1110 : decode cL_law 1110 = .ok (.invokevirtual 138, 3) := by decide +kernel
theorem dL_law_1113 : decode cL_law 1113 = .ok (.aload_n 2, 1) := by decide +kernel
theorem dL_law_1114 : decode cL_law 1114 = .ok (.aload_n 0, 1) := by decide +kernel
theorem dL_law_1115 : decode cL_law 1115 = .ok (.iload 4, 2) := by decide +kernel
theorem dL_law_1117 : decode cL_law 1117 = .ok (.iconst 1, 1) := by decide +kernel
theorem dL_law_1118 : decode cL_law 1118 = .ok (.iadd, 1) := by decide +kernel
theorem dL_law_1119 : decode cL_law 1119 = .ok (.iaload, 1) := by decide +kernel
theorem dL_law_1120 : decode cL_law 1120 = .ok (.aload_n 0, 1) := by decide +kernel
theorem dL_law_1121 : decode cL_law 1121 = .ok (.iload 4, 2) := by decide +kernel
theorem dL_law_1123 : decode cL_law 1123 = .ok (.iconst 2, 1) := by decide +kernel
theorem dL_law_1124 : decode cL_law 1124 = .ok (.iadd, 1) := by decide +kernel
theorem dL_law_1125 : decode cL_law 1125 = .ok (.iaload, 1) := by decide +kernel
theorem dL_law_1126 : decode cL_law 1126 = .ok (.invokevirtual 141, 3) := by decide +kernel
theorem dL_law_1129 : decode cL_law 1129 = .ok (.if_icmp .eq 374, 3) := by decide +kernel
theorem dL_law_1132 : decode cL_law 1132 = .ok (.iconst 0, 1) := by decide +kernel
theorem dL_law_1133 : decode cL_law 1133 = .ok (.ireturn, 1) := by decide +kernel
theorem dL_law_1134 : decode cL_law 1134 = .ok (.aload_n 1, 1) := by decide +kernel
theorem dL_law_1135 : decode cL_law 1135 = .ok (.aload_n 0, 1) := by decide +kernel
theorem dL_law_1136 : decode cL_law 1136 = .ok (.iload 4, 2) := by decide +kernel
theorem dL_law_1138 : decode cL_law 1138 = .ok (.iconst 1, 1) := by decide +kernel
theorem dL_law_1139 : decode cL_law 1139 = .ok (.iadd, 1) := by decide +kernel
theorem dL_law_1140 : decode cL_law 1140 = .ok (.iaload, 1) := by decide +kernel
theorem dL_law_1141 : decode cL_law 1141 = .ok (.aload_n 0, 1) := by decide +kernel
theorem dL_law_1142 : decode cL_law 1142 = .ok (.iload 4, 2) := by decide +kernel
theorem dL_law_1144 : decode cL_law 1144 = .ok (.iconst 2, 1) := by decide +kernel
theorem dL_law_1145 : decode cL_law 1145 = .ok (.iadd, 1) := by decide +kernel
theorem dL_law_1146 : decode cL_law 1146 = .ok (.iaload, 1) := by decide +kernel
theorem dL_law_1147 : decode cL_law 1147 = .ok (.ifCond .eq 7, 3) := by decide +kernel
theorem dL_law_1150 : decode cL_law 1150 = .ok (.iconst 1, 1) := by decide +kernel
theorem dL_law_1151 : decode cL_law 1151 = .ok (.goto 4, 3) := by decide +kernel
theorem dL_law_1154 : decode cL_law 1154 = .ok (.iconst 0, 1) := by decide +kernel
theorem dL_law_1155 : decode cL_law 1155 = .ok (.invokevirtual 142, 3) := by decide +kernel
theorem dL_law_1158 : decode cL_law 1158 = .ok (.aload_n 2, 1) := by decide +kernel
theorem dL_law_1159 : decode cL_law 1159 = .ok (.aload_n 0, 1) := by decide +kernel
theorem dL_law_1160 : decode cL_law 1160 = .ok (.iload 4, 2) := by decide +kernel
theorem dL_law_1162 : decode cL_law 1162 = .ok (.iconst 1, 1) := by decide +kernel
theorem dL_law_1163 : decode cL_law 1163 = .ok (.iadd, 1) := by decide +kernel
theorem dL_law_1164 : decode cL_law 1164 = .ok (.iaload, 1) := by decide +kernel
theorem dL_law_1165 : decode cL_law 1165 = .ok (.aload_n 0, 1) := by decide +kernel
theorem dL_law_1166 : decode cL_law 1166 = .ok (.iload 4, 2) := by decide +kernel
theorem dL_law_1168 : decode cL_law 1168 = .ok (.iconst 2, 1) := by decide +kernel
theorem dL_law_1169 : decode cL_law 1169 = .ok (.iadd, 1) := by decide +kernel
theorem dL_law_1170 : decode cL_law 1170 = .ok (.iaload, 1) := by decide +kernel
theorem dL_law_1171 : decode cL_law 1171 = .ok (.ifCond .eq 7, 3) := by decide +kernel
theorem dL_law_1174 : decode cL_law 1174 = .ok (.iconst 1, 1) := by decide +kernel
theorem dL_law_1175 : decode cL_law 1175 = .ok (.goto 4, 3) := by decide +kernel
theorem dL_law_1178 : decode cL_law 1178 = .ok (.iconst 0, 1) := by decide +kernel
theorem dL_law_1179 : decode cL_law 1179 = .ok (.invokevirtual 146, 3) := by decide +kernel
theorem dL_law_1182 : decode cL_law 1182 = .ok (.if_icmp .eq 321, 3) := by decide +kernel
theorem dL_law_1185 : decode cL_law 1185 = .ok (.iconst 0, 1) := by decide +kernel
theorem dL_law_1186 : decode cL_law 1186 = .ok (.ireturn, 1) := by decide +kernel
theorem dL_law_1187 : decode cL_law 1187 = .ok (.aload_n 1, 1) := by decide +kernel
theorem dL_law_1188 : decode cL_law 1188 = .ok (.aload_n 0, 1) := by decide +kernel
theorem dL_law_1189 : decode cL_law 1189 = .ok (.iload 4, 2) := by decide +kernel
theorem dL_law_1191 : decode cL_law 1191 = .ok (.iconst 1, 1) := by decide +kernel
theorem dL_law_1192 : decode cL_law 1192 = .ok (.iadd, 1) := by decide +kernel
theorem dL_law_1193 : decode cL_law 1193 = .ok (.iaload, 1) := by decide +kernel
theorem dL_law_1194 : decode cL_law 1194 = .ok (.aload_n 0, 1) := by decide +kernel
theorem dL_law_1195 : decode cL_law 1195 = .ok (.iload 4, 2) := by decide +kernel
theorem dL_law_1197 : decode cL_law 1197 = .ok (.iconst 2, 1) := by decide +kernel
theorem dL_law_1198 : decode cL_law 1198 = .ok (.iadd, 1) := by decide +kernel
theorem dL_law_1199 : decode cL_law 1199 = .ok (.iaload, 1) := by decide +kernel
theorem dL_law_1200 : decode cL_law 1200 = .ok (.aload_n 0, 1) := by decide +kernel
theorem dL_law_1201 : decode cL_law 1201 = .ok (.iload 4, 2) := by decide +kernel
theorem dL_law_1203 : decode cL_law 1203 = .ok (.iconst 3, 1) := by decide +kernel
theorem dL_law_1204 : decode cL_law 1204 = .ok (.iadd, 1) := by decide +kernel
theorem dL_law_1205 : decode cL_law 1205 = .ok (.iaload, 1) := by decide +kernel
theorem dL_law_1206 : decode cL_law 1206 = .ok (.ifCond .eq 7, 3) := by decide +kernel
theorem dL_law_1209 : decode cL_law 1209 = .ok (.iconst 1, 1) := by decide +kernel
theorem dL_law_1210 : decode cL_law 1210 = .ok (.goto 4, 3) := by decide +kernel
theorem dL_law_1213 : decode cL_law 1213 = .ok (.iconst 0, 1) := by decide +kernel
theorem dL_law_1214 : decode cL_law 1214 = .ok (.invokevirtual 147, 3) := by decide +kernel
theorem dL_law_1217 : decode cL_law 1217 = .ok (.aload_n 2, 1) := by decide +kernel
theorem dL_law_1218 : decode cL_law 1218 = .ok (.aload_n 0, 1) := by decide +kernel
theorem dL_law_1219 : decode cL_law 1219 = .ok (.iload 4, 2) := by decide +kernel
theorem dL_law_1221 : decode cL_law 1221 = .ok (.iconst 1, 1) := by decide +kernel
theorem dL_law_1222 : decode cL_law 1222 = .ok (.iadd, 1) := by decide +kernel
theorem dL_law_1223 : decode cL_law 1223 = .ok (.iaload, 1) := by decide +kernel
theorem dL_law_1224 : decode cL_law 1224 = .ok (.aload_n 0, 1) := by decide +kernel
theorem dL_law_1225 : decode cL_law 1225 = .ok (.iload 4, 2) := by decide +kernel
theorem dL_law_1227 : decode cL_law 1227 = .ok (.iconst 2, 1) := by decide +kernel
theorem dL_law_1228 : decode cL_law 1228 = .ok (.iadd, 1) := by decide +kernel
theorem dL_law_1229 : decode cL_law 1229 = .ok (.iaload, 1) := by decide +kernel
theorem dL_law_1230 : decode cL_law 1230 = .ok (.aload_n 0, 1) := by decide +kernel
theorem dL_law_1231 : decode cL_law 1231 = .ok (.iload 4, 2) := by decide +kernel
theorem dL_law_1233 : decode cL_law 1233 = .ok (.iconst 3, 1) := by decide +kernel
theorem dL_law_1234 : decode cL_law 1234 = .ok (.iadd, 1) := by decide +kernel
theorem dL_law_1235 : decode cL_law 1235 = .ok (.iaload, 1) := by decide +kernel
theorem dL_law_1236 : decode cL_law 1236 = .ok (.ifCond .eq 7, 3) := by decide +kernel
theorem dL_law_1239 : decode cL_law 1239 = .ok (.iconst 1, 1) := by decide +kernel
theorem dL_law_1240 : decode cL_law 1240 = .ok (.goto 4, 3) := by decide +kernel
theorem dL_law_1243 : decode cL_law 1243 = .ok (.iconst 0, 1) := by decide +kernel
theorem dL_law_1244 : decode cL_law 1244 = .ok (.invokevirtual 151, 3) := by decide +kernel
theorem dL_law_1247 : decode cL_law 1247 = .ok (.if_icmp .eq 256, 3) := by decide +kernel
theorem dL_law_1250 : decode cL_law 1250 = .ok (.iconst 0, 1) := by decide +kernel
theorem dL_law_1251 : decode cL_law 1251 = .ok (.ireturn, 1) := by decide +kernel
theorem dL_law_1252 : decode cL_law 1252 = .ok (.aload_n 1, 1) := by decide +kernel
theorem dL_law_1253 : decode cL_law 1253 = .ok (.aload_n 0, 1) := by decide +kernel
theorem dL_law_1254 : decode cL_law 1254 = .ok (.iload 4, 2) := by decide +kernel
theorem dL_law_1256 : decode cL_law 1256 = .ok (.iconst 1, 1) := by decide +kernel
theorem dL_law_1257 : decode cL_law 1257 = .ok (.iadd, 1) := by decide +kernel
theorem dL_law_1258 : decode cL_law 1258 = .ok (.iaload, 1) := by decide +kernel
theorem dL_law_1259 : decode cL_law 1259 = .ok (.aload_n 0, 1) := by decide +kernel
theorem dL_law_1260 : decode cL_law 1260 = .ok (.iload 4, 2) := by decide +kernel
theorem dL_law_1262 : decode cL_law 1262 = .ok (.iconst 2, 1) := by decide +kernel
theorem dL_law_1263 : decode cL_law 1263 = .ok (.iadd, 1) := by decide +kernel
theorem dL_law_1264 : decode cL_law 1264 = .ok (.iaload, 1) := by decide +kernel
theorem dL_law_1265 : decode cL_law 1265 = .ok (.invokevirtual 152, 3) := by decide +kernel
theorem dL_law_1268 : decode cL_law 1268 = .ok (.aload_n 2, 1) := by decide +kernel
theorem dL_law_1269 : decode cL_law 1269 = .ok (.aload_n 0, 1) := by decide +kernel
theorem dL_law_1270 : decode cL_law 1270 = .ok (.iload 4, 2) := by decide +kernel
theorem dL_law_1272 : decode cL_law 1272 = .ok (.iconst 1, 1) := by decide +kernel
theorem dL_law_1273 : decode cL_law 1273 = .ok (.iadd, 1) := by decide +kernel
theorem dL_law_1274 : decode cL_law 1274 = .ok (.iaload, 1) := by decide +kernel
theorem dL_law_1275 : decode cL_law 1275 = .ok (.aload_n 0, 1) := by decide +kernel
theorem dL_law_1276 : decode cL_law 1276 = .ok (.iload 4, 2) := by decide +kernel
theorem dL_law_1278 : decode cL_law 1278 = .ok (.iconst 2, 1) := by decide +kernel
theorem dL_law_1279 : decode cL_law 1279 = .ok (.iadd, 1) := by decide +kernel
theorem dL_law_1280 : decode cL_law 1280 = .ok (.iaload, 1) := by decide +kernel
theorem dL_law_1281 : decode cL_law 1281 = .ok (.invokevirtual 155, 3) := by decide +kernel
theorem dL_law_1284 : decode cL_law 1284 = .ok (.if_icmp .eq 219, 3) := by decide +kernel
theorem dL_law_1287 : decode cL_law 1287 = .ok (.iconst 0, 1) := by decide +kernel
theorem dL_law_1288 : decode cL_law 1288 = .ok (.ireturn, 1) := by decide +kernel
theorem dL_law_1289 : decode cL_law 1289 = .ok (.aload_n 1, 1) := by decide +kernel
theorem dL_law_1290 : decode cL_law 1290 = .ok (.invokevirtual 156, 3) := by decide +kernel
theorem dL_law_1293 : decode cL_law 1293 = .ok (.aload_n 2, 1) := by decide +kernel
theorem dL_law_1294 : decode cL_law 1294 = .ok (.invokevirtual 159, 3) := by decide +kernel
theorem dL_law_1297 : decode cL_law 1297 = .ok (.if_icmp .eq 206, 3) := by decide +kernel
theorem dL_law_1300 : decode cL_law 1300 = .ok (.iconst 0, 1) := by decide +kernel
theorem dL_law_1301 : decode cL_law 1301 = .ok (.ireturn, 1) := by decide +kernel
theorem dL_law_1302 : decode cL_law 1302 = .ok (.aload_n 1, 1) := by decide +kernel
theorem dL_law_1303 : decode cL_law 1303 = .ok (.aload_n 0, 1) := by decide +kernel
theorem dL_law_1304 : decode cL_law 1304 = .ok (.iload 4, 2) := by decide +kernel
theorem dL_law_1306 : decode cL_law 1306 = .ok (.iconst 1, 1) := by decide +kernel
theorem dL_law_1307 : decode cL_law 1307 = .ok (.iadd, 1) := by decide +kernel
theorem dL_law_1308 : decode cL_law 1308 = .ok (.iaload, 1) := by decide +kernel
theorem dL_law_1309 : decode cL_law 1309 = .ok (.aload_n 0, 1) := by decide +kernel
theorem dL_law_1310 : decode cL_law 1310 = .ok (.iload 4, 2) := by decide +kernel
theorem dL_law_1312 : decode cL_law 1312 = .ok (.iconst 2, 1) := by decide +kernel
theorem dL_law_1313 : decode cL_law 1313 = .ok (.iadd, 1) := by decide +kernel
theorem dL_law_1314 : decode cL_law 1314 = .ok (.iaload, 1) := by decide +kernel
theorem dL_law_1315 : decode cL_law 1315 = .ok (.aload_n 0, 1) := by decide +kernel
theorem dL_law_1316 : decode cL_law 1316 = .ok (.iload 4, 2) := by decide +kernel
theorem dL_law_1318 : decode cL_law 1318 = .ok (.iconst 3, 1) := by decide +kernel
theorem dL_law_1319 : decode cL_law 1319 = .ok (.iadd, 1) := by decide +kernel
theorem dL_law_1320 : decode cL_law 1320 = .ok (.iaload, 1) := by decide +kernel
theorem dL_law_1321 : decode cL_law 1321 = .ok (.aload_n 0, 1) := by decide +kernel
theorem dL_law_1322 : decode cL_law 1322 = .ok (.iload 4, 2) := by decide +kernel
theorem dL_law_1324 : decode cL_law 1324 = .ok (.iconst 4, 1) := by decide +kernel
theorem dL_law_1325 : decode cL_law 1325 = .ok (.iadd, 1) := by decide +kernel
theorem dL_law_1326 : decode cL_law 1326 = .ok (.iaload, 1) := by decide +kernel
theorem dL_law_1327 : decode cL_law 1327 = .ok (.invokevirtual 160, 3) := by decide +kernel
theorem dL_law_1330 : decode cL_law 1330 = .ok (.aload_n 2, 1) := by decide +kernel
theorem dL_law_1331 : decode cL_law 1331 = .ok (.aload_n 0, 1) := by decide +kernel
theorem dL_law_1332 : decode cL_law 1332 = .ok (.iload 4, 2) := by decide +kernel
theorem dL_law_1334 : decode cL_law 1334 = .ok (.iconst 1, 1) := by decide +kernel
theorem dL_law_1335 : decode cL_law 1335 = .ok (.iadd, 1) := by decide +kernel
theorem dL_law_1336 : decode cL_law 1336 = .ok (.iaload, 1) := by decide +kernel
theorem dL_law_1337 : decode cL_law 1337 = .ok (.aload_n 0, 1) := by decide +kernel
theorem dL_law_1338 : decode cL_law 1338 = .ok (.iload 4, 2) := by decide +kernel
theorem dL_law_1340 : decode cL_law 1340 = .ok (.iconst 2, 1) := by decide +kernel
theorem dL_law_1341 : decode cL_law 1341 = .ok (.iadd, 1) := by decide +kernel
theorem dL_law_1342 : decode cL_law 1342 = .ok (.iaload, 1) := by decide +kernel
theorem dL_law_1343 : decode cL_law 1343 = .ok (.aload_n 0, 1) := by decide +kernel
theorem dL_law_1344 : decode cL_law 1344 = .ok (.iload 4, 2) := by decide +kernel
theorem dL_law_1346 : decode cL_law 1346 = .ok (.iconst 3, 1) := by decide +kernel
theorem dL_law_1347 : decode cL_law 1347 = .ok (.iadd, 1) := by decide +kernel
theorem dL_law_1348 : decode cL_law 1348 = .ok (.iaload, 1) := by decide +kernel
theorem dL_law_1349 : decode cL_law 1349 = .ok (.aload_n 0, 1) := by decide +kernel
theorem dL_law_1350 : decode cL_law 1350 = .ok (.iload 4, 2) := by decide +kernel
theorem dL_law_1352 : decode cL_law 1352 = .ok (.iconst 4, 1) := by decide +kernel
theorem dL_law_1353 : decode cL_law 1353 = .ok (.iadd, 1) := by decide +kernel
theorem dL_law_1354 : decode cL_law 1354 = .ok (.iaload, 1) := by decide +kernel
theorem dL_law_1355 : decode cL_law 1355 = .ok (.invokevirtual 164, 3) := by decide +kernel
theorem dL_law_1358 : decode cL_law 1358 = .ok (.if_icmp .eq 145, 3) := by decide +kernel
theorem dL_law_1361 : decode cL_law 1361 = .ok (.iconst 0, 1) := by decide +kernel
theorem dL_law_1362 : decode cL_law 1362 = .ok (.ireturn, 1) := by decide +kernel
theorem dL_law_1363 : decode cL_law 1363 = .ok (.aload_n 1, 1) := by decide +kernel
theorem dL_law_1364 : decode cL_law 1364 = .ok (.aload_n 0, 1) := by decide +kernel
theorem dL_law_1365 : decode cL_law 1365 = .ok (.iload 4, 2) := by decide +kernel
theorem dL_law_1367 : decode cL_law 1367 = .ok (.iconst 1, 1) := by decide +kernel
theorem dL_law_1368 : decode cL_law 1368 = .ok (.iadd, 1) := by decide +kernel
theorem dL_law_1369 : decode cL_law 1369 = .ok (.iaload, 1) := by decide +kernel
theorem dL_law_1370 : decode cL_law 1370 = .ok (.aload_n 0, 1) := by decide +kernel
theorem dL_law_1371 : decode cL_law 1371 = .ok (.iload 4, 2) := by decide +kernel
theorem dL_law_1373 : decode cL_law 1373 = .ok (.iconst 2, 1) := by decide +kernel
theorem dL_law_1374 : decode cL_law 1374 = .ok (.iadd, 1) := by decide +kernel
theorem dL_law_1375 : decode cL_law 1375 = .ok (.iaload, 1) := by decide +kernel
theorem dL_law_1376 : decode cL_law 1376 = .ok (.invokevirtual 165, 3) := by decide +kernel
theorem dL_law_1379 : decode cL_law 1379 = .ok (.aload_n 2, 1) := by decide +kernel
theorem dL_law_1380 : decode cL_law 1380 = .ok (.aload_n 0, 1) := by decide +kernel
theorem dL_law_1381 : decode cL_law 1381 = .ok (.iload 4, 2) := by decide +kernel
theorem dL_law_1383 : decode cL_law 1383 = .ok (.iconst 1, 1) := by decide +kernel
theorem dL_law_1384 : decode cL_law 1384 = .ok (.iadd, 1) := by decide +kernel
theorem dL_law_1385 : decode cL_law 1385 = .ok (.iaload, 1) := by decide +kernel
theorem dL_law_1386 : decode cL_law 1386 = .ok (.aload_n 0, 1) := by decide +kernel
theorem dL_law_1387 : decode cL_law 1387 = .ok (.iload 4, 2) := by decide +kernel
theorem dL_law_1389 : decode cL_law 1389 = .ok (.iconst 2, 1) := by decide +kernel
theorem dL_law_1390 : decode cL_law 1390 = .ok (.iadd, 1) := by decide +kernel
theorem dL_law_1391 : decode cL_law 1391 = .ok (.iaload, 1) := by decide +kernel
theorem dL_law_1392 : decode cL_law 1392 = .ok (.invokevirtual 168, 3) := by decide +kernel
theorem dL_law_1395 : decode cL_law 1395 = .ok (.if_icmp .eq 108, 3) := by decide +kernel
theorem dL_law_1398 : decode cL_law 1398 = .ok (.iconst 0, 1) := by decide +kernel
theorem dL_law_1399 : decode cL_law 1399 = .ok (.ireturn, 1) := by decide +kernel
theorem dL_law_1400 : decode cL_law 1400 = .ok (.aload_n 1, 1) := by decide +kernel
theorem dL_law_1401 : decode cL_law 1401 = .ok (.aload_n 0, 1) := by decide +kernel
theorem dL_law_1402 : decode cL_law 1402 = .ok (.iload 4, 2) := by decide +kernel
theorem dL_law_1404 : decode cL_law 1404 = .ok (.iconst 1, 1) := by decide +kernel
theorem dL_law_1405 : decode cL_law 1405 = .ok (.iadd, 1) := by decide +kernel
theorem dL_law_1406 : decode cL_law 1406 = .ok (.iaload, 1) := by decide +kernel
theorem dL_law_1407 : decode cL_law 1407 = .ok (.aload_n 0, 1) := by decide +kernel
theorem dL_law_1408 : decode cL_law 1408 = .ok (.iload 4, 2) := by decide +kernel
theorem dL_law_1410 : decode cL_law 1410 = .ok (.iconst 2, 1) := by decide +kernel
theorem dL_law_1411 : decode cL_law 1411 = .ok (.iadd, 1) := by decide +kernel
theorem dL_law_1412 : decode cL_law 1412 = .ok (.iaload, 1) := by decide +kernel
theorem dL_law_1413 : decode cL_law 1413 = .ok (.invokevirtual 169, 3) := by decide +kernel
theorem dL_law_1416 : decode cL_law 1416 = .ok (.aload_n 2, 1) := by decide +kernel
theorem dL_law_1417 : decode cL_law 1417 = .ok (.aload_n 0, 1) := by decide +kernel
theorem dL_law_1418 : decode cL_law 1418 = .ok (.iload 4, 2) := by decide +kernel
theorem dL_law_1420 : decode cL_law 1420 = .ok (.iconst 1, 1) := by decide +kernel
theorem dL_law_1421 : decode cL_law 1421 = .ok (.iadd, 1) := by decide +kernel
theorem dL_law_1422 : decode cL_law 1422 = .ok (.iaload, 1) := by decide +kernel
theorem dL_law_1423 : decode cL_law 1423 = .ok (.aload_n 0, 1) := by decide +kernel
theorem dL_law_1424 : decode cL_law 1424 = .ok (.iload 4, 2) := by decide +kernel
theorem dL_law_1426 : decode cL_law 1426 = .ok (.iconst 2, 1) := by decide +kernel
theorem dL_law_1427 : decode cL_law 1427 = .ok (.iadd, 1) := by decide +kernel
theorem dL_law_1428 : decode cL_law 1428 = .ok (.iaload, 1) := by decide +kernel
theorem dL_law_1429 : decode cL_law 1429 = .ok (.invokevirtual 172, 3) := by decide +kernel
theorem dL_law_1432 : decode cL_law 1432 = .ok (.if_icmp .eq 71, 3) := by decide +kernel
theorem dL_law_1435 : decode cL_law 1435 = .ok (.iconst 0, 1) := by decide +kernel
theorem dL_law_1436 : decode cL_law 1436 = .ok (.ireturn, 1) := by decide +kernel
theorem dL_law_1437 : decode cL_law 1437 = .ok (.aload_n 1, 1) := by decide +kernel
theorem dL_law_1438 : decode cL_law 1438 = .ok (.invokevirtual 173, 3) := by decide +kernel
theorem dL_law_1441 : decode cL_law 1441 = .ok (.aload_n 2, 1) := by decide +kernel
theorem dL_law_1442 : decode cL_law 1442 = .ok (.invokevirtual 176, 3) := by decide +kernel
theorem dL_law_1445 : decode cL_law 1445 = .ok (.if_icmp .eq 58, 3) := by decide +kernel
theorem dL_law_1448 : decode cL_law 1448 = .ok (.iconst 0, 1) := by decide +kernel
theorem dL_law_1449 : decode cL_law 1449 = .ok (.ireturn, 1) := by decide +kernel
theorem dL_law_1450 : decode cL_law 1450 = .ok (.aload_n 1, 1) := by decide +kernel
theorem dL_law_1451 : decode cL_law 1451 = .ok (.aload_n 0, 1) := by decide +kernel
theorem dL_law_1452 : decode cL_law 1452 = .ok (.iload 4, 2) := by decide +kernel
theorem dL_law_1454 : decode cL_law 1454 = .ok (.iconst 1, 1) := by decide +kernel
theorem dL_law_1455 : decode cL_law 1455 = .ok (.iadd, 1) := by decide +kernel
theorem dL_law_1456 : decode cL_law 1456 = .ok (.iaload, 1) := by decide +kernel
theorem dL_law_1457 : decode cL_law 1457 = .ok (.aload_n 0, 1) := by decide +kernel
theorem dL_law_1458 : decode cL_law 1458 = .ok (.iload 4, 2) := by decide +kernel
theorem dL_law_1460 : decode cL_law 1460 = .ok (.iconst 2, 1) := by decide +kernel
theorem dL_law_1461 : decode cL_law 1461 = .ok (.iadd, 1) := by decide +kernel
theorem dL_law_1462 : decode cL_law 1462 = .ok (.iaload, 1) := by decide +kernel
theorem dL_law_1463 : decode cL_law 1463 = .ok (.ifCond .eq 7, 3) := by decide +kernel
theorem dL_law_1466 : decode cL_law 1466 = .ok (.iconst 1, 1) := by decide +kernel
theorem dL_law_1467 : decode cL_law 1467 = .ok (.goto 4, 3) := by decide +kernel
theorem dL_law_1470 : decode cL_law 1470 = .ok (.iconst 0, 1) := by decide +kernel
theorem dL_law_1471 : decode cL_law 1471 = .ok (.invokevirtual 177, 3) := by decide +kernel
theorem dL_law_1474 : decode cL_law 1474 = .ok (.aload_n 2, 1) := by decide +kernel
theorem dL_law_1475 : decode cL_law 1475 = .ok (.aload_n 0, 1) := by decide +kernel
theorem dL_law_1476 : decode cL_law 1476 = .ok (.iload 4, 2) := by decide +kernel
theorem dL_law_1478 : decode cL_law 1478 = .ok (.iconst 1, 1) := by decide +kernel
theorem dL_law_1479 : decode cL_law 1479 = .ok (.iadd, 1) := by decide +kernel
theorem dL_law_1480 : decode cL_law 1480 = .ok (.iaload, 1) := by decide +kernel
theorem dL_law_1481 : decode cL_law 1481 = .ok (.aload_n 0, 1) := by decide +kernel
theorem dL_law_1482 : decode cL_law 1482 = .ok (.iload 4, 2) := by decide +kernel
theorem dL_law_1484 : decode cL_law 1484 = .ok (.iconst 2, 1) := by decide +kernel
theorem dL_law_1485 : decode cL_law 1485 = .ok (.iadd, 1) := by decide +kernel
theorem dL_law_1486 : decode cL_law 1486 = .ok (.iaload, 1) := by decide +kernel
theorem dL_law_1487 : decode cL_law 1487 = .ok (.ifCond .eq 7, 3) := by decide +kernel
theorem dL_law_1490 : decode cL_law 1490 = .ok (.iconst 1, 1) := by decide +kernel
theorem dL_law_1491 : decode cL_law 1491 = .ok (.goto 4, 3) := by decide +kernel
theorem dL_law_1494 : decode cL_law 1494 = .ok (.iconst 0, 1) := by decide +kernel
theorem dL_law_1495 : decode cL_law 1495 = .ok (.invokevirtual 180, 3) := by decide +kernel
theorem dL_law_1498 : decode cL_law 1498 = .ok (.if_icmp .eq 5, 3) := by decide +kernel
theorem dL_law_1501 : decode cL_law 1501 = .ok (.iconst 0, 1) := by decide +kernel
theorem dL_law_1502 : decode cL_law 1502 = .ok (.ireturn, 1) := by decide +kernel
theorem dL_law_1503 : decode cL_law 1503 = .ok (.iinc 4 6, 3) := by decide +kernel
theorem dL_law_1506 : decode cL_law 1506 = .ok (.goto (-1483), 3) := by decide +kernel
theorem dL_law_1509 : decode cL_law 1509 = .ok (.iconst 1, 1) := by decide +kernel
theorem dL_law_1510 : decode cL_law 1510 = .ok (.ireturn, 1) := by decide +kernel

theorem dX4_isFull_135 : decode cX4_isFull 135 = .ok (.iconst 3, 1) := by decide +kernel
theorem dX4_isFull_136 : decode cX4_isFull 136 = .ok (.iaload, 1) := by decide +kernel
theorem dX4_isFull_137 : decode cX4_isFull 137 = .ok (.bipush 10, 2) := by decide +kernel
theorem dX4_isFull_139 : decode cX4_isFull 139 = .ok (.if_icmp .lt 7, 3) := by decide +kernel
theorem dX4_isFull_142 : decode cX4_isFull 142 = .ok (.iconst 1, 1) := by decide +kernel
theorem dX4_isFull_143 : decode cX4_isFull 143 = .ok (.goto 4, 3) := by decide +kernel
theorem dX4_isFull_146 : decode cX4_isFull 146 = .ok (.iconst 0, 1) := by decide +kernel
theorem dX4_isFull_147 : decode cX4_isFull 147 = .ok (.ireturn, 1) := by decide +kernel
theorem dX4_isFull_148 : decode cX4_isFull 148 = .ok (.aload_n 0, 1) := by decide +kernel
theorem dX4_isFull_149 : decode cX4_isFull 149 = .ok (.getfield 31, 3) := by decide +kernel
theorem dX4_isFull_152 : decode cX4_isFull 152 = .ok (.getfield 76, 3) := by decide +kernel
theorem dX4_isFull_155 : decode cX4_isFull 155 = .ok (.iconst 4, 1) := by decide +kernel
theorem dX4_isFull_156 : decode cX4_isFull 156 = .ok (.iaload, 1) := by decide +kernel
theorem dX4_isFull_157 : decode cX4_isFull 157 = .ok (.bipush 12, 2) := by decide +kernel
theorem dX4_isFull_159 : decode cX4_isFull 159 = .ok (.if_icmp .lt 7, 3) := by decide +kernel
theorem dX4_isFull_162 : decode cX4_isFull 162 = .ok (.iconst 1, 1) := by decide +kernel
theorem dX4_isFull_163 : decode cX4_isFull 163 = .ok (.goto 4, 3) := by decide +kernel
theorem dX4_isFull_166 : decode cX4_isFull 166 = .ok (.iconst 0, 1) := by decide +kernel
theorem dX4_isFull_167 : decode cX4_isFull 167 = .ok (.ireturn, 1) := by decide +kernel
theorem dX4_isFull_168 : decode cX4_isFull 168 = .ok (.aload_n 0, 1) := by decide +kernel
theorem dX4_isFull_169 : decode cX4_isFull 169 = .ok (.getfield 31, 3) := by decide +kernel
theorem dX4_isFull_172 : decode cX4_isFull 172 = .ok (.getfield 76, 3) := by decide +kernel
theorem dX4_isFull_175 : decode cX4_isFull 175 = .ok (.iconst 5, 1) := by decide +kernel
theorem dX4_isFull_176 : decode cX4_isFull 176 = .ok (.iaload, 1) := by decide +kernel
theorem dX4_isFull_177 : decode cX4_isFull 177 = .ok (.iconst 4, 1) := by decide +kernel
theorem dX4_isFull_178 : decode cX4_isFull 178 = .ok (.if_icmp .lt 7, 3) := by decide +kernel
theorem dX4_isFull_181 : decode cX4_isFull 181 = .ok (.iconst 1, 1) := by decide +kernel
theorem dX4_isFull_182 : decode cX4_isFull 182 = .ok (.goto 4, 3) := by decide +kernel
theorem dX4_isFull_185 : decode cX4_isFull 185 = .ok (.iconst 0, 1) := by decide +kernel
theorem dX4_isFull_186 : decode cX4_isFull 186 = .ok (.ireturn, 1) := by decide +kernel
theorem dX4_isFull_187 : decode cX4_isFull 187 = .ok (.iconst 0, 1) := by decide +kernel
theorem dX4_isFull_188 : decode cX4_isFull 188 = .ok (.ireturn, 1) := by decide +kernel
theorem dX4_readLine_0 : decode cX4_readLine 0 = .ok (.iload_n 1, 1) := by decide +kernel
theorem dX4_readLine_1 : decode cX4_readLine 1 = .ok (.tableswitch 152 0 7 #[47, 54, 61, 68, 75, 131, 138, 145], 47) := by decide +kernel
theorem dX4_readLine_48 : decode cX4_readLine 48 = .ok (.aload_n 0, 1) := by decide +kernel
theorem dX4_readLine_49 : decode cX4_readLine 49 = .ok (.invokevirtual 79, 3) := by decide +kernel
theorem dX4_readLine_52 : decode cX4_readLine 52 = .ok (.goto 106, 3) := by decide +kernel
theorem dX4_readLine_55 : decode cX4_readLine 55 = .ok (.aload_n 0, 1) := by decide +kernel
theorem dX4_readLine_56 : decode cX4_readLine 56 = .ok (.invokevirtual 82, 3) := by decide +kernel
theorem dX4_readLine_59 : decode cX4_readLine 59 = .ok (.goto 99, 3) := by decide +kernel
theorem dX4_readLine_62 : decode cX4_readLine 62 = .ok (.aload_n 0, 1) := by decide +kernel
theorem dX4_readLine_63 : decode cX4_readLine 63 = .ok (.invokevirtual 85, 3) := by decide +kernel
theorem dX4_readLine_66 : decode cX4_readLine 66 = .ok (.goto 92, 3) := by decide +kernel
theorem dX4_readLine_69 : decode cX4_readLine 69 = .ok (.aload_n 0, 1) := by decide +kernel
theorem dX4_readLine_70 : decode cX4_readLine 70 = .ok (.invokevirtual 88, 3) := by decide +kernel
theorem dX4_readLine_73 : decode cX4_readLine 73 = .ok (.goto 85, 3) := by decide +kernel
theorem dX4_readLine_76 : decode cX4_readLine 76 = .ok (.aload_n 0, 1) := by decide +kernel
theorem dX4_readLine_77 : decode cX4_readLine 77 = .ok (.aload_n 0, 1) := by decide +kernel
theorem dX4_readLine_78 : decode cX4_readLine 78 = .ok (.getfield 31, 3) := by decide +kernel
theorem dX4_readLine_81 : decode cX4_readLine 81 = .ok (.getfield 91, 3) := by decide +kernel
theorem dX4_readLine_84 : decode cX4_readLine 84 = .ok (.aload_n 0, 1) := by decide +kernel
theorem dX4_readLine_85 : decode cX4_readLine 85 = .ok (.getfield 31, 3) := by decide +kernel
theorem dX4_readLine_88 : decode cX4_readLine 88 = .ok (.getfield 76, 3) := by decide +kernel
theorem dX4_readLine_91 : decode cX4_readLine 91 = .ok (.iconst 3, 1) := by decide +kernel
theorem dX4_readLine_92 : decode cX4_readLine 92 = .ok (.iaload, 1) := by decide +kernel
theorem dX4_readLine_93 : decode cX4_readLine 93 = .ok (.aaload, 1) := by decide +kernel
theorem dX4_readLine_94 : decode cX4_readLine 94 = .ok (.invokevirtual 95, 3) := by decide +kernel
theorem dX4_readLine_97 : decode cX4_readLine 97 = .ok (.aload_n 0, 1) := by decide +kernel
theorem dX4_readLine_98 : decode cX4_readLine 98 = .ok (.aload_n 0, 1) := by decide +kernel
theorem dX4_readLine_99 : decode cX4_readLine 99 = .ok (.getfield 31, 3) := by decide +kernel
theorem dX4_readLine_102 : decode cX4_readLine 102 = .ok (.getfield 91, 3) := by decide +kernel
theorem dX4_readLine_105 : decode cX4_readLine 105 = .ok (.aload_n 0, 1) := by decide +kernel
theorem dX4_readLine_106 : decode cX4_readLine 106 = .ok (.getfield 31, 3) := by decide +kernel
theorem dX4_readLine_109 : decode cX4_readLine 109 = .ok (.getfield 76, 3) := by decide +kernel
theorem dX4_readLine_112 : decode cX4_readLine 112 = .ok (.iconst 3, 1) := by decide +kernel
theorem dX4_readLine_113 : decode cX4_readLine 113 = .ok (.iaload, 1) := by decide +kernel
theorem dX4_readLine_114 : decode cX4_readLine 114 = .ok (.aaload, 1) := by decide +kernel
theorem dX4_readLine_115 : decode cX4_readLine 115 = .ok (.invokevirtual 99, 3) := by decide +kernel
theorem dX4_readLine_118 : decode cX4_readLine 118 = .ok (.aload_n 0, 1) := by decide +kernel
theorem dX4_readLine_119 : decode cX4_readLine 119 = .ok (.getfield 31, 3) := by decide +kernel
theorem dX4_readLine_122 : decode cX4_readLine 122 = .ok (.getfield 76, 3) := by decide +kernel
theorem dX4_readLine_125 : decode cX4_readLine 125 = .ok (.iconst 3, 1) := by decide +kernel
theorem dX4_readLine_126 : decode cX4_readLine 126 = .ok (.dup2, 1) := by decide +kernel
theorem dX4_readLine_127 : decode cX4_readLine 127 = .ok (.iaload, 1) := by decide +kernel
theorem dX4_readLine_128 : decode cX4_readLine 128 = .ok (.iconst 1, 1) := by decide +kernel
theorem dX4_readLine_129 : decode cX4_readLine 129 = .ok (.iadd, 1) := by decide +kernel
theorem dX4_readLine_130 : decode cX4_readLine 130 = .ok (.iastore, 1) := by decide +kernel
theorem dX4_readLine_131 : decode cX4_readLine 131 = .ok (.return_, 1) := by decide +kernel
theorem dX4_readLine_132 : decode cX4_readLine 132 = .ok (.aload_n 0, 1) := by decide +kernel
theorem dX4_readLine_133 : decode cX4_readLine 133 = .ok (.invokevirtual 102, 3) := by decide +kernel
theorem dX4_readLine_136 : decode cX4_readLine 136 = .ok (.goto 22, 3) := by decide +kernel
theorem dX4_readLine_139 : decode cX4_readLine 139 = .ok (.aload_n 0, 1) := by decide +kernel
theorem dX4_readLine_140 : decode cX4_readLine 140 = .ok (.invokevirtual 105, 3) := by decide +kernel
theorem dX4_readLine_143 : decode cX4_readLine 143 = .ok (.goto 15, 3) := by decide +kernel
theorem dX4_readLine_146 : decode cX4_readLine 146 = .ok (.aload_n 0, 1) := by decide +kernel
theorem dX4_readLine_147 : decode cX4_readLine 147 = .ok (.invokevirtual 108, 3) := by decide +kernel
theorem dX4_readLine_150 : decode cX4_readLine 150 = .ok (.goto 8, 3) := by decide +kernel
theorem dX4_readLine_153 : decode cX4_readLine 153 = .ok (.aload_n 0, 1) := by decide +kernel
theorem dX4_readLine_154 : decode cX4_readLine 154 = .ok (.iload_n 1, 1) := by decide +kernel
theorem dX4_readLine_155 : decode cX4_readLine 155 = .ok (.invokevirtual 111, 3) := by decide +kernel
theorem dX4_readLine_158 : decode cX4_readLine 158 = .ok (.aload_n 0, 1) := by decide +kernel
theorem dX4_readLine_159 : decode cX4_readLine 159 = .ok (.getfield 27, 3) := by decide +kernel
theorem dX4_readLine_162 : decode cX4_readLine 162 = .ok (.invokevirtual 54, 3) := by decide +kernel
theorem dX4_readLine_165 : decode cX4_readLine 165 = .ok (.aload_n 0, 1) := by decide +kernel
theorem dX4_readLine_166 : decode cX4_readLine 166 = .ok (.getfield 27, 3) := by decide +kernel
theorem dX4_readLine_169 : decode cX4_readLine 169 = .ok (.getfield 57, 3) := by decide +kernel
theorem dX4_readLine_172 : decode cX4_readLine 172 = .ok (.iconst 3, 1) := by decide +kernel
theorem dX4_readLine_173 : decode cX4_readLine 173 = .ok (.if_icmp .eq 8, 3) := by decide +kernel
theorem dX4_readLine_176 : decode cX4_readLine 176 = .ok (.aload_n 0, 1) := by decide +kernel
theorem dX4_readLine_177 : decode cX4_readLine 177 = .ok (.iconst 1, 1) := by decide +kernel
theorem dX4_readLine_178 : decode cX4_readLine 178 = .ok (.invokevirtual 69, 3) := by decide +kernel
theorem dX4_readLine_181 : decode cX4_readLine 181 = .ok (.return_, 1) := by decide +kernel
theorem dX4_readParty_0 : decode cX4_readParty 0 = .ok (.aload_n 0, 1) := by decide +kernel
theorem dX4_readParty_1 : decode cX4_readParty 1 = .ok (.iconst 0, 1) := by decide +kernel
theorem dX4_readParty_2 : decode cX4_readParty 2 = .ok (.invokevirtual 114, 3) := by decide +kernel
theorem dX4_readParty_5 : decode cX4_readParty 5 = .ok (.aload_n 0, 1) := by decide +kernel
theorem dX4_readParty_6 : decode cX4_readParty 6 = .ok (.getfield 31, 3) := by decide +kernel
theorem dX4_readParty_9 : decode cX4_readParty 9 = .ok (.getfield 76, 3) := by decide +kernel
theorem dX4_readParty_12 : decode cX4_readParty 12 = .ok (.iconst 0, 1) := by decide +kernel
theorem dX4_readParty_13 : decode cX4_readParty 13 = .ok (.dup2, 1) := by decide +kernel
theorem dX4_readParty_14 : decode cX4_readParty 14 = .ok (.iaload, 1) := by decide +kernel
theorem dX4_readParty_15 : decode cX4_readParty 15 = .ok (.iconst 1, 1) := by decide +kernel
theorem dX4_readParty_16 : decode cX4_readParty 16 = .ok (.iadd, 1) := by decide +kernel
theorem dX4_readParty_17 : decode cX4_readParty 17 = .ok (.iastore, 1) := by decide +kernel
theorem dX4_readParty_18 : decode cX4_readParty 18 = .ok (.return_, 1) := by decide +kernel
theorem dX4_readKin_0 : decode cX4_readKin 0 = .ok (.aload_n 0, 1) := by decide +kernel
theorem dX4_readKin_1 : decode cX4_readKin 1 = .ok (.iconst 0, 1) := by decide +kernel
theorem dX4_readKin_2 : decode cX4_readKin 2 = .ok (.invokevirtual 117, 3) := by decide +kernel
theorem dX4_readKin_5 : decode cX4_readKin 5 = .ok (.istore_n 1, 1) := by decide +kernel
theorem dX4_readKin_6 : decode cX4_readKin 6 = .ok (.aload_n 0, 1) := by decide +kernel
theorem dX4_readKin_7 : decode cX4_readKin 7 = .ok (.iconst 0, 1) := by decide +kernel
theorem dX4_readKin_8 : decode cX4_readKin 8 = .ok (.invokevirtual 117, 3) := by decide +kernel
theorem dX4_readKin_11 : decode cX4_readKin 11 = .ok (.istore_n 2, 1) := by decide +kernel
theorem dX4_readKin_12 : decode cX4_readKin 12 = .ok (.iload_n 1, 1) := by decide +kernel
theorem dX4_readKin_13 : decode cX4_readKin 13 = .ok (.iload_n 2, 1) := by decide +kernel
theorem dX4_readKin_14 : decode cX4_readKin 14 = .ok (.if_icmp .ne 11, 3) := by decide +kernel
theorem dX4_readKin_17 : decode cX4_readKin 17 = .ok (.aload_n 0, 1) := by decide +kernel
theorem dX4_readKin_18 : decode cX4_readKin 18 = .ok (.iconst 4, 1) := by decide +kernel
theorem dX4_readKin_19 : decode cX4_readKin 19 = .ok (.invokevirtual 69, 3) := by decide +kernel
theorem dX4_readKin_22 : decode cX4_readKin 22 = .ok (.goto 33, 3) := by decide +kernel
theorem dX4_readKin_25 : decode cX4_readKin 25 = .ok (.aload_n 0, 1) := by decide +kernel
theorem dX4_readKin_26 : decode cX4_readKin 26 = .ok (.getfield 31, 3) := by decide +kernel
theorem dX4_readKin_29 : decode cX4_readKin 29 = .ok (.iload_n 1, 1) := by decide +kernel
theorem dX4_readKin_30 : decode cX4_readKin 30 = .ok (.iload_n 2, 1) := by decide +kernel
theorem dX4_readKin_31 : decode cX4_readKin 31 = .ok (.invokevirtual 121, 3) := by decide +kernel
theorem dX4_readKin_34 : decode cX4_readKin 34 = .ok (.ifCond .eq 11, 3) := by decide +kernel
theorem dX4_readKin_37 : decode cX4_readKin 37 = .ok (.aload_n 0, 1) := by decide +kernel
theorem dX4_readKin_38 : decode cX4_readKin 38 = .ok (.iconst 2, 1) := by decide +kernel
theorem dX4_readKin_39 : decode cX4_readKin 39 = .ok (.invokevirtual 69, 3) := by decide +kernel
theorem dX4_readKin_42 : decode cX4_readKin 42 = .ok (.goto 13, 3) := by decide +kernel
theorem dX4_readKin_45 : decode cX4_readKin 45 = .ok (.aload_n 0, 1) := by decide +kernel
theorem dX4_readKin_46 : decode cX4_readKin 46 = .ok (.getfield 31, 3) := by decide +kernel
theorem dX4_readKin_49 : decode cX4_readKin 49 = .ok (.iload_n 1, 1) := by decide +kernel
theorem dX4_readKin_50 : decode cX4_readKin 50 = .ok (.iload_n 2, 1) := by decide +kernel
theorem dX4_readKin_51 : decode cX4_readKin 51 = .ok (.iconst 1, 1) := by decide +kernel
theorem dX4_readKin_52 : decode cX4_readKin 52 = .ok (.invokevirtual 125, 3) := by decide +kernel
theorem dX4_readKin_55 : decode cX4_readKin 55 = .ok (.return_, 1) := by decide +kernel
theorem dX4_readGood_0 : decode cX4_readGood 0 = .ok (.aload_n 0, 1) := by decide +kernel
theorem dX4_readGood_1 : decode cX4_readGood 1 = .ok (.getfield 31, 3) := by decide +kernel
theorem dX4_readGood_4 : decode cX4_readGood 4 = .ok (.getfield 129, 3) := by decide +kernel
theorem dX4_readGood_7 : decode cX4_readGood 7 = .ok (.aload_n 0, 1) := by decide +kernel
theorem dX4_readGood_8 : decode cX4_readGood 8 = .ok (.getfield 31, 3) := by decide +kernel
theorem dX4_readGood_11 : decode cX4_readGood 11 = .ok (.getfield 76, 3) := by decide +kernel
theorem dX4_readGood_14 : decode cX4_readGood 14 = .ok (.iconst 1, 1) := by decide +kernel
theorem dX4_readGood_15 : decode cX4_readGood 15 = .ok (.iaload, 1) := by decide +kernel
theorem dX4_readGood_16 : decode cX4_readGood 16 = .ok (.aaload, 1) := by decide +kernel
theorem dX4_readGood_17 : decode cX4_readGood 17 = .ok (.astore_n 1, 1) := by decide +kernel
theorem dX4_readGood_18 : decode cX4_readGood 18 = .ok (.aload_n 0, 1) := by decide +kernel
theorem dX4_readGood_19 : decode cX4_readGood 19 = .ok (.iconst 1, 1) := by decide +kernel
theorem dX4_readGood_20 : decode cX4_readGood 20 = .ok (.invokevirtual 114, 3) := by decide +kernel
theorem dX4_readGood_23 : decode cX4_readGood 23 = .ok (.aload_n 0, 1) := by decide +kernel
theorem dX4_readGood_24 : decode cX4_readGood 24 = .ok (.bipush 12, 2) := by decide +kernel
theorem dX4_readGood_26 : decode cX4_readGood 26 = .ok (.invokevirtual 132, 3) := by decide +kernel
theorem dX4_readGood_29 : decode cX4_readGood 29 = .ok (.aload_n 1, 1) := by decide +kernel
theorem dX4_readGood_30 : decode cX4_readGood 30 = .ok (.iconst 0, 1) := by decide +kernel
theorem dX4_readGood_31 : decode cX4_readGood 31 = .ok (.aload_n 0, 1) := by decide +kernel
theorem dX4_readGood_32 : decode cX4_readGood 32 = .ok (.iconst 0, 1) := by decide +kernel
theorem dX4_readGood_33 : decode cX4_readGood 33 = .ok (.bipush 9, 2) := by decide +kernel
theorem dX4_readGood_35 : decode cX4_readGood 35 = .ok (.invokevirtual 135, 3) := by decide +kernel
theorem dX4_readGood_38 : decode cX4_readGood 38 = .ok (.iastore, 1) := by decide +kernel
theorem dX4_readGood_39 : decode cX4_readGood 39 = .ok (.aload_n 0, 1) := by decide +kernel
theorem dX4_readGood_40 : decode cX4_readGood 40 = .ok (.bipush 13, 2) := by decide +kernel
theorem dX4_readGood_42 : decode cX4_readGood 42 = .ok (.invokevirtual 132, 3) := by decide +kernel
theorem dX4_readGood_45 : decode cX4_readGood 45 = .ok (.aload_n 1, 1) := by decide +kernel
theorem dX4_readGood_46 : decode cX4_readGood 46 = .ok (.iconst 1, 1) := by decide +kernel
theorem dX4_readGood_47 : decode cX4_readGood 47 = .ok (.aload_n 0, 1) := by decide +kernel
theorem dX4_readGood_48 : decode cX4_readGood 48 = .ok (.iconst 0, 1) := by decide +kernel
theorem dX4_readGood_49 : decode cX4_readGood 49 = .ok (.bipush 9, 2) := by decide +kernel
theorem dX4_readGood_51 : decode cX4_readGood 51 = .ok (.invokevirtual 135, 3) := by decide +kernel
theorem dX4_readGood_54 : decode cX4_readGood 54 = .ok (.iastore, 1) := by decide +kernel
theorem dX4_readGood_55 : decode cX4_readGood 55 = .ok (.aload_n 1, 1) := by decide +kernel
theorem dX4_readGood_56 : decode cX4_readGood 56 = .ok (.iconst 2, 1) := by decide +kernel
theorem dX4_readGood_57 : decode cX4_readGood 57 = .ok (.iconst 0, 1) := by decide +kernel
theorem dX4_readGood_58 : decode cX4_readGood 58 = .ok (.iastore, 1) := by decide +kernel
theorem dX4_readGood_59 : decode cX4_readGood 59 = .ok (.aload_n 1, 1) := by decide +kernel
theorem dX4_readGood_60 : decode cX4_readGood 60 = .ok (.iconst 3, 1) := by decide +kernel
theorem dX4_readGood_61 : decode cX4_readGood 61 = .ok (.iconst 0, 1) := by decide +kernel
theorem dX4_readGood_62 : decode cX4_readGood 62 = .ok (.iastore, 1) := by decide +kernel
theorem dX4_readGood_63 : decode cX4_readGood 63 = .ok (.aload_n 0, 1) := by decide +kernel
theorem dX4_readGood_64 : decode cX4_readGood 64 = .ok (.getfield 31, 3) := by decide +kernel
theorem dX4_readGood_67 : decode cX4_readGood 67 = .ok (.getfield 76, 3) := by decide +kernel
theorem dX4_readGood_70 : decode cX4_readGood 70 = .ok (.iconst 1, 1) := by decide +kernel
theorem dX4_readGood_71 : decode cX4_readGood 71 = .ok (.dup2, 1) := by decide +kernel
theorem dX4_readGood_72 : decode cX4_readGood 72 = .ok (.iaload, 1) := by decide +kernel
theorem dX4_readGood_73 : decode cX4_readGood 73 = .ok (.iconst 1, 1) := by decide +kernel
theorem dX4_readGood_74 : decode cX4_readGood 74 = .ok (.iadd, 1) := by decide +kernel
theorem dX4_readGood_75 : decode cX4_readGood 75 = .ok (.iastore, 1) := by decide +kernel
theorem dX4_readGood_76 : decode cX4_readGood 76 = .ok (.return_, 1) := by decide +kernel
theorem dX4_readAssist_0 : decode cX4_readAssist 0 = .ok (.aload_n 0, 1) := by decide +kernel
theorem dX4_readAssist_1 : decode cX4_readAssist 1 = .ok (.getfield 31, 3) := by decide +kernel
theorem dX4_readAssist_4 : decode cX4_readAssist 4 = .ok (.getfield 139, 3) := by decide +kernel
theorem dX4_readAssist_7 : decode cX4_readAssist 7 = .ok (.aload_n 0, 1) := by decide +kernel
theorem dX4_readAssist_8 : decode cX4_readAssist 8 = .ok (.getfield 31, 3) := by decide +kernel
theorem dX4_readAssist_11 : decode cX4_readAssist 11 = .ok (.getfield 76, 3) := by decide +kernel
theorem dX4_readAssist_14 : decode cX4_readAssist 14 = .ok (.iconst 2, 1) := by decide +kernel
theorem dX4_readAssist_15 : decode cX4_readAssist 15 = .ok (.iaload, 1) := by decide +kernel
theorem dX4_readAssist_16 : decode cX4_readAssist 16 = .ok (.aaload, 1) := by decide +kernel
theorem dX4_readAssist_17 : decode cX4_readAssist 17 = .ok (.astore_n 1, 1) := by decide +kernel
theorem dX4_readAssist_18 : decode cX4_readAssist 18 = .ok (.aload_n 0, 1) := by decide +kernel
theorem dX4_readAssist_19 : decode cX4_readAssist 19 = .ok (.iconst 2, 1) := by decide +kernel
theorem dX4_readAssist_20 : decode cX4_readAssist 20 = .ok (.invokevirtual 114, 3) := by decide +kernel
theorem dX4_readAssist_23 : decode cX4_readAssist 23 = .ok (.aload_n 0, 1) := by decide +kernel
theorem dX4_readAssist_24 : decode cX4_readAssist 24 = .ok (.bipush 14, 2) := by decide +kernel
theorem dX4_readAssist_26 : decode cX4_readAssist 26 = .ok (.invokevirtual 132, 3) := by decide +kernel
theorem dX4_readAssist_29 : decode cX4_readAssist 29 = .ok (.aload_n 1, 1) := by decide +kernel
theorem dX4_readAssist_30 : decode cX4_readAssist 30 = .ok (.iconst 0, 1) := by decide +kernel
theorem dX4_readAssist_31 : decode cX4_readAssist 31 = .ok (.aload_n 0, 1) := by decide +kernel
theorem dX4_readAssist_32 : decode cX4_readAssist 32 = .ok (.iconst 1, 1) := by decide +kernel
theorem dX4_readAssist_33 : decode cX4_readAssist 33 = .ok (.sipush 9999, 3) := by decide +kernel
theorem dX4_readAssist_36 : decode cX4_readAssist 36 = .ok (.invokevirtual 135, 3) := by decide +kernel
theorem dX4_readAssist_39 : decode cX4_readAssist 39 = .ok (.iastore, 1) := by decide +kernel
theorem dX4_readAssist_40 : decode cX4_readAssist 40 = .ok (.aload_n 1, 1) := by decide +kernel
theorem dX4_readAssist_41 : decode cX4_readAssist 41 = .ok (.iconst 1, 1) := by decide +kernel
theorem dX4_readAssist_42 : decode cX4_readAssist 42 = .ok (.iconst 0, 1) := by decide +kernel
theorem dX4_readAssist_43 : decode cX4_readAssist 43 = .ok (.iastore, 1) := by decide +kernel
theorem dX4_readAssist_44 : decode cX4_readAssist 44 = .ok (.aload_n 0, 1) := by decide +kernel
theorem dX4_readAssist_45 : decode cX4_readAssist 45 = .ok (.getfield 27, 3) := by decide +kernel
theorem dX4_readAssist_48 : decode cX4_readAssist 48 = .ok (.invokevirtual 54, 3) := by decide +kernel
theorem dX4_readAssist_51 : decode cX4_readAssist 51 = .ok (.aload_n 0, 1) := by decide +kernel
theorem dX4_readAssist_52 : decode cX4_readAssist 52 = .ok (.getfield 27, 3) := by decide +kernel
theorem dX4_readAssist_55 : decode cX4_readAssist 55 = .ok (.getfield 60, 3) := by decide +kernel
theorem dX4_readAssist_58 : decode cX4_readAssist 58 = .ok (.bipush 16, 2) := by decide +kernel
theorem dX4_readAssist_60 : decode cX4_readAssist 60 = .ok (.if_icmp .ne 17, 3) := by decide +kernel
theorem dX4_readAssist_63 : decode cX4_readAssist 63 = .ok (.aload_n 1, 1) := by decide +kernel
theorem dX4_readAssist_64 : decode cX4_readAssist 64 = .ok (.iconst 1, 1) := by decide +kernel
theorem dX4_readAssist_65 : decode cX4_readAssist 65 = .ok (.aload_n 0, 1) := by decide +kernel
theorem dX4_readAssist_66 : decode cX4_readAssist 66 = .ok (.iconst 1, 1) := by decide +kernel
theorem dX4_readAssist_67 : decode cX4_readAssist 67 = .ok (.sipush 9999, 3) := by decide +kernel
theorem dX4_readAssist_70 : decode cX4_readAssist 70 = .ok (.invokevirtual 135, 3) := by decide +kernel
theorem dX4_readAssist_73 : decode cX4_readAssist 73 = .ok (.iastore, 1) := by decide +kernel
theorem dX4_readAssist_74 : decode cX4_readAssist 74 = .ok (.goto 20, 3) := by decide +kernel
theorem dX4_readAssist_77 : decode cX4_readAssist 77 = .ok (.aload_n 0, 1) := by decide +kernel
theorem dX4_readAssist_78 : decode cX4_readAssist 78 = .ok (.getfield 27, 3) := by decide +kernel
theorem dX4_readAssist_81 : decode cX4_readAssist 81 = .ok (.getfield 60, 3) := by decide +kernel
theorem dX4_readAssist_84 : decode cX4_readAssist 84 = .ok (.bipush 15, 2) := by decide +kernel
theorem dX4_readAssist_86 : decode cX4_readAssist 86 = .ok (.if_icmp .eq 8, 3) := by decide +kernel
theorem dX4_readAssist_89 : decode cX4_readAssist 89 = .ok (.aload_n 0, 1) := by decide +kernel
theorem dX4_readAssist_90 : decode cX4_readAssist 90 = .ok (.iconst 1, 1) := by decide +kernel
theorem dX4_readAssist_91 : decode cX4_readAssist 91 = .ok (.invokevirtual 69, 3) := by decide +kernel
theorem dX4_readAssist_94 : decode cX4_readAssist 94 = .ok (.aload_n 0, 1) := by decide +kernel
theorem dX4_readAssist_95 : decode cX4_readAssist 95 = .ok (.getfield 31, 3) := by decide +kernel
theorem dX4_readAssist_98 : decode cX4_readAssist 98 = .ok (.getfield 76, 3) := by decide +kernel
theorem dX4_readAssist_101 : decode cX4_readAssist 101 = .ok (.iconst 2, 1) := by decide +kernel
theorem dX4_readAssist_102 : decode cX4_readAssist 102 = .ok (.dup2, 1) := by decide +kernel
theorem dX4_readAssist_103 : decode cX4_readAssist 103 = .ok (.iaload, 1) := by decide +kernel
theorem dX4_readAssist_104 : decode cX4_readAssist 104 = .ok (.iconst 1, 1) := by decide +kernel
theorem dX4_readAssist_105 : decode cX4_readAssist 105 = .ok (.iadd, 1) := by decide +kernel
theorem dX4_readAssist_106 : decode cX4_readAssist 106 = .ok (.iastore, 1) := by decide +kernel
theorem dX4_readAssist_107 : decode cX4_readAssist 107 = .ok (.return_, 1) := by decide +kernel
theorem dX4_readSale_0 : decode cX4_readSale 0 = .ok (.aload_n 1, 1) := by decide +kernel
theorem dX4_readSale_1 : decode cX4_readSale 1 = .ok (.iconst 0, 1) := by decide +kernel
theorem dX4_readSale_2 : decode cX4_readSale 2 = .ok (.invokestatic 142, 3) := by decide +kernel
theorem dX4_readSale_5 : decode cX4_readSale 5 = .ok (.aload_n 0, 1) := by decide +kernel
theorem dX4_readSale_6 : decode cX4_readSale 6 = .ok (.iconst 3, 1) := by decide +kernel
theorem dX4_readSale_7 : decode cX4_readSale 7 = .ok (.invokevirtual 114, 3) := by decide +kernel
theorem dX4_readSale_10 : decode cX4_readSale 10 = .ok (.aload_n 0, 1) := by decide +kernel
theorem dX4_readSale_11 : decode cX4_readSale 11 = .ok (.getfield 31, 3) := by decide +kernel
theorem dX4_readSale_14 : decode cX4_readSale 14 = .ok (.getfield 148, 3) := by decide +kernel
theorem dX4_readSale_17 : decode cX4_readSale 17 = .ok (.aload_n 0, 1) := by decide +kernel
theorem dX4_readSale_18 : decode cX4_readSale 18 = .ok (.getfield 31, 3) := by decide +kernel
theorem dX4_readSale_21 : decode cX4_readSale 21 = .ok (.getfield 76, 3) := by decide +kernel
theorem dX4_readSale_24 : decode cX4_readSale 24 = .ok (.iconst 3, 1) := by decide +kernel
theorem dX4_readSale_25 : decode cX4_readSale 25 = .ok (.iaload, 1) := by decide +kernel
theorem dX4_readSale_26 : decode cX4_readSale 26 = .ok (.aload_n 0, 1) := by decide +kernel
theorem dX4_readSale_27 : decode cX4_readSale 27 = .ok (.getfield 27, 3) := by decide +kernel
theorem dX4_readSale_30 : decode cX4_readSale 30 = .ok (.getfield 151, 3) := by decide +kernel
theorem dX4_readSale_33 : decode cX4_readSale 33 = .ok (.lastore, 1) := by decide +kernel
theorem dX4_readSale_34 : decode cX4_readSale 34 = .ok (.aload_n 1, 1) := by decide +kernel
theorem dX4_readSale_35 : decode cX4_readSale 35 = .ok (.iconst 0, 1) := by decide +kernel
theorem dX4_readSale_36 : decode cX4_readSale 36 = .ok (.aload_n 0, 1) := by decide +kernel
theorem dX4_readSale_37 : decode cX4_readSale 37 = .ok (.iconst 1, 1) := by decide +kernel
theorem dX4_readSale_38 : decode cX4_readSale 38 = .ok (.invokevirtual 117, 3) := by decide +kernel
theorem dX4_readSale_41 : decode cX4_readSale 41 = .ok (.iastore, 1) := by decide +kernel
theorem dX4_readSale_42 : decode cX4_readSale 42 = .ok (.aload_n 1, 1) := by decide +kernel
theorem dX4_readSale_43 : decode cX4_readSale 43 = .ok (.iconst 1, 1) := by decide +kernel
theorem dX4_readSale_44 : decode cX4_readSale 44 = .ok (.aload_n 0, 1) := by decide +kernel
theorem dX4_readSale_45 : decode cX4_readSale 45 = .ok (.iconst 0, 1) := by decide +kernel
theorem dX4_readSale_46 : decode cX4_readSale 46 = .ok (.invokevirtual 117, 3) := by decide +kernel
theorem dX4_readSale_49 : decode cX4_readSale 49 = .ok (.iastore, 1) := by decide +kernel
theorem dX4_readSale_50 : decode cX4_readSale 50 = .ok (.aload_n 1, 1) := by decide +kernel
theorem dX4_readSale_51 : decode cX4_readSale 51 = .ok (.iconst 2, 1) := by decide +kernel
theorem dX4_readSale_52 : decode cX4_readSale 52 = .ok (.aload_n 0, 1) := by decide +kernel
theorem dX4_readSale_53 : decode cX4_readSale 53 = .ok (.iconst 0, 1) := by decide +kernel
theorem dX4_readSale_54 : decode cX4_readSale 54 = .ok (.invokevirtual 117, 3) := by decide +kernel
theorem dX4_readSale_57 : decode cX4_readSale 57 = .ok (.iastore, 1) := by decide +kernel
theorem dX4_readSale_58 : decode cX4_readSale 58 = .ok (.aload_n 1, 1) := by decide +kernel
theorem dX4_readSale_59 : decode cX4_readSale 59 = .ok (.iconst 1, 1) := by decide +kernel
theorem dX4_readSale_60 : decode cX4_readSale 60 = .ok (.iaload, 1) := by decide +kernel
theorem dX4_readSale_61 : decode cX4_readSale 61 = .ok (.aload_n 1, 1) := by decide +kernel
theorem dX4_readSale_62 : decode cX4_readSale 62 = .ok (.iconst 2, 1) := by decide +kernel
theorem dX4_readSale_63 : decode cX4_readSale 63 = .ok (.iaload, 1) := by decide +kernel
theorem dX4_readSale_64 : decode cX4_readSale 64 = .ok (.if_icmp .ne 8, 3) := by decide +kernel
theorem dX4_readSale_67 : decode cX4_readSale 67 = .ok (.aload_n 0, 1) := by decide +kernel
theorem dX4_readSale_68 : decode cX4_readSale 68 = .ok (.iconst 4, 1) := by decide +kernel
theorem dX4_readSale_69 : decode cX4_readSale 69 = .ok (.invokevirtual 69, 3) := by decide +kernel
theorem dX4_readSale_72 : decode cX4_readSale 72 = .ok (.aload_n 0, 1) := by decide +kernel
theorem dX4_readSale_73 : decode cX4_readSale 73 = .ok (.bipush 17, 2) := by decide +kernel
theorem dX4_readSale_75 : decode cX4_readSale 75 = .ok (.invokevirtual 132, 3) := by decide +kernel
theorem dX4_readSale_78 : decode cX4_readSale 78 = .ok (.aload_n 1, 1) := by decide +kernel
theorem dX4_readSale_79 : decode cX4_readSale 79 = .ok (.iconst 3, 1) := by decide +kernel
theorem dX4_readSale_80 : decode cX4_readSale 80 = .ok (.aload_n 0, 1) := by decide +kernel
theorem dX4_readSale_81 : decode cX4_readSale 81 = .ok (.iconst 1, 1) := by decide +kernel
theorem dX4_readSale_82 : decode cX4_readSale 82 = .ok (.sipush 9999, 3) := by decide +kernel
theorem dX4_readSale_85 : decode cX4_readSale 85 = .ok (.invokevirtual 135, 3) := by decide +kernel
theorem dX4_readSale_88 : decode cX4_readSale 88 = .ok (.iastore, 1) := by decide +kernel
theorem dX4_readSale_89 : decode cX4_readSale 89 = .ok (.aload_n 0, 1) := by decide +kernel
theorem dX4_readSale_90 : decode cX4_readSale 90 = .ok (.bipush 18, 2) := by decide +kernel
theorem dX4_readSale_92 : decode cX4_readSale 92 = .ok (.invokevirtual 132, 3) := by decide +kernel
theorem dX4_readSale_95 : decode cX4_readSale 95 = .ok (.aload_n 1, 1) := by decide +kernel
theorem dX4_readSale_96 : decode cX4_readSale 96 = .ok (.iconst 4, 1) := by decide +kernel
theorem dX4_readSale_97 : decode cX4_readSale 97 = .ok (.aload_n 0, 1) := by decide +kernel
theorem dX4_readSale_98 : decode cX4_readSale 98 = .ok (.iconst 1, 1) := by decide +kernel
theorem dX4_readSale_99 : decode cX4_readSale 99 = .ok (.sipush 9999, 3) := by decide +kernel
theorem dX4_readSale_102 : decode cX4_readSale 102 = .ok (.invokevirtual 135, 3) := by decide +kernel
theorem dX4_readSale_105 : decode cX4_readSale 105 = .ok (.iastore, 1) := by decide +kernel
theorem dX4_readSale_106 : decode cX4_readSale 106 = .ok (.aload_n 0, 1) := by decide +kernel
theorem dX4_readSale_107 : decode cX4_readSale 107 = .ok (.bipush 19, 2) := by decide +kernel
theorem dX4_readSale_109 : decode cX4_readSale 109 = .ok (.invokevirtual 132, 3) := by decide +kernel
theorem dX4_readSale_112 : decode cX4_readSale 112 = .ok (.aload_n 1, 1) := by decide +kernel
theorem dX4_readSale_113 : decode cX4_readSale 113 = .ok (.iconst 5, 1) := by decide +kernel
theorem dX4_readSale_114 : decode cX4_readSale 114 = .ok (.aload_n 0, 1) := by decide +kernel
theorem dX4_readSale_115 : decode cX4_readSale 115 = .ok (.iconst 0, 1) := by decide +kernel
theorem dX4_readSale_116 : decode cX4_readSale 116 = .ok (.sipush 999, 3) := by decide +kernel
theorem dX4_readSale_119 : decode cX4_readSale 119 = .ok (.invokevirtual 135, 3) := by decide +kernel
theorem dX4_readSale_122 : decode cX4_readSale 122 = .ok (.iastore, 1) := by decide +kernel
theorem dX4_readSale_123 : decode cX4_readSale 123 = .ok (.return_, 1) := by decide +kernel
theorem dX4_readExtras_0 : decode cX4_readExtras 0 = .ok (.iconst 0, 1) := by decide +kernel
theorem dX4_readExtras_1 : decode cX4_readExtras 1 = .ok (.istore_n 2, 1) := by decide +kernel
theorem dX4_readExtras_2 : decode cX4_readExtras 2 = .ok (.iconst 0, 1) := by decide +kernel
theorem dX4_readExtras_3 : decode cX4_readExtras 3 = .ok (.istore_n 3, 1) := by decide +kernel
theorem dX4_readExtras_4 : decode cX4_readExtras 4 = .ok (.iload_n 3, 1) := by decide +kernel
theorem dX4_readExtras_5 : decode cX4_readExtras 5 = .ok (.sipush 900, 3) := by decide +kernel
theorem dX4_readExtras_8 : decode cX4_readExtras 8 = .ok (.if_icmp .ge 174, 3) := by decide +kernel
theorem dX4_readExtras_11 : decode cX4_readExtras 11 = .ok (.aload_n 0, 1) := by decide +kernel
theorem dX4_readExtras_12 : decode cX4_readExtras 12 = .ok (.getfield 47, 3) := by decide +kernel
theorem dX4_readExtras_15 : decode cX4_readExtras 15 = .ok (.ifCond .ne 167, 3) := by decide +kernel
theorem dX4_readExtras_18 : decode cX4_readExtras 18 = .ok (.aload_n 0, 1) := by decide +kernel
theorem dX4_readExtras_19 : decode cX4_readExtras 19 = .ok (.getfield 27, 3) := by decide +kernel
theorem dX4_readExtras_22 : decode cX4_readExtras 22 = .ok (.invokevirtual 54, 3) := by decide +kernel
theorem dX4_readExtras_25 : decode cX4_readExtras 25 = .ok (.aload_n 0, 1) := by decide +kernel
theorem dX4_readExtras_26 : decode cX4_readExtras 26 = .ok (.getfield 27, 3) := by decide +kernel
theorem dX4_readExtras_29 : decode cX4_readExtras 29 = .ok (.getfield 60, 3) := by decide +kernel
theorem dX4_readExtras_32 : decode cX4_readExtras 32 = .ok (.istore 4, 2) := by decide +kernel
theorem dX4_readExtras_34 : decode cX4_readExtras 34 = .ok (.aload_n 0, 1) := by decide +kernel
theorem dX4_readExtras_35 : decode cX4_readExtras 35 = .ok (.getfield 27, 3) := by decide +kernel
theorem dX4_readExtras_38 : decode cX4_readExtras 38 = .ok (.getfield 57, 3) := by decide +kernel
theorem dX4_readExtras_41 : decode cX4_readExtras 41 = .ok (.iconst 3, 1) := by decide +kernel
theorem dX4_readExtras_42 : decode cX4_readExtras 42 = .ok (.if_icmp .ne 4, 3) := by decide +kernel
theorem dX4_readExtras_45 : decode cX4_readExtras 45 = .ok (.return_, 1) := by decide +kernel
theorem dX4_readExtras_46 : decode cX4_readExtras 46 = .ok (.iload 4, 2) := by decide +kernel
theorem dX4_readExtras_48 : decode cX4_readExtras 48 = .ok (.bipush 24, 2) := by decide +kernel
theorem dX4_readExtras_50 : decode cX4_readExtras 50 = .ok (.if_icmp .lt 10, 3) := by decide +kernel
theorem dX4_readExtras_53 : decode cX4_readExtras 53 = .ok (.iload 4, 2) := by decide +kernel
theorem dX4_readExtras_55 : decode cX4_readExtras 55 = .ok (.bipush 29, 2) := by decide +kernel
theorem dX4_readExtras_57 : decode cX4_readExtras 57 = .ok (.if_icmp .le 11, 3) := by decide +kernel
theorem dX4_readExtras_60 : decode cX4_readExtras 60 = .ok (.aload_n 0, 1) := by decide +kernel
theorem dX4_readExtras_61 : decode cX4_readExtras 61 = .ok (.iconst 1, 1) := by decide +kernel
theorem dX4_readExtras_62 : decode cX4_readExtras 62 = .ok (.invokevirtual 69, 3) := by decide +kernel
theorem dX4_readExtras_65 : decode cX4_readExtras 65 = .ok (.goto 111, 3) := by decide +kernel
theorem dX4_readExtras_68 : decode cX4_readExtras 68 = .ok (.iload 4, 2) := by decide +kernel
theorem dX4_readExtras_70 : decode cX4_readExtras 70 = .ok (.bipush 29, 2) := by decide +kernel
theorem dX4_readExtras_72 : decode cX4_readExtras 72 = .ok (.if_icmp .ne 39, 3) := by decide +kernel
theorem dX4_readExtras_75 : decode cX4_readExtras 75 = .ok (.iconst 1, 1) := by decide +kernel
theorem dX4_readExtras_76 : decode cX4_readExtras 76 = .ok (.aload_n 0, 1) := by decide +kernel
theorem dX4_readExtras_77 : decode cX4_readExtras 77 = .ok (.iconst 2, 1) := by decide +kernel
theorem dX4_readExtras_78 : decode cX4_readExtras 78 = .ok (.invokevirtual 117, 3) := by decide +kernel
theorem dX4_readExtras_81 : decode cX4_readExtras 81 = .ok (.ishl, 1) := by decide +kernel
theorem dX4_readExtras_82 : decode cX4_readExtras 82 = .ok (.istore 5, 2) := by decide +kernel
theorem dX4_readExtras_84 : decode cX4_readExtras 84 = .ok (.aload_n 1, 1) := by decide +kernel
theorem dX4_readExtras_85 : decode cX4_readExtras 85 = .ok (.bipush 11, 2) := by decide +kernel
theorem dX4_readExtras_87 : decode cX4_readExtras 87 = .ok (.iaload, 1) := by decide +kernel
theorem dX4_readExtras_88 : decode cX4_readExtras 88 = .ok (.iload 5, 2) := by decide +kernel
theorem dX4_readExtras_90 : decode cX4_readExtras 90 = .ok (.iand, 1) := by decide +kernel
theorem dX4_readExtras_91 : decode cX4_readExtras 91 = .ok (.ifCond .eq 8, 3) := by decide +kernel
theorem dX4_readExtras_94 : decode cX4_readExtras 94 = .ok (.aload_n 0, 1) := by decide +kernel
theorem dX4_readExtras_95 : decode cX4_readExtras 95 = .ok (.iconst 2, 1) := by decide +kernel
theorem dX4_readExtras_96 : decode cX4_readExtras 96 = .ok (.invokevirtual 69, 3) := by decide +kernel
theorem dX4_readExtras_99 : decode cX4_readExtras 99 = .ok (.aload_n 1, 1) := by decide +kernel
theorem dX4_readExtras_100 : decode cX4_readExtras 100 = .ok (.bipush 11, 2) := by decide +kernel
theorem dX4_readExtras_102 : decode cX4_readExtras 102 = .ok (.dup2, 1) := by decide +kernel
theorem dX4_readExtras_103 : decode cX4_readExtras 103 = .ok (.iaload, 1) := by decide +kernel
theorem dX4_readExtras_104 : decode cX4_readExtras 104 = .ok (.iload 5, 2) := by decide +kernel
theorem dX4_readExtras_106 : decode cX4_readExtras 106 = .ok (.ior, 1) := by decide +kernel
theorem dX4_readExtras_107 : decode cX4_readExtras 107 = .ok (.iastore, 1) := by decide +kernel
theorem dX4_readExtras_108 : decode cX4_readExtras 108 = .ok (.goto 68, 3) := by decide +kernel
theorem dX4_readExtras_111 : decode cX4_readExtras 111 = .ok (.iload_n 2, 1) := by decide +kernel
theorem dX4_readExtras_112 : decode cX4_readExtras 112 = .ok (.iload 4, 2) := by decide +kernel
theorem dX4_readExtras_114 : decode cX4_readExtras 114 = .ok (.ishr, 1) := by decide +kernel
theorem dX4_readExtras_115 : decode cX4_readExtras 115 = .ok (.iconst 1, 1) := by decide +kernel
theorem dX4_readExtras_116 : decode cX4_readExtras 116 = .ok (.iand, 1) := by decide +kernel
theorem dX4_readExtras_117 : decode cX4_readExtras 117 = .ok (.ifCond .eq 11, 3) := by decide +kernel
theorem dX4_readExtras_120 : decode cX4_readExtras 120 = .ok (.aload_n 0, 1) := by decide +kernel
theorem dX4_readExtras_121 : decode cX4_readExtras 121 = .ok (.iconst 2, 1) := by decide +kernel
theorem dX4_readExtras_122 : decode cX4_readExtras 122 = .ok (.invokevirtual 69, 3) := by decide +kernel
theorem dX4_readExtras_125 : decode cX4_readExtras 125 = .ok (.goto 51, 3) := by decide +kernel
theorem dX4_readExtras_128 : decode cX4_readExtras 128 = .ok (.iload_n 2, 1) := by decide +kernel
theorem dX4_readExtras_129 : decode cX4_readExtras 129 = .ok (.iconst 1, 1) := by decide +kernel
theorem dX4_readExtras_130 : decode cX4_readExtras 130 = .ok (.iload 4, 2) := by decide +kernel
theorem dX4_readExtras_132 : decode cX4_readExtras 132 = .ok (.ishl, 1) := by decide +kernel
theorem dX4_readExtras_133 : decode cX4_readExtras 133 = .ok (.ior, 1) := by decide +kernel
theorem dX4_readExtras_134 : decode cX4_readExtras 134 = .ok (.istore_n 2, 1) := by decide +kernel
theorem dX4_readExtras_135 : decode cX4_readExtras 135 = .ok (.aload_n 1, 1) := by decide +kernel
theorem dX4_readExtras_136 : decode cX4_readExtras 136 = .ok (.bipush 6, 2) := by decide +kernel
theorem dX4_readExtras_138 : decode cX4_readExtras 138 = .ok (.iload 4, 2) := by decide +kernel
theorem dX4_readExtras_140 : decode cX4_readExtras 140 = .ok (.iadd, 1) := by decide +kernel
theorem dX4_readExtras_141 : decode cX4_readExtras 141 = .ok (.bipush 24, 2) := by decide +kernel
theorem dX4_readExtras_143 : decode cX4_readExtras 143 = .ok (.isub, 1) := by decide +kernel
theorem dX4_readExtras_144 : decode cX4_readExtras 144 = .ok (.iload 4, 2) := by decide +kernel
theorem dX4_readExtras_146 : decode cX4_readExtras 146 = .ok (.bipush 24, 2) := by decide +kernel
theorem dX4_readExtras_148 : decode cX4_readExtras 148 = .ok (.if_icmp .ne 7, 3) := by decide +kernel
theorem dX4_readExtras_151 : decode cX4_readExtras 151 = .ok (.iconst 1, 1) := by decide +kernel
theorem dX4_readExtras_152 : decode cX4_readExtras 152 = .ok (.goto 23, 3) := by decide +kernel
theorem dX4_readExtras_155 : decode cX4_readExtras 155 = .ok (.aload_n 0, 1) := by decide +kernel
theorem dX4_readExtras_156 : decode cX4_readExtras 156 = .ok (.iconst 0, 1) := by decide +kernel
theorem dX4_readExtras_157 : decode cX4_readExtras 157 = .ok (.iload 4, 2) := by decide +kernel
theorem dX4_readExtras_159 : decode cX4_readExtras 159 = .ok (.bipush 25, 2) := by decide +kernel
theorem dX4_readExtras_161 : decode cX4_readExtras 161 = .ok (.if_icmp .ne 8, 3) := by decide +kernel
theorem dX4_readExtras_164 : decode cX4_readExtras 164 = .ok (.bipush 99, 2) := by decide +kernel
theorem dX4_readExtras_166 : decode cX4_readExtras 166 = .ok (.goto 6, 3) := by decide +kernel
theorem dX4_readExtras_169 : decode cX4_readExtras 169 = .ok (.sipush 9999, 3) := by decide +kernel
theorem dX4_readExtras_172 : decode cX4_readExtras 172 = .ok (.invokevirtual 135, 3) := by decide +kernel
theorem dX4_readExtras_175 : decode cX4_readExtras 175 = .ok (.iastore, 1) := by decide +kernel
theorem dX4_readExtras_176 : decode cX4_readExtras 176 = .ok (.iinc 3 1, 3) := by decide +kernel
theorem dX4_readExtras_179 : decode cX4_readExtras 179 = .ok (.goto (-175), 3) := by decide +kernel
theorem dX4_readExtras_182 : decode cX4_readExtras 182 = .ok (.return_, 1) := by decide +kernel
theorem dX4_readResold_0 : decode cX4_readResold 0 = .ok (.aload_n 0, 1) := by decide +kernel
theorem dX4_readResold_1 : decode cX4_readResold 1 = .ok (.getfield 31, 3) := by decide +kernel
theorem dX4_readResold_4 : decode cX4_readResold 4 = .ok (.getfield 155, 3) := by decide +kernel
theorem dX4_readResold_7 : decode cX4_readResold 7 = .ok (.aload_n 0, 1) := by decide +kernel
theorem dX4_readResold_8 : decode cX4_readResold 8 = .ok (.getfield 31, 3) := by decide +kernel
theorem dX4_readResold_11 : decode cX4_readResold 11 = .ok (.getfield 76, 3) := by decide +kernel
theorem dX4_readResold_14 : decode cX4_readResold 14 = .ok (.iconst 4, 1) := by decide +kernel
theorem dX4_readResold_15 : decode cX4_readResold 15 = .ok (.iaload, 1) := by decide +kernel
theorem dX4_readResold_16 : decode cX4_readResold 16 = .ok (.aaload, 1) := by decide +kernel
theorem dX4_readResold_17 : decode cX4_readResold 17 = .ok (.astore_n 1, 1) := by decide +kernel
theorem dX4_readResold_18 : decode cX4_readResold 18 = .ok (.aload_n 1, 1) := by decide +kernel
theorem dX4_readResold_19 : decode cX4_readResold 19 = .ok (.iconst 0, 1) := by decide +kernel
theorem dX4_readResold_20 : decode cX4_readResold 20 = .ok (.aload_n 0, 1) := by decide +kernel
theorem dX4_readResold_21 : decode cX4_readResold 21 = .ok (.iconst 1, 1) := by decide +kernel
theorem dX4_readResold_22 : decode cX4_readResold 22 = .ok (.invokevirtual 117, 3) := by decide +kernel
theorem dX4_readResold_25 : decode cX4_readResold 25 = .ok (.iastore, 1) := by decide +kernel
theorem dX4_readResold_26 : decode cX4_readResold 26 = .ok (.aload_n 0, 1) := by decide +kernel
theorem dX4_readResold_27 : decode cX4_readResold 27 = .ok (.bipush 17, 2) := by decide +kernel
theorem dX4_readResold_29 : decode cX4_readResold 29 = .ok (.invokevirtual 132, 3) := by decide +kernel
theorem dX4_readResold_32 : decode cX4_readResold 32 = .ok (.aload_n 1, 1) := by decide +kernel
theorem dX4_readResold_33 : decode cX4_readResold 33 = .ok (.iconst 1, 1) := by decide +kernel
theorem dX4_readResold_34 : decode cX4_readResold 34 = .ok (.aload_n 0, 1) := by decide +kernel
theorem dX4_readResold_35 : decode cX4_readResold 35 = .ok (.iconst 1, 1) := by decide +kernel
theorem dX4_readResold_36 : decode cX4_readResold 36 = .ok (.sipush 9999, 3) := by decide +kernel
theorem dX4_readResold_39 : decode cX4_readResold 39 = .ok (.invokevirtual 135, 3) := by decide +kernel
theorem dX4_readResold_42 : decode cX4_readResold 42 = .ok (.iastore, 1) := by decide +kernel
theorem dX4_readResold_43 : decode cX4_readResold 43 = .ok (.aload_n 0, 1) := by decide +kernel
theorem dX4_readResold_44 : decode cX4_readResold 44 = .ok (.bipush 18, 2) := by decide +kernel
theorem dX4_readResold_46 : decode cX4_readResold 46 = .ok (.invokevirtual 132, 3) := by decide +kernel
theorem dX4_readResold_49 : decode cX4_readResold 49 = .ok (.aload_n 1, 1) := by decide +kernel
theorem dX4_readResold_50 : decode cX4_readResold 50 = .ok (.iconst 2, 1) := by decide +kernel
theorem dX4_readResold_51 : decode cX4_readResold 51 = .ok (.aload_n 0, 1) := by decide +kernel
theorem dX4_readResold_52 : decode cX4_readResold 52 = .ok (.iconst 1, 1) := by decide +kernel
theorem dX4_readResold_53 : decode cX4_readResold 53 = .ok (.sipush 9999, 3) := by decide +kernel
theorem dX4_readResold_56 : decode cX4_readResold 56 = .ok (.invokevirtual 135, 3) := by decide +kernel
theorem dX4_readResold_59 : decode cX4_readResold 59 = .ok (.iastore, 1) := by decide +kernel
theorem dX4_readResold_60 : decode cX4_readResold 60 = .ok (.aload_n 0, 1) := by decide +kernel
theorem dX4_readResold_61 : decode cX4_readResold 61 = .ok (.bipush 19, 2) := by decide +kernel
theorem dX4_readResold_63 : decode cX4_readResold 63 = .ok (.invokevirtual 132, 3) := by decide +kernel
theorem dX4_readResold_66 : decode cX4_readResold 66 = .ok (.aload_n 1, 1) := by decide +kernel
theorem dX4_readResold_67 : decode cX4_readResold 67 = .ok (.iconst 3, 1) := by decide +kernel
theorem dX4_readResold_68 : decode cX4_readResold 68 = .ok (.aload_n 0, 1) := by decide +kernel
theorem dX4_readResold_69 : decode cX4_readResold 69 = .ok (.iconst 0, 1) := by decide +kernel
theorem dX4_readResold_70 : decode cX4_readResold 70 = .ok (.sipush 999, 3) := by decide +kernel
theorem dX4_readResold_73 : decode cX4_readResold 73 = .ok (.invokevirtual 135, 3) := by decide +kernel
theorem dX4_readResold_76 : decode cX4_readResold 76 = .ok (.iastore, 1) := by decide +kernel
theorem dX4_readResold_77 : decode cX4_readResold 77 = .ok (.aload_n 0, 1) := by decide +kernel
theorem dX4_readResold_78 : decode cX4_readResold 78 = .ok (.getfield 31, 3) := by decide +kernel
theorem dX4_readResold_81 : decode cX4_readResold 81 = .ok (.getfield 76, 3) := by decide +kernel
theorem dX4_readResold_84 : decode cX4_readResold 84 = .ok (.iconst 4, 1) := by decide +kernel
theorem dX4_readResold_85 : decode cX4_readResold 85 = .ok (.dup2, 1) := by decide +kernel
theorem dX4_readResold_86 : decode cX4_readResold 86 = .ok (.iaload, 1) := by decide +kernel
theorem dX4_readResold_87 : decode cX4_readResold 87 = .ok (.iconst 1, 1) := by decide +kernel
theorem dX4_readResold_88 : decode cX4_readResold 88 = .ok (.iadd, 1) := by decide +kernel
theorem dX4_readResold_89 : decode cX4_readResold 89 = .ok (.iastore, 1) := by decide +kernel
theorem dX4_readResold_90 : decode cX4_readResold 90 = .ok (.return_, 1) := by decide +kernel
theorem dX4_readMade_0 : decode cX4_readMade 0 = .ok (.aload_n 0, 1) := by decide +kernel
theorem dX4_readMade_1 : decode cX4_readMade 1 = .ok (.getfield 31, 3) := by decide +kernel
theorem dX4_readMade_4 : decode cX4_readMade 4 = .ok (.getfield 129, 3) := by decide +kernel
theorem dX4_readMade_7 : decode cX4_readMade 7 = .ok (.aload_n 0, 1) := by decide +kernel
theorem dX4_readMade_8 : decode cX4_readMade 8 = .ok (.iconst 1, 1) := by decide +kernel
theorem dX4_readMade_9 : decode cX4_readMade 9 = .ok (.invokevirtual 117, 3) := by decide +kernel
theorem dX4_readMade_12 : decode cX4_readMade 12 = .ok (.aaload, 1) := by decide +kernel
theorem dX4_readMade_13 : decode cX4_readMade 13 = .ok (.astore_n 1, 1) := by decide +kernel
theorem dX4_readMade_14 : decode cX4_readMade 14 = .ok (.aload_n 1, 1) := by decide +kernel
theorem dX4_readMade_15 : decode cX4_readMade 15 = .ok (.iconst 2, 1) := by decide +kernel
theorem dX4_readMade_16 : decode cX4_readMade 16 = .ok (.iaload, 1) := by decide +kernel
theorem dX4_readMade_17 : decode cX4_readMade 17 = .ok (.ifCond .eq 8, 3) := by decide +kernel
theorem dX4_readMade_20 : decode cX4_readMade 20 = .ok (.aload_n 0, 1) := by decide +kernel
theorem dX4_readMade_21 : decode cX4_readMade 21 = .ok (.iconst 2, 1) := by decide +kernel
theorem dX4_readMade_22 : decode cX4_readMade 22 = .ok (.invokevirtual 69, 3) := by decide +kernel
theorem dX4_readMade_25 : decode cX4_readMade 25 = .ok (.aload_n 0, 1) := by decide +kernel
theorem dX4_readMade_26 : decode cX4_readMade 26 = .ok (.bipush 20, 2) := by decide +kernel
theorem dX4_readMade_28 : decode cX4_readMade 28 = .ok (.invokevirtual 132, 3) := by decide +kernel
theorem dX4_readMade_31 : decode cX4_readMade 31 = .ok (.aload_n 1, 1) := by decide +kernel
theorem dX4_readMade_32 : decode cX4_readMade 32 = .ok (.iconst 2, 1) := by decide +kernel
theorem dX4_readMade_33 : decode cX4_readMade 33 = .ok (.aload_n 0, 1) := by decide +kernel
theorem dX4_readMade_34 : decode cX4_readMade 34 = .ok (.iconst 1, 1) := by decide +kernel
theorem dX4_readMade_35 : decode cX4_readMade 35 = .ok (.sipush 9999, 3) := by decide +kernel
theorem dX4_readMade_38 : decode cX4_readMade 38 = .ok (.invokevirtual 135, 3) := by decide +kernel
theorem dX4_readMade_41 : decode cX4_readMade 41 = .ok (.iastore, 1) := by decide +kernel
theorem dX4_readMade_42 : decode cX4_readMade 42 = .ok (.aload_n 0, 1) := by decide +kernel
theorem dX4_readMade_43 : decode cX4_readMade 43 = .ok (.bipush 21, 2) := by decide +kernel
theorem dX4_readMade_45 : decode cX4_readMade 45 = .ok (.invokevirtual 132, 3) := by decide +kernel
theorem dX4_readMade_48 : decode cX4_readMade 48 = .ok (.aload_n 1, 1) := by decide +kernel
theorem dX4_readMade_49 : decode cX4_readMade 49 = .ok (.iconst 3, 1) := by decide +kernel
theorem dX4_readMade_50 : decode cX4_readMade 50 = .ok (.aload_n 0, 1) := by decide +kernel
theorem dX4_readMade_51 : decode cX4_readMade 51 = .ok (.iconst 0, 1) := by decide +kernel
theorem dX4_readMade_52 : decode cX4_readMade 52 = .ok (.bipush 99, 2) := by decide +kernel
theorem dX4_readMade_54 : decode cX4_readMade 54 = .ok (.invokevirtual 135, 3) := by decide +kernel
theorem dX4_readMade_57 : decode cX4_readMade 57 = .ok (.iastore, 1) := by decide +kernel
theorem dX4_readMade_58 : decode cX4_readMade 58 = .ok (.return_, 1) := by decide +kernel
theorem dX4_readBand_0 : decode cX4_readBand 0 = .ok (.aload_n 0, 1) := by decide +kernel
theorem dX4_readBand_1 : decode cX4_readBand 1 = .ok (.getfield 31, 3) := by decide +kernel
theorem dX4_readBand_4 : decode cX4_readBand 4 = .ok (.getfield 76, 3) := by decide +kernel
theorem dX4_readBand_7 : decode cX4_readBand 7 = .ok (.iconst 5, 1) := by decide +kernel
theorem dX4_readBand_8 : decode cX4_readBand 8 = .ok (.iaload, 1) := by decide +kernel
theorem dX4_readBand_9 : decode cX4_readBand 9 = .ok (.istore_n 1, 1) := by decide +kernel
theorem dX4_readBand_10 : decode cX4_readBand 10 = .ok (.iload_n 1, 1) := by decide +kernel
theorem dX4_readBand_11 : decode cX4_readBand 11 = .ok (.ifCond .ne 7, 3) := by decide +kernel
theorem dX4_readBand_14 : decode cX4_readBand 14 = .ok (.iconst 2, 1) := by decide +kernel
theorem dX4_readBand_15 : decode cX4_readBand 15 = .ok (.goto 18, 3) := by decide +kernel
theorem dX4_readBand_18 : decode cX4_readBand 18 = .ok (.aload_n 0, 1) := by decide +kernel
theorem dX4_readBand_19 : decode cX4_readBand 19 = .ok (.getfield 31, 3) := by decide +kernel
theorem dX4_readBand_22 : decode cX4_readBand 22 = .ok (.getfield 158, 3) := by decide +kernel
theorem dX4_readBand_25 : decode cX4_readBand 25 = .ok (.iload_n 1, 1) := by decide +kernel
theorem dX4_readBand_26 : decode cX4_readBand 26 = .ok (.iconst 1, 1) := by decide +kernel
theorem dX4_readBand_27 : decode cX4_readBand 27 = .ok (.isub, 1) := by decide +kernel
theorem dX4_readBand_28 : decode cX4_readBand 28 = .ok (.aaload, 1) := by decide +kernel
theorem dX4_readBand_29 : decode cX4_readBand 29 = .ok (.iconst 0, 1) := by decide +kernel
theorem dX4_readBand_30 : decode cX4_readBand 30 = .ok (.iaload, 1) := by decide +kernel
theorem dX4_readBand_31 : decode cX4_readBand 31 = .ok (.iconst 1, 1) := by decide +kernel
theorem dX4_readBand_32 : decode cX4_readBand 32 = .ok (.iadd, 1) := by decide +kernel
theorem dX4_readBand_33 : decode cX4_readBand 33 = .ok (.istore_n 2, 1) := by decide +kernel
theorem dX4_readBand_34 : decode cX4_readBand 34 = .ok (.aload_n 0, 1) := by decide +kernel
theorem dX4_readBand_35 : decode cX4_readBand 35 = .ok (.bipush 22, 2) := by decide +kernel
theorem dX4_readBand_37 : decode cX4_readBand 37 = .ok (.invokevirtual 132, 3) := by decide +kernel
theorem dX4_readBand_40 : decode cX4_readBand 40 = .ok (.aload_n 0, 1) := by decide +kernel
theorem dX4_readBand_41 : decode cX4_readBand 41 = .ok (.getfield 31, 3) := by decide +kernel
theorem dX4_readBand_44 : decode cX4_readBand 44 = .ok (.getfield 158, 3) := by decide +kernel
theorem dX4_readBand_47 : decode cX4_readBand 47 = .ok (.iload_n 1, 1) := by decide +kernel
theorem dX4_readBand_48 : decode cX4_readBand 48 = .ok (.aaload, 1) := by decide +kernel
theorem dX4_readBand_49 : decode cX4_readBand 49 = .ok (.iconst 0, 1) := by decide +kernel
theorem dX4_readBand_50 : decode cX4_readBand 50 = .ok (.aload_n 0, 1) := by decide +kernel
theorem dX4_readBand_51 : decode cX4_readBand 51 = .ok (.iload_n 2, 1) := by decide +kernel
theorem dX4_readBand_52 : decode cX4_readBand 52 = .ok (.sipush 9999, 3) := by decide +kernel
theorem dX4_readBand_55 : decode cX4_readBand 55 = .ok (.invokevirtual 135, 3) := by decide +kernel
theorem dX4_readBand_58 : decode cX4_readBand 58 = .ok (.iastore, 1) := by decide +kernel
theorem dX4_readBand_59 : decode cX4_readBand 59 = .ok (.aload_n 0, 1) := by decide +kernel
theorem dX4_readBand_60 : decode cX4_readBand 60 = .ok (.bipush 23, 2) := by decide +kernel
theorem dX4_readBand_62 : decode cX4_readBand 62 = .ok (.invokevirtual 132, 3) := by decide +kernel
theorem dX4_readBand_65 : decode cX4_readBand 65 = .ok (.aload_n 0, 1) := by decide +kernel
theorem dX4_readBand_66 : decode cX4_readBand 66 = .ok (.getfield 31, 3) := by decide +kernel
theorem dX4_readBand_69 : decode cX4_readBand 69 = .ok (.getfield 158, 3) := by decide +kernel
theorem dX4_readBand_72 : decode cX4_readBand 72 = .ok (.iload_n 1, 1) := by decide +kernel
theorem dX4_readBand_73 : decode cX4_readBand 73 = .ok (.aaload, 1) := by decide +kernel
theorem dX4_readBand_74 : decode cX4_readBand 74 = .ok (.iconst 1, 1) := by decide +kernel
theorem dX4_readBand_75 : decode cX4_readBand 75 = .ok (.aload_n 0, 1) := by decide +kernel
theorem dX4_readBand_76 : decode cX4_readBand 76 = .ok (.iconst 0, 1) := by decide +kernel
theorem dX4_readBand_77 : decode cX4_readBand 77 = .ok (.bipush 90, 2) := by decide +kernel
theorem dX4_readBand_79 : decode cX4_readBand 79 = .ok (.invokevirtual 135, 3) := by decide +kernel
theorem dX4_readBand_82 : decode cX4_readBand 82 = .ok (.iastore, 1) := by decide +kernel
theorem dX4_readBand_83 : decode cX4_readBand 83 = .ok (.aload_n 0, 1) := by decide +kernel
theorem dX4_readBand_84 : decode cX4_readBand 84 = .ok (.getfield 31, 3) := by decide +kernel
theorem dX4_readBand_87 : decode cX4_readBand 87 = .ok (.getfield 76, 3) := by decide +kernel
theorem dX4_readBand_90 : decode cX4_readBand 90 = .ok (.iconst 5, 1) := by decide +kernel
theorem dX4_readBand_91 : decode cX4_readBand 91 = .ok (.dup2, 1) := by decide +kernel
theorem dX4_readBand_92 : decode cX4_readBand 92 = .ok (.iaload, 1) := by decide +kernel
theorem dX4_readBand_93 : decode cX4_readBand 93 = .ok (.iconst 1, 1) := by decide +kernel
theorem dX4_readBand_94 : decode cX4_readBand 94 = .ok (.iadd, 1) := by decide +kernel
theorem dX4_readBand_95 : decode cX4_readBand 95 = .ok (.iastore, 1) := by decide +kernel
theorem dX4_readBand_96 : decode cX4_readBand 96 = .ok (.return_, 1) := by decide +kernel
theorem dX4_readRule_0 : decode cX4_readRule 0 = .ok (.iload_n 1, 1) := by decide +kernel
theorem dX4_readRule_1 : decode cX4_readRule 1 = .ok (.bipush 8, 2) := by decide +kernel
theorem dX4_readRule_3 : decode cX4_readRule 3 = .ok (.isub, 1) := by decide +kernel
theorem dX4_readRule_4 : decode cX4_readRule 4 = .ok (.istore_n 2, 1) := by decide +kernel
theorem dX4_readRule_5 : decode cX4_readRule 5 = .ok (.aload_n 0, 1) := by decide +kernel
theorem dX4_readRule_6 : decode cX4_readRule 6 = .ok (.dup, 1) := by decide +kernel
theorem dX4_readRule_7 : decode cX4_readRule 7 = .ok (.getfield 44, 3) := by decide +kernel
theorem dX4_readRule_10 : decode cX4_readRule 10 = .ok (.iconst 1, 1) := by decide +kernel
theorem dX4_readRule_11 : decode cX4_readRule 11 = .ok (.iload_n 1, 1) := by decide +kernel
theorem dX4_readRule_12 : decode cX4_readRule 12 = .ok (.ishl, 1) := by decide +kernel
theorem dX4_readRule_13 : decode cX4_readRule 13 = .ok (.ior, 1) := by decide +kernel
theorem dX4_readRule_14 : decode cX4_readRule 14 = .ok (.putfield 44, 3) := by decide +kernel
theorem dX4_readRule_17 : decode cX4_readRule 17 = .ok (.aload_n 0, 1) := by decide +kernel
theorem dX4_readRule_18 : decode cX4_readRule 18 = .ok (.getfield 31, 3) := by decide +kernel
theorem dX4_readRule_21 : decode cX4_readRule 21 = .ok (.getfield 76, 3) := by decide +kernel
theorem dX4_readRule_24 : decode cX4_readRule 24 = .ok (.bipush 6, 2) := by decide +kernel
theorem dX4_readRule_26 : decode cX4_readRule 26 = .ok (.iload_n 2, 1) := by decide +kernel
theorem dX4_readRule_27 : decode cX4_readRule 27 = .ok (.iadd, 1) := by decide +kernel
theorem dX4_readRule_28 : decode cX4_readRule 28 = .ok (.aload_n 0, 1) := by decide +kernel
theorem dX4_readRule_29 : decode cX4_readRule 29 = .ok (.getstatic 161, 3) := by decide +kernel
theorem dX4_readRule_32 : decode cX4_readRule 32 = .ok (.iload_n 2, 1) := by decide +kernel
theorem dX4_readRule_33 : decode cX4_readRule 33 = .ok (.iaload, 1) := by decide +kernel
theorem dX4_readRule_34 : decode cX4_readRule 34 = .ok (.getstatic 164, 3) := by decide +kernel
theorem dX4_readRule_37 : decode cX4_readRule 37 = .ok (.iload_n 2, 1) := by decide +kernel
theorem dX4_readRule_38 : decode cX4_readRule 38 = .ok (.iaload, 1) := by decide +kernel
theorem dX4_readRule_39 : decode cX4_readRule 39 = .ok (.invokevirtual 135, 3) := by decide +kernel
theorem dX4_readRule_42 : decode cX4_readRule 42 = .ok (.iastore, 1) := by decide +kernel
theorem dX4_readRule_43 : decode cX4_readRule 43 = .ok (.return_, 1) := by decide +kernel
theorem dX4_fail_0 : decode cX4_fail 0 = .ok (.aload_n 0, 1) := by decide +kernel
theorem dX4_fail_1 : decode cX4_fail 1 = .ok (.getfield 47, 3) := by decide +kernel
theorem dX4_fail_4 : decode cX4_fail 4 = .ok (.ifCond .ne 19, 3) := by decide +kernel
theorem dX4_fail_7 : decode cX4_fail 7 = .ok (.aload_n 0, 1) := by decide +kernel
theorem dX4_fail_8 : decode cX4_fail 8 = .ok (.bipush 8, 2) := by decide +kernel
theorem dX4_fail_10 : decode cX4_fail 10 = .ok (.aload_n 0, 1) := by decide +kernel
theorem dX4_fail_11 : decode cX4_fail 11 = .ok (.getfield 27, 3) := by decide +kernel
theorem dX4_fail_14 : decode cX4_fail 14 = .ok (.getfield 167, 3) := by decide +kernel
theorem dX4_fail_17 : decode cX4_fail 17 = .ok (.imul, 1) := by decide +kernel
theorem dX4_fail_18 : decode cX4_fail 18 = .ok (.iload_n 1, 1) := by decide +kernel
theorem dX4_fail_19 : decode cX4_fail 19 = .ok (.iadd, 1) := by decide +kernel
theorem dX4_fail_20 : decode cX4_fail 20 = .ok (.putfield 47, 3) := by decide +kernel
theorem dX4_fail_23 : decode cX4_fail 23 = .ok (.return_, 1) := by decide +kernel
theorem dX4_expect_0 : decode cX4_expect 0 = .ok (.aload_n 0, 1) := by decide +kernel
theorem dX4_expect_1 : decode cX4_expect 1 = .ok (.getfield 27, 3) := by decide +kernel
theorem dX4_expect_4 : decode cX4_expect 4 = .ok (.invokevirtual 54, 3) := by decide +kernel
theorem dX4_expect_7 : decode cX4_expect 7 = .ok (.aload_n 0, 1) := by decide +kernel
theorem dX4_expect_8 : decode cX4_expect 8 = .ok (.getfield 27, 3) := by decide +kernel
theorem dX4_expect_11 : decode cX4_expect 11 = .ok (.getfield 60, 3) := by decide +kernel
theorem dX4_expect_14 : decode cX4_expect 14 = .ok (.iload_n 1, 1) := by decide +kernel
theorem dX4_expect_15 : decode cX4_expect 15 = .ok (.if_icmp .eq 8, 3) := by decide +kernel
theorem dX4_expect_18 : decode cX4_expect 18 = .ok (.aload_n 0, 1) := by decide +kernel
theorem dX4_expect_19 : decode cX4_expect 19 = .ok (.iconst 1, 1) := by decide +kernel
theorem dX4_expect_20 : decode cX4_expect 20 = .ok (.invokevirtual 69, 3) := by decide +kernel
theorem dX4_expect_23 : decode cX4_expect 23 = .ok (.return_, 1) := by decide +kernel
theorem dX4_number_0 : decode cX4_number 0 = .ok (.aload_n 0, 1) := by decide +kernel
theorem dX4_number_1 : decode cX4_number 1 = .ok (.getfield 27, 3) := by decide +kernel
theorem dX4_number_4 : decode cX4_number 4 = .ok (.invokevirtual 54, 3) := by decide +kernel
theorem dX4_number_7 : decode cX4_number 7 = .ok (.aload_n 0, 1) := by decide +kernel
theorem dX4_number_8 : decode cX4_number 8 = .ok (.getfield 27, 3) := by decide +kernel
theorem dX4_number_11 : decode cX4_number 11 = .ok (.getfield 57, 3) := by decide +kernel
theorem dX4_number_14 : decode cX4_number 14 = .ok (.iconst 2, 1) := by decide +kernel
theorem dX4_number_15 : decode cX4_number 15 = .ok (.if_icmp .eq 11, 3) := by decide +kernel
theorem dX4_number_18 : decode cX4_number 18 = .ok (.aload_n 0, 1) := by decide +kernel
theorem dX4_number_19 : decode cX4_number 19 = .ok (.iconst 1, 1) := by decide +kernel
theorem dX4_number_20 : decode cX4_number 20 = .ok (.invokevirtual 69, 3) := by decide +kernel
theorem dX4_number_23 : decode cX4_number 23 = .ok (.goto 34, 3) := by decide +kernel
theorem dX4_number_26 : decode cX4_number 26 = .ok (.aload_n 0, 1) := by decide +kernel
theorem dX4_number_27 : decode cX4_number 27 = .ok (.getfield 27, 3) := by decide +kernel
theorem dX4_number_30 : decode cX4_number 30 = .ok (.getfield 151, 3) := by decide +kernel
theorem dX4_number_33 : decode cX4_number 33 = .ok (.iload_n 1, 1) := by decide +kernel
theorem dX4_number_34 : decode cX4_number 34 = .ok (.i2l, 1) := by decide +kernel
theorem dX4_number_35 : decode cX4_number 35 = .ok (.lcmp, 1) := by decide +kernel
theorem dX4_number_36 : decode cX4_number 36 = .ok (.ifCond .lt 16, 3) := by decide +kernel
theorem dX4_number_39 : decode cX4_number 39 = .ok (.aload_n 0, 1) := by decide +kernel
theorem dX4_number_40 : decode cX4_number 40 = .ok (.getfield 27, 3) := by decide +kernel
theorem dX4_number_43 : decode cX4_number 43 = .ok (.getfield 151, 3) := by decide +kernel
theorem dX4_number_46 : decode cX4_number 46 = .ok (.iload_n 2, 1) := by decide +kernel
theorem dX4_number_47 : decode cX4_number 47 = .ok (.i2l, 1) := by decide +kernel
theorem dX4_number_48 : decode cX4_number 48 = .ok (.lcmp, 1) := by decide +kernel
theorem dX4_number_49 : decode cX4_number 49 = .ok (.ifCond .le 8, 3) := by decide +kernel
theorem dX4_number_52 : decode cX4_number 52 = .ok (.aload_n 0, 1) := by decide +kernel
theorem dX4_number_53 : decode cX4_number 53 = .ok (.iconst 4, 1) := by decide +kernel
theorem dX4_number_54 : decode cX4_number 54 = .ok (.invokevirtual 69, 3) := by decide +kernel
theorem dX4_number_57 : decode cX4_number 57 = .ok (.aload_n 0, 1) := by decide +kernel
theorem dX4_number_58 : decode cX4_number 58 = .ok (.getfield 47, 3) := by decide +kernel
theorem dX4_number_61 : decode cX4_number 61 = .ok (.ifCond .ne 14, 3) := by decide +kernel
theorem dX4_number_64 : decode cX4_number 64 = .ok (.aload_n 0, 1) := by decide +kernel
theorem dX4_number_65 : decode cX4_number 65 = .ok (.getfield 27, 3) := by decide +kernel
theorem dX4_number_68 : decode cX4_number 68 = .ok (.getfield 151, 3) := by decide +kernel
theorem dX4_number_71 : decode cX4_number 71 = .ok (.l2i, 1) := by decide +kernel
theorem dX4_number_72 : decode cX4_number 72 = .ok (.goto 4, 3) := by decide +kernel
theorem dX4_number_75 : decode cX4_number 75 = .ok (.iload_n 1, 1) := by decide +kernel
theorem dX4_number_76 : decode cX4_number 76 = .ok (.ireturn, 1) := by decide +kernel
theorem dX4_giveName_0 : decode cX4_giveName 0 = .ok (.aload_n 0, 1) := by decide +kernel
theorem dX4_giveName_1 : decode cX4_giveName 1 = .ok (.getfield 27, 3) := by decide +kernel
theorem dX4_giveName_4 : decode cX4_giveName 4 = .ok (.invokevirtual 54, 3) := by decide +kernel
theorem dX4_giveName_7 : decode cX4_giveName 7 = .ok (.aload_n 0, 1) := by decide +kernel
theorem dX4_giveName_8 : decode cX4_giveName 8 = .ok (.getfield 27, 3) := by decide +kernel
theorem dX4_giveName_11 : decode cX4_giveName 11 = .ok (.invokevirtual 170, 3) := by decide +kernel
theorem dX4_giveName_14 : decode cX4_giveName 14 = .ok (.ifCond .ne 11, 3) := by decide +kernel
theorem dX4_giveName_17 : decode cX4_giveName 17 = .ok (.aload_n 0, 1) := by decide +kernel
theorem dX4_giveName_18 : decode cX4_giveName 18 = .ok (.iconst 1, 1) := by decide +kernel
theorem dX4_giveName_19 : decode cX4_giveName 19 = .ok (.invokevirtual 69, 3) := by decide +kernel
theorem dX4_giveName_22 : decode cX4_giveName 22 = .ok (.goto 89, 3) := by decide +kernel
theorem dX4_giveName_25 : decode cX4_giveName 25 = .ok (.aload_n 0, 1) := by decide +kernel
theorem dX4_giveName_26 : decode cX4_giveName 26 = .ok (.aload_n 0, 1) := by decide +kernel
theorem dX4_giveName_27 : decode cX4_giveName 27 = .ok (.getfield 27, 3) := by decide +kernel
theorem dX4_giveName_30 : decode cX4_giveName 30 = .ok (.getfield 151, 3) := by decide +kernel
theorem dX4_giveName_33 : decode cX4_giveName 33 = .ok (.invokevirtual 174, 3) := by decide +kernel
theorem dX4_giveName_36 : decode cX4_giveName 36 = .ok (.iconst (-1), 1) := by decide +kernel
theorem dX4_giveName_37 : decode cX4_giveName 37 = .ok (.if_icmp .eq 11, 3) := by decide +kernel
theorem dX4_giveName_40 : decode cX4_giveName 40 = .ok (.aload_n 0, 1) := by decide +kernel
theorem dX4_giveName_41 : decode cX4_giveName 41 = .ok (.iconst 2, 1) := by decide +kernel
theorem dX4_giveName_42 : decode cX4_giveName 42 = .ok (.invokevirtual 69, 3) := by decide +kernel
theorem dX4_giveName_45 : decode cX4_giveName 45 = .ok (.goto 66, 3) := by decide +kernel
theorem dX4_giveName_48 : decode cX4_giveName 48 = .ok (.aload_n 0, 1) := by decide +kernel
theorem dX4_giveName_49 : decode cX4_giveName 49 = .ok (.getfield 40, 3) := by decide +kernel
theorem dX4_giveName_52 : decode cX4_giveName 52 = .ok (.bipush 26, 2) := by decide +kernel
theorem dX4_giveName_54 : decode cX4_giveName 54 = .ok (.if_icmp .ge 57, 3) := by decide +kernel
theorem dX4_giveName_57 : decode cX4_giveName 57 = .ok (.aload_n 0, 1) := by decide +kernel
theorem dX4_giveName_58 : decode cX4_giveName 58 = .ok (.getfield 9, 3) := by decide +kernel
theorem dX4_giveName_61 : decode cX4_giveName 61 = .ok (.aload_n 0, 1) := by decide +kernel
theorem dX4_giveName_62 : decode cX4_giveName 62 = .ok (.getfield 40, 3) := by decide +kernel
theorem dX4_giveName_65 : decode cX4_giveName 65 = .ok (.aload_n 0, 1) := by decide +kernel
theorem dX4_giveName_66 : decode cX4_giveName 66 = .ok (.getfield 27, 3) := by decide +kernel
theorem dX4_giveName_69 : decode cX4_giveName 69 = .ok (.getfield 151, 3) := by decide +kernel
theorem dX4_giveName_72 : decode cX4_giveName 72 = .ok (.lastore, 1) := by decide +kernel
theorem dX4_giveName_73 : decode cX4_giveName 73 = .ok (.aload_n 0, 1) := by decide +kernel
theorem dX4_giveName_74 : decode cX4_giveName 74 = .ok (.getfield 15, 3) := by decide +kernel
theorem dX4_giveName_77 : decode cX4_giveName 77 = .ok (.aload_n 0, 1) := by decide +kernel
theorem dX4_giveName_78 : decode cX4_giveName 78 = .ok (.getfield 40, 3) := by decide +kernel
theorem dX4_giveName_81 : decode cX4_giveName 81 = .ok (.iload_n 1, 1) := by decide +kernel
theorem dX4_giveName_82 : decode cX4_giveName 82 = .ok (.iastore, 1) := by decide +kernel
theorem dX4_giveName_83 : decode cX4_giveName 83 = .ok (.aload_n 0, 1) := by decide +kernel
theorem dX4_giveName_84 : decode cX4_giveName 84 = .ok (.getfield 19, 3) := by decide +kernel
theorem dX4_giveName_87 : decode cX4_giveName 87 = .ok (.aload_n 0, 1) := by decide +kernel
theorem dX4_giveName_88 : decode cX4_giveName 88 = .ok (.getfield 40, 3) := by decide +kernel
theorem dX4_giveName_91 : decode cX4_giveName 91 = .ok (.aload_n 0, 1) := by decide +kernel
theorem dX4_giveName_92 : decode cX4_giveName 92 = .ok (.getfield 31, 3) := by decide +kernel
theorem dX4_giveName_95 : decode cX4_giveName 95 = .ok (.getfield 76, 3) := by decide +kernel
theorem dX4_giveName_98 : decode cX4_giveName 98 = .ok (.iload_n 1, 1) := by decide +kernel
theorem dX4_giveName_99 : decode cX4_giveName 99 = .ok (.iaload, 1) := by decide +kernel
theorem dX4_giveName_100 : decode cX4_giveName 100 = .ok (.iastore, 1) := by decide +kernel
theorem dX4_giveName_101 : decode cX4_giveName 101 = .ok (.aload_n 0, 1) := by decide +kernel
theorem dX4_giveName_102 : decode cX4_giveName 102 = .ok (.dup, 1) := by decide +kernel
theorem dX4_giveName_103 : decode cX4_giveName 103 = .ok (.getfield 40, 3) := by decide +kernel
theorem dX4_giveName_106 : decode cX4_giveName 106 = .ok (.iconst 1, 1) := by decide +kernel
theorem dX4_giveName_107 : decode cX4_giveName 107 = .ok (.iadd, 1) := by decide +kernel
theorem dX4_giveName_108 : decode cX4_giveName 108 = .ok (.putfield 40, 3) := by decide +kernel
theorem dX4_giveName_111 : decode cX4_giveName 111 = .ok (.return_, 1) := by decide +kernel
theorem dX4_toldOf_0 : decode cX4_toldOf 0 = .ok (.aload_n 0, 1) := by decide +kernel
theorem dX4_toldOf_1 : decode cX4_toldOf 1 = .ok (.getfield 27, 3) := by decide +kernel
theorem dX4_toldOf_4 : decode cX4_toldOf 4 = .ok (.invokevirtual 54, 3) := by decide +kernel
theorem dX4_toldOf_7 : decode cX4_toldOf 7 = .ok (.aload_n 0, 1) := by decide +kernel
theorem dX4_toldOf_8 : decode cX4_toldOf 8 = .ok (.aload_n 0, 1) := by decide +kernel
theorem dX4_toldOf_9 : decode cX4_toldOf 9 = .ok (.getfield 27, 3) := by decide +kernel
theorem dX4_toldOf_12 : decode cX4_toldOf 12 = .ok (.getfield 151, 3) := by decide +kernel
theorem dX4_toldOf_15 : decode cX4_toldOf 15 = .ok (.invokevirtual 174, 3) := by decide +kernel
theorem dX4_toldOf_18 : decode cX4_toldOf 18 = .ok (.istore_n 2, 1) := by decide +kernel
theorem dX4_toldOf_19 : decode cX4_toldOf 19 = .ok (.aload_n 0, 1) := by decide +kernel
theorem dX4_toldOf_20 : decode cX4_toldOf 20 = .ok (.getfield 27, 3) := by decide +kernel
theorem dX4_toldOf_23 : decode cX4_toldOf 23 = .ok (.invokevirtual 170, 3) := by decide +kernel
theorem dX4_toldOf_26 : decode cX4_toldOf 26 = .ok (.ifCond .ne 11, 3) := by decide +kernel
theorem dX4_toldOf_29 : decode cX4_toldOf 29 = .ok (.aload_n 0, 1) := by decide +kernel
theorem dX4_toldOf_30 : decode cX4_toldOf 30 = .ok (.iconst 1, 1) := by decide +kernel
theorem dX4_toldOf_31 : decode cX4_toldOf 31 = .ok (.invokevirtual 69, 3) := by decide +kernel
theorem dX4_toldOf_34 : decode cX4_toldOf 34 = .ok (.goto 23, 3) := by decide +kernel
theorem dX4_toldOf_37 : decode cX4_toldOf 37 = .ok (.iload_n 2, 1) := by decide +kernel
theorem dX4_toldOf_38 : decode cX4_toldOf 38 = .ok (.iconst (-1), 1) := by decide +kernel
theorem dX4_toldOf_39 : decode cX4_toldOf 39 = .ok (.if_icmp .eq 13, 3) := by decide +kernel
theorem dX4_toldOf_42 : decode cX4_toldOf 42 = .ok (.aload_n 0, 1) := by decide +kernel
theorem dX4_toldOf_43 : decode cX4_toldOf 43 = .ok (.getfield 15, 3) := by decide +kernel
theorem dX4_toldOf_46 : decode cX4_toldOf 46 = .ok (.iload_n 2, 1) := by decide +kernel
theorem dX4_toldOf_47 : decode cX4_toldOf 47 = .ok (.iaload, 1) := by decide +kernel
theorem dX4_toldOf_48 : decode cX4_toldOf 48 = .ok (.iload_n 1, 1) := by decide +kernel
theorem dX4_toldOf_49 : decode cX4_toldOf 49 = .ok (.if_icmp .eq 8, 3) := by decide +kernel
theorem dX4_toldOf_52 : decode cX4_toldOf 52 = .ok (.aload_n 0, 1) := by decide +kernel
theorem dX4_toldOf_53 : decode cX4_toldOf 53 = .ok (.iconst 3, 1) := by decide +kernel
theorem dX4_toldOf_54 : decode cX4_toldOf 54 = .ok (.invokevirtual 69, 3) := by decide +kernel
theorem dX4_toldOf_57 : decode cX4_toldOf 57 = .ok (.aload_n 0, 1) := by decide +kernel
theorem dX4_toldOf_58 : decode cX4_toldOf 58 = .ok (.getfield 47, 3) := by decide +kernel
theorem dX4_toldOf_61 : decode cX4_toldOf 61 = .ok (.ifCond .ne 17, 3) := by decide +kernel
theorem dX4_toldOf_64 : decode cX4_toldOf 64 = .ok (.iload_n 2, 1) := by decide +kernel
theorem dX4_toldOf_65 : decode cX4_toldOf 65 = .ok (.iconst (-1), 1) := by decide +kernel
theorem dX4_toldOf_66 : decode cX4_toldOf 66 = .ok (.if_icmp .eq 12, 3) := by decide +kernel
theorem dX4_toldOf_69 : decode cX4_toldOf 69 = .ok (.aload_n 0, 1) := by decide +kernel
theorem dX4_toldOf_70 : decode cX4_toldOf 70 = .ok (.getfield 19, 3) := by decide +kernel
theorem dX4_toldOf_73 : decode cX4_toldOf 73 = .ok (.iload_n 2, 1) := by decide +kernel
theorem dX4_toldOf_74 : decode cX4_toldOf 74 = .ok (.iaload, 1) := by decide +kernel
theorem dX4_toldOf_75 : decode cX4_toldOf 75 = .ok (.goto 4, 3) := by decide +kernel
theorem dX4_toldOf_78 : decode cX4_toldOf 78 = .ok (.iconst 0, 1) := by decide +kernel
theorem dX4_toldOf_79 : decode cX4_toldOf 79 = .ok (.ireturn, 1) := by decide +kernel
theorem dX4_find_0 : decode cX4_find 0 = .ok (.iconst 0, 1) := by decide +kernel
theorem dX4_find_1 : decode cX4_find 1 = .ok (.istore_n 3, 1) := by decide +kernel
theorem dX4_find_2 : decode cX4_find 2 = .ok (.iload_n 3, 1) := by decide +kernel
theorem dX4_find_3 : decode cX4_find 3 = .ok (.aload_n 0, 1) := by decide +kernel
theorem dX4_find_4 : decode cX4_find 4 = .ok (.getfield 40, 3) := by decide +kernel
theorem dX4_find_7 : decode cX4_find 7 = .ok (.if_icmp .ge 22, 3) := by decide +kernel
theorem dX4_find_10 : decode cX4_find 10 = .ok (.aload_n 0, 1) := by decide +kernel
theorem dX4_find_11 : decode cX4_find 11 = .ok (.getfield 9, 3) := by decide +kernel
theorem dX4_find_14 : decode cX4_find 14 = .ok (.iload_n 3, 1) := by decide +kernel
theorem dX4_find_15 : decode cX4_find 15 = .ok (.laload, 1) := by decide +kernel
theorem dX4_find_16 : decode cX4_find 16 = .ok (.lload_n 1, 1) := by decide +kernel
theorem dX4_find_17 : decode cX4_find 17 = .ok (.lcmp, 1) := by decide +kernel
theorem dX4_find_18 : decode cX4_find 18 = .ok (.ifCond .ne 5, 3) := by decide +kernel
theorem dX4_find_21 : decode cX4_find 21 = .ok (.iload_n 3, 1) := by decide +kernel
theorem dX4_find_22 : decode cX4_find 22 = .ok (.ireturn, 1) := by decide +kernel
theorem dX4_find_23 : decode cX4_find 23 = .ok (.iinc 3 1, 3) := by decide +kernel
theorem dX4_find_26 : decode cX4_find 26 = .ok (.goto (-24), 3) := by decide +kernel
theorem dX4_find_29 : decode cX4_find 29 = .ok (.iconst (-1), 1) := by decide +kernel
theorem dX4_find_30 : decode cX4_find 30 = .ok (.ireturn, 1) := by decide +kernel
theorem dX5_init_0 : decode cX5_init 0 = .ok (.aload_n 0, 1) := by decide +kernel
theorem dX5_init_1 : decode cX5_init 1 = .ok (.invokespecial 3, 3) := by decide +kernel
theorem dX5_init_4 : decode cX5_init 4 = .ok (.aload_n 0, 1) := by decide +kernel
theorem dX5_init_5 : decode cX5_init 5 = .ok (.bipush 11, 2) := by decide +kernel
theorem dX5_init_7 : decode cX5_init 7 = .ok (.newarray .int, 2) := by decide +kernel
theorem dX5_init_9 : decode cX5_init 9 = .ok (.putfield 9, 3) := by decide +kernel
theorem dX5_init_12 : decode cX5_init 12 = .ok (.aload_n 0, 1) := by decide +kernel
theorem dX5_init_13 : decode cX5_init 13 = .ok (.bipush 11, 2) := by decide +kernel
theorem dX5_init_15 : decode cX5_init 15 = .ok (.newarray .int, 2) := by decide +kernel
theorem dX5_init_17 : decode cX5_init 17 = .ok (.putfield 15, 3) := by decide +kernel
theorem dX5_init_20 : decode cX5_init 20 = .ok (.aload_n 0, 1) := by decide +kernel
theorem dX5_init_21 : decode cX5_init 21 = .ok (.aload_n 1, 1) := by decide +kernel
theorem dX5_init_22 : decode cX5_init 22 = .ok (.putfield 18, 3) := by decide +kernel
theorem dX5_init_25 : decode cX5_init 25 = .ok (.aload_n 0, 1) := by decide +kernel
theorem dX5_init_26 : decode cX5_init 26 = .ok (.aload_n 2, 1) := by decide +kernel
theorem dX5_init_27 : decode cX5_init 27 = .ok (.putfield 22, 3) := by decide +kernel
theorem dX5_init_30 : decode cX5_init 30 = .ok (.return_, 1) := by decide +kernel
theorem dX5_find_0 : decode cX5_find 0 = .ok (.aload_n 0, 1) := by decide +kernel
theorem dX5_find_1 : decode cX5_find 1 = .ok (.iconst 0, 1) := by decide +kernel
theorem dX5_find_2 : decode cX5_find 2 = .ok (.putfield 26, 3) := by decide +kernel
theorem dX5_find_5 : decode cX5_find 5 = .ok (.iconst 0, 1) := by decide +kernel
theorem dX5_find_6 : decode cX5_find 6 = .ok (.istore 4, 2) := by decide +kernel
theorem dX5_find_8 : decode cX5_find 8 = .ok (.iload 4, 2) := by decide +kernel
theorem dX5_find_10 : decode cX5_find 10 = .ok (.iload_n 3, 1) := by decide +kernel
theorem dX5_find_11 : decode cX5_find 11 = .ok (.if_icmp .ge 115, 3) := by decide +kernel
theorem dX5_find_14 : decode cX5_find 14 = .ok (.iload 4, 2) := by decide +kernel
theorem dX5_find_16 : decode cX5_find 16 = .ok (.aload_n 2, 1) := by decide +kernel
theorem dX5_find_17 : decode cX5_find 17 = .ok (.arraylength, 1) := by decide +kernel
theorem dX5_find_18 : decode cX5_find 18 = .ok (.if_icmp .ge 108, 3) := by decide +kernel
theorem dX5_find_21 : decode cX5_find 21 = .ok (.aload_n 0, 1) := by decide +kernel
theorem dX5_find_22 : decode cX5_find 22 = .ok (.getfield 26, 3) := by decide +kernel
theorem dX5_find_25 : decode cX5_find 25 = .ok (.bipush 11, 2) := by decide +kernel
theorem dX5_find_27 : decode cX5_find 27 = .ok (.if_icmp .ge 99, 3) := by decide +kernel
theorem dX5_find_30 : decode cX5_find 30 = .ok (.aload_n 0, 1) := by decide +kernel
theorem dX5_find_31 : decode cX5_find 31 = .ok (.getfield 22, 3) := by decide +kernel
theorem dX5_find_34 : decode cX5_find 34 = .ok (.aload_n 2, 1) := by decide +kernel
theorem dX5_find_35 : decode cX5_find 35 = .ok (.iload 4, 2) := by decide +kernel
theorem dX5_find_37 : decode cX5_find 37 = .ok (.laload, 1) := by decide +kernel
theorem dX5_find_38 : decode cX5_find 38 = .ok (.invokevirtual 30, 3) := by decide +kernel
theorem dX5_find_41 : decode cX5_find 41 = .ok (.lstore 5, 2) := by decide +kernel
theorem dX5_find_43 : decode cX5_find 43 = .ok (.aload_n 0, 1) := by decide +kernel
theorem dX5_find_44 : decode cX5_find 44 = .ok (.getfield 9, 3) := by decide +kernel
theorem dX5_find_47 : decode cX5_find 47 = .ok (.aload_n 0, 1) := by decide +kernel
theorem dX5_find_48 : decode cX5_find 48 = .ok (.getfield 26, 3) := by decide +kernel
theorem dX5_find_51 : decode cX5_find 51 = .ok (.aload_n 0, 1) := by decide +kernel
theorem dX5_find_52 : decode cX5_find 52 = .ok (.iload_n 1, 1) := by decide +kernel
theorem dX5_find_53 : decode cX5_find 53 = .ok (.aload_n 2, 1) := by decide +kernel
theorem dX5_find_54 : decode cX5_find 54 = .ok (.iload 4, 2) := by decide +kernel
theorem dX5_find_56 : decode cX5_find 56 = .ok (.laload, 1) := by decide +kernel
theorem dX5_find_57 : decode cX5_find 57 = .ok (.lload 5, 2) := by decide +kernel
theorem dX5_find_59 : decode cX5_find 59 = .ok (.lsub, 1) := by decide +kernel
theorem dX5_find_60 : decode cX5_find 60 = .ok (.invokevirtual 36, 3) := by decide +kernel
theorem dX5_find_63 : decode cX5_find 63 = .ok (.iconst 1, 1) := by decide +kernel
theorem dX5_find_64 : decode cX5_find 64 = .ok (.iadd, 1) := by decide +kernel
theorem dX5_find_65 : decode cX5_find 65 = .ok (.iastore, 1) := by decide +kernel
theorem dX5_find_66 : decode cX5_find 66 = .ok (.aload_n 0, 1) := by decide +kernel
theorem dX5_find_67 : decode cX5_find 67 = .ok (.getfield 15, 3) := by decide +kernel
theorem dX5_find_70 : decode cX5_find 70 = .ok (.aload_n 0, 1) := by decide +kernel
theorem dX5_find_71 : decode cX5_find 71 = .ok (.getfield 26, 3) := by decide +kernel
theorem dX5_find_74 : decode cX5_find 74 = .ok (.aload_n 0, 1) := by decide +kernel
theorem dX5_find_75 : decode cX5_find 75 = .ok (.iload_n 1, 1) := by decide +kernel
theorem dX5_find_76 : decode cX5_find 76 = .ok (.aload_n 2, 1) := by decide +kernel
theorem dX5_find_77 : decode cX5_find 77 = .ok (.iload 4, 2) := by decide +kernel
theorem dX5_find_79 : decode cX5_find 79 = .ok (.laload, 1) := by decide +kernel
theorem dX5_find_80 : decode cX5_find 80 = .ok (.lload 5, 2) := by decide +kernel
theorem dX5_find_82 : decode cX5_find 82 = .ok (.ladd, 1) := by decide +kernel
theorem dX5_find_83 : decode cX5_find 83 = .ok (.lconst 1, 1) := by decide +kernel
theorem dX5_find_84 : decode cX5_find 84 = .ok (.ladd, 1) := by decide +kernel
theorem dX5_find_85 : decode cX5_find 85 = .ok (.invokevirtual 36, 3) := by decide +kernel
theorem dX5_find_88 : decode cX5_find 88 = .ok (.iastore, 1) := by decide +kernel
theorem dX5_find_89 : decode cX5_find 89 = .ok (.aload_n 0, 1) := by decide +kernel
theorem dX5_find_90 : decode cX5_find 90 = .ok (.getfield 9, 3) := by decide +kernel
theorem dX5_find_93 : decode cX5_find 93 = .ok (.aload_n 0, 1) := by decide +kernel
theorem dX5_find_94 : decode cX5_find 94 = .ok (.getfield 26, 3) := by decide +kernel
theorem dX5_find_97 : decode cX5_find 97 = .ok (.iaload, 1) := by decide +kernel
theorem dX5_find_98 : decode cX5_find 98 = .ok (.aload_n 0, 1) := by decide +kernel
theorem dX5_find_99 : decode cX5_find 99 = .ok (.getfield 15, 3) := by decide +kernel
theorem dX5_find_102 : decode cX5_find 102 = .ok (.aload_n 0, 1) := by decide +kernel
theorem dX5_find_103 : decode cX5_find 103 = .ok (.getfield 26, 3) := by decide +kernel
theorem dX5_find_106 : decode cX5_find 106 = .ok (.iaload, 1) := by decide +kernel
theorem dX5_find_107 : decode cX5_find 107 = .ok (.if_icmp .gt 13, 3) := by decide +kernel
theorem dX5_find_110 : decode cX5_find 110 = .ok (.aload_n 0, 1) := by decide +kernel
theorem dX5_find_111 : decode cX5_find 111 = .ok (.dup, 1) := by decide +kernel
theorem dX5_find_112 : decode cX5_find 112 = .ok (.getfield 26, 3) := by decide +kernel
theorem dX5_find_115 : decode cX5_find 115 = .ok (.iconst 1, 1) := by decide +kernel
theorem dX5_find_116 : decode cX5_find 116 = .ok (.iadd, 1) := by decide +kernel
theorem dX5_find_117 : decode cX5_find 117 = .ok (.putfield 26, 3) := by decide +kernel
theorem dX5_find_120 : decode cX5_find 120 = .ok (.iinc 4 1, 3) := by decide +kernel
theorem dX5_find_123 : decode cX5_find 123 = .ok (.goto (-115), 3) := by decide +kernel
theorem dX5_find_126 : decode cX5_find 126 = .ok (.return_, 1) := by decide +kernel
theorem dX5_pricesBelow_0 : decode cX5_pricesBelow 0 = .ok (.aload_n 0, 1) := by decide +kernel
theorem dX5_pricesBelow_1 : decode cX5_pricesBelow 1 = .ok (.getfield 22, 3) := by decide +kernel
theorem dX5_pricesBelow_4 : decode cX5_pricesBelow 4 = .ok (.getfield 40, 3) := by decide +kernel
theorem dX5_pricesBelow_7 : decode cX5_pricesBelow 7 = .ok (.iload_n 1, 1) := by decide +kernel
theorem dX5_pricesBelow_8 : decode cX5_pricesBelow 8 = .ok (.laload, 1) := by decide +kernel
theorem dX5_pricesBelow_9 : decode cX5_pricesBelow 9 = .ok (.aload_n 0, 1) := by decide +kernel
theorem dX5_pricesBelow_10 : decode cX5_pricesBelow 10 = .ok (.getfield 22, 3) := by decide +kernel
theorem dX5_pricesBelow_13 : decode cX5_pricesBelow 13 = .ok (.iload_n 1, 1) := by decide +kernel
theorem dX5_pricesBelow_14 : decode cX5_pricesBelow 14 = .ok (.aload_n 0, 1) := by decide +kernel
theorem dX5_pricesBelow_15 : decode cX5_pricesBelow 15 = .ok (.getfield 18, 3) := by decide +kernel
theorem dX5_pricesBelow_18 : decode cX5_pricesBelow 18 = .ok (.getfield 44, 3) := by decide +kernel
theorem dX5_pricesBelow_21 : decode cX5_pricesBelow 21 = .ok (.iload_n 1, 1) := by decide +kernel
theorem dX5_pricesBelow_22 : decode cX5_pricesBelow 22 = .ok (.aaload, 1) := by decide +kernel
theorem dX5_pricesBelow_23 : decode cX5_pricesBelow 23 = .ok (.iconst 4, 1) := by decide +kernel
theorem dX5_pricesBelow_24 : decode cX5_pricesBelow 24 = .ok (.iaload, 1) := by decide +kernel
theorem dX5_pricesBelow_25 : decode cX5_pricesBelow 25 = .ok (.invokevirtual 50, 3) := by decide +kernel
theorem dX5_pricesBelow_28 : decode cX5_pricesBelow 28 = .ok (.lsub, 1) := by decide +kernel
theorem dX5_pricesBelow_29 : decode cX5_pricesBelow 29 = .ok (.lstore 4, 2) := by decide +kernel
theorem dX5_pricesBelow_31 : decode cX5_pricesBelow 31 = .ok (.iconst 0, 1) := by decide +kernel
theorem dX5_pricesBelow_32 : decode cX5_pricesBelow 32 = .ok (.istore 6, 2) := by decide +kernel
theorem dX5_pricesBelow_34 : decode cX5_pricesBelow 34 = .ok (.sipush 10000, 3) := by decide +kernel
theorem dX5_pricesBelow_37 : decode cX5_pricesBelow 37 = .ok (.istore 7, 2) := by decide +kernel
theorem dX5_pricesBelow_39 : decode cX5_pricesBelow 39 = .ok (.iconst 0, 1) := by decide +kernel
theorem dX5_pricesBelow_40 : decode cX5_pricesBelow 40 = .ok (.istore 8, 2) := by decide +kernel
theorem dX5_pricesBelow_42 : decode cX5_pricesBelow 42 = .ok (.iload 8, 2) := by decide +kernel
theorem dX5_pricesBelow_44 : decode cX5_pricesBelow 44 = .ok (.sipush 9999, 3) := by decide +kernel
theorem dX5_pricesBelow_47 : decode cX5_pricesBelow 47 = .ok (.if_icmp .ge 56, 3) := by decide +kernel
theorem dX5_pricesBelow_50 : decode cX5_pricesBelow 50 = .ok (.iload 7, 2) := by decide +kernel
theorem dX5_pricesBelow_52 : decode cX5_pricesBelow 52 = .ok (.iload 6, 2) := by decide +kernel
theorem dX5_pricesBelow_54 : decode cX5_pricesBelow 54 = .ok (.isub, 1) := by decide +kernel
theorem dX5_pricesBelow_55 : decode cX5_pricesBelow 55 = .ok (.iconst 1, 1) := by decide +kernel
theorem dX5_pricesBelow_56 : decode cX5_pricesBelow 56 = .ok (.if_icmp .le 47, 3) := by decide +kernel
theorem dX5_pricesBelow_59 : decode cX5_pricesBelow 59 = .ok (.iload 6, 2) := by decide +kernel
theorem dX5_pricesBelow_61 : decode cX5_pricesBelow 61 = .ok (.iload 7, 2) := by decide +kernel
theorem dX5_pricesBelow_63 : decode cX5_pricesBelow 63 = .ok (.iadd, 1) := by decide +kernel
theorem dX5_pricesBelow_64 : decode cX5_pricesBelow 64 = .ok (.iconst 2, 1) := by decide +kernel
theorem dX5_pricesBelow_65 : decode cX5_pricesBelow 65 = .ok (.idiv, 1) := by decide +kernel
theorem dX5_pricesBelow_66 : decode cX5_pricesBelow 66 = .ok (.istore 9, 2) := by decide +kernel
theorem dX5_pricesBelow_68 : decode cX5_pricesBelow 68 = .ok (.aload_n 0, 1) := by decide +kernel
theorem dX5_pricesBelow_69 : decode cX5_pricesBelow 69 = .ok (.getfield 22, 3) := by decide +kernel
theorem dX5_pricesBelow_72 : decode cX5_pricesBelow 72 = .ok (.iload_n 1, 1) := by decide +kernel
theorem dX5_pricesBelow_73 : decode cX5_pricesBelow 73 = .ok (.iload 9, 2) := by decide +kernel
theorem dX5_pricesBelow_75 : decode cX5_pricesBelow 75 = .ok (.invokevirtual 50, 3) := by decide +kernel
theorem dX5_pricesBelow_78 : decode cX5_pricesBelow 78 = .ok (.lload 4, 2) := by decide +kernel
theorem dX5_pricesBelow_80 : decode cX5_pricesBelow 80 = .ok (.ladd, 1) := by decide +kernel
theorem dX5_pricesBelow_81 : decode cX5_pricesBelow 81 = .ok (.lload_n 2, 1) := by decide +kernel
theorem dX5_pricesBelow_82 : decode cX5_pricesBelow 82 = .ok (.lcmp, 1) := by decide +kernel
theorem dX5_pricesBelow_83 : decode cX5_pricesBelow 83 = .ok (.ifCond .ge 10, 3) := by decide +kernel
theorem dX5_pricesBelow_86 : decode cX5_pricesBelow 86 = .ok (.iload 9, 2) := by decide +kernel
theorem dX5_pricesBelow_88 : decode cX5_pricesBelow 88 = .ok (.istore 6, 2) := by decide +kernel
theorem dX5_pricesBelow_90 : decode cX5_pricesBelow 90 = .ok (.goto 7, 3) := by decide +kernel
theorem dX5_pricesBelow_93 : decode cX5_pricesBelow 93 = .ok (.iload 9, 2) := by decide +kernel
theorem dX5_pricesBelow_95 : decode cX5_pricesBelow 95 = .ok (.istore 7, 2) := by decide +kernel
theorem dX5_pricesBelow_97 : decode cX5_pricesBelow 97 = .ok (.iinc 8 1, 3) := by decide +kernel
theorem dX5_pricesBelow_100 : decode cX5_pricesBelow 100 = .ok (.goto (-58), 3) := by decide +kernel
theorem dX5_pricesBelow_103 : decode cX5_pricesBelow 103 = .ok (.iload 6, 2) := by decide +kernel
theorem dX5_pricesBelow_105 : decode cX5_pricesBelow 105 = .ok (.ireturn, 1) := by decide +kernel
theorem dX5_size_0 : decode cX5_size 0 = .ok (.iconst 0, 1) := by decide +kernel
theorem dX5_size_1 : decode cX5_size 1 = .ok (.istore_n 1, 1) := by decide +kernel
theorem dX5_size_2 : decode cX5_size 2 = .ok (.iconst 0, 1) := by decide +kernel
theorem dX5_size_3 : decode cX5_size 3 = .ok (.istore_n 2, 1) := by decide +kernel
theorem dX5_size_4 : decode cX5_size 4 = .ok (.iconst 0, 1) := by decide +kernel
theorem dX5_size_5 : decode cX5_size 5 = .ok (.istore_n 3, 1) := by decide +kernel
theorem dX5_size_6 : decode cX5_size 6 = .ok (.iload_n 3, 1) := by decide +kernel
theorem dX5_size_7 : decode cX5_size 7 = .ok (.aload_n 0, 1) := by decide +kernel
theorem dX5_size_8 : decode cX5_size 8 = .ok (.getfield 26, 3) := by decide +kernel
theorem dX5_size_11 : decode cX5_size 11 = .ok (.if_icmp .ge 57, 3) := by decide +kernel
theorem dX5_size_14 : decode cX5_size 14 = .ok (.aload_n 0, 1) := by decide +kernel
theorem dX5_size_15 : decode cX5_size 15 = .ok (.iload_n 2, 1) := by decide +kernel
theorem dX5_size_16 : decode cX5_size 16 = .ok (.invokevirtual 54, 3) := by decide +kernel
theorem dX5_size_19 : decode cX5_size 19 = .ok (.istore 4, 2) := by decide +kernel
theorem dX5_size_21 : decode cX5_size 21 = .ok (.iload 4, 2) := by decide +kernel
theorem dX5_size_23 : decode cX5_size 23 = .ok (.iconst (-1), 1) := by decide +kernel
theorem dX5_size_24 : decode cX5_size 24 = .ok (.if_icmp .ne 6, 3) := by decide +kernel
theorem dX5_size_27 : decode cX5_size 27 = .ok (.goto 41, 3) := by decide +kernel
theorem dX5_size_30 : decode cX5_size 30 = .ok (.iload_n 1, 1) := by decide +kernel
theorem dX5_size_31 : decode cX5_size 31 = .ok (.aload_n 0, 1) := by decide +kernel
theorem dX5_size_32 : decode cX5_size 32 = .ok (.getfield 15, 3) := by decide +kernel
theorem dX5_size_35 : decode cX5_size 35 = .ok (.iload 4, 2) := by decide +kernel
theorem dX5_size_37 : decode cX5_size 37 = .ok (.iaload, 1) := by decide +kernel
theorem dX5_size_38 : decode cX5_size 38 = .ok (.aload_n 0, 1) := by decide +kernel
theorem dX5_size_39 : decode cX5_size 39 = .ok (.getfield 9, 3) := by decide +kernel
theorem dX5_size_42 : decode cX5_size 42 = .ok (.iload 4, 2) := by decide +kernel
theorem dX5_size_44 : decode cX5_size 44 = .ok (.iaload, 1) := by decide +kernel
theorem dX5_size_45 : decode cX5_size 45 = .ok (.iconst 1, 1) := by decide +kernel
theorem dX5_size_46 : decode cX5_size 46 = .ok (.isub, 1) := by decide +kernel
theorem dX5_size_47 : decode cX5_size 47 = .ok (.iload_n 2, 1) := by decide +kernel
theorem dX5_size_48 : decode cX5_size 48 = .ok (.invokestatic 58, 3) := by decide +kernel
theorem dX5_size_51 : decode cX5_size 51 = .ok (.isub, 1) := by decide +kernel
theorem dX5_size_52 : decode cX5_size 52 = .ok (.iadd, 1) := by decide +kernel
theorem dX5_size_53 : decode cX5_size 53 = .ok (.istore_n 1, 1) := by decide +kernel
theorem dX5_size_54 : decode cX5_size 54 = .ok (.aload_n 0, 1) := by decide +kernel
theorem dX5_size_55 : decode cX5_size 55 = .ok (.getfield 15, 3) := by decide +kernel
theorem dX5_size_58 : decode cX5_size 58 = .ok (.iload 4, 2) := by decide +kernel
theorem dX5_size_60 : decode cX5_size 60 = .ok (.iaload, 1) := by decide +kernel
theorem dX5_size_61 : decode cX5_size 61 = .ok (.istore_n 2, 1) := by decide +kernel
theorem dX5_size_62 : decode cX5_size 62 = .ok (.iinc 3 1, 3) := by decide +kernel
theorem dX5_size_65 : decode cX5_size 65 = .ok (.goto (-59), 3) := by decide +kernel
theorem dX5_size_68 : decode cX5_size 68 = .ok (.iload_n 1, 1) := by decide +kernel
theorem dX5_size_69 : decode cX5_size 69 = .ok (.ireturn, 1) := by decide +kernel
theorem dX5_lowestBeyond_0 : decode cX5_lowestBeyond 0 = .ok (.iconst (-1), 1) := by decide +kernel
theorem dX5_lowestBeyond_1 : decode cX5_lowestBeyond 1 = .ok (.istore_n 2, 1) := by decide +kernel
theorem dX5_lowestBeyond_2 : decode cX5_lowestBeyond 2 = .ok (.iconst 0, 1) := by decide +kernel
theorem dX5_lowestBeyond_3 : decode cX5_lowestBeyond 3 = .ok (.istore_n 3, 1) := by decide +kernel
theorem dX5_lowestBeyond_4 : decode cX5_lowestBeyond 4 = .ok (.iload_n 3, 1) := by decide +kernel
theorem dX5_lowestBeyond_5 : decode cX5_lowestBeyond 5 = .ok (.aload_n 0, 1) := by decide +kernel
theorem dX5_lowestBeyond_6 : decode cX5_lowestBeyond 6 = .ok (.getfield 26, 3) := by decide +kernel
theorem dX5_lowestBeyond_9 : decode cX5_lowestBeyond 9 = .ok (.if_icmp .ge 41, 3) := by decide +kernel
theorem dX5_lowestBeyond_12 : decode cX5_lowestBeyond 12 = .ok (.aload_n 0, 1) := by decide +kernel
theorem dX5_lowestBeyond_13 : decode cX5_lowestBeyond 13 = .ok (.getfield 15, 3) := by decide +kernel
theorem dX5_lowestBeyond_16 : decode cX5_lowestBeyond 16 = .ok (.iload_n 3, 1) := by decide +kernel
theorem dX5_lowestBeyond_17 : decode cX5_lowestBeyond 17 = .ok (.iaload, 1) := by decide +kernel
theorem dX5_lowestBeyond_18 : decode cX5_lowestBeyond 18 = .ok (.iload_n 1, 1) := by decide +kernel
theorem dX5_lowestBeyond_19 : decode cX5_lowestBeyond 19 = .ok (.if_icmp .le 25, 3) := by decide +kernel
theorem dX5_lowestBeyond_22 : decode cX5_lowestBeyond 22 = .ok (.iload_n 2, 1) := by decide +kernel
theorem dX5_lowestBeyond_23 : decode cX5_lowestBeyond 23 = .ok (.iconst (-1), 1) := by decide +kernel
theorem dX5_lowestBeyond_24 : decode cX5_lowestBeyond 24 = .ok (.if_icmp .eq 18, 3) := by decide +kernel
theorem dX5_lowestBeyond_27 : decode cX5_lowestBeyond 27 = .ok (.aload_n 0, 1) := by decide +kernel
theorem dX5_lowestBeyond_28 : decode cX5_lowestBeyond 28 = .ok (.getfield 9, 3) := by decide +kernel
theorem dX5_lowestBeyond_31 : decode cX5_lowestBeyond 31 = .ok (.iload_n 3, 1) := by decide +kernel
theorem dX5_lowestBeyond_32 : decode cX5_lowestBeyond 32 = .ok (.iaload, 1) := by decide +kernel
theorem dX5_lowestBeyond_33 : decode cX5_lowestBeyond 33 = .ok (.aload_n 0, 1) := by decide +kernel
theorem dX5_lowestBeyond_34 : decode cX5_lowestBeyond 34 = .ok (.getfield 9, 3) := by decide +kernel
theorem dX5_lowestBeyond_37 : decode cX5_lowestBeyond 37 = .ok (.iload_n 2, 1) := by decide +kernel
theorem dX5_lowestBeyond_38 : decode cX5_lowestBeyond 38 = .ok (.iaload, 1) := by decide +kernel
theorem dX5_lowestBeyond_39 : decode cX5_lowestBeyond 39 = .ok (.if_icmp .ge 5, 3) := by decide +kernel
theorem dX5_lowestBeyond_42 : decode cX5_lowestBeyond 42 = .ok (.iload_n 3, 1) := by decide +kernel
theorem dX5_lowestBeyond_43 : decode cX5_lowestBeyond 43 = .ok (.istore_n 2, 1) := by decide +kernel
theorem dX5_lowestBeyond_44 : decode cX5_lowestBeyond 44 = .ok (.iinc 3 1, 3) := by decide +kernel
theorem dX5_lowestBeyond_47 : decode cX5_lowestBeyond 47 = .ok (.goto (-43), 3) := by decide +kernel
theorem dX5_lowestBeyond_50 : decode cX5_lowestBeyond 50 = .ok (.iload_n 2, 1) := by decide +kernel
theorem dX5_lowestBeyond_51 : decode cX5_lowestBeyond 51 = .ok (.ireturn, 1) := by decide +kernel
theorem dX5_least_0 : decode cX5_least 0 = .ok (.aload_n 0, 1) := by decide +kernel
theorem dX5_least_1 : decode cX5_least 1 = .ok (.iconst 0, 1) := by decide +kernel
theorem dX5_least_2 : decode cX5_least 2 = .ok (.invokevirtual 54, 3) := by decide +kernel
theorem dX5_least_5 : decode cX5_least 5 = .ok (.istore_n 1, 1) := by decide +kernel
theorem dX5_least_6 : decode cX5_least 6 = .ok (.iload_n 1, 1) := by decide +kernel
theorem dX5_least_7 : decode cX5_least 7 = .ok (.iconst (-1), 1) := by decide +kernel
theorem dX5_least_8 : decode cX5_least 8 = .ok (.if_icmp .ne 7, 3) := by decide +kernel
theorem dX5_least_11 : decode cX5_least 11 = .ok (.iconst (-1), 1) := by decide +kernel
theorem dX5_least_12 : decode cX5_least 12 = .ok (.goto 9, 3) := by decide +kernel
theorem dX5_least_15 : decode cX5_least 15 = .ok (.aload_n 0, 1) := by decide +kernel
theorem dX5_least_16 : decode cX5_least 16 = .ok (.getfield 9, 3) := by decide +kernel
theorem dX5_least_19 : decode cX5_least 19 = .ok (.iload_n 1, 1) := by decide +kernel
theorem dX5_least_20 : decode cX5_least 20 = .ok (.iaload, 1) := by decide +kernel
theorem dX5_least_21 : decode cX5_least 21 = .ok (.ireturn, 1) := by decide +kernel
theorem dX5_greatest_0 : decode cX5_greatest 0 = .ok (.iconst (-1), 1) := by decide +kernel
theorem dX5_greatest_1 : decode cX5_greatest 1 = .ok (.istore_n 1, 1) := by decide +kernel
theorem dX5_greatest_2 : decode cX5_greatest 2 = .ok (.iconst 0, 1) := by decide +kernel
theorem dX5_greatest_3 : decode cX5_greatest 3 = .ok (.istore_n 2, 1) := by decide +kernel
theorem dX5_greatest_4 : decode cX5_greatest 4 = .ok (.iload_n 2, 1) := by decide +kernel
theorem dX5_greatest_5 : decode cX5_greatest 5 = .ok (.aload_n 0, 1) := by decide +kernel
theorem dX5_greatest_6 : decode cX5_greatest 6 = .ok (.getfield 26, 3) := by decide +kernel
theorem dX5_greatest_9 : decode cX5_greatest 9 = .ok (.if_icmp .ge 20, 3) := by decide +kernel
theorem dX5_greatest_12 : decode cX5_greatest 12 = .ok (.iload_n 1, 1) := by decide +kernel
theorem dX5_greatest_13 : decode cX5_greatest 13 = .ok (.aload_n 0, 1) := by decide +kernel
theorem dX5_greatest_14 : decode cX5_greatest 14 = .ok (.getfield 15, 3) := by decide +kernel
theorem dX5_greatest_17 : decode cX5_greatest 17 = .ok (.iload_n 2, 1) := by decide +kernel
theorem dX5_greatest_18 : decode cX5_greatest 18 = .ok (.iaload, 1) := by decide +kernel
theorem dX5_greatest_19 : decode cX5_greatest 19 = .ok (.invokestatic 58, 3) := by decide +kernel
theorem dX5_greatest_22 : decode cX5_greatest 22 = .ok (.istore_n 1, 1) := by decide +kernel
theorem dX5_greatest_23 : decode cX5_greatest 23 = .ok (.iinc 2 1, 3) := by decide +kernel
theorem dX5_greatest_26 : decode cX5_greatest 26 = .ok (.goto (-22), 3) := by decide +kernel
theorem dX5_greatest_29 : decode cX5_greatest 29 = .ok (.iload_n 1, 1) := by decide +kernel
theorem dX5_greatest_30 : decode cX5_greatest 30 = .ok (.ireturn, 1) := by decide +kernel
theorem dX6_init_0 : decode cX6_init 0 = .ok (.aload_n 0, 1) := by decide +kernel
theorem dX6_init_1 : decode cX6_init 1 = .ok (.invokespecial 3, 3) := by decide +kernel
theorem dX6_init_4 : decode cX6_init 4 = .ok (.aload_n 0, 1) := by decide +kernel
theorem dX6_init_5 : decode cX6_init 5 = .ok (.sipush 900, 3) := by decide +kernel
theorem dX6_init_8 : decode cX6_init 8 = .ok (.newarray .byte, 2) := by decide +kernel
theorem dX6_init_10 : decode cX6_init 10 = .ok (.putfield 9, 3) := by decide +kernel
theorem dX6_init_13 : decode cX6_init 13 = .ok (.return_, 1) := by decide +kernel
theorem dX6_add_0 : decode cX6_add 0 = .ok (.bipush 24, 2) := by decide +kernel
theorem dX6_add_2 : decode cX6_add 2 = .ok (.istore_n 2, 1) := by decide +kernel
theorem dX6_add_3 : decode cX6_add 3 = .ok (.iload_n 2, 1) := by decide +kernel
theorem dX6_add_4 : decode cX6_add 4 = .ok (.ifCond .lt 42, 3) := by decide +kernel
theorem dX6_add_7 : decode cX6_add 7 = .ok (.aload_n 0, 1) := by decide +kernel
theorem dX6_add_8 : decode cX6_add 8 = .ok (.getfield 15, 3) := by decide +kernel
theorem dX6_add_11 : decode cX6_add 11 = .ok (.sipush 900, 3) := by decide +kernel
theorem dX6_add_14 : decode cX6_add 14 = .ok (.if_icmp .ge 32, 3) := by decide +kernel
theorem dX6_add_17 : decode cX6_add 17 = .ok (.aload_n 0, 1) := by decide +kernel
theorem dX6_add_18 : decode cX6_add 18 = .ok (.getfield 9, 3) := by decide +kernel
theorem dX6_add_21 : decode cX6_add 21 = .ok (.aload_n 0, 1) := by decide +kernel
theorem dX6_add_22 : decode cX6_add 22 = .ok (.getfield 15, 3) := by decide +kernel
theorem dX6_add_25 : decode cX6_add 25 = .ok (.iload_n 1, 1) := by decide +kernel
theorem dX6_add_26 : decode cX6_add 26 = .ok (.iload_n 2, 1) := by decide +kernel
theorem dX6_add_27 : decode cX6_add 27 = .ok (.ishr, 1) := by decide +kernel
theorem dX6_add_28 : decode cX6_add 28 = .ok (.i2b, 1) := by decide +kernel
theorem dX6_add_29 : decode cX6_add 29 = .ok (.bastore, 1) := by decide +kernel
theorem dX6_add_30 : decode cX6_add 30 = .ok (.aload_n 0, 1) := by decide +kernel
theorem dX6_add_31 : decode cX6_add 31 = .ok (.dup, 1) := by decide +kernel
theorem dX6_add_32 : decode cX6_add 32 = .ok (.getfield 15, 3) := by decide +kernel
theorem dX6_add_35 : decode cX6_add 35 = .ok (.iconst 1, 1) := by decide +kernel
theorem dX6_add_36 : decode cX6_add 36 = .ok (.iadd, 1) := by decide +kernel
theorem dX6_add_37 : decode cX6_add 37 = .ok (.putfield 15, 3) := by decide +kernel
theorem dX6_add_40 : decode cX6_add 40 = .ok (.iinc 2 (-8), 3) := by decide +kernel
theorem dX6_add_43 : decode cX6_add 43 = .ok (.goto (-40), 3) := by decide +kernel
theorem dX6_add_46 : decode cX6_add 46 = .ok (.return_, 1) := by decide +kernel
theorem dX7_init_0 : decode cX7_init 0 = .ok (.aload_n 0, 1) := by decide +kernel
theorem dX7_init_1 : decode cX7_init 1 = .ok (.invokespecial 3, 3) := by decide +kernel
theorem dX7_init_4 : decode cX7_init 4 = .ok (.aload_n 0, 1) := by decide +kernel
theorem dX7_init_5 : decode cX7_init 5 = .ok (.bipush 30, 2) := by decide +kernel
theorem dX7_init_7 : decode cX7_init 7 = .ok (.newarray .long, 2) := by decide +kernel
theorem dX7_init_9 : decode cX7_init 9 = .ok (.putfield 9, 3) := by decide +kernel
theorem dX7_init_12 : decode cX7_init 12 = .ok (.aload_n 0, 1) := by decide +kernel
theorem dX7_init_13 : decode cX7_init 13 = .ok (.aload_n 1, 1) := by decide +kernel
theorem dX7_init_14 : decode cX7_init 14 = .ok (.getfield 15, 3) := by decide +kernel
theorem dX7_init_17 : decode cX7_init 17 = .ok (.putfield 21, 3) := by decide +kernel
theorem dX7_init_20 : decode cX7_init 20 = .ok (.aload_n 0, 1) := by decide +kernel
theorem dX7_init_21 : decode cX7_init 21 = .ok (.ldc 22, 2) := by decide +kernel
theorem dX7_init_23 : decode cX7_init 23 = .ok (.iconst 0, 1) := by decide +kernel
theorem dX7_init_24 : decode cX7_init 24 = .ok (.invokevirtual 24, 3) := by decide +kernel
theorem dX7_init_27 : decode cX7_init 27 = .ok (.aload_n 0, 1) := by decide +kernel
theorem dX7_init_28 : decode cX7_init 28 = .ok (.ldc 28, 2) := by decide +kernel
theorem dX7_init_30 : decode cX7_init 30 = .ok (.bipush 12, 2) := by decide +kernel
theorem dX7_init_32 : decode cX7_init 32 = .ok (.invokevirtual 24, 3) := by decide +kernel
theorem dX7_init_35 : decode cX7_init 35 = .ok (.aload_n 0, 1) := by decide +kernel
theorem dX7_init_36 : decode cX7_init 36 = .ok (.ldc 30, 2) := by decide +kernel
theorem dX7_init_38 : decode cX7_init 38 = .ok (.bipush 24, 2) := by decide +kernel
theorem dX7_init_40 : decode cX7_init 40 = .ok (.invokevirtual 24, 3) := by decide +kernel
theorem dX7_init_43 : decode cX7_init 43 = .ok (.return_, 1) := by decide +kernel
theorem dX7_learn_0 : decode cX7_learn 0 = .ok (.iload_n 2, 1) := by decide +kernel
theorem dX7_learn_1 : decode cX7_learn 1 = .ok (.istore_n 3, 1) := by decide +kernel
theorem dX7_learn_2 : decode cX7_learn 2 = .ok (.iconst 0, 1) := by decide +kernel
theorem dX7_learn_3 : decode cX7_learn 3 = .ok (.istore 4, 2) := by decide +kernel
theorem dX7_learn_5 : decode cX7_learn 5 = .ok (.iload 4, 2) := by decide +kernel
theorem dX7_learn_7 : decode cX7_learn 7 = .ok (.aload_n 1, 1) := by decide +kernel
theorem dX7_learn_8 : decode cX7_learn 8 = .ok (.invokevirtual 32, 3) := by decide +kernel
theorem dX7_learn_11 : decode cX7_learn 11 = .ok (.if_icmp .ge 61, 3) := by decide +kernel
theorem dX7_learn_14 : decode cX7_learn 14 = .ok (.iload_n 3, 1) := by decide +kernel
theorem dX7_learn_15 : decode cX7_learn 15 = .ok (.bipush 30, 2) := by decide +kernel
theorem dX7_learn_17 : decode cX7_learn 17 = .ok (.if_icmp .ge 55, 3) := by decide +kernel
theorem dX7_learn_20 : decode cX7_learn 20 = .ok (.aload_n 1, 1) := by decide +kernel
theorem dX7_learn_21 : decode cX7_learn 21 = .ok (.iload 4, 2) := by decide +kernel
theorem dX7_learn_23 : decode cX7_learn 23 = .ok (.invokevirtual 38, 3) := by decide +kernel
theorem dX7_learn_26 : decode cX7_learn 26 = .ok (.istore 5, 2) := by decide +kernel
theorem dX7_learn_28 : decode cX7_learn 28 = .ok (.iload 5, 2) := by decide +kernel
theorem dX7_learn_30 : decode cX7_learn 30 = .ok (.bipush 32, 2) := by decide +kernel
theorem dX7_learn_32 : decode cX7_learn 32 = .ok (.if_icmp .ne 9, 3) := by decide +kernel
theorem dX7_learn_35 : decode cX7_learn 35 = .ok (.iinc 3 1, 3) := by decide +kernel
theorem dX7_learn_38 : decode cX7_learn 38 = .ok (.goto 28, 3) := by decide +kernel
theorem dX7_learn_41 : decode cX7_learn 41 = .ok (.aload_n 0, 1) := by decide +kernel
theorem dX7_learn_42 : decode cX7_learn 42 = .ok (.getfield 9, 3) := by decide +kernel
theorem dX7_learn_45 : decode cX7_learn 45 = .ok (.iload_n 3, 1) := by decide +kernel
theorem dX7_learn_46 : decode cX7_learn 46 = .ok (.aload_n 0, 1) := by decide +kernel
theorem dX7_learn_47 : decode cX7_learn 47 = .ok (.getfield 9, 3) := by decide +kernel
theorem dX7_learn_50 : decode cX7_learn 50 = .ok (.iload_n 3, 1) := by decide +kernel
theorem dX7_learn_51 : decode cX7_learn 51 = .ok (.laload, 1) := by decide +kernel
theorem dX7_learn_52 : decode cX7_learn 52 = .ok (.ldc2_w 42, 3) := by decide +kernel
theorem dX7_learn_55 : decode cX7_learn 55 = .ok (.lmul, 1) := by decide +kernel
theorem dX7_learn_56 : decode cX7_learn 56 = .ok (.iload 5, 2) := by decide +kernel
theorem dX7_learn_58 : decode cX7_learn 58 = .ok (.bipush 97, 2) := by decide +kernel
theorem dX7_learn_60 : decode cX7_learn 60 = .ok (.isub, 1) := by decide +kernel
theorem dX7_learn_61 : decode cX7_learn 61 = .ok (.iconst 1, 1) := by decide +kernel
theorem dX7_learn_62 : decode cX7_learn 62 = .ok (.iadd, 1) := by decide +kernel
theorem dX7_learn_63 : decode cX7_learn 63 = .ok (.i2l, 1) := by decide +kernel
theorem dX7_learn_64 : decode cX7_learn 64 = .ok (.ladd, 1) := by decide +kernel
theorem dX7_learn_65 : decode cX7_learn 65 = .ok (.lastore, 1) := by decide +kernel
theorem dX7_learn_66 : decode cX7_learn 66 = .ok (.iinc 4 1, 3) := by decide +kernel
theorem dX7_learn_69 : decode cX7_learn 69 = .ok (.goto (-64), 3) := by decide +kernel
theorem dX7_learn_72 : decode cX7_learn 72 = .ok (.return_, 1) := by decide +kernel
theorem dX7_start_0 : decode cX7_start 0 = .ok (.aload_n 0, 1) := by decide +kernel
theorem dX7_start_1 : decode cX7_start 1 = .ok (.iload_n 1, 1) := by decide +kernel
theorem dX7_start_2 : decode cX7_start 2 = .ok (.aload_n 0, 1) := by decide +kernel
theorem dX7_start_3 : decode cX7_start 3 = .ok (.getfield 21, 3) := by decide +kernel
theorem dX7_start_6 : decode cX7_start 6 = .ok (.arraylength, 1) := by decide +kernel
theorem dX7_start_7 : decode cX7_start 7 = .ok (.invokestatic 44, 3) := by decide +kernel
theorem dX7_start_10 : decode cX7_start 10 = .ok (.putfield 50, 3) := by decide +kernel
theorem dX7_start_13 : decode cX7_start 13 = .ok (.aload_n 0, 1) := by decide +kernel
theorem dX7_start_14 : decode cX7_start 14 = .ok (.iconst 0, 1) := by decide +kernel
theorem dX7_start_15 : decode cX7_start 15 = .ok (.putfield 54, 3) := by decide +kernel
theorem dX7_start_18 : decode cX7_start 18 = .ok (.return_, 1) := by decide +kernel
theorem dX7_next_0 : decode cX7_next 0 = .ok (.aload_n 0, 1) := by decide +kernel
theorem dX7_next_1 : decode cX7_next 1 = .ok (.getfield 54, 3) := by decide +kernel
theorem dX7_next_4 : decode cX7_next 4 = .ok (.aload_n 0, 1) := by decide +kernel
theorem dX7_next_5 : decode cX7_next 5 = .ok (.getfield 50, 3) := by decide +kernel
theorem dX7_next_8 : decode cX7_next 8 = .ok (.if_icmp .ge 44, 3) := by decide +kernel
theorem dX7_next_11 : decode cX7_next 11 = .ok (.aload_n 0, 1) := by decide +kernel
theorem dX7_next_12 : decode cX7_next 12 = .ok (.getfield 21, 3) := by decide +kernel
theorem dX7_next_15 : decode cX7_next 15 = .ok (.aload_n 0, 1) := by decide +kernel
theorem dX7_next_16 : decode cX7_next 16 = .ok (.getfield 54, 3) := by decide +kernel
theorem dX7_next_19 : decode cX7_next 19 = .ok (.baload, 1) := by decide +kernel
theorem dX7_next_20 : decode cX7_next 20 = .ok (.bipush 32, 2) := by decide +kernel
theorem dX7_next_22 : decode cX7_next 22 = .ok (.if_icmp .eq 17, 3) := by decide +kernel
theorem dX7_next_25 : decode cX7_next 25 = .ok (.aload_n 0, 1) := by decide +kernel
theorem dX7_next_26 : decode cX7_next 26 = .ok (.getfield 21, 3) := by decide +kernel
theorem dX7_next_29 : decode cX7_next 29 = .ok (.aload_n 0, 1) := by decide +kernel
theorem dX7_next_30 : decode cX7_next 30 = .ok (.getfield 54, 3) := by decide +kernel
theorem dX7_next_33 : decode cX7_next 33 = .ok (.baload, 1) := by decide +kernel
theorem dX7_next_34 : decode cX7_next 34 = .ok (.bipush 10, 2) := by decide +kernel
theorem dX7_next_36 : decode cX7_next 36 = .ok (.if_icmp .ne 16, 3) := by decide +kernel
theorem dX7_next_39 : decode cX7_next 39 = .ok (.aload_n 0, 1) := by decide +kernel
theorem dX7_next_40 : decode cX7_next 40 = .ok (.dup, 1) := by decide +kernel
theorem dX7_next_41 : decode cX7_next 41 = .ok (.getfield 54, 3) := by decide +kernel
theorem dX7_next_44 : decode cX7_next 44 = .ok (.iconst 1, 1) := by decide +kernel
theorem dX7_next_45 : decode cX7_next 45 = .ok (.iadd, 1) := by decide +kernel
theorem dX7_next_46 : decode cX7_next 46 = .ok (.putfield 54, 3) := by decide +kernel
theorem dX7_next_49 : decode cX7_next 49 = .ok (.goto (-49), 3) := by decide +kernel
theorem dX7_next_52 : decode cX7_next 52 = .ok (.aload_n 0, 1) := by decide +kernel
theorem dX7_next_53 : decode cX7_next 53 = .ok (.aload_n 0, 1) := by decide +kernel
theorem dX7_next_54 : decode cX7_next 54 = .ok (.getfield 54, 3) := by decide +kernel
theorem dX7_next_57 : decode cX7_next 57 = .ok (.putfield 57, 3) := by decide +kernel
theorem dX7_next_60 : decode cX7_next 60 = .ok (.aload_n 0, 1) := by decide +kernel
theorem dX7_next_61 : decode cX7_next 61 = .ok (.iconst (-1), 1) := by decide +kernel
theorem dX7_next_62 : decode cX7_next 62 = .ok (.putfield 60, 3) := by decide +kernel
theorem dX7_next_65 : decode cX7_next 65 = .ok (.aload_n 0, 1) := by decide +kernel
theorem dX7_next_66 : decode cX7_next 66 = .ok (.lconst 0, 1) := by decide +kernel
theorem dX7_next_67 : decode cX7_next 67 = .ok (.putfield 63, 3) := by decide +kernel
theorem dX7_next_70 : decode cX7_next 70 = .ok (.aload_n 0, 1) := by decide +kernel
theorem dX7_next_71 : decode cX7_next 71 = .ok (.getfield 54, 3) := by decide +kernel
theorem dX7_next_74 : decode cX7_next 74 = .ok (.aload_n 0, 1) := by decide +kernel
theorem dX7_next_75 : decode cX7_next 75 = .ok (.getfield 50, 3) := by decide +kernel
theorem dX7_next_78 : decode cX7_next 78 = .ok (.if_icmp .lt 11, 3) := by decide +kernel
theorem dX7_next_81 : decode cX7_next 81 = .ok (.aload_n 0, 1) := by decide +kernel
theorem dX7_next_82 : decode cX7_next 82 = .ok (.iconst 0, 1) := by decide +kernel
theorem dX7_next_83 : decode cX7_next 83 = .ok (.putfield 67, 3) := by decide +kernel
theorem dX7_next_86 : decode cX7_next 86 = .ok (.goto 84, 3) := by decide +kernel
theorem dX7_next_89 : decode cX7_next 89 = .ok (.aload_n 0, 1) := by decide +kernel
theorem dX7_next_90 : decode cX7_next 90 = .ok (.getfield 21, 3) := by decide +kernel
theorem dX7_next_93 : decode cX7_next 93 = .ok (.aload_n 0, 1) := by decide +kernel
theorem dX7_next_94 : decode cX7_next 94 = .ok (.getfield 54, 3) := by decide +kernel
theorem dX7_next_97 : decode cX7_next 97 = .ok (.baload, 1) := by decide +kernel
theorem dX7_next_98 : decode cX7_next 98 = .ok (.bipush 59, 2) := by decide +kernel
theorem dX7_next_100 : decode cX7_next 100 = .ok (.if_icmp .ne 21, 3) := by decide +kernel
theorem dX7_next_103 : decode cX7_next 103 = .ok (.aload_n 0, 1) := by decide +kernel
theorem dX7_next_104 : decode cX7_next 104 = .ok (.iconst 3, 1) := by decide +kernel
theorem dX7_next_105 : decode cX7_next 105 = .ok (.putfield 67, 3) := by decide +kernel
theorem dX7_next_108 : decode cX7_next 108 = .ok (.aload_n 0, 1) := by decide +kernel
theorem dX7_next_109 : decode cX7_next 109 = .ok (.dup, 1) := by decide +kernel
theorem dX7_next_110 : decode cX7_next 110 = .ok (.getfield 54, 3) := by decide +kernel
theorem dX7_next_113 : decode cX7_next 113 = .ok (.iconst 1, 1) := by decide +kernel
theorem dX7_next_114 : decode cX7_next 114 = .ok (.iadd, 1) := by decide +kernel
theorem dX7_next_115 : decode cX7_next 115 = .ok (.putfield 54, 3) := by decide +kernel
theorem dX7_next_118 : decode cX7_next 118 = .ok (.goto 52, 3) := by decide +kernel
theorem dX7_next_121 : decode cX7_next 121 = .ok (.aload_n 0, 1) := by decide +kernel
theorem dX7_next_122 : decode cX7_next 122 = .ok (.getfield 21, 3) := by decide +kernel
theorem dX7_next_125 : decode cX7_next 125 = .ok (.aload_n 0, 1) := by decide +kernel
theorem dX7_next_126 : decode cX7_next 126 = .ok (.getfield 54, 3) := by decide +kernel
theorem dX7_next_129 : decode cX7_next 129 = .ok (.baload, 1) := by decide +kernel
theorem dX7_next_130 : decode cX7_next 130 = .ok (.invokestatic 70, 3) := by decide +kernel
theorem dX7_next_133 : decode cX7_next 133 = .ok (.ifCond .eq 10, 3) := by decide +kernel
theorem dX7_next_136 : decode cX7_next 136 = .ok (.aload_n 0, 1) := by decide +kernel
theorem dX7_next_137 : decode cX7_next 137 = .ok (.invokevirtual 74, 3) := by decide +kernel
theorem dX7_next_140 : decode cX7_next 140 = .ok (.goto 30, 3) := by decide +kernel
theorem dX7_next_143 : decode cX7_next 143 = .ok (.aload_n 0, 1) := by decide +kernel
theorem dX7_next_144 : decode cX7_next 144 = .ok (.getfield 21, 3) := by decide +kernel
theorem dX7_next_147 : decode cX7_next 147 = .ok (.aload_n 0, 1) := by decide +kernel
theorem dX7_next_148 : decode cX7_next 148 = .ok (.getfield 54, 3) := by decide +kernel
theorem dX7_next_151 : decode cX7_next 151 = .ok (.baload, 1) := by decide +kernel
theorem dX7_next_152 : decode cX7_next 152 = .ok (.invokestatic 77, 3) := by decide +kernel
theorem dX7_next_155 : decode cX7_next 155 = .ok (.ifCond .eq 10, 3) := by decide +kernel
theorem dX7_next_158 : decode cX7_next 158 = .ok (.aload_n 0, 1) := by decide +kernel
theorem dX7_next_159 : decode cX7_next 159 = .ok (.invokevirtual 80, 3) := by decide +kernel
theorem dX7_next_162 : decode cX7_next 162 = .ok (.goto 8, 3) := by decide +kernel
theorem dX7_next_165 : decode cX7_next 165 = .ok (.aload_n 0, 1) := by decide +kernel
theorem dX7_next_166 : decode cX7_next 166 = .ok (.iconst 4, 1) := by decide +kernel
theorem dX7_next_167 : decode cX7_next 167 = .ok (.putfield 67, 3) := by decide +kernel
theorem dX7_next_170 : decode cX7_next 170 = .ok (.return_, 1) := by decide +kernel
theorem dX7_isName_0 : decode cX7_isName 0 = .ok (.aload_n 0, 1) := by decide +kernel
theorem dX7_isName_1 : decode cX7_isName 1 = .ok (.getfield 67, 3) := by decide +kernel
theorem dX7_isName_4 : decode cX7_isName 4 = .ok (.iconst 1, 1) := by decide +kernel
theorem dX7_isName_5 : decode cX7_isName 5 = .ok (.if_icmp .ne 15, 3) := by decide +kernel
theorem dX7_isName_8 : decode cX7_isName 8 = .ok (.aload_n 0, 1) := by decide +kernel
theorem dX7_isName_9 : decode cX7_isName 9 = .ok (.getfield 60, 3) := by decide +kernel
theorem dX7_isName_12 : decode cX7_isName 12 = .ok (.iconst (-1), 1) := by decide +kernel
theorem dX7_isName_13 : decode cX7_isName 13 = .ok (.if_icmp .ne 7, 3) := by decide +kernel
theorem dX7_isName_16 : decode cX7_isName 16 = .ok (.iconst 1, 1) := by decide +kernel
theorem dX7_isName_17 : decode cX7_isName 17 = .ok (.goto 4, 3) := by decide +kernel
theorem dX7_isName_20 : decode cX7_isName 20 = .ok (.iconst 0, 1) := by decide +kernel
theorem dX7_isName_21 : decode cX7_isName 21 = .ok (.ireturn, 1) := by decide +kernel
theorem dX7_takeWord_0 : decode cX7_takeWord 0 = .ok (.aload_n 0, 1) := by decide +kernel
theorem dX7_takeWord_1 : decode cX7_takeWord 1 = .ok (.getfield 54, 3) := by decide +kernel
theorem dX7_takeWord_4 : decode cX7_takeWord 4 = .ok (.aload_n 0, 1) := by decide +kernel
theorem dX7_takeWord_5 : decode cX7_takeWord 5 = .ok (.getfield 50, 3) := by decide +kernel
theorem dX7_takeWord_8 : decode cX7_takeWord 8 = .ok (.if_icmp .ge 59, 3) := by decide +kernel
theorem dX7_takeWord_11 : decode cX7_takeWord 11 = .ok (.aload_n 0, 1) := by decide +kernel
theorem dX7_takeWord_12 : decode cX7_takeWord 12 = .ok (.getfield 21, 3) := by decide +kernel
theorem dX7_takeWord_15 : decode cX7_takeWord 15 = .ok (.aload_n 0, 1) := by decide +kernel
theorem dX7_takeWord_16 : decode cX7_takeWord 16 = .ok (.getfield 54, 3) := by decide +kernel
theorem dX7_takeWord_19 : decode cX7_takeWord 19 = .ok (.baload, 1) := by decide +kernel
theorem dX7_takeWord_20 : decode cX7_takeWord 20 = .ok (.invokestatic 70, 3) := by decide +kernel
theorem dX7_takeWord_23 : decode cX7_takeWord 23 = .ok (.ifCond .eq 44, 3) := by decide +kernel
theorem dX7_takeWord_26 : decode cX7_takeWord 26 = .ok (.aload_n 0, 1) := by decide +kernel
theorem dX7_takeWord_27 : decode cX7_takeWord 27 = .ok (.aload_n 0, 1) := by decide +kernel
theorem dX7_takeWord_28 : decode cX7_takeWord 28 = .ok (.getfield 63, 3) := by decide +kernel
theorem dX7_takeWord_31 : decode cX7_takeWord 31 = .ok (.ldc2_w 42, 3) := by decide +kernel
theorem dX7_takeWord_34 : decode cX7_takeWord 34 = .ok (.lmul, 1) := by decide +kernel
theorem dX7_takeWord_35 : decode cX7_takeWord 35 = .ok (.aload_n 0, 1) := by decide +kernel
theorem dX7_takeWord_36 : decode cX7_takeWord 36 = .ok (.getfield 21, 3) := by decide +kernel
theorem dX7_takeWord_39 : decode cX7_takeWord 39 = .ok (.aload_n 0, 1) := by decide +kernel
theorem dX7_takeWord_40 : decode cX7_takeWord 40 = .ok (.getfield 54, 3) := by decide +kernel
theorem dX7_takeWord_43 : decode cX7_takeWord 43 = .ok (.baload, 1) := by decide +kernel
theorem dX7_takeWord_44 : decode cX7_takeWord 44 = .ok (.bipush 97, 2) := by decide +kernel
theorem dX7_takeWord_46 : decode cX7_takeWord 46 = .ok (.isub, 1) := by decide +kernel
theorem dX7_takeWord_47 : decode cX7_takeWord 47 = .ok (.iconst 1, 1) := by decide +kernel
theorem dX7_takeWord_48 : decode cX7_takeWord 48 = .ok (.iadd, 1) := by decide +kernel
theorem dX7_takeWord_49 : decode cX7_takeWord 49 = .ok (.i2l, 1) := by decide +kernel
theorem dX7_takeWord_50 : decode cX7_takeWord 50 = .ok (.ladd, 1) := by decide +kernel
theorem dX7_takeWord_51 : decode cX7_takeWord 51 = .ok (.putfield 63, 3) := by decide +kernel
theorem dX7_takeWord_54 : decode cX7_takeWord 54 = .ok (.aload_n 0, 1) := by decide +kernel
theorem dX7_takeWord_55 : decode cX7_takeWord 55 = .ok (.dup, 1) := by decide +kernel
theorem dX7_takeWord_56 : decode cX7_takeWord 56 = .ok (.getfield 54, 3) := by decide +kernel
theorem dX7_takeWord_59 : decode cX7_takeWord 59 = .ok (.iconst 1, 1) := by decide +kernel
theorem dX7_takeWord_60 : decode cX7_takeWord 60 = .ok (.iadd, 1) := by decide +kernel
theorem dX7_takeWord_61 : decode cX7_takeWord 61 = .ok (.putfield 54, 3) := by decide +kernel
theorem dX7_takeWord_64 : decode cX7_takeWord 64 = .ok (.goto (-64), 3) := by decide +kernel
theorem dX7_takeWord_67 : decode cX7_takeWord 67 = .ok (.aload_n 0, 1) := by decide +kernel
theorem dX7_takeWord_68 : decode cX7_takeWord 68 = .ok (.aload_n 0, 1) := by decide +kernel
theorem dX7_takeWord_69 : decode cX7_takeWord 69 = .ok (.getfield 54, 3) := by decide +kernel
theorem dX7_takeWord_72 : decode cX7_takeWord 72 = .ok (.aload_n 0, 1) := by decide +kernel
theorem dX7_takeWord_73 : decode cX7_takeWord 73 = .ok (.getfield 57, 3) := by decide +kernel
theorem dX7_takeWord_76 : decode cX7_takeWord 76 = .ok (.isub, 1) := by decide +kernel
theorem dX7_takeWord_77 : decode cX7_takeWord 77 = .ok (.bipush 7, 2) := by decide +kernel
theorem dX7_takeWord_79 : decode cX7_takeWord 79 = .ok (.if_icmp .le 7, 3) := by decide +kernel
theorem dX7_takeWord_82 : decode cX7_takeWord 82 = .ok (.iconst 4, 1) := by decide +kernel
theorem dX7_takeWord_83 : decode cX7_takeWord 83 = .ok (.goto 4, 3) := by decide +kernel
theorem dX7_takeWord_86 : decode cX7_takeWord 86 = .ok (.iconst 1, 1) := by decide +kernel
theorem dX7_takeWord_87 : decode cX7_takeWord 87 = .ok (.putfield 67, 3) := by decide +kernel
theorem dX7_takeWord_90 : decode cX7_takeWord 90 = .ok (.iconst 0, 1) := by decide +kernel
theorem dX7_takeWord_91 : decode cX7_takeWord 91 = .ok (.istore_n 1, 1) := by decide +kernel
theorem dX7_takeWord_92 : decode cX7_takeWord 92 = .ok (.iload_n 1, 1) := by decide +kernel
theorem dX7_takeWord_93 : decode cX7_takeWord 93 = .ok (.bipush 30, 2) := by decide +kernel
theorem dX7_takeWord_95 : decode cX7_takeWord 95 = .ok (.if_icmp .ge 36, 3) := by decide +kernel
theorem dX7_takeWord_98 : decode cX7_takeWord 98 = .ok (.aload_n 0, 1) := by decide +kernel
theorem dX7_takeWord_99 : decode cX7_takeWord 99 = .ok (.getfield 67, 3) := by decide +kernel
theorem dX7_takeWord_102 : decode cX7_takeWord 102 = .ok (.iconst 1, 1) := by decide +kernel
theorem dX7_takeWord_103 : decode cX7_takeWord 103 = .ok (.if_icmp .ne 28, 3) := by decide +kernel
theorem dX7_takeWord_106 : decode cX7_takeWord 106 = .ok (.aload_n 0, 1) := by decide +kernel
theorem dX7_takeWord_107 : decode cX7_takeWord 107 = .ok (.getfield 9, 3) := by decide +kernel
theorem dX7_takeWord_110 : decode cX7_takeWord 110 = .ok (.iload_n 1, 1) := by decide +kernel
theorem dX7_takeWord_111 : decode cX7_takeWord 111 = .ok (.laload, 1) := by decide +kernel
theorem dX7_takeWord_112 : decode cX7_takeWord 112 = .ok (.aload_n 0, 1) := by decide +kernel
theorem dX7_takeWord_113 : decode cX7_takeWord 113 = .ok (.getfield 63, 3) := by decide +kernel
theorem dX7_takeWord_116 : decode cX7_takeWord 116 = .ok (.lcmp, 1) := by decide +kernel
theorem dX7_takeWord_117 : decode cX7_takeWord 117 = .ok (.ifCond .ne 8, 3) := by decide +kernel
theorem dX7_takeWord_120 : decode cX7_takeWord 120 = .ok (.aload_n 0, 1) := by decide +kernel
theorem dX7_takeWord_121 : decode cX7_takeWord 121 = .ok (.iload_n 1, 1) := by decide +kernel
theorem dX7_takeWord_122 : decode cX7_takeWord 122 = .ok (.putfield 60, 3) := by decide +kernel
theorem dX7_takeWord_125 : decode cX7_takeWord 125 = .ok (.iinc 1 1, 3) := by decide +kernel
theorem dX7_takeWord_128 : decode cX7_takeWord 128 = .ok (.goto (-36), 3) := by decide +kernel
theorem dX7_takeWord_131 : decode cX7_takeWord 131 = .ok (.return_, 1) := by decide +kernel
theorem dX7_takeNumber_0 : decode cX7_takeNumber 0 = .ok (.aload_n 0, 1) := by decide +kernel
theorem dX7_takeNumber_1 : decode cX7_takeNumber 1 = .ok (.getfield 54, 3) := by decide +kernel
theorem dX7_takeNumber_4 : decode cX7_takeNumber 4 = .ok (.aload_n 0, 1) := by decide +kernel
theorem dX7_takeNumber_5 : decode cX7_takeNumber 5 = .ok (.getfield 50, 3) := by decide +kernel
theorem dX7_takeNumber_8 : decode cX7_takeNumber 8 = .ok (.if_icmp .ge 57, 3) := by decide +kernel
theorem dX7_takeNumber_11 : decode cX7_takeNumber 11 = .ok (.aload_n 0, 1) := by decide +kernel
theorem dX7_takeNumber_12 : decode cX7_takeNumber 12 = .ok (.getfield 21, 3) := by decide +kernel
theorem dX7_takeNumber_15 : decode cX7_takeNumber 15 = .ok (.aload_n 0, 1) := by decide +kernel
theorem dX7_takeNumber_16 : decode cX7_takeNumber 16 = .ok (.getfield 54, 3) := by decide +kernel
theorem dX7_takeNumber_19 : decode cX7_takeNumber 19 = .ok (.baload, 1) := by decide +kernel
theorem dX7_takeNumber_20 : decode cX7_takeNumber 20 = .ok (.invokestatic 77, 3) := by decide +kernel
theorem dX7_takeNumber_23 : decode cX7_takeNumber 23 = .ok (.ifCond .eq 42, 3) := by decide +kernel
theorem dX7_takeNumber_26 : decode cX7_takeNumber 26 = .ok (.aload_n 0, 1) := by decide +kernel
theorem dX7_takeNumber_27 : decode cX7_takeNumber 27 = .ok (.aload_n 0, 1) := by decide +kernel
theorem dX7_takeNumber_28 : decode cX7_takeNumber 28 = .ok (.getfield 63, 3) := by decide +kernel
theorem dX7_takeNumber_31 : decode cX7_takeNumber 31 = .ok (.ldc2_w 83, 3) := by decide +kernel
theorem dX7_takeNumber_34 : decode cX7_takeNumber 34 = .ok (.lmul, 1) := by decide +kernel
theorem dX7_takeNumber_35 : decode cX7_takeNumber 35 = .ok (.aload_n 0, 1) := by decide +kernel
theorem dX7_takeNumber_36 : decode cX7_takeNumber 36 = .ok (.getfield 21, 3) := by decide +kernel
theorem dX7_takeNumber_39 : decode cX7_takeNumber 39 = .ok (.aload_n 0, 1) := by decide +kernel
theorem dX7_takeNumber_40 : decode cX7_takeNumber 40 = .ok (.getfield 54, 3) := by decide +kernel
theorem dX7_takeNumber_43 : decode cX7_takeNumber 43 = .ok (.baload, 1) := by decide +kernel
theorem dX7_takeNumber_44 : decode cX7_takeNumber 44 = .ok (.bipush 48, 2) := by decide +kernel
theorem dX7_takeNumber_46 : decode cX7_takeNumber 46 = .ok (.isub, 1) := by decide +kernel
theorem dX7_takeNumber_47 : decode cX7_takeNumber 47 = .ok (.i2l, 1) := by decide +kernel
theorem dX7_takeNumber_48 : decode cX7_takeNumber 48 = .ok (.ladd, 1) := by decide +kernel
theorem dX7_takeNumber_49 : decode cX7_takeNumber 49 = .ok (.putfield 63, 3) := by decide +kernel
theorem dX7_takeNumber_52 : decode cX7_takeNumber 52 = .ok (.aload_n 0, 1) := by decide +kernel
theorem dX7_takeNumber_53 : decode cX7_takeNumber 53 = .ok (.dup, 1) := by decide +kernel
theorem dX7_takeNumber_54 : decode cX7_takeNumber 54 = .ok (.getfield 54, 3) := by decide +kernel
theorem dX7_takeNumber_57 : decode cX7_takeNumber 57 = .ok (.iconst 1, 1) := by decide +kernel
theorem dX7_takeNumber_58 : decode cX7_takeNumber 58 = .ok (.iadd, 1) := by decide +kernel
theorem dX7_takeNumber_59 : decode cX7_takeNumber 59 = .ok (.putfield 54, 3) := by decide +kernel
theorem dX7_takeNumber_62 : decode cX7_takeNumber 62 = .ok (.goto (-62), 3) := by decide +kernel
theorem dX7_takeNumber_65 : decode cX7_takeNumber 65 = .ok (.aload_n 0, 1) := by decide +kernel
theorem dX7_takeNumber_66 : decode cX7_takeNumber 66 = .ok (.aload_n 0, 1) := by decide +kernel
theorem dX7_takeNumber_67 : decode cX7_takeNumber 67 = .ok (.getfield 54, 3) := by decide +kernel
theorem dX7_takeNumber_70 : decode cX7_takeNumber 70 = .ok (.aload_n 0, 1) := by decide +kernel
theorem dX7_takeNumber_71 : decode cX7_takeNumber 71 = .ok (.getfield 57, 3) := by decide +kernel
theorem dX7_takeNumber_74 : decode cX7_takeNumber 74 = .ok (.isub, 1) := by decide +kernel
theorem dX7_takeNumber_75 : decode cX7_takeNumber 75 = .ok (.iconst 4, 1) := by decide +kernel
theorem dX7_takeNumber_76 : decode cX7_takeNumber 76 = .ok (.if_icmp .le 7, 3) := by decide +kernel
theorem dX7_takeNumber_79 : decode cX7_takeNumber 79 = .ok (.iconst 4, 1) := by decide +kernel
theorem dX7_takeNumber_80 : decode cX7_takeNumber 80 = .ok (.goto 4, 3) := by decide +kernel
theorem dX7_takeNumber_83 : decode cX7_takeNumber 83 = .ok (.iconst 2, 1) := by decide +kernel
theorem dX7_takeNumber_84 : decode cX7_takeNumber 84 = .ok (.putfield 67, 3) := by decide +kernel
theorem dX7_takeNumber_87 : decode cX7_takeNumber 87 = .ok (.return_, 1) := by decide +kernel
theorem dX7_isLetter_0 : decode cX7_isLetter 0 = .ok (.iload_n 0, 1) := by decide +kernel
theorem dX7_isLetter_1 : decode cX7_isLetter 1 = .ok (.bipush 97, 2) := by decide +kernel
theorem dX7_isLetter_3 : decode cX7_isLetter 3 = .ok (.if_icmp .lt 13, 3) := by decide +kernel
theorem dX7_isLetter_6 : decode cX7_isLetter 6 = .ok (.iload_n 0, 1) := by decide +kernel
theorem dX7_isLetter_7 : decode cX7_isLetter 7 = .ok (.bipush 122, 2) := by decide +kernel
theorem dX7_isLetter_9 : decode cX7_isLetter 9 = .ok (.if_icmp .gt 7, 3) := by decide +kernel
theorem dX7_isLetter_12 : decode cX7_isLetter 12 = .ok (.iconst 1, 1) := by decide +kernel
theorem dX7_isLetter_13 : decode cX7_isLetter 13 = .ok (.goto 4, 3) := by decide +kernel
theorem dX7_isLetter_16 : decode cX7_isLetter 16 = .ok (.iconst 0, 1) := by decide +kernel
theorem dX7_isLetter_17 : decode cX7_isLetter 17 = .ok (.ireturn, 1) := by decide +kernel
theorem dX7_isDigit_0 : decode cX7_isDigit 0 = .ok (.iload_n 0, 1) := by decide +kernel
theorem dX7_isDigit_1 : decode cX7_isDigit 1 = .ok (.bipush 48, 2) := by decide +kernel
theorem dX7_isDigit_3 : decode cX7_isDigit 3 = .ok (.if_icmp .lt 13, 3) := by decide +kernel
theorem dX7_isDigit_6 : decode cX7_isDigit 6 = .ok (.iload_n 0, 1) := by decide +kernel
theorem dX7_isDigit_7 : decode cX7_isDigit 7 = .ok (.bipush 57, 2) := by decide +kernel
theorem dX7_isDigit_9 : decode cX7_isDigit 9 = .ok (.if_icmp .gt 7, 3) := by decide +kernel
theorem dX7_isDigit_12 : decode cX7_isDigit 12 = .ok (.iconst 1, 1) := by decide +kernel
theorem dX7_isDigit_13 : decode cX7_isDigit 13 = .ok (.goto 4, 3) := by decide +kernel
theorem dX7_isDigit_16 : decode cX7_isDigit 16 = .ok (.iconst 0, 1) := by decide +kernel
theorem dX7_isDigit_17 : decode cX7_isDigit 17 = .ok (.ireturn, 1) := by decide +kernel
theorem dX8_init_0 : decode cX8_init 0 = .ok (.aload_n 0, 1) := by decide +kernel
theorem dX8_init_1 : decode cX8_init 1 = .ok (.invokespecial 3, 3) := by decide +kernel
theorem dX8_init_4 : decode cX8_init 4 = .ok (.aload_n 0, 1) := by decide +kernel
theorem dX8_init_5 : decode cX8_init 5 = .ok (.bipush 14, 2) := by decide +kernel
theorem dX8_init_7 : decode cX8_init 7 = .ok (.newarray .int, 2) := by decide +kernel
theorem dX8_init_9 : decode cX8_init 9 = .ok (.putfield 9, 3) := by decide +kernel
theorem dX8_init_12 : decode cX8_init 12 = .ok (.aload_n 0, 1) := by decide +kernel
theorem dX8_init_13 : decode cX8_init 13 = .ok (.bipush 6, 2) := by decide +kernel
theorem dX8_init_15 : decode cX8_init 15 = .ok (.newarray .int, 2) := by decide +kernel
theorem dX8_init_17 : decode cX8_init 17 = .ok (.putfield 15, 3) := by decide +kernel
theorem dX8_init_20 : decode cX8_init 20 = .ok (.aload_n 0, 1) := by decide +kernel
theorem dX8_init_21 : decode cX8_init 21 = .ok (.bipush 6, 2) := by decide +kernel
theorem dX8_init_23 : decode cX8_init 23 = .ok (.iconst 4, 1) := by decide +kernel
theorem dX8_init_24 : decode cX8_init 24 = .ok (.multianewarray 18 2, 4) := by decide +kernel
theorem dX8_init_28 : decode cX8_init 28 = .ok (.putfield 20, 3) := by decide +kernel
theorem dX8_init_31 : decode cX8_init 31 = .ok (.aload_n 0, 1) := by decide +kernel
theorem dX8_init_32 : decode cX8_init 32 = .ok (.iconst 4, 1) := by decide +kernel
theorem dX8_init_33 : decode cX8_init 33 = .ok (.iconst 2, 1) := by decide +kernel
theorem dX8_init_34 : decode cX8_init 34 = .ok (.multianewarray 18 2, 4) := by decide +kernel
theorem dX8_init_38 : decode cX8_init 38 = .ok (.putfield 23, 3) := by decide +kernel
theorem dX8_init_41 : decode cX8_init 41 = .ok (.aload_n 0, 1) := by decide +kernel
theorem dX8_init_42 : decode cX8_init 42 = .ok (.bipush 10, 2) := by decide +kernel
theorem dX8_init_44 : decode cX8_init 44 = .ok (.bipush 12, 2) := by decide +kernel
theorem dX8_init_46 : decode cX8_init 46 = .ok (.multianewarray 18 2, 4) := by decide +kernel
theorem dX8_init_50 : decode cX8_init 50 = .ok (.putfield 26, 3) := by decide +kernel
theorem dX8_init_53 : decode cX8_init 53 = .ok (.aload_n 0, 1) := by decide +kernel
theorem dX8_init_54 : decode cX8_init 54 = .ok (.bipush 10, 2) := by decide +kernel
theorem dX8_init_56 : decode cX8_init 56 = .ok (.newarray .long, 2) := by decide +kernel
theorem dX8_init_58 : decode cX8_init 58 = .ok (.putfield 29, 3) := by decide +kernel
theorem dX8_init_61 : decode cX8_init 61 = .ok (.aload_n 0, 1) := by decide +kernel
theorem dX8_init_62 : decode cX8_init 62 = .ok (.bipush 12, 2) := by decide +kernel
theorem dX8_init_64 : decode cX8_init 64 = .ok (.iconst 4, 1) := by decide +kernel
theorem dX8_init_65 : decode cX8_init 65 = .ok (.multianewarray 18 2, 4) := by decide +kernel
theorem dX8_init_69 : decode cX8_init 69 = .ok (.putfield 33, 3) := by decide +kernel
theorem dX8_init_72 : decode cX8_init 72 = .ok (.aload_n 0, 1) := by decide +kernel
theorem dX8_init_73 : decode cX8_init 73 = .ok (.iconst 4, 1) := by decide +kernel
theorem dX8_init_74 : decode cX8_init 74 = .ok (.iconst 2, 1) := by decide +kernel
theorem dX8_init_75 : decode cX8_init 75 = .ok (.multianewarray 18 2, 4) := by decide +kernel
theorem dX8_init_79 : decode cX8_init 79 = .ok (.putfield 36, 3) := by decide +kernel
theorem dX8_init_82 : decode cX8_init 82 = .ok (.aload_n 0, 1) := by decide +kernel
theorem dX8_init_83 : decode cX8_init 83 = .ok (.invokevirtual 39, 3) := by decide +kernel
theorem dX8_init_86 : decode cX8_init 86 = .ok (.return_, 1) := by decide +kernel
theorem dX8_clear_0 : decode cX8_clear 0 = .ok (.aload_n 0, 1) := by decide +kernel
theorem dX8_clear_1 : decode cX8_clear 1 = .ok (.getfield 9, 3) := by decide +kernel
theorem dX8_clear_4 : decode cX8_clear 4 = .ok (.iconst 0, 1) := by decide +kernel
theorem dX8_clear_5 : decode cX8_clear 5 = .ok (.invokestatic 42, 3) := by decide +kernel
theorem dX8_clear_8 : decode cX8_clear 8 = .ok (.aload_n 0, 1) := by decide +kernel
theorem dX8_clear_9 : decode cX8_clear 9 = .ok (.getfield 15, 3) := by decide +kernel
theorem dX8_clear_12 : decode cX8_clear 12 = .ok (.iconst 0, 1) := by decide +kernel
theorem dX8_clear_13 : decode cX8_clear 13 = .ok (.invokestatic 42, 3) := by decide +kernel
theorem dX8_clear_16 : decode cX8_clear 16 = .ok (.iconst 0, 1) := by decide +kernel
theorem dX8_clear_17 : decode cX8_clear 17 = .ok (.istore_n 1, 1) := by decide +kernel
theorem dX8_clear_18 : decode cX8_clear 18 = .ok (.iload_n 1, 1) := by decide +kernel
theorem dX8_clear_19 : decode cX8_clear 19 = .ok (.getstatic 48, 3) := by decide +kernel
theorem dX8_clear_22 : decode cX8_clear 22 = .ok (.arraylength, 1) := by decide +kernel
theorem dX8_clear_23 : decode cX8_clear 23 = .ok (.if_icmp .ge 23, 3) := by decide +kernel
theorem dX8_clear_26 : decode cX8_clear 26 = .ok (.aload_n 0, 1) := by decide +kernel
theorem dX8_clear_27 : decode cX8_clear 27 = .ok (.getfield 9, 3) := by decide +kernel
theorem dX8_clear_30 : decode cX8_clear 30 = .ok (.bipush 6, 2) := by decide +kernel
theorem dX8_clear_32 : decode cX8_clear 32 = .ok (.iload_n 1, 1) := by decide +kernel
theorem dX8_clear_33 : decode cX8_clear 33 = .ok (.iadd, 1) := by decide +kernel
theorem dX8_clear_34 : decode cX8_clear 34 = .ok (.getstatic 48, 3) := by decide +kernel
theorem dX8_clear_37 : decode cX8_clear 37 = .ok (.iload_n 1, 1) := by decide +kernel
theorem dX8_clear_38 : decode cX8_clear 38 = .ok (.iaload, 1) := by decide +kernel
theorem dX8_clear_39 : decode cX8_clear 39 = .ok (.iastore, 1) := by decide +kernel
theorem dX8_clear_40 : decode cX8_clear 40 = .ok (.iinc 1 1, 3) := by decide +kernel
theorem dX8_clear_43 : decode cX8_clear 43 = .ok (.goto (-25), 3) := by decide +kernel
theorem dX8_clear_46 : decode cX8_clear 46 = .ok (.return_, 1) := by decide +kernel
theorem dX8_take_0 : decode cX8_take 0 = .ok (.aload_n 1, 1) := by decide +kernel
theorem dX8_take_1 : decode cX8_take 1 = .ok (.getfield 9, 3) := by decide +kernel
theorem dX8_take_4 : decode cX8_take 4 = .ok (.iconst 0, 1) := by decide +kernel
theorem dX8_take_5 : decode cX8_take 5 = .ok (.aload_n 0, 1) := by decide +kernel
theorem dX8_take_6 : decode cX8_take 6 = .ok (.getfield 9, 3) := by decide +kernel
theorem dX8_take_9 : decode cX8_take 9 = .ok (.iconst 0, 1) := by decide +kernel
theorem dX8_take_10 : decode cX8_take 10 = .ok (.bipush 14, 2) := by decide +kernel
theorem dX8_take_12 : decode cX8_take 12 = .ok (.invokestatic 51, 3) := by decide +kernel
theorem dX8_take_15 : decode cX8_take 15 = .ok (.aload_n 1, 1) := by decide +kernel
theorem dX8_take_16 : decode cX8_take 16 = .ok (.getfield 15, 3) := by decide +kernel
theorem dX8_take_19 : decode cX8_take 19 = .ok (.iconst 0, 1) := by decide +kernel
theorem dX8_take_20 : decode cX8_take 20 = .ok (.aload_n 0, 1) := by decide +kernel
theorem dX8_take_21 : decode cX8_take 21 = .ok (.getfield 15, 3) := by decide +kernel
theorem dX8_take_24 : decode cX8_take 24 = .ok (.iconst 0, 1) := by decide +kernel
theorem dX8_take_25 : decode cX8_take 25 = .ok (.bipush 6, 2) := by decide +kernel
theorem dX8_take_27 : decode cX8_take 27 = .ok (.invokestatic 51, 3) := by decide +kernel
theorem dX8_take_30 : decode cX8_take 30 = .ok (.aload_n 1, 1) := by decide +kernel
theorem dX8_take_31 : decode cX8_take 31 = .ok (.getfield 29, 3) := by decide +kernel
theorem dX8_take_34 : decode cX8_take 34 = .ok (.iconst 0, 1) := by decide +kernel
theorem dX8_take_35 : decode cX8_take 35 = .ok (.aload_n 0, 1) := by decide +kernel
theorem dX8_take_36 : decode cX8_take 36 = .ok (.getfield 29, 3) := by decide +kernel
theorem dX8_take_39 : decode cX8_take 39 = .ok (.iconst 0, 1) := by decide +kernel
theorem dX8_take_40 : decode cX8_take 40 = .ok (.bipush 10, 2) := by decide +kernel
theorem dX8_take_42 : decode cX8_take 42 = .ok (.invokestatic 51, 3) := by decide +kernel
theorem dX8_take_45 : decode cX8_take 45 = .ok (.aload_n 1, 1) := by decide +kernel
theorem dX8_take_46 : decode cX8_take 46 = .ok (.getfield 20, 3) := by decide +kernel
theorem dX8_take_49 : decode cX8_take 49 = .ok (.aload_n 0, 1) := by decide +kernel
theorem dX8_take_50 : decode cX8_take 50 = .ok (.getfield 20, 3) := by decide +kernel
theorem dX8_take_53 : decode cX8_take 53 = .ok (.invokestatic 57, 3) := by decide +kernel
theorem dX8_take_56 : decode cX8_take 56 = .ok (.aload_n 1, 1) := by decide +kernel
theorem dX8_take_57 : decode cX8_take 57 = .ok (.getfield 23, 3) := by decide +kernel
theorem dX8_take_60 : decode cX8_take 60 = .ok (.aload_n 0, 1) := by decide +kernel
theorem dX8_take_61 : decode cX8_take 61 = .ok (.getfield 23, 3) := by decide +kernel
theorem dX8_take_64 : decode cX8_take 64 = .ok (.invokestatic 57, 3) := by decide +kernel
theorem dX8_take_67 : decode cX8_take 67 = .ok (.aload_n 1, 1) := by decide +kernel
theorem dX8_take_68 : decode cX8_take 68 = .ok (.getfield 26, 3) := by decide +kernel
theorem dX8_take_71 : decode cX8_take 71 = .ok (.aload_n 0, 1) := by decide +kernel
theorem dX8_take_72 : decode cX8_take 72 = .ok (.getfield 26, 3) := by decide +kernel
theorem dX8_take_75 : decode cX8_take 75 = .ok (.invokestatic 57, 3) := by decide +kernel
theorem dX8_take_78 : decode cX8_take 78 = .ok (.aload_n 1, 1) := by decide +kernel
theorem dX8_take_79 : decode cX8_take 79 = .ok (.getfield 33, 3) := by decide +kernel
theorem dX8_take_82 : decode cX8_take 82 = .ok (.aload_n 0, 1) := by decide +kernel
theorem dX8_take_83 : decode cX8_take 83 = .ok (.getfield 33, 3) := by decide +kernel
theorem dX8_take_86 : decode cX8_take 86 = .ok (.invokestatic 57, 3) := by decide +kernel
theorem dX8_take_89 : decode cX8_take 89 = .ok (.aload_n 1, 1) := by decide +kernel
theorem dX8_take_90 : decode cX8_take 90 = .ok (.getfield 36, 3) := by decide +kernel
theorem dX8_take_93 : decode cX8_take 93 = .ok (.aload_n 0, 1) := by decide +kernel
theorem dX8_take_94 : decode cX8_take 94 = .ok (.getfield 36, 3) := by decide +kernel
theorem dX8_take_97 : decode cX8_take 97 = .ok (.invokestatic 57, 3) := by decide +kernel
theorem dX8_take_100 : decode cX8_take 100 = .ok (.return_, 1) := by decide +kernel
theorem dX8_takeRows_0 : decode cX8_takeRows 0 = .ok (.iconst 0, 1) := by decide +kernel
theorem dX8_takeRows_1 : decode cX8_takeRows 1 = .ok (.istore_n 2, 1) := by decide +kernel
theorem dX8_takeRows_2 : decode cX8_takeRows 2 = .ok (.iload_n 2, 1) := by decide +kernel
theorem dX8_takeRows_3 : decode cX8_takeRows 3 = .ok (.aload_n 0, 1) := by decide +kernel
theorem dX8_takeRows_4 : decode cX8_takeRows 4 = .ok (.arraylength, 1) := by decide +kernel
theorem dX8_takeRows_5 : decode cX8_takeRows 5 = .ok (.if_icmp .ge 37, 3) := by decide +kernel
theorem dX8_takeRows_8 : decode cX8_takeRows 8 = .ok (.iload_n 2, 1) := by decide +kernel
theorem dX8_takeRows_9 : decode cX8_takeRows 9 = .ok (.aload_n 1, 1) := by decide +kernel
theorem dX8_takeRows_10 : decode cX8_takeRows 10 = .ok (.arraylength, 1) := by decide +kernel
theorem dX8_takeRows_11 : decode cX8_takeRows 11 = .ok (.if_icmp .ge 31, 3) := by decide +kernel
theorem dX8_takeRows_14 : decode cX8_takeRows 14 = .ok (.aload_n 0, 1) := by decide +kernel
theorem dX8_takeRows_15 : decode cX8_takeRows 15 = .ok (.iload_n 2, 1) := by decide +kernel
theorem dX8_takeRows_16 : decode cX8_takeRows 16 = .ok (.aaload, 1) := by decide +kernel
theorem dX8_takeRows_17 : decode cX8_takeRows 17 = .ok (.iconst 0, 1) := by decide +kernel
theorem dX8_takeRows_18 : decode cX8_takeRows 18 = .ok (.aload_n 1, 1) := by decide +kernel
theorem dX8_takeRows_19 : decode cX8_takeRows 19 = .ok (.iload_n 2, 1) := by decide +kernel
theorem dX8_takeRows_20 : decode cX8_takeRows 20 = .ok (.aaload, 1) := by decide +kernel
theorem dX8_takeRows_21 : decode cX8_takeRows 21 = .ok (.iconst 0, 1) := by decide +kernel
theorem dX8_takeRows_22 : decode cX8_takeRows 22 = .ok (.aload_n 0, 1) := by decide +kernel
theorem dX8_takeRows_23 : decode cX8_takeRows 23 = .ok (.iload_n 2, 1) := by decide +kernel
theorem dX8_takeRows_24 : decode cX8_takeRows 24 = .ok (.aaload, 1) := by decide +kernel
theorem dX8_takeRows_25 : decode cX8_takeRows 25 = .ok (.arraylength, 1) := by decide +kernel
theorem dX8_takeRows_26 : decode cX8_takeRows 26 = .ok (.aload_n 1, 1) := by decide +kernel
theorem dX8_takeRows_27 : decode cX8_takeRows 27 = .ok (.iload_n 2, 1) := by decide +kernel
theorem dX8_takeRows_28 : decode cX8_takeRows 28 = .ok (.aaload, 1) := by decide +kernel
theorem dX8_takeRows_29 : decode cX8_takeRows 29 = .ok (.arraylength, 1) := by decide +kernel
theorem dX8_takeRows_30 : decode cX8_takeRows 30 = .ok (.invokestatic 61, 3) := by decide +kernel
theorem dX8_takeRows_33 : decode cX8_takeRows 33 = .ok (.invokestatic 51, 3) := by decide +kernel
theorem dX8_takeRows_36 : decode cX8_takeRows 36 = .ok (.iinc 2 1, 3) := by decide +kernel
theorem dX8_takeRows_39 : decode cX8_takeRows 39 = .ok (.goto (-37), 3) := by decide +kernel
theorem dX8_takeRows_42 : decode cX8_takeRows 42 = .ok (.return_, 1) := by decide +kernel
theorem dX8_has_0 : decode cX8_has 0 = .ok (.iload_n 2, 1) := by decide +kernel
theorem dX8_has_1 : decode cX8_has 1 = .ok (.ifCond .lt 17, 3) := by decide +kernel
theorem dX8_has_4 : decode cX8_has 4 = .ok (.iload_n 2, 1) := by decide +kernel
theorem dX8_has_5 : decode cX8_has 5 = .ok (.aload_n 0, 1) := by decide +kernel
theorem dX8_has_6 : decode cX8_has 6 = .ok (.getfield 9, 3) := by decide +kernel
theorem dX8_has_9 : decode cX8_has 9 = .ok (.iload_n 1, 1) := by decide +kernel
theorem dX8_has_10 : decode cX8_has 10 = .ok (.iaload, 1) := by decide +kernel
theorem dX8_has_11 : decode cX8_has 11 = .ok (.if_icmp .ge 7, 3) := by decide +kernel
theorem dX8_has_14 : decode cX8_has 14 = .ok (.iconst 1, 1) := by decide +kernel
theorem dX8_has_15 : decode cX8_has 15 = .ok (.goto 4, 3) := by decide +kernel
theorem dX8_has_18 : decode cX8_has 18 = .ok (.iconst 0, 1) := by decide +kernel
theorem dX8_has_19 : decode cX8_has 19 = .ok (.ireturn, 1) := by decide +kernel
theorem dX8_isTold_0 : decode cX8_isTold 0 = .ok (.aload_n 0, 1) := by decide +kernel
theorem dX8_isTold_1 : decode cX8_isTold 1 = .ok (.getfield 15, 3) := by decide +kernel
theorem dX8_isTold_4 : decode cX8_isTold 4 = .ok (.iload_n 1, 1) := by decide +kernel
theorem dX8_isTold_5 : decode cX8_isTold 5 = .ok (.iaload, 1) := by decide +kernel
theorem dX8_isTold_6 : decode cX8_isTold 6 = .ok (.iload_n 2, 1) := by decide +kernel
theorem dX8_isTold_7 : decode cX8_isTold 7 = .ok (.ishr, 1) := by decide +kernel
theorem dX8_isTold_8 : decode cX8_isTold 8 = .ok (.iconst 1, 1) := by decide +kernel
theorem dX8_isTold_9 : decode cX8_isTold 9 = .ok (.iand, 1) := by decide +kernel
theorem dX8_isTold_10 : decode cX8_isTold 10 = .ok (.ifCond .eq 7, 3) := by decide +kernel
theorem dX8_isTold_13 : decode cX8_isTold 13 = .ok (.iconst 1, 1) := by decide +kernel
theorem dX8_isTold_14 : decode cX8_isTold 14 = .ok (.goto 4, 3) := by decide +kernel
theorem dX8_isTold_17 : decode cX8_isTold 17 = .ok (.iconst 0, 1) := by decide +kernel
theorem dX8_isTold_18 : decode cX8_isTold 18 = .ok (.ireturn, 1) := by decide +kernel
theorem dX8_tell_0 : decode cX8_tell 0 = .ok (.iload_n 1, 1) := by decide +kernel
theorem dX8_tell_1 : decode cX8_tell 1 = .ok (.iload_n 2, 1) := by decide +kernel
theorem dX8_tell_2 : decode cX8_tell 2 = .ok (.if_icmp .eq 13, 3) := by decide +kernel
theorem dX8_tell_5 : decode cX8_tell 5 = .ok (.aload_n 0, 1) := by decide +kernel
theorem dX8_tell_6 : decode cX8_tell 6 = .ok (.iload_n 1, 1) := by decide +kernel
theorem dX8_tell_7 : decode cX8_tell 7 = .ok (.iload_n 2, 1) := by decide +kernel
theorem dX8_tell_8 : decode cX8_tell 8 = .ok (.invokevirtual 67, 3) := by decide +kernel
theorem dX8_tell_11 : decode cX8_tell 11 = .ok (.iload_n 3, 1) := by decide +kernel
theorem dX8_tell_12 : decode cX8_tell 12 = .ok (.if_icmp .ne 4, 3) := by decide +kernel
theorem dX8_tell_15 : decode cX8_tell 15 = .ok (.return_, 1) := by decide +kernel
theorem dX8_tell_16 : decode cX8_tell 16 = .ok (.aload_n 0, 1) := by decide +kernel
theorem dX8_tell_17 : decode cX8_tell 17 = .ok (.getfield 15, 3) := by decide +kernel
theorem dX8_tell_20 : decode cX8_tell 20 = .ok (.iload_n 1, 1) := by decide +kernel
theorem dX8_tell_21 : decode cX8_tell 21 = .ok (.dup2, 1) := by decide +kernel
theorem dX8_tell_22 : decode cX8_tell 22 = .ok (.iaload, 1) := by decide +kernel
theorem dX8_tell_23 : decode cX8_tell 23 = .ok (.iconst 1, 1) := by decide +kernel
theorem dX8_tell_24 : decode cX8_tell 24 = .ok (.iload_n 2, 1) := by decide +kernel
theorem dX8_tell_25 : decode cX8_tell 25 = .ok (.ishl, 1) := by decide +kernel
theorem dX8_tell_26 : decode cX8_tell 26 = .ok (.ixor, 1) := by decide +kernel
theorem dX8_tell_27 : decode cX8_tell 27 = .ok (.iastore, 1) := by decide +kernel
theorem dX8_tell_28 : decode cX8_tell 28 = .ok (.aload_n 0, 1) := by decide +kernel
theorem dX8_tell_29 : decode cX8_tell 29 = .ok (.getfield 15, 3) := by decide +kernel
theorem dX8_tell_32 : decode cX8_tell 32 = .ok (.iload_n 2, 1) := by decide +kernel
theorem dX8_tell_33 : decode cX8_tell 33 = .ok (.dup2, 1) := by decide +kernel
theorem dX8_tell_34 : decode cX8_tell 34 = .ok (.iaload, 1) := by decide +kernel
theorem dX8_tell_35 : decode cX8_tell 35 = .ok (.iconst 1, 1) := by decide +kernel
theorem dX8_tell_36 : decode cX8_tell 36 = .ok (.iload_n 1, 1) := by decide +kernel
theorem dX8_tell_37 : decode cX8_tell 37 = .ok (.ishl, 1) := by decide +kernel
theorem dX8_tell_38 : decode cX8_tell 38 = .ok (.ixor, 1) := by decide +kernel
theorem dX8_tell_39 : decode cX8_tell 39 = .ok (.iastore, 1) := by decide +kernel
theorem dX8_tell_40 : decode cX8_tell 40 = .ok (.aload_n 0, 1) := by decide +kernel
theorem dX8_tell_41 : decode cX8_tell 41 = .ok (.getfield 9, 3) := by decide +kernel
theorem dX8_tell_44 : decode cX8_tell 44 = .ok (.bipush 13, 2) := by decide +kernel
theorem dX8_tell_46 : decode cX8_tell 46 = .ok (.dup2, 1) := by decide +kernel
theorem dX8_tell_47 : decode cX8_tell 47 = .ok (.iaload, 1) := by decide +kernel
theorem dX8_tell_48 : decode cX8_tell 48 = .ok (.iload_n 3, 1) := by decide +kernel
theorem dX8_tell_49 : decode cX8_tell 49 = .ok (.ifCond .eq 7, 3) := by decide +kernel
theorem dX8_tell_52 : decode cX8_tell 52 = .ok (.iconst 1, 1) := by decide +kernel
theorem dX8_tell_53 : decode cX8_tell 53 = .ok (.goto 4, 3) := by decide +kernel
theorem dX8_tell_56 : decode cX8_tell 56 = .ok (.iconst (-1), 1) := by decide +kernel
theorem dX8_tell_57 : decode cX8_tell 57 = .ok (.iadd, 1) := by decide +kernel
theorem dX8_tell_58 : decode cX8_tell 58 = .ok (.iastore, 1) := by decide +kernel
theorem dX8_tell_59 : decode cX8_tell 59 = .ok (.return_, 1) := by decide +kernel
theorem dX8_areSimilar_0 : decode cX8_areSimilar 0 = .ok (.iload_n 1, 1) := by decide +kernel
theorem dX8_areSimilar_1 : decode cX8_areSimilar 1 = .ok (.iload_n 2, 1) := by decide +kernel
theorem dX8_areSimilar_2 : decode cX8_areSimilar 2 = .ok (.if_icmp .eq 45, 3) := by decide +kernel
theorem dX8_areSimilar_5 : decode cX8_areSimilar 5 = .ok (.aload_n 0, 1) := by decide +kernel
theorem dX8_areSimilar_6 : decode cX8_areSimilar 6 = .ok (.getfield 20, 3) := by decide +kernel
theorem dX8_areSimilar_9 : decode cX8_areSimilar 9 = .ok (.iload_n 1, 1) := by decide +kernel
theorem dX8_areSimilar_10 : decode cX8_areSimilar 10 = .ok (.aaload, 1) := by decide +kernel
theorem dX8_areSimilar_11 : decode cX8_areSimilar 11 = .ok (.iconst 0, 1) := by decide +kernel
theorem dX8_areSimilar_12 : decode cX8_areSimilar 12 = .ok (.iaload, 1) := by decide +kernel
theorem dX8_areSimilar_13 : decode cX8_areSimilar 13 = .ok (.aload_n 0, 1) := by decide +kernel
theorem dX8_areSimilar_14 : decode cX8_areSimilar 14 = .ok (.getfield 20, 3) := by decide +kernel
theorem dX8_areSimilar_17 : decode cX8_areSimilar 17 = .ok (.iload_n 2, 1) := by decide +kernel
theorem dX8_areSimilar_18 : decode cX8_areSimilar 18 = .ok (.aaload, 1) := by decide +kernel
theorem dX8_areSimilar_19 : decode cX8_areSimilar 19 = .ok (.iconst 0, 1) := by decide +kernel
theorem dX8_areSimilar_20 : decode cX8_areSimilar 20 = .ok (.iaload, 1) := by decide +kernel
theorem dX8_areSimilar_21 : decode cX8_areSimilar 21 = .ok (.if_icmp .ne 26, 3) := by decide +kernel
theorem dX8_areSimilar_24 : decode cX8_areSimilar 24 = .ok (.aload_n 0, 1) := by decide +kernel
theorem dX8_areSimilar_25 : decode cX8_areSimilar 25 = .ok (.getfield 20, 3) := by decide +kernel
theorem dX8_areSimilar_28 : decode cX8_areSimilar 28 = .ok (.iload_n 1, 1) := by decide +kernel
theorem dX8_areSimilar_29 : decode cX8_areSimilar 29 = .ok (.aaload, 1) := by decide +kernel
theorem dX8_areSimilar_30 : decode cX8_areSimilar 30 = .ok (.iconst 1, 1) := by decide +kernel
theorem dX8_areSimilar_31 : decode cX8_areSimilar 31 = .ok (.iaload, 1) := by decide +kernel
theorem dX8_areSimilar_32 : decode cX8_areSimilar 32 = .ok (.aload_n 0, 1) := by decide +kernel
theorem dX8_areSimilar_33 : decode cX8_areSimilar 33 = .ok (.getfield 20, 3) := by decide +kernel
theorem dX8_areSimilar_36 : decode cX8_areSimilar 36 = .ok (.iload_n 2, 1) := by decide +kernel
theorem dX8_areSimilar_37 : decode cX8_areSimilar 37 = .ok (.aaload, 1) := by decide +kernel
theorem dX8_areSimilar_38 : decode cX8_areSimilar 38 = .ok (.iconst 1, 1) := by decide +kernel
theorem dX8_areSimilar_39 : decode cX8_areSimilar 39 = .ok (.iaload, 1) := by decide +kernel
theorem dX8_areSimilar_40 : decode cX8_areSimilar 40 = .ok (.if_icmp .ne 7, 3) := by decide +kernel
theorem dX8_areSimilar_43 : decode cX8_areSimilar 43 = .ok (.iconst 1, 1) := by decide +kernel
theorem dX8_areSimilar_44 : decode cX8_areSimilar 44 = .ok (.goto 4, 3) := by decide +kernel
theorem dX8_areSimilar_47 : decode cX8_areSimilar 47 = .ok (.iconst 0, 1) := by decide +kernel
theorem dX8_areSimilar_48 : decode cX8_areSimilar 48 = .ok (.ireturn, 1) := by decide +kernel
theorem dX8_levelOf_0 : decode cX8_levelOf 0 = .ok (.iconst 0, 1) := by decide +kernel
theorem dX8_levelOf_1 : decode cX8_levelOf 1 = .ok (.istore_n 2, 1) := by decide +kernel
theorem dX8_levelOf_2 : decode cX8_levelOf 2 = .ok (.iconst 0, 1) := by decide +kernel
theorem dX8_levelOf_3 : decode cX8_levelOf 3 = .ok (.istore_n 3, 1) := by decide +kernel
theorem dX8_levelOf_4 : decode cX8_levelOf 4 = .ok (.iload_n 3, 1) := by decide +kernel
theorem dX8_levelOf_5 : decode cX8_levelOf 5 = .ok (.aload_n 0, 1) := by decide +kernel
theorem dX8_levelOf_6 : decode cX8_levelOf 6 = .ok (.getfield 9, 3) := by decide +kernel
theorem dX8_levelOf_9 : decode cX8_levelOf 9 = .ok (.iconst 5, 1) := by decide +kernel
theorem dX8_levelOf_10 : decode cX8_levelOf 10 = .ok (.iaload, 1) := by decide +kernel
theorem dX8_levelOf_11 : decode cX8_levelOf 11 = .ok (.if_icmp .ge 32, 3) := by decide +kernel
theorem dX8_levelOf_14 : decode cX8_levelOf 14 = .ok (.aload_n 0, 1) := by decide +kernel
theorem dX8_levelOf_15 : decode cX8_levelOf 15 = .ok (.getfield 26, 3) := by decide +kernel
theorem dX8_levelOf_18 : decode cX8_levelOf 18 = .ok (.iload_n 1, 1) := by decide +kernel
theorem dX8_levelOf_19 : decode cX8_levelOf 19 = .ok (.aaload, 1) := by decide +kernel
theorem dX8_levelOf_20 : decode cX8_levelOf 20 = .ok (.iconst 3, 1) := by decide +kernel
theorem dX8_levelOf_21 : decode cX8_levelOf 21 = .ok (.iaload, 1) := by decide +kernel
theorem dX8_levelOf_22 : decode cX8_levelOf 22 = .ok (.aload_n 0, 1) := by decide +kernel
theorem dX8_levelOf_23 : decode cX8_levelOf 23 = .ok (.getfield 36, 3) := by decide +kernel
theorem dX8_levelOf_26 : decode cX8_levelOf 26 = .ok (.iload_n 3, 1) := by decide +kernel
theorem dX8_levelOf_27 : decode cX8_levelOf 27 = .ok (.aaload, 1) := by decide +kernel
theorem dX8_levelOf_28 : decode cX8_levelOf 28 = .ok (.iconst 0, 1) := by decide +kernel
theorem dX8_levelOf_29 : decode cX8_levelOf 29 = .ok (.iaload, 1) := by decide +kernel
theorem dX8_levelOf_30 : decode cX8_levelOf 30 = .ok (.if_icmp .lt 7, 3) := by decide +kernel
theorem dX8_levelOf_33 : decode cX8_levelOf 33 = .ok (.iload_n 3, 1) := by decide +kernel
theorem dX8_levelOf_34 : decode cX8_levelOf 34 = .ok (.iconst 1, 1) := by decide +kernel
theorem dX8_levelOf_35 : decode cX8_levelOf 35 = .ok (.iadd, 1) := by decide +kernel
theorem dX8_levelOf_36 : decode cX8_levelOf 36 = .ok (.istore_n 2, 1) := by decide +kernel
theorem dX8_levelOf_37 : decode cX8_levelOf 37 = .ok (.iinc 3 1, 3) := by decide +kernel
theorem dX8_levelOf_40 : decode cX8_levelOf 40 = .ok (.goto (-36), 3) := by decide +kernel
theorem dX8_levelOf_43 : decode cX8_levelOf 43 = .ok (.iload_n 2, 1) := by decide +kernel
theorem dX8_levelOf_44 : decode cX8_levelOf 44 = .ok (.ireturn, 1) := by decide +kernel
theorem dX9_init_0 : decode cX9_init 0 = .ok (.aload_n 0, 1) := by decide +kernel
theorem dX9_init_1 : decode cX9_init 1 = .ok (.invokespecial 3, 3) := by decide +kernel
theorem dX9_init_4 : decode cX9_init 4 = .ok (.aload_n 0, 1) := by decide +kernel
theorem dX9_init_5 : decode cX9_init 5 = .ok (.new 9, 3) := by decide +kernel
theorem dX9_init_8 : decode cX9_init 8 = .ok (.dup, 1) := by decide +kernel
theorem dX9_init_9 : decode cX9_init 9 = .ok (.invokespecial 11, 3) := by decide +kernel
theorem dX9_init_12 : decode cX9_init 12 = .ok (.putfield 12, 3) := by decide +kernel
theorem dX9_init_15 : decode cX9_init 15 = .ok (.aload_n 0, 1) := by decide +kernel
theorem dX9_init_16 : decode cX9_init 16 = .ok (.new 16, 3) := by decide +kernel
theorem dX9_init_19 : decode cX9_init 19 = .ok (.dup, 1) := by decide +kernel
theorem dX9_init_20 : decode cX9_init 20 = .ok (.invokespecial 18, 3) := by decide +kernel
theorem dX9_init_23 : decode cX9_init 23 = .ok (.putfield 19, 3) := by decide +kernel
theorem dX9_init_26 : decode cX9_init 26 = .ok (.aload_n 0, 1) := by decide +kernel
theorem dX9_init_27 : decode cX9_init 27 = .ok (.new 16, 3) := by decide +kernel
theorem dX9_init_30 : decode cX9_init 30 = .ok (.dup, 1) := by decide +kernel
theorem dX9_init_31 : decode cX9_init 31 = .ok (.invokespecial 18, 3) := by decide +kernel
theorem dX9_init_34 : decode cX9_init 34 = .ok (.putfield 23, 3) := by decide +kernel
theorem dX9_init_37 : decode cX9_init 37 = .ok (.aload_n 0, 1) := by decide +kernel
theorem dX9_init_38 : decode cX9_init 38 = .ok (.iconst 2, 1) := by decide +kernel
theorem dX9_init_39 : decode cX9_init 39 = .ok (.anewarray 16, 3) := by decide +kernel
theorem dX9_init_42 : decode cX9_init 42 = .ok (.putfield 26, 3) := by decide +kernel
theorem dX9_init_45 : decode cX9_init 45 = .ok (.aload_n 0, 1) := by decide +kernel
theorem dX9_init_46 : decode cX9_init 46 = .ok (.new 30, 3) := by decide +kernel
theorem dX9_init_49 : decode cX9_init 49 = .ok (.dup, 1) := by decide +kernel
theorem dX9_init_50 : decode cX9_init 50 = .ok (.aload_n 0, 1) := by decide +kernel
theorem dX9_init_51 : decode cX9_init 51 = .ok (.getfield 12, 3) := by decide +kernel
theorem dX9_init_54 : decode cX9_init 54 = .ok (.aload_n 0, 1) := by decide +kernel
theorem dX9_init_55 : decode cX9_init 55 = .ok (.getfield 23, 3) := by decide +kernel
theorem dX9_init_58 : decode cX9_init 58 = .ok (.invokespecial 32, 3) := by decide +kernel
theorem dX9_init_61 : decode cX9_init 61 = .ok (.putfield 35, 3) := by decide +kernel
theorem dX9_init_64 : decode cX9_init 64 = .ok (.aload_n 0, 1) := by decide +kernel
theorem dX9_init_65 : decode cX9_init 65 = .ok (.new 39, 3) := by decide +kernel
theorem dX9_init_68 : decode cX9_init 68 = .ok (.dup, 1) := by decide +kernel
theorem dX9_init_69 : decode cX9_init 69 = .ok (.aload_n 0, 1) := by decide +kernel
theorem dX9_init_70 : decode cX9_init 70 = .ok (.getfield 19, 3) := by decide +kernel
theorem dX9_init_73 : decode cX9_init 73 = .ok (.invokespecial 41, 3) := by decide +kernel
theorem dX9_init_76 : decode cX9_init 76 = .ok (.putfield 44, 3) := by decide +kernel
theorem dX9_init_79 : decode cX9_init 79 = .ok (.aload_n 0, 1) := by decide +kernel
theorem dX9_init_80 : decode cX9_init 80 = .ok (.new 48, 3) := by decide +kernel
theorem dX9_init_83 : decode cX9_init 83 = .ok (.dup, 1) := by decide +kernel
theorem dX9_init_84 : decode cX9_init 84 = .ok (.aload_n 0, 1) := by decide +kernel
theorem dX9_init_85 : decode cX9_init 85 = .ok (.getfield 19, 3) := by decide +kernel
theorem dX9_init_88 : decode cX9_init 88 = .ok (.aload_n 0, 1) := by decide +kernel
theorem dX9_init_89 : decode cX9_init 89 = .ok (.getfield 44, 3) := by decide +kernel
theorem dX9_init_92 : decode cX9_init 92 = .ok (.invokespecial 50, 3) := by decide +kernel
theorem dX9_init_95 : decode cX9_init 95 = .ok (.putfield 53, 3) := by decide +kernel
theorem dX9_init_98 : decode cX9_init 98 = .ok (.aload_n 0, 1) := by decide +kernel
theorem dX9_init_99 : decode cX9_init 99 = .ok (.new 57, 3) := by decide +kernel
theorem dX9_init_102 : decode cX9_init 102 = .ok (.dup, 1) := by decide +kernel
theorem dX9_init_103 : decode cX9_init 103 = .ok (.aload_n 0, 1) := by decide +kernel
theorem dX9_init_104 : decode cX9_init 104 = .ok (.getfield 19, 3) := by decide +kernel
theorem dX9_init_107 : decode cX9_init 107 = .ok (.aload_n 0, 1) := by decide +kernel
theorem dX9_init_108 : decode cX9_init 108 = .ok (.getfield 44, 3) := by decide +kernel
theorem dX9_init_111 : decode cX9_init 111 = .ok (.invokespecial 59, 3) := by decide +kernel
theorem dX9_init_114 : decode cX9_init 114 = .ok (.putfield 60, 3) := by decide +kernel
theorem dX9_init_117 : decode cX9_init 117 = .ok (.aload_n 0, 1) := by decide +kernel
theorem dX9_init_118 : decode cX9_init 118 = .ok (.new 64, 3) := by decide +kernel
theorem dX9_init_121 : decode cX9_init 121 = .ok (.dup, 1) := by decide +kernel
theorem dX9_init_122 : decode cX9_init 122 = .ok (.invokespecial 66, 3) := by decide +kernel
theorem dX9_init_125 : decode cX9_init 125 = .ok (.putfield 67, 3) := by decide +kernel
theorem dX9_init_128 : decode cX9_init 128 = .ok (.aload_n 0, 1) := by decide +kernel
theorem dX9_init_129 : decode cX9_init 129 = .ok (.new 71, 3) := by decide +kernel
theorem dX9_init_132 : decode cX9_init 132 = .ok (.dup, 1) := by decide +kernel
theorem dX9_init_133 : decode cX9_init 133 = .ok (.invokespecial 73, 3) := by decide +kernel
theorem dX9_init_136 : decode cX9_init 136 = .ok (.putfield 74, 3) := by decide +kernel
theorem dX9_init_139 : decode cX9_init 139 = .ok (.iconst 0, 1) := by decide +kernel
theorem dX9_init_140 : decode cX9_init 140 = .ok (.istore_n 1, 1) := by decide +kernel
theorem dX9_init_141 : decode cX9_init 141 = .ok (.iload_n 1, 1) := by decide +kernel
theorem dX9_init_142 : decode cX9_init 142 = .ok (.iconst 2, 1) := by decide +kernel
theorem dX9_init_143 : decode cX9_init 143 = .ok (.if_icmp .ge 22, 3) := by decide +kernel
theorem dX9_init_146 : decode cX9_init 146 = .ok (.aload_n 0, 1) := by decide +kernel
theorem dX9_init_147 : decode cX9_init 147 = .ok (.getfield 26, 3) := by decide +kernel
theorem dX9_init_150 : decode cX9_init 150 = .ok (.iload_n 1, 1) := by decide +kernel
theorem dX9_init_151 : decode cX9_init 151 = .ok (.new 16, 3) := by decide +kernel
theorem dX9_init_154 : decode cX9_init 154 = .ok (.dup, 1) := by decide +kernel
theorem dX9_init_155 : decode cX9_init 155 = .ok (.invokespecial 18, 3) := by decide +kernel
theorem dX9_init_158 : decode cX9_init 158 = .ok (.aastore, 1) := by decide +kernel
theorem dX9_init_159 : decode cX9_init 159 = .ok (.iinc 1 1, 3) := by decide +kernel
theorem dX9_init_162 : decode cX9_init 162 = .ok (.goto (-21), 3) := by decide +kernel
theorem dX9_init_165 : decode cX9_init 165 = .ok (.return_, 1) := by decide +kernel
theorem dX9_feed_0 : decode cX9_feed 0 = .ok (.aload_n 0, 1) := by decide +kernel
theorem dX9_feed_1 : decode cX9_feed 1 = .ok (.getfield 12, 3) := by decide +kernel
theorem dX9_feed_4 : decode cX9_feed 4 = .ok (.getfield 78, 3) := by decide +kernel
theorem dX9_feed_7 : decode cX9_feed 7 = .ok (.bipush 20, 2) := by decide +kernel
theorem dX9_feed_9 : decode cX9_feed 9 = .ok (.iadd, 1) := by decide +kernel
theorem dX9_feed_10 : decode cX9_feed 10 = .ok (.sipush 900, 3) := by decide +kernel
theorem dX9_feed_13 : decode cX9_feed 13 = .ok (.if_icmp .le 5, 3) := by decide +kernel
theorem dX9_feed_16 : decode cX9_feed 16 = .ok (.iconst (-1), 1) := by decide +kernel
theorem dX9_feed_17 : decode cX9_feed 17 = .ok (.ireturn, 1) := by decide +kernel
theorem dX9_feed_18 : decode cX9_feed 18 = .ok (.aload_n 0, 1) := by decide +kernel
theorem dX9_feed_19 : decode cX9_feed 19 = .ok (.getfield 12, 3) := by decide +kernel
theorem dX9_feed_22 : decode cX9_feed 22 = .ok (.iload_n 1, 1) := by decide +kernel
theorem dX9_feed_23 : decode cX9_feed 23 = .ok (.invokevirtual 82, 3) := by decide +kernel
theorem dX9_feed_26 : decode cX9_feed 26 = .ok (.aload_n 0, 1) := by decide +kernel
theorem dX9_feed_27 : decode cX9_feed 27 = .ok (.getfield 12, 3) := by decide +kernel
theorem dX9_feed_30 : decode cX9_feed 30 = .ok (.iload_n 2, 1) := by decide +kernel
theorem dX9_feed_31 : decode cX9_feed 31 = .ok (.invokevirtual 82, 3) := by decide +kernel
theorem dX9_feed_34 : decode cX9_feed 34 = .ok (.aload_n 0, 1) := by decide +kernel
theorem dX9_feed_35 : decode cX9_feed 35 = .ok (.getfield 12, 3) := by decide +kernel
theorem dX9_feed_38 : decode cX9_feed 38 = .ok (.iload_n 3, 1) := by decide +kernel
theorem dX9_feed_39 : decode cX9_feed 39 = .ok (.invokevirtual 82, 3) := by decide +kernel
theorem dX9_feed_42 : decode cX9_feed 42 = .ok (.aload_n 0, 1) := by decide +kernel
theorem dX9_feed_43 : decode cX9_feed 43 = .ok (.getfield 12, 3) := by decide +kernel
theorem dX9_feed_46 : decode cX9_feed 46 = .ok (.iload 4, 2) := by decide +kernel
theorem dX9_feed_48 : decode cX9_feed 48 = .ok (.invokevirtual 82, 3) := by decide +kernel
theorem dX9_feed_51 : decode cX9_feed 51 = .ok (.aload_n 0, 1) := by decide +kernel
theorem dX9_feed_52 : decode cX9_feed 52 = .ok (.getfield 12, 3) := by decide +kernel
theorem dX9_feed_55 : decode cX9_feed 55 = .ok (.iload 5, 2) := by decide +kernel
theorem dX9_feed_57 : decode cX9_feed 57 = .ok (.invokevirtual 82, 3) := by decide +kernel
theorem dX9_feed_60 : decode cX9_feed 60 = .ok (.aload_n 0, 1) := by decide +kernel
theorem dX9_feed_61 : decode cX9_feed 61 = .ok (.getfield 12, 3) := by decide +kernel
theorem dX9_feed_64 : decode cX9_feed 64 = .ok (.getfield 78, 3) := by decide +kernel
theorem dX9_feed_67 : decode cX9_feed 67 = .ok (.ireturn, 1) := by decide +kernel
theorem dX9_text_0 : decode cX9_text 0 = .ok (.iload_n 1, 1) := by decide +kernel
theorem dX9_text_1 : decode cX9_text 1 = .ok (.ifCond .lt 14, 3) := by decide +kernel
theorem dX9_text_4 : decode cX9_text 4 = .ok (.iload_n 1, 1) := by decide +kernel
theorem dX9_text_5 : decode cX9_text 5 = .ok (.aload_n 0, 1) := by decide +kernel
theorem dX9_text_6 : decode cX9_text 6 = .ok (.getfield 12, 3) := by decide +kernel
theorem dX9_text_9 : decode cX9_text 9 = .ok (.getfield 78, 3) := by decide +kernel
theorem dX9_text_12 : decode cX9_text 12 = .ok (.if_icmp .le 5, 3) := by decide +kernel
theorem dX9_text_15 : decode cX9_text 15 = .ok (.iconst (-1), 1) := by decide +kernel
theorem dX9_text_16 : decode cX9_text 16 = .ok (.ireturn, 1) := by decide +kernel
theorem dX9_text_17 : decode cX9_text 17 = .ok (.aload_n 0, 1) := by decide +kernel
theorem dX9_text_18 : decode cX9_text 18 = .ok (.getfield 35, 3) := by decide +kernel

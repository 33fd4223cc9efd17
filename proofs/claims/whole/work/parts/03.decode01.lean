theorem dX0_init_0 : decode cX0_init 0 = .ok (.aload_n 0, 1) := by decide +kernel
theorem dX0_init_1 : decode cX0_init 1 = .ok (.invokespecial 3, 3) := by decide +kernel
theorem dX0_init_4 : decode cX0_init 4 = .ok (.aload_n 0, 1) := by decide +kernel
theorem dX0_init_5 : decode cX0_init 5 = .ok (.bipush 12, 2) := by decide +kernel
theorem dX0_init_7 : decode cX0_init 7 = .ok (.iconst 4, 1) := by decide +kernel
theorem dX0_init_8 : decode cX0_init 8 = .ok (.multianewarray 11 2, 4) := by decide +kernel
theorem dX0_init_12 : decode cX0_init 12 = .ok (.putfield 13, 3) := by decide +kernel
theorem dX0_init_15 : decode cX0_init 15 = .ok (.return_, 1) := by decide +kernel
theorem dX0_clear_0 : decode cX0_clear 0 = .ok (.aload_n 0, 1) := by decide +kernel
theorem dX0_clear_1 : decode cX0_clear 1 = .ok (.iconst 0, 1) := by decide +kernel
theorem dX0_clear_2 : decode cX0_clear 2 = .ok (.putfield 16, 3) := by decide +kernel
theorem dX0_clear_5 : decode cX0_clear 5 = .ok (.return_, 1) := by decide +kernel
theorem dX0_add_0 : decode cX0_add 0 = .ok (.aload_n 0, 1) := by decide +kernel
theorem dX0_add_1 : decode cX0_add 1 = .ok (.getfield 13, 3) := by decide +kernel
theorem dX0_add_4 : decode cX0_add 4 = .ok (.aload_n 0, 1) := by decide +kernel
theorem dX0_add_5 : decode cX0_add 5 = .ok (.getfield 20, 3) := by decide +kernel
theorem dX0_add_8 : decode cX0_add 8 = .ok (.aaload, 1) := by decide +kernel
theorem dX0_add_9 : decode cX0_add 9 = .ok (.astore 5, 2) := by decide +kernel
theorem dX0_add_11 : decode cX0_add 11 = .ok (.aload 5, 2) := by decide +kernel
theorem dX0_add_13 : decode cX0_add 13 = .ok (.iconst 0, 1) := by decide +kernel
theorem dX0_add_14 : decode cX0_add 14 = .ok (.iload_n 1, 1) := by decide +kernel
theorem dX0_add_15 : decode cX0_add 15 = .ok (.iastore, 1) := by decide +kernel
theorem dX0_add_16 : decode cX0_add 16 = .ok (.aload 5, 2) := by decide +kernel
theorem dX0_add_18 : decode cX0_add 18 = .ok (.iconst 1, 1) := by decide +kernel
theorem dX0_add_19 : decode cX0_add 19 = .ok (.iload_n 2, 1) := by decide +kernel
theorem dX0_add_20 : decode cX0_add 20 = .ok (.iastore, 1) := by decide +kernel
theorem dX0_add_21 : decode cX0_add 21 = .ok (.aload 5, 2) := by decide +kernel
theorem dX0_add_23 : decode cX0_add 23 = .ok (.iconst 2, 1) := by decide +kernel
theorem dX0_add_24 : decode cX0_add 24 = .ok (.iload_n 3, 1) := by decide +kernel
theorem dX0_add_25 : decode cX0_add 25 = .ok (.iastore, 1) := by decide +kernel
theorem dX0_add_26 : decode cX0_add 26 = .ok (.aload 5, 2) := by decide +kernel
theorem dX0_add_28 : decode cX0_add 28 = .ok (.iconst 3, 1) := by decide +kernel
theorem dX0_add_29 : decode cX0_add 29 = .ok (.iload 4, 2) := by decide +kernel
theorem dX0_add_31 : decode cX0_add 31 = .ok (.iastore, 1) := by decide +kernel
theorem dX0_add_32 : decode cX0_add 32 = .ok (.aload_n 0, 1) := by decide +kernel
theorem dX0_add_33 : decode cX0_add 33 = .ok (.aload_n 0, 1) := by decide +kernel
theorem dX0_add_34 : decode cX0_add 34 = .ok (.getfield 20, 3) := by decide +kernel
theorem dX0_add_37 : decode cX0_add 37 = .ok (.iconst 1, 1) := by decide +kernel
theorem dX0_add_38 : decode cX0_add 38 = .ok (.iadd, 1) := by decide +kernel
theorem dX0_add_39 : decode cX0_add 39 = .ok (.bipush 12, 2) := by decide +kernel
theorem dX0_add_41 : decode cX0_add 41 = .ok (.irem, 1) := by decide +kernel
theorem dX0_add_42 : decode cX0_add 42 = .ok (.putfield 20, 3) := by decide +kernel
theorem dX0_add_45 : decode cX0_add 45 = .ok (.aload_n 0, 1) := by decide +kernel
theorem dX0_add_46 : decode cX0_add 46 = .ok (.aload_n 0, 1) := by decide +kernel
theorem dX0_add_47 : decode cX0_add 47 = .ok (.getfield 16, 3) := by decide +kernel
theorem dX0_add_50 : decode cX0_add 50 = .ok (.iconst 1, 1) := by decide +kernel
theorem dX0_add_51 : decode cX0_add 51 = .ok (.iadd, 1) := by decide +kernel
theorem dX0_add_52 : decode cX0_add 52 = .ok (.bipush 12, 2) := by decide +kernel
theorem dX0_add_54 : decode cX0_add 54 = .ok (.invokestatic 23, 3) := by decide +kernel
theorem dX0_add_57 : decode cX0_add 57 = .ok (.putfield 16, 3) := by decide +kernel
theorem dX0_add_60 : decode cX0_add 60 = .ok (.return_, 1) := by decide +kernel
theorem dX0_takeBack_0 : decode cX0_takeBack 0 = .ok (.aload_n 0, 1) := by decide +kernel
theorem dX0_takeBack_1 : decode cX0_takeBack 1 = .ok (.aload_n 0, 1) := by decide +kernel
theorem dX0_takeBack_2 : decode cX0_takeBack 2 = .ok (.getfield 20, 3) := by decide +kernel
theorem dX0_takeBack_5 : decode cX0_takeBack 5 = .ok (.bipush 12, 2) := by decide +kernel
theorem dX0_takeBack_7 : decode cX0_takeBack 7 = .ok (.iadd, 1) := by decide +kernel
theorem dX0_takeBack_8 : decode cX0_takeBack 8 = .ok (.iconst 1, 1) := by decide +kernel
theorem dX0_takeBack_9 : decode cX0_takeBack 9 = .ok (.isub, 1) := by decide +kernel
theorem dX0_takeBack_10 : decode cX0_takeBack 10 = .ok (.bipush 12, 2) := by decide +kernel
theorem dX0_takeBack_12 : decode cX0_takeBack 12 = .ok (.irem, 1) := by decide +kernel
theorem dX0_takeBack_13 : decode cX0_takeBack 13 = .ok (.putfield 20, 3) := by decide +kernel
theorem dX0_takeBack_16 : decode cX0_takeBack 16 = .ok (.aload_n 0, 1) := by decide +kernel
theorem dX0_takeBack_17 : decode cX0_takeBack 17 = .ok (.dup, 1) := by decide +kernel
theorem dX0_takeBack_18 : decode cX0_takeBack 18 = .ok (.getfield 16, 3) := by decide +kernel
theorem dX0_takeBack_21 : decode cX0_takeBack 21 = .ok (.iconst 1, 1) := by decide +kernel
theorem dX0_takeBack_22 : decode cX0_takeBack 22 = .ok (.isub, 1) := by decide +kernel
theorem dX0_takeBack_23 : decode cX0_takeBack 23 = .ok (.putfield 16, 3) := by decide +kernel
theorem dX0_takeBack_26 : decode cX0_takeBack 26 = .ok (.aload_n 0, 1) := by decide +kernel
theorem dX0_takeBack_27 : decode cX0_takeBack 27 = .ok (.getfield 13, 3) := by decide +kernel
theorem dX0_takeBack_30 : decode cX0_takeBack 30 = .ok (.aload_n 0, 1) := by decide +kernel
theorem dX0_takeBack_31 : decode cX0_takeBack 31 = .ok (.getfield 20, 3) := by decide +kernel
theorem dX0_takeBack_34 : decode cX0_takeBack 34 = .ok (.aaload, 1) := by decide +kernel
theorem dX0_takeBack_35 : decode cX0_takeBack 35 = .ok (.astore_n 2, 1) := by decide +kernel
theorem dX0_takeBack_36 : decode cX0_takeBack 36 = .ok (.aload_n 2, 1) := by decide +kernel
theorem dX0_takeBack_37 : decode cX0_takeBack 37 = .ok (.iconst 0, 1) := by decide +kernel
theorem dX0_takeBack_38 : decode cX0_takeBack 38 = .ok (.iaload, 1) := by decide +kernel
theorem dX0_takeBack_39 : decode cX0_takeBack 39 = .ok (.tableswitch 157 0 6 #[41, 57, 74, 99, 116, 129, 141], 41) := by decide +kernel
theorem dX0_takeBack_80 : decode cX0_takeBack 80 = .ok (.aload_n 1, 1) := by decide +kernel
theorem dX0_takeBack_81 : decode cX0_takeBack 81 = .ok (.getfield 29, 3) := by decide +kernel
theorem dX0_takeBack_84 : decode cX0_takeBack 84 = .ok (.aload_n 2, 1) := by decide +kernel
theorem dX0_takeBack_85 : decode cX0_takeBack 85 = .ok (.iconst 1, 1) := by decide +kernel
theorem dX0_takeBack_86 : decode cX0_takeBack 86 = .ok (.iaload, 1) := by decide +kernel
theorem dX0_takeBack_87 : decode cX0_takeBack 87 = .ok (.aaload, 1) := by decide +kernel
theorem dX0_takeBack_88 : decode cX0_takeBack 88 = .ok (.iconst 4, 1) := by decide +kernel
theorem dX0_takeBack_89 : decode cX0_takeBack 89 = .ok (.aload_n 2, 1) := by decide +kernel
theorem dX0_takeBack_90 : decode cX0_takeBack 90 = .ok (.iconst 3, 1) := by decide +kernel
theorem dX0_takeBack_91 : decode cX0_takeBack 91 = .ok (.iaload, 1) := by decide +kernel
theorem dX0_takeBack_92 : decode cX0_takeBack 92 = .ok (.iastore, 1) := by decide +kernel
theorem dX0_takeBack_93 : decode cX0_takeBack 93 = .ok (.goto 116, 3) := by decide +kernel
theorem dX0_takeBack_96 : decode cX0_takeBack 96 = .ok (.aload_n 1, 1) := by decide +kernel
theorem dX0_takeBack_97 : decode cX0_takeBack 97 = .ok (.getfield 29, 3) := by decide +kernel
theorem dX0_takeBack_100 : decode cX0_takeBack 100 = .ok (.aload_n 2, 1) := by decide +kernel
theorem dX0_takeBack_101 : decode cX0_takeBack 101 = .ok (.iconst 1, 1) := by decide +kernel
theorem dX0_takeBack_102 : decode cX0_takeBack 102 = .ok (.iaload, 1) := by decide +kernel
theorem dX0_takeBack_103 : decode cX0_takeBack 103 = .ok (.aaload, 1) := by decide +kernel
theorem dX0_takeBack_104 : decode cX0_takeBack 104 = .ok (.bipush 6, 2) := by decide +kernel
theorem dX0_takeBack_106 : decode cX0_takeBack 106 = .ok (.aload_n 2, 1) := by decide +kernel
theorem dX0_takeBack_107 : decode cX0_takeBack 107 = .ok (.iconst 3, 1) := by decide +kernel
theorem dX0_takeBack_108 : decode cX0_takeBack 108 = .ok (.iaload, 1) := by decide +kernel
theorem dX0_takeBack_109 : decode cX0_takeBack 109 = .ok (.iastore, 1) := by decide +kernel
theorem dX0_takeBack_110 : decode cX0_takeBack 110 = .ok (.goto 99, 3) := by decide +kernel
theorem dX0_takeBack_113 : decode cX0_takeBack 113 = .ok (.aload_n 1, 1) := by decide +kernel
theorem dX0_takeBack_114 : decode cX0_takeBack 114 = .ok (.aload_n 2, 1) := by decide +kernel
theorem dX0_takeBack_115 : decode cX0_takeBack 115 = .ok (.iconst 1, 1) := by decide +kernel
theorem dX0_takeBack_116 : decode cX0_takeBack 116 = .ok (.iaload, 1) := by decide +kernel
theorem dX0_takeBack_117 : decode cX0_takeBack 117 = .ok (.aload_n 2, 1) := by decide +kernel
theorem dX0_takeBack_118 : decode cX0_takeBack 118 = .ok (.iconst 2, 1) := by decide +kernel
theorem dX0_takeBack_119 : decode cX0_takeBack 119 = .ok (.iaload, 1) := by decide +kernel
theorem dX0_takeBack_120 : decode cX0_takeBack 120 = .ok (.aload_n 2, 1) := by decide +kernel
theorem dX0_takeBack_121 : decode cX0_takeBack 121 = .ok (.iconst 3, 1) := by decide +kernel
theorem dX0_takeBack_122 : decode cX0_takeBack 122 = .ok (.iaload, 1) := by decide +kernel
theorem dX0_takeBack_123 : decode cX0_takeBack 123 = .ok (.iconst 1, 1) := by decide +kernel
theorem dX0_takeBack_124 : decode cX0_takeBack 124 = .ok (.if_icmp .ne 7, 3) := by decide +kernel
theorem dX0_takeBack_127 : decode cX0_takeBack 127 = .ok (.iconst 1, 1) := by decide +kernel
theorem dX0_takeBack_128 : decode cX0_takeBack 128 = .ok (.goto 4, 3) := by decide +kernel
theorem dX0_takeBack_131 : decode cX0_takeBack 131 = .ok (.iconst 0, 1) := by decide +kernel
theorem dX0_takeBack_132 : decode cX0_takeBack 132 = .ok (.invokevirtual 34, 3) := by decide +kernel
theorem dX0_takeBack_135 : decode cX0_takeBack 135 = .ok (.goto 74, 3) := by decide +kernel
theorem dX0_takeBack_138 : decode cX0_takeBack 138 = .ok (.aload_n 1, 1) := by decide +kernel
theorem dX0_takeBack_139 : decode cX0_takeBack 139 = .ok (.getfield 38, 3) := by decide +kernel
theorem dX0_takeBack_142 : decode cX0_takeBack 142 = .ok (.bipush 6, 2) := by decide +kernel
theorem dX0_takeBack_144 : decode cX0_takeBack 144 = .ok (.aload_n 2, 1) := by decide +kernel
theorem dX0_takeBack_145 : decode cX0_takeBack 145 = .ok (.iconst 1, 1) := by decide +kernel
theorem dX0_takeBack_146 : decode cX0_takeBack 146 = .ok (.iaload, 1) := by decide +kernel
theorem dX0_takeBack_147 : decode cX0_takeBack 147 = .ok (.iadd, 1) := by decide +kernel
theorem dX0_takeBack_148 : decode cX0_takeBack 148 = .ok (.aload_n 2, 1) := by decide +kernel
theorem dX0_takeBack_149 : decode cX0_takeBack 149 = .ok (.iconst 3, 1) := by decide +kernel
theorem dX0_takeBack_150 : decode cX0_takeBack 150 = .ok (.iaload, 1) := by decide +kernel
theorem dX0_takeBack_151 : decode cX0_takeBack 151 = .ok (.iastore, 1) := by decide +kernel
theorem dX0_takeBack_152 : decode cX0_takeBack 152 = .ok (.goto 57, 3) := by decide +kernel
theorem dX0_takeBack_155 : decode cX0_takeBack 155 = .ok (.aload_n 1, 1) := by decide +kernel
theorem dX0_takeBack_156 : decode cX0_takeBack 156 = .ok (.getfield 38, 3) := by decide +kernel
theorem dX0_takeBack_159 : decode cX0_takeBack 159 = .ok (.bipush 10, 2) := by decide +kernel
theorem dX0_takeBack_161 : decode cX0_takeBack 161 = .ok (.aload_n 2, 1) := by decide +kernel
theorem dX0_takeBack_162 : decode cX0_takeBack 162 = .ok (.iconst 3, 1) := by decide +kernel
theorem dX0_takeBack_163 : decode cX0_takeBack 163 = .ok (.iaload, 1) := by decide +kernel
theorem dX0_takeBack_164 : decode cX0_takeBack 164 = .ok (.iastore, 1) := by decide +kernel
theorem dX0_takeBack_165 : decode cX0_takeBack 165 = .ok (.goto 44, 3) := by decide +kernel
theorem dX0_takeBack_168 : decode cX0_takeBack 168 = .ok (.aload_n 1, 1) := by decide +kernel
theorem dX0_takeBack_169 : decode cX0_takeBack 169 = .ok (.getfield 38, 3) := by decide +kernel
theorem dX0_takeBack_172 : decode cX0_takeBack 172 = .ok (.iconst 4, 1) := by decide +kernel
theorem dX0_takeBack_173 : decode cX0_takeBack 173 = .ok (.aload_n 2, 1) := by decide +kernel
theorem dX0_takeBack_174 : decode cX0_takeBack 174 = .ok (.iconst 3, 1) := by decide +kernel
theorem dX0_takeBack_175 : decode cX0_takeBack 175 = .ok (.iaload, 1) := by decide +kernel
theorem dX0_takeBack_176 : decode cX0_takeBack 176 = .ok (.iastore, 1) := by decide +kernel
theorem dX0_takeBack_177 : decode cX0_takeBack 177 = .ok (.goto 32, 3) := by decide +kernel
theorem dX0_takeBack_180 : decode cX0_takeBack 180 = .ok (.aload_n 1, 1) := by decide +kernel
theorem dX0_takeBack_181 : decode cX0_takeBack 181 = .ok (.getfield 42, 3) := by decide +kernel
theorem dX0_takeBack_184 : decode cX0_takeBack 184 = .ok (.aload_n 2, 1) := by decide +kernel
theorem dX0_takeBack_185 : decode cX0_takeBack 185 = .ok (.iconst 1, 1) := by decide +kernel
theorem dX0_takeBack_186 : decode cX0_takeBack 186 = .ok (.iaload, 1) := by decide +kernel
theorem dX0_takeBack_187 : decode cX0_takeBack 187 = .ok (.aaload, 1) := by decide +kernel
theorem dX0_takeBack_188 : decode cX0_takeBack 188 = .ok (.iconst 1, 1) := by decide +kernel
theorem dX0_takeBack_189 : decode cX0_takeBack 189 = .ok (.aload_n 2, 1) := by decide +kernel
theorem dX0_takeBack_190 : decode cX0_takeBack 190 = .ok (.iconst 3, 1) := by decide +kernel
theorem dX0_takeBack_191 : decode cX0_takeBack 191 = .ok (.iaload, 1) := by decide +kernel
theorem dX0_takeBack_192 : decode cX0_takeBack 192 = .ok (.iastore, 1) := by decide +kernel
theorem dX0_takeBack_193 : decode cX0_takeBack 193 = .ok (.goto 16, 3) := by decide +kernel
theorem dX0_takeBack_196 : decode cX0_takeBack 196 = .ok (.aload_n 1, 1) := by decide +kernel
theorem dX0_takeBack_197 : decode cX0_takeBack 197 = .ok (.getfield 45, 3) := by decide +kernel
theorem dX0_takeBack_200 : decode cX0_takeBack 200 = .ok (.aload_n 2, 1) := by decide +kernel
theorem dX0_takeBack_201 : decode cX0_takeBack 201 = .ok (.iconst 1, 1) := by decide +kernel
theorem dX0_takeBack_202 : decode cX0_takeBack 202 = .ok (.iaload, 1) := by decide +kernel
theorem dX0_takeBack_203 : decode cX0_takeBack 203 = .ok (.aaload, 1) := by decide +kernel
theorem dX0_takeBack_204 : decode cX0_takeBack 204 = .ok (.iconst 1, 1) := by decide +kernel
theorem dX0_takeBack_205 : decode cX0_takeBack 205 = .ok (.aload_n 2, 1) := by decide +kernel
theorem dX0_takeBack_206 : decode cX0_takeBack 206 = .ok (.iconst 3, 1) := by decide +kernel
theorem dX0_takeBack_207 : decode cX0_takeBack 207 = .ok (.iaload, 1) := by decide +kernel
theorem dX0_takeBack_208 : decode cX0_takeBack 208 = .ok (.iastore, 1) := by decide +kernel
theorem dX0_takeBack_209 : decode cX0_takeBack 209 = .ok (.return_, 1) := by decide +kernel
theorem dX1_init_0 : decode cX1_init 0 = .ok (.aload_n 0, 1) := by decide +kernel
theorem dX1_init_1 : decode cX1_init 1 = .ok (.invokespecial 3, 3) := by decide +kernel
theorem dX1_init_4 : decode cX1_init 4 = .ok (.aload_n 0, 1) := by decide +kernel
theorem dX1_init_5 : decode cX1_init 5 = .ok (.bipush 10, 2) := by decide +kernel
theorem dX1_init_7 : decode cX1_init 7 = .ok (.newarray .int, 2) := by decide +kernel
theorem dX1_init_9 : decode cX1_init 9 = .ok (.putfield 9, 3) := by decide +kernel
theorem dX1_init_12 : decode cX1_init 12 = .ok (.aload_n 0, 1) := by decide +kernel
theorem dX1_init_13 : decode cX1_init 13 = .ok (.bipush 11, 2) := by decide +kernel
theorem dX1_init_15 : decode cX1_init 15 = .ok (.newarray .long, 2) := by decide +kernel
theorem dX1_init_17 : decode cX1_init 17 = .ok (.putfield 15, 3) := by decide +kernel
theorem dX1_init_20 : decode cX1_init 20 = .ok (.aload_n 0, 1) := by decide +kernel
theorem dX1_init_21 : decode cX1_init 21 = .ok (.bipush 6, 2) := by decide +kernel
theorem dX1_init_23 : decode cX1_init 23 = .ok (.newarray .int, 2) := by decide +kernel
theorem dX1_init_25 : decode cX1_init 25 = .ok (.putfield 19, 3) := by decide +kernel
theorem dX1_init_28 : decode cX1_init 28 = .ok (.aload_n 0, 1) := by decide +kernel
theorem dX1_init_29 : decode cX1_init 29 = .ok (.aload_n 1, 1) := by decide +kernel
theorem dX1_init_30 : decode cX1_init 30 = .ok (.putfield 22, 3) := by decide +kernel
theorem dX1_init_33 : decode cX1_init 33 = .ok (.aload_n 0, 1) := by decide +kernel
theorem dX1_init_34 : decode cX1_init 34 = .ok (.aload_n 2, 1) := by decide +kernel
theorem dX1_init_35 : decode cX1_init 35 = .ok (.putfield 26, 3) := by decide +kernel
theorem dX1_init_38 : decode cX1_init 38 = .ok (.return_, 1) := by decide +kernel
theorem dX1_look_0 : decode cX1_look 0 = .ok (.aload_n 0, 1) := by decide +kernel
theorem dX1_look_1 : decode cX1_look 1 = .ok (.getfield 26, 3) := by decide +kernel
theorem dX1_look_4 : decode cX1_look 4 = .ok (.iload_n 1, 1) := by decide +kernel
theorem dX1_look_5 : decode cX1_look 5 = .ok (.invokevirtual 30, 3) := by decide +kernel
theorem dX1_look_8 : decode cX1_look 8 = .ok (.iconst 0, 1) := by decide +kernel
theorem dX1_look_9 : decode cX1_look 9 = .ok (.istore_n 2, 1) := by decide +kernel
theorem dX1_look_10 : decode cX1_look 10 = .ok (.iload_n 2, 1) := by decide +kernel
theorem dX1_look_11 : decode cX1_look 11 = .ok (.aload_n 0, 1) := by decide +kernel
theorem dX1_look_12 : decode cX1_look 12 = .ok (.getfield 22, 3) := by decide +kernel
theorem dX1_look_15 : decode cX1_look 15 = .ok (.getfield 36, 3) := by decide +kernel
theorem dX1_look_18 : decode cX1_look 18 = .ok (.iconst 3, 1) := by decide +kernel
theorem dX1_look_19 : decode cX1_look 19 = .ok (.iaload, 1) := by decide +kernel
theorem dX1_look_20 : decode cX1_look 20 = .ok (.if_icmp .ge 20, 3) := by decide +kernel
theorem dX1_look_23 : decode cX1_look 23 = .ok (.aload_n 0, 1) := by decide +kernel
theorem dX1_look_24 : decode cX1_look 24 = .ok (.getfield 9, 3) := by decide +kernel
theorem dX1_look_27 : decode cX1_look 27 = .ok (.iload_n 2, 1) := by decide +kernel
theorem dX1_look_28 : decode cX1_look 28 = .ok (.aload_n 0, 1) := by decide +kernel
theorem dX1_look_29 : decode cX1_look 29 = .ok (.iload_n 2, 1) := by decide +kernel
theorem dX1_look_30 : decode cX1_look 30 = .ok (.invokevirtual 41, 3) := by decide +kernel
theorem dX1_look_33 : decode cX1_look 33 = .ok (.iastore, 1) := by decide +kernel
theorem dX1_look_34 : decode cX1_look 34 = .ok (.iinc 2 1, 3) := by decide +kernel
theorem dX1_look_37 : decode cX1_look 37 = .ok (.goto (-27), 3) := by decide +kernel
theorem dX1_look_40 : decode cX1_look 40 = .ok (.return_, 1) := by decide +kernel
theorem dX1_judge_0 : decode cX1_judge 0 = .ok (.aload_n 0, 1) := by decide +kernel
theorem dX1_judge_1 : decode cX1_judge 1 = .ok (.getfield 22, 3) := by decide +kernel
theorem dX1_judge_4 : decode cX1_judge 4 = .ok (.getfield 45, 3) := by decide +kernel
theorem dX1_judge_7 : decode cX1_judge 7 = .ok (.iload_n 1, 1) := by decide +kernel
theorem dX1_judge_8 : decode cX1_judge 8 = .ok (.aaload, 1) := by decide +kernel
theorem dX1_judge_9 : decode cX1_judge 9 = .ok (.bipush 6, 2) := by decide +kernel
theorem dX1_judge_11 : decode cX1_judge 11 = .ok (.iaload, 1) := by decide +kernel
theorem dX1_judge_12 : decode cX1_judge 12 = .ok (.ifCond .eq 6, 3) := by decide +kernel
theorem dX1_judge_15 : decode cX1_judge 15 = .ok (.bipush 11, 2) := by decide +kernel
theorem dX1_judge_17 : decode cX1_judge 17 = .ok (.ireturn, 1) := by decide +kernel
theorem dX1_judge_18 : decode cX1_judge 18 = .ok (.aload_n 0, 1) := by decide +kernel
theorem dX1_judge_19 : decode cX1_judge 19 = .ok (.getfield 26, 3) := by decide +kernel
theorem dX1_judge_22 : decode cX1_judge 22 = .ok (.iload_n 1, 1) := by decide +kernel
theorem dX1_judge_23 : decode cX1_judge 23 = .ok (.invokevirtual 49, 3) := by decide +kernel
theorem dX1_judge_26 : decode cX1_judge 26 = .ok (.ifCond .ne 5, 3) := by decide +kernel
theorem dX1_judge_29 : decode cX1_judge 29 = .ok (.iconst 0, 1) := by decide +kernel
theorem dX1_judge_30 : decode cX1_judge 30 = .ok (.ireturn, 1) := by decide +kernel
theorem dX1_judge_31 : decode cX1_judge 31 = .ok (.aload_n 0, 1) := by decide +kernel
theorem dX1_judge_32 : decode cX1_judge 32 = .ok (.iload_n 1, 1) := by decide +kernel
theorem dX1_judge_33 : decode cX1_judge 33 = .ok (.invokevirtual 53, 3) := by decide +kernel
theorem dX1_judge_36 : decode cX1_judge 36 = .ok (.aload_n 0, 1) := by decide +kernel
theorem dX1_judge_37 : decode cX1_judge 37 = .ok (.getfield 56, 3) := by decide +kernel
theorem dX1_judge_40 : decode cX1_judge 40 = .ok (.ifCond .ne 6, 3) := by decide +kernel
theorem dX1_judge_43 : decode cX1_judge 43 = .ok (.bipush 12, 2) := by decide +kernel
theorem dX1_judge_45 : decode cX1_judge 45 = .ok (.ireturn, 1) := by decide +kernel
theorem dX1_judge_46 : decode cX1_judge 46 = .ok (.aload_n 0, 1) := by decide +kernel
theorem dX1_judge_47 : decode cX1_judge 47 = .ok (.iload_n 1, 1) := by decide +kernel
theorem dX1_judge_48 : decode cX1_judge 48 = .ok (.invokevirtual 60, 3) := by decide +kernel
theorem dX1_judge_51 : decode cX1_judge 51 = .ok (.ifCond .eq 7, 3) := by decide +kernel
theorem dX1_judge_54 : decode cX1_judge 54 = .ok (.iconst 0, 1) := by decide +kernel
theorem dX1_judge_55 : decode cX1_judge 55 = .ok (.goto 5, 3) := by decide +kernel
theorem dX1_judge_58 : decode cX1_judge 58 = .ok (.bipush 13, 2) := by decide +kernel
theorem dX1_judge_60 : decode cX1_judge 60 = .ok (.ireturn, 1) := by decide +kernel
theorem dX1_gatherTests_0 : decode cX1_gatherTests 0 = .ok (.aload_n 0, 1) := by decide +kernel
theorem dX1_gatherTests_1 : decode cX1_gatherTests 1 = .ok (.iconst 0, 1) := by decide +kernel
theorem dX1_gatherTests_2 : decode cX1_gatherTests 2 = .ok (.putfield 56, 3) := by decide +kernel
theorem dX1_gatherTests_5 : decode cX1_gatherTests 5 = .ok (.iconst 0, 1) := by decide +kernel
theorem dX1_gatherTests_6 : decode cX1_gatherTests 6 = .ok (.istore_n 2, 1) := by decide +kernel
theorem dX1_gatherTests_7 : decode cX1_gatherTests 7 = .ok (.iload_n 2, 1) := by decide +kernel
theorem dX1_gatherTests_8 : decode cX1_gatherTests 8 = .ok (.aload_n 0, 1) := by decide +kernel
theorem dX1_gatherTests_9 : decode cX1_gatherTests 9 = .ok (.getfield 22, 3) := by decide +kernel
theorem dX1_gatherTests_12 : decode cX1_gatherTests 12 = .ok (.getfield 36, 3) := by decide +kernel
theorem dX1_gatherTests_15 : decode cX1_gatherTests 15 = .ok (.iconst 3, 1) := by decide +kernel
theorem dX1_gatherTests_16 : decode cX1_gatherTests 16 = .ok (.iaload, 1) := by decide +kernel
theorem dX1_gatherTests_17 : decode cX1_gatherTests 17 = .ok (.if_icmp .ge 31, 3) := by decide +kernel
theorem dX1_gatherTests_20 : decode cX1_gatherTests 20 = .ok (.aload_n 0, 1) := by decide +kernel
theorem dX1_gatherTests_21 : decode cX1_gatherTests 21 = .ok (.iload_n 1, 1) := by decide +kernel
theorem dX1_gatherTests_22 : decode cX1_gatherTests 22 = .ok (.iload_n 2, 1) := by decide +kernel
theorem dX1_gatherTests_23 : decode cX1_gatherTests 23 = .ok (.invokevirtual 63, 3) := by decide +kernel
theorem dX1_gatherTests_26 : decode cX1_gatherTests 26 = .ok (.ifCond .eq 16, 3) := by decide +kernel
theorem dX1_gatherTests_29 : decode cX1_gatherTests 29 = .ok (.aload_n 0, 1) := by decide +kernel
theorem dX1_gatherTests_30 : decode cX1_gatherTests 30 = .ok (.aload_n 0, 1) := by decide +kernel
theorem dX1_gatherTests_31 : decode cX1_gatherTests 31 = .ok (.getfield 26, 3) := by decide +kernel
theorem dX1_gatherTests_34 : decode cX1_gatherTests 34 = .ok (.iload_n 1, 1) := by decide +kernel
theorem dX1_gatherTests_35 : decode cX1_gatherTests 35 = .ok (.iload_n 2, 1) := by decide +kernel
theorem dX1_gatherTests_36 : decode cX1_gatherTests 36 = .ok (.invokevirtual 67, 3) := by decide +kernel
theorem dX1_gatherTests_39 : decode cX1_gatherTests 39 = .ok (.invokevirtual 71, 3) := by decide +kernel
theorem dX1_gatherTests_42 : decode cX1_gatherTests 42 = .ok (.iinc 2 1, 3) := by decide +kernel
theorem dX1_gatherTests_45 : decode cX1_gatherTests 45 = .ok (.goto (-38), 3) := by decide +kernel
theorem dX1_gatherTests_48 : decode cX1_gatherTests 48 = .ok (.aload_n 0, 1) := by decide +kernel
theorem dX1_gatherTests_49 : decode cX1_gatherTests 49 = .ok (.aload_n 0, 1) := by decide +kernel
theorem dX1_gatherTests_50 : decode cX1_gatherTests 50 = .ok (.getfield 26, 3) := by decide +kernel
theorem dX1_gatherTests_53 : decode cX1_gatherTests 53 = .ok (.iload_n 1, 1) := by decide +kernel
theorem dX1_gatherTests_54 : decode cX1_gatherTests 54 = .ok (.invokevirtual 75, 3) := by decide +kernel
theorem dX1_gatherTests_57 : decode cX1_gatherTests 57 = .ok (.invokevirtual 71, 3) := by decide +kernel
theorem dX1_gatherTests_60 : decode cX1_gatherTests 60 = .ok (.aload_n 0, 1) := by decide +kernel
theorem dX1_gatherTests_61 : decode cX1_gatherTests 61 = .ok (.aload_n 0, 1) := by decide +kernel
theorem dX1_gatherTests_62 : decode cX1_gatherTests 62 = .ok (.getfield 26, 3) := by decide +kernel
theorem dX1_gatherTests_65 : decode cX1_gatherTests 65 = .ok (.iload_n 1, 1) := by decide +kernel
theorem dX1_gatherTests_66 : decode cX1_gatherTests 66 = .ok (.invokevirtual 79, 3) := by decide +kernel
theorem dX1_gatherTests_69 : decode cX1_gatherTests 69 = .ok (.invokevirtual 71, 3) := by decide +kernel
theorem dX1_gatherTests_72 : decode cX1_gatherTests 72 = .ok (.return_, 1) := by decide +kernel
theorem dX1_isTestFor_0 : decode cX1_isTestFor 0 = .ok (.aload_n 0, 1) := by decide +kernel
theorem dX1_isTestFor_1 : decode cX1_isTestFor 1 = .ok (.getfield 22, 3) := by decide +kernel
theorem dX1_isTestFor_4 : decode cX1_isTestFor 4 = .ok (.getfield 45, 3) := by decide +kernel
theorem dX1_isTestFor_7 : decode cX1_isTestFor 7 = .ok (.iload_n 1, 1) := by decide +kernel
theorem dX1_isTestFor_8 : decode cX1_isTestFor 8 = .ok (.aaload, 1) := by decide +kernel
theorem dX1_isTestFor_9 : decode cX1_isTestFor 9 = .ok (.iconst 0, 1) := by decide +kernel
theorem dX1_isTestFor_10 : decode cX1_isTestFor 10 = .ok (.iaload, 1) := by decide +kernel
theorem dX1_isTestFor_11 : decode cX1_isTestFor 11 = .ok (.istore_n 3, 1) := by decide +kernel
theorem dX1_isTestFor_12 : decode cX1_isTestFor 12 = .ok (.aload_n 0, 1) := by decide +kernel
theorem dX1_isTestFor_13 : decode cX1_isTestFor 13 = .ok (.getfield 22, 3) := by decide +kernel
theorem dX1_isTestFor_16 : decode cX1_isTestFor 16 = .ok (.getfield 45, 3) := by decide +kernel
theorem dX1_isTestFor_19 : decode cX1_isTestFor 19 = .ok (.iload_n 2, 1) := by decide +kernel
theorem dX1_isTestFor_20 : decode cX1_isTestFor 20 = .ok (.aaload, 1) := by decide +kernel
theorem dX1_isTestFor_21 : decode cX1_isTestFor 21 = .ok (.iconst 0, 1) := by decide +kernel
theorem dX1_isTestFor_22 : decode cX1_isTestFor 22 = .ok (.iaload, 1) := by decide +kernel
theorem dX1_isTestFor_23 : decode cX1_isTestFor 23 = .ok (.istore 4, 2) := by decide +kernel
theorem dX1_isTestFor_25 : decode cX1_isTestFor 25 = .ok (.aload_n 0, 1) := by decide +kernel
theorem dX1_isTestFor_26 : decode cX1_isTestFor 26 = .ok (.getfield 26, 3) := by decide +kernel
theorem dX1_isTestFor_29 : decode cX1_isTestFor 29 = .ok (.iload_n 1, 1) := by decide +kernel
theorem dX1_isTestFor_30 : decode cX1_isTestFor 30 = .ok (.iload_n 2, 1) := by decide +kernel
theorem dX1_isTestFor_31 : decode cX1_isTestFor 31 = .ok (.invokevirtual 82, 3) := by decide +kernel
theorem dX1_isTestFor_34 : decode cX1_isTestFor 34 = .ok (.ifCond .eq 64, 3) := by decide +kernel
theorem dX1_isTestFor_37 : decode cX1_isTestFor 37 = .ok (.aload_n 0, 1) := by decide +kernel
theorem dX1_isTestFor_38 : decode cX1_isTestFor 38 = .ok (.getfield 22, 3) := by decide +kernel
theorem dX1_isTestFor_41 : decode cX1_isTestFor 41 = .ok (.getfield 45, 3) := by decide +kernel
theorem dX1_isTestFor_44 : decode cX1_isTestFor 44 = .ok (.iload_n 2, 1) := by decide +kernel
theorem dX1_isTestFor_45 : decode cX1_isTestFor 45 = .ok (.aaload, 1) := by decide +kernel
theorem dX1_isTestFor_46 : decode cX1_isTestFor 46 = .ok (.bipush 6, 2) := by decide +kernel
theorem dX1_isTestFor_48 : decode cX1_isTestFor 48 = .ok (.iaload, 1) := by decide +kernel
theorem dX1_isTestFor_49 : decode cX1_isTestFor 49 = .ok (.ifCond .ne 49, 3) := by decide +kernel
theorem dX1_isTestFor_52 : decode cX1_isTestFor 52 = .ok (.aload_n 0, 1) := by decide +kernel
theorem dX1_isTestFor_53 : decode cX1_isTestFor 53 = .ok (.getfield 26, 3) := by decide +kernel
theorem dX1_isTestFor_56 : decode cX1_isTestFor 56 = .ok (.iload_n 2, 1) := by decide +kernel
theorem dX1_isTestFor_57 : decode cX1_isTestFor 57 = .ok (.invokevirtual 49, 3) := by decide +kernel
theorem dX1_isTestFor_60 : decode cX1_isTestFor 60 = .ok (.ifCond .ne 38, 3) := by decide +kernel
theorem dX1_isTestFor_63 : decode cX1_isTestFor 63 = .ok (.iload_n 3, 1) := by decide +kernel
theorem dX1_isTestFor_64 : decode cX1_isTestFor 64 = .ok (.iload 4, 2) := by decide +kernel
theorem dX1_isTestFor_66 : decode cX1_isTestFor 66 = .ok (.if_icmp .eq 16, 3) := by decide +kernel
theorem dX1_isTestFor_69 : decode cX1_isTestFor 69 = .ok (.aload_n 0, 1) := by decide +kernel
theorem dX1_isTestFor_70 : decode cX1_isTestFor 70 = .ok (.getfield 22, 3) := by decide +kernel
theorem dX1_isTestFor_73 : decode cX1_isTestFor 73 = .ok (.iload_n 3, 1) := by decide +kernel
theorem dX1_isTestFor_74 : decode cX1_isTestFor 74 = .ok (.iload 4, 2) := by decide +kernel
theorem dX1_isTestFor_76 : decode cX1_isTestFor 76 = .ok (.invokevirtual 85, 3) := by decide +kernel
theorem dX1_isTestFor_79 : decode cX1_isTestFor 79 = .ok (.ifCond .eq 19, 3) := by decide +kernel
theorem dX1_isTestFor_82 : decode cX1_isTestFor 82 = .ok (.aload_n 0, 1) := by decide +kernel
theorem dX1_isTestFor_83 : decode cX1_isTestFor 83 = .ok (.getfield 26, 3) := by decide +kernel
theorem dX1_isTestFor_86 : decode cX1_isTestFor 86 = .ok (.iload_n 1, 1) := by decide +kernel
theorem dX1_isTestFor_87 : decode cX1_isTestFor 87 = .ok (.iload_n 2, 1) := by decide +kernel
theorem dX1_isTestFor_88 : decode cX1_isTestFor 88 = .ok (.invokevirtual 88, 3) := by decide +kernel
theorem dX1_isTestFor_91 : decode cX1_isTestFor 91 = .ok (.ifCond .eq 7, 3) := by decide +kernel
theorem dX1_isTestFor_94 : decode cX1_isTestFor 94 = .ok (.iconst 1, 1) := by decide +kernel
theorem dX1_isTestFor_95 : decode cX1_isTestFor 95 = .ok (.goto 4, 3) := by decide +kernel
theorem dX1_isTestFor_98 : decode cX1_isTestFor 98 = .ok (.iconst 0, 1) := by decide +kernel
theorem dX1_isTestFor_99 : decode cX1_isTestFor 99 = .ok (.ireturn, 1) := by decide +kernel
theorem dX1_addTest_0 : decode cX1_addTest 0 = .ok (.lload_n 1, 1) := by decide +kernel
theorem dX1_addTest_1 : decode cX1_addTest 1 = .ok (.ldc2_w 91, 3) := by decide +kernel
theorem dX1_addTest_4 : decode cX1_addTest 4 = .ok (.lcmp, 1) := by decide +kernel
theorem dX1_addTest_5 : decode cX1_addTest 5 = .ok (.ifCond .eq 32, 3) := by decide +kernel
theorem dX1_addTest_8 : decode cX1_addTest 8 = .ok (.aload_n 0, 1) := by decide +kernel
theorem dX1_addTest_9 : decode cX1_addTest 9 = .ok (.getfield 56, 3) := by decide +kernel
theorem dX1_addTest_12 : decode cX1_addTest 12 = .ok (.bipush 11, 2) := by decide +kernel
theorem dX1_addTest_14 : decode cX1_addTest 14 = .ok (.if_icmp .ge 23, 3) := by decide +kernel
theorem dX1_addTest_17 : decode cX1_addTest 17 = .ok (.aload_n 0, 1) := by decide +kernel
theorem dX1_addTest_18 : decode cX1_addTest 18 = .ok (.getfield 15, 3) := by decide +kernel
theorem dX1_addTest_21 : decode cX1_addTest 21 = .ok (.aload_n 0, 1) := by decide +kernel
theorem dX1_addTest_22 : decode cX1_addTest 22 = .ok (.getfield 56, 3) := by decide +kernel
theorem dX1_addTest_25 : decode cX1_addTest 25 = .ok (.lload_n 1, 1) := by decide +kernel
theorem dX1_addTest_26 : decode cX1_addTest 26 = .ok (.lastore, 1) := by decide +kernel
theorem dX1_addTest_27 : decode cX1_addTest 27 = .ok (.aload_n 0, 1) := by decide +kernel
theorem dX1_addTest_28 : decode cX1_addTest 28 = .ok (.dup, 1) := by decide +kernel
theorem dX1_addTest_29 : decode cX1_addTest 29 = .ok (.getfield 56, 3) := by decide +kernel
theorem dX1_addTest_32 : decode cX1_addTest 32 = .ok (.iconst 1, 1) := by decide +kernel
theorem dX1_addTest_33 : decode cX1_addTest 33 = .ok (.iadd, 1) := by decide +kernel
theorem dX1_addTest_34 : decode cX1_addTest 34 = .ok (.putfield 56, 3) := by decide +kernel
theorem dX1_addTest_37 : decode cX1_addTest 37 = .ok (.return_, 1) := by decide +kernel
theorem dX1_isNearATest_0 : decode cX1_isNearATest 0 = .ok (.iconst 0, 1) := by decide +kernel
theorem dX1_isNearATest_1 : decode cX1_isNearATest 1 = .ok (.istore_n 2, 1) := by decide +kernel
theorem dX1_isNearATest_2 : decode cX1_isNearATest 2 = .ok (.iload_n 2, 1) := by decide +kernel
theorem dX1_isNearATest_3 : decode cX1_isNearATest 3 = .ok (.aload_n 0, 1) := by decide +kernel
theorem dX1_isNearATest_4 : decode cX1_isNearATest 4 = .ok (.getfield 56, 3) := by decide +kernel
theorem dX1_isNearATest_7 : decode cX1_isNearATest 7 = .ok (.if_icmp .ge 47, 3) := by decide +kernel
theorem dX1_isNearATest_10 : decode cX1_isNearATest 10 = .ok (.aload_n 0, 1) := by decide +kernel
theorem dX1_isNearATest_11 : decode cX1_isNearATest 11 = .ok (.getfield 26, 3) := by decide +kernel
theorem dX1_isNearATest_14 : decode cX1_isNearATest 14 = .ok (.getfield 93, 3) := by decide +kernel
theorem dX1_isNearATest_17 : decode cX1_isNearATest 17 = .ok (.iload_n 1, 1) := by decide +kernel
theorem dX1_isNearATest_18 : decode cX1_isNearATest 18 = .ok (.laload, 1) := by decide +kernel
theorem dX1_isNearATest_19 : decode cX1_isNearATest 19 = .ok (.aload_n 0, 1) := by decide +kernel
theorem dX1_isNearATest_20 : decode cX1_isNearATest 20 = .ok (.getfield 15, 3) := by decide +kernel
theorem dX1_isNearATest_23 : decode cX1_isNearATest 23 = .ok (.iload_n 2, 1) := by decide +kernel
theorem dX1_isNearATest_24 : decode cX1_isNearATest 24 = .ok (.laload, 1) := by decide +kernel
theorem dX1_isNearATest_25 : decode cX1_isNearATest 25 = .ok (.lsub, 1) := by decide +kernel
theorem dX1_isNearATest_26 : decode cX1_isNearATest 26 = .ok (.invokestatic 96, 3) := by decide +kernel
theorem dX1_isNearATest_29 : decode cX1_isNearATest 29 = .ok (.aload_n 0, 1) := by decide +kernel
theorem dX1_isNearATest_30 : decode cX1_isNearATest 30 = .ok (.getfield 26, 3) := by decide +kernel
theorem dX1_isNearATest_33 : decode cX1_isNearATest 33 = .ok (.aload_n 0, 1) := by decide +kernel
theorem dX1_isNearATest_34 : decode cX1_isNearATest 34 = .ok (.getfield 15, 3) := by decide +kernel
theorem dX1_isNearATest_37 : decode cX1_isNearATest 37 = .ok (.iload_n 2, 1) := by decide +kernel
theorem dX1_isNearATest_38 : decode cX1_isNearATest 38 = .ok (.laload, 1) := by decide +kernel
theorem dX1_isNearATest_39 : decode cX1_isNearATest 39 = .ok (.invokevirtual 102, 3) := by decide +kernel
theorem dX1_isNearATest_42 : decode cX1_isNearATest 42 = .ok (.lcmp, 1) := by decide +kernel
theorem dX1_isNearATest_43 : decode cX1_isNearATest 43 = .ok (.ifCond .gt 5, 3) := by decide +kernel
theorem dX1_isNearATest_46 : decode cX1_isNearATest 46 = .ok (.iconst 1, 1) := by decide +kernel
theorem dX1_isNearATest_47 : decode cX1_isNearATest 47 = .ok (.ireturn, 1) := by decide +kernel
theorem dX1_isNearATest_48 : decode cX1_isNearATest 48 = .ok (.iinc 2 1, 3) := by decide +kernel
theorem dX1_isNearATest_51 : decode cX1_isNearATest 51 = .ok (.goto (-49), 3) := by decide +kernel
theorem dX1_isNearATest_54 : decode cX1_isNearATest 54 = .ok (.iconst 0, 1) := by decide +kernel
theorem dX1_isNearATest_55 : decode cX1_isNearATest 55 = .ok (.ireturn, 1) := by decide +kernel
theorem dX1_leastNear_0 : decode cX1_leastNear 0 = .ok (.ldc2_w 105, 3) := by decide +kernel
theorem dX1_leastNear_3 : decode cX1_leastNear 3 = .ok (.lstore_n 2, 1) := by decide +kernel
theorem dX1_leastNear_4 : decode cX1_leastNear 4 = .ok (.iconst 0, 1) := by decide +kernel
theorem dX1_leastNear_5 : decode cX1_leastNear 5 = .ok (.istore 4, 2) := by decide +kernel
theorem dX1_leastNear_7 : decode cX1_leastNear 7 = .ok (.iload 4, 2) := by decide +kernel
theorem dX1_leastNear_9 : decode cX1_leastNear 9 = .ok (.aload_n 0, 1) := by decide +kernel
theorem dX1_leastNear_10 : decode cX1_leastNear 10 = .ok (.getfield 56, 3) := by decide +kernel
theorem dX1_leastNear_13 : decode cX1_leastNear 13 = .ok (.if_icmp .ge 74, 3) := by decide +kernel
theorem dX1_leastNear_16 : decode cX1_leastNear 16 = .ok (.aload_n 0, 1) := by decide +kernel
theorem dX1_leastNear_17 : decode cX1_leastNear 17 = .ok (.getfield 15, 3) := by decide +kernel
theorem dX1_leastNear_20 : decode cX1_leastNear 20 = .ok (.iload 4, 2) := by decide +kernel
theorem dX1_leastNear_22 : decode cX1_leastNear 22 = .ok (.laload, 1) := by decide +kernel
theorem dX1_leastNear_23 : decode cX1_leastNear 23 = .ok (.lconst 0, 1) := by decide +kernel
theorem dX1_leastNear_24 : decode cX1_leastNear 24 = .ok (.lcmp, 1) := by decide +kernel
theorem dX1_leastNear_25 : decode cX1_leastNear 25 = .ok (.ifCond .le 56, 3) := by decide +kernel
theorem dX1_leastNear_28 : decode cX1_leastNear 28 = .ok (.aload_n 0, 1) := by decide +kernel
theorem dX1_leastNear_29 : decode cX1_leastNear 29 = .ok (.getfield 26, 3) := by decide +kernel
theorem dX1_leastNear_32 : decode cX1_leastNear 32 = .ok (.getfield 93, 3) := by decide +kernel
theorem dX1_leastNear_35 : decode cX1_leastNear 35 = .ok (.iload_n 1, 1) := by decide +kernel
theorem dX1_leastNear_36 : decode cX1_leastNear 36 = .ok (.laload, 1) := by decide +kernel
theorem dX1_leastNear_37 : decode cX1_leastNear 37 = .ok (.aload_n 0, 1) := by decide +kernel
theorem dX1_leastNear_38 : decode cX1_leastNear 38 = .ok (.getfield 15, 3) := by decide +kernel
theorem dX1_leastNear_41 : decode cX1_leastNear 41 = .ok (.iload 4, 2) := by decide +kernel
theorem dX1_leastNear_43 : decode cX1_leastNear 43 = .ok (.laload, 1) := by decide +kernel
theorem dX1_leastNear_44 : decode cX1_leastNear 44 = .ok (.lsub, 1) := by decide +kernel
theorem dX1_leastNear_45 : decode cX1_leastNear 45 = .ok (.invokestatic 96, 3) := by decide +kernel
theorem dX1_leastNear_48 : decode cX1_leastNear 48 = .ok (.lstore 5, 2) := by decide +kernel
theorem dX1_leastNear_50 : decode cX1_leastNear 50 = .ok (.lload_n 2, 1) := by decide +kernel
theorem dX1_leastNear_51 : decode cX1_leastNear 51 = .ok (.lload 5, 2) := by decide +kernel
theorem dX1_leastNear_53 : decode cX1_leastNear 53 = .ok (.ldc2_w 107, 3) := by decide +kernel
theorem dX1_leastNear_56 : decode cX1_leastNear 56 = .ok (.lmul, 1) := by decide +kernel
theorem dX1_leastNear_57 : decode cX1_leastNear 57 = .ok (.aload_n 0, 1) := by decide +kernel
theorem dX1_leastNear_58 : decode cX1_leastNear 58 = .ok (.getfield 15, 3) := by decide +kernel
theorem dX1_leastNear_61 : decode cX1_leastNear 61 = .ok (.iload 4, 2) := by decide +kernel
theorem dX1_leastNear_63 : decode cX1_leastNear 63 = .ok (.laload, 1) := by decide +kernel
theorem dX1_leastNear_64 : decode cX1_leastNear 64 = .ok (.ladd, 1) := by decide +kernel
theorem dX1_leastNear_65 : decode cX1_leastNear 65 = .ok (.lconst 1, 1) := by decide +kernel
theorem dX1_leastNear_66 : decode cX1_leastNear 66 = .ok (.lsub, 1) := by decide +kernel
theorem dX1_leastNear_67 : decode cX1_leastNear 67 = .ok (.aload_n 0, 1) := by decide +kernel
theorem dX1_leastNear_68 : decode cX1_leastNear 68 = .ok (.getfield 15, 3) := by decide +kernel
theorem dX1_leastNear_71 : decode cX1_leastNear 71 = .ok (.iload 4, 2) := by decide +kernel
theorem dX1_leastNear_73 : decode cX1_leastNear 73 = .ok (.laload, 1) := by decide +kernel
theorem dX1_leastNear_74 : decode cX1_leastNear 74 = .ok (.invokestatic 109, 3) := by decide +kernel
theorem dX1_leastNear_77 : decode cX1_leastNear 77 = .ok (.invokestatic 113, 3) := by decide +kernel
theorem dX1_leastNear_80 : decode cX1_leastNear 80 = .ok (.lstore_n 2, 1) := by decide +kernel
theorem dX1_leastNear_81 : decode cX1_leastNear 81 = .ok (.iinc 4 1, 3) := by decide +kernel
theorem dX1_leastNear_84 : decode cX1_leastNear 84 = .ok (.goto (-77), 3) := by decide +kernel
theorem dX1_leastNear_87 : decode cX1_leastNear 87 = .ok (.lload_n 2, 1) := by decide +kernel
theorem dX1_leastNear_88 : decode cX1_leastNear 88 = .ok (.ldc2_w 116, 3) := by decide +kernel
theorem dX1_leastNear_91 : decode cX1_leastNear 91 = .ok (.lcmp, 1) := by decide +kernel
theorem dX1_leastNear_92 : decode cX1_leastNear 92 = .ok (.ifCond .le 8, 3) := by decide +kernel
theorem dX1_leastNear_95 : decode cX1_leastNear 95 = .ok (.bipush (-2), 2) := by decide +kernel
theorem dX1_leastNear_97 : decode cX1_leastNear 97 = .ok (.goto 5, 3) := by decide +kernel
theorem dX1_leastNear_100 : decode cX1_leastNear 100 = .ok (.lload_n 2, 1) := by decide +kernel
theorem dX1_leastNear_101 : decode cX1_leastNear 101 = .ok (.l2i, 1) := by decide +kernel
theorem dX1_leastNear_102 : decode cX1_leastNear 102 = .ok (.ireturn, 1) := by decide +kernel
theorem dX1_ask_0 : decode cX1_ask 0 = .ok (.aload_n 0, 1) := by decide +kernel
theorem dX1_ask_1 : decode cX1_ask 1 = .ok (.iconst (-1), 1) := by decide +kernel
theorem dX1_ask_2 : decode cX1_ask 2 = .ok (.putfield 118, 3) := by decide +kernel
theorem dX1_ask_5 : decode cX1_ask 5 = .ok (.iload_n 2, 1) := by decide +kernel
theorem dX1_ask_6 : decode cX1_ask 6 = .ok (.iconst 1, 1) := by decide +kernel
theorem dX1_ask_7 : decode cX1_ask 7 = .ok (.if_icmp .ne 27, 3) := by decide +kernel
theorem dX1_ask_10 : decode cX1_ask 10 = .ok (.aload_n 0, 1) := by decide +kernel
theorem dX1_ask_11 : decode cX1_ask 11 = .ok (.aload_n 0, 1) := by decide +kernel
theorem dX1_ask_12 : decode cX1_ask 12 = .ok (.getfield 26, 3) := by decide +kernel
theorem dX1_ask_15 : decode cX1_ask 15 = .ok (.getfield 93, 3) := by decide +kernel
theorem dX1_ask_18 : decode cX1_ask 18 = .ok (.iload_n 1, 1) := by decide +kernel
theorem dX1_ask_19 : decode cX1_ask 19 = .ok (.laload, 1) := by decide +kernel
theorem dX1_ask_20 : decode cX1_ask 20 = .ok (.putfield 121, 3) := by decide +kernel
theorem dX1_ask_23 : decode cX1_ask 23 = .ok (.aload_n 0, 1) := by decide +kernel
theorem dX1_ask_24 : decode cX1_ask 24 = .ok (.aload_n 0, 1) := by decide +kernel
theorem dX1_ask_25 : decode cX1_ask 25 = .ok (.getfield 9, 3) := by decide +kernel
theorem dX1_ask_28 : decode cX1_ask 28 = .ok (.iload_n 1, 1) := by decide +kernel
theorem dX1_ask_29 : decode cX1_ask 29 = .ok (.iaload, 1) := by decide +kernel
theorem dX1_ask_30 : decode cX1_ask 30 = .ok (.putfield 125, 3) := by decide +kernel
theorem dX1_ask_33 : decode cX1_ask 33 = .ok (.return_, 1) := by decide +kernel
theorem dX1_ask_34 : decode cX1_ask 34 = .ok (.iload_n 2, 1) := by decide +kernel
theorem dX1_ask_35 : decode cX1_ask 35 = .ok (.iconst 4, 1) := by decide +kernel
theorem dX1_ask_36 : decode cX1_ask 36 = .ok (.if_icmp .ne 31, 3) := by decide +kernel
theorem dX1_ask_39 : decode cX1_ask 39 = .ok (.aload_n 0, 1) := by decide +kernel
theorem dX1_ask_40 : decode cX1_ask 40 = .ok (.aload_n 0, 1) := by decide +kernel
theorem dX1_ask_41 : decode cX1_ask 41 = .ok (.getfield 26, 3) := by decide +kernel
theorem dX1_ask_44 : decode cX1_ask 44 = .ok (.getfield 128, 3) := by decide +kernel
theorem dX1_ask_47 : decode cX1_ask 47 = .ok (.iload_n 1, 1) := by decide +kernel
theorem dX1_ask_48 : decode cX1_ask 48 = .ok (.iaload, 1) := by decide +kernel
theorem dX1_ask_49 : decode cX1_ask 49 = .ok (.putfield 118, 3) := by decide +kernel
theorem dX1_ask_52 : decode cX1_ask 52 = .ok (.aload_n 0, 1) := by decide +kernel
theorem dX1_ask_53 : decode cX1_ask 53 = .ok (.aload_n 0, 1) := by decide +kernel
theorem dX1_ask_54 : decode cX1_ask 54 = .ok (.getfield 26, 3) := by decide +kernel
theorem dX1_ask_57 : decode cX1_ask 57 = .ok (.iload_n 1, 1) := by decide +kernel
theorem dX1_ask_58 : decode cX1_ask 58 = .ok (.invokevirtual 75, 3) := by decide +kernel
theorem dX1_ask_61 : decode cX1_ask 61 = .ok (.putfield 121, 3) := by decide +kernel
theorem dX1_ask_64 : decode cX1_ask 64 = .ok (.goto 34, 3) := by decide +kernel
theorem dX1_ask_67 : decode cX1_ask 67 = .ok (.iload_n 2, 1) := by decide +kernel
theorem dX1_ask_68 : decode cX1_ask 68 = .ok (.iconst 5, 1) := by decide +kernel
theorem dX1_ask_69 : decode cX1_ask 69 = .ok (.if_icmp .ne 18, 3) := by decide +kernel
theorem dX1_ask_72 : decode cX1_ask 72 = .ok (.aload_n 0, 1) := by decide +kernel
theorem dX1_ask_73 : decode cX1_ask 73 = .ok (.aload_n 0, 1) := by decide +kernel
theorem dX1_ask_74 : decode cX1_ask 74 = .ok (.getfield 26, 3) := by decide +kernel
theorem dX1_ask_77 : decode cX1_ask 77 = .ok (.iload_n 1, 1) := by decide +kernel
theorem dX1_ask_78 : decode cX1_ask 78 = .ok (.invokevirtual 79, 3) := by decide +kernel
theorem dX1_ask_81 : decode cX1_ask 81 = .ok (.putfield 121, 3) := by decide +kernel
theorem dX1_ask_84 : decode cX1_ask 84 = .ok (.goto 14, 3) := by decide +kernel
theorem dX1_ask_87 : decode cX1_ask 87 = .ok (.aload_n 0, 1) := by decide +kernel
theorem dX1_ask_88 : decode cX1_ask 88 = .ok (.iload_n 1, 1) := by decide +kernel
theorem dX1_ask_89 : decode cX1_ask 89 = .ok (.aload_n 0, 1) := by decide +kernel
theorem dX1_ask_90 : decode cX1_ask 90 = .ok (.iload_n 1, 1) := by decide +kernel
theorem dX1_ask_91 : decode cX1_ask 91 = .ok (.iload_n 2, 1) := by decide +kernel
theorem dX1_ask_92 : decode cX1_ask 92 = .ok (.invokevirtual 131, 3) := by decide +kernel
theorem dX1_ask_95 : decode cX1_ask 95 = .ok (.invokevirtual 135, 3) := by decide +kernel
theorem dX1_ask_98 : decode cX1_ask 98 = .ok (.aload_n 0, 1) := by decide +kernel
theorem dX1_ask_99 : decode cX1_ask 99 = .ok (.aload_n 0, 1) := by decide +kernel
theorem dX1_ask_100 : decode cX1_ask 100 = .ok (.getfield 121, 3) := by decide +kernel
theorem dX1_ask_103 : decode cX1_ask 103 = .ok (.ldc2_w 91, 3) := by decide +kernel
theorem dX1_ask_106 : decode cX1_ask 106 = .ok (.lcmp, 1) := by decide +kernel
theorem dX1_ask_107 : decode cX1_ask 107 = .ok (.ifCond .ne 12, 3) := by decide +kernel
theorem dX1_ask_110 : decode cX1_ask 110 = .ok (.iload_n 2, 1) := by decide +kernel
theorem dX1_ask_111 : decode cX1_ask 111 = .ok (.bipush 10, 2) := by decide +kernel
theorem dX1_ask_113 : decode cX1_ask 113 = .ok (.imul, 1) := by decide +kernel
theorem dX1_ask_114 : decode cX1_ask 114 = .ok (.iconst 1, 1) := by decide +kernel
theorem dX1_ask_115 : decode cX1_ask 115 = .ok (.iadd, 1) := by decide +kernel
theorem dX1_ask_116 : decode cX1_ask 116 = .ok (.goto 4, 3) := by decide +kernel
theorem dX1_ask_119 : decode cX1_ask 119 = .ok (.iconst 0, 1) := by decide +kernel
theorem dX1_ask_120 : decode cX1_ask 120 = .ok (.putfield 125, 3) := by decide +kernel
theorem dX1_ask_123 : decode cX1_ask 123 = .ok (.return_, 1) := by decide +kernel
theorem dX1_sourcesFor_0 : decode cX1_sourcesFor 0 = .ok (.iconst 0, 1) := by decide +kernel
theorem dX1_sourcesFor_1 : decode cX1_sourcesFor 1 = .ok (.istore_n 3, 1) := by decide +kernel
theorem dX1_sourcesFor_2 : decode cX1_sourcesFor 2 = .ok (.iconst 0, 1) := by decide +kernel
theorem dX1_sourcesFor_3 : decode cX1_sourcesFor 3 = .ok (.istore 4, 2) := by decide +kernel
theorem dX1_sourcesFor_5 : decode cX1_sourcesFor 5 = .ok (.iconst 0, 1) := by decide +kernel
theorem dX1_sourcesFor_6 : decode cX1_sourcesFor 6 = .ok (.istore 5, 2) := by decide +kernel
theorem dX1_sourcesFor_8 : decode cX1_sourcesFor 8 = .ok (.iload 5, 2) := by decide +kernel
theorem dX1_sourcesFor_10 : decode cX1_sourcesFor 10 = .ok (.aload_n 0, 1) := by decide +kernel
theorem dX1_sourcesFor_11 : decode cX1_sourcesFor 11 = .ok (.getfield 22, 3) := by decide +kernel
theorem dX1_sourcesFor_14 : decode cX1_sourcesFor 14 = .ok (.getfield 36, 3) := by decide +kernel
theorem dX1_sourcesFor_17 : decode cX1_sourcesFor 17 = .ok (.iconst 3, 1) := by decide +kernel
theorem dX1_sourcesFor_18 : decode cX1_sourcesFor 18 = .ok (.iaload, 1) := by decide +kernel
theorem dX1_sourcesFor_19 : decode cX1_sourcesFor 19 = .ok (.if_icmp .ge 84, 3) := by decide +kernel
theorem dX1_sourcesFor_22 : decode cX1_sourcesFor 22 = .ok (.aload_n 0, 1) := by decide +kernel
theorem dX1_sourcesFor_23 : decode cX1_sourcesFor 23 = .ok (.getfield 26, 3) := by decide +kernel
theorem dX1_sourcesFor_26 : decode cX1_sourcesFor 26 = .ok (.iload_n 1, 1) := by decide +kernel
theorem dX1_sourcesFor_27 : decode cX1_sourcesFor 27 = .ok (.iload 5, 2) := by decide +kernel
theorem dX1_sourcesFor_29 : decode cX1_sourcesFor 29 = .ok (.invokevirtual 82, 3) := by decide +kernel
theorem dX1_sourcesFor_32 : decode cX1_sourcesFor 32 = .ok (.ifCond .eq 65, 3) := by decide +kernel
theorem dX1_sourcesFor_35 : decode cX1_sourcesFor 35 = .ok (.aload_n 0, 1) := by decide +kernel
theorem dX1_sourcesFor_36 : decode cX1_sourcesFor 36 = .ok (.getfield 9, 3) := by decide +kernel
theorem dX1_sourcesFor_39 : decode cX1_sourcesFor 39 = .ok (.iload 5, 2) := by decide +kernel
theorem dX1_sourcesFor_41 : decode cX1_sourcesFor 41 = .ok (.iaload, 1) := by decide +kernel
theorem dX1_sourcesFor_42 : decode cX1_sourcesFor 42 = .ok (.ifCond .ne 55, 3) := by decide +kernel
theorem dX1_sourcesFor_45 : decode cX1_sourcesFor 45 = .ok (.aload_n 0, 1) := by decide +kernel
theorem dX1_sourcesFor_46 : decode cX1_sourcesFor 46 = .ok (.iload_n 1, 1) := by decide +kernel
theorem dX1_sourcesFor_47 : decode cX1_sourcesFor 47 = .ok (.iload 5, 2) := by decide +kernel
theorem dX1_sourcesFor_49 : decode cX1_sourcesFor 49 = .ok (.iload_n 2, 1) := by decide +kernel
theorem dX1_sourcesFor_50 : decode cX1_sourcesFor 50 = .ok (.invokevirtual 139, 3) := by decide +kernel
theorem dX1_sourcesFor_53 : decode cX1_sourcesFor 53 = .ok (.ifCond .ne 6, 3) := by decide +kernel
theorem dX1_sourcesFor_56 : decode cX1_sourcesFor 56 = .ok (.goto 41, 3) := by decide +kernel
theorem dX1_sourcesFor_59 : decode cX1_sourcesFor 59 = .ok (.iload_n 3, 1) := by decide +kernel
theorem dX1_sourcesFor_60 : decode cX1_sourcesFor 60 = .ok (.iconst 1, 1) := by decide +kernel
theorem dX1_sourcesFor_61 : decode cX1_sourcesFor 61 = .ok (.iload 5, 2) := by decide +kernel
theorem dX1_sourcesFor_63 : decode cX1_sourcesFor 63 = .ok (.ishl, 1) := by decide +kernel
theorem dX1_sourcesFor_64 : decode cX1_sourcesFor 64 = .ok (.ior, 1) := by decide +kernel
theorem dX1_sourcesFor_65 : decode cX1_sourcesFor 65 = .ok (.istore_n 3, 1) := by decide +kernel
theorem dX1_sourcesFor_66 : decode cX1_sourcesFor 66 = .ok (.aload_n 0, 1) := by decide +kernel
theorem dX1_sourcesFor_67 : decode cX1_sourcesFor 67 = .ok (.getfield 26, 3) := by decide +kernel
theorem dX1_sourcesFor_70 : decode cX1_sourcesFor 70 = .ok (.getfield 143, 3) := by decide +kernel
theorem dX1_sourcesFor_73 : decode cX1_sourcesFor 73 = .ok (.iload_n 1, 1) := by decide +kernel
theorem dX1_sourcesFor_74 : decode cX1_sourcesFor 74 = .ok (.iaload, 1) := by decide +kernel
theorem dX1_sourcesFor_75 : decode cX1_sourcesFor 75 = .ok (.aload_n 0, 1) := by decide +kernel
theorem dX1_sourcesFor_76 : decode cX1_sourcesFor 76 = .ok (.getfield 26, 3) := by decide +kernel
theorem dX1_sourcesFor_79 : decode cX1_sourcesFor 79 = .ok (.getfield 143, 3) := by decide +kernel
theorem dX1_sourcesFor_82 : decode cX1_sourcesFor 82 = .ok (.iload 5, 2) := by decide +kernel
theorem dX1_sourcesFor_84 : decode cX1_sourcesFor 84 = .ok (.iaload, 1) := by decide +kernel
theorem dX1_sourcesFor_85 : decode cX1_sourcesFor 85 = .ok (.if_icmp .ne 12, 3) := by decide +kernel
theorem dX1_sourcesFor_88 : decode cX1_sourcesFor 88 = .ok (.iload 4, 2) := by decide +kernel
theorem dX1_sourcesFor_90 : decode cX1_sourcesFor 90 = .ok (.iconst 1, 1) := by decide +kernel
theorem dX1_sourcesFor_91 : decode cX1_sourcesFor 91 = .ok (.iload 5, 2) := by decide +kernel
theorem dX1_sourcesFor_93 : decode cX1_sourcesFor 93 = .ok (.ishl, 1) := by decide +kernel
theorem dX1_sourcesFor_94 : decode cX1_sourcesFor 94 = .ok (.ior, 1) := by decide +kernel
theorem dX1_sourcesFor_95 : decode cX1_sourcesFor 95 = .ok (.istore 4, 2) := by decide +kernel
theorem dX1_sourcesFor_97 : decode cX1_sourcesFor 97 = .ok (.iinc 5 1, 3) := by decide +kernel
theorem dX1_sourcesFor_100 : decode cX1_sourcesFor 100 = .ok (.goto (-92), 3) := by decide +kernel
theorem dX1_sourcesFor_103 : decode cX1_sourcesFor 103 = .ok (.iload_n 2, 1) := by decide +kernel
theorem dX1_sourcesFor_104 : decode cX1_sourcesFor 104 = .ok (.bipush 6, 2) := by decide +kernel
theorem dX1_sourcesFor_106 : decode cX1_sourcesFor 106 = .ok (.if_icmp .eq 8, 3) := by decide +kernel
theorem dX1_sourcesFor_109 : decode cX1_sourcesFor 109 = .ok (.iload 4, 2) := by decide +kernel
theorem dX1_sourcesFor_111 : decode cX1_sourcesFor 111 = .ok (.ifCond .ne 7, 3) := by decide +kernel
theorem dX1_sourcesFor_114 : decode cX1_sourcesFor 114 = .ok (.iload_n 3, 1) := by decide +kernel
theorem dX1_sourcesFor_115 : decode cX1_sourcesFor 115 = .ok (.goto 5, 3) := by decide +kernel
theorem dX1_sourcesFor_118 : decode cX1_sourcesFor 118 = .ok (.iload 4, 2) := by decide +kernel
theorem dX1_sourcesFor_120 : decode cX1_sourcesFor 120 = .ok (.ireturn, 1) := by decide +kernel
theorem dX1_fits_0 : decode cX1_fits 0 = .ok (.aload_n 0, 1) := by decide +kernel
theorem dX1_fits_1 : decode cX1_fits 1 = .ok (.getfield 22, 3) := by decide +kernel
theorem dX1_fits_4 : decode cX1_fits 4 = .ok (.getfield 45, 3) := by decide +kernel
theorem dX1_fits_7 : decode cX1_fits 7 = .ok (.iload_n 1, 1) := by decide +kernel
theorem dX1_fits_8 : decode cX1_fits 8 = .ok (.aaload, 1) := by decide +kernel
theorem dX1_fits_9 : decode cX1_fits 9 = .ok (.iconst 0, 1) := by decide +kernel
theorem dX1_fits_10 : decode cX1_fits 10 = .ok (.iaload, 1) := by decide +kernel
theorem dX1_fits_11 : decode cX1_fits 11 = .ok (.istore 4, 2) := by decide +kernel
theorem dX1_fits_13 : decode cX1_fits 13 = .ok (.aload_n 0, 1) := by decide +kernel
theorem dX1_fits_14 : decode cX1_fits 14 = .ok (.getfield 22, 3) := by decide +kernel
theorem dX1_fits_17 : decode cX1_fits 17 = .ok (.getfield 45, 3) := by decide +kernel
theorem dX1_fits_20 : decode cX1_fits 20 = .ok (.iload_n 2, 1) := by decide +kernel
theorem dX1_fits_21 : decode cX1_fits 21 = .ok (.aaload, 1) := by decide +kernel
theorem dX1_fits_22 : decode cX1_fits 22 = .ok (.iconst 0, 1) := by decide +kernel
theorem dX1_fits_23 : decode cX1_fits 23 = .ok (.iaload, 1) := by decide +kernel
theorem dX1_fits_24 : decode cX1_fits 24 = .ok (.istore 5, 2) := by decide +kernel
theorem dX1_fits_26 : decode cX1_fits 26 = .ok (.iload_n 3, 1) := by decide +kernel
theorem dX1_fits_27 : decode cX1_fits 27 = .ok (.bipush 6, 2) := by decide +kernel
theorem dX1_fits_29 : decode cX1_fits 29 = .ok (.if_icmp .ne 36, 3) := by decide +kernel
theorem dX1_fits_32 : decode cX1_fits 32 = .ok (.aload_n 0, 1) := by decide +kernel
theorem dX1_fits_33 : decode cX1_fits 33 = .ok (.getfield 22, 3) := by decide +kernel
theorem dX1_fits_36 : decode cX1_fits 36 = .ok (.getfield 146, 3) := by decide +kernel
theorem dX1_fits_39 : decode cX1_fits 39 = .ok (.iload 4, 2) := by decide +kernel
theorem dX1_fits_41 : decode cX1_fits 41 = .ok (.aaload, 1) := by decide +kernel
theorem dX1_fits_42 : decode cX1_fits 42 = .ok (.iconst 0, 1) := by decide +kernel
theorem dX1_fits_43 : decode cX1_fits 43 = .ok (.iaload, 1) := by decide +kernel
theorem dX1_fits_44 : decode cX1_fits 44 = .ok (.aload_n 0, 1) := by decide +kernel
theorem dX1_fits_45 : decode cX1_fits 45 = .ok (.getfield 22, 3) := by decide +kernel
theorem dX1_fits_48 : decode cX1_fits 48 = .ok (.getfield 146, 3) := by decide +kernel
theorem dX1_fits_51 : decode cX1_fits 51 = .ok (.iload 5, 2) := by decide +kernel
theorem dX1_fits_53 : decode cX1_fits 53 = .ok (.aaload, 1) := by decide +kernel
theorem dX1_fits_54 : decode cX1_fits 54 = .ok (.iconst 0, 1) := by decide +kernel
theorem dX1_fits_55 : decode cX1_fits 55 = .ok (.iaload, 1) := by decide +kernel
theorem dX1_fits_56 : decode cX1_fits 56 = .ok (.if_icmp .ne 7, 3) := by decide +kernel
theorem dX1_fits_59 : decode cX1_fits 59 = .ok (.iconst 1, 1) := by decide +kernel
theorem dX1_fits_60 : decode cX1_fits 60 = .ok (.goto 4, 3) := by decide +kernel
theorem dX1_fits_63 : decode cX1_fits 63 = .ok (.iconst 0, 1) := by decide +kernel
theorem dX1_fits_64 : decode cX1_fits 64 = .ok (.ireturn, 1) := by decide +kernel
theorem dX1_fits_65 : decode cX1_fits 65 = .ok (.iload_n 3, 1) := by decide +kernel
theorem dX1_fits_66 : decode cX1_fits 66 = .ok (.iconst 2, 1) := by decide +kernel
theorem dX1_fits_67 : decode cX1_fits 67 = .ok (.if_icmp .ne 18, 3) := by decide +kernel
theorem dX1_fits_70 : decode cX1_fits 70 = .ok (.iload 4, 2) := by decide +kernel
theorem dX1_fits_72 : decode cX1_fits 72 = .ok (.iload 5, 2) := by decide +kernel
theorem dX1_fits_74 : decode cX1_fits 74 = .ok (.if_icmp .ne 7, 3) := by decide +kernel
theorem dX1_fits_77 : decode cX1_fits 77 = .ok (.iconst 1, 1) := by decide +kernel
theorem dX1_fits_78 : decode cX1_fits 78 = .ok (.goto 18, 3) := by decide +kernel
theorem dX1_fits_81 : decode cX1_fits 81 = .ok (.iconst 0, 1) := by decide +kernel
theorem dX1_fits_82 : decode cX1_fits 82 = .ok (.goto 14, 3) := by decide +kernel
theorem dX1_fits_85 : decode cX1_fits 85 = .ok (.aload_n 0, 1) := by decide +kernel
theorem dX1_fits_86 : decode cX1_fits 86 = .ok (.getfield 22, 3) := by decide +kernel
theorem dX1_fits_89 : decode cX1_fits 89 = .ok (.iload 4, 2) := by decide +kernel
theorem dX1_fits_91 : decode cX1_fits 91 = .ok (.iload 5, 2) := by decide +kernel
theorem dX1_fits_93 : decode cX1_fits 93 = .ok (.invokevirtual 85, 3) := by decide +kernel
theorem dX1_fits_96 : decode cX1_fits 96 = .ok (.istore 6, 2) := by decide +kernel
theorem dX1_fits_98 : decode cX1_fits 98 = .ok (.iload 6, 2) := by decide +kernel
theorem dX1_fits_100 : decode cX1_fits 100 = .ok (.ifCond .eq 19, 3) := by decide +kernel
theorem dX1_fits_103 : decode cX1_fits 103 = .ok (.aload_n 0, 1) := by decide +kernel
theorem dX1_fits_104 : decode cX1_fits 104 = .ok (.getfield 26, 3) := by decide +kernel
theorem dX1_fits_107 : decode cX1_fits 107 = .ok (.iload_n 1, 1) := by decide +kernel
theorem dX1_fits_108 : decode cX1_fits 108 = .ok (.iload_n 2, 1) := by decide +kernel
theorem dX1_fits_109 : decode cX1_fits 109 = .ok (.invokevirtual 88, 3) := by decide +kernel
theorem dX1_fits_112 : decode cX1_fits 112 = .ok (.ifCond .eq 7, 3) := by decide +kernel
theorem dX1_fits_115 : decode cX1_fits 115 = .ok (.iconst 1, 1) := by decide +kernel
theorem dX1_fits_116 : decode cX1_fits 116 = .ok (.goto 4, 3) := by decide +kernel
theorem dX1_fits_119 : decode cX1_fits 119 = .ok (.iconst 0, 1) := by decide +kernel
theorem dX1_fits_120 : decode cX1_fits 120 = .ok (.ireturn, 1) := by decide +kernel
theorem dX1_bringLeast_0 : decode cX1_bringLeast 0 = .ok (.aload_n 0, 1) := by decide +kernel
theorem dX1_bringLeast_1 : decode cX1_bringLeast 1 = .ok (.ldc2_w 91, 3) := by decide +kernel
theorem dX1_bringLeast_4 : decode cX1_bringLeast 4 = .ok (.putfield 121, 3) := by decide +kernel
theorem dX1_bringLeast_7 : decode cX1_bringLeast 7 = .ok (.iconst 0, 1) := by decide +kernel
theorem dX1_bringLeast_8 : decode cX1_bringLeast 8 = .ok (.istore_n 3, 1) := by decide +kernel
theorem dX1_bringLeast_9 : decode cX1_bringLeast 9 = .ok (.iload_n 3, 1) := by decide +kernel
theorem dX1_bringLeast_10 : decode cX1_bringLeast 10 = .ok (.aload_n 0, 1) := by decide +kernel
theorem dX1_bringLeast_11 : decode cX1_bringLeast 11 = .ok (.getfield 22, 3) := by decide +kernel
theorem dX1_bringLeast_14 : decode cX1_bringLeast 14 = .ok (.getfield 36, 3) := by decide +kernel
theorem dX1_bringLeast_17 : decode cX1_bringLeast 17 = .ok (.iconst 3, 1) := by decide +kernel
theorem dX1_bringLeast_18 : decode cX1_bringLeast 18 = .ok (.iaload, 1) := by decide +kernel
theorem dX1_bringLeast_19 : decode cX1_bringLeast 19 = .ok (.if_icmp .ge 60, 3) := by decide +kernel
theorem dX1_bringLeast_22 : decode cX1_bringLeast 22 = .ok (.iload_n 2, 1) := by decide +kernel
theorem dX1_bringLeast_23 : decode cX1_bringLeast 23 = .ok (.iload_n 3, 1) := by decide +kernel
theorem dX1_bringLeast_24 : decode cX1_bringLeast 24 = .ok (.ishr, 1) := by decide +kernel
theorem dX1_bringLeast_25 : decode cX1_bringLeast 25 = .ok (.iconst 1, 1) := by decide +kernel
theorem dX1_bringLeast_26 : decode cX1_bringLeast 26 = .ok (.iand, 1) := by decide +kernel
theorem dX1_bringLeast_27 : decode cX1_bringLeast 27 = .ok (.ifCond .ne 6, 3) := by decide +kernel
theorem dX1_bringLeast_30 : decode cX1_bringLeast 30 = .ok (.goto 43, 3) := by decide +kernel
theorem dX1_bringLeast_33 : decode cX1_bringLeast 33 = .ok (.aload_n 0, 1) := by decide +kernel
theorem dX1_bringLeast_34 : decode cX1_bringLeast 34 = .ok (.getfield 26, 3) := by decide +kernel
theorem dX1_bringLeast_37 : decode cX1_bringLeast 37 = .ok (.iload_n 1, 1) := by decide +kernel
theorem dX1_bringLeast_38 : decode cX1_bringLeast 38 = .ok (.iload_n 3, 1) := by decide +kernel
theorem dX1_bringLeast_39 : decode cX1_bringLeast 39 = .ok (.invokevirtual 67, 3) := by decide +kernel
theorem dX1_bringLeast_42 : decode cX1_bringLeast 42 = .ok (.lstore 4, 2) := by decide +kernel
theorem dX1_bringLeast_44 : decode cX1_bringLeast 44 = .ok (.aload_n 0, 1) := by decide +kernel
theorem dX1_bringLeast_45 : decode cX1_bringLeast 45 = .ok (.getfield 118, 3) := by decide +kernel
theorem dX1_bringLeast_48 : decode cX1_bringLeast 48 = .ok (.iconst (-1), 1) := by decide +kernel
theorem dX1_bringLeast_49 : decode cX1_bringLeast 49 = .ok (.if_icmp .eq 13, 3) := by decide +kernel
theorem dX1_bringLeast_52 : decode cX1_bringLeast 52 = .ok (.lload 4, 2) := by decide +kernel
theorem dX1_bringLeast_54 : decode cX1_bringLeast 54 = .ok (.aload_n 0, 1) := by decide +kernel
theorem dX1_bringLeast_55 : decode cX1_bringLeast 55 = .ok (.getfield 121, 3) := by decide +kernel
theorem dX1_bringLeast_58 : decode cX1_bringLeast 58 = .ok (.lcmp, 1) := by decide +kernel
theorem dX1_bringLeast_59 : decode cX1_bringLeast 59 = .ok (.ifCond .ge 14, 3) := by decide +kernel
theorem dX1_bringLeast_62 : decode cX1_bringLeast 62 = .ok (.aload_n 0, 1) := by decide +kernel
theorem dX1_bringLeast_63 : decode cX1_bringLeast 63 = .ok (.iload_n 3, 1) := by decide +kernel
theorem dX1_bringLeast_64 : decode cX1_bringLeast 64 = .ok (.putfield 118, 3) := by decide +kernel
theorem dX1_bringLeast_67 : decode cX1_bringLeast 67 = .ok (.aload_n 0, 1) := by decide +kernel
theorem dX1_bringLeast_68 : decode cX1_bringLeast 68 = .ok (.lload 4, 2) := by decide +kernel
theorem dX1_bringLeast_70 : decode cX1_bringLeast 70 = .ok (.putfield 121, 3) := by decide +kernel
theorem dX1_bringLeast_73 : decode cX1_bringLeast 73 = .ok (.iinc 3 1, 3) := by decide +kernel
theorem dX1_bringLeast_76 : decode cX1_bringLeast 76 = .ok (.goto (-67), 3) := by decide +kernel
theorem dX1_bringLeast_79 : decode cX1_bringLeast 79 = .ok (.return_, 1) := by decide +kernel
theorem dX1_climb_0 : decode cX1_climb 0 = .ok (.aload_n 0, 1) := by decide +kernel
theorem dX1_climb_1 : decode cX1_climb 1 = .ok (.iconst 0, 1) := by decide +kernel
theorem dX1_climb_2 : decode cX1_climb 2 = .ok (.putfield 149, 3) := by decide +kernel
theorem dX1_climb_5 : decode cX1_climb 5 = .ok (.aload_n 0, 1) := by decide +kernel
theorem dX1_climb_6 : decode cX1_climb 6 = .ok (.iconst 0, 1) := by decide +kernel
theorem dX1_climb_7 : decode cX1_climb 7 = .ok (.putfield 152, 3) := by decide +kernel
theorem dX1_climb_10 : decode cX1_climb 10 = .ok (.iconst 0, 1) := by decide +kernel
theorem dX1_climb_11 : decode cX1_climb 11 = .ok (.istore_n 3, 1) := by decide +kernel
theorem dX1_climb_12 : decode cX1_climb 12 = .ok (.iload_n 3, 1) := by decide +kernel
theorem dX1_climb_13 : decode cX1_climb 13 = .ok (.bipush 6, 2) := by decide +kernel
theorem dX1_climb_15 : decode cX1_climb 15 = .ok (.if_icmp .ge 72, 3) := by decide +kernel
theorem dX1_climb_18 : decode cX1_climb 18 = .ok (.iload_n 2, 1) := by decide +kernel
theorem dX1_climb_19 : decode cX1_climb 19 = .ok (.ifCond .eq 11, 3) := by decide +kernel
theorem dX1_climb_22 : decode cX1_climb 22 = .ok (.getstatic 155, 3) := by decide +kernel
theorem dX1_climb_25 : decode cX1_climb 25 = .ok (.iload_n 3, 1) := by decide +kernel
theorem dX1_climb_26 : decode cX1_climb 26 = .ok (.iaload, 1) := by decide +kernel
theorem dX1_climb_27 : decode cX1_climb 27 = .ok (.goto 8, 3) := by decide +kernel
theorem dX1_climb_30 : decode cX1_climb 30 = .ok (.getstatic 158, 3) := by decide +kernel
theorem dX1_climb_33 : decode cX1_climb 33 = .ok (.iload_n 3, 1) := by decide +kernel
theorem dX1_climb_34 : decode cX1_climb 34 = .ok (.iaload, 1) := by decide +kernel
theorem dX1_climb_35 : decode cX1_climb 35 = .ok (.istore 4, 2) := by decide +kernel
theorem dX1_climb_37 : decode cX1_climb 37 = .ok (.aload_n 0, 1) := by decide +kernel
theorem dX1_climb_38 : decode cX1_climb 38 = .ok (.iload_n 1, 1) := by decide +kernel
theorem dX1_climb_39 : decode cX1_climb 39 = .ok (.iload 4, 2) := by decide +kernel
theorem dX1_climb_41 : decode cX1_climb 41 = .ok (.invokevirtual 161, 3) := by decide +kernel
theorem dX1_climb_44 : decode cX1_climb 44 = .ok (.aload_n 0, 1) := by decide +kernel
theorem dX1_climb_45 : decode cX1_climb 45 = .ok (.getfield 125, 3) := by decide +kernel
theorem dX1_climb_48 : decode cX1_climb 48 = .ok (.ifCond .ne 10, 3) := by decide +kernel
theorem dX1_climb_51 : decode cX1_climb 51 = .ok (.aload_n 0, 1) := by decide +kernel
theorem dX1_climb_52 : decode cX1_climb 52 = .ok (.iload 4, 2) := by decide +kernel
theorem dX1_climb_54 : decode cX1_climb 54 = .ok (.putfield 152, 3) := by decide +kernel
theorem dX1_climb_57 : decode cX1_climb 57 = .ok (.return_, 1) := by decide +kernel
theorem dX1_climb_58 : decode cX1_climb 58 = .ok (.aload_n 0, 1) := by decide +kernel
theorem dX1_climb_59 : decode cX1_climb 59 = .ok (.getfield 19, 3) := by decide +kernel
theorem dX1_climb_62 : decode cX1_climb 62 = .ok (.aload_n 0, 1) := by decide +kernel
theorem dX1_climb_63 : decode cX1_climb 63 = .ok (.getfield 149, 3) := by decide +kernel
theorem dX1_climb_66 : decode cX1_climb 66 = .ok (.aload_n 0, 1) := by decide +kernel
theorem dX1_climb_67 : decode cX1_climb 67 = .ok (.getfield 125, 3) := by decide +kernel
theorem dX1_climb_70 : decode cX1_climb 70 = .ok (.iastore, 1) := by decide +kernel
theorem dX1_climb_71 : decode cX1_climb 71 = .ok (.aload_n 0, 1) := by decide +kernel
theorem dX1_climb_72 : decode cX1_climb 72 = .ok (.dup, 1) := by decide +kernel
theorem dX1_climb_73 : decode cX1_climb 73 = .ok (.getfield 149, 3) := by decide +kernel
theorem dX1_climb_76 : decode cX1_climb 76 = .ok (.iconst 1, 1) := by decide +kernel
theorem dX1_climb_77 : decode cX1_climb 77 = .ok (.iadd, 1) := by decide +kernel
theorem dX1_climb_78 : decode cX1_climb 78 = .ok (.putfield 149, 3) := by decide +kernel
theorem dX1_climb_81 : decode cX1_climb 81 = .ok (.iinc 3 1, 3) := by decide +kernel
theorem dX1_climb_84 : decode cX1_climb 84 = .ok (.goto (-72), 3) := by decide +kernel
theorem dX1_climb_87 : decode cX1_climb 87 = .ok (.return_, 1) := by decide +kernel
theorem dX1_answer_0 : decode cX1_answer 0 = .ok (.aload_n 0, 1) := by decide +kernel
theorem dX1_answer_1 : decode cX1_answer 1 = .ok (.getfield 152, 3) := by decide +kernel
theorem dX1_answer_4 : decode cX1_answer 4 = .ok (.ifCond .ne 9, 3) := by decide +kernel
theorem dX1_answer_7 : decode cX1_answer 7 = .ok (.ldc2_w 164, 3) := by decide +kernel
theorem dX1_answer_10 : decode cX1_answer 10 = .ok (.goto 7, 3) := by decide +kernel
theorem dX1_answer_13 : decode cX1_answer 13 = .ok (.aload_n 0, 1) := by decide +kernel
theorem dX1_answer_14 : decode cX1_answer 14 = .ok (.getfield 121, 3) := by decide +kernel
theorem dX1_answer_17 : decode cX1_answer 17 = .ok (.lreturn, 1) := by decide +kernel
theorem dX2_init_0 : decode cX2_init 0 = .ok (.aload_n 0, 1) := by decide +kernel
theorem dX2_init_1 : decode cX2_init 1 = .ok (.invokespecial 3, 3) := by decide +kernel
theorem dX2_init_4 : decode cX2_init 4 = .ok (.aload_n 0, 1) := by decide +kernel
theorem dX2_init_5 : decode cX2_init 5 = .ok (.bipush 6, 2) := by decide +kernel
theorem dX2_init_7 : decode cX2_init 7 = .ok (.newarray .int, 2) := by decide +kernel
theorem dX2_init_9 : decode cX2_init 9 = .ok (.putfield 9, 3) := by decide +kernel
theorem dX2_init_12 : decode cX2_init 12 = .ok (.aload_n 0, 1) := by decide +kernel
theorem dX2_init_13 : decode cX2_init 13 = .ok (.bipush 10, 2) := by decide +kernel
theorem dX2_init_15 : decode cX2_init 15 = .ok (.newarray .boolean, 2) := by decide +kernel
theorem dX2_init_17 : decode cX2_init 17 = .ok (.putfield 15, 3) := by decide +kernel
theorem dX2_init_20 : decode cX2_init 20 = .ok (.aload_n 0, 1) := by decide +kernel
theorem dX2_init_21 : decode cX2_init 21 = .ok (.iconst (-1), 1) := by decide +kernel
theorem dX2_init_22 : decode cX2_init 22 = .ok (.putfield 19, 3) := by decide +kernel
theorem dX2_init_25 : decode cX2_init 25 = .ok (.aload_n 0, 1) := by decide +kernel
theorem dX2_init_26 : decode cX2_init 26 = .ok (.bipush 10, 2) := by decide +kernel
theorem dX2_init_28 : decode cX2_init 28 = .ok (.newarray .int, 2) := by decide +kernel
theorem dX2_init_30 : decode cX2_init 30 = .ok (.putfield 23, 3) := by decide +kernel
theorem dX2_init_33 : decode cX2_init 33 = .ok (.aload_n 0, 1) := by decide +kernel
theorem dX2_init_34 : decode cX2_init 34 = .ok (.iconst 4, 1) := by decide +kernel
theorem dX2_init_35 : decode cX2_init 35 = .ok (.bipush 10, 2) := by decide +kernel
theorem dX2_init_37 : decode cX2_init 37 = .ok (.multianewarray 26 2, 4) := by decide +kernel
theorem dX2_init_41 : decode cX2_init 41 = .ok (.putfield 28, 3) := by decide +kernel
theorem dX2_init_44 : decode cX2_init 44 = .ok (.aload_n 0, 1) := by decide +kernel
theorem dX2_init_45 : decode cX2_init 45 = .ok (.bipush 10, 2) := by decide +kernel
theorem dX2_init_47 : decode cX2_init 47 = .ok (.newarray .long, 2) := by decide +kernel
theorem dX2_init_49 : decode cX2_init 49 = .ok (.putfield 31, 3) := by decide +kernel
theorem dX2_init_52 : decode cX2_init 52 = .ok (.aload_n 0, 1) := by decide +kernel
theorem dX2_init_53 : decode cX2_init 53 = .ok (.bipush 10, 2) := by decide +kernel
theorem dX2_init_55 : decode cX2_init 55 = .ok (.newarray .int, 2) := by decide +kernel
theorem dX2_init_57 : decode cX2_init 57 = .ok (.putfield 35, 3) := by decide +kernel
theorem dX2_init_60 : decode cX2_init 60 = .ok (.aload_n 0, 1) := by decide +kernel
theorem dX2_init_61 : decode cX2_init 61 = .ok (.aload_n 1, 1) := by decide +kernel
theorem dX2_init_62 : decode cX2_init 62 = .ok (.putfield 38, 3) := by decide +kernel
theorem dX2_init_65 : decode cX2_init 65 = .ok (.return_, 1) := by decide +kernel
theorem dX2_look_0 : decode cX2_look 0 = .ok (.aload_n 0, 1) := by decide +kernel
theorem dX2_look_1 : decode cX2_look 1 = .ok (.iload_n 1, 1) := by decide +kernel
theorem dX2_look_2 : decode cX2_look 2 = .ok (.putfield 19, 3) := by decide +kernel
theorem dX2_look_5 : decode cX2_look 5 = .ok (.aload_n 0, 1) := by decide +kernel
theorem dX2_look_6 : decode cX2_look 6 = .ok (.invokevirtual 42, 3) := by decide +kernel
theorem dX2_look_9 : decode cX2_look 9 = .ok (.iconst 0, 1) := by decide +kernel
theorem dX2_look_10 : decode cX2_look 10 = .ok (.istore_n 2, 1) := by decide +kernel
theorem dX2_look_11 : decode cX2_look 11 = .ok (.iload_n 2, 1) := by decide +kernel
theorem dX2_look_12 : decode cX2_look 12 = .ok (.aload_n 0, 1) := by decide +kernel
theorem dX2_look_13 : decode cX2_look 13 = .ok (.getfield 38, 3) := by decide +kernel
theorem dX2_look_16 : decode cX2_look 16 = .ok (.getfield 45, 3) := by decide +kernel
theorem dX2_look_19 : decode cX2_look 19 = .ok (.iconst 2, 1) := by decide +kernel
theorem dX2_look_20 : decode cX2_look 20 = .ok (.iaload, 1) := by decide +kernel
theorem dX2_look_21 : decode cX2_look 21 = .ok (.if_icmp .ge 14, 3) := by decide +kernel
theorem dX2_look_24 : decode cX2_look 24 = .ok (.aload_n 0, 1) := by decide +kernel
theorem dX2_look_25 : decode cX2_look 25 = .ok (.iload_n 2, 1) := by decide +kernel
theorem dX2_look_26 : decode cX2_look 26 = .ok (.invokevirtual 50, 3) := by decide +kernel
theorem dX2_look_29 : decode cX2_look 29 = .ok (.iinc 2 1, 3) := by decide +kernel
theorem dX2_look_32 : decode cX2_look 32 = .ok (.goto (-21), 3) := by decide +kernel
theorem dX2_look_35 : decode cX2_look 35 = .ok (.iconst 0, 1) := by decide +kernel
theorem dX2_look_36 : decode cX2_look 36 = .ok (.istore_n 2, 1) := by decide +kernel
theorem dX2_look_37 : decode cX2_look 37 = .ok (.iload_n 2, 1) := by decide +kernel
theorem dX2_look_38 : decode cX2_look 38 = .ok (.aload_n 0, 1) := by decide +kernel
theorem dX2_look_39 : decode cX2_look 39 = .ok (.getfield 38, 3) := by decide +kernel
theorem dX2_look_42 : decode cX2_look 42 = .ok (.getfield 45, 3) := by decide +kernel
theorem dX2_look_45 : decode cX2_look 45 = .ok (.iconst 3, 1) := by decide +kernel
theorem dX2_look_46 : decode cX2_look 46 = .ok (.iaload, 1) := by decide +kernel
theorem dX2_look_47 : decode cX2_look 47 = .ok (.if_icmp .ge 86, 3) := by decide +kernel
theorem dX2_look_50 : decode cX2_look 50 = .ok (.aload_n 0, 1) := by decide +kernel
theorem dX2_look_51 : decode cX2_look 51 = .ok (.getfield 38, 3) := by decide +kernel
theorem dX2_look_54 : decode cX2_look 54 = .ok (.getfield 54, 3) := by decide +kernel
theorem dX2_look_57 : decode cX2_look 57 = .ok (.iload_n 2, 1) := by decide +kernel
theorem dX2_look_58 : decode cX2_look 58 = .ok (.aaload, 1) := by decide +kernel
theorem dX2_look_59 : decode cX2_look 59 = .ok (.astore_n 3, 1) := by decide +kernel
theorem dX2_look_60 : decode cX2_look 60 = .ok (.aload_n 0, 1) := by decide +kernel
theorem dX2_look_61 : decode cX2_look 61 = .ok (.getfield 15, 3) := by decide +kernel
theorem dX2_look_64 : decode cX2_look 64 = .ok (.iload_n 2, 1) := by decide +kernel
theorem dX2_look_65 : decode cX2_look 65 = .ok (.aload_n 0, 1) := by decide +kernel
theorem dX2_look_66 : decode cX2_look 66 = .ok (.aload_n 3, 1) := by decide +kernel
theorem dX2_look_67 : decode cX2_look 67 = .ok (.iconst 1, 1) := by decide +kernel
theorem dX2_look_68 : decode cX2_look 68 = .ok (.iaload, 1) := by decide +kernel
theorem dX2_look_69 : decode cX2_look 69 = .ok (.aload_n 3, 1) := by decide +kernel
theorem dX2_look_70 : decode cX2_look 70 = .ok (.iconst 2, 1) := by decide +kernel
theorem dX2_look_71 : decode cX2_look 71 = .ok (.iaload, 1) := by decide +kernel
theorem dX2_look_72 : decode cX2_look 72 = .ok (.invokevirtual 57, 3) := by decide +kernel
theorem dX2_look_75 : decode cX2_look 75 = .ok (.bastore, 1) := by decide +kernel
theorem dX2_look_76 : decode cX2_look 76 = .ok (.aload_n 0, 1) := by decide +kernel
theorem dX2_look_77 : decode cX2_look 77 = .ok (.getfield 23, 3) := by decide +kernel
theorem dX2_look_80 : decode cX2_look 80 = .ok (.iload_n 2, 1) := by decide +kernel
theorem dX2_look_81 : decode cX2_look 81 = .ok (.aload_n 0, 1) := by decide +kernel
theorem dX2_look_82 : decode cX2_look 82 = .ok (.getfield 38, 3) := by decide +kernel
theorem dX2_look_85 : decode cX2_look 85 = .ok (.iload_n 2, 1) := by decide +kernel
theorem dX2_look_86 : decode cX2_look 86 = .ok (.invokevirtual 61, 3) := by decide +kernel
theorem dX2_look_89 : decode cX2_look 89 = .ok (.iastore, 1) := by decide +kernel
theorem dX2_look_90 : decode cX2_look 90 = .ok (.aload_n 0, 1) := by decide +kernel
theorem dX2_look_91 : decode cX2_look 91 = .ok (.getfield 31, 3) := by decide +kernel
theorem dX2_look_94 : decode cX2_look 94 = .ok (.iload_n 2, 1) := by decide +kernel
theorem dX2_look_95 : decode cX2_look 95 = .ok (.aload_n 0, 1) := by decide +kernel
theorem dX2_look_96 : decode cX2_look 96 = .ok (.iload_n 2, 1) := by decide +kernel
theorem dX2_look_97 : decode cX2_look 97 = .ok (.aload_n 3, 1) := by decide +kernel
theorem dX2_look_98 : decode cX2_look 98 = .ok (.iconst 4, 1) := by decide +kernel
theorem dX2_look_99 : decode cX2_look 99 = .ok (.iaload, 1) := by decide +kernel
theorem dX2_look_100 : decode cX2_look 100 = .ok (.invokevirtual 65, 3) := by decide +kernel
theorem dX2_look_103 : decode cX2_look 103 = .ok (.aload_n 3, 1) := by decide +kernel
theorem dX2_look_104 : decode cX2_look 104 = .ok (.bipush 8, 2) := by decide +kernel
theorem dX2_look_106 : decode cX2_look 106 = .ok (.iaload, 1) := by decide +kernel
theorem dX2_look_107 : decode cX2_look 107 = .ok (.i2l, 1) := by decide +kernel
theorem dX2_look_108 : decode cX2_look 108 = .ok (.ladd, 1) := by decide +kernel
theorem dX2_look_109 : decode cX2_look 109 = .ok (.aload_n 0, 1) := by decide +kernel
theorem dX2_look_110 : decode cX2_look 110 = .ok (.iload_n 2, 1) := by decide +kernel
theorem dX2_look_111 : decode cX2_look 111 = .ok (.invokevirtual 69, 3) := by decide +kernel
theorem dX2_look_114 : decode cX2_look 114 = .ok (.ladd, 1) := by decide +kernel
theorem dX2_look_115 : decode cX2_look 115 = .ok (.lastore, 1) := by decide +kernel
theorem dX2_look_116 : decode cX2_look 116 = .ok (.aload_n 0, 1) := by decide +kernel
theorem dX2_look_117 : decode cX2_look 117 = .ok (.getfield 35, 3) := by decide +kernel
theorem dX2_look_120 : decode cX2_look 120 = .ok (.iload_n 2, 1) := by decide +kernel
theorem dX2_look_121 : decode cX2_look 121 = .ok (.aload_n 0, 1) := by decide +kernel
theorem dX2_look_122 : decode cX2_look 122 = .ok (.iload_n 2, 1) := by decide +kernel
theorem dX2_look_123 : decode cX2_look 123 = .ok (.invokevirtual 73, 3) := by decide +kernel
theorem dX2_look_126 : decode cX2_look 126 = .ok (.iastore, 1) := by decide +kernel
theorem dX2_look_127 : decode cX2_look 127 = .ok (.iinc 2 1, 3) := by decide +kernel
theorem dX2_look_130 : decode cX2_look 130 = .ok (.goto (-93), 3) := by decide +kernel
theorem dX2_look_133 : decode cX2_look 133 = .ok (.return_, 1) := by decide +kernel
theorem dX2_areKin_0 : decode cX2_areKin 0 = .ok (.aload_n 0, 1) := by decide +kernel
theorem dX2_areKin_1 : decode cX2_areKin 1 = .ok (.getfield 9, 3) := by decide +kernel
theorem dX2_areKin_4 : decode cX2_areKin 4 = .ok (.iload_n 1, 1) := by decide +kernel
theorem dX2_areKin_5 : decode cX2_areKin 5 = .ok (.iaload, 1) := by decide +kernel
theorem dX2_areKin_6 : decode cX2_areKin 6 = .ok (.iload_n 2, 1) := by decide +kernel
theorem dX2_areKin_7 : decode cX2_areKin 7 = .ok (.ishr, 1) := by decide +kernel
theorem dX2_areKin_8 : decode cX2_areKin 8 = .ok (.iconst 1, 1) := by decide +kernel
theorem dX2_areKin_9 : decode cX2_areKin 9 = .ok (.iand, 1) := by decide +kernel
theorem dX2_areKin_10 : decode cX2_areKin 10 = .ok (.ifCond .eq 7, 3) := by decide +kernel
theorem dX2_areKin_13 : decode cX2_areKin 13 = .ok (.iconst 1, 1) := by decide +kernel
theorem dX2_areKin_14 : decode cX2_areKin 14 = .ok (.goto 4, 3) := by decide +kernel
theorem dX2_areKin_17 : decode cX2_areKin 17 = .ok (.iconst 0, 1) := by decide +kernel
theorem dX2_areKin_18 : decode cX2_areKin 18 = .ok (.ireturn, 1) := by decide +kernel
theorem dX2_closeKin_0 : decode cX2_closeKin 0 = .ok (.aload_n 0, 1) := by decide +kernel
theorem dX2_closeKin_1 : decode cX2_closeKin 1 = .ok (.getfield 38, 3) := by decide +kernel
theorem dX2_closeKin_4 : decode cX2_closeKin 4 = .ok (.getfield 45, 3) := by decide +kernel
theorem dX2_closeKin_7 : decode cX2_closeKin 7 = .ok (.iconst 0, 1) := by decide +kernel
theorem dX2_closeKin_8 : decode cX2_closeKin 8 = .ok (.iaload, 1) := by decide +kernel
theorem dX2_closeKin_9 : decode cX2_closeKin 9 = .ok (.istore_n 1, 1) := by decide +kernel
theorem dX2_closeKin_10 : decode cX2_closeKin 10 = .ok (.iconst 0, 1) := by decide +kernel
theorem dX2_closeKin_11 : decode cX2_closeKin 11 = .ok (.istore_n 2, 1) := by decide +kernel
theorem dX2_closeKin_12 : decode cX2_closeKin 12 = .ok (.iload_n 2, 1) := by decide +kernel
theorem dX2_closeKin_13 : decode cX2_closeKin 13 = .ok (.iload_n 1, 1) := by decide +kernel
theorem dX2_closeKin_14 : decode cX2_closeKin 14 = .ok (.if_icmp .ge 28, 3) := by decide +kernel
theorem dX2_closeKin_17 : decode cX2_closeKin 17 = .ok (.aload_n 0, 1) := by decide +kernel
theorem dX2_closeKin_18 : decode cX2_closeKin 18 = .ok (.getfield 9, 3) := by decide +kernel
theorem dX2_closeKin_21 : decode cX2_closeKin 21 = .ok (.iload_n 2, 1) := by decide +kernel
theorem dX2_closeKin_22 : decode cX2_closeKin 22 = .ok (.aload_n 0, 1) := by decide +kernel
theorem dX2_closeKin_23 : decode cX2_closeKin 23 = .ok (.getfield 38, 3) := by decide +kernel
theorem dX2_closeKin_26 : decode cX2_closeKin 26 = .ok (.getfield 76, 3) := by decide +kernel
theorem dX2_closeKin_29 : decode cX2_closeKin 29 = .ok (.iload_n 2, 1) := by decide +kernel
theorem dX2_closeKin_30 : decode cX2_closeKin 30 = .ok (.iaload, 1) := by decide +kernel
theorem dX2_closeKin_31 : decode cX2_closeKin 31 = .ok (.iconst 1, 1) := by decide +kernel
theorem dX2_closeKin_32 : decode cX2_closeKin 32 = .ok (.iload_n 2, 1) := by decide +kernel
theorem dX2_closeKin_33 : decode cX2_closeKin 33 = .ok (.ishl, 1) := by decide +kernel
theorem dX2_closeKin_34 : decode cX2_closeKin 34 = .ok (.ior, 1) := by decide +kernel
theorem dX2_closeKin_35 : decode cX2_closeKin 35 = .ok (.iastore, 1) := by decide +kernel
theorem dX2_closeKin_36 : decode cX2_closeKin 36 = .ok (.iinc 2 1, 3) := by decide +kernel
theorem dX2_closeKin_39 : decode cX2_closeKin 39 = .ok (.goto (-27), 3) := by decide +kernel
theorem dX2_closeKin_42 : decode cX2_closeKin 42 = .ok (.iconst 0, 1) := by decide +kernel
theorem dX2_closeKin_43 : decode cX2_closeKin 43 = .ok (.istore_n 2, 1) := by decide +kernel
theorem dX2_closeKin_44 : decode cX2_closeKin 44 = .ok (.iload_n 2, 1) := by decide +kernel
theorem dX2_closeKin_45 : decode cX2_closeKin 45 = .ok (.iload_n 1, 1) := by decide +kernel
theorem dX2_closeKin_46 : decode cX2_closeKin 46 = .ok (.if_icmp .ge 46, 3) := by decide +kernel
theorem dX2_closeKin_49 : decode cX2_closeKin 49 = .ok (.iconst 0, 1) := by decide +kernel
theorem dX2_closeKin_50 : decode cX2_closeKin 50 = .ok (.istore_n 3, 1) := by decide +kernel
theorem dX2_closeKin_51 : decode cX2_closeKin 51 = .ok (.iload_n 3, 1) := by decide +kernel
theorem dX2_closeKin_52 : decode cX2_closeKin 52 = .ok (.iload_n 1, 1) := by decide +kernel
theorem dX2_closeKin_53 : decode cX2_closeKin 53 = .ok (.if_icmp .ge 33, 3) := by decide +kernel
theorem dX2_closeKin_56 : decode cX2_closeKin 56 = .ok (.aload_n 0, 1) := by decide +kernel
theorem dX2_closeKin_57 : decode cX2_closeKin 57 = .ok (.iload_n 3, 1) := by decide +kernel
theorem dX2_closeKin_58 : decode cX2_closeKin 58 = .ok (.iload_n 2, 1) := by decide +kernel
theorem dX2_closeKin_59 : decode cX2_closeKin 59 = .ok (.invokevirtual 57, 3) := by decide +kernel
theorem dX2_closeKin_62 : decode cX2_closeKin 62 = .ok (.ifCond .eq 18, 3) := by decide +kernel
theorem dX2_closeKin_65 : decode cX2_closeKin 65 = .ok (.aload_n 0, 1) := by decide +kernel
theorem dX2_closeKin_66 : decode cX2_closeKin 66 = .ok (.getfield 9, 3) := by decide +kernel
theorem dX2_closeKin_69 : decode cX2_closeKin 69 = .ok (.iload_n 3, 1) := by decide +kernel
theorem dX2_closeKin_70 : decode cX2_closeKin 70 = .ok (.dup2, 1) := by decide +kernel
theorem dX2_closeKin_71 : decode cX2_closeKin 71 = .ok (.iaload, 1) := by decide +kernel
theorem dX2_closeKin_72 : decode cX2_closeKin 72 = .ok (.aload_n 0, 1) := by decide +kernel
theorem dX2_closeKin_73 : decode cX2_closeKin 73 = .ok (.getfield 9, 3) := by decide +kernel
theorem dX2_closeKin_76 : decode cX2_closeKin 76 = .ok (.iload_n 2, 1) := by decide +kernel
theorem dX2_closeKin_77 : decode cX2_closeKin 77 = .ok (.iaload, 1) := by decide +kernel
theorem dX2_closeKin_78 : decode cX2_closeKin 78 = .ok (.ior, 1) := by decide +kernel
theorem dX2_closeKin_79 : decode cX2_closeKin 79 = .ok (.iastore, 1) := by decide +kernel
theorem dX2_closeKin_80 : decode cX2_closeKin 80 = .ok (.iinc 3 1, 3) := by decide +kernel
theorem dX2_closeKin_83 : decode cX2_closeKin 83 = .ok (.goto (-32), 3) := by decide +kernel
theorem dX2_closeKin_86 : decode cX2_closeKin 86 = .ok (.iinc 2 1, 3) := by decide +kernel
theorem dX2_closeKin_89 : decode cX2_closeKin 89 = .ok (.goto (-45), 3) := by decide +kernel
theorem dX2_closeKin_92 : decode cX2_closeKin 92 = .ok (.return_, 1) := by decide +kernel
theorem dX2_shareOut_0 : decode cX2_shareOut 0 = .ok (.aload_n 0, 1) := by decide +kernel
theorem dX2_shareOut_1 : decode cX2_shareOut 1 = .ok (.getfield 38, 3) := by decide +kernel
theorem dX2_shareOut_4 : decode cX2_shareOut 4 = .ok (.getfield 79, 3) := by decide +kernel
theorem dX2_shareOut_7 : decode cX2_shareOut 7 = .ok (.iload_n 1, 1) := by decide +kernel
theorem dX2_shareOut_8 : decode cX2_shareOut 8 = .ok (.aaload, 1) := by decide +kernel
theorem dX2_shareOut_9 : decode cX2_shareOut 9 = .ok (.iconst 0, 1) := by decide +kernel
theorem dX2_shareOut_10 : decode cX2_shareOut 10 = .ok (.iaload, 1) := by decide +kernel
theorem dX2_shareOut_11 : decode cX2_shareOut 11 = .ok (.istore_n 2, 1) := by decide +kernel
theorem dX2_shareOut_12 : decode cX2_shareOut 12 = .ok (.aload_n 0, 1) := by decide +kernel
theorem dX2_shareOut_13 : decode cX2_shareOut 13 = .ok (.getfield 38, 3) := by decide +kernel
theorem dX2_shareOut_16 : decode cX2_shareOut 16 = .ok (.getfield 79, 3) := by decide +kernel
theorem dX2_shareOut_19 : decode cX2_shareOut 19 = .ok (.iload_n 1, 1) := by decide +kernel
theorem dX2_shareOut_20 : decode cX2_shareOut 20 = .ok (.aaload, 1) := by decide +kernel
theorem dX2_shareOut_21 : decode cX2_shareOut 21 = .ok (.iconst 1, 1) := by decide +kernel
theorem dX2_shareOut_22 : decode cX2_shareOut 22 = .ok (.iaload, 1) := by decide +kernel
theorem dX2_shareOut_23 : decode cX2_shareOut 23 = .ok (.istore_n 3, 1) := by decide +kernel
theorem dX2_shareOut_24 : decode cX2_shareOut 24 = .ok (.iload_n 3, 1) := by decide +kernel
theorem dX2_shareOut_25 : decode cX2_shareOut 25 = .ok (.istore 4, 2) := by decide +kernel
theorem dX2_shareOut_27 : decode cX2_shareOut 27 = .ok (.iconst 0, 1) := by decide +kernel
theorem dX2_shareOut_28 : decode cX2_shareOut 28 = .ok (.istore 5, 2) := by decide +kernel
theorem dX2_shareOut_30 : decode cX2_shareOut 30 = .ok (.aload_n 0, 1) := by decide +kernel
theorem dX2_shareOut_31 : decode cX2_shareOut 31 = .ok (.getfield 28, 3) := by decide +kernel
theorem dX2_shareOut_34 : decode cX2_shareOut 34 = .ok (.iload_n 1, 1) := by decide +kernel
theorem dX2_shareOut_35 : decode cX2_shareOut 35 = .ok (.aaload, 1) := by decide +kernel
theorem dX2_shareOut_36 : decode cX2_shareOut 36 = .ok (.iconst 0, 1) := by decide +kernel
theorem dX2_shareOut_37 : decode cX2_shareOut 37 = .ok (.invokestatic 82, 3) := by decide +kernel
theorem dX2_shareOut_40 : decode cX2_shareOut 40 = .ok (.iconst 0, 1) := by decide +kernel
theorem dX2_shareOut_41 : decode cX2_shareOut 41 = .ok (.istore 6, 2) := by decide +kernel
theorem dX2_shareOut_43 : decode cX2_shareOut 43 = .ok (.iload 6, 2) := by decide +kernel
theorem dX2_shareOut_45 : decode cX2_shareOut 45 = .ok (.aload_n 0, 1) := by decide +kernel
theorem dX2_shareOut_46 : decode cX2_shareOut 46 = .ok (.getfield 38, 3) := by decide +kernel
theorem dX2_shareOut_49 : decode cX2_shareOut 49 = .ok (.getfield 45, 3) := by decide +kernel
theorem dX2_shareOut_52 : decode cX2_shareOut 52 = .ok (.iconst 3, 1) := by decide +kernel
theorem dX2_shareOut_53 : decode cX2_shareOut 53 = .ok (.iaload, 1) := by decide +kernel
theorem dX2_shareOut_54 : decode cX2_shareOut 54 = .ok (.if_icmp .ge 96, 3) := by decide +kernel
theorem dX2_shareOut_57 : decode cX2_shareOut 57 = .ok (.aload_n 0, 1) := by decide +kernel
theorem dX2_shareOut_58 : decode cX2_shareOut 58 = .ok (.iload_n 1, 1) := by decide +kernel
theorem dX2_shareOut_59 : decode cX2_shareOut 59 = .ok (.iload 5, 2) := by decide +kernel
theorem dX2_shareOut_61 : decode cX2_shareOut 61 = .ok (.invokevirtual 88, 3) := by decide +kernel
theorem dX2_shareOut_64 : decode cX2_shareOut 64 = .ok (.istore 7, 2) := by decide +kernel
theorem dX2_shareOut_66 : decode cX2_shareOut 66 = .ok (.iload 7, 2) := by decide +kernel
theorem dX2_shareOut_68 : decode cX2_shareOut 68 = .ok (.iconst (-1), 1) := by decide +kernel
theorem dX2_shareOut_69 : decode cX2_shareOut 69 = .ok (.if_icmp .ne 4, 3) := by decide +kernel
theorem dX2_shareOut_72 : decode cX2_shareOut 72 = .ok (.return_, 1) := by decide +kernel
theorem dX2_shareOut_73 : decode cX2_shareOut 73 = .ok (.iload_n 3, 1) := by decide +kernel
theorem dX2_shareOut_74 : decode cX2_shareOut 74 = .ok (.ifCond .ne 14, 3) := by decide +kernel
theorem dX2_shareOut_77 : decode cX2_shareOut 77 = .ok (.aload_n 0, 1) := by decide +kernel
theorem dX2_shareOut_78 : decode cX2_shareOut 78 = .ok (.getfield 28, 3) := by decide +kernel
theorem dX2_shareOut_81 : decode cX2_shareOut 81 = .ok (.iload_n 1, 1) := by decide +kernel
theorem dX2_shareOut_82 : decode cX2_shareOut 82 = .ok (.aaload, 1) := by decide +kernel
theorem dX2_shareOut_83 : decode cX2_shareOut 83 = .ok (.iload 7, 2) := by decide +kernel
theorem dX2_shareOut_85 : decode cX2_shareOut 85 = .ok (.iload_n 2, 1) := by decide +kernel
theorem dX2_shareOut_86 : decode cX2_shareOut 86 = .ok (.iastore, 1) := by decide +kernel
theorem dX2_shareOut_87 : decode cX2_shareOut 87 = .ok (.return_, 1) := by decide +kernel
theorem dX2_shareOut_88 : decode cX2_shareOut 88 = .ok (.iload 4, 2) := by decide +kernel
theorem dX2_shareOut_90 : decode cX2_shareOut 90 = .ok (.aload_n 0, 1) := by decide +kernel
theorem dX2_shareOut_91 : decode cX2_shareOut 91 = .ok (.getfield 38, 3) := by decide +kernel
theorem dX2_shareOut_94 : decode cX2_shareOut 94 = .ok (.getfield 54, 3) := by decide +kernel
theorem dX2_shareOut_97 : decode cX2_shareOut 97 = .ok (.iload 7, 2) := by decide +kernel
theorem dX2_shareOut_99 : decode cX2_shareOut 99 = .ok (.aaload, 1) := by decide +kernel
theorem dX2_shareOut_100 : decode cX2_shareOut 100 = .ok (.iconst 3, 1) := by decide +kernel
theorem dX2_shareOut_101 : decode cX2_shareOut 101 = .ok (.iaload, 1) := by decide +kernel
theorem dX2_shareOut_102 : decode cX2_shareOut 102 = .ok (.invokestatic 92, 3) := by decide +kernel
theorem dX2_shareOut_105 : decode cX2_shareOut 105 = .ok (.istore 8, 2) := by decide +kernel
theorem dX2_shareOut_107 : decode cX2_shareOut 107 = .ok (.aload_n 0, 1) := by decide +kernel
theorem dX2_shareOut_108 : decode cX2_shareOut 108 = .ok (.getfield 28, 3) := by decide +kernel
theorem dX2_shareOut_111 : decode cX2_shareOut 111 = .ok (.iload_n 1, 1) := by decide +kernel
theorem dX2_shareOut_112 : decode cX2_shareOut 112 = .ok (.aaload, 1) := by decide +kernel
theorem dX2_shareOut_113 : decode cX2_shareOut 113 = .ok (.iload 7, 2) := by decide +kernel
theorem dX2_shareOut_115 : decode cX2_shareOut 115 = .ok (.iload_n 2, 1) := by decide +kernel
theorem dX2_shareOut_116 : decode cX2_shareOut 116 = .ok (.i2l, 1) := by decide +kernel
theorem dX2_shareOut_117 : decode cX2_shareOut 117 = .ok (.iload 8, 2) := by decide +kernel
theorem dX2_shareOut_119 : decode cX2_shareOut 119 = .ok (.i2l, 1) := by decide +kernel
theorem dX2_shareOut_120 : decode cX2_shareOut 120 = .ok (.lmul, 1) := by decide +kernel
theorem dX2_shareOut_121 : decode cX2_shareOut 121 = .ok (.iload_n 3, 1) := by decide +kernel
theorem dX2_shareOut_122 : decode cX2_shareOut 122 = .ok (.i2l, 1) := by decide +kernel
theorem dX2_shareOut_123 : decode cX2_shareOut 123 = .ok (.invokestatic 97, 3) := by decide +kernel
theorem dX2_shareOut_126 : decode cX2_shareOut 126 = .ok (.l2i, 1) := by decide +kernel
theorem dX2_shareOut_127 : decode cX2_shareOut 127 = .ok (.iastore, 1) := by decide +kernel
theorem dX2_shareOut_128 : decode cX2_shareOut 128 = .ok (.iload 4, 2) := by decide +kernel
theorem dX2_shareOut_130 : decode cX2_shareOut 130 = .ok (.iload 8, 2) := by decide +kernel
theorem dX2_shareOut_132 : decode cX2_shareOut 132 = .ok (.isub, 1) := by decide +kernel
theorem dX2_shareOut_133 : decode cX2_shareOut 133 = .ok (.istore 4, 2) := by decide +kernel
theorem dX2_shareOut_135 : decode cX2_shareOut 135 = .ok (.iload 5, 2) := by decide +kernel
theorem dX2_shareOut_137 : decode cX2_shareOut 137 = .ok (.iconst 1, 1) := by decide +kernel
theorem dX2_shareOut_138 : decode cX2_shareOut 138 = .ok (.iload 7, 2) := by decide +kernel
theorem dX2_shareOut_140 : decode cX2_shareOut 140 = .ok (.ishl, 1) := by decide +kernel
theorem dX2_shareOut_141 : decode cX2_shareOut 141 = .ok (.ior, 1) := by decide +kernel
theorem dX2_shareOut_142 : decode cX2_shareOut 142 = .ok (.istore 5, 2) := by decide +kernel
theorem dX2_shareOut_144 : decode cX2_shareOut 144 = .ok (.iinc 6 1, 3) := by decide +kernel
theorem dX2_shareOut_147 : decode cX2_shareOut 147 = .ok (.goto (-104), 3) := by decide +kernel
theorem dX2_shareOut_150 : decode cX2_shareOut 150 = .ok (.return_, 1) := by decide +kernel
theorem dX2_firstUser_0 : decode cX2_firstUser 0 = .ok (.iconst (-1), 1) := by decide +kernel
theorem dX2_firstUser_1 : decode cX2_firstUser 1 = .ok (.istore_n 3, 1) := by decide +kernel
theorem dX2_firstUser_2 : decode cX2_firstUser 2 = .ok (.iconst 0, 1) := by decide +kernel
theorem dX2_firstUser_3 : decode cX2_firstUser 3 = .ok (.istore 4, 2) := by decide +kernel
theorem dX2_firstUser_5 : decode cX2_firstUser 5 = .ok (.iload 4, 2) := by decide +kernel
theorem dX2_firstUser_7 : decode cX2_firstUser 7 = .ok (.aload_n 0, 1) := by decide +kernel
theorem dX2_firstUser_8 : decode cX2_firstUser 8 = .ok (.getfield 38, 3) := by decide +kernel
theorem dX2_firstUser_11 : decode cX2_firstUser 11 = .ok (.getfield 45, 3) := by decide +kernel
theorem dX2_firstUser_14 : decode cX2_firstUser 14 = .ok (.iconst 3, 1) := by decide +kernel
theorem dX2_firstUser_15 : decode cX2_firstUser 15 = .ok (.iaload, 1) := by decide +kernel
theorem dX2_firstUser_16 : decode cX2_firstUser 16 = .ok (.if_icmp .ge 96, 3) := by decide +kernel
theorem dX2_firstUser_19 : decode cX2_firstUser 19 = .ok (.aload_n 0, 1) := by decide +kernel
theorem dX2_firstUser_20 : decode cX2_firstUser 20 = .ok (.getfield 38, 3) := by decide +kernel
theorem dX2_firstUser_23 : decode cX2_firstUser 23 = .ok (.getfield 54, 3) := by decide +kernel
theorem dX2_firstUser_26 : decode cX2_firstUser 26 = .ok (.iload 4, 2) := by decide +kernel
theorem dX2_firstUser_28 : decode cX2_firstUser 28 = .ok (.aaload, 1) := by decide +kernel
theorem dX2_firstUser_29 : decode cX2_firstUser 29 = .ok (.bipush 11, 2) := by decide +kernel
theorem dX2_firstUser_31 : decode cX2_firstUser 31 = .ok (.iaload, 1) := by decide +kernel
theorem dX2_firstUser_32 : decode cX2_firstUser 32 = .ok (.iload_n 1, 1) := by decide +kernel
theorem dX2_firstUser_33 : decode cX2_firstUser 33 = .ok (.ishr, 1) := by decide +kernel
theorem dX2_firstUser_34 : decode cX2_firstUser 34 = .ok (.iconst 1, 1) := by decide +kernel
theorem dX2_firstUser_35 : decode cX2_firstUser 35 = .ok (.iand, 1) := by decide +kernel
theorem dX2_firstUser_36 : decode cX2_firstUser 36 = .ok (.ifCond .eq 7, 3) := by decide +kernel
theorem dX2_firstUser_39 : decode cX2_firstUser 39 = .ok (.iconst 1, 1) := by decide +kernel
theorem dX2_firstUser_40 : decode cX2_firstUser 40 = .ok (.goto 4, 3) := by decide +kernel
theorem dX2_firstUser_43 : decode cX2_firstUser 43 = .ok (.iconst 0, 1) := by decide +kernel
theorem dX2_firstUser_44 : decode cX2_firstUser 44 = .ok (.istore 5, 2) := by decide +kernel
theorem dX2_firstUser_46 : decode cX2_firstUser 46 = .ok (.iload 5, 2) := by decide +kernel
theorem dX2_firstUser_48 : decode cX2_firstUser 48 = .ok (.ifCond .eq 58, 3) := by decide +kernel
theorem dX2_firstUser_51 : decode cX2_firstUser 51 = .ok (.iload 4, 2) := by decide +kernel
theorem dX2_firstUser_53 : decode cX2_firstUser 53 = .ok (.aload_n 0, 1) := by decide +kernel
theorem dX2_firstUser_54 : decode cX2_firstUser 54 = .ok (.getfield 19, 3) := by decide +kernel
theorem dX2_firstUser_57 : decode cX2_firstUser 57 = .ok (.if_icmp .eq 49, 3) := by decide +kernel
theorem dX2_firstUser_60 : decode cX2_firstUser 60 = .ok (.iload_n 2, 1) := by decide +kernel
theorem dX2_firstUser_61 : decode cX2_firstUser 61 = .ok (.iload 4, 2) := by decide +kernel
theorem dX2_firstUser_63 : decode cX2_firstUser 63 = .ok (.ishr, 1) := by decide +kernel
theorem dX2_firstUser_64 : decode cX2_firstUser 64 = .ok (.iconst 1, 1) := by decide +kernel
theorem dX2_firstUser_65 : decode cX2_firstUser 65 = .ok (.iand, 1) := by decide +kernel
theorem dX2_firstUser_66 : decode cX2_firstUser 66 = .ok (.ifCond .eq 6, 3) := by decide +kernel
theorem dX2_firstUser_69 : decode cX2_firstUser 69 = .ok (.goto 37, 3) := by decide +kernel
theorem dX2_firstUser_72 : decode cX2_firstUser 72 = .ok (.iload_n 3, 1) := by decide +kernel
theorem dX2_firstUser_73 : decode cX2_firstUser 73 = .ok (.iconst (-1), 1) := by decide +kernel
theorem dX2_firstUser_74 : decode cX2_firstUser 74 = .ok (.if_icmp .eq 29, 3) := by decide +kernel
theorem dX2_firstUser_77 : decode cX2_firstUser 77 = .ok (.aload_n 0, 1) := by decide +kernel
theorem dX2_firstUser_78 : decode cX2_firstUser 78 = .ok (.getfield 38, 3) := by decide +kernel
theorem dX2_firstUser_81 : decode cX2_firstUser 81 = .ok (.getfield 54, 3) := by decide +kernel
theorem dX2_firstUser_84 : decode cX2_firstUser 84 = .ok (.iload 4, 2) := by decide +kernel
theorem dX2_firstUser_86 : decode cX2_firstUser 86 = .ok (.aaload, 1) := by decide +kernel
theorem dX2_firstUser_87 : decode cX2_firstUser 87 = .ok (.iconst 5, 1) := by decide +kernel
theorem dX2_firstUser_88 : decode cX2_firstUser 88 = .ok (.iaload, 1) := by decide +kernel
theorem dX2_firstUser_89 : decode cX2_firstUser 89 = .ok (.aload_n 0, 1) := by decide +kernel
theorem dX2_firstUser_90 : decode cX2_firstUser 90 = .ok (.getfield 38, 3) := by decide +kernel
theorem dX2_firstUser_93 : decode cX2_firstUser 93 = .ok (.getfield 54, 3) := by decide +kernel
theorem dX2_firstUser_96 : decode cX2_firstUser 96 = .ok (.iload_n 3, 1) := by decide +kernel
theorem dX2_firstUser_97 : decode cX2_firstUser 97 = .ok (.aaload, 1) := by decide +kernel
theorem dX2_firstUser_98 : decode cX2_firstUser 98 = .ok (.iconst 5, 1) := by decide +kernel
theorem dX2_firstUser_99 : decode cX2_firstUser 99 = .ok (.iaload, 1) := by decide +kernel
theorem dX2_firstUser_100 : decode cX2_firstUser 100 = .ok (.if_icmp .ge 6, 3) := by decide +kernel
theorem dX2_firstUser_103 : decode cX2_firstUser 103 = .ok (.iload 4, 2) := by decide +kernel
theorem dX2_firstUser_105 : decode cX2_firstUser 105 = .ok (.istore_n 3, 1) := by decide +kernel
theorem dX2_firstUser_106 : decode cX2_firstUser 106 = .ok (.iinc 4 1, 3) := by decide +kernel
theorem dX2_firstUser_109 : decode cX2_firstUser 109 = .ok (.goto (-104), 3) := by decide +kernel
theorem dX2_firstUser_112 : decode cX2_firstUser 112 = .ok (.iload_n 3, 1) := by decide +kernel
theorem dX2_firstUser_113 : decode cX2_firstUser 113 = .ok (.ireturn, 1) := by decide +kernel
theorem dX2_priced_0 : decode cX2_priced 0 = .ok (.iload_n 2, 1) := by decide +kernel
theorem dX2_priced_1 : decode cX2_priced 1 = .ok (.i2l, 1) := by decide +kernel
theorem dX2_priced_2 : decode cX2_priced 2 = .ok (.aload_n 0, 1) := by decide +kernel
theorem dX2_priced_3 : decode cX2_priced 3 = .ok (.getfield 38, 3) := by decide +kernel
theorem dX2_priced_6 : decode cX2_priced 6 = .ok (.getfield 54, 3) := by decide +kernel
theorem dX2_priced_9 : decode cX2_priced 9 = .ok (.iload_n 1, 1) := by decide +kernel
theorem dX2_priced_10 : decode cX2_priced 10 = .ok (.aaload, 1) := by decide +kernel
theorem dX2_priced_11 : decode cX2_priced 11 = .ok (.iconst 3, 1) := by decide +kernel
theorem dX2_priced_12 : decode cX2_priced 12 = .ok (.iaload, 1) := by decide +kernel
theorem dX2_priced_13 : decode cX2_priced 13 = .ok (.i2l, 1) := by decide +kernel
theorem dX2_priced_14 : decode cX2_priced 14 = .ok (.lmul, 1) := by decide +kernel
theorem dX2_priced_15 : decode cX2_priced 15 = .ok (.lstore_n 3, 1) := by decide +kernel
theorem dX2_priced_16 : decode cX2_priced 16 = .ok (.lload_n 3, 1) := by decide +kernel
theorem dX2_priced_17 : decode cX2_priced 17 = .ok (.lload_n 3, 1) := by decide +kernel
theorem dX2_priced_18 : decode cX2_priced 18 = .ok (.aload_n 0, 1) := by decide +kernel
theorem dX2_priced_19 : decode cX2_priced 19 = .ok (.getfield 38, 3) := by decide +kernel
theorem dX2_priced_22 : decode cX2_priced 22 = .ok (.getfield 54, 3) := by decide +kernel
theorem dX2_priced_25 : decode cX2_priced 25 = .ok (.iload_n 1, 1) := by decide +kernel
theorem dX2_priced_26 : decode cX2_priced 26 = .ok (.aaload, 1) := by decide +kernel
theorem dX2_priced_27 : decode cX2_priced 27 = .ok (.bipush 7, 2) := by decide +kernel
theorem dX2_priced_29 : decode cX2_priced 29 = .ok (.iaload, 1) := by decide +kernel
theorem dX2_priced_30 : decode cX2_priced 30 = .ok (.i2l, 1) := by decide +kernel
theorem dX2_priced_31 : decode cX2_priced 31 = .ok (.lmul, 1) := by decide +kernel
theorem dX2_priced_32 : decode cX2_priced 32 = .ok (.ldc2_w 101, 3) := by decide +kernel
theorem dX2_priced_35 : decode cX2_priced 35 = .ok (.ldiv, 1) := by decide +kernel
theorem dX2_priced_36 : decode cX2_priced 36 = .ok (.ladd, 1) := by decide +kernel
theorem dX2_priced_37 : decode cX2_priced 37 = .ok (.lreturn, 1) := by decide +kernel
theorem dX2_broughtAlong_0 : decode cX2_broughtAlong 0 = .ok (.aload_n 0, 1) := by decide +kernel
theorem dX2_broughtAlong_1 : decode cX2_broughtAlong 1 = .ok (.getfield 38, 3) := by decide +kernel
theorem dX2_broughtAlong_4 : decode cX2_broughtAlong 4 = .ok (.getfield 54, 3) := by decide +kernel
theorem dX2_broughtAlong_7 : decode cX2_broughtAlong 7 = .ok (.iload_n 1, 1) := by decide +kernel
theorem dX2_broughtAlong_8 : decode cX2_broughtAlong 8 = .ok (.aaload, 1) := by decide +kernel
theorem dX2_broughtAlong_9 : decode cX2_broughtAlong 9 = .ok (.bipush 9, 2) := by decide +kernel
theorem dX2_broughtAlong_11 : decode cX2_broughtAlong 11 = .ok (.iaload, 1) := by decide +kernel
theorem dX2_broughtAlong_12 : decode cX2_broughtAlong 12 = .ok (.aload_n 0, 1) := by decide +kernel
theorem dX2_broughtAlong_13 : decode cX2_broughtAlong 13 = .ok (.getfield 38, 3) := by decide +kernel
theorem dX2_broughtAlong_16 : decode cX2_broughtAlong 16 = .ok (.getfield 54, 3) := by decide +kernel
theorem dX2_broughtAlong_19 : decode cX2_broughtAlong 19 = .ok (.iload_n 1, 1) := by decide +kernel
theorem dX2_broughtAlong_20 : decode cX2_broughtAlong 20 = .ok (.aaload, 1) := by decide +kernel
theorem dX2_broughtAlong_21 : decode cX2_broughtAlong 21 = .ok (.bipush 10, 2) := by decide +kernel
theorem dX2_broughtAlong_23 : decode cX2_broughtAlong 23 = .ok (.iaload, 1) := by decide +kernel
theorem dX2_broughtAlong_24 : decode cX2_broughtAlong 24 = .ok (.iadd, 1) := by decide +kernel
theorem dX2_broughtAlong_25 : decode cX2_broughtAlong 25 = .ok (.i2l, 1) := by decide +kernel
theorem dX2_broughtAlong_26 : decode cX2_broughtAlong 26 = .ok (.lstore_n 2, 1) := by decide +kernel
theorem dX2_broughtAlong_27 : decode cX2_broughtAlong 27 = .ok (.iconst 0, 1) := by decide +kernel
theorem dX2_broughtAlong_28 : decode cX2_broughtAlong 28 = .ok (.istore 4, 2) := by decide +kernel
theorem dX2_broughtAlong_30 : decode cX2_broughtAlong 30 = .ok (.iload 4, 2) := by decide +kernel
theorem dX2_broughtAlong_32 : decode cX2_broughtAlong 32 = .ok (.aload_n 0, 1) := by decide +kernel
theorem dX2_broughtAlong_33 : decode cX2_broughtAlong 33 = .ok (.getfield 38, 3) := by decide +kernel
theorem dX2_broughtAlong_36 : decode cX2_broughtAlong 36 = .ok (.getfield 45, 3) := by decide +kernel
theorem dX2_broughtAlong_39 : decode cX2_broughtAlong 39 = .ok (.iconst 2, 1) := by decide +kernel
theorem dX2_broughtAlong_40 : decode cX2_broughtAlong 40 = .ok (.iaload, 1) := by decide +kernel
theorem dX2_broughtAlong_41 : decode cX2_broughtAlong 41 = .ok (.if_icmp .ge 22, 3) := by decide +kernel
theorem dX2_broughtAlong_44 : decode cX2_broughtAlong 44 = .ok (.lload_n 2, 1) := by decide +kernel
theorem dX2_broughtAlong_45 : decode cX2_broughtAlong 45 = .ok (.aload_n 0, 1) := by decide +kernel
theorem dX2_broughtAlong_46 : decode cX2_broughtAlong 46 = .ok (.getfield 28, 3) := by decide +kernel
theorem dX2_broughtAlong_49 : decode cX2_broughtAlong 49 = .ok (.iload 4, 2) := by decide +kernel
theorem dX2_broughtAlong_51 : decode cX2_broughtAlong 51 = .ok (.aaload, 1) := by decide +kernel
theorem dX2_broughtAlong_52 : decode cX2_broughtAlong 52 = .ok (.iload_n 1, 1) := by decide +kernel
theorem dX2_broughtAlong_53 : decode cX2_broughtAlong 53 = .ok (.iaload, 1) := by decide +kernel
theorem dX2_broughtAlong_54 : decode cX2_broughtAlong 54 = .ok (.i2l, 1) := by decide +kernel
theorem dX2_broughtAlong_55 : decode cX2_broughtAlong 55 = .ok (.ladd, 1) := by decide +kernel
theorem dX2_broughtAlong_56 : decode cX2_broughtAlong 56 = .ok (.lstore_n 2, 1) := by decide +kernel
theorem dX2_broughtAlong_57 : decode cX2_broughtAlong 57 = .ok (.iinc 4 1, 3) := by decide +kernel
theorem dX2_broughtAlong_60 : decode cX2_broughtAlong 60 = .ok (.goto (-30), 3) := by decide +kernel
theorem dX2_broughtAlong_63 : decode cX2_broughtAlong 63 = .ok (.lload_n 2, 1) := by decide +kernel
theorem dX2_broughtAlong_64 : decode cX2_broughtAlong 64 = .ok (.lreturn, 1) := by decide +kernel
theorem dX2_priceResold_0 : decode cX2_priceResold 0 = .ok (.aload_n 0, 1) := by decide +kernel
theorem dX2_priceResold_1 : decode cX2_priceResold 1 = .ok (.iload_n 1, 1) := by decide +kernel
theorem dX2_priceResold_2 : decode cX2_priceResold 2 = .ok (.iconst 0, 1) := by decide +kernel
theorem dX2_priceResold_3 : decode cX2_priceResold 3 = .ok (.invokevirtual 103, 3) := by decide +kernel
theorem dX2_priceResold_6 : decode cX2_priceResold 6 = .ok (.istore_n 2, 1) := by decide +kernel
theorem dX2_priceResold_7 : decode cX2_priceResold 7 = .ok (.aload_n 0, 1) := by decide +kernel
theorem dX2_priceResold_8 : decode cX2_priceResold 8 = .ok (.iload_n 2, 1) := by decide +kernel
theorem dX2_priceResold_9 : decode cX2_priceResold 9 = .ok (.ifCond .eq 7, 3) := by decide +kernel
theorem dX2_priceResold_12 : decode cX2_priceResold 12 = .ok (.iload_n 2, 1) := by decide +kernel
theorem dX2_priceResold_13 : decode cX2_priceResold 13 = .ok (.goto 9, 3) := by decide +kernel
theorem dX2_priceResold_16 : decode cX2_priceResold 16 = .ok (.aload_n 0, 1) := by decide +kernel
theorem dX2_priceResold_17 : decode cX2_priceResold 17 = .ok (.iload_n 1, 1) := by decide +kernel
theorem dX2_priceResold_18 : decode cX2_priceResold 18 = .ok (.iconst 1, 1) := by decide +kernel
theorem dX2_priceResold_19 : decode cX2_priceResold 19 = .ok (.invokevirtual 103, 3) := by decide +kernel
theorem dX2_priceResold_22 : decode cX2_priceResold 22 = .ok (.invokevirtual 107, 3) := by decide +kernel
theorem dX2_priceResold_25 : decode cX2_priceResold 25 = .ok (.ireturn, 1) := by decide +kernel
theorem dX2_rowsFor_0 : decode cX2_rowsFor 0 = .ok (.aload_n 0, 1) := by decide +kernel
theorem dX2_rowsFor_1 : decode cX2_rowsFor 1 = .ok (.getfield 38, 3) := by decide +kernel
theorem dX2_rowsFor_4 : decode cX2_rowsFor 4 = .ok (.getfield 54, 3) := by decide +kernel
theorem dX2_rowsFor_7 : decode cX2_rowsFor 7 = .ok (.iload_n 1, 1) := by decide +kernel
theorem dX2_rowsFor_8 : decode cX2_rowsFor 8 = .ok (.aaload, 1) := by decide +kernel
theorem dX2_rowsFor_9 : decode cX2_rowsFor 9 = .ok (.iconst 0, 1) := by decide +kernel
theorem dX2_rowsFor_10 : decode cX2_rowsFor 10 = .ok (.iaload, 1) := by decide +kernel
theorem dX2_rowsFor_11 : decode cX2_rowsFor 11 = .ok (.istore_n 3, 1) := by decide +kernel
theorem dX2_rowsFor_12 : decode cX2_rowsFor 12 = .ok (.iconst 0, 1) := by decide +kernel
theorem dX2_rowsFor_13 : decode cX2_rowsFor 13 = .ok (.istore 4, 2) := by decide +kernel
theorem dX2_rowsFor_15 : decode cX2_rowsFor 15 = .ok (.iconst 0, 1) := by decide +kernel
theorem dX2_rowsFor_16 : decode cX2_rowsFor 16 = .ok (.istore 5, 2) := by decide +kernel
theorem dX2_rowsFor_18 : decode cX2_rowsFor 18 = .ok (.iload 5, 2) := by decide +kernel
theorem dX2_rowsFor_20 : decode cX2_rowsFor 20 = .ok (.aload_n 0, 1) := by decide +kernel
theorem dX2_rowsFor_21 : decode cX2_rowsFor 21 = .ok (.getfield 38, 3) := by decide +kernel
theorem dX2_rowsFor_24 : decode cX2_rowsFor 24 = .ok (.getfield 45, 3) := by decide +kernel
theorem dX2_rowsFor_27 : decode cX2_rowsFor 27 = .ok (.iconst 4, 1) := by decide +kernel
theorem dX2_rowsFor_28 : decode cX2_rowsFor 28 = .ok (.iaload, 1) := by decide +kernel
theorem dX2_rowsFor_29 : decode cX2_rowsFor 29 = .ok (.if_icmp .ge 115, 3) := by decide +kernel
theorem dX2_rowsFor_32 : decode cX2_rowsFor 32 = .ok (.aload_n 0, 1) := by decide +kernel
theorem dX2_rowsFor_33 : decode cX2_rowsFor 33 = .ok (.getfield 38, 3) := by decide +kernel
theorem dX2_rowsFor_36 : decode cX2_rowsFor 36 = .ok (.getfield 110, 3) := by decide +kernel
theorem dX2_rowsFor_39 : decode cX2_rowsFor 39 = .ok (.iload 5, 2) := by decide +kernel
theorem dX2_rowsFor_41 : decode cX2_rowsFor 41 = .ok (.aaload, 1) := by decide +kernel
theorem dX2_rowsFor_42 : decode cX2_rowsFor 42 = .ok (.iconst 0, 1) := by decide +kernel
theorem dX2_rowsFor_43 : decode cX2_rowsFor 43 = .ok (.iaload, 1) := by decide +kernel
theorem dX2_rowsFor_44 : decode cX2_rowsFor 44 = .ok (.istore 6, 2) := by decide +kernel
theorem dX2_rowsFor_46 : decode cX2_rowsFor 46 = .ok (.aload_n 0, 1) := by decide +kernel
theorem dX2_rowsFor_47 : decode cX2_rowsFor 47 = .ok (.getfield 38, 3) := by decide +kernel
theorem dX2_rowsFor_50 : decode cX2_rowsFor 50 = .ok (.getfield 110, 3) := by decide +kernel
theorem dX2_rowsFor_53 : decode cX2_rowsFor 53 = .ok (.iload 5, 2) := by decide +kernel
theorem dX2_rowsFor_55 : decode cX2_rowsFor 55 = .ok (.aaload, 1) := by decide +kernel
theorem dX2_rowsFor_56 : decode cX2_rowsFor 56 = .ok (.iconst 3, 1) := by decide +kernel
theorem dX2_rowsFor_57 : decode cX2_rowsFor 57 = .ok (.iaload, 1) := by decide +kernel
theorem dX2_rowsFor_58 : decode cX2_rowsFor 58 = .ok (.aload_n 0, 1) := by decide +kernel
theorem dX2_rowsFor_59 : decode cX2_rowsFor 59 = .ok (.getfield 38, 3) := by decide +kernel
theorem dX2_rowsFor_62 : decode cX2_rowsFor 62 = .ok (.getfield 54, 3) := by decide +kernel
theorem dX2_rowsFor_65 : decode cX2_rowsFor 65 = .ok (.iload_n 1, 1) := by decide +kernel
theorem dX2_rowsFor_66 : decode cX2_rowsFor 66 = .ok (.aaload, 1) := by decide +kernel
theorem dX2_rowsFor_67 : decode cX2_rowsFor 67 = .ok (.iconst 5, 1) := by decide +kernel
theorem dX2_rowsFor_68 : decode cX2_rowsFor 68 = .ok (.iaload, 1) := by decide +kernel
theorem dX2_rowsFor_69 : decode cX2_rowsFor 69 = .ok (.isub, 1) := by decide +kernel
theorem dX2_rowsFor_70 : decode cX2_rowsFor 70 = .ok (.istore 7, 2) := by decide +kernel
theorem dX2_rowsFor_72 : decode cX2_rowsFor 72 = .ok (.iload_n 2, 1) := by decide +kernel
theorem dX2_rowsFor_73 : decode cX2_rowsFor 73 = .ok (.ifCond .eq 16, 3) := by decide +kernel
theorem dX2_rowsFor_76 : decode cX2_rowsFor 76 = .ok (.aload_n 0, 1) := by decide +kernel
theorem dX2_rowsFor_77 : decode cX2_rowsFor 77 = .ok (.getfield 38, 3) := by decide +kernel
theorem dX2_rowsFor_80 : decode cX2_rowsFor 80 = .ok (.iload_n 3, 1) := by decide +kernel
theorem dX2_rowsFor_81 : decode cX2_rowsFor 81 = .ok (.iload 6, 2) := by decide +kernel
theorem dX2_rowsFor_83 : decode cX2_rowsFor 83 = .ok (.invokevirtual 113, 3) := by decide +kernel
theorem dX2_rowsFor_86 : decode cX2_rowsFor 86 = .ok (.goto 14, 3) := by decide +kernel
theorem dX2_rowsFor_89 : decode cX2_rowsFor 89 = .ok (.iload_n 3, 1) := by decide +kernel
theorem dX2_rowsFor_90 : decode cX2_rowsFor 90 = .ok (.iload 6, 2) := by decide +kernel
theorem dX2_rowsFor_92 : decode cX2_rowsFor 92 = .ok (.if_icmp .ne 7, 3) := by decide +kernel
theorem dX2_rowsFor_95 : decode cX2_rowsFor 95 = .ok (.iconst 1, 1) := by decide +kernel
theorem dX2_rowsFor_96 : decode cX2_rowsFor 96 = .ok (.goto 4, 3) := by decide +kernel
theorem dX2_rowsFor_99 : decode cX2_rowsFor 99 = .ok (.iconst 0, 1) := by decide +kernel
theorem dX2_rowsFor_100 : decode cX2_rowsFor 100 = .ok (.istore 8, 2) := by decide +kernel
theorem dX2_rowsFor_102 : decode cX2_rowsFor 102 = .ok (.iload 8, 2) := by decide +kernel
theorem dX2_rowsFor_104 : decode cX2_rowsFor 104 = .ok (.ifCond .eq 34, 3) := by decide +kernel
theorem dX2_rowsFor_107 : decode cX2_rowsFor 107 = .ok (.iload 7, 2) := by decide +kernel
theorem dX2_rowsFor_109 : decode cX2_rowsFor 109 = .ok (.ifCond .lt 29, 3) := by decide +kernel
theorem dX2_rowsFor_112 : decode cX2_rowsFor 112 = .ok (.iload 7, 2) := by decide +kernel
theorem dX2_rowsFor_114 : decode cX2_rowsFor 114 = .ok (.iconst 3, 1) := by decide +kernel
theorem dX2_rowsFor_115 : decode cX2_rowsFor 115 = .ok (.aload_n 0, 1) := by decide +kernel
theorem dX2_rowsFor_116 : decode cX2_rowsFor 116 = .ok (.getfield 38, 3) := by decide +kernel
theorem dX2_rowsFor_119 : decode cX2_rowsFor 119 = .ok (.getfield 45, 3) := by decide +kernel
theorem dX2_rowsFor_122 : decode cX2_rowsFor 122 = .ok (.bipush 7, 2) := by decide +kernel
theorem dX2_rowsFor_124 : decode cX2_rowsFor 124 = .ok (.iaload, 1) := by decide +kernel
theorem dX2_rowsFor_125 : decode cX2_rowsFor 125 = .ok (.imul, 1) := by decide +kernel
theorem dX2_rowsFor_126 : decode cX2_rowsFor 126 = .ok (.if_icmp .gt 12, 3) := by decide +kernel
theorem dX2_rowsFor_129 : decode cX2_rowsFor 129 = .ok (.iload 4, 2) := by decide +kernel
theorem dX2_rowsFor_131 : decode cX2_rowsFor 131 = .ok (.iconst 1, 1) := by decide +kernel
theorem dX2_rowsFor_132 : decode cX2_rowsFor 132 = .ok (.iload 5, 2) := by decide +kernel
theorem dX2_rowsFor_134 : decode cX2_rowsFor 134 = .ok (.ishl, 1) := by decide +kernel
theorem dX2_rowsFor_135 : decode cX2_rowsFor 135 = .ok (.ior, 1) := by decide +kernel
theorem dX2_rowsFor_136 : decode cX2_rowsFor 136 = .ok (.istore 4, 2) := by decide +kernel
theorem dX2_rowsFor_138 : decode cX2_rowsFor 138 = .ok (.iinc 5 1, 3) := by decide +kernel
theorem dX2_rowsFor_141 : decode cX2_rowsFor 141 = .ok (.goto (-123), 3) := by decide +kernel
theorem dX2_rowsFor_144 : decode cX2_rowsFor 144 = .ok (.iload 4, 2) := by decide +kernel
theorem dX2_rowsFor_146 : decode cX2_rowsFor 146 = .ok (.ireturn, 1) := by decide +kernel
theorem dX2_priceOfMost_0 : decode cX2_priceOfMost 0 = .ok (.iconst (-1), 1) := by decide +kernel
theorem dX2_priceOfMost_1 : decode cX2_priceOfMost 1 = .ok (.istore_n 2, 1) := by decide +kernel
theorem dX2_priceOfMost_2 : decode cX2_priceOfMost 2 = .ok (.iconst 0, 1) := by decide +kernel
theorem dX2_priceOfMost_3 : decode cX2_priceOfMost 3 = .ok (.istore_n 3, 1) := by decide +kernel
theorem dX2_priceOfMost_4 : decode cX2_priceOfMost 4 = .ok (.iconst 0, 1) := by decide +kernel
theorem dX2_priceOfMost_5 : decode cX2_priceOfMost 5 = .ok (.istore 4, 2) := by decide +kernel
theorem dX2_priceOfMost_7 : decode cX2_priceOfMost 7 = .ok (.iload 4, 2) := by decide +kernel
theorem dX2_priceOfMost_9 : decode cX2_priceOfMost 9 = .ok (.aload_n 0, 1) := by decide +kernel
theorem dX2_priceOfMost_10 : decode cX2_priceOfMost 10 = .ok (.getfield 38, 3) := by decide +kernel
theorem dX2_priceOfMost_13 : decode cX2_priceOfMost 13 = .ok (.getfield 45, 3) := by decide +kernel
theorem dX2_priceOfMost_16 : decode cX2_priceOfMost 16 = .ok (.iconst 4, 1) := by decide +kernel
theorem dX2_priceOfMost_17 : decode cX2_priceOfMost 17 = .ok (.iaload, 1) := by decide +kernel
theorem dX2_priceOfMost_18 : decode cX2_priceOfMost 18 = .ok (.if_icmp .ge 68, 3) := by decide +kernel
theorem dX2_priceOfMost_21 : decode cX2_priceOfMost 21 = .ok (.iload_n 1, 1) := by decide +kernel
theorem dX2_priceOfMost_22 : decode cX2_priceOfMost 22 = .ok (.iload 4, 2) := by decide +kernel
theorem dX2_priceOfMost_24 : decode cX2_priceOfMost 24 = .ok (.ishr, 1) := by decide +kernel
theorem dX2_priceOfMost_25 : decode cX2_priceOfMost 25 = .ok (.iconst 1, 1) := by decide +kernel
theorem dX2_priceOfMost_26 : decode cX2_priceOfMost 26 = .ok (.iand, 1) := by decide +kernel
theorem dX2_priceOfMost_27 : decode cX2_priceOfMost 27 = .ok (.ifCond .ne 6, 3) := by decide +kernel
theorem dX2_priceOfMost_30 : decode cX2_priceOfMost 30 = .ok (.goto 50, 3) := by decide +kernel
theorem dX2_priceOfMost_33 : decode cX2_priceOfMost 33 = .ok (.aload_n 0, 1) := by decide +kernel
theorem dX2_priceOfMost_34 : decode cX2_priceOfMost 34 = .ok (.getfield 38, 3) := by decide +kernel
theorem dX2_priceOfMost_37 : decode cX2_priceOfMost 37 = .ok (.getfield 110, 3) := by decide +kernel
theorem dX2_priceOfMost_40 : decode cX2_priceOfMost 40 = .ok (.iload 4, 2) := by decide +kernel
theorem dX2_priceOfMost_42 : decode cX2_priceOfMost 42 = .ok (.aaload, 1) := by decide +kernel
theorem dX2_priceOfMost_43 : decode cX2_priceOfMost 43 = .ok (.iconst 2, 1) := by decide +kernel
theorem dX2_priceOfMost_44 : decode cX2_priceOfMost 44 = .ok (.iaload, 1) := by decide +kernel
theorem dX2_priceOfMost_45 : decode cX2_priceOfMost 45 = .ok (.istore 5, 2) := by decide +kernel
theorem dX2_priceOfMost_47 : decode cX2_priceOfMost 47 = .ok (.aload_n 0, 1) := by decide +kernel
theorem dX2_priceOfMost_48 : decode cX2_priceOfMost 48 = .ok (.iload_n 1, 1) := by decide +kernel
theorem dX2_priceOfMost_49 : decode cX2_priceOfMost 49 = .ok (.iload 5, 2) := by decide +kernel
theorem dX2_priceOfMost_51 : decode cX2_priceOfMost 51 = .ok (.invokevirtual 116, 3) := by decide +kernel
theorem dX2_priceOfMost_54 : decode cX2_priceOfMost 54 = .ok (.istore 6, 2) := by decide +kernel
theorem dX2_priceOfMost_56 : decode cX2_priceOfMost 56 = .ok (.iload 6, 2) := by decide +kernel
theorem dX2_priceOfMost_58 : decode cX2_priceOfMost 58 = .ok (.iload_n 3, 1) := by decide +kernel
theorem dX2_priceOfMost_59 : decode cX2_priceOfMost 59 = .ok (.if_icmp .gt 15, 3) := by decide +kernel
theorem dX2_priceOfMost_62 : decode cX2_priceOfMost 62 = .ok (.iload 6, 2) := by decide +kernel
theorem dX2_priceOfMost_64 : decode cX2_priceOfMost 64 = .ok (.iload_n 3, 1) := by decide +kernel
theorem dX2_priceOfMost_65 : decode cX2_priceOfMost 65 = .ok (.if_icmp .ne 15, 3) := by decide +kernel
theorem dX2_priceOfMost_68 : decode cX2_priceOfMost 68 = .ok (.iload 5, 2) := by decide +kernel
theorem dX2_priceOfMost_70 : decode cX2_priceOfMost 70 = .ok (.iload_n 2, 1) := by decide +kernel
theorem dX2_priceOfMost_71 : decode cX2_priceOfMost 71 = .ok (.if_icmp .ge 9, 3) := by decide +kernel
theorem dX2_priceOfMost_74 : decode cX2_priceOfMost 74 = .ok (.iload 6, 2) := by decide +kernel
theorem dX2_priceOfMost_76 : decode cX2_priceOfMost 76 = .ok (.istore_n 3, 1) := by decide +kernel
theorem dX2_priceOfMost_77 : decode cX2_priceOfMost 77 = .ok (.iload 5, 2) := by decide +kernel
theorem dX2_priceOfMost_79 : decode cX2_priceOfMost 79 = .ok (.istore_n 2, 1) := by decide +kernel
theorem dX2_priceOfMost_80 : decode cX2_priceOfMost 80 = .ok (.iinc 4 1, 3) := by decide +kernel
theorem dX2_priceOfMost_83 : decode cX2_priceOfMost 83 = .ok (.goto (-76), 3) := by decide +kernel
theorem dX2_priceOfMost_86 : decode cX2_priceOfMost 86 = .ok (.iload_n 2, 1) := by decide +kernel
theorem dX2_priceOfMost_87 : decode cX2_priceOfMost 87 = .ok (.ireturn, 1) := by decide +kernel
theorem dX2_piecesAt_0 : decode cX2_piecesAt 0 = .ok (.iconst 0, 1) := by decide +kernel
theorem dX2_piecesAt_1 : decode cX2_piecesAt 1 = .ok (.istore_n 3, 1) := by decide +kernel
theorem dX2_piecesAt_2 : decode cX2_piecesAt 2 = .ok (.iconst 0, 1) := by decide +kernel
theorem dX2_piecesAt_3 : decode cX2_piecesAt 3 = .ok (.istore 4, 2) := by decide +kernel
theorem dX2_piecesAt_5 : decode cX2_piecesAt 5 = .ok (.iload 4, 2) := by decide +kernel
theorem dX2_piecesAt_7 : decode cX2_piecesAt 7 = .ok (.aload_n 0, 1) := by decide +kernel
theorem dX2_piecesAt_8 : decode cX2_piecesAt 8 = .ok (.getfield 38, 3) := by decide +kernel
theorem dX2_piecesAt_11 : decode cX2_piecesAt 11 = .ok (.getfield 45, 3) := by decide +kernel
theorem dX2_piecesAt_14 : decode cX2_piecesAt 14 = .ok (.iconst 4, 1) := by decide +kernel
theorem dX2_piecesAt_15 : decode cX2_piecesAt 15 = .ok (.iaload, 1) := by decide +kernel
theorem dX2_piecesAt_16 : decode cX2_piecesAt 16 = .ok (.if_icmp .ge 49, 3) := by decide +kernel
theorem dX2_piecesAt_19 : decode cX2_piecesAt 19 = .ok (.iload_n 1, 1) := by decide +kernel
theorem dX2_piecesAt_20 : decode cX2_piecesAt 20 = .ok (.iload 4, 2) := by decide +kernel
theorem dX2_piecesAt_22 : decode cX2_piecesAt 22 = .ok (.ishr, 1) := by decide +kernel
theorem dX2_piecesAt_23 : decode cX2_piecesAt 23 = .ok (.iconst 1, 1) := by decide +kernel
theorem dX2_piecesAt_24 : decode cX2_piecesAt 24 = .ok (.iand, 1) := by decide +kernel
theorem dX2_piecesAt_25 : decode cX2_piecesAt 25 = .ok (.ifCond .eq 34, 3) := by decide +kernel
theorem dX2_piecesAt_28 : decode cX2_piecesAt 28 = .ok (.aload_n 0, 1) := by decide +kernel
theorem dX2_piecesAt_29 : decode cX2_piecesAt 29 = .ok (.getfield 38, 3) := by decide +kernel
theorem dX2_piecesAt_32 : decode cX2_piecesAt 32 = .ok (.getfield 110, 3) := by decide +kernel
theorem dX2_piecesAt_35 : decode cX2_piecesAt 35 = .ok (.iload 4, 2) := by decide +kernel
theorem dX2_piecesAt_37 : decode cX2_piecesAt 37 = .ok (.aaload, 1) := by decide +kernel
theorem dX2_piecesAt_38 : decode cX2_piecesAt 38 = .ok (.iconst 2, 1) := by decide +kernel
theorem dX2_piecesAt_39 : decode cX2_piecesAt 39 = .ok (.iaload, 1) := by decide +kernel
theorem dX2_piecesAt_40 : decode cX2_piecesAt 40 = .ok (.iload_n 2, 1) := by decide +kernel
theorem dX2_piecesAt_41 : decode cX2_piecesAt 41 = .ok (.if_icmp .ne 18, 3) := by decide +kernel
theorem dX2_piecesAt_44 : decode cX2_piecesAt 44 = .ok (.iload_n 3, 1) := by decide +kernel
theorem dX2_piecesAt_45 : decode cX2_piecesAt 45 = .ok (.aload_n 0, 1) := by decide +kernel
theorem dX2_piecesAt_46 : decode cX2_piecesAt 46 = .ok (.getfield 38, 3) := by decide +kernel
theorem dX2_piecesAt_49 : decode cX2_piecesAt 49 = .ok (.getfield 110, 3) := by decide +kernel
theorem dX2_piecesAt_52 : decode cX2_piecesAt 52 = .ok (.iload 4, 2) := by decide +kernel
theorem dX2_piecesAt_54 : decode cX2_piecesAt 54 = .ok (.aaload, 1) := by decide +kernel
theorem dX2_piecesAt_55 : decode cX2_piecesAt 55 = .ok (.iconst 1, 1) := by decide +kernel
theorem dX2_piecesAt_56 : decode cX2_piecesAt 56 = .ok (.iaload, 1) := by decide +kernel
theorem dX2_piecesAt_57 : decode cX2_piecesAt 57 = .ok (.iadd, 1) := by decide +kernel
theorem dX2_piecesAt_58 : decode cX2_piecesAt 58 = .ok (.istore_n 3, 1) := by decide +kernel
theorem dX2_piecesAt_59 : decode cX2_piecesAt 59 = .ok (.iinc 4 1, 3) := by decide +kernel
theorem dX2_piecesAt_62 : decode cX2_piecesAt 62 = .ok (.goto (-57), 3) := by decide +kernel
theorem dX2_piecesAt_65 : decode cX2_piecesAt 65 = .ok (.iload_n 3, 1) := by decide +kernel
theorem dX2_piecesAt_66 : decode cX2_piecesAt 66 = .ok (.ireturn, 1) := by decide +kernel
theorem dX2_resoldWorth_0 : decode cX2_resoldWorth 0 = .ok (.aload_n 0, 1) := by decide +kernel
theorem dX2_resoldWorth_1 : decode cX2_resoldWorth 1 = .ok (.getfield 35, 3) := by decide +kernel
theorem dX2_resoldWorth_4 : decode cX2_resoldWorth 4 = .ok (.iload_n 1, 1) := by decide +kernel
theorem dX2_resoldWorth_5 : decode cX2_resoldWorth 5 = .ok (.iaload, 1) := by decide +kernel
theorem dX2_resoldWorth_6 : decode cX2_resoldWorth 6 = .ok (.iconst (-1), 1) := by decide +kernel
theorem dX2_resoldWorth_7 : decode cX2_resoldWorth 7 = .ok (.if_icmp .ne 7, 3) := by decide +kernel
theorem dX2_resoldWorth_10 : decode cX2_resoldWorth 10 = .ok (.ldc2_w 119, 3) := by decide +kernel
theorem dX2_resoldWorth_13 : decode cX2_resoldWorth 13 = .ok (.lreturn, 1) := by decide +kernel
theorem dX2_resoldWorth_14 : decode cX2_resoldWorth 14 = .ok (.aload_n 0, 1) := by decide +kernel
theorem dX2_resoldWorth_15 : decode cX2_resoldWorth 15 = .ok (.getfield 38, 3) := by decide +kernel
theorem dX2_resoldWorth_18 : decode cX2_resoldWorth 18 = .ok (.getfield 54, 3) := by decide +kernel
theorem dX2_resoldWorth_21 : decode cX2_resoldWorth 21 = .ok (.iload_n 1, 1) := by decide +kernel
theorem dX2_resoldWorth_22 : decode cX2_resoldWorth 22 = .ok (.aaload, 1) := by decide +kernel
theorem dX2_resoldWorth_23 : decode cX2_resoldWorth 23 = .ok (.iconst 3, 1) := by decide +kernel
theorem dX2_resoldWorth_24 : decode cX2_resoldWorth 24 = .ok (.iaload, 1) := by decide +kernel
theorem dX2_resoldWorth_25 : decode cX2_resoldWorth 25 = .ok (.i2l, 1) := by decide +kernel
theorem dX2_resoldWorth_26 : decode cX2_resoldWorth 26 = .ok (.aload_n 0, 1) := by decide +kernel
theorem dX2_resoldWorth_27 : decode cX2_resoldWorth 27 = .ok (.getfield 35, 3) := by decide +kernel
theorem dX2_resoldWorth_30 : decode cX2_resoldWorth 30 = .ok (.iload_n 1, 1) := by decide +kernel
theorem dX2_resoldWorth_31 : decode cX2_resoldWorth 31 = .ok (.iaload, 1) := by decide +kernel
theorem dX2_resoldWorth_32 : decode cX2_resoldWorth 32 = .ok (.i2l, 1) := by decide +kernel
theorem dX2_resoldWorth_33 : decode cX2_resoldWorth 33 = .ok (.lmul, 1) := by decide +kernel
theorem dX2_resoldWorth_34 : decode cX2_resoldWorth 34 = .ok (.lstore_n 2, 1) := by decide +kernel
theorem dX2_resoldWorth_35 : decode cX2_resoldWorth 35 = .ok (.lload_n 2, 1) := by decide +kernel
theorem dX2_resoldWorth_36 : decode cX2_resoldWorth 36 = .ok (.bipush 100, 2) := by decide +kernel
theorem dX2_resoldWorth_38 : decode cX2_resoldWorth 38 = .ok (.aload_n 0, 1) := by decide +kernel
theorem dX2_resoldWorth_39 : decode cX2_resoldWorth 39 = .ok (.getfield 38, 3) := by decide +kernel
theorem dX2_resoldWorth_42 : decode cX2_resoldWorth 42 = .ok (.getfield 45, 3) := by decide +kernel
theorem dX2_resoldWorth_45 : decode cX2_resoldWorth 45 = .ok (.bipush 8, 2) := by decide +kernel
theorem dX2_resoldWorth_47 : decode cX2_resoldWorth 47 = .ok (.iaload, 1) := by decide +kernel
theorem dX2_resoldWorth_48 : decode cX2_resoldWorth 48 = .ok (.isub, 1) := by decide +kernel
theorem dX2_resoldWorth_49 : decode cX2_resoldWorth 49 = .ok (.i2l, 1) := by decide +kernel
theorem dX2_resoldWorth_50 : decode cX2_resoldWorth 50 = .ok (.lmul, 1) := by decide +kernel
theorem dX2_resoldWorth_51 : decode cX2_resoldWorth 51 = .ok (.bipush 100, 2) := by decide +kernel
theorem dX2_resoldWorth_53 : decode cX2_resoldWorth 53 = .ok (.aload_n 0, 1) := by decide +kernel
theorem dX2_resoldWorth_54 : decode cX2_resoldWorth 54 = .ok (.getfield 38, 3) := by decide +kernel
theorem dX2_resoldWorth_57 : decode cX2_resoldWorth 57 = .ok (.getfield 45, 3) := by decide +kernel
theorem dX2_resoldWorth_60 : decode cX2_resoldWorth 60 = .ok (.bipush 9, 2) := by decide +kernel
theorem dX2_resoldWorth_62 : decode cX2_resoldWorth 62 = .ok (.iaload, 1) := by decide +kernel
theorem dX2_resoldWorth_63 : decode cX2_resoldWorth 63 = .ok (.iadd, 1) := by decide +kernel
theorem dX2_resoldWorth_64 : decode cX2_resoldWorth 64 = .ok (.i2l, 1) := by decide +kernel
theorem dX2_resoldWorth_65 : decode cX2_resoldWorth 65 = .ok (.invokestatic 97, 3) := by decide +kernel
theorem dX2_resoldWorth_68 : decode cX2_resoldWorth 68 = .ok (.lreturn, 1) := by decide +kernel
theorem dX2_madeWorth_0 : decode cX2_madeWorth 0 = .ok (.aload_n 0, 1) := by decide +kernel
theorem dX2_madeWorth_1 : decode cX2_madeWorth 1 = .ok (.getfield 38, 3) := by decide +kernel
theorem dX2_madeWorth_4 : decode cX2_madeWorth 4 = .ok (.getfield 121, 3) := by decide +kernel
theorem dX2_madeWorth_7 : decode cX2_madeWorth 7 = .ok (.aload_n 0, 1) := by decide +kernel
theorem dX2_madeWorth_8 : decode cX2_madeWorth 8 = .ok (.getfield 38, 3) := by decide +kernel
theorem dX2_madeWorth_11 : decode cX2_madeWorth 11 = .ok (.getfield 54, 3) := by decide +kernel
theorem dX2_madeWorth_14 : decode cX2_madeWorth 14 = .ok (.iload_n 1, 1) := by decide +kernel
theorem dX2_madeWorth_15 : decode cX2_madeWorth 15 = .ok (.aaload, 1) := by decide +kernel
theorem dX2_madeWorth_16 : decode cX2_madeWorth 16 = .ok (.iconst 0, 1) := by decide +kernel
theorem dX2_madeWorth_17 : decode cX2_madeWorth 17 = .ok (.iaload, 1) := by decide +kernel
theorem dX2_madeWorth_18 : decode cX2_madeWorth 18 = .ok (.aaload, 1) := by decide +kernel
theorem dX2_madeWorth_19 : decode cX2_madeWorth 19 = .ok (.astore_n 2, 1) := by decide +kernel
theorem dX2_madeWorth_20 : decode cX2_madeWorth 20 = .ok (.aload_n 2, 1) := by decide +kernel
theorem dX2_madeWorth_21 : decode cX2_madeWorth 21 = .ok (.iconst 2, 1) := by decide +kernel
theorem dX2_madeWorth_22 : decode cX2_madeWorth 22 = .ok (.iaload, 1) := by decide +kernel
theorem dX2_madeWorth_23 : decode cX2_madeWorth 23 = .ok (.ifCond .ne 7, 3) := by decide +kernel
theorem dX2_madeWorth_26 : decode cX2_madeWorth 26 = .ok (.ldc2_w 119, 3) := by decide +kernel
theorem dX2_madeWorth_29 : decode cX2_madeWorth 29 = .ok (.lreturn, 1) := by decide +kernel
theorem dX2_madeWorth_30 : decode cX2_madeWorth 30 = .ok (.aload_n 0, 1) := by decide +kernel
theorem dX2_madeWorth_31 : decode cX2_madeWorth 31 = .ok (.getfield 38, 3) := by decide +kernel
theorem dX2_madeWorth_34 : decode cX2_madeWorth 34 = .ok (.getfield 54, 3) := by decide +kernel
theorem dX2_madeWorth_37 : decode cX2_madeWorth 37 = .ok (.iload_n 1, 1) := by decide +kernel
theorem dX2_madeWorth_38 : decode cX2_madeWorth 38 = .ok (.aaload, 1) := by decide +kernel
theorem dX2_madeWorth_39 : decode cX2_madeWorth 39 = .ok (.iconst 3, 1) := by decide +kernel
theorem dX2_madeWorth_40 : decode cX2_madeWorth 40 = .ok (.iaload, 1) := by decide +kernel
theorem dX2_madeWorth_41 : decode cX2_madeWorth 41 = .ok (.i2l, 1) := by decide +kernel
theorem dX2_madeWorth_42 : decode cX2_madeWorth 42 = .ok (.aload_n 2, 1) := by decide +kernel
theorem dX2_madeWorth_43 : decode cX2_madeWorth 43 = .ok (.iconst 2, 1) := by decide +kernel
theorem dX2_madeWorth_44 : decode cX2_madeWorth 44 = .ok (.iaload, 1) := by decide +kernel
theorem dX2_madeWorth_45 : decode cX2_madeWorth 45 = .ok (.i2l, 1) := by decide +kernel
theorem dX2_madeWorth_46 : decode cX2_madeWorth 46 = .ok (.lmul, 1) := by decide +kernel
theorem dX2_madeWorth_47 : decode cX2_madeWorth 47 = .ok (.lstore_n 3, 1) := by decide +kernel
theorem dX2_madeWorth_48 : decode cX2_madeWorth 48 = .ok (.lload_n 3, 1) := by decide +kernel
theorem dX2_madeWorth_49 : decode cX2_madeWorth 49 = .ok (.bipush 100, 2) := by decide +kernel
theorem dX2_madeWorth_51 : decode cX2_madeWorth 51 = .ok (.aload_n 2, 1) := by decide +kernel
theorem dX2_madeWorth_52 : decode cX2_madeWorth 52 = .ok (.iconst 3, 1) := by decide +kernel
theorem dX2_madeWorth_53 : decode cX2_madeWorth 53 = .ok (.iaload, 1) := by decide +kernel
theorem dX2_madeWorth_54 : decode cX2_madeWorth 54 = .ok (.iadd, 1) := by decide +kernel
theorem dX2_madeWorth_55 : decode cX2_madeWorth 55 = .ok (.i2l, 1) := by decide +kernel
theorem dX2_madeWorth_56 : decode cX2_madeWorth 56 = .ok (.lmul, 1) := by decide +kernel
theorem dX2_madeWorth_57 : decode cX2_madeWorth 57 = .ok (.ldc2_w 101, 3) := by decide +kernel
theorem dX2_madeWorth_60 : decode cX2_madeWorth 60 = .ok (.ldiv, 1) := by decide +kernel
theorem dX2_madeWorth_61 : decode cX2_madeWorth 61 = .ok (.aload_n 0, 1) := by decide +kernel
theorem dX2_madeWorth_62 : decode cX2_madeWorth 62 = .ok (.iload_n 1, 1) := by decide +kernel
theorem dX2_madeWorth_63 : decode cX2_madeWorth 63 = .ok (.invokevirtual 69, 3) := by decide +kernel
theorem dX2_madeWorth_66 : decode cX2_madeWorth 66 = .ok (.ladd, 1) := by decide +kernel
theorem dX2_madeWorth_67 : decode cX2_madeWorth 67 = .ok (.lreturn, 1) := by decide +kernel
theorem dX2_isAmongKin_0 : decode cX2_isAmongKin 0 = .ok (.aload_n 0, 1) := by decide +kernel
theorem dX2_isAmongKin_1 : decode cX2_isAmongKin 1 = .ok (.getfield 15, 3) := by decide +kernel
theorem dX2_isAmongKin_4 : decode cX2_isAmongKin 4 = .ok (.iload_n 1, 1) := by decide +kernel
theorem dX2_isAmongKin_5 : decode cX2_isAmongKin 5 = .ok (.baload, 1) := by decide +kernel
theorem dX2_isAmongKin_6 : decode cX2_isAmongKin 6 = .ok (.ireturn, 1) := by decide +kernel
theorem dX2_isAnother_0 : decode cX2_isAnother 0 = .ok (.iload_n 2, 1) := by decide +kernel
theorem dX2_isAnother_1 : decode cX2_isAnother 1 = .ok (.iload_n 1, 1) := by decide +kernel
theorem dX2_isAnother_2 : decode cX2_isAnother 2 = .ok (.if_icmp .eq 15, 3) := by decide +kernel
theorem dX2_isAnother_5 : decode cX2_isAnother 5 = .ok (.iload_n 2, 1) := by decide +kernel
theorem dX2_isAnother_6 : decode cX2_isAnother 6 = .ok (.aload_n 0, 1) := by decide +kernel
theorem dX2_isAnother_7 : decode cX2_isAnother 7 = .ok (.getfield 19, 3) := by decide +kernel
theorem dX2_isAnother_10 : decode cX2_isAnother 10 = .ok (.if_icmp .eq 7, 3) := by decide +kernel
theorem dX2_isAnother_13 : decode cX2_isAnother 13 = .ok (.iconst 1, 1) := by decide +kernel
theorem dX2_isAnother_14 : decode cX2_isAnother 14 = .ok (.goto 4, 3) := by decide +kernel
theorem dX2_isAnother_17 : decode cX2_isAnother 17 = .ok (.iconst 0, 1) := by decide +kernel
theorem dX2_isAnother_18 : decode cX2_isAnother 18 = .ok (.ireturn, 1) := by decide +kernel
theorem dX2_isInWindow_0 : decode cX2_isInWindow 0 = .ok (.aload_n 0, 1) := by decide +kernel
theorem dX2_isInWindow_1 : decode cX2_isInWindow 1 = .ok (.getfield 38, 3) := by decide +kernel
theorem dX2_isInWindow_4 : decode cX2_isInWindow 4 = .ok (.getfield 54, 3) := by decide +kernel
theorem dX2_isInWindow_7 : decode cX2_isInWindow 7 = .ok (.iload_n 1, 1) := by decide +kernel
theorem dX2_isInWindow_8 : decode cX2_isInWindow 8 = .ok (.aaload, 1) := by decide +kernel
theorem dX2_isInWindow_9 : decode cX2_isInWindow 9 = .ok (.iconst 5, 1) := by decide +kernel
theorem dX2_isInWindow_10 : decode cX2_isInWindow 10 = .ok (.iaload, 1) := by decide +kernel
theorem dX2_isInWindow_11 : decode cX2_isInWindow 11 = .ok (.aload_n 0, 1) := by decide +kernel
theorem dX2_isInWindow_12 : decode cX2_isInWindow 12 = .ok (.getfield 38, 3) := by decide +kernel
theorem dX2_isInWindow_15 : decode cX2_isInWindow 15 = .ok (.getfield 54, 3) := by decide +kernel
theorem dX2_isInWindow_18 : decode cX2_isInWindow 18 = .ok (.iload_n 2, 1) := by decide +kernel
theorem dX2_isInWindow_19 : decode cX2_isInWindow 19 = .ok (.aaload, 1) := by decide +kernel
theorem dX2_isInWindow_20 : decode cX2_isInWindow 20 = .ok (.iconst 5, 1) := by decide +kernel
theorem dX2_isInWindow_21 : decode cX2_isInWindow 21 = .ok (.iaload, 1) := by decide +kernel
theorem dX2_isInWindow_22 : decode cX2_isInWindow 22 = .ok (.isub, 1) := by decide +kernel
theorem dX2_isInWindow_23 : decode cX2_isInWindow 23 = .ok (.invokestatic 124, 3) := by decide +kernel
theorem dX2_isInWindow_26 : decode cX2_isInWindow 26 = .ok (.istore_n 3, 1) := by decide +kernel
theorem dX2_isInWindow_27 : decode cX2_isInWindow 27 = .ok (.iload_n 3, 1) := by decide +kernel
theorem dX2_isInWindow_28 : decode cX2_isInWindow 28 = .ok (.aload_n 0, 1) := by decide +kernel
theorem dX2_isInWindow_29 : decode cX2_isInWindow 29 = .ok (.getfield 38, 3) := by decide +kernel
theorem dX2_isInWindow_32 : decode cX2_isInWindow 32 = .ok (.getfield 45, 3) := by decide +kernel
theorem dX2_isInWindow_35 : decode cX2_isInWindow 35 = .ok (.bipush 7, 2) := by decide +kernel
theorem dX2_isInWindow_37 : decode cX2_isInWindow 37 = .ok (.iaload, 1) := by decide +kernel
theorem dX2_isInWindow_38 : decode cX2_isInWindow 38 = .ok (.if_icmp .gt 7, 3) := by decide +kernel
theorem dX2_isInWindow_41 : decode cX2_isInWindow 41 = .ok (.iconst 1, 1) := by decide +kernel
theorem dX2_isInWindow_42 : decode cX2_isInWindow 42 = .ok (.goto 4, 3) := by decide +kernel
theorem dX2_isInWindow_45 : decode cX2_isInWindow 45 = .ok (.iconst 0, 1) := by decide +kernel
theorem dX2_isInWindow_46 : decode cX2_isInWindow 46 = .ok (.ireturn, 1) := by decide +kernel
theorem dX2_brought_0 : decode cX2_brought 0 = .ok (.aload_n 0, 1) := by decide +kernel
theorem dX2_brought_1 : decode cX2_brought 1 = .ok (.getfield 31, 3) := by decide +kernel
theorem dX2_brought_4 : decode cX2_brought 4 = .ok (.iload_n 2, 1) := by decide +kernel
theorem dX2_brought_5 : decode cX2_brought 5 = .ok (.laload, 1) := by decide +kernel
theorem dX2_brought_6 : decode cX2_brought 6 = .ok (.aload_n 0, 1) := by decide +kernel
theorem dX2_brought_7 : decode cX2_brought 7 = .ok (.iload_n 1, 1) := by decide +kernel
theorem dX2_brought_8 : decode cX2_brought 8 = .ok (.invokevirtual 127, 3) := by decide +kernel
theorem dX2_brought_11 : decode cX2_brought 11 = .ok (.lmul, 1) := by decide +kernel
theorem dX2_brought_12 : decode cX2_brought 12 = .ok (.aload_n 0, 1) := by decide +kernel
theorem dX2_brought_13 : decode cX2_brought 13 = .ok (.iload_n 2, 1) := by decide +kernel
theorem dX2_brought_14 : decode cX2_brought 14 = .ok (.invokevirtual 127, 3) := by decide +kernel
theorem dX2_brought_17 : decode cX2_brought 17 = .ok (.invokestatic 97, 3) := by decide +kernel
theorem dX2_brought_20 : decode cX2_brought 20 = .ok (.lreturn, 1) := by decide +kernel
theorem dX2_measure_0 : decode cX2_measure 0 = .ok (.aload_n 0, 1) := by decide +kernel
theorem dX2_measure_1 : decode cX2_measure 1 = .ok (.getfield 23, 3) := by decide +kernel
theorem dX2_measure_4 : decode cX2_measure 4 = .ok (.iload_n 1, 1) := by decide +kernel
theorem dX2_measure_5 : decode cX2_measure 5 = .ok (.iaload, 1) := by decide +kernel
theorem dX2_measure_6 : decode cX2_measure 6 = .ok (.istore_n 2, 1) := by decide +kernel
theorem dX2_measure_7 : decode cX2_measure 7 = .ok (.iload_n 2, 1) := by decide +kernel
theorem dX2_measure_8 : decode cX2_measure 8 = .ok (.ifCond .ne 7, 3) := by decide +kernel
theorem dX2_measure_11 : decode cX2_measure 11 = .ok (.iconst 0, 1) := by decide +kernel
theorem dX2_measure_12 : decode cX2_measure 12 = .ok (.goto 16, 3) := by decide +kernel
theorem dX2_measure_15 : decode cX2_measure 15 = .ok (.aload_n 0, 1) := by decide +kernel
theorem dX2_measure_16 : decode cX2_measure 16 = .ok (.getfield 38, 3) := by decide +kernel
theorem dX2_measure_19 : decode cX2_measure 19 = .ok (.getfield 130, 3) := by decide +kernel
theorem dX2_measure_22 : decode cX2_measure 22 = .ok (.iload_n 2, 1) := by decide +kernel
theorem dX2_measure_23 : decode cX2_measure 23 = .ok (.iconst 1, 1) := by decide +kernel
theorem dX2_measure_24 : decode cX2_measure 24 = .ok (.isub, 1) := by decide +kernel
theorem dX2_measure_25 : decode cX2_measure 25 = .ok (.aaload, 1) := by decide +kernel
theorem dX2_measure_26 : decode cX2_measure 26 = .ok (.iconst 1, 1) := by decide +kernel
theorem dX2_measure_27 : decode cX2_measure 27 = .ok (.iaload, 1) := by decide +kernel
theorem dX2_measure_28 : decode cX2_measure 28 = .ok (.istore_n 3, 1) := by decide +kernel
theorem dX2_measure_29 : decode cX2_measure 29 = .ok (.aload_n 0, 1) := by decide +kernel
theorem dX2_measure_30 : decode cX2_measure 30 = .ok (.getfield 38, 3) := by decide +kernel
theorem dX2_measure_33 : decode cX2_measure 33 = .ok (.getfield 54, 3) := by decide +kernel
theorem dX2_measure_36 : decode cX2_measure 36 = .ok (.iload_n 1, 1) := by decide +kernel
theorem dX2_measure_37 : decode cX2_measure 37 = .ok (.aaload, 1) := by decide +kernel
theorem dX2_measure_38 : decode cX2_measure 38 = .ok (.iconst 3, 1) := by decide +kernel
theorem dX2_measure_39 : decode cX2_measure 39 = .ok (.iaload, 1) := by decide +kernel
theorem dX2_measure_40 : decode cX2_measure 40 = .ok (.i2l, 1) := by decide +kernel
theorem dX2_measure_41 : decode cX2_measure 41 = .ok (.bipush 100, 2) := by decide +kernel
theorem dX2_measure_43 : decode cX2_measure 43 = .ok (.iload_n 3, 1) := by decide +kernel
theorem dX2_measure_44 : decode cX2_measure 44 = .ok (.isub, 1) := by decide +kernel
theorem dX2_measure_45 : decode cX2_measure 45 = .ok (.i2l, 1) := by decide +kernel
theorem dX2_measure_46 : decode cX2_measure 46 = .ok (.lmul, 1) := by decide +kernel
theorem dX2_measure_47 : decode cX2_measure 47 = .ok (.lreturn, 1) := by decide +kernel
theorem dX2_slack_0 : decode cX2_slack 0 = .ok (.lload_n 1, 1) := by decide +kernel
theorem dX2_slack_1 : decode cX2_slack 1 = .ok (.aload_n 0, 1) := by decide +kernel
theorem dX2_slack_2 : decode cX2_slack 2 = .ok (.getfield 38, 3) := by decide +kernel
theorem dX2_slack_5 : decode cX2_slack 5 = .ok (.getfield 45, 3) := by decide +kernel
theorem dX2_slack_8 : decode cX2_slack 8 = .ok (.bipush 6, 2) := by decide +kernel
theorem dX2_slack_10 : decode cX2_slack 10 = .ok (.iaload, 1) := by decide +kernel
theorem dX2_slack_11 : decode cX2_slack 11 = .ok (.i2l, 1) := by decide +kernel
theorem dX2_slack_12 : decode cX2_slack 12 = .ok (.lmul, 1) := by decide +kernel
theorem dX2_slack_13 : decode cX2_slack 13 = .ok (.ldc2_w 101, 3) := by decide +kernel
theorem dX2_slack_16 : decode cX2_slack 16 = .ok (.ldiv, 1) := by decide +kernel
theorem dX2_slack_17 : decode cX2_slack 17 = .ok (.lreturn, 1) := by decide +kernel
theorem dX3_init_0 : decode cX3_init 0 = .ok (.aload_n 0, 1) := by decide +kernel
theorem dX3_init_1 : decode cX3_init 1 = .ok (.invokespecial 3, 3) := by decide +kernel
theorem dX3_init_4 : decode cX3_init 4 = .ok (.aload_n 0, 1) := by decide +kernel
theorem dX3_init_5 : decode cX3_init 5 = .ok (.sipush 480, 3) := by decide +kernel
theorem dX3_init_8 : decode cX3_init 8 = .ok (.newarray .byte, 2) := by decide +kernel
theorem dX3_init_10 : decode cX3_init 10 = .ok (.putfield 11, 3) := by decide +kernel
theorem dX3_init_13 : decode cX3_init 13 = .ok (.return_, 1) := by decide +kernel
theorem dX3_add_0 : decode cX3_add 0 = .ok (.aload_n 0, 1) := by decide +kernel
theorem dX3_add_1 : decode cX3_add 1 = .ok (.getfield 15, 3) := by decide +kernel
theorem dX3_add_4 : decode cX3_add 4 = .ok (.aload_n 0, 1) := by decide +kernel
theorem dX3_add_5 : decode cX3_add 5 = .ok (.getfield 11, 3) := by decide +kernel
theorem dX3_add_8 : decode cX3_add 8 = .ok (.arraylength, 1) := by decide +kernel
theorem dX3_add_9 : decode cX3_add 9 = .ok (.if_icmp .ge 24, 3) := by decide +kernel
theorem dX3_add_12 : decode cX3_add 12 = .ok (.aload_n 0, 1) := by decide +kernel
theorem dX3_add_13 : decode cX3_add 13 = .ok (.getfield 11, 3) := by decide +kernel
theorem dX3_add_16 : decode cX3_add 16 = .ok (.aload_n 0, 1) := by decide +kernel
theorem dX3_add_17 : decode cX3_add 17 = .ok (.getfield 15, 3) := by decide +kernel
theorem dX3_add_20 : decode cX3_add 20 = .ok (.iload_n 1, 1) := by decide +kernel
theorem dX3_add_21 : decode cX3_add 21 = .ok (.i2b, 1) := by decide +kernel
theorem dX3_add_22 : decode cX3_add 22 = .ok (.bastore, 1) := by decide +kernel
theorem dX3_add_23 : decode cX3_add 23 = .ok (.aload_n 0, 1) := by decide +kernel
theorem dX3_add_24 : decode cX3_add 24 = .ok (.dup, 1) := by decide +kernel
theorem dX3_add_25 : decode cX3_add 25 = .ok (.getfield 15, 3) := by decide +kernel
theorem dX3_add_28 : decode cX3_add 28 = .ok (.iconst 1, 1) := by decide +kernel
theorem dX3_add_29 : decode cX3_add 29 = .ok (.iadd, 1) := by decide +kernel
theorem dX3_add_30 : decode cX3_add 30 = .ok (.putfield 15, 3) := by decide +kernel
theorem dX3_add_33 : decode cX3_add 33 = .ok (.return_, 1) := by decide +kernel
theorem dX3_addText_0 : decode cX3_addText 0 = .ok (.iconst 0, 1) := by decide +kernel
theorem dX3_addText_1 : decode cX3_addText 1 = .ok (.istore_n 2, 1) := by decide +kernel
theorem dX3_addText_2 : decode cX3_addText 2 = .ok (.iload_n 2, 1) := by decide +kernel
theorem dX3_addText_3 : decode cX3_addText 3 = .ok (.aload_n 1, 1) := by decide +kernel
theorem dX3_addText_4 : decode cX3_addText 4 = .ok (.invokevirtual 19, 3) := by decide +kernel
theorem dX3_addText_7 : decode cX3_addText 7 = .ok (.if_icmp .ge 18, 3) := by decide +kernel
theorem dX3_addText_10 : decode cX3_addText 10 = .ok (.aload_n 0, 1) := by decide +kernel
theorem dX3_addText_11 : decode cX3_addText 11 = .ok (.aload_n 1, 1) := by decide +kernel
theorem dX3_addText_12 : decode cX3_addText 12 = .ok (.iload_n 2, 1) := by decide +kernel
theorem dX3_addText_13 : decode cX3_addText 13 = .ok (.invokevirtual 25, 3) := by decide +kernel
theorem dX3_addText_16 : decode cX3_addText 16 = .ok (.invokevirtual 29, 3) := by decide +kernel
theorem dX3_addText_19 : decode cX3_addText 19 = .ok (.iinc 2 1, 3) := by decide +kernel
theorem dX3_addText_22 : decode cX3_addText 22 = .ok (.goto (-20), 3) := by decide +kernel
theorem dX3_addText_25 : decode cX3_addText 25 = .ok (.return_, 1) := by decide +kernel
theorem dX3_addWord_0 : decode cX3_addWord 0 = .ok (.ldc2_w 33, 3) := by decide +kernel
theorem dX3_addWord_3 : decode cX3_addWord 3 = .ok (.lstore_n 3, 1) := by decide +kernel
theorem dX3_addWord_4 : decode cX3_addWord 4 = .ok (.lload_n 3, 1) := by decide +kernel
theorem dX3_addWord_5 : decode cX3_addWord 5 = .ok (.lconst 0, 1) := by decide +kernel
theorem dX3_addWord_6 : decode cX3_addWord 6 = .ok (.lcmp, 1) := by decide +kernel
theorem dX3_addWord_7 : decode cX3_addWord 7 = .ok (.ifCond .le 40, 3) := by decide +kernel
theorem dX3_addWord_10 : decode cX3_addWord 10 = .ok (.lload_n 1, 1) := by decide +kernel
theorem dX3_addWord_11 : decode cX3_addWord 11 = .ok (.lload_n 3, 1) := by decide +kernel
theorem dX3_addWord_12 : decode cX3_addWord 12 = .ok (.ldiv, 1) := by decide +kernel
theorem dX3_addWord_13 : decode cX3_addWord 13 = .ok (.ldc2_w 35, 3) := by decide +kernel
theorem dX3_addWord_16 : decode cX3_addWord 16 = .ok (.lrem, 1) := by decide +kernel
theorem dX3_addWord_17 : decode cX3_addWord 17 = .ok (.lstore 5, 2) := by decide +kernel
theorem dX3_addWord_19 : decode cX3_addWord 19 = .ok (.lload 5, 2) := by decide +kernel
theorem dX3_addWord_21 : decode cX3_addWord 21 = .ok (.lconst 0, 1) := by decide +kernel
theorem dX3_addWord_22 : decode cX3_addWord 22 = .ok (.lcmp, 1) := by decide +kernel
theorem dX3_addWord_23 : decode cX3_addWord 23 = .ok (.ifCond .le 15, 3) := by decide +kernel
theorem dX3_addWord_26 : decode cX3_addWord 26 = .ok (.aload_n 0, 1) := by decide +kernel
theorem dX3_addWord_27 : decode cX3_addWord 27 = .ok (.lload 5, 2) := by decide +kernel
theorem dX3_addWord_29 : decode cX3_addWord 29 = .ok (.l2i, 1) := by decide +kernel
theorem dX3_addWord_30 : decode cX3_addWord 30 = .ok (.iconst 1, 1) := by decide +kernel
theorem dX3_addWord_31 : decode cX3_addWord 31 = .ok (.isub, 1) := by decide +kernel
theorem dX3_addWord_32 : decode cX3_addWord 32 = .ok (.bipush 97, 2) := by decide +kernel
theorem dX3_addWord_34 : decode cX3_addWord 34 = .ok (.iadd, 1) := by decide +kernel
theorem dX3_addWord_35 : decode cX3_addWord 35 = .ok (.invokevirtual 29, 3) := by decide +kernel
theorem dX3_addWord_38 : decode cX3_addWord 38 = .ok (.lload_n 3, 1) := by decide +kernel
theorem dX3_addWord_39 : decode cX3_addWord 39 = .ok (.ldc2_w 35, 3) := by decide +kernel
theorem dX3_addWord_42 : decode cX3_addWord 42 = .ok (.ldiv, 1) := by decide +kernel
theorem dX3_addWord_43 : decode cX3_addWord 43 = .ok (.lstore_n 3, 1) := by decide +kernel
theorem dX3_addWord_44 : decode cX3_addWord 44 = .ok (.goto (-40), 3) := by decide +kernel
theorem dX3_addWord_47 : decode cX3_addWord 47 = .ok (.return_, 1) := by decide +kernel
theorem dX3_addNumber_0 : decode cX3_addNumber 0 = .ok (.ldc2_w 37, 3) := by decide +kernel
theorem dX3_addNumber_3 : decode cX3_addNumber 3 = .ok (.lstore_n 3, 1) := by decide +kernel
theorem dX3_addNumber_4 : decode cX3_addNumber 4 = .ok (.lload_n 3, 1) := by decide +kernel
theorem dX3_addNumber_5 : decode cX3_addNumber 5 = .ok (.lconst 0, 1) := by decide +kernel
theorem dX3_addNumber_6 : decode cX3_addNumber 6 = .ok (.lcmp, 1) := by decide +kernel
theorem dX3_addNumber_7 : decode cX3_addNumber 7 = .ok (.ifCond .le 39, 3) := by decide +kernel
theorem dX3_addNumber_10 : decode cX3_addNumber 10 = .ok (.lload_n 1, 1) := by decide +kernel
theorem dX3_addNumber_11 : decode cX3_addNumber 11 = .ok (.lload_n 3, 1) := by decide +kernel
theorem dX3_addNumber_12 : decode cX3_addNumber 12 = .ok (.lcmp, 1) := by decide +kernel
theorem dX3_addNumber_13 : decode cX3_addNumber 13 = .ok (.ifCond .ge 9, 3) := by decide +kernel
theorem dX3_addNumber_16 : decode cX3_addNumber 16 = .ok (.lload_n 3, 1) := by decide +kernel
theorem dX3_addNumber_17 : decode cX3_addNumber 17 = .ok (.lconst 1, 1) := by decide +kernel
theorem dX3_addNumber_18 : decode cX3_addNumber 18 = .ok (.lcmp, 1) := by decide +kernel
theorem dX3_addNumber_19 : decode cX3_addNumber 19 = .ok (.ifCond .ne 18, 3) := by decide +kernel
theorem dX3_addNumber_22 : decode cX3_addNumber 22 = .ok (.aload_n 0, 1) := by decide +kernel
theorem dX3_addNumber_23 : decode cX3_addNumber 23 = .ok (.lload_n 1, 1) := by decide +kernel
theorem dX3_addNumber_24 : decode cX3_addNumber 24 = .ok (.lload_n 3, 1) := by decide +kernel
theorem dX3_addNumber_25 : decode cX3_addNumber 25 = .ok (.ldiv, 1) := by decide +kernel
theorem dX3_addNumber_26 : decode cX3_addNumber 26 = .ok (.ldc2_w 39, 3) := by decide +kernel
theorem dX3_addNumber_29 : decode cX3_addNumber 29 = .ok (.lrem, 1) := by decide +kernel
theorem dX3_addNumber_30 : decode cX3_addNumber 30 = .ok (.l2i, 1) := by decide +kernel
theorem dX3_addNumber_31 : decode cX3_addNumber 31 = .ok (.bipush 48, 2) := by decide +kernel
theorem dX3_addNumber_33 : decode cX3_addNumber 33 = .ok (.iadd, 1) := by decide +kernel
theorem dX3_addNumber_34 : decode cX3_addNumber 34 = .ok (.invokevirtual 29, 3) := by decide +kernel
theorem dX3_addNumber_37 : decode cX3_addNumber 37 = .ok (.lload_n 3, 1) := by decide +kernel
theorem dX3_addNumber_38 : decode cX3_addNumber 38 = .ok (.ldc2_w 39, 3) := by decide +kernel
theorem dX3_addNumber_41 : decode cX3_addNumber 41 = .ok (.ldiv, 1) := by decide +kernel
theorem dX3_addNumber_42 : decode cX3_addNumber 42 = .ok (.lstore_n 3, 1) := by decide +kernel
theorem dX3_addNumber_43 : decode cX3_addNumber 43 = .ok (.goto (-39), 3) := by decide +kernel
theorem dX3_addNumber_46 : decode cX3_addNumber 46 = .ok (.return_, 1) := by decide +kernel
theorem dX4_init_0 : decode cX4_init 0 = .ok (.aload_n 0, 1) := by decide +kernel
theorem dX4_init_1 : decode cX4_init 1 = .ok (.invokespecial 3, 3) := by decide +kernel
theorem dX4_init_4 : decode cX4_init 4 = .ok (.aload_n 0, 1) := by decide +kernel
theorem dX4_init_5 : decode cX4_init 5 = .ok (.bipush 26, 2) := by decide +kernel
theorem dX4_init_7 : decode cX4_init 7 = .ok (.newarray .long, 2) := by decide +kernel
theorem dX4_init_9 : decode cX4_init 9 = .ok (.putfield 9, 3) := by decide +kernel
theorem dX4_init_12 : decode cX4_init 12 = .ok (.aload_n 0, 1) := by decide +kernel
theorem dX4_init_13 : decode cX4_init 13 = .ok (.bipush 26, 2) := by decide +kernel
theorem dX4_init_15 : decode cX4_init 15 = .ok (.newarray .int, 2) := by decide +kernel
theorem dX4_init_17 : decode cX4_init 17 = .ok (.putfield 15, 3) := by decide +kernel
theorem dX4_init_20 : decode cX4_init 20 = .ok (.aload_n 0, 1) := by decide +kernel
theorem dX4_init_21 : decode cX4_init 21 = .ok (.bipush 26, 2) := by decide +kernel
theorem dX4_init_23 : decode cX4_init 23 = .ok (.newarray .int, 2) := by decide +kernel
theorem dX4_init_25 : decode cX4_init 25 = .ok (.putfield 19, 3) := by decide +kernel
theorem dX4_init_28 : decode cX4_init 28 = .ok (.aload_n 0, 1) := by decide +kernel
theorem dX4_init_29 : decode cX4_init 29 = .ok (.new 22, 3) := by decide +kernel
theorem dX4_init_32 : decode cX4_init 32 = .ok (.dup, 1) := by decide +kernel
theorem dX4_init_33 : decode cX4_init 33 = .ok (.aload_n 1, 1) := by decide +kernel
theorem dX4_init_34 : decode cX4_init 34 = .ok (.invokespecial 24, 3) := by decide +kernel
theorem dX4_init_37 : decode cX4_init 37 = .ok (.putfield 27, 3) := by decide +kernel
theorem dX4_init_40 : decode cX4_init 40 = .ok (.aload_n 0, 1) := by decide +kernel
theorem dX4_init_41 : decode cX4_init 41 = .ok (.aload_n 2, 1) := by decide +kernel
theorem dX4_init_42 : decode cX4_init 42 = .ok (.putfield 31, 3) := by decide +kernel
theorem dX4_init_45 : decode cX4_init 45 = .ok (.return_, 1) := by decide +kernel
theorem dX4_read_0 : decode cX4_read 0 = .ok (.aload_n 0, 1) := by decide +kernel
theorem dX4_read_1 : decode cX4_read 1 = .ok (.getfield 31, 3) := by decide +kernel
theorem dX4_read_4 : decode cX4_read 4 = .ok (.invokevirtual 35, 3) := by decide +kernel
theorem dX4_read_7 : decode cX4_read 7 = .ok (.aload_n 0, 1) := by decide +kernel
theorem dX4_read_8 : decode cX4_read 8 = .ok (.iconst 0, 1) := by decide +kernel
theorem dX4_read_9 : decode cX4_read 9 = .ok (.putfield 40, 3) := by decide +kernel
theorem dX4_read_12 : decode cX4_read 12 = .ok (.aload_n 0, 1) := by decide +kernel
theorem dX4_read_13 : decode cX4_read 13 = .ok (.iconst 0, 1) := by decide +kernel
theorem dX4_read_14 : decode cX4_read 14 = .ok (.putfield 44, 3) := by decide +kernel
theorem dX4_read_17 : decode cX4_read 17 = .ok (.aload_n 0, 1) := by decide +kernel
theorem dX4_read_18 : decode cX4_read 18 = .ok (.iconst 0, 1) := by decide +kernel
theorem dX4_read_19 : decode cX4_read 19 = .ok (.putfield 47, 3) := by decide +kernel
theorem dX4_read_22 : decode cX4_read 22 = .ok (.iconst 0, 1) := by decide +kernel
theorem dX4_read_23 : decode cX4_read 23 = .ok (.istore_n 2, 1) := by decide +kernel
theorem dX4_read_24 : decode cX4_read 24 = .ok (.aload_n 0, 1) := by decide +kernel
theorem dX4_read_25 : decode cX4_read 25 = .ok (.getfield 27, 3) := by decide +kernel
theorem dX4_read_28 : decode cX4_read 28 = .ok (.iload_n 1, 1) := by decide +kernel
theorem dX4_read_29 : decode cX4_read 29 = .ok (.invokevirtual 50, 3) := by decide +kernel
theorem dX4_read_32 : decode cX4_read 32 = .ok (.aload_n 0, 1) := by decide +kernel
theorem dX4_read_33 : decode cX4_read 33 = .ok (.getfield 27, 3) := by decide +kernel
theorem dX4_read_36 : decode cX4_read 36 = .ok (.invokevirtual 54, 3) := by decide +kernel
theorem dX4_read_39 : decode cX4_read 39 = .ok (.aload_n 0, 1) := by decide +kernel
theorem dX4_read_40 : decode cX4_read 40 = .ok (.getfield 47, 3) := by decide +kernel
theorem dX4_read_43 : decode cX4_read 43 = .ok (.ifCond .ne 58, 3) := by decide +kernel
theorem dX4_read_46 : decode cX4_read 46 = .ok (.aload_n 0, 1) := by decide +kernel
theorem dX4_read_47 : decode cX4_read 47 = .ok (.getfield 27, 3) := by decide +kernel
theorem dX4_read_50 : decode cX4_read 50 = .ok (.getfield 57, 3) := by decide +kernel
theorem dX4_read_53 : decode cX4_read 53 = .ok (.ifCond .eq 48, 3) := by decide +kernel
theorem dX4_read_56 : decode cX4_read 56 = .ok (.iload_n 2, 1) := by decide +kernel
theorem dX4_read_57 : decode cX4_read 57 = .ok (.sipush 900, 3) := by decide +kernel
theorem dX4_read_60 : decode cX4_read 60 = .ok (.if_icmp .ge 41, 3) := by decide +kernel
theorem dX4_read_63 : decode cX4_read 63 = .ok (.aload_n 0, 1) := by decide +kernel
theorem dX4_read_64 : decode cX4_read 64 = .ok (.getfield 27, 3) := by decide +kernel
theorem dX4_read_67 : decode cX4_read 67 = .ok (.getfield 60, 3) := by decide +kernel
theorem dX4_read_70 : decode cX4_read 70 = .ok (.istore_n 3, 1) := by decide +kernel
theorem dX4_read_71 : decode cX4_read 71 = .ok (.aload_n 0, 1) := by decide +kernel
theorem dX4_read_72 : decode cX4_read 72 = .ok (.iload_n 3, 1) := by decide +kernel
theorem dX4_read_73 : decode cX4_read 73 = .ok (.invokevirtual 63, 3) := by decide +kernel
theorem dX4_read_76 : decode cX4_read 76 = .ok (.aload_n 0, 1) := by decide +kernel
theorem dX4_read_77 : decode cX4_read 77 = .ok (.getfield 47, 3) := by decide +kernel
theorem dX4_read_80 : decode cX4_read 80 = .ok (.ifCond .ne 8, 3) := by decide +kernel
theorem dX4_read_83 : decode cX4_read 83 = .ok (.aload_n 0, 1) := by decide +kernel
theorem dX4_read_84 : decode cX4_read 84 = .ok (.iload_n 3, 1) := by decide +kernel
theorem dX4_read_85 : decode cX4_read 85 = .ok (.invokevirtual 66, 3) := by decide +kernel
theorem dX4_read_88 : decode cX4_read 88 = .ok (.iinc 2 1, 3) := by decide +kernel
theorem dX4_read_91 : decode cX4_read 91 = .ok (.aload_n 0, 1) := by decide +kernel
theorem dX4_read_92 : decode cX4_read 92 = .ok (.getfield 27, 3) := by decide +kernel
theorem dX4_read_95 : decode cX4_read 95 = .ok (.invokevirtual 54, 3) := by decide +kernel
theorem dX4_read_98 : decode cX4_read 98 = .ok (.goto (-59), 3) := by decide +kernel
theorem dX4_read_101 : decode cX4_read 101 = .ok (.aload_n 0, 1) := by decide +kernel
theorem dX4_read_102 : decode cX4_read 102 = .ok (.getfield 47, 3) := by decide +kernel
theorem dX4_read_105 : decode cX4_read 105 = .ok (.ifCond .ne 7, 3) := by decide +kernel
theorem dX4_read_108 : decode cX4_read 108 = .ok (.iload_n 2, 1) := by decide +kernel
theorem dX4_read_109 : decode cX4_read 109 = .ok (.goto 10, 3) := by decide +kernel
theorem dX4_read_112 : decode cX4_read 112 = .ok (.bipush (-2), 2) := by decide +kernel
theorem dX4_read_114 : decode cX4_read 114 = .ok (.aload_n 0, 1) := by decide +kernel
theorem dX4_read_115 : decode cX4_read 115 = .ok (.getfield 47, 3) := by decide +kernel
theorem dX4_read_118 : decode cX4_read 118 = .ok (.isub, 1) := by decide +kernel
theorem dX4_read_119 : decode cX4_read 119 = .ok (.ireturn, 1) := by decide +kernel
theorem dX4_checkStart_0 : decode cX4_checkStart 0 = .ok (.iload_n 1, 1) := by decide +kernel
theorem dX4_checkStart_1 : decode cX4_checkStart 1 = .ok (.ifCond .lt 9, 3) := by decide +kernel
theorem dX4_checkStart_4 : decode cX4_checkStart 4 = .ok (.iload_n 1, 1) := by decide +kernel
theorem dX4_checkStart_5 : decode cX4_checkStart 5 = .ok (.bipush 11, 2) := by decide +kernel
theorem dX4_checkStart_7 : decode cX4_checkStart 7 = .ok (.if_icmp .le 11, 3) := by decide +kernel
theorem dX4_checkStart_10 : decode cX4_checkStart 10 = .ok (.aload_n 0, 1) := by decide +kernel
theorem dX4_checkStart_11 : decode cX4_checkStart 11 = .ok (.iconst 1, 1) := by decide +kernel
theorem dX4_checkStart_12 : decode cX4_checkStart 12 = .ok (.invokevirtual 69, 3) := by decide +kernel
theorem dX4_checkStart_15 : decode cX4_checkStart 15 = .ok (.goto 41, 3) := by decide +kernel
theorem dX4_checkStart_18 : decode cX4_checkStart 18 = .ok (.iload_n 1, 1) := by decide +kernel
theorem dX4_checkStart_19 : decode cX4_checkStart 19 = .ok (.bipush 8, 2) := by decide +kernel
theorem dX4_checkStart_21 : decode cX4_checkStart 21 = .ok (.if_icmp .lt 22, 3) := by decide +kernel
theorem dX4_checkStart_24 : decode cX4_checkStart 24 = .ok (.aload_n 0, 1) := by decide +kernel
theorem dX4_checkStart_25 : decode cX4_checkStart 25 = .ok (.getfield 44, 3) := by decide +kernel
theorem dX4_checkStart_28 : decode cX4_checkStart 28 = .ok (.iload_n 1, 1) := by decide +kernel
theorem dX4_checkStart_29 : decode cX4_checkStart 29 = .ok (.ishr, 1) := by decide +kernel
theorem dX4_checkStart_30 : decode cX4_checkStart 30 = .ok (.iconst 1, 1) := by decide +kernel
theorem dX4_checkStart_31 : decode cX4_checkStart 31 = .ok (.iand, 1) := by decide +kernel
theorem dX4_checkStart_32 : decode cX4_checkStart 32 = .ok (.ifCond .eq 11, 3) := by decide +kernel
theorem dX4_checkStart_35 : decode cX4_checkStart 35 = .ok (.aload_n 0, 1) := by decide +kernel
theorem dX4_checkStart_36 : decode cX4_checkStart 36 = .ok (.iconst 2, 1) := by decide +kernel
theorem dX4_checkStart_37 : decode cX4_checkStart 37 = .ok (.invokevirtual 69, 3) := by decide +kernel
theorem dX4_checkStart_40 : decode cX4_checkStart 40 = .ok (.goto 16, 3) := by decide +kernel
theorem dX4_checkStart_43 : decode cX4_checkStart 43 = .ok (.aload_n 0, 1) := by decide +kernel
theorem dX4_checkStart_44 : decode cX4_checkStart 44 = .ok (.iload_n 1, 1) := by decide +kernel
theorem dX4_checkStart_45 : decode cX4_checkStart 45 = .ok (.invokevirtual 72, 3) := by decide +kernel
theorem dX4_checkStart_48 : decode cX4_checkStart 48 = .ok (.ifCond .eq 8, 3) := by decide +kernel
theorem dX4_checkStart_51 : decode cX4_checkStart 51 = .ok (.aload_n 0, 1) := by decide +kernel
theorem dX4_checkStart_52 : decode cX4_checkStart 52 = .ok (.iconst 5, 1) := by decide +kernel
theorem dX4_checkStart_53 : decode cX4_checkStart 53 = .ok (.invokevirtual 69, 3) := by decide +kernel
theorem dX4_checkStart_56 : decode cX4_checkStart 56 = .ok (.return_, 1) := by decide +kernel
theorem dX4_isFull_0 : decode cX4_isFull 0 = .ok (.iload_n 1, 1) := by decide +kernel
theorem dX4_isFull_1 : decode cX4_isFull 1 = .ok (.tableswitch 186 0 7 #[47, 67, 88, 108, 127, 147, 186, 167], 47) := by decide +kernel
theorem dX4_isFull_48 : decode cX4_isFull 48 = .ok (.aload_n 0, 1) := by decide +kernel
theorem dX4_isFull_49 : decode cX4_isFull 49 = .ok (.getfield 31, 3) := by decide +kernel
theorem dX4_isFull_52 : decode cX4_isFull 52 = .ok (.getfield 76, 3) := by decide +kernel
theorem dX4_isFull_55 : decode cX4_isFull 55 = .ok (.iconst 0, 1) := by decide +kernel
theorem dX4_isFull_56 : decode cX4_isFull 56 = .ok (.iaload, 1) := by decide +kernel
theorem dX4_isFull_57 : decode cX4_isFull 57 = .ok (.bipush 6, 2) := by decide +kernel
theorem dX4_isFull_59 : decode cX4_isFull 59 = .ok (.if_icmp .lt 7, 3) := by decide +kernel
theorem dX4_isFull_62 : decode cX4_isFull 62 = .ok (.iconst 1, 1) := by decide +kernel
theorem dX4_isFull_63 : decode cX4_isFull 63 = .ok (.goto 4, 3) := by decide +kernel
theorem dX4_isFull_66 : decode cX4_isFull 66 = .ok (.iconst 0, 1) := by decide +kernel
theorem dX4_isFull_67 : decode cX4_isFull 67 = .ok (.ireturn, 1) := by decide +kernel
theorem dX4_isFull_68 : decode cX4_isFull 68 = .ok (.aload_n 0, 1) := by decide +kernel
theorem dX4_isFull_69 : decode cX4_isFull 69 = .ok (.getfield 31, 3) := by decide +kernel
theorem dX4_isFull_72 : decode cX4_isFull 72 = .ok (.getfield 76, 3) := by decide +kernel
theorem dX4_isFull_75 : decode cX4_isFull 75 = .ok (.bipush 13, 2) := by decide +kernel
theorem dX4_isFull_77 : decode cX4_isFull 77 = .ok (.iaload, 1) := by decide +kernel
theorem dX4_isFull_78 : decode cX4_isFull 78 = .ok (.bipush 6, 2) := by decide +kernel
theorem dX4_isFull_80 : decode cX4_isFull 80 = .ok (.if_icmp .lt 7, 3) := by decide +kernel
theorem dX4_isFull_83 : decode cX4_isFull 83 = .ok (.iconst 1, 1) := by decide +kernel
theorem dX4_isFull_84 : decode cX4_isFull 84 = .ok (.goto 4, 3) := by decide +kernel
theorem dX4_isFull_87 : decode cX4_isFull 87 = .ok (.iconst 0, 1) := by decide +kernel
theorem dX4_isFull_88 : decode cX4_isFull 88 = .ok (.ireturn, 1) := by decide +kernel
theorem dX4_isFull_89 : decode cX4_isFull 89 = .ok (.aload_n 0, 1) := by decide +kernel
theorem dX4_isFull_90 : decode cX4_isFull 90 = .ok (.getfield 31, 3) := by decide +kernel
theorem dX4_isFull_93 : decode cX4_isFull 93 = .ok (.getfield 76, 3) := by decide +kernel
theorem dX4_isFull_96 : decode cX4_isFull 96 = .ok (.iconst 1, 1) := by decide +kernel
theorem dX4_isFull_97 : decode cX4_isFull 97 = .ok (.iaload, 1) := by decide +kernel
theorem dX4_isFull_98 : decode cX4_isFull 98 = .ok (.bipush 6, 2) := by decide +kernel
theorem dX4_isFull_100 : decode cX4_isFull 100 = .ok (.if_icmp .lt 7, 3) := by decide +kernel
theorem dX4_isFull_103 : decode cX4_isFull 103 = .ok (.iconst 1, 1) := by decide +kernel
theorem dX4_isFull_104 : decode cX4_isFull 104 = .ok (.goto 4, 3) := by decide +kernel
theorem dX4_isFull_107 : decode cX4_isFull 107 = .ok (.iconst 0, 1) := by decide +kernel
theorem dX4_isFull_108 : decode cX4_isFull 108 = .ok (.ireturn, 1) := by decide +kernel
theorem dX4_isFull_109 : decode cX4_isFull 109 = .ok (.aload_n 0, 1) := by decide +kernel
theorem dX4_isFull_110 : decode cX4_isFull 110 = .ok (.getfield 31, 3) := by decide +kernel
theorem dX4_isFull_113 : decode cX4_isFull 113 = .ok (.getfield 76, 3) := by decide +kernel
theorem dX4_isFull_116 : decode cX4_isFull 116 = .ok (.iconst 2, 1) := by decide +kernel
theorem dX4_isFull_117 : decode cX4_isFull 117 = .ok (.iaload, 1) := by decide +kernel
theorem dX4_isFull_118 : decode cX4_isFull 118 = .ok (.iconst 4, 1) := by decide +kernel
theorem dX4_isFull_119 : decode cX4_isFull 119 = .ok (.if_icmp .lt 7, 3) := by decide +kernel
theorem dX4_isFull_122 : decode cX4_isFull 122 = .ok (.iconst 1, 1) := by decide +kernel
theorem dX4_isFull_123 : decode cX4_isFull 123 = .ok (.goto 4, 3) := by decide +kernel
theorem dX4_isFull_126 : decode cX4_isFull 126 = .ok (.iconst 0, 1) := by decide +kernel
theorem dX4_isFull_127 : decode cX4_isFull 127 = .ok (.ireturn, 1) := by decide +kernel
theorem dX4_isFull_128 : decode cX4_isFull 128 = .ok (.aload_n 0, 1) := by decide +kernel
theorem dX4_isFull_129 : decode cX4_isFull 129 = .ok (.getfield 31, 3) := by decide +kernel
theorem dX4_isFull_132 : decode cX4_isFull 132 = .ok (.getfield 76, 3) := by decide +kernel

theorem dX4_ask_128 : decode cX4_ask 128 = .ok (.aload_n 0, 1) := by decide +kernel
theorem dX4_ask_129 : decode cX4_ask 129 = .ok (.iload 6, 2) := by decide +kernel
theorem dX4_ask_131 : decode cX4_ask 131 = .ok (.iload 7, 2) := by decide +kernel
theorem dX4_ask_133 : decode cX4_ask 133 = .ok (.aload_n 0, 1) := by decide +kernel
theorem dX4_ask_134 : decode cX4_ask 134 = .ok (.getfield 107, 3) := by decide +kernel
theorem dX4_ask_137 : decode cX4_ask 137 = .ok (.invokevirtual 137, 3) := by decide +kernel
theorem dX4_ask_140 : decode cX4_ask 140 = .ok (.aload_n 0, 1) := by decide +kernel
theorem dX4_ask_141 : decode cX4_ask 141 = .ok (.getfield 98, 3) := by decide +kernel
theorem dX4_ask_144 : decode cX4_ask 144 = .ok (.ifCond .le 7, 3) := by decide +kernel
theorem dX4_ask_147 : decode cX4_ask 147 = .ok (.aload_n 0, 1) := by decide +kernel
theorem dX4_ask_148 : decode cX4_ask 148 = .ok (.invokevirtual 141, 3) := by decide +kernel
theorem dX4_ask_151 : decode cX4_ask 151 = .ok (.goto (-132), 3) := by decide +kernel
theorem dX4_ask_154 : decode cX4_ask 154 = .ok (.aload_n 0, 1) := by decide +kernel
theorem dX4_ask_155 : decode cX4_ask 155 = .ok (.getfield 98, 3) := by decide +kernel
theorem dX4_ask_158 : decode cX4_ask 158 = .ok (.ifCond .ne 7, 3) := by decide +kernel
theorem dX4_ask_161 : decode cX4_ask 161 = .ok (.iconst 1, 1) := by decide +kernel
theorem dX4_ask_162 : decode cX4_ask 162 = .ok (.goto 4, 3) := by decide +kernel
theorem dX4_ask_165 : decode cX4_ask 165 = .ok (.iconst 0, 1) := by decide +kernel
theorem dX4_ask_166 : decode cX4_ask 166 = .ok (.ireturn, 1) := by decide +kernel
theorem dX4_startsCall_0 : decode cX4_startsCall 0 = .ok (.aload_n 0, 1) := by decide +kernel
theorem dX4_startsCall_1 : decode cX4_startsCall 1 = .ok (.iconst 0, 1) := by decide +kernel
theorem dX4_startsCall_2 : decode cX4_startsCall 2 = .ok (.putfield 95, 3) := by decide +kernel
theorem dX4_startsCall_5 : decode cX4_startsCall 5 = .ok (.aload_n 0, 1) := by decide +kernel
theorem dX4_startsCall_6 : decode cX4_startsCall 6 = .ok (.iconst 0, 1) := by decide +kernel
theorem dX4_startsCall_7 : decode cX4_startsCall 7 = .ok (.putfield 98, 3) := by decide +kernel
theorem dX4_startsCall_10 : decode cX4_startsCall 10 = .ok (.return_, 1) := by decide +kernel
theorem dX4_ends_0 : decode cX4_ends 0 = .ok (.aload_n 0, 1) := by decide +kernel
theorem dX4_ends_1 : decode cX4_ends 1 = .ok (.aload_n 0, 1) := by decide +kernel
theorem dX4_ends_2 : decode cX4_ends 2 = .ok (.getfield 95, 3) := by decide +kernel
theorem dX4_ends_5 : decode cX4_ends 5 = .ok (.putfield 144, 3) := by decide +kernel
theorem dX4_ends_8 : decode cX4_ends 8 = .ok (.aload_n 0, 1) := by decide +kernel
theorem dX4_ends_9 : decode cX4_ends 9 = .ok (.getfield 98, 3) := by decide +kernel
theorem dX4_ends_12 : decode cX4_ends 12 = .ok (.ifCond .ne 5, 3) := by decide +kernel
theorem dX4_ends_15 : decode cX4_ends 15 = .ok (.iload_n 1, 1) := by decide +kernel
theorem dX4_ends_16 : decode cX4_ends 16 = .ok (.ireturn, 1) := by decide +kernel
theorem dX4_ends_17 : decode cX4_ends 17 = .ok (.aload_n 0, 1) := by decide +kernel
theorem dX4_ends_18 : decode cX4_ends 18 = .ok (.dup, 1) := by decide +kernel
theorem dX4_ends_19 : decode cX4_ends 19 = .ok (.getfield 127, 3) := by decide +kernel
theorem dX4_ends_22 : decode cX4_ends 22 = .ok (.iconst 1, 1) := by decide +kernel
theorem dX4_ends_23 : decode cX4_ends 23 = .ok (.iadd, 1) := by decide +kernel
theorem dX4_ends_24 : decode cX4_ends 24 = .ok (.putfield 127, 3) := by decide +kernel
theorem dX4_ends_27 : decode cX4_ends 27 = .ok (.aload_n 0, 1) := by decide +kernel
theorem dX4_ends_28 : decode cX4_ends 28 = .ok (.dup, 1) := by decide +kernel
theorem dX4_ends_29 : decode cX4_ends 29 = .ok (.getfield 147, 3) := by decide +kernel
theorem dX4_ends_32 : decode cX4_ends 32 = .ok (.iconst 1, 1) := by decide +kernel
theorem dX4_ends_33 : decode cX4_ends 33 = .ok (.iadd, 1) := by decide +kernel
theorem dX4_ends_34 : decode cX4_ends 34 = .ok (.putfield 147, 3) := by decide +kernel
theorem dX4_ends_37 : decode cX4_ends 37 = .ok (.aload_n 0, 1) := by decide +kernel
theorem dX4_ends_38 : decode cX4_ends 38 = .ok (.aload_n 0, 1) := by decide +kernel
theorem dX4_ends_39 : decode cX4_ends 39 = .ok (.getfield 98, 3) := by decide +kernel
theorem dX4_ends_42 : decode cX4_ends 42 = .ok (.putfield 150, 3) := by decide +kernel
theorem dX4_ends_45 : decode cX4_ends 45 = .ok (.bipush (-10), 2) := by decide +kernel
theorem dX4_ends_47 : decode cX4_ends 47 = .ok (.aload_n 0, 1) := by decide +kernel
theorem dX4_ends_48 : decode cX4_ends 48 = .ok (.getfield 98, 3) := by decide +kernel
theorem dX4_ends_51 : decode cX4_ends 51 = .ok (.isub, 1) := by decide +kernel
theorem dX4_ends_52 : decode cX4_ends 52 = .ok (.ireturn, 1) := by decide +kernel
theorem dX4_made_0 : decode cX4_made 0 = .ok (.bipush 24, 2) := by decide +kernel
theorem dX4_made_2 : decode cX4_made 2 = .ok (.iload_n 1, 1) := by decide +kernel
theorem dX4_made_3 : decode cX4_made 3 = .ok (.imul, 1) := by decide +kernel
theorem dX4_made_4 : decode cX4_made 4 = .ok (.aload_n 0, 1) := by decide +kernel
theorem dX4_made_5 : decode cX4_made 5 = .ok (.getfield 20, 3) := by decide +kernel
theorem dX4_made_8 : decode cX4_made 8 = .ok (.iload_n 1, 1) := by decide +kernel
theorem dX4_made_9 : decode cX4_made 9 = .ok (.iaload, 1) := by decide +kernel
theorem dX4_made_10 : decode cX4_made 10 = .ok (.iadd, 1) := by decide +kernel
theorem dX4_made_11 : decode cX4_made 11 = .ok (.istore 7, 2) := by decide +kernel
theorem dX4_made_13 : decode cX4_made 13 = .ok (.aload_n 0, 1) := by decide +kernel
theorem dX4_made_14 : decode cX4_made 14 = .ok (.getfield 23, 3) := by decide +kernel
theorem dX4_made_17 : decode cX4_made 17 = .ok (.iload 7, 2) := by decide +kernel
theorem dX4_made_19 : decode cX4_made 19 = .ok (.iload_n 2, 1) := by decide +kernel
theorem dX4_made_20 : decode cX4_made 20 = .ok (.iastore, 1) := by decide +kernel
theorem dX4_made_21 : decode cX4_made 21 = .ok (.aload_n 0, 1) := by decide +kernel
theorem dX4_made_22 : decode cX4_made 22 = .ok (.getfield 26, 3) := by decide +kernel
theorem dX4_made_25 : decode cX4_made 25 = .ok (.iload 7, 2) := by decide +kernel
theorem dX4_made_27 : decode cX4_made 27 = .ok (.iload_n 3, 1) := by decide +kernel
theorem dX4_made_28 : decode cX4_made 28 = .ok (.iastore, 1) := by decide +kernel
theorem dX4_made_29 : decode cX4_made 29 = .ok (.aload_n 0, 1) := by decide +kernel
theorem dX4_made_30 : decode cX4_made 30 = .ok (.getfield 29, 3) := by decide +kernel
theorem dX4_made_33 : decode cX4_made 33 = .ok (.iload 7, 2) := by decide +kernel
theorem dX4_made_35 : decode cX4_made 35 = .ok (.iload 4, 2) := by decide +kernel
theorem dX4_made_37 : decode cX4_made 37 = .ok (.iastore, 1) := by decide +kernel
theorem dX4_made_38 : decode cX4_made 38 = .ok (.aload_n 0, 1) := by decide +kernel
theorem dX4_made_39 : decode cX4_made 39 = .ok (.getfield 32, 3) := by decide +kernel
theorem dX4_made_42 : decode cX4_made 42 = .ok (.iload 7, 2) := by decide +kernel
theorem dX4_made_44 : decode cX4_made 44 = .ok (.lload 5, 2) := by decide +kernel
theorem dX4_made_46 : decode cX4_made 46 = .ok (.lastore, 1) := by decide +kernel
theorem dX4_made_47 : decode cX4_made 47 = .ok (.aload_n 0, 1) := by decide +kernel
theorem dX4_made_48 : decode cX4_made 48 = .ok (.getfield 35, 3) := by decide +kernel
theorem dX4_made_51 : decode cX4_made 51 = .ok (.iload 7, 2) := by decide +kernel
theorem dX4_made_53 : decode cX4_made 53 = .ok (.iconst 0, 1) := by decide +kernel
theorem dX4_made_54 : decode cX4_made 54 = .ok (.iastore, 1) := by decide +kernel
theorem dX4_made_55 : decode cX4_made 55 = .ok (.aload_n 0, 1) := by decide +kernel
theorem dX4_made_56 : decode cX4_made 56 = .ok (.getfield 20, 3) := by decide +kernel
theorem dX4_made_59 : decode cX4_made 59 = .ok (.iload_n 1, 1) := by decide +kernel
theorem dX4_made_60 : decode cX4_made 60 = .ok (.dup2, 1) := by decide +kernel
theorem dX4_made_61 : decode cX4_made 61 = .ok (.iaload, 1) := by decide +kernel
theorem dX4_made_62 : decode cX4_made 62 = .ok (.iconst 1, 1) := by decide +kernel
theorem dX4_made_63 : decode cX4_made 63 = .ok (.iadd, 1) := by decide +kernel
theorem dX4_made_64 : decode cX4_made 64 = .ok (.iastore, 1) := by decide +kernel
theorem dX4_made_65 : decode cX4_made 65 = .ok (.aload_n 0, 1) := by decide +kernel
theorem dX4_made_66 : decode cX4_made 66 = .ok (.getfield 20, 3) := by decide +kernel
theorem dX4_made_69 : decode cX4_made 69 = .ok (.iload_n 1, 1) := by decide +kernel
theorem dX4_made_70 : decode cX4_made 70 = .ok (.iaload, 1) := by decide +kernel
theorem dX4_made_71 : decode cX4_made 71 = .ok (.iconst 1, 1) := by decide +kernel
theorem dX4_made_72 : decode cX4_made 72 = .ok (.isub, 1) := by decide +kernel
theorem dX4_made_73 : decode cX4_made 73 = .ok (.ireturn, 1) := by decide +kernel
theorem dX4_scale_0 : decode cX4_scale 0 = .ok (.iload_n 1, 1) := by decide +kernel
theorem dX4_scale_1 : decode cX4_scale 1 = .ok (.iconst 0, 1) := by decide +kernel
theorem dX4_scale_2 : decode cX4_scale 2 = .ok (.bipush 11, 2) := by decide +kernel
theorem dX4_scale_4 : decode cX4_scale 4 = .ok (.invokestatic 84, 3) := by decide +kernel
theorem dX4_scale_7 : decode cX4_scale 7 = .ok (.ifCond .eq 114, 3) := by decide +kernel
theorem dX4_scale_10 : decode cX4_scale 10 = .ok (.iload_n 1, 1) := by decide +kernel
theorem dX4_scale_11 : decode cX4_scale 11 = .ok (.ifCond .ne 12, 3) := by decide +kernel
theorem dX4_scale_14 : decode cX4_scale 14 = .ok (.iload_n 2, 1) := by decide +kernel
theorem dX4_scale_15 : decode cX4_scale 15 = .ok (.iconst 0, 1) := by decide +kernel
theorem dX4_scale_16 : decode cX4_scale 16 = .ok (.iconst 2, 1) := by decide +kernel
theorem dX4_scale_17 : decode cX4_scale 17 = .ok (.invokestatic 84, 3) := by decide +kernel
theorem dX4_scale_20 : decode cX4_scale 20 = .ok (.ifCond .eq 101, 3) := by decide +kernel
theorem dX4_scale_23 : decode cX4_scale 23 = .ok (.iload_n 1, 1) := by decide +kernel
theorem dX4_scale_24 : decode cX4_scale 24 = .ok (.bipush 8, 2) := by decide +kernel
theorem dX4_scale_26 : decode cX4_scale 26 = .ok (.if_icmp .ne 13, 3) := by decide +kernel
theorem dX4_scale_29 : decode cX4_scale 29 = .ok (.iload_n 2, 1) := by decide +kernel
theorem dX4_scale_30 : decode cX4_scale 30 = .ok (.iconst 0, 1) := by decide +kernel
theorem dX4_scale_31 : decode cX4_scale 31 = .ok (.bipush 7, 2) := by decide +kernel
theorem dX4_scale_33 : decode cX4_scale 33 = .ok (.invokestatic 84, 3) := by decide +kernel
theorem dX4_scale_36 : decode cX4_scale 36 = .ok (.ifCond .eq 85, 3) := by decide +kernel
theorem dX4_scale_39 : decode cX4_scale 39 = .ok (.iload_n 1, 1) := by decide +kernel
theorem dX4_scale_40 : decode cX4_scale 40 = .ok (.iconst 2, 1) := by decide +kernel
theorem dX4_scale_41 : decode cX4_scale 41 = .ok (.iconst 5, 1) := by decide +kernel
theorem dX4_scale_42 : decode cX4_scale 42 = .ok (.invokestatic 84, 3) := by decide +kernel
theorem dX4_scale_45 : decode cX4_scale 45 = .ok (.ifCond .ne 15, 3) := by decide +kernel
theorem dX4_scale_48 : decode cX4_scale 48 = .ok (.iload_n 1, 1) := by decide +kernel
theorem dX4_scale_49 : decode cX4_scale 49 = .ok (.bipush 7, 2) := by decide +kernel
theorem dX4_scale_51 : decode cX4_scale 51 = .ok (.if_icmp .eq 9, 3) := by decide +kernel
theorem dX4_scale_54 : decode cX4_scale 54 = .ok (.iload_n 1, 1) := by decide +kernel
theorem dX4_scale_55 : decode cX4_scale 55 = .ok (.bipush 9, 2) := by decide +kernel
theorem dX4_scale_57 : decode cX4_scale 57 = .ok (.if_icmp .ne 12, 3) := by decide +kernel
theorem dX4_scale_60 : decode cX4_scale 60 = .ok (.aload_n 0, 1) := by decide +kernel
theorem dX4_scale_61 : decode cX4_scale 61 = .ok (.iconst 0, 1) := by decide +kernel
theorem dX4_scale_62 : decode cX4_scale 62 = .ok (.iload_n 2, 1) := by decide +kernel
theorem dX4_scale_63 : decode cX4_scale 63 = .ok (.invokevirtual 153, 3) := by decide +kernel
theorem dX4_scale_66 : decode cX4_scale 66 = .ok (.ifCond .eq 55, 3) := by decide +kernel
theorem dX4_scale_69 : decode cX4_scale 69 = .ok (.iload_n 1, 1) := by decide +kernel
theorem dX4_scale_70 : decode cX4_scale 70 = .ok (.bipush 6, 2) := by decide +kernel
theorem dX4_scale_72 : decode cX4_scale 72 = .ok (.if_icmp .ne 12, 3) := by decide +kernel
theorem dX4_scale_75 : decode cX4_scale 75 = .ok (.aload_n 0, 1) := by decide +kernel
theorem dX4_scale_76 : decode cX4_scale 76 = .ok (.iconst 1, 1) := by decide +kernel
theorem dX4_scale_77 : decode cX4_scale 77 = .ok (.iload_n 2, 1) := by decide +kernel
theorem dX4_scale_78 : decode cX4_scale 78 = .ok (.invokevirtual 153, 3) := by decide +kernel
theorem dX4_scale_81 : decode cX4_scale 81 = .ok (.ifCond .eq 40, 3) := by decide +kernel
theorem dX4_scale_84 : decode cX4_scale 84 = .ok (.iload_n 1, 1) := by decide +kernel
theorem dX4_scale_85 : decode cX4_scale 85 = .ok (.iconst 2, 1) := by decide +kernel
theorem dX4_scale_86 : decode cX4_scale 86 = .ok (.bipush 6, 2) := by decide +kernel
theorem dX4_scale_88 : decode cX4_scale 88 = .ok (.invokestatic 84, 3) := by decide +kernel
theorem dX4_scale_91 : decode cX4_scale 91 = .ok (.ifCond .eq 12, 3) := by decide +kernel
theorem dX4_scale_94 : decode cX4_scale 94 = .ok (.aload_n 0, 1) := by decide +kernel
theorem dX4_scale_95 : decode cX4_scale 95 = .ok (.iconst 0, 1) := by decide +kernel
theorem dX4_scale_96 : decode cX4_scale 96 = .ok (.iload_n 3, 1) := by decide +kernel
theorem dX4_scale_97 : decode cX4_scale 97 = .ok (.invokevirtual 153, 3) := by decide +kernel
theorem dX4_scale_100 : decode cX4_scale 100 = .ok (.ifCond .eq 21, 3) := by decide +kernel
theorem dX4_scale_103 : decode cX4_scale 103 = .ok (.iload_n 1, 1) := by decide +kernel
theorem dX4_scale_104 : decode cX4_scale 104 = .ok (.bipush 9, 2) := by decide +kernel
theorem dX4_scale_106 : decode cX4_scale 106 = .ok (.if_icmp .ne 11, 3) := by decide +kernel
theorem dX4_scale_109 : decode cX4_scale 109 = .ok (.aload_n 0, 1) := by decide +kernel
theorem dX4_scale_110 : decode cX4_scale 110 = .ok (.iload_n 3, 1) := by decide +kernel
theorem dX4_scale_111 : decode cX4_scale 111 = .ok (.invokevirtual 91, 3) := by decide +kernel
theorem dX4_scale_114 : decode cX4_scale 114 = .ok (.ifCond .eq 7, 3) := by decide +kernel
theorem dX4_scale_117 : decode cX4_scale 117 = .ok (.iconst 1, 1) := by decide +kernel
theorem dX4_scale_118 : decode cX4_scale 118 = .ok (.goto 4, 3) := by decide +kernel
theorem dX4_scale_121 : decode cX4_scale 121 = .ok (.iconst 0, 1) := by decide +kernel
theorem dX4_scale_122 : decode cX4_scale 122 = .ok (.istore 4, 2) := by decide +kernel
theorem dX4_scale_124 : decode cX4_scale 124 = .ok (.iload 4, 2) := by decide +kernel
theorem dX4_scale_126 : decode cX4_scale 126 = .ok (.ifCond .ne 5, 3) := by decide +kernel
theorem dX4_scale_129 : decode cX4_scale 129 = .ok (.iconst (-1), 1) := by decide +kernel
theorem dX4_scale_130 : decode cX4_scale 130 = .ok (.ireturn, 1) := by decide +kernel
theorem dX4_scale_131 : decode cX4_scale 131 = .ok (.aload_n 0, 1) := by decide +kernel
theorem dX4_scale_132 : decode cX4_scale 132 = .ok (.getfield 20, 3) := by decide +kernel
theorem dX4_scale_135 : decode cX4_scale 135 = .ok (.iconst 0, 1) := by decide +kernel
theorem dX4_scale_136 : decode cX4_scale 136 = .ok (.iaload, 1) := by decide +kernel
theorem dX4_scale_137 : decode cX4_scale 137 = .ok (.bipush 24, 2) := by decide +kernel
theorem dX4_scale_139 : decode cX4_scale 139 = .ok (.if_icmp .eq 19, 3) := by decide +kernel
theorem dX4_scale_142 : decode cX4_scale 142 = .ok (.iload_n 1, 1) := by decide +kernel
theorem dX4_scale_143 : decode cX4_scale 143 = .ok (.bipush 9, 2) := by decide +kernel
theorem dX4_scale_145 : decode cX4_scale 145 = .ok (.if_icmp .ne 16, 3) := by decide +kernel
theorem dX4_scale_148 : decode cX4_scale 148 = .ok (.aload_n 0, 1) := by decide +kernel
theorem dX4_scale_149 : decode cX4_scale 149 = .ok (.getfield 127, 3) := by decide +kernel
theorem dX4_scale_152 : decode cX4_scale 152 = .ok (.sipush 2000, 3) := by decide +kernel
theorem dX4_scale_155 : decode cX4_scale 155 = .ok (.if_icmp .lt 6, 3) := by decide +kernel
theorem dX4_scale_158 : decode cX4_scale 158 = .ok (.bipush (-2), 2) := by decide +kernel
theorem dX4_scale_160 : decode cX4_scale 160 = .ok (.ireturn, 1) := by decide +kernel
theorem dX4_scale_161 : decode cX4_scale 161 = .ok (.iload_n 1, 1) := by decide +kernel
theorem dX4_scale_162 : decode cX4_scale 162 = .ok (.bipush 9, 2) := by decide +kernel
theorem dX4_scale_164 : decode cX4_scale 164 = .ok (.if_icmp .eq 28, 3) := by decide +kernel
theorem dX4_scale_167 : decode cX4_scale 167 = .ok (.aload_n 0, 1) := by decide +kernel
theorem dX4_scale_168 : decode cX4_scale 168 = .ok (.iconst 0, 1) := by decide +kernel
theorem dX4_scale_169 : decode cX4_scale 169 = .ok (.iload_n 1, 1) := by decide +kernel
theorem dX4_scale_170 : decode cX4_scale 170 = .ok (.iload_n 2, 1) := by decide +kernel
theorem dX4_scale_171 : decode cX4_scale 171 = .ok (.iload_n 3, 1) := by decide +kernel
theorem dX4_scale_172 : decode cX4_scale 172 = .ok (.iload_n 1, 1) := by decide +kernel
theorem dX4_scale_173 : decode cX4_scale 173 = .ok (.bipush 8, 2) := by decide +kernel
theorem dX4_scale_175 : decode cX4_scale 175 = .ok (.if_icmp .ne 12, 3) := by decide +kernel
theorem dX4_scale_178 : decode cX4_scale 178 = .ok (.aload_n 0, 1) := by decide +kernel
theorem dX4_scale_179 : decode cX4_scale 179 = .ok (.getfield 13, 3) := by decide +kernel
theorem dX4_scale_182 : decode cX4_scale 182 = .ok (.iload_n 2, 1) := by decide +kernel
theorem dX4_scale_183 : decode cX4_scale 183 = .ok (.laload, 1) := by decide +kernel
theorem dX4_scale_184 : decode cX4_scale 184 = .ok (.goto 4, 3) := by decide +kernel
theorem dX4_scale_187 : decode cX4_scale 187 = .ok (.lconst 0, 1) := by decide +kernel
theorem dX4_scale_188 : decode cX4_scale 188 = .ok (.invokevirtual 157, 3) := by decide +kernel
theorem dX4_scale_191 : decode cX4_scale 191 = .ok (.ireturn, 1) := by decide +kernel
theorem dX4_scale_192 : decode cX4_scale 192 = .ok (.aload_n 0, 1) := by decide +kernel
theorem dX4_scale_193 : decode cX4_scale 193 = .ok (.invokevirtual 161, 3) := by decide +kernel
theorem dX4_scale_196 : decode cX4_scale 196 = .ok (.aload_n 0, 1) := by decide +kernel
theorem dX4_scale_197 : decode cX4_scale 197 = .ok (.iconst 0, 1) := by decide +kernel
theorem dX4_scale_198 : decode cX4_scale 198 = .ok (.iload_n 2, 1) := by decide +kernel
theorem dX4_scale_199 : decode cX4_scale 199 = .ok (.iload_n 3, 1) := by decide +kernel
theorem dX4_scale_200 : decode cX4_scale 200 = .ok (.iload_n 3, 1) := by decide +kernel
theorem dX4_scale_201 : decode cX4_scale 201 = .ok (.invokevirtual 164, 3) := by decide +kernel
theorem dX4_scale_204 : decode cX4_scale 204 = .ok (.istore 5, 2) := by decide +kernel
theorem dX4_scale_206 : decode cX4_scale 206 = .ok (.aload_n 0, 1) := by decide +kernel
theorem dX4_scale_207 : decode cX4_scale 207 = .ok (.iconst 1, 1) := by decide +kernel
theorem dX4_scale_208 : decode cX4_scale 208 = .ok (.invokevirtual 168, 3) := by decide +kernel
theorem dX4_scale_211 : decode cX4_scale 211 = .ok (.istore 6, 2) := by decide +kernel
theorem dX4_scale_213 : decode cX4_scale 213 = .ok (.iload 6, 2) := by decide +kernel
theorem dX4_scale_215 : decode cX4_scale 215 = .ok (.ifCond .ge 8, 3) := by decide +kernel
theorem dX4_scale_218 : decode cX4_scale 218 = .ok (.iload 6, 2) := by decide +kernel
theorem dX4_scale_220 : decode cX4_scale 220 = .ok (.goto 15, 3) := by decide +kernel
theorem dX4_scale_223 : decode cX4_scale 223 = .ok (.aload_n 0, 1) := by decide +kernel
theorem dX4_scale_224 : decode cX4_scale 224 = .ok (.iconst 0, 1) := by decide +kernel
theorem dX4_scale_225 : decode cX4_scale 225 = .ok (.iload_n 1, 1) := by decide +kernel
theorem dX4_scale_226 : decode cX4_scale 226 = .ok (.iload_n 2, 1) := by decide +kernel
theorem dX4_scale_227 : decode cX4_scale 227 = .ok (.iload_n 3, 1) := by decide +kernel
theorem dX4_scale_228 : decode cX4_scale 228 = .ok (.aload_n 0, 1) := by decide +kernel
theorem dX4_scale_229 : decode cX4_scale 229 = .ok (.getfield 107, 3) := by decide +kernel
theorem dX4_scale_232 : decode cX4_scale 232 = .ok (.invokevirtual 157, 3) := by decide +kernel
theorem dX4_scale_235 : decode cX4_scale 235 = .ok (.ireturn, 1) := by decide +kernel
theorem dX4_sieve_0 : decode cX4_sieve 0 = .ok (.iload_n 1, 1) := by decide +kernel
theorem dX4_sieve_1 : decode cX4_sieve 1 = .ok (.iconst 0, 1) := by decide +kernel
theorem dX4_sieve_2 : decode cX4_sieve 2 = .ok (.bipush 9, 2) := by decide +kernel
theorem dX4_sieve_4 : decode cX4_sieve 4 = .ok (.invokestatic 84, 3) := by decide +kernel
theorem dX4_sieve_7 : decode cX4_sieve 7 = .ok (.ifCond .eq 76, 3) := by decide +kernel
theorem dX4_sieve_10 : decode cX4_sieve 10 = .ok (.iload_n 1, 1) := by decide +kernel
theorem dX4_sieve_11 : decode cX4_sieve 11 = .ok (.iconst 1, 1) := by decide +kernel
theorem dX4_sieve_12 : decode cX4_sieve 12 = .ok (.iconst 2, 1) := by decide +kernel
theorem dX4_sieve_13 : decode cX4_sieve 13 = .ok (.invokestatic 84, 3) := by decide +kernel
theorem dX4_sieve_16 : decode cX4_sieve 16 = .ok (.ifCond .eq 21, 3) := by decide +kernel
theorem dX4_sieve_19 : decode cX4_sieve 19 = .ok (.aload_n 0, 1) := by decide +kernel
theorem dX4_sieve_20 : decode cX4_sieve 20 = .ok (.iconst 0, 1) := by decide +kernel
theorem dX4_sieve_21 : decode cX4_sieve 21 = .ok (.iload_n 2, 1) := by decide +kernel
theorem dX4_sieve_22 : decode cX4_sieve 22 = .ok (.invokevirtual 153, 3) := by decide +kernel
theorem dX4_sieve_25 : decode cX4_sieve 25 = .ok (.ifCond .eq 58, 3) := by decide +kernel
theorem dX4_sieve_28 : decode cX4_sieve 28 = .ok (.aload_n 0, 1) := by decide +kernel
theorem dX4_sieve_29 : decode cX4_sieve 29 = .ok (.iconst 0, 1) := by decide +kernel
theorem dX4_sieve_30 : decode cX4_sieve 30 = .ok (.iload_n 3, 1) := by decide +kernel
theorem dX4_sieve_31 : decode cX4_sieve 31 = .ok (.invokevirtual 153, 3) := by decide +kernel
theorem dX4_sieve_34 : decode cX4_sieve 34 = .ok (.ifCond .eq 49, 3) := by decide +kernel
theorem dX4_sieve_37 : decode cX4_sieve 37 = .ok (.iload_n 1, 1) := by decide +kernel
theorem dX4_sieve_38 : decode cX4_sieve 38 = .ok (.iconst 3, 1) := by decide +kernel
theorem dX4_sieve_39 : decode cX4_sieve 39 = .ok (.iconst 5, 1) := by decide +kernel
theorem dX4_sieve_40 : decode cX4_sieve 40 = .ok (.invokestatic 84, 3) := by decide +kernel
theorem dX4_sieve_43 : decode cX4_sieve 43 = .ok (.ifCond .ne 9, 3) := by decide +kernel
theorem dX4_sieve_46 : decode cX4_sieve 46 = .ok (.iload_n 1, 1) := by decide +kernel
theorem dX4_sieve_47 : decode cX4_sieve 47 = .ok (.bipush 8, 2) := by decide +kernel
theorem dX4_sieve_49 : decode cX4_sieve 49 = .ok (.if_icmp .ne 12, 3) := by decide +kernel
theorem dX4_sieve_52 : decode cX4_sieve 52 = .ok (.aload_n 0, 1) := by decide +kernel
theorem dX4_sieve_53 : decode cX4_sieve 53 = .ok (.iconst 1, 1) := by decide +kernel
theorem dX4_sieve_54 : decode cX4_sieve 54 = .ok (.iload_n 2, 1) := by decide +kernel
theorem dX4_sieve_55 : decode cX4_sieve 55 = .ok (.invokevirtual 153, 3) := by decide +kernel
theorem dX4_sieve_58 : decode cX4_sieve 58 = .ok (.ifCond .eq 25, 3) := by decide +kernel
theorem dX4_sieve_61 : decode cX4_sieve 61 = .ok (.iload_n 1, 1) := by decide +kernel
theorem dX4_sieve_62 : decode cX4_sieve 62 = .ok (.iconst 4, 1) := by decide +kernel
theorem dX4_sieve_63 : decode cX4_sieve 63 = .ok (.iconst 5, 1) := by decide +kernel
theorem dX4_sieve_64 : decode cX4_sieve 64 = .ok (.invokestatic 84, 3) := by decide +kernel
theorem dX4_sieve_67 : decode cX4_sieve 67 = .ok (.ifCond .eq 12, 3) := by decide +kernel
theorem dX4_sieve_70 : decode cX4_sieve 70 = .ok (.aload_n 0, 1) := by decide +kernel
theorem dX4_sieve_71 : decode cX4_sieve 71 = .ok (.iconst 1, 1) := by decide +kernel
theorem dX4_sieve_72 : decode cX4_sieve 72 = .ok (.iload_n 3, 1) := by decide +kernel
theorem dX4_sieve_73 : decode cX4_sieve 73 = .ok (.invokevirtual 153, 3) := by decide +kernel
theorem dX4_sieve_76 : decode cX4_sieve 76 = .ok (.ifCond .eq 7, 3) := by decide +kernel
theorem dX4_sieve_79 : decode cX4_sieve 79 = .ok (.iconst 1, 1) := by decide +kernel
theorem dX4_sieve_80 : decode cX4_sieve 80 = .ok (.goto 4, 3) := by decide +kernel
theorem dX4_sieve_83 : decode cX4_sieve 83 = .ok (.iconst 0, 1) := by decide +kernel
theorem dX4_sieve_84 : decode cX4_sieve 84 = .ok (.istore 4, 2) := by decide +kernel
theorem dX4_sieve_86 : decode cX4_sieve 86 = .ok (.iload 4, 2) := by decide +kernel
theorem dX4_sieve_88 : decode cX4_sieve 88 = .ok (.ifCond .ne 7, 3) := by decide +kernel
theorem dX4_sieve_91 : decode cX4_sieve 91 = .ok (.iconst (-1), 1) := by decide +kernel
theorem dX4_sieve_92 : decode cX4_sieve 92 = .ok (.goto 28, 3) := by decide +kernel
theorem dX4_sieve_95 : decode cX4_sieve 95 = .ok (.aload_n 0, 1) := by decide +kernel
theorem dX4_sieve_96 : decode cX4_sieve 96 = .ok (.getfield 20, 3) := by decide +kernel
theorem dX4_sieve_99 : decode cX4_sieve 99 = .ok (.iconst 1, 1) := by decide +kernel
theorem dX4_sieve_100 : decode cX4_sieve 100 = .ok (.iaload, 1) := by decide +kernel
theorem dX4_sieve_101 : decode cX4_sieve 101 = .ok (.bipush 24, 2) := by decide +kernel
theorem dX4_sieve_103 : decode cX4_sieve 103 = .ok (.if_icmp .ne 8, 3) := by decide +kernel
theorem dX4_sieve_106 : decode cX4_sieve 106 = .ok (.bipush (-2), 2) := by decide +kernel
theorem dX4_sieve_108 : decode cX4_sieve 108 = .ok (.goto 12, 3) := by decide +kernel
theorem dX4_sieve_111 : decode cX4_sieve 111 = .ok (.aload_n 0, 1) := by decide +kernel
theorem dX4_sieve_112 : decode cX4_sieve 112 = .ok (.iconst 1, 1) := by decide +kernel
theorem dX4_sieve_113 : decode cX4_sieve 113 = .ok (.iload_n 1, 1) := by decide +kernel
theorem dX4_sieve_114 : decode cX4_sieve 114 = .ok (.iload_n 2, 1) := by decide +kernel
theorem dX4_sieve_115 : decode cX4_sieve 115 = .ok (.iload_n 3, 1) := by decide +kernel
theorem dX4_sieve_116 : decode cX4_sieve 116 = .ok (.lconst 0, 1) := by decide +kernel
theorem dX4_sieve_117 : decode cX4_sieve 117 = .ok (.invokevirtual 157, 3) := by decide +kernel
theorem dX4_sieve_120 : decode cX4_sieve 120 = .ok (.ireturn, 1) := by decide +kernel
theorem dX4_order_0 : decode cX4_order 0 = .ok (.iload_n 1, 1) := by decide +kernel
theorem dX4_order_1 : decode cX4_order 1 = .ok (.iconst 0, 1) := by decide +kernel
theorem dX4_order_2 : decode cX4_order 2 = .ok (.iconst 5, 1) := by decide +kernel
theorem dX4_order_3 : decode cX4_order 3 = .ok (.invokestatic 84, 3) := by decide +kernel
theorem dX4_order_6 : decode cX4_order 6 = .ok (.ifCond .eq 66, 3) := by decide +kernel
theorem dX4_order_9 : decode cX4_order 9 = .ok (.iload_n 1, 1) := by decide +kernel
theorem dX4_order_10 : decode cX4_order 10 = .ok (.ifCond .ne 12, 3) := by decide +kernel
theorem dX4_order_13 : decode cX4_order 13 = .ok (.aload_n 0, 1) := by decide +kernel
theorem dX4_order_14 : decode cX4_order 14 = .ok (.iconst 0, 1) := by decide +kernel
theorem dX4_order_15 : decode cX4_order 15 = .ok (.iload_n 2, 1) := by decide +kernel
theorem dX4_order_16 : decode cX4_order 16 = .ok (.invokevirtual 153, 3) := by decide +kernel
theorem dX4_order_19 : decode cX4_order 19 = .ok (.ifCond .eq 53, 3) := by decide +kernel
theorem dX4_order_22 : decode cX4_order 22 = .ok (.iload_n 1, 1) := by decide +kernel
theorem dX4_order_23 : decode cX4_order 23 = .ok (.iconst 1, 1) := by decide +kernel
theorem dX4_order_24 : decode cX4_order 24 = .ok (.iconst 2, 1) := by decide +kernel
theorem dX4_order_25 : decode cX4_order 25 = .ok (.invokestatic 84, 3) := by decide +kernel
theorem dX4_order_28 : decode cX4_order 28 = .ok (.ifCond .eq 12, 3) := by decide +kernel
theorem dX4_order_31 : decode cX4_order 31 = .ok (.aload_n 0, 1) := by decide +kernel
theorem dX4_order_32 : decode cX4_order 32 = .ok (.iconst 2, 1) := by decide +kernel
theorem dX4_order_33 : decode cX4_order 33 = .ok (.iload_n 2, 1) := by decide +kernel
theorem dX4_order_34 : decode cX4_order 34 = .ok (.invokevirtual 153, 3) := by decide +kernel
theorem dX4_order_37 : decode cX4_order 37 = .ok (.ifCond .eq 35, 3) := by decide +kernel
theorem dX4_order_40 : decode cX4_order 40 = .ok (.iload_n 1, 1) := by decide +kernel
theorem dX4_order_41 : decode cX4_order 41 = .ok (.iconst 2, 1) := by decide +kernel
theorem dX4_order_42 : decode cX4_order 42 = .ok (.if_icmp .ne 12, 3) := by decide +kernel
theorem dX4_order_45 : decode cX4_order 45 = .ok (.aload_n 0, 1) := by decide +kernel
theorem dX4_order_46 : decode cX4_order 46 = .ok (.iconst 2, 1) := by decide +kernel
theorem dX4_order_47 : decode cX4_order 47 = .ok (.iload_n 3, 1) := by decide +kernel
theorem dX4_order_48 : decode cX4_order 48 = .ok (.invokevirtual 153, 3) := by decide +kernel
theorem dX4_order_51 : decode cX4_order 51 = .ok (.ifCond .eq 21, 3) := by decide +kernel
theorem dX4_order_54 : decode cX4_order 54 = .ok (.iload_n 1, 1) := by decide +kernel
theorem dX4_order_55 : decode cX4_order 55 = .ok (.iconst 3, 1) := by decide +kernel
theorem dX4_order_56 : decode cX4_order 56 = .ok (.if_icmp .ne 12, 3) := by decide +kernel
theorem dX4_order_59 : decode cX4_order 59 = .ok (.aload_n 0, 1) := by decide +kernel
theorem dX4_order_60 : decode cX4_order 60 = .ok (.iconst 1, 1) := by decide +kernel
theorem dX4_order_61 : decode cX4_order 61 = .ok (.iload_n 2, 1) := by decide +kernel
theorem dX4_order_62 : decode cX4_order 62 = .ok (.invokevirtual 153, 3) := by decide +kernel
theorem dX4_order_65 : decode cX4_order 65 = .ok (.ifCond .eq 7, 3) := by decide +kernel
theorem dX4_order_68 : decode cX4_order 68 = .ok (.iconst 1, 1) := by decide +kernel
theorem dX4_order_69 : decode cX4_order 69 = .ok (.goto 4, 3) := by decide +kernel
theorem dX4_order_72 : decode cX4_order 72 = .ok (.iconst 0, 1) := by decide +kernel
theorem dX4_order_73 : decode cX4_order 73 = .ok (.istore 4, 2) := by decide +kernel
theorem dX4_order_75 : decode cX4_order 75 = .ok (.iload 4, 2) := by decide +kernel
theorem dX4_order_77 : decode cX4_order 77 = .ok (.ifCond .ne 7, 3) := by decide +kernel
theorem dX4_order_80 : decode cX4_order 80 = .ok (.iconst (-1), 1) := by decide +kernel
theorem dX4_order_81 : decode cX4_order 81 = .ok (.goto 28, 3) := by decide +kernel
theorem dX4_order_84 : decode cX4_order 84 = .ok (.aload_n 0, 1) := by decide +kernel
theorem dX4_order_85 : decode cX4_order 85 = .ok (.getfield 20, 3) := by decide +kernel
theorem dX4_order_88 : decode cX4_order 88 = .ok (.iconst 2, 1) := by decide +kernel
theorem dX4_order_89 : decode cX4_order 89 = .ok (.iaload, 1) := by decide +kernel
theorem dX4_order_90 : decode cX4_order 90 = .ok (.bipush 24, 2) := by decide +kernel
theorem dX4_order_92 : decode cX4_order 92 = .ok (.if_icmp .ne 8, 3) := by decide +kernel
theorem dX4_order_95 : decode cX4_order 95 = .ok (.bipush (-2), 2) := by decide +kernel
theorem dX4_order_97 : decode cX4_order 97 = .ok (.goto 12, 3) := by decide +kernel
theorem dX4_order_100 : decode cX4_order 100 = .ok (.aload_n 0, 1) := by decide +kernel
theorem dX4_order_101 : decode cX4_order 101 = .ok (.iconst 2, 1) := by decide +kernel
theorem dX4_order_102 : decode cX4_order 102 = .ok (.iload_n 1, 1) := by decide +kernel
theorem dX4_order_103 : decode cX4_order 103 = .ok (.iload_n 2, 1) := by decide +kernel
theorem dX4_order_104 : decode cX4_order 104 = .ok (.iload_n 3, 1) := by decide +kernel
theorem dX4_order_105 : decode cX4_order 105 = .ok (.lconst 0, 1) := by decide +kernel
theorem dX4_order_106 : decode cX4_order 106 = .ok (.invokevirtual 157, 3) := by decide +kernel
theorem dX4_order_109 : decode cX4_order 109 = .ok (.ireturn, 1) := by decide +kernel
theorem dX4_all_0 : decode cX4_all 0 = .ok (.iconst 0, 1) := by decide +kernel
theorem dX4_all_1 : decode cX4_all 1 = .ok (.istore_n 1, 1) := by decide +kernel
theorem dX4_all_2 : decode cX4_all 2 = .ok (.iload_n 1, 1) := by decide +kernel
theorem dX4_all_3 : decode cX4_all 3 = .ok (.aload_n 0, 1) := by decide +kernel
theorem dX4_all_4 : decode cX4_all 4 = .ok (.getfield 80, 3) := by decide +kernel
theorem dX4_all_7 : decode cX4_all 7 = .ok (.if_icmp .ge 16, 3) := by decide +kernel
theorem dX4_all_10 : decode cX4_all 10 = .ok (.aload_n 0, 1) := by decide +kernel
theorem dX4_all_11 : decode cX4_all 11 = .ok (.getfield 16, 3) := by decide +kernel
theorem dX4_all_14 : decode cX4_all 14 = .ok (.iload_n 1, 1) := by decide +kernel
theorem dX4_all_15 : decode cX4_all 15 = .ok (.iload_n 1, 1) := by decide +kernel
theorem dX4_all_16 : decode cX4_all 16 = .ok (.iastore, 1) := by decide +kernel
theorem dX4_all_17 : decode cX4_all 17 = .ok (.iinc 1 1, 3) := by decide +kernel
theorem dX4_all_20 : decode cX4_all 20 = .ok (.goto (-18), 3) := by decide +kernel
theorem dX4_all_23 : decode cX4_all 23 = .ok (.aload_n 0, 1) := by decide +kernel
theorem dX4_all_24 : decode cX4_all 24 = .ok (.aload_n 0, 1) := by decide +kernel
theorem dX4_all_25 : decode cX4_all 25 = .ok (.getfield 80, 3) := by decide +kernel
theorem dX4_all_28 : decode cX4_all 28 = .ok (.putfield 88, 3) := by decide +kernel
theorem dX4_all_31 : decode cX4_all 31 = .ok (.aload_n 0, 1) := by decide +kernel
theorem dX4_all_32 : decode cX4_all 32 = .ok (.getfield 88, 3) := by decide +kernel
theorem dX4_all_35 : decode cX4_all 35 = .ok (.ireturn, 1) := by decide +kernel
theorem dX4_tell_0 : decode cX4_tell 0 = .ok (.aload_n 0, 1) := by decide +kernel
theorem dX4_tell_1 : decode cX4_tell 1 = .ok (.iconst 0, 1) := by decide +kernel
theorem dX4_tell_2 : decode cX4_tell 2 = .ok (.iload_n 1, 1) := by decide +kernel
theorem dX4_tell_3 : decode cX4_tell 3 = .ok (.invokevirtual 153, 3) := by decide +kernel
theorem dX4_tell_6 : decode cX4_tell 6 = .ok (.ifCond .eq 11, 3) := by decide +kernel
theorem dX4_tell_9 : decode cX4_tell 9 = .ok (.aload_n 0, 1) := by decide +kernel
theorem dX4_tell_10 : decode cX4_tell 10 = .ok (.iload_n 2, 1) := by decide +kernel
theorem dX4_tell_11 : decode cX4_tell 11 = .ok (.invokevirtual 91, 3) := by decide +kernel
theorem dX4_tell_14 : decode cX4_tell 14 = .ok (.ifCond .ne 5, 3) := by decide +kernel
theorem dX4_tell_17 : decode cX4_tell 17 = .ok (.iconst (-1), 1) := by decide +kernel
theorem dX4_tell_18 : decode cX4_tell 18 = .ok (.ireturn, 1) := by decide +kernel
theorem dX4_tell_19 : decode cX4_tell 19 = .ok (.aload_n 0, 1) := by decide +kernel
theorem dX4_tell_20 : decode cX4_tell 20 = .ok (.getfield 127, 3) := by decide +kernel
theorem dX4_tell_23 : decode cX4_tell 23 = .ok (.sipush 2000, 3) := by decide +kernel
theorem dX4_tell_26 : decode cX4_tell 26 = .ok (.if_icmp .lt 6, 3) := by decide +kernel
theorem dX4_tell_29 : decode cX4_tell 29 = .ok (.bipush (-2), 2) := by decide +kernel
theorem dX4_tell_31 : decode cX4_tell 31 = .ok (.ireturn, 1) := by decide +kernel
theorem dX4_tell_32 : decode cX4_tell 32 = .ok (.aload_n 0, 1) := by decide +kernel
theorem dX4_tell_33 : decode cX4_tell 33 = .ok (.invokevirtual 161, 3) := by decide +kernel
theorem dX4_tell_36 : decode cX4_tell 36 = .ok (.aload_n 0, 1) := by decide +kernel
theorem dX4_tell_37 : decode cX4_tell 37 = .ok (.iconst 0, 1) := by decide +kernel
theorem dX4_tell_38 : decode cX4_tell 38 = .ok (.iload_n 1, 1) := by decide +kernel
theorem dX4_tell_39 : decode cX4_tell 39 = .ok (.iload_n 2, 1) := by decide +kernel
theorem dX4_tell_40 : decode cX4_tell 40 = .ok (.iload_n 2, 1) := by decide +kernel
theorem dX4_tell_41 : decode cX4_tell 41 = .ok (.invokevirtual 164, 3) := by decide +kernel
theorem dX4_tell_44 : decode cX4_tell 44 = .ok (.ifCond .eq 11, 3) := by decide +kernel
theorem dX4_tell_47 : decode cX4_tell 47 = .ok (.aload_n 0, 1) := by decide +kernel
theorem dX4_tell_48 : decode cX4_tell 48 = .ok (.aload_n 0, 1) := by decide +kernel
theorem dX4_tell_49 : decode cX4_tell 49 = .ok (.getfield 107, 3) := by decide +kernel
theorem dX4_tell_52 : decode cX4_tell 52 = .ok (.putfield 172, 3) := by decide +kernel
theorem dX4_tell_55 : decode cX4_tell 55 = .ok (.aload_n 0, 1) := by decide +kernel
theorem dX4_tell_56 : decode cX4_tell 56 = .ok (.iconst 1, 1) := by decide +kernel
theorem dX4_tell_57 : decode cX4_tell 57 = .ok (.invokevirtual 168, 3) := by decide +kernel
theorem dX4_tell_60 : decode cX4_tell 60 = .ok (.ireturn, 1) := by decide +kernel
theorem dX4_sift_0 : decode cX4_sift 0 = .ok (.aload_n 0, 1) := by decide +kernel
theorem dX4_sift_1 : decode cX4_sift 1 = .ok (.iconst 1, 1) := by decide +kernel
theorem dX4_sift_2 : decode cX4_sift 2 = .ok (.iload_n 1, 1) := by decide +kernel
theorem dX4_sift_3 : decode cX4_sift 3 = .ok (.invokevirtual 153, 3) := by decide +kernel
theorem dX4_sift_6 : decode cX4_sift 6 = .ok (.ifCond .ne 5, 3) := by decide +kernel
theorem dX4_sift_9 : decode cX4_sift 9 = .ok (.iconst (-1), 1) := by decide +kernel
theorem dX4_sift_10 : decode cX4_sift 10 = .ok (.ireturn, 1) := by decide +kernel
theorem dX4_sift_11 : decode cX4_sift 11 = .ok (.aload_n 0, 1) := by decide +kernel
theorem dX4_sift_12 : decode cX4_sift 12 = .ok (.getfield 127, 3) := by decide +kernel
theorem dX4_sift_15 : decode cX4_sift 15 = .ok (.sipush 2000, 3) := by decide +kernel
theorem dX4_sift_18 : decode cX4_sift 18 = .ok (.if_icmp .lt 6, 3) := by decide +kernel
theorem dX4_sift_21 : decode cX4_sift 21 = .ok (.bipush (-2), 2) := by decide +kernel
theorem dX4_sift_23 : decode cX4_sift 23 = .ok (.ireturn, 1) := by decide +kernel
theorem dX4_sift_24 : decode cX4_sift 24 = .ok (.aload_n 0, 1) := by decide +kernel
theorem dX4_sift_25 : decode cX4_sift 25 = .ok (.invokevirtual 161, 3) := by decide +kernel
theorem dX4_sift_28 : decode cX4_sift 28 = .ok (.iconst 0, 1) := by decide +kernel
theorem dX4_sift_29 : decode cX4_sift 29 = .ok (.istore_n 2, 1) := by decide +kernel
theorem dX4_sift_30 : decode cX4_sift 30 = .ok (.iconst 1, 1) := by decide +kernel
theorem dX4_sift_31 : decode cX4_sift 31 = .ok (.istore_n 3, 1) := by decide +kernel
theorem dX4_sift_32 : decode cX4_sift 32 = .ok (.iconst 0, 1) := by decide +kernel
theorem dX4_sift_33 : decode cX4_sift 33 = .ok (.istore 4, 2) := by decide +kernel
theorem dX4_sift_35 : decode cX4_sift 35 = .ok (.iload 4, 2) := by decide +kernel
theorem dX4_sift_37 : decode cX4_sift 37 = .ok (.aload_n 0, 1) := by decide +kernel
theorem dX4_sift_38 : decode cX4_sift 38 = .ok (.getfield 88, 3) := by decide +kernel
theorem dX4_sift_41 : decode cX4_sift 41 = .ok (.if_icmp .ge 63, 3) := by decide +kernel
theorem dX4_sift_44 : decode cX4_sift 44 = .ok (.iload_n 3, 1) := by decide +kernel
theorem dX4_sift_45 : decode cX4_sift 45 = .ok (.ifCond .eq 59, 3) := by decide +kernel
theorem dX4_sift_48 : decode cX4_sift 48 = .ok (.aload_n 0, 1) := by decide +kernel
theorem dX4_sift_49 : decode cX4_sift 49 = .ok (.iconst 1, 1) := by decide +kernel
theorem dX4_sift_50 : decode cX4_sift 50 = .ok (.iload_n 1, 1) := by decide +kernel
theorem dX4_sift_51 : decode cX4_sift 51 = .ok (.aload_n 0, 1) := by decide +kernel
theorem dX4_sift_52 : decode cX4_sift 52 = .ok (.getfield 16, 3) := by decide +kernel
theorem dX4_sift_55 : decode cX4_sift 55 = .ok (.iload 4, 2) := by decide +kernel
theorem dX4_sift_57 : decode cX4_sift 57 = .ok (.iaload, 1) := by decide +kernel
theorem dX4_sift_58 : decode cX4_sift 58 = .ok (.aload_n 0, 1) := by decide +kernel
theorem dX4_sift_59 : decode cX4_sift 59 = .ok (.getfield 16, 3) := by decide +kernel
theorem dX4_sift_62 : decode cX4_sift 62 = .ok (.iload 4, 2) := by decide +kernel
theorem dX4_sift_64 : decode cX4_sift 64 = .ok (.iaload, 1) := by decide +kernel
theorem dX4_sift_65 : decode cX4_sift 65 = .ok (.invokevirtual 164, 3) := by decide +kernel
theorem dX4_sift_68 : decode cX4_sift 68 = .ok (.istore_n 3, 1) := by decide +kernel
theorem dX4_sift_69 : decode cX4_sift 69 = .ok (.iload_n 3, 1) := by decide +kernel
theorem dX4_sift_70 : decode cX4_sift 70 = .ok (.ifCond .eq 28, 3) := by decide +kernel
theorem dX4_sift_73 : decode cX4_sift 73 = .ok (.aload_n 0, 1) := by decide +kernel
theorem dX4_sift_74 : decode cX4_sift 74 = .ok (.getfield 107, 3) := by decide +kernel
theorem dX4_sift_77 : decode cX4_sift 77 = .ok (.lconst 1, 1) := by decide +kernel
theorem dX4_sift_78 : decode cX4_sift 78 = .ok (.lcmp, 1) := by decide +kernel
theorem dX4_sift_79 : decode cX4_sift 79 = .ok (.ifCond .ne 19, 3) := by decide +kernel
theorem dX4_sift_82 : decode cX4_sift 82 = .ok (.aload_n 0, 1) := by decide +kernel
theorem dX4_sift_83 : decode cX4_sift 83 = .ok (.getfield 65, 3) := by decide +kernel
theorem dX4_sift_86 : decode cX4_sift 86 = .ok (.iload_n 2, 1) := by decide +kernel
theorem dX4_sift_87 : decode cX4_sift 87 = .ok (.aload_n 0, 1) := by decide +kernel
theorem dX4_sift_88 : decode cX4_sift 88 = .ok (.getfield 16, 3) := by decide +kernel
theorem dX4_sift_91 : decode cX4_sift 91 = .ok (.iload 4, 2) := by decide +kernel
theorem dX4_sift_93 : decode cX4_sift 93 = .ok (.iaload, 1) := by decide +kernel
theorem dX4_sift_94 : decode cX4_sift 94 = .ok (.iastore, 1) := by decide +kernel
theorem dX4_sift_95 : decode cX4_sift 95 = .ok (.iinc 2 1, 3) := by decide +kernel
theorem dX4_sift_98 : decode cX4_sift 98 = .ok (.iinc 4 1, 3) := by decide +kernel
theorem dX4_sift_101 : decode cX4_sift 101 = .ok (.goto (-66), 3) := by decide +kernel
theorem dX4_sift_104 : decode cX4_sift 104 = .ok (.iload_n 3, 1) := by decide +kernel
theorem dX4_sift_105 : decode cX4_sift 105 = .ok (.ifCond .eq 37, 3) := by decide +kernel
theorem dX4_sift_108 : decode cX4_sift 108 = .ok (.aload_n 0, 1) := by decide +kernel
theorem dX4_sift_109 : decode cX4_sift 109 = .ok (.iload_n 2, 1) := by decide +kernel
theorem dX4_sift_110 : decode cX4_sift 110 = .ok (.putfield 88, 3) := by decide +kernel
theorem dX4_sift_113 : decode cX4_sift 113 = .ok (.iconst 0, 1) := by decide +kernel
theorem dX4_sift_114 : decode cX4_sift 114 = .ok (.istore 4, 2) := by decide +kernel
theorem dX4_sift_116 : decode cX4_sift 116 = .ok (.iload 4, 2) := by decide +kernel
theorem dX4_sift_118 : decode cX4_sift 118 = .ok (.iload_n 2, 1) := by decide +kernel
theorem dX4_sift_119 : decode cX4_sift 119 = .ok (.if_icmp .ge 23, 3) := by decide +kernel
theorem dX4_sift_122 : decode cX4_sift 122 = .ok (.aload_n 0, 1) := by decide +kernel
theorem dX4_sift_123 : decode cX4_sift 123 = .ok (.getfield 16, 3) := by decide +kernel
theorem dX4_sift_126 : decode cX4_sift 126 = .ok (.iload 4, 2) := by decide +kernel
theorem dX4_sift_128 : decode cX4_sift 128 = .ok (.aload_n 0, 1) := by decide +kernel
theorem dX4_sift_129 : decode cX4_sift 129 = .ok (.getfield 65, 3) := by decide +kernel
theorem dX4_sift_132 : decode cX4_sift 132 = .ok (.iload 4, 2) := by decide +kernel
theorem dX4_sift_134 : decode cX4_sift 134 = .ok (.iaload, 1) := by decide +kernel
theorem dX4_sift_135 : decode cX4_sift 135 = .ok (.iastore, 1) := by decide +kernel
theorem dX4_sift_136 : decode cX4_sift 136 = .ok (.iinc 4 1, 3) := by decide +kernel
theorem dX4_sift_139 : decode cX4_sift 139 = .ok (.goto (-23), 3) := by decide +kernel
theorem dX4_sift_142 : decode cX4_sift 142 = .ok (.aload_n 0, 1) := by decide +kernel
theorem dX4_sift_143 : decode cX4_sift 143 = .ok (.iload_n 2, 1) := by decide +kernel
theorem dX4_sift_144 : decode cX4_sift 144 = .ok (.invokevirtual 168, 3) := by decide +kernel
theorem dX4_sift_147 : decode cX4_sift 147 = .ok (.ireturn, 1) := by decide +kernel
theorem dX4_sort_0 : decode cX4_sort 0 = .ok (.aload_n 0, 1) := by decide +kernel
theorem dX4_sort_1 : decode cX4_sort 1 = .ok (.iconst 2, 1) := by decide +kernel
theorem dX4_sort_2 : decode cX4_sort 2 = .ok (.iload_n 1, 1) := by decide +kernel
theorem dX4_sort_3 : decode cX4_sort 3 = .ok (.invokevirtual 153, 3) := by decide +kernel
theorem dX4_sort_6 : decode cX4_sort 6 = .ok (.ifCond .ne 5, 3) := by decide +kernel
theorem dX4_sort_9 : decode cX4_sort 9 = .ok (.iconst (-1), 1) := by decide +kernel
theorem dX4_sort_10 : decode cX4_sort 10 = .ok (.ireturn, 1) := by decide +kernel
theorem dX4_sort_11 : decode cX4_sort 11 = .ok (.aload_n 0, 1) := by decide +kernel
theorem dX4_sort_12 : decode cX4_sort 12 = .ok (.getfield 127, 3) := by decide +kernel
theorem dX4_sort_15 : decode cX4_sort 15 = .ok (.sipush 2000, 3) := by decide +kernel
theorem dX4_sort_18 : decode cX4_sort 18 = .ok (.if_icmp .lt 6, 3) := by decide +kernel
theorem dX4_sort_21 : decode cX4_sort 21 = .ok (.bipush (-2), 2) := by decide +kernel
theorem dX4_sort_23 : decode cX4_sort 23 = .ok (.ireturn, 1) := by decide +kernel
theorem dX4_sort_24 : decode cX4_sort 24 = .ok (.aload_n 0, 1) := by decide +kernel
theorem dX4_sort_25 : decode cX4_sort 25 = .ok (.invokevirtual 161, 3) := by decide +kernel
theorem dX4_sort_28 : decode cX4_sort 28 = .ok (.iconst 0, 1) := by decide +kernel
theorem dX4_sort_29 : decode cX4_sort 29 = .ok (.istore_n 2, 1) := by decide +kernel
theorem dX4_sort_30 : decode cX4_sort 30 = .ok (.iload_n 2, 1) := by decide +kernel
theorem dX4_sort_31 : decode cX4_sort 31 = .ok (.aload_n 0, 1) := by decide +kernel
theorem dX4_sort_32 : decode cX4_sort 32 = .ok (.getfield 88, 3) := by decide +kernel
theorem dX4_sort_35 : decode cX4_sort 35 = .ok (.if_icmp .ge 21, 3) := by decide +kernel
theorem dX4_sort_38 : decode cX4_sort 38 = .ok (.aload_n 0, 1) := by decide +kernel
theorem dX4_sort_39 : decode cX4_sort 39 = .ok (.getfield 65, 3) := by decide +kernel
theorem dX4_sort_42 : decode cX4_sort 42 = .ok (.iload_n 2, 1) := by decide +kernel
theorem dX4_sort_43 : decode cX4_sort 43 = .ok (.aload_n 0, 1) := by decide +kernel
theorem dX4_sort_44 : decode cX4_sort 44 = .ok (.getfield 16, 3) := by decide +kernel
theorem dX4_sort_47 : decode cX4_sort 47 = .ok (.iload_n 2, 1) := by decide +kernel
theorem dX4_sort_48 : decode cX4_sort 48 = .ok (.iaload, 1) := by decide +kernel
theorem dX4_sort_49 : decode cX4_sort 49 = .ok (.iastore, 1) := by decide +kernel
theorem dX4_sort_50 : decode cX4_sort 50 = .ok (.iinc 2 1, 3) := by decide +kernel
theorem dX4_sort_53 : decode cX4_sort 53 = .ok (.goto (-23), 3) := by decide +kernel
theorem dX4_sort_56 : decode cX4_sort 56 = .ok (.iconst 0, 1) := by decide +kernel
theorem dX4_sort_57 : decode cX4_sort 57 = .ok (.istore_n 2, 1) := by decide +kernel
theorem dX4_sort_58 : decode cX4_sort 58 = .ok (.iconst 1, 1) := by decide +kernel
theorem dX4_sort_59 : decode cX4_sort 59 = .ok (.istore_n 3, 1) := by decide +kernel
theorem dX4_sort_60 : decode cX4_sort 60 = .ok (.iconst 1, 1) := by decide +kernel
theorem dX4_sort_61 : decode cX4_sort 61 = .ok (.istore 4, 2) := by decide +kernel
theorem dX4_sort_63 : decode cX4_sort 63 = .ok (.iload 4, 2) := by decide +kernel
theorem dX4_sort_65 : decode cX4_sort 65 = .ok (.aload_n 0, 1) := by decide +kernel
theorem dX4_sort_66 : decode cX4_sort 66 = .ok (.getfield 88, 3) := by decide +kernel
theorem dX4_sort_69 : decode cX4_sort 69 = .ok (.if_icmp .ge 123, 3) := by decide +kernel
theorem dX4_sort_72 : decode cX4_sort 72 = .ok (.iload_n 3, 1) := by decide +kernel
theorem dX4_sort_73 : decode cX4_sort 73 = .ok (.ifCond .eq 119, 3) := by decide +kernel
theorem dX4_sort_76 : decode cX4_sort 76 = .ok (.iload 4, 2) := by decide +kernel
theorem dX4_sort_78 : decode cX4_sort 78 = .ok (.istore 5, 2) := by decide +kernel
theorem dX4_sort_80 : decode cX4_sort 80 = .ok (.iconst 1, 1) := by decide +kernel
theorem dX4_sort_81 : decode cX4_sort 81 = .ok (.istore 6, 2) := by decide +kernel
theorem dX4_sort_83 : decode cX4_sort 83 = .ok (.iload 5, 2) := by decide +kernel
theorem dX4_sort_85 : decode cX4_sort 85 = .ok (.ifCond .le 101, 3) := by decide +kernel
theorem dX4_sort_88 : decode cX4_sort 88 = .ok (.iload 6, 2) := by decide +kernel
theorem dX4_sort_90 : decode cX4_sort 90 = .ok (.ifCond .eq 96, 3) := by decide +kernel
theorem dX4_sort_93 : decode cX4_sort 93 = .ok (.aload_n 0, 1) := by decide +kernel
theorem dX4_sort_94 : decode cX4_sort 94 = .ok (.iconst 2, 1) := by decide +kernel
theorem dX4_sort_95 : decode cX4_sort 95 = .ok (.iload_n 1, 1) := by decide +kernel
theorem dX4_sort_96 : decode cX4_sort 96 = .ok (.aload_n 0, 1) := by decide +kernel
theorem dX4_sort_97 : decode cX4_sort 97 = .ok (.getfield 65, 3) := by decide +kernel
theorem dX4_sort_100 : decode cX4_sort 100 = .ok (.iload 5, 2) := by decide +kernel
theorem dX4_sort_102 : decode cX4_sort 102 = .ok (.iconst 1, 1) := by decide +kernel
theorem dX4_sort_103 : decode cX4_sort 103 = .ok (.isub, 1) := by decide +kernel
theorem dX4_sort_104 : decode cX4_sort 104 = .ok (.iaload, 1) := by decide +kernel
theorem dX4_sort_105 : decode cX4_sort 105 = .ok (.aload_n 0, 1) := by decide +kernel
theorem dX4_sort_106 : decode cX4_sort 106 = .ok (.getfield 65, 3) := by decide +kernel
theorem dX4_sort_109 : decode cX4_sort 109 = .ok (.iload 5, 2) := by decide +kernel
theorem dX4_sort_111 : decode cX4_sort 111 = .ok (.iaload, 1) := by decide +kernel
theorem dX4_sort_112 : decode cX4_sort 112 = .ok (.invokevirtual 164, 3) := by decide +kernel
theorem dX4_sort_115 : decode cX4_sort 115 = .ok (.istore_n 3, 1) := by decide +kernel
theorem dX4_sort_116 : decode cX4_sort 116 = .ok (.iload_n 3, 1) := by decide +kernel
theorem dX4_sort_117 : decode cX4_sort 117 = .ok (.ifCond .eq 16, 3) := by decide +kernel
theorem dX4_sort_120 : decode cX4_sort 120 = .ok (.aload_n 0, 1) := by decide +kernel
theorem dX4_sort_121 : decode cX4_sort 121 = .ok (.getfield 107, 3) := by decide +kernel
theorem dX4_sort_124 : decode cX4_sort 124 = .ok (.lconst 1, 1) := by decide +kernel
theorem dX4_sort_125 : decode cX4_sort 125 = .ok (.lcmp, 1) := by decide +kernel
theorem dX4_sort_126 : decode cX4_sort 126 = .ok (.ifCond .ne 7, 3) := by decide +kernel
theorem dX4_sort_129 : decode cX4_sort 129 = .ok (.iconst 1, 1) := by decide +kernel
theorem dX4_sort_130 : decode cX4_sort 130 = .ok (.goto 4, 3) := by decide +kernel
theorem dX4_sort_133 : decode cX4_sort 133 = .ok (.iconst 0, 1) := by decide +kernel
theorem dX4_sort_134 : decode cX4_sort 134 = .ok (.istore 6, 2) := by decide +kernel
theorem dX4_sort_136 : decode cX4_sort 136 = .ok (.iload 6, 2) := by decide +kernel
theorem dX4_sort_138 : decode cX4_sort 138 = .ok (.ifCond .eq (-55), 3) := by decide +kernel
theorem dX4_sort_141 : decode cX4_sort 141 = .ok (.aload_n 0, 1) := by decide +kernel
theorem dX4_sort_142 : decode cX4_sort 142 = .ok (.getfield 65, 3) := by decide +kernel
theorem dX4_sort_145 : decode cX4_sort 145 = .ok (.iload 5, 2) := by decide +kernel
theorem dX4_sort_147 : decode cX4_sort 147 = .ok (.iaload, 1) := by decide +kernel
theorem dX4_sort_148 : decode cX4_sort 148 = .ok (.istore 7, 2) := by decide +kernel
theorem dX4_sort_150 : decode cX4_sort 150 = .ok (.aload_n 0, 1) := by decide +kernel
theorem dX4_sort_151 : decode cX4_sort 151 = .ok (.getfield 65, 3) := by decide +kernel
theorem dX4_sort_154 : decode cX4_sort 154 = .ok (.iload 5, 2) := by decide +kernel
theorem dX4_sort_156 : decode cX4_sort 156 = .ok (.aload_n 0, 1) := by decide +kernel
theorem dX4_sort_157 : decode cX4_sort 157 = .ok (.getfield 65, 3) := by decide +kernel
theorem dX4_sort_160 : decode cX4_sort 160 = .ok (.iload 5, 2) := by decide +kernel
theorem dX4_sort_162 : decode cX4_sort 162 = .ok (.iconst 1, 1) := by decide +kernel
theorem dX4_sort_163 : decode cX4_sort 163 = .ok (.isub, 1) := by decide +kernel
theorem dX4_sort_164 : decode cX4_sort 164 = .ok (.iaload, 1) := by decide +kernel
theorem dX4_sort_165 : decode cX4_sort 165 = .ok (.iastore, 1) := by decide +kernel
theorem dX4_sort_166 : decode cX4_sort 166 = .ok (.aload_n 0, 1) := by decide +kernel
theorem dX4_sort_167 : decode cX4_sort 167 = .ok (.getfield 65, 3) := by decide +kernel
theorem dX4_sort_170 : decode cX4_sort 170 = .ok (.iload 5, 2) := by decide +kernel
theorem dX4_sort_172 : decode cX4_sort 172 = .ok (.iconst 1, 1) := by decide +kernel
theorem dX4_sort_173 : decode cX4_sort 173 = .ok (.isub, 1) := by decide +kernel
theorem dX4_sort_174 : decode cX4_sort 174 = .ok (.iload 7, 2) := by decide +kernel
theorem dX4_sort_176 : decode cX4_sort 176 = .ok (.iastore, 1) := by decide +kernel
theorem dX4_sort_177 : decode cX4_sort 177 = .ok (.iinc 5 (-1), 3) := by decide +kernel
theorem dX4_sort_180 : decode cX4_sort 180 = .ok (.iinc 2 1, 3) := by decide +kernel
theorem dX4_sort_183 : decode cX4_sort 183 = .ok (.goto (-100), 3) := by decide +kernel
theorem dX4_sort_186 : decode cX4_sort 186 = .ok (.iinc 4 1, 3) := by decide +kernel
theorem dX4_sort_189 : decode cX4_sort 189 = .ok (.goto (-126), 3) := by decide +kernel
theorem dX4_sort_192 : decode cX4_sort 192 = .ok (.iconst 0, 1) := by decide +kernel
theorem dX4_sort_193 : decode cX4_sort 193 = .ok (.istore 4, 2) := by decide +kernel
theorem dX4_sort_195 : decode cX4_sort 195 = .ok (.iload 4, 2) := by decide +kernel
theorem dX4_sort_197 : decode cX4_sort 197 = .ok (.aload_n 0, 1) := by decide +kernel
theorem dX4_sort_198 : decode cX4_sort 198 = .ok (.getfield 88, 3) := by decide +kernel
theorem dX4_sort_201 : decode cX4_sort 201 = .ok (.if_icmp .ge 27, 3) := by decide +kernel
theorem dX4_sort_204 : decode cX4_sort 204 = .ok (.iload_n 3, 1) := by decide +kernel
theorem dX4_sort_205 : decode cX4_sort 205 = .ok (.ifCond .eq 23, 3) := by decide +kernel
theorem dX4_sort_208 : decode cX4_sort 208 = .ok (.aload_n 0, 1) := by decide +kernel
theorem dX4_sort_209 : decode cX4_sort 209 = .ok (.getfield 16, 3) := by decide +kernel
theorem dX4_sort_212 : decode cX4_sort 212 = .ok (.iload 4, 2) := by decide +kernel
theorem dX4_sort_214 : decode cX4_sort 214 = .ok (.aload_n 0, 1) := by decide +kernel
theorem dX4_sort_215 : decode cX4_sort 215 = .ok (.getfield 65, 3) := by decide +kernel
theorem dX4_sort_218 : decode cX4_sort 218 = .ok (.iload 4, 2) := by decide +kernel
theorem dX4_sort_220 : decode cX4_sort 220 = .ok (.iaload, 1) := by decide +kernel
theorem dX4_sort_221 : decode cX4_sort 221 = .ok (.iastore, 1) := by decide +kernel
theorem dX4_sort_222 : decode cX4_sort 222 = .ok (.iinc 4 1, 3) := by decide +kernel
theorem dX4_sort_225 : decode cX4_sort 225 = .ok (.goto (-30), 3) := by decide +kernel
theorem dX4_sort_228 : decode cX4_sort 228 = .ok (.aload_n 0, 1) := by decide +kernel
theorem dX4_sort_229 : decode cX4_sort 229 = .ok (.iload_n 2, 1) := by decide +kernel
theorem dX4_sort_230 : decode cX4_sort 230 = .ok (.invokevirtual 168, 3) := by decide +kernel
theorem dX4_sort_233 : decode cX4_sort 233 = .ok (.ireturn, 1) := by decide +kernel
theorem dX4_sum_0 : decode cX4_sum 0 = .ok (.aload_n 0, 1) := by decide +kernel
theorem dX4_sum_1 : decode cX4_sum 1 = .ok (.iconst 0, 1) := by decide +kernel
theorem dX4_sum_2 : decode cX4_sum 2 = .ok (.iload_n 1, 1) := by decide +kernel
theorem dX4_sum_3 : decode cX4_sum 3 = .ok (.invokevirtual 153, 3) := by decide +kernel
theorem dX4_sum_6 : decode cX4_sum 6 = .ok (.ifCond .ne 5, 3) := by decide +kernel
theorem dX4_sum_9 : decode cX4_sum 9 = .ok (.iconst (-1), 1) := by decide +kernel
theorem dX4_sum_10 : decode cX4_sum 10 = .ok (.ireturn, 1) := by decide +kernel
theorem dX4_sum_11 : decode cX4_sum 11 = .ok (.aload_n 0, 1) := by decide +kernel
theorem dX4_sum_12 : decode cX4_sum 12 = .ok (.getfield 127, 3) := by decide +kernel
theorem dX4_sum_15 : decode cX4_sum 15 = .ok (.sipush 2000, 3) := by decide +kernel
theorem dX4_sum_18 : decode cX4_sum 18 = .ok (.if_icmp .lt 6, 3) := by decide +kernel
theorem dX4_sum_21 : decode cX4_sum 21 = .ok (.bipush (-2), 2) := by decide +kernel
theorem dX4_sum_23 : decode cX4_sum 23 = .ok (.ireturn, 1) := by decide +kernel
theorem dX4_sum_24 : decode cX4_sum 24 = .ok (.aload_n 0, 1) := by decide +kernel
theorem dX4_sum_25 : decode cX4_sum 25 = .ok (.invokevirtual 161, 3) := by decide +kernel
theorem dX4_sum_28 : decode cX4_sum 28 = .ok (.lconst 0, 1) := by decide +kernel
theorem dX4_sum_29 : decode cX4_sum 29 = .ok (.lstore_n 2, 1) := by decide +kernel
theorem dX4_sum_30 : decode cX4_sum 30 = .ok (.iconst 1, 1) := by decide +kernel
theorem dX4_sum_31 : decode cX4_sum 31 = .ok (.istore 4, 2) := by decide +kernel
theorem dX4_sum_33 : decode cX4_sum 33 = .ok (.iconst 0, 1) := by decide +kernel
theorem dX4_sum_34 : decode cX4_sum 34 = .ok (.istore 5, 2) := by decide +kernel
theorem dX4_sum_36 : decode cX4_sum 36 = .ok (.iload 5, 2) := by decide +kernel
theorem dX4_sum_38 : decode cX4_sum 38 = .ok (.aload_n 0, 1) := by decide +kernel
theorem dX4_sum_39 : decode cX4_sum 39 = .ok (.getfield 88, 3) := by decide +kernel
theorem dX4_sum_42 : decode cX4_sum 42 = .ok (.if_icmp .ge 52, 3) := by decide +kernel
theorem dX4_sum_45 : decode cX4_sum 45 = .ok (.iload 4, 2) := by decide +kernel
theorem dX4_sum_47 : decode cX4_sum 47 = .ok (.ifCond .eq 47, 3) := by decide +kernel
theorem dX4_sum_50 : decode cX4_sum 50 = .ok (.aload_n 0, 1) := by decide +kernel
theorem dX4_sum_51 : decode cX4_sum 51 = .ok (.iconst 0, 1) := by decide +kernel
theorem dX4_sum_52 : decode cX4_sum 52 = .ok (.iload_n 1, 1) := by decide +kernel
theorem dX4_sum_53 : decode cX4_sum 53 = .ok (.aload_n 0, 1) := by decide +kernel
theorem dX4_sum_54 : decode cX4_sum 54 = .ok (.getfield 16, 3) := by decide +kernel
theorem dX4_sum_57 : decode cX4_sum 57 = .ok (.iload 5, 2) := by decide +kernel
theorem dX4_sum_59 : decode cX4_sum 59 = .ok (.iaload, 1) := by decide +kernel
theorem dX4_sum_60 : decode cX4_sum 60 = .ok (.aload_n 0, 1) := by decide +kernel
theorem dX4_sum_61 : decode cX4_sum 61 = .ok (.getfield 16, 3) := by decide +kernel
theorem dX4_sum_64 : decode cX4_sum 64 = .ok (.iload 5, 2) := by decide +kernel
theorem dX4_sum_66 : decode cX4_sum 66 = .ok (.iaload, 1) := by decide +kernel
theorem dX4_sum_67 : decode cX4_sum 67 = .ok (.invokevirtual 164, 3) := by decide +kernel
theorem dX4_sum_70 : decode cX4_sum 70 = .ok (.istore 4, 2) := by decide +kernel
theorem dX4_sum_72 : decode cX4_sum 72 = .ok (.lload_n 2, 1) := by decide +kernel
theorem dX4_sum_73 : decode cX4_sum 73 = .ok (.iload 4, 2) := by decide +kernel
theorem dX4_sum_75 : decode cX4_sum 75 = .ok (.ifCond .eq 10, 3) := by decide +kernel
theorem dX4_sum_78 : decode cX4_sum 78 = .ok (.aload_n 0, 1) := by decide +kernel
theorem dX4_sum_79 : decode cX4_sum 79 = .ok (.getfield 107, 3) := by decide +kernel
theorem dX4_sum_82 : decode cX4_sum 82 = .ok (.goto 4, 3) := by decide +kernel
theorem dX4_sum_85 : decode cX4_sum 85 = .ok (.lconst 0, 1) := by decide +kernel
theorem dX4_sum_86 : decode cX4_sum 86 = .ok (.ladd, 1) := by decide +kernel
theorem dX4_sum_87 : decode cX4_sum 87 = .ok (.lstore_n 2, 1) := by decide +kernel
theorem dX4_sum_88 : decode cX4_sum 88 = .ok (.iinc 5 1, 3) := by decide +kernel
theorem dX4_sum_91 : decode cX4_sum 91 = .ok (.goto (-55), 3) := by decide +kernel
theorem dX4_sum_94 : decode cX4_sum 94 = .ok (.aload_n 0, 1) := by decide +kernel
theorem dX4_sum_95 : decode cX4_sum 95 = .ok (.iload 4, 2) := by decide +kernel
theorem dX4_sum_97 : decode cX4_sum 97 = .ok (.ifCond .eq 7, 3) := by decide +kernel
theorem dX4_sum_100 : decode cX4_sum 100 = .ok (.lload_n 2, 1) := by decide +kernel
theorem dX4_sum_101 : decode cX4_sum 101 = .ok (.goto 7, 3) := by decide +kernel
theorem dX4_sum_104 : decode cX4_sum 104 = .ok (.aload_n 0, 1) := by decide +kernel
theorem dX4_sum_105 : decode cX4_sum 105 = .ok (.getfield 172, 3) := by decide +kernel
theorem dX4_sum_108 : decode cX4_sum 108 = .ok (.putfield 172, 3) := by decide +kernel
theorem dX4_sum_111 : decode cX4_sum 111 = .ok (.aload_n 0, 1) := by decide +kernel
theorem dX4_sum_112 : decode cX4_sum 112 = .ok (.iconst 1, 1) := by decide +kernel
theorem dX4_sum_113 : decode cX4_sum 113 = .ok (.invokevirtual 168, 3) := by decide +kernel
theorem dX4_sum_116 : decode cX4_sum 116 = .ok (.ireturn, 1) := by decide +kernel
theorem dX4_group_0 : decode cX4_group 0 = .ok (.aload_n 0, 1) := by decide +kernel
theorem dX4_group_1 : decode cX4_group 1 = .ok (.iconst 0, 1) := by decide +kernel
theorem dX4_group_2 : decode cX4_group 2 = .ok (.iload_n 1, 1) := by decide +kernel
theorem dX4_group_3 : decode cX4_group 3 = .ok (.invokevirtual 153, 3) := by decide +kernel
theorem dX4_group_6 : decode cX4_group 6 = .ok (.ifCond .eq 12, 3) := by decide +kernel
theorem dX4_group_9 : decode cX4_group 9 = .ok (.aload_n 0, 1) := by decide +kernel
theorem dX4_group_10 : decode cX4_group 10 = .ok (.iconst 0, 1) := by decide +kernel
theorem dX4_group_11 : decode cX4_group 11 = .ok (.iload_n 2, 1) := by decide +kernel
theorem dX4_group_12 : decode cX4_group 12 = .ok (.invokevirtual 153, 3) := by decide +kernel
theorem dX4_group_15 : decode cX4_group 15 = .ok (.ifCond .ne 5, 3) := by decide +kernel
theorem dX4_group_18 : decode cX4_group 18 = .ok (.iconst (-1), 1) := by decide +kernel
theorem dX4_group_19 : decode cX4_group 19 = .ok (.ireturn, 1) := by decide +kernel
theorem dX4_group_20 : decode cX4_group 20 = .ok (.aload_n 0, 1) := by decide +kernel
theorem dX4_group_21 : decode cX4_group 21 = .ok (.getfield 127, 3) := by decide +kernel
theorem dX4_group_24 : decode cX4_group 24 = .ok (.sipush 2000, 3) := by decide +kernel
theorem dX4_group_27 : decode cX4_group 27 = .ok (.if_icmp .lt 6, 3) := by decide +kernel
theorem dX4_group_30 : decode cX4_group 30 = .ok (.bipush (-2), 2) := by decide +kernel
theorem dX4_group_32 : decode cX4_group 32 = .ok (.ireturn, 1) := by decide +kernel
theorem dX4_group_33 : decode cX4_group 33 = .ok (.aload_n 0, 1) := by decide +kernel
theorem dX4_group_34 : decode cX4_group 34 = .ok (.invokevirtual 161, 3) := by decide +kernel
theorem dX4_group_37 : decode cX4_group 37 = .ok (.iconst 0, 1) := by decide +kernel
theorem dX4_group_38 : decode cX4_group 38 = .ok (.istore_n 3, 1) := by decide +kernel
theorem dX4_group_39 : decode cX4_group 39 = .ok (.iconst 1, 1) := by decide +kernel
theorem dX4_group_40 : decode cX4_group 40 = .ok (.istore 4, 2) := by decide +kernel
theorem dX4_group_42 : decode cX4_group 42 = .ok (.iconst 0, 1) := by decide +kernel
theorem dX4_group_43 : decode cX4_group 43 = .ok (.istore 5, 2) := by decide +kernel
theorem dX4_group_45 : decode cX4_group 45 = .ok (.iload 5, 2) := by decide +kernel
theorem dX4_group_47 : decode cX4_group 47 = .ok (.aload_n 0, 1) := by decide +kernel
theorem dX4_group_48 : decode cX4_group 48 = .ok (.getfield 88, 3) := by decide +kernel
theorem dX4_group_51 : decode cX4_group 51 = .ok (.if_icmp .ge 183, 3) := by decide +kernel
theorem dX4_group_54 : decode cX4_group 54 = .ok (.iload 4, 2) := by decide +kernel
theorem dX4_group_56 : decode cX4_group 56 = .ok (.ifCond .eq 178, 3) := by decide +kernel
theorem dX4_group_59 : decode cX4_group 59 = .ok (.aload_n 0, 1) := by decide +kernel
theorem dX4_group_60 : decode cX4_group 60 = .ok (.iconst 0, 1) := by decide +kernel
theorem dX4_group_61 : decode cX4_group 61 = .ok (.iload_n 1, 1) := by decide +kernel
theorem dX4_group_62 : decode cX4_group 62 = .ok (.aload_n 0, 1) := by decide +kernel
theorem dX4_group_63 : decode cX4_group 63 = .ok (.getfield 16, 3) := by decide +kernel
theorem dX4_group_66 : decode cX4_group 66 = .ok (.iload 5, 2) := by decide +kernel
theorem dX4_group_68 : decode cX4_group 68 = .ok (.iaload, 1) := by decide +kernel
theorem dX4_group_69 : decode cX4_group 69 = .ok (.aload_n 0, 1) := by decide +kernel
theorem dX4_group_70 : decode cX4_group 70 = .ok (.getfield 16, 3) := by decide +kernel
theorem dX4_group_73 : decode cX4_group 73 = .ok (.iload 5, 2) := by decide +kernel
theorem dX4_group_75 : decode cX4_group 75 = .ok (.iaload, 1) := by decide +kernel
theorem dX4_group_76 : decode cX4_group 76 = .ok (.invokevirtual 164, 3) := by decide +kernel
theorem dX4_group_79 : decode cX4_group 79 = .ok (.istore 4, 2) := by decide +kernel
theorem dX4_group_81 : decode cX4_group 81 = .ok (.aload_n 0, 1) := by decide +kernel
theorem dX4_group_82 : decode cX4_group 82 = .ok (.getfield 107, 3) := by decide +kernel
theorem dX4_group_85 : decode cX4_group 85 = .ok (.lstore 6, 2) := by decide +kernel
theorem dX4_group_87 : decode cX4_group 87 = .ok (.iload 4, 2) := by decide +kernel
theorem dX4_group_89 : decode cX4_group 89 = .ok (.ifCond .eq 30, 3) := by decide +kernel
theorem dX4_group_92 : decode cX4_group 92 = .ok (.aload_n 0, 1) := by decide +kernel
theorem dX4_group_93 : decode cX4_group 93 = .ok (.iconst 0, 1) := by decide +kernel
theorem dX4_group_94 : decode cX4_group 94 = .ok (.iload_n 2, 1) := by decide +kernel
theorem dX4_group_95 : decode cX4_group 95 = .ok (.aload_n 0, 1) := by decide +kernel
theorem dX4_group_96 : decode cX4_group 96 = .ok (.getfield 16, 3) := by decide +kernel
theorem dX4_group_99 : decode cX4_group 99 = .ok (.iload 5, 2) := by decide +kernel
theorem dX4_group_101 : decode cX4_group 101 = .ok (.iaload, 1) := by decide +kernel
theorem dX4_group_102 : decode cX4_group 102 = .ok (.aload_n 0, 1) := by decide +kernel
theorem dX4_group_103 : decode cX4_group 103 = .ok (.getfield 16, 3) := by decide +kernel
theorem dX4_group_106 : decode cX4_group 106 = .ok (.iload 5, 2) := by decide +kernel
theorem dX4_group_108 : decode cX4_group 108 = .ok (.iaload, 1) := by decide +kernel
theorem dX4_group_109 : decode cX4_group 109 = .ok (.invokevirtual 164, 3) := by decide +kernel
theorem dX4_group_112 : decode cX4_group 112 = .ok (.ifCond .eq 7, 3) := by decide +kernel
theorem dX4_group_115 : decode cX4_group 115 = .ok (.iconst 1, 1) := by decide +kernel
theorem dX4_group_116 : decode cX4_group 116 = .ok (.goto 4, 3) := by decide +kernel
theorem dX4_group_119 : decode cX4_group 119 = .ok (.iconst 0, 1) := by decide +kernel
theorem dX4_group_120 : decode cX4_group 120 = .ok (.istore 4, 2) := by decide +kernel
theorem dX4_group_122 : decode cX4_group 122 = .ok (.iload 4, 2) := by decide +kernel
theorem dX4_group_124 : decode cX4_group 124 = .ok (.ifCond .eq 104, 3) := by decide +kernel
theorem dX4_group_127 : decode cX4_group 127 = .ok (.iconst 0, 1) := by decide +kernel
theorem dX4_group_128 : decode cX4_group 128 = .ok (.istore 8, 2) := by decide +kernel
theorem dX4_group_130 : decode cX4_group 130 = .ok (.iload 8, 2) := by decide +kernel
theorem dX4_group_132 : decode cX4_group 132 = .ok (.iload_n 3, 1) := by decide +kernel
theorem dX4_group_133 : decode cX4_group 133 = .ok (.if_icmp .ge 22, 3) := by decide +kernel
theorem dX4_group_136 : decode cX4_group 136 = .ok (.aload_n 0, 1) := by decide +kernel
theorem dX4_group_137 : decode cX4_group 137 = .ok (.getfield 68, 3) := by decide +kernel
theorem dX4_group_140 : decode cX4_group 140 = .ok (.iload 8, 2) := by decide +kernel
theorem dX4_group_142 : decode cX4_group 142 = .ok (.laload, 1) := by decide +kernel
theorem dX4_group_143 : decode cX4_group 143 = .ok (.lload 6, 2) := by decide +kernel
theorem dX4_group_145 : decode cX4_group 145 = .ok (.lcmp, 1) := by decide +kernel
theorem dX4_group_146 : decode cX4_group 146 = .ok (.ifCond .eq 9, 3) := by decide +kernel
theorem dX4_group_149 : decode cX4_group 149 = .ok (.iinc 8 1, 3) := by decide +kernel
theorem dX4_group_152 : decode cX4_group 152 = .ok (.goto (-22), 3) := by decide +kernel
theorem dX4_group_155 : decode cX4_group 155 = .ok (.iload 8, 2) := by decide +kernel
theorem dX4_group_157 : decode cX4_group 157 = .ok (.iload_n 3, 1) := by decide +kernel
theorem dX4_group_158 : decode cX4_group 158 = .ok (.if_icmp .ne 45, 3) := by decide +kernel
theorem dX4_group_161 : decode cX4_group 161 = .ok (.aload_n 0, 1) := by decide +kernel
theorem dX4_group_162 : decode cX4_group 162 = .ok (.getfield 68, 3) := by decide +kernel
theorem dX4_group_165 : decode cX4_group 165 = .ok (.iload 8, 2) := by decide +kernel
theorem dX4_group_167 : decode cX4_group 167 = .ok (.lload 6, 2) := by decide +kernel
theorem dX4_group_169 : decode cX4_group 169 = .ok (.lastore, 1) := by decide +kernel
theorem dX4_group_170 : decode cX4_group 170 = .ok (.aload_n 0, 1) := by decide +kernel
theorem dX4_group_171 : decode cX4_group 171 = .ok (.getfield 71, 3) := by decide +kernel
theorem dX4_group_174 : decode cX4_group 174 = .ok (.iload 8, 2) := by decide +kernel
theorem dX4_group_176 : decode cX4_group 176 = .ok (.iconst 0, 1) := by decide +kernel
theorem dX4_group_177 : decode cX4_group 177 = .ok (.iastore, 1) := by decide +kernel
theorem dX4_group_178 : decode cX4_group 178 = .ok (.aload_n 0, 1) := by decide +kernel
theorem dX4_group_179 : decode cX4_group 179 = .ok (.getfield 74, 3) := by decide +kernel
theorem dX4_group_182 : decode cX4_group 182 = .ok (.iload 8, 2) := by decide +kernel
theorem dX4_group_184 : decode cX4_group 184 = .ok (.lconst 0, 1) := by decide +kernel
theorem dX4_group_185 : decode cX4_group 185 = .ok (.lastore, 1) := by decide +kernel
theorem dX4_group_186 : decode cX4_group 186 = .ok (.aload_n 0, 1) := by decide +kernel
theorem dX4_group_187 : decode cX4_group 187 = .ok (.getfield 77, 3) := by decide +kernel
theorem dX4_group_190 : decode cX4_group 190 = .ok (.iload 8, 2) := by decide +kernel
theorem dX4_group_192 : decode cX4_group 192 = .ok (.aload_n 0, 1) := by decide +kernel
theorem dX4_group_193 : decode cX4_group 193 = .ok (.getfield 16, 3) := by decide +kernel
theorem dX4_group_196 : decode cX4_group 196 = .ok (.iload 5, 2) := by decide +kernel
theorem dX4_group_198 : decode cX4_group 198 = .ok (.iaload, 1) := by decide +kernel
theorem dX4_group_199 : decode cX4_group 199 = .ok (.iastore, 1) := by decide +kernel
theorem dX4_group_200 : decode cX4_group 200 = .ok (.iinc 3 1, 3) := by decide +kernel
theorem dX4_group_203 : decode cX4_group 203 = .ok (.aload_n 0, 1) := by decide +kernel
theorem dX4_group_204 : decode cX4_group 204 = .ok (.getfield 71, 3) := by decide +kernel
theorem dX4_group_207 : decode cX4_group 207 = .ok (.iload 8, 2) := by decide +kernel
theorem dX4_group_209 : decode cX4_group 209 = .ok (.dup2, 1) := by decide +kernel
theorem dX4_group_210 : decode cX4_group 210 = .ok (.iaload, 1) := by decide +kernel
theorem dX4_group_211 : decode cX4_group 211 = .ok (.iconst 1, 1) := by decide +kernel
theorem dX4_group_212 : decode cX4_group 212 = .ok (.iadd, 1) := by decide +kernel
theorem dX4_group_213 : decode cX4_group 213 = .ok (.iastore, 1) := by decide +kernel
theorem dX4_group_214 : decode cX4_group 214 = .ok (.aload_n 0, 1) := by decide +kernel
theorem dX4_group_215 : decode cX4_group 215 = .ok (.getfield 74, 3) := by decide +kernel
theorem dX4_group_218 : decode cX4_group 218 = .ok (.iload 8, 2) := by decide +kernel
theorem dX4_group_220 : decode cX4_group 220 = .ok (.dup2, 1) := by decide +kernel
theorem dX4_group_221 : decode cX4_group 221 = .ok (.laload, 1) := by decide +kernel
theorem dX4_group_222 : decode cX4_group 222 = .ok (.aload_n 0, 1) := by decide +kernel
theorem dX4_group_223 : decode cX4_group 223 = .ok (.getfield 107, 3) := by decide +kernel
theorem dX4_group_226 : decode cX4_group 226 = .ok (.ladd, 1) := by decide +kernel
theorem dX4_group_227 : decode cX4_group 227 = .ok (.lastore, 1) := by decide +kernel
theorem dX4_group_228 : decode cX4_group 228 = .ok (.iinc 5 1, 3) := by decide +kernel
theorem dX4_group_231 : decode cX4_group 231 = .ok (.goto (-186), 3) := by decide +kernel
theorem dX4_group_234 : decode cX4_group 234 = .ok (.iload 4, 2) := by decide +kernel
theorem dX4_group_236 : decode cX4_group 236 = .ok (.ifCond .eq 79, 3) := by decide +kernel
theorem dX4_group_239 : decode cX4_group 239 = .ok (.aload_n 0, 1) := by decide +kernel
theorem dX4_group_240 : decode cX4_group 240 = .ok (.iload_n 3, 1) := by decide +kernel
theorem dX4_group_241 : decode cX4_group 241 = .ok (.putfield 175, 3) := by decide +kernel
theorem dX4_group_244 : decode cX4_group 244 = .ok (.iconst 0, 1) := by decide +kernel
theorem dX4_group_245 : decode cX4_group 245 = .ok (.istore 5, 2) := by decide +kernel
theorem dX4_group_247 : decode cX4_group 247 = .ok (.iload 5, 2) := by decide +kernel
theorem dX4_group_249 : decode cX4_group 249 = .ok (.iload_n 3, 1) := by decide +kernel
theorem dX4_group_250 : decode cX4_group 250 = .ok (.if_icmp .ge 65, 3) := by decide +kernel
theorem dX4_group_253 : decode cX4_group 253 = .ok (.aload_n 0, 1) := by decide +kernel
theorem dX4_group_254 : decode cX4_group 254 = .ok (.getfield 53, 3) := by decide +kernel
theorem dX4_group_257 : decode cX4_group 257 = .ok (.iload 5, 2) := by decide +kernel
theorem dX4_group_259 : decode cX4_group 259 = .ok (.aload_n 0, 1) := by decide +kernel
theorem dX4_group_260 : decode cX4_group 260 = .ok (.getfield 68, 3) := by decide +kernel
theorem dX4_group_263 : decode cX4_group 263 = .ok (.iload 5, 2) := by decide +kernel
theorem dX4_group_265 : decode cX4_group 265 = .ok (.laload, 1) := by decide +kernel
theorem dX4_group_266 : decode cX4_group 266 = .ok (.lastore, 1) := by decide +kernel
theorem dX4_group_267 : decode cX4_group 267 = .ok (.aload_n 0, 1) := by decide +kernel
theorem dX4_group_268 : decode cX4_group 268 = .ok (.getfield 56, 3) := by decide +kernel
theorem dX4_group_271 : decode cX4_group 271 = .ok (.iload 5, 2) := by decide +kernel
theorem dX4_group_273 : decode cX4_group 273 = .ok (.aload_n 0, 1) := by decide +kernel
theorem dX4_group_274 : decode cX4_group 274 = .ok (.getfield 71, 3) := by decide +kernel
theorem dX4_group_277 : decode cX4_group 277 = .ok (.iload 5, 2) := by decide +kernel
theorem dX4_group_279 : decode cX4_group 279 = .ok (.iaload, 1) := by decide +kernel
theorem dX4_group_280 : decode cX4_group 280 = .ok (.iastore, 1) := by decide +kernel
theorem dX4_group_281 : decode cX4_group 281 = .ok (.aload_n 0, 1) := by decide +kernel
theorem dX4_group_282 : decode cX4_group 282 = .ok (.getfield 59, 3) := by decide +kernel
theorem dX4_group_285 : decode cX4_group 285 = .ok (.iload 5, 2) := by decide +kernel
theorem dX4_group_287 : decode cX4_group 287 = .ok (.aload_n 0, 1) := by decide +kernel
theorem dX4_group_288 : decode cX4_group 288 = .ok (.getfield 74, 3) := by decide +kernel
theorem dX4_group_291 : decode cX4_group 291 = .ok (.iload 5, 2) := by decide +kernel
theorem dX4_group_293 : decode cX4_group 293 = .ok (.laload, 1) := by decide +kernel
theorem dX4_group_294 : decode cX4_group 294 = .ok (.lastore, 1) := by decide +kernel
theorem dX4_group_295 : decode cX4_group 295 = .ok (.aload_n 0, 1) := by decide +kernel
theorem dX4_group_296 : decode cX4_group 296 = .ok (.getfield 62, 3) := by decide +kernel
theorem dX4_group_299 : decode cX4_group 299 = .ok (.iload 5, 2) := by decide +kernel
theorem dX4_group_301 : decode cX4_group 301 = .ok (.aload_n 0, 1) := by decide +kernel
theorem dX4_group_302 : decode cX4_group 302 = .ok (.getfield 77, 3) := by decide +kernel
theorem dX4_group_305 : decode cX4_group 305 = .ok (.iload 5, 2) := by decide +kernel
theorem dX4_group_307 : decode cX4_group 307 = .ok (.iaload, 1) := by decide +kernel
theorem dX4_group_308 : decode cX4_group 308 = .ok (.iastore, 1) := by decide +kernel
theorem dX4_group_309 : decode cX4_group 309 = .ok (.iinc 5 1, 3) := by decide +kernel
theorem dX4_group_312 : decode cX4_group 312 = .ok (.goto (-65), 3) := by decide +kernel
theorem dX4_group_315 : decode cX4_group 315 = .ok (.aload_n 0, 1) := by decide +kernel
theorem dX4_group_316 : decode cX4_group 316 = .ok (.iload_n 3, 1) := by decide +kernel
theorem dX4_group_317 : decode cX4_group 317 = .ok (.invokevirtual 168, 3) := by decide +kernel
theorem dX4_group_320 : decode cX4_group 320 = .ok (.ireturn, 1) := by decide +kernel
theorem dX4_answer_0 : decode cX4_answer 0 = .ok (.aload_n 0, 1) := by decide +kernel
theorem dX4_answer_1 : decode cX4_answer 1 = .ok (.getfield 172, 3) := by decide +kernel
theorem dX4_answer_4 : decode cX4_answer 4 = .ok (.lreturn, 1) := by decide +kernel
theorem dX4_list_0 : decode cX4_list 0 = .ok (.iload_n 1, 1) := by decide +kernel
theorem dX4_list_1 : decode cX4_list 1 = .ok (.iconst 0, 1) := by decide +kernel
theorem dX4_list_2 : decode cX4_list 2 = .ok (.aload_n 0, 1) := by decide +kernel
theorem dX4_list_3 : decode cX4_list 3 = .ok (.getfield 88, 3) := by decide +kernel
theorem dX4_list_6 : decode cX4_list 6 = .ok (.iconst 1, 1) := by decide +kernel
theorem dX4_list_7 : decode cX4_list 7 = .ok (.isub, 1) := by decide +kernel
theorem dX4_list_8 : decode cX4_list 8 = .ok (.invokestatic 84, 3) := by decide +kernel
theorem dX4_list_11 : decode cX4_list 11 = .ok (.ifCond .eq 12, 3) := by decide +kernel
theorem dX4_list_14 : decode cX4_list 14 = .ok (.aload_n 0, 1) := by decide +kernel
theorem dX4_list_15 : decode cX4_list 15 = .ok (.getfield 16, 3) := by decide +kernel
theorem dX4_list_18 : decode cX4_list 18 = .ok (.iload_n 1, 1) := by decide +kernel
theorem dX4_list_19 : decode cX4_list 19 = .ok (.iaload, 1) := by decide +kernel
theorem dX4_list_20 : decode cX4_list 20 = .ok (.goto 4, 3) := by decide +kernel
theorem dX4_list_23 : decode cX4_list 23 = .ok (.iconst (-1), 1) := by decide +kernel
theorem dX4_list_24 : decode cX4_list 24 = .ok (.ireturn, 1) := by decide +kernel
theorem dX4_groups_0 : decode cX4_groups 0 = .ok (.iload_n 1, 1) := by decide +kernel
theorem dX4_groups_1 : decode cX4_groups 1 = .ok (.iconst 0, 1) := by decide +kernel
theorem dX4_groups_2 : decode cX4_groups 2 = .ok (.aload_n 0, 1) := by decide +kernel
theorem dX4_groups_3 : decode cX4_groups 3 = .ok (.getfield 175, 3) := by decide +kernel
theorem dX4_groups_6 : decode cX4_groups 6 = .ok (.iconst 1, 1) := by decide +kernel
theorem dX4_groups_7 : decode cX4_groups 7 = .ok (.isub, 1) := by decide +kernel
theorem dX4_groups_8 : decode cX4_groups 8 = .ok (.invokestatic 84, 3) := by decide +kernel
theorem dX4_groups_11 : decode cX4_groups 11 = .ok (.ifCond .ne 5, 3) := by decide +kernel
theorem dX4_groups_14 : decode cX4_groups 14 = .ok (.lconst 0, 1) := by decide +kernel
theorem dX4_groups_15 : decode cX4_groups 15 = .ok (.lreturn, 1) := by decide +kernel
theorem dX4_groups_16 : decode cX4_groups 16 = .ok (.iload_n 2, 1) := by decide +kernel
theorem dX4_groups_17 : decode cX4_groups 17 = .ok (.ifCond .ne 12, 3) := by decide +kernel
theorem dX4_groups_20 : decode cX4_groups 20 = .ok (.aload_n 0, 1) := by decide +kernel
theorem dX4_groups_21 : decode cX4_groups 21 = .ok (.getfield 53, 3) := by decide +kernel
theorem dX4_groups_24 : decode cX4_groups 24 = .ok (.iload_n 1, 1) := by decide +kernel
theorem dX4_groups_25 : decode cX4_groups 25 = .ok (.laload, 1) := by decide +kernel
theorem dX4_groups_26 : decode cX4_groups 26 = .ok (.goto 48, 3) := by decide +kernel
theorem dX4_groups_29 : decode cX4_groups 29 = .ok (.iload_n 2, 1) := by decide +kernel
theorem dX4_groups_30 : decode cX4_groups 30 = .ok (.iconst 1, 1) := by decide +kernel
theorem dX4_groups_31 : decode cX4_groups 31 = .ok (.if_icmp .ne 13, 3) := by decide +kernel
theorem dX4_groups_34 : decode cX4_groups 34 = .ok (.aload_n 0, 1) := by decide +kernel
theorem dX4_groups_35 : decode cX4_groups 35 = .ok (.getfield 56, 3) := by decide +kernel
theorem dX4_groups_38 : decode cX4_groups 38 = .ok (.iload_n 1, 1) := by decide +kernel
theorem dX4_groups_39 : decode cX4_groups 39 = .ok (.iaload, 1) := by decide +kernel
theorem dX4_groups_40 : decode cX4_groups 40 = .ok (.i2l, 1) := by decide +kernel
theorem dX4_groups_41 : decode cX4_groups 41 = .ok (.goto 33, 3) := by decide +kernel
theorem dX4_groups_44 : decode cX4_groups 44 = .ok (.iload_n 2, 1) := by decide +kernel
theorem dX4_groups_45 : decode cX4_groups 45 = .ok (.iconst 2, 1) := by decide +kernel
theorem dX4_groups_46 : decode cX4_groups 46 = .ok (.if_icmp .ne 12, 3) := by decide +kernel
theorem dX4_groups_49 : decode cX4_groups 49 = .ok (.aload_n 0, 1) := by decide +kernel
theorem dX4_groups_50 : decode cX4_groups 50 = .ok (.getfield 59, 3) := by decide +kernel
theorem dX4_groups_53 : decode cX4_groups 53 = .ok (.iload_n 1, 1) := by decide +kernel
theorem dX4_groups_54 : decode cX4_groups 54 = .ok (.laload, 1) := by decide +kernel
theorem dX4_groups_55 : decode cX4_groups 55 = .ok (.goto 19, 3) := by decide +kernel
theorem dX4_groups_58 : decode cX4_groups 58 = .ok (.iload_n 2, 1) := by decide +kernel
theorem dX4_groups_59 : decode cX4_groups 59 = .ok (.iconst 3, 1) := by decide +kernel
theorem dX4_groups_60 : decode cX4_groups 60 = .ok (.if_icmp .ne 13, 3) := by decide +kernel
theorem dX4_groups_63 : decode cX4_groups 63 = .ok (.aload_n 0, 1) := by decide +kernel
theorem dX4_groups_64 : decode cX4_groups 64 = .ok (.getfield 62, 3) := by decide +kernel
theorem dX4_groups_67 : decode cX4_groups 67 = .ok (.iload_n 1, 1) := by decide +kernel
theorem dX4_groups_68 : decode cX4_groups 68 = .ok (.iaload, 1) := by decide +kernel
theorem dX4_groups_69 : decode cX4_groups 69 = .ok (.i2l, 1) := by decide +kernel
theorem dX4_groups_70 : decode cX4_groups 70 = .ok (.goto 4, 3) := by decide +kernel
theorem dX4_groups_73 : decode cX4_groups 73 = .ok (.lconst 0, 1) := by decide +kernel
theorem dX4_groups_74 : decode cX4_groups 74 = .ok (.lreturn, 1) := by decide +kernel
theorem dX4_count_0 : decode cX4_count 0 = .ok (.iload_n 1, 1) := by decide +kernel
theorem dX4_count_1 : decode cX4_count 1 = .ok (.tableswitch 108 0 10 #[59, 64, 64, 64, 73, 78, 83, 88, 93, 98, 103], 59) := by decide +kernel
theorem dX4_count_60 : decode cX4_count 60 = .ok (.aload_n 0, 1) := by decide +kernel
theorem dX4_count_61 : decode cX4_count 61 = .ok (.getfield 80, 3) := by decide +kernel
theorem dX4_count_64 : decode cX4_count 64 = .ok (.ireturn, 1) := by decide +kernel
theorem dX4_count_65 : decode cX4_count 65 = .ok (.aload_n 0, 1) := by decide +kernel
theorem dX4_count_66 : decode cX4_count 66 = .ok (.getfield 20, 3) := by decide +kernel
theorem dX4_count_69 : decode cX4_count 69 = .ok (.iload_n 1, 1) := by decide +kernel
theorem dX4_count_70 : decode cX4_count 70 = .ok (.iconst 1, 1) := by decide +kernel
theorem dX4_count_71 : decode cX4_count 71 = .ok (.isub, 1) := by decide +kernel
theorem dX4_count_72 : decode cX4_count 72 = .ok (.iaload, 1) := by decide +kernel
theorem dX4_count_73 : decode cX4_count 73 = .ok (.ireturn, 1) := by decide +kernel
theorem dX4_count_74 : decode cX4_count 74 = .ok (.aload_n 0, 1) := by decide +kernel
theorem dX4_count_75 : decode cX4_count 75 = .ok (.getfield 88, 3) := by decide +kernel
theorem dX4_count_78 : decode cX4_count 78 = .ok (.ireturn, 1) := by decide +kernel
theorem dX4_count_79 : decode cX4_count 79 = .ok (.aload_n 0, 1) := by decide +kernel
theorem dX4_count_80 : decode cX4_count 80 = .ok (.getfield 175, 3) := by decide +kernel
theorem dX4_count_83 : decode cX4_count 83 = .ok (.ireturn, 1) := by decide +kernel
theorem dX4_count_84 : decode cX4_count 84 = .ok (.aload_n 0, 1) := by decide +kernel
theorem dX4_count_85 : decode cX4_count 85 = .ok (.getfield 144, 3) := by decide +kernel
theorem dX4_count_88 : decode cX4_count 88 = .ok (.ireturn, 1) := by decide +kernel
theorem dX4_count_89 : decode cX4_count 89 = .ok (.aload_n 0, 1) := by decide +kernel
theorem dX4_count_90 : decode cX4_count 90 = .ok (.getfield 101, 3) := by decide +kernel
theorem dX4_count_93 : decode cX4_count 93 = .ok (.ireturn, 1) := by decide +kernel
theorem dX4_count_94 : decode cX4_count 94 = .ok (.aload_n 0, 1) := by decide +kernel
theorem dX4_count_95 : decode cX4_count 95 = .ok (.getfield 127, 3) := by decide +kernel
theorem dX4_count_98 : decode cX4_count 98 = .ok (.ireturn, 1) := by decide +kernel
theorem dX4_count_99 : decode cX4_count 99 = .ok (.aload_n 0, 1) := by decide +kernel
theorem dX4_count_100 : decode cX4_count 100 = .ok (.getfield 147, 3) := by decide +kernel
theorem dX4_count_103 : decode cX4_count 103 = .ok (.ireturn, 1) := by decide +kernel
theorem dX4_count_104 : decode cX4_count 104 = .ok (.aload_n 0, 1) := by decide +kernel
theorem dX4_count_105 : decode cX4_count 105 = .ok (.getfield 150, 3) := by decide +kernel
theorem dX4_count_108 : decode cX4_count 108 = .ok (.ireturn, 1) := by decide +kernel
theorem dX4_count_109 : decode cX4_count 109 = .ok (.iconst (-1), 1) := by decide +kernel
theorem dX4_count_110 : decode cX4_count 110 = .ok (.ireturn, 1) := by decide +kernel

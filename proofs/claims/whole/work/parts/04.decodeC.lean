theorem dX4_init_0 : decode cX4_init 0 = .ok (.aload_n 0, 1) := by decide +kernel
theorem dX4_init_1 : decode cX4_init 1 = .ok (.invokespecial 1, 3) := by decide +kernel
theorem dX4_init_4 : decode cX4_init 4 = .ok (.aload_n 0, 1) := by decide +kernel
theorem dX4_init_5 : decode cX4_init 5 = .ok (.bipush 120, 2) := by decide +kernel
theorem dX4_init_7 : decode cX4_init 7 = .ok (.newarray .long, 2) := by decide +kernel
theorem dX4_init_9 : decode cX4_init 9 = .ok (.putfield 7, 3) := by decide +kernel
theorem dX4_init_12 : decode cX4_init 12 = .ok (.aload_n 0, 1) := by decide +kernel
theorem dX4_init_13 : decode cX4_init 13 = .ok (.bipush 8, 2) := by decide +kernel
theorem dX4_init_15 : decode cX4_init 15 = .ok (.newarray .long, 2) := by decide +kernel
theorem dX4_init_17 : decode cX4_init 17 = .ok (.putfield 13, 3) := by decide +kernel
theorem dX4_init_20 : decode cX4_init 20 = .ok (.aload_n 0, 1) := by decide +kernel
theorem dX4_init_21 : decode cX4_init 21 = .ok (.bipush 40, 2) := by decide +kernel
theorem dX4_init_23 : decode cX4_init 23 = .ok (.newarray .int, 2) := by decide +kernel
theorem dX4_init_25 : decode cX4_init 25 = .ok (.putfield 16, 3) := by decide +kernel
theorem dX4_init_28 : decode cX4_init 28 = .ok (.aload_n 0, 1) := by decide +kernel
theorem dX4_init_29 : decode cX4_init 29 = .ok (.iconst 3, 1) := by decide +kernel
theorem dX4_init_30 : decode cX4_init 30 = .ok (.newarray .int, 2) := by decide +kernel
theorem dX4_init_32 : decode cX4_init 32 = .ok (.putfield 20, 3) := by decide +kernel
theorem dX4_init_35 : decode cX4_init 35 = .ok (.aload_n 0, 1) := by decide +kernel
theorem dX4_init_36 : decode cX4_init 36 = .ok (.bipush 72, 2) := by decide +kernel
theorem dX4_init_38 : decode cX4_init 38 = .ok (.newarray .int, 2) := by decide +kernel
theorem dX4_init_40 : decode cX4_init 40 = .ok (.putfield 23, 3) := by decide +kernel
theorem dX4_init_43 : decode cX4_init 43 = .ok (.aload_n 0, 1) := by decide +kernel
theorem dX4_init_44 : decode cX4_init 44 = .ok (.bipush 72, 2) := by decide +kernel
theorem dX4_init_46 : decode cX4_init 46 = .ok (.newarray .int, 2) := by decide +kernel
theorem dX4_init_48 : decode cX4_init 48 = .ok (.putfield 26, 3) := by decide +kernel
theorem dX4_init_51 : decode cX4_init 51 = .ok (.aload_n 0, 1) := by decide +kernel
theorem dX4_init_52 : decode cX4_init 52 = .ok (.bipush 72, 2) := by decide +kernel
theorem dX4_init_54 : decode cX4_init 54 = .ok (.newarray .int, 2) := by decide +kernel
theorem dX4_init_56 : decode cX4_init 56 = .ok (.putfield 29, 3) := by decide +kernel
theorem dX4_init_59 : decode cX4_init 59 = .ok (.aload_n 0, 1) := by decide +kernel
theorem dX4_init_60 : decode cX4_init 60 = .ok (.bipush 72, 2) := by decide +kernel
theorem dX4_init_62 : decode cX4_init 62 = .ok (.newarray .long, 2) := by decide +kernel
theorem dX4_init_64 : decode cX4_init 64 = .ok (.putfield 32, 3) := by decide +kernel
theorem dX4_init_67 : decode cX4_init 67 = .ok (.aload_n 0, 1) := by decide +kernel
theorem dX4_init_68 : decode cX4_init 68 = .ok (.bipush 72, 2) := by decide +kernel
theorem dX4_init_70 : decode cX4_init 70 = .ok (.newarray .int, 2) := by decide +kernel
theorem dX4_init_72 : decode cX4_init 72 = .ok (.putfield 35, 3) := by decide +kernel
theorem dX4_init_75 : decode cX4_init 75 = .ok (.aload_n 0, 1) := by decide +kernel
theorem dX4_init_76 : decode cX4_init 76 = .ok (.bipush 80, 2) := by decide +kernel
theorem dX4_init_78 : decode cX4_init 78 = .ok (.newarray .int, 2) := by decide +kernel
theorem dX4_init_80 : decode cX4_init 80 = .ok (.putfield 38, 3) := by decide +kernel
theorem dX4_init_83 : decode cX4_init 83 = .ok (.aload_n 0, 1) := by decide +kernel
theorem dX4_init_84 : decode cX4_init 84 = .ok (.bipush 80, 2) := by decide +kernel
theorem dX4_init_86 : decode cX4_init 86 = .ok (.newarray .int, 2) := by decide +kernel
theorem dX4_init_88 : decode cX4_init 88 = .ok (.putfield 41, 3) := by decide +kernel
theorem dX4_init_91 : decode cX4_init 91 = .ok (.aload_n 0, 1) := by decide +kernel
theorem dX4_init_92 : decode cX4_init 92 = .ok (.bipush 80, 2) := by decide +kernel
theorem dX4_init_94 : decode cX4_init 94 = .ok (.newarray .int, 2) := by decide +kernel
theorem dX4_init_96 : decode cX4_init 96 = .ok (.putfield 44, 3) := by decide +kernel
theorem dX4_init_99 : decode cX4_init 99 = .ok (.aload_n 0, 1) := by decide +kernel
theorem dX4_init_100 : decode cX4_init 100 = .ok (.bipush 80, 2) := by decide +kernel
theorem dX4_init_102 : decode cX4_init 102 = .ok (.newarray .int, 2) := by decide +kernel
theorem dX4_init_104 : decode cX4_init 104 = .ok (.putfield 47, 3) := by decide +kernel
theorem dX4_init_107 : decode cX4_init 107 = .ok (.aload_n 0, 1) := by decide +kernel
theorem dX4_init_108 : decode cX4_init 108 = .ok (.bipush 80, 2) := by decide +kernel
theorem dX4_init_110 : decode cX4_init 110 = .ok (.newarray .long, 2) := by decide +kernel
theorem dX4_init_112 : decode cX4_init 112 = .ok (.putfield 50, 3) := by decide +kernel
theorem dX4_init_115 : decode cX4_init 115 = .ok (.aload_n 0, 1) := by decide +kernel
theorem dX4_init_116 : decode cX4_init 116 = .ok (.bipush 40, 2) := by decide +kernel
theorem dX4_init_118 : decode cX4_init 118 = .ok (.newarray .long, 2) := by decide +kernel
theorem dX4_init_120 : decode cX4_init 120 = .ok (.putfield 53, 3) := by decide +kernel
theorem dX4_init_123 : decode cX4_init 123 = .ok (.aload_n 0, 1) := by decide +kernel
theorem dX4_init_124 : decode cX4_init 124 = .ok (.bipush 40, 2) := by decide +kernel
theorem dX4_init_126 : decode cX4_init 126 = .ok (.newarray .int, 2) := by decide +kernel
theorem dX4_init_128 : decode cX4_init 128 = .ok (.putfield 56, 3) := by decide +kernel
theorem dX4_init_131 : decode cX4_init 131 = .ok (.aload_n 0, 1) := by decide +kernel
theorem dX4_init_132 : decode cX4_init 132 = .ok (.bipush 40, 2) := by decide +kernel
theorem dX4_init_134 : decode cX4_init 134 = .ok (.newarray .long, 2) := by decide +kernel
theorem dX4_init_136 : decode cX4_init 136 = .ok (.putfield 59, 3) := by decide +kernel
theorem dX4_init_139 : decode cX4_init 139 = .ok (.aload_n 0, 1) := by decide +kernel
theorem dX4_init_140 : decode cX4_init 140 = .ok (.bipush 40, 2) := by decide +kernel
theorem dX4_init_142 : decode cX4_init 142 = .ok (.newarray .int, 2) := by decide +kernel
theorem dX4_init_144 : decode cX4_init 144 = .ok (.putfield 62, 3) := by decide +kernel
theorem dX4_init_147 : decode cX4_init 147 = .ok (.aload_n 0, 1) := by decide +kernel
theorem dX4_init_148 : decode cX4_init 148 = .ok (.bipush 40, 2) := by decide +kernel
theorem dX4_init_150 : decode cX4_init 150 = .ok (.newarray .int, 2) := by decide +kernel
theorem dX4_init_152 : decode cX4_init 152 = .ok (.putfield 65, 3) := by decide +kernel
theorem dX4_init_155 : decode cX4_init 155 = .ok (.aload_n 0, 1) := by decide +kernel
theorem dX4_init_156 : decode cX4_init 156 = .ok (.bipush 40, 2) := by decide +kernel
theorem dX4_init_158 : decode cX4_init 158 = .ok (.newarray .long, 2) := by decide +kernel
theorem dX4_init_160 : decode cX4_init 160 = .ok (.putfield 68, 3) := by decide +kernel
theorem dX4_init_163 : decode cX4_init 163 = .ok (.aload_n 0, 1) := by decide +kernel
theorem dX4_init_164 : decode cX4_init 164 = .ok (.bipush 40, 2) := by decide +kernel
theorem dX4_init_166 : decode cX4_init 166 = .ok (.newarray .int, 2) := by decide +kernel
theorem dX4_init_168 : decode cX4_init 168 = .ok (.putfield 71, 3) := by decide +kernel
theorem dX4_init_171 : decode cX4_init 171 = .ok (.aload_n 0, 1) := by decide +kernel
theorem dX4_init_172 : decode cX4_init 172 = .ok (.bipush 40, 2) := by decide +kernel
theorem dX4_init_174 : decode cX4_init 174 = .ok (.newarray .long, 2) := by decide +kernel
theorem dX4_init_176 : decode cX4_init 176 = .ok (.putfield 74, 3) := by decide +kernel
theorem dX4_init_179 : decode cX4_init 179 = .ok (.aload_n 0, 1) := by decide +kernel
theorem dX4_init_180 : decode cX4_init 180 = .ok (.bipush 40, 2) := by decide +kernel
theorem dX4_init_182 : decode cX4_init 182 = .ok (.newarray .int, 2) := by decide +kernel
theorem dX4_init_184 : decode cX4_init 184 = .ok (.putfield 77, 3) := by decide +kernel
theorem dX4_init_187 : decode cX4_init 187 = .ok (.aload_n 0, 1) := by decide +kernel
theorem dX4_init_188 : decode cX4_init 188 = .ok (.iconst 0, 1) := by decide +kernel
theorem dX4_init_189 : decode cX4_init 189 = .ok (.putfield 80, 3) := by decide +kernel
theorem dX4_init_192 : decode cX4_init 192 = .ok (.return_, 1) := by decide +kernel
theorem dX4_in_0 : decode cX4_in 0 = .ok (.iload_n 0, 1) := by decide +kernel
theorem dX4_in_1 : decode cX4_in 1 = .ok (.iload_n 1, 1) := by decide +kernel
theorem dX4_in_2 : decode cX4_in 2 = .ok (.if_icmp .lt 12, 3) := by decide +kernel
theorem dX4_in_5 : decode cX4_in 5 = .ok (.iload_n 0, 1) := by decide +kernel
theorem dX4_in_6 : decode cX4_in 6 = .ok (.iload_n 2, 1) := by decide +kernel
theorem dX4_in_7 : decode cX4_in 7 = .ok (.if_icmp .gt 7, 3) := by decide +kernel
theorem dX4_in_10 : decode cX4_in 10 = .ok (.iconst 1, 1) := by decide +kernel
theorem dX4_in_11 : decode cX4_in 11 = .ok (.goto 4, 3) := by decide +kernel
theorem dX4_in_14 : decode cX4_in 14 = .ok (.iconst 0, 1) := by decide +kernel
theorem dX4_in_15 : decode cX4_in 15 = .ok (.ireturn, 1) := by decide +kernel
theorem dX4_isThing_0 : decode cX4_isThing 0 = .ok (.iload_n 1, 1) := by decide +kernel
theorem dX4_isThing_1 : decode cX4_isThing 1 = .ok (.iconst 0, 1) := by decide +kernel
theorem dX4_isThing_2 : decode cX4_isThing 2 = .ok (.aload_n 0, 1) := by decide +kernel
theorem dX4_isThing_3 : decode cX4_isThing 3 = .ok (.getfield 80, 3) := by decide +kernel
theorem dX4_isThing_6 : decode cX4_isThing 6 = .ok (.iconst 1, 1) := by decide +kernel
theorem dX4_isThing_7 : decode cX4_isThing 7 = .ok (.isub, 1) := by decide +kernel
theorem dX4_isThing_8 : decode cX4_isThing 8 = .ok (.invokestatic 84, 3) := by decide +kernel
theorem dX4_isThing_11 : decode cX4_isThing 11 = .ok (.ireturn, 1) := by decide +kernel
theorem dX4_is_0 : decode cX4_is 0 = .ok (.iload_n 2, 1) := by decide +kernel
theorem dX4_is_1 : decode cX4_is 1 = .ok (.iconst 0, 1) := by decide +kernel
theorem dX4_is_2 : decode cX4_is 2 = .ok (.aload_n 0, 1) := by decide +kernel
theorem dX4_is_3 : decode cX4_is 3 = .ok (.getfield 20, 3) := by decide +kernel
theorem dX4_is_6 : decode cX4_is 6 = .ok (.iload_n 1, 1) := by decide +kernel
theorem dX4_is_7 : decode cX4_is 7 = .ok (.iaload, 1) := by decide +kernel
theorem dX4_is_8 : decode cX4_is 8 = .ok (.iconst 1, 1) := by decide +kernel
theorem dX4_is_9 : decode cX4_is 9 = .ok (.isub, 1) := by decide +kernel
theorem dX4_is_10 : decode cX4_is 10 = .ok (.invokestatic 84, 3) := by decide +kernel
theorem dX4_is_13 : decode cX4_is 13 = .ok (.ireturn, 1) := by decide +kernel
theorem dX4_thing_0 : decode cX4_thing 0 = .ok (.aload_n 0, 1) := by decide +kernel
theorem dX4_thing_1 : decode cX4_thing 1 = .ok (.getfield 80, 3) := by decide +kernel
theorem dX4_thing_4 : decode cX4_thing 4 = .ok (.bipush 40, 2) := by decide +kernel
theorem dX4_thing_6 : decode cX4_thing 6 = .ok (.if_icmp .ne 6, 3) := by decide +kernel
theorem dX4_thing_9 : decode cX4_thing 9 = .ok (.bipush (-2), 2) := by decide +kernel
theorem dX4_thing_11 : decode cX4_thing 11 = .ok (.ireturn, 1) := by decide +kernel
theorem dX4_thing_12 : decode cX4_thing 12 = .ok (.aload_n 0, 1) := by decide +kernel
theorem dX4_thing_13 : decode cX4_thing 13 = .ok (.getfield 7, 3) := by decide +kernel
theorem dX4_thing_16 : decode cX4_thing 16 = .ok (.iconst 3, 1) := by decide +kernel
theorem dX4_thing_17 : decode cX4_thing 17 = .ok (.aload_n 0, 1) := by decide +kernel
theorem dX4_thing_18 : decode cX4_thing 18 = .ok (.getfield 80, 3) := by decide +kernel
theorem dX4_thing_21 : decode cX4_thing 21 = .ok (.imul, 1) := by decide +kernel
theorem dX4_thing_22 : decode cX4_thing 22 = .ok (.lload_n 1, 1) := by decide +kernel
theorem dX4_thing_23 : decode cX4_thing 23 = .ok (.lastore, 1) := by decide +kernel
theorem dX4_thing_24 : decode cX4_thing 24 = .ok (.aload_n 0, 1) := by decide +kernel
theorem dX4_thing_25 : decode cX4_thing 25 = .ok (.getfield 7, 3) := by decide +kernel
theorem dX4_thing_28 : decode cX4_thing 28 = .ok (.iconst 3, 1) := by decide +kernel
theorem dX4_thing_29 : decode cX4_thing 29 = .ok (.aload_n 0, 1) := by decide +kernel
theorem dX4_thing_30 : decode cX4_thing 30 = .ok (.getfield 80, 3) := by decide +kernel
theorem dX4_thing_33 : decode cX4_thing 33 = .ok (.imul, 1) := by decide +kernel
theorem dX4_thing_34 : decode cX4_thing 34 = .ok (.iconst 1, 1) := by decide +kernel
theorem dX4_thing_35 : decode cX4_thing 35 = .ok (.iadd, 1) := by decide +kernel
theorem dX4_thing_36 : decode cX4_thing 36 = .ok (.lload_n 3, 1) := by decide +kernel
theorem dX4_thing_37 : decode cX4_thing 37 = .ok (.lastore, 1) := by decide +kernel
theorem dX4_thing_38 : decode cX4_thing 38 = .ok (.aload_n 0, 1) := by decide +kernel
theorem dX4_thing_39 : decode cX4_thing 39 = .ok (.getfield 7, 3) := by decide +kernel
theorem dX4_thing_42 : decode cX4_thing 42 = .ok (.iconst 3, 1) := by decide +kernel
theorem dX4_thing_43 : decode cX4_thing 43 = .ok (.aload_n 0, 1) := by decide +kernel
theorem dX4_thing_44 : decode cX4_thing 44 = .ok (.getfield 80, 3) := by decide +kernel
theorem dX4_thing_47 : decode cX4_thing 47 = .ok (.imul, 1) := by decide +kernel
theorem dX4_thing_48 : decode cX4_thing 48 = .ok (.iconst 2, 1) := by decide +kernel
theorem dX4_thing_49 : decode cX4_thing 49 = .ok (.iadd, 1) := by decide +kernel
theorem dX4_thing_50 : decode cX4_thing 50 = .ok (.lload 5, 2) := by decide +kernel
theorem dX4_thing_52 : decode cX4_thing 52 = .ok (.lastore, 1) := by decide +kernel
theorem dX4_thing_53 : decode cX4_thing 53 = .ok (.aload_n 0, 1) := by decide +kernel
theorem dX4_thing_54 : decode cX4_thing 54 = .ok (.getfield 16, 3) := by decide +kernel
theorem dX4_thing_57 : decode cX4_thing 57 = .ok (.aload_n 0, 1) := by decide +kernel
theorem dX4_thing_58 : decode cX4_thing 58 = .ok (.getfield 88, 3) := by decide +kernel
theorem dX4_thing_61 : decode cX4_thing 61 = .ok (.aload_n 0, 1) := by decide +kernel
theorem dX4_thing_62 : decode cX4_thing 62 = .ok (.getfield 80, 3) := by decide +kernel
theorem dX4_thing_65 : decode cX4_thing 65 = .ok (.iastore, 1) := by decide +kernel
theorem dX4_thing_66 : decode cX4_thing 66 = .ok (.aload_n 0, 1) := by decide +kernel
theorem dX4_thing_67 : decode cX4_thing 67 = .ok (.dup, 1) := by decide +kernel
theorem dX4_thing_68 : decode cX4_thing 68 = .ok (.getfield 88, 3) := by decide +kernel
theorem dX4_thing_71 : decode cX4_thing 71 = .ok (.iconst 1, 1) := by decide +kernel
theorem dX4_thing_72 : decode cX4_thing 72 = .ok (.iadd, 1) := by decide +kernel
theorem dX4_thing_73 : decode cX4_thing 73 = .ok (.putfield 88, 3) := by decide +kernel
theorem dX4_thing_76 : decode cX4_thing 76 = .ok (.aload_n 0, 1) := by decide +kernel
theorem dX4_thing_77 : decode cX4_thing 77 = .ok (.dup, 1) := by decide +kernel
theorem dX4_thing_78 : decode cX4_thing 78 = .ok (.getfield 80, 3) := by decide +kernel
theorem dX4_thing_81 : decode cX4_thing 81 = .ok (.iconst 1, 1) := by decide +kernel
theorem dX4_thing_82 : decode cX4_thing 82 = .ok (.iadd, 1) := by decide +kernel
theorem dX4_thing_83 : decode cX4_thing 83 = .ok (.putfield 80, 3) := by decide +kernel
theorem dX4_thing_86 : decode cX4_thing 86 = .ok (.aload_n 0, 1) := by decide +kernel
theorem dX4_thing_87 : decode cX4_thing 87 = .ok (.getfield 80, 3) := by decide +kernel
theorem dX4_thing_90 : decode cX4_thing 90 = .ok (.iconst 1, 1) := by decide +kernel
theorem dX4_thing_91 : decode cX4_thing 91 = .ok (.isub, 1) := by decide +kernel
theorem dX4_thing_92 : decode cX4_thing 92 = .ok (.ireturn, 1) := by decide +kernel
theorem dX4_change_0 : decode cX4_change 0 = .ok (.aload_n 0, 1) := by decide +kernel
theorem dX4_change_1 : decode cX4_change 1 = .ok (.iload_n 1, 1) := by decide +kernel
theorem dX4_change_2 : decode cX4_change 2 = .ok (.invokevirtual 91, 3) := by decide +kernel
theorem dX4_change_5 : decode cX4_change 5 = .ok (.ifCond .eq 12, 3) := by decide +kernel
theorem dX4_change_8 : decode cX4_change 8 = .ok (.iload_n 2, 1) := by decide +kernel
theorem dX4_change_9 : decode cX4_change 9 = .ok (.iconst 0, 1) := by decide +kernel
theorem dX4_change_10 : decode cX4_change 10 = .ok (.iconst 2, 1) := by decide +kernel
theorem dX4_change_11 : decode cX4_change 11 = .ok (.invokestatic 84, 3) := by decide +kernel
theorem dX4_change_14 : decode cX4_change 14 = .ok (.ifCond .ne 5, 3) := by decide +kernel
theorem dX4_change_17 : decode cX4_change 17 = .ok (.iconst (-1), 1) := by decide +kernel
theorem dX4_change_18 : decode cX4_change 18 = .ok (.ireturn, 1) := by decide +kernel
theorem dX4_change_19 : decode cX4_change 19 = .ok (.aload_n 0, 1) := by decide +kernel
theorem dX4_change_20 : decode cX4_change 20 = .ok (.getfield 7, 3) := by decide +kernel
theorem dX4_change_23 : decode cX4_change 23 = .ok (.iconst 3, 1) := by decide +kernel
theorem dX4_change_24 : decode cX4_change 24 = .ok (.iload_n 1, 1) := by decide +kernel
theorem dX4_change_25 : decode cX4_change 25 = .ok (.imul, 1) := by decide +kernel
theorem dX4_change_26 : decode cX4_change 26 = .ok (.iload_n 2, 1) := by decide +kernel
theorem dX4_change_27 : decode cX4_change 27 = .ok (.iadd, 1) := by decide +kernel
theorem dX4_change_28 : decode cX4_change 28 = .ok (.lload_n 3, 1) := by decide +kernel
theorem dX4_change_29 : decode cX4_change 29 = .ok (.lastore, 1) := by decide +kernel
theorem dX4_change_30 : decode cX4_change 30 = .ok (.iconst 1, 1) := by decide +kernel
theorem dX4_change_31 : decode cX4_change 31 = .ok (.ireturn, 1) := by decide +kernel
theorem dX4_get_0 : decode cX4_get 0 = .ok (.aload_n 0, 1) := by decide +kernel
theorem dX4_get_1 : decode cX4_get 1 = .ok (.iload_n 1, 1) := by decide +kernel
theorem dX4_get_2 : decode cX4_get 2 = .ok (.invokevirtual 91, 3) := by decide +kernel
theorem dX4_get_5 : decode cX4_get 5 = .ok (.ifCond .eq 25, 3) := by decide +kernel
theorem dX4_get_8 : decode cX4_get 8 = .ok (.iload_n 2, 1) := by decide +kernel
theorem dX4_get_9 : decode cX4_get 9 = .ok (.iconst 0, 1) := by decide +kernel
theorem dX4_get_10 : decode cX4_get 10 = .ok (.iconst 2, 1) := by decide +kernel
theorem dX4_get_11 : decode cX4_get 11 = .ok (.invokestatic 84, 3) := by decide +kernel
theorem dX4_get_14 : decode cX4_get 14 = .ok (.ifCond .eq 16, 3) := by decide +kernel
theorem dX4_get_17 : decode cX4_get 17 = .ok (.aload_n 0, 1) := by decide +kernel
theorem dX4_get_18 : decode cX4_get 18 = .ok (.getfield 7, 3) := by decide +kernel
theorem dX4_get_21 : decode cX4_get 21 = .ok (.iconst 3, 1) := by decide +kernel
theorem dX4_get_22 : decode cX4_get 22 = .ok (.iload_n 1, 1) := by decide +kernel
theorem dX4_get_23 : decode cX4_get 23 = .ok (.imul, 1) := by decide +kernel
theorem dX4_get_24 : decode cX4_get 24 = .ok (.iload_n 2, 1) := by decide +kernel
theorem dX4_get_25 : decode cX4_get 25 = .ok (.iadd, 1) := by decide +kernel
theorem dX4_get_26 : decode cX4_get 26 = .ok (.laload, 1) := by decide +kernel
theorem dX4_get_27 : decode cX4_get 27 = .ok (.goto 4, 3) := by decide +kernel
theorem dX4_get_30 : decode cX4_get 30 = .ok (.lconst 0, 1) := by decide +kernel
theorem dX4_get_31 : decode cX4_get 31 = .ok (.lreturn, 1) := by decide +kernel
theorem dX4_item_0 : decode cX4_item 0 = .ok (.iload_n 1, 1) := by decide +kernel
theorem dX4_item_1 : decode cX4_item 1 = .ok (.iconst 0, 1) := by decide +kernel
theorem dX4_item_2 : decode cX4_item 2 = .ok (.bipush 7, 2) := by decide +kernel
theorem dX4_item_4 : decode cX4_item 4 = .ok (.invokestatic 84, 3) := by decide +kernel
theorem dX4_item_7 : decode cX4_item 7 = .ok (.ifCond .ne 5, 3) := by decide +kernel
theorem dX4_item_10 : decode cX4_item 10 = .ok (.iconst (-1), 1) := by decide +kernel
theorem dX4_item_11 : decode cX4_item 11 = .ok (.ireturn, 1) := by decide +kernel
theorem dX4_item_12 : decode cX4_item 12 = .ok (.aload_n 0, 1) := by decide +kernel
theorem dX4_item_13 : decode cX4_item 13 = .ok (.getfield 13, 3) := by decide +kernel
theorem dX4_item_16 : decode cX4_item 16 = .ok (.iload_n 1, 1) := by decide +kernel
theorem dX4_item_17 : decode cX4_item 17 = .ok (.lload_n 2, 1) := by decide +kernel
theorem dX4_item_18 : decode cX4_item 18 = .ok (.lastore, 1) := by decide +kernel
theorem dX4_item_19 : decode cX4_item 19 = .ok (.iconst 1, 1) := by decide +kernel
theorem dX4_item_20 : decode cX4_item 20 = .ok (.ireturn, 1) := by decide +kernel
theorem dX4_begins_0 : decode cX4_begins 0 = .ok (.aload_n 0, 1) := by decide +kernel
theorem dX4_begins_1 : decode cX4_begins 1 = .ok (.getfield 95, 3) := by decide +kernel
theorem dX4_begins_4 : decode cX4_begins 4 = .ok (.sipush 2000, 3) := by decide +kernel
theorem dX4_begins_7 : decode cX4_begins 7 = .ok (.if_icmp .ne 9, 3) := by decide +kernel
theorem dX4_begins_10 : decode cX4_begins 10 = .ok (.aload_n 0, 1) := by decide +kernel
theorem dX4_begins_11 : decode cX4_begins 11 = .ok (.iconst 4, 1) := by decide +kernel
theorem dX4_begins_12 : decode cX4_begins 12 = .ok (.putfield 98, 3) := by decide +kernel
theorem dX4_begins_15 : decode cX4_begins 15 = .ok (.return_, 1) := by decide +kernel
theorem dX4_begins_16 : decode cX4_begins 16 = .ok (.aload_n 0, 1) := by decide +kernel
theorem dX4_begins_17 : decode cX4_begins 17 = .ok (.dup, 1) := by decide +kernel
theorem dX4_begins_18 : decode cX4_begins 18 = .ok (.getfield 95, 3) := by decide +kernel
theorem dX4_begins_21 : decode cX4_begins 21 = .ok (.iconst 1, 1) := by decide +kernel
theorem dX4_begins_22 : decode cX4_begins 22 = .ok (.iadd, 1) := by decide +kernel
theorem dX4_begins_23 : decode cX4_begins 23 = .ok (.putfield 95, 3) := by decide +kernel
theorem dX4_begins_26 : decode cX4_begins 26 = .ok (.aload_n 0, 1) := by decide +kernel
theorem dX4_begins_27 : decode cX4_begins 27 = .ok (.dup, 1) := by decide +kernel
theorem dX4_begins_28 : decode cX4_begins 28 = .ok (.getfield 101, 3) := by decide +kernel
theorem dX4_begins_31 : decode cX4_begins 31 = .ok (.iconst 1, 1) := by decide +kernel
theorem dX4_begins_32 : decode cX4_begins 32 = .ok (.iadd, 1) := by decide +kernel
theorem dX4_begins_33 : decode cX4_begins 33 = .ok (.putfield 101, 3) := by decide +kernel
theorem dX4_begins_36 : decode cX4_begins 36 = .ok (.aload_n 0, 1) := by decide +kernel
theorem dX4_begins_37 : decode cX4_begins 37 = .ok (.getfield 38, 3) := by decide +kernel
theorem dX4_begins_40 : decode cX4_begins 40 = .ok (.aload_n 0, 1) := by decide +kernel
theorem dX4_begins_41 : decode cX4_begins 41 = .ok (.getfield 104, 3) := by decide +kernel
theorem dX4_begins_44 : decode cX4_begins 44 = .ok (.bipush 24, 2) := by decide +kernel
theorem dX4_begins_46 : decode cX4_begins 46 = .ok (.iload_n 1, 1) := by decide +kernel
theorem dX4_begins_47 : decode cX4_begins 47 = .ok (.imul, 1) := by decide +kernel
theorem dX4_begins_48 : decode cX4_begins 48 = .ok (.iload_n 2, 1) := by decide +kernel
theorem dX4_begins_49 : decode cX4_begins 49 = .ok (.iadd, 1) := by decide +kernel
theorem dX4_begins_50 : decode cX4_begins 50 = .ok (.iastore, 1) := by decide +kernel
theorem dX4_begins_51 : decode cX4_begins 51 = .ok (.aload_n 0, 1) := by decide +kernel
theorem dX4_begins_52 : decode cX4_begins 52 = .ok (.getfield 41, 3) := by decide +kernel
theorem dX4_begins_55 : decode cX4_begins 55 = .ok (.aload_n 0, 1) := by decide +kernel
theorem dX4_begins_56 : decode cX4_begins 56 = .ok (.getfield 104, 3) := by decide +kernel
theorem dX4_begins_59 : decode cX4_begins 59 = .ok (.iload_n 3, 1) := by decide +kernel
theorem dX4_begins_60 : decode cX4_begins 60 = .ok (.iastore, 1) := by decide +kernel
theorem dX4_begins_61 : decode cX4_begins 61 = .ok (.aload_n 0, 1) := by decide +kernel
theorem dX4_begins_62 : decode cX4_begins 62 = .ok (.getfield 44, 3) := by decide +kernel
theorem dX4_begins_65 : decode cX4_begins 65 = .ok (.aload_n 0, 1) := by decide +kernel
theorem dX4_begins_66 : decode cX4_begins 66 = .ok (.getfield 104, 3) := by decide +kernel
theorem dX4_begins_69 : decode cX4_begins 69 = .ok (.iload 4, 2) := by decide +kernel
theorem dX4_begins_71 : decode cX4_begins 71 = .ok (.iastore, 1) := by decide +kernel
theorem dX4_begins_72 : decode cX4_begins 72 = .ok (.aload_n 0, 1) := by decide +kernel
theorem dX4_begins_73 : decode cX4_begins 73 = .ok (.getfield 47, 3) := by decide +kernel
theorem dX4_begins_76 : decode cX4_begins 76 = .ok (.aload_n 0, 1) := by decide +kernel
theorem dX4_begins_77 : decode cX4_begins 77 = .ok (.getfield 104, 3) := by decide +kernel
theorem dX4_begins_80 : decode cX4_begins 80 = .ok (.iconst 0, 1) := by decide +kernel
theorem dX4_begins_81 : decode cX4_begins 81 = .ok (.iastore, 1) := by decide +kernel
theorem dX4_begins_82 : decode cX4_begins 82 = .ok (.aload_n 0, 1) := by decide +kernel
theorem dX4_begins_83 : decode cX4_begins 83 = .ok (.dup, 1) := by decide +kernel
theorem dX4_begins_84 : decode cX4_begins 84 = .ok (.getfield 104, 3) := by decide +kernel
theorem dX4_begins_87 : decode cX4_begins 87 = .ok (.iconst 1, 1) := by decide +kernel
theorem dX4_begins_88 : decode cX4_begins 88 = .ok (.iadd, 1) := by decide +kernel
theorem dX4_begins_89 : decode cX4_begins 89 = .ok (.putfield 104, 3) := by decide +kernel
theorem dX4_begins_92 : decode cX4_begins 92 = .ok (.return_, 1) := by decide +kernel
theorem dX4_tells_0 : decode cX4_tells 0 = .ok (.aload_n 0, 1) := by decide +kernel
theorem dX4_tells_1 : decode cX4_tells 1 = .ok (.lload_n 1, 1) := by decide +kernel
theorem dX4_tells_2 : decode cX4_tells 2 = .ok (.putfield 107, 3) := by decide +kernel
theorem dX4_tells_5 : decode cX4_tells 5 = .ok (.aload_n 0, 1) := by decide +kernel
theorem dX4_tells_6 : decode cX4_tells 6 = .ok (.dup, 1) := by decide +kernel
theorem dX4_tells_7 : decode cX4_tells 7 = .ok (.getfield 104, 3) := by decide +kernel
theorem dX4_tells_10 : decode cX4_tells 10 = .ok (.iconst 1, 1) := by decide +kernel
theorem dX4_tells_11 : decode cX4_tells 11 = .ok (.isub, 1) := by decide +kernel
theorem dX4_tells_12 : decode cX4_tells 12 = .ok (.putfield 104, 3) := by decide +kernel
theorem dX4_tells_15 : decode cX4_tells 15 = .ok (.return_, 1) := by decide +kernel
theorem dX4_goesScale_0 : decode cX4_goesScale 0 = .ok (.aload_n 0, 1) := by decide +kernel
theorem dX4_goesScale_1 : decode cX4_goesScale 1 = .ok (.getfield 23, 3) := by decide +kernel
theorem dX4_goesScale_4 : decode cX4_goesScale 4 = .ok (.iload_n 1, 1) := by decide +kernel
theorem dX4_goesScale_5 : decode cX4_goesScale 5 = .ok (.iaload, 1) := by decide +kernel
theorem dX4_goesScale_6 : decode cX4_goesScale 6 = .ok (.istore 6, 2) := by decide +kernel
theorem dX4_goesScale_8 : decode cX4_goesScale 8 = .ok (.aload_n 0, 1) := by decide +kernel
theorem dX4_goesScale_9 : decode cX4_goesScale 9 = .ok (.getfield 26, 3) := by decide +kernel
theorem dX4_goesScale_12 : decode cX4_goesScale 12 = .ok (.iload_n 1, 1) := by decide +kernel
theorem dX4_goesScale_13 : decode cX4_goesScale 13 = .ok (.iaload, 1) := by decide +kernel
theorem dX4_goesScale_14 : decode cX4_goesScale 14 = .ok (.istore 7, 2) := by decide +kernel
theorem dX4_goesScale_16 : decode cX4_goesScale 16 = .ok (.aload_n 0, 1) := by decide +kernel
theorem dX4_goesScale_17 : decode cX4_goesScale 17 = .ok (.getfield 29, 3) := by decide +kernel
theorem dX4_goesScale_20 : decode cX4_goesScale 20 = .ok (.iload_n 1, 1) := by decide +kernel
theorem dX4_goesScale_21 : decode cX4_goesScale 21 = .ok (.iaload, 1) := by decide +kernel
theorem dX4_goesScale_22 : decode cX4_goesScale 22 = .ok (.istore 8, 2) := by decide +kernel
theorem dX4_goesScale_24 : decode cX4_goesScale 24 = .ok (.iload 6, 2) := by decide +kernel
theorem dX4_goesScale_26 : decode cX4_goesScale 26 = .ok (.bipush 11, 2) := by decide +kernel
theorem dX4_goesScale_28 : decode cX4_goesScale 28 = .ok (.if_icmp .ne 11, 3) := by decide +kernel
theorem dX4_goesScale_31 : decode cX4_goesScale 31 = .ok (.aload_n 0, 1) := by decide +kernel
theorem dX4_goesScale_32 : decode cX4_goesScale 32 = .ok (.iconst 3, 1) := by decide +kernel
theorem dX4_goesScale_33 : decode cX4_goesScale 33 = .ok (.putfield 98, 3) := by decide +kernel
theorem dX4_goesScale_36 : decode cX4_goesScale 36 = .ok (.goto 254, 3) := by decide +kernel
theorem dX4_goesScale_39 : decode cX4_goesScale 39 = .ok (.iload 6, 2) := by decide +kernel
theorem dX4_goesScale_41 : decode cX4_goesScale 41 = .ok (.iconst 2, 1) := by decide +kernel
theorem dX4_goesScale_42 : decode cX4_goesScale 42 = .ok (.if_icmp .ge 36, 3) := by decide +kernel
theorem dX4_goesScale_45 : decode cX4_goesScale 45 = .ok (.aload_n 0, 1) := by decide +kernel
theorem dX4_goesScale_46 : decode cX4_goesScale 46 = .ok (.iload 6, 2) := by decide +kernel
theorem dX4_goesScale_48 : decode cX4_goesScale 48 = .ok (.ifCond .ne 17, 3) := by decide +kernel
theorem dX4_goesScale_51 : decode cX4_goesScale 51 = .ok (.aload_n 0, 1) := by decide +kernel
theorem dX4_goesScale_52 : decode cX4_goesScale 52 = .ok (.getfield 7, 3) := by decide +kernel
theorem dX4_goesScale_55 : decode cX4_goesScale 55 = .ok (.iconst 3, 1) := by decide +kernel
theorem dX4_goesScale_56 : decode cX4_goesScale 56 = .ok (.iload_n 2, 1) := by decide +kernel
theorem dX4_goesScale_57 : decode cX4_goesScale 57 = .ok (.imul, 1) := by decide +kernel
theorem dX4_goesScale_58 : decode cX4_goesScale 58 = .ok (.iload 7, 2) := by decide +kernel
theorem dX4_goesScale_60 : decode cX4_goesScale 60 = .ok (.iadd, 1) := by decide +kernel
theorem dX4_goesScale_61 : decode cX4_goesScale 61 = .ok (.laload, 1) := by decide +kernel
theorem dX4_goesScale_62 : decode cX4_goesScale 62 = .ok (.goto 10, 3) := by decide +kernel
theorem dX4_goesScale_65 : decode cX4_goesScale 65 = .ok (.iload 7, 2) := by decide +kernel
theorem dX4_goesScale_67 : decode cX4_goesScale 67 = .ok (.i2l, 1) := by decide +kernel
theorem dX4_goesScale_68 : decode cX4_goesScale 68 = .ok (.iload 8, 2) := by decide +kernel
theorem dX4_goesScale_70 : decode cX4_goesScale 70 = .ok (.i2l, 1) := by decide +kernel
theorem dX4_goesScale_71 : decode cX4_goesScale 71 = .ok (.ladd, 1) := by decide +kernel
theorem dX4_goesScale_72 : decode cX4_goesScale 72 = .ok (.invokevirtual 111, 3) := by decide +kernel
theorem dX4_goesScale_75 : decode cX4_goesScale 75 = .ok (.goto 215, 3) := by decide +kernel
theorem dX4_goesScale_78 : decode cX4_goesScale 78 = .ok (.iload 6, 2) := by decide +kernel
theorem dX4_goesScale_80 : decode cX4_goesScale 80 = .ok (.bipush 8, 2) := by decide +kernel
theorem dX4_goesScale_82 : decode cX4_goesScale 82 = .ok (.if_icmp .eq 10, 3) := by decide +kernel
theorem dX4_goesScale_85 : decode cX4_goesScale 85 = .ok (.iload 6, 2) := by decide +kernel
theorem dX4_goesScale_87 : decode cX4_goesScale 87 = .ok (.bipush 9, 2) := by decide +kernel
theorem dX4_goesScale_89 : decode cX4_goesScale 89 = .ok (.if_icmp .ne 16, 3) := by decide +kernel
theorem dX4_goesScale_92 : decode cX4_goesScale 92 = .ok (.aload_n 0, 1) := by decide +kernel
theorem dX4_goesScale_93 : decode cX4_goesScale 93 = .ok (.aload_n 0, 1) := by decide +kernel
theorem dX4_goesScale_94 : decode cX4_goesScale 94 = .ok (.getfield 32, 3) := by decide +kernel
theorem dX4_goesScale_97 : decode cX4_goesScale 97 = .ok (.iload_n 1, 1) := by decide +kernel
theorem dX4_goesScale_98 : decode cX4_goesScale 98 = .ok (.laload, 1) := by decide +kernel
theorem dX4_goesScale_99 : decode cX4_goesScale 99 = .ok (.invokevirtual 111, 3) := by decide +kernel
theorem dX4_goesScale_102 : decode cX4_goesScale 102 = .ok (.goto 188, 3) := by decide +kernel
theorem dX4_goesScale_105 : decode cX4_goesScale 105 = .ok (.iload 6, 2) := by decide +kernel
theorem dX4_goesScale_107 : decode cX4_goesScale 107 = .ok (.bipush 10, 2) := by decide +kernel
theorem dX4_goesScale_109 : decode cX4_goesScale 109 = .ok (.if_icmp .ne 37, 3) := by decide +kernel
theorem dX4_goesScale_112 : decode cX4_goesScale 112 = .ok (.aload_n 0, 1) := by decide +kernel
theorem dX4_goesScale_113 : decode cX4_goesScale 113 = .ok (.getfield 35, 3) := by decide +kernel
theorem dX4_goesScale_116 : decode cX4_goesScale 116 = .ok (.iload_n 1, 1) := by decide +kernel
theorem dX4_goesScale_117 : decode cX4_goesScale 117 = .ok (.dup2, 1) := by decide +kernel
theorem dX4_goesScale_118 : decode cX4_goesScale 118 = .ok (.iaload, 1) := by decide +kernel
theorem dX4_goesScale_119 : decode cX4_goesScale 119 = .ok (.iconst 1, 1) := by decide +kernel
theorem dX4_goesScale_120 : decode cX4_goesScale 120 = .ok (.iadd, 1) := by decide +kernel
theorem dX4_goesScale_121 : decode cX4_goesScale 121 = .ok (.iastore, 1) := by decide +kernel
theorem dX4_goesScale_122 : decode cX4_goesScale 122 = .ok (.aload_n 0, 1) := by decide +kernel
theorem dX4_goesScale_123 : decode cX4_goesScale 123 = .ok (.aload_n 0, 1) := by decide +kernel
theorem dX4_goesScale_124 : decode cX4_goesScale 124 = .ok (.getfield 35, 3) := by decide +kernel
theorem dX4_goesScale_127 : decode cX4_goesScale 127 = .ok (.iload_n 1, 1) := by decide +kernel
theorem dX4_goesScale_128 : decode cX4_goesScale 128 = .ok (.iaload, 1) := by decide +kernel
theorem dX4_goesScale_129 : decode cX4_goesScale 129 = .ok (.i2l, 1) := by decide +kernel
theorem dX4_goesScale_130 : decode cX4_goesScale 130 = .ok (.lconst 1, 1) := by decide +kernel
theorem dX4_goesScale_131 : decode cX4_goesScale 131 = .ok (.lsub, 1) := by decide +kernel
theorem dX4_goesScale_132 : decode cX4_goesScale 132 = .ok (.iload 7, 2) := by decide +kernel
theorem dX4_goesScale_134 : decode cX4_goesScale 134 = .ok (.i2l, 1) := by decide +kernel
theorem dX4_goesScale_135 : decode cX4_goesScale 135 = .ok (.lmul, 1) := by decide +kernel
theorem dX4_goesScale_136 : decode cX4_goesScale 136 = .ok (.iload 8, 2) := by decide +kernel
theorem dX4_goesScale_138 : decode cX4_goesScale 138 = .ok (.i2l, 1) := by decide +kernel
theorem dX4_goesScale_139 : decode cX4_goesScale 139 = .ok (.ladd, 1) := by decide +kernel
theorem dX4_goesScale_140 : decode cX4_goesScale 140 = .ok (.invokevirtual 111, 3) := by decide +kernel
theorem dX4_goesScale_143 : decode cX4_goesScale 143 = .ok (.goto 147, 3) := by decide +kernel
theorem dX4_goesScale_146 : decode cX4_goesScale 146 = .ok (.iload_n 3, 1) := by decide +kernel
theorem dX4_goesScale_147 : decode cX4_goesScale 147 = .ok (.ifCond .ne 26, 3) := by decide +kernel
theorem dX4_goesScale_150 : decode cX4_goesScale 150 = .ok (.aload_n 0, 1) := by decide +kernel
theorem dX4_goesScale_151 : decode cX4_goesScale 151 = .ok (.iload 6, 2) := by decide +kernel
theorem dX4_goesScale_153 : decode cX4_goesScale 153 = .ok (.bipush 6, 2) := by decide +kernel
theorem dX4_goesScale_155 : decode cX4_goesScale 155 = .ok (.if_icmp .ne 7, 3) := by decide +kernel
theorem dX4_goesScale_158 : decode cX4_goesScale 158 = .ok (.iconst 1, 1) := by decide +kernel
theorem dX4_goesScale_159 : decode cX4_goesScale 159 = .ok (.goto 4, 3) := by decide +kernel
theorem dX4_goesScale_162 : decode cX4_goesScale 162 = .ok (.iconst 0, 1) := by decide +kernel
theorem dX4_goesScale_163 : decode cX4_goesScale 163 = .ok (.iload 7, 2) := by decide +kernel
theorem dX4_goesScale_165 : decode cX4_goesScale 165 = .ok (.iload_n 2, 1) := by decide +kernel
theorem dX4_goesScale_166 : decode cX4_goesScale 166 = .ok (.iload_n 2, 1) := by decide +kernel
theorem dX4_goesScale_167 : decode cX4_goesScale 167 = .ok (.invokevirtual 115, 3) := by decide +kernel
theorem dX4_goesScale_170 : decode cX4_goesScale 170 = .ok (.goto 120, 3) := by decide +kernel
theorem dX4_goesScale_173 : decode cX4_goesScale 173 = .ok (.iload 6, 2) := by decide +kernel
theorem dX4_goesScale_175 : decode cX4_goesScale 175 = .ok (.bipush 7, 2) := by decide +kernel
theorem dX4_goesScale_177 : decode cX4_goesScale 177 = .ok (.if_icmp .ne 42, 3) := by decide +kernel
theorem dX4_goesScale_180 : decode cX4_goesScale 180 = .ok (.lload 4, 2) := by decide +kernel
theorem dX4_goesScale_182 : decode cX4_goesScale 182 = .ok (.lconst 0, 1) := by decide +kernel
theorem dX4_goesScale_183 : decode cX4_goesScale 183 = .ok (.lcmp, 1) := by decide +kernel
theorem dX4_goesScale_184 : decode cX4_goesScale 184 = .ok (.ifCond .lt 12, 3) := by decide +kernel
theorem dX4_goesScale_187 : decode cX4_goesScale 187 = .ok (.lload 4, 2) := by decide +kernel
theorem dX4_goesScale_189 : decode cX4_goesScale 189 = .ok (.ldc2_w 119, 3) := by decide +kernel
theorem dX4_goesScale_192 : decode cX4_goesScale 192 = .ok (.lcmp, 1) := by decide +kernel
theorem dX4_goesScale_193 : decode cX4_goesScale 193 = .ok (.ifCond .le 11, 3) := by decide +kernel
theorem dX4_goesScale_196 : decode cX4_goesScale 196 = .ok (.aload_n 0, 1) := by decide +kernel
theorem dX4_goesScale_197 : decode cX4_goesScale 197 = .ok (.iconst 2, 1) := by decide +kernel
theorem dX4_goesScale_198 : decode cX4_goesScale 198 = .ok (.putfield 98, 3) := by decide +kernel
theorem dX4_goesScale_201 : decode cX4_goesScale 201 = .ok (.goto 89, 3) := by decide +kernel
theorem dX4_goesScale_204 : decode cX4_goesScale 204 = .ok (.aload_n 0, 1) := by decide +kernel
theorem dX4_goesScale_205 : decode cX4_goesScale 205 = .ok (.aload_n 0, 1) := by decide +kernel
theorem dX4_goesScale_206 : decode cX4_goesScale 206 = .ok (.getfield 13, 3) := by decide +kernel
theorem dX4_goesScale_209 : decode cX4_goesScale 209 = .ok (.lload 4, 2) := by decide +kernel
theorem dX4_goesScale_211 : decode cX4_goesScale 211 = .ok (.l2i, 1) := by decide +kernel
theorem dX4_goesScale_212 : decode cX4_goesScale 212 = .ok (.laload, 1) := by decide +kernel
theorem dX4_goesScale_213 : decode cX4_goesScale 213 = .ok (.invokevirtual 111, 3) := by decide +kernel
theorem dX4_goesScale_216 : decode cX4_goesScale 216 = .ok (.goto 74, 3) := by decide +kernel
theorem dX4_goesScale_219 : decode cX4_goesScale 219 = .ok (.iload_n 3, 1) := by decide +kernel
theorem dX4_goesScale_220 : decode cX4_goesScale 220 = .ok (.iconst 1, 1) := by decide +kernel
theorem dX4_goesScale_221 : decode cX4_goesScale 221 = .ok (.if_icmp .ne 50, 3) := by decide +kernel
theorem dX4_goesScale_224 : decode cX4_goesScale 224 = .ok (.iload 6, 2) := by decide +kernel
theorem dX4_goesScale_226 : decode cX4_goesScale 226 = .ok (.bipush 6, 2) := by decide +kernel
theorem dX4_goesScale_228 : decode cX4_goesScale 228 = .ok (.if_icmp .ne 18, 3) := by decide +kernel
theorem dX4_goesScale_231 : decode cX4_goesScale 231 = .ok (.lload 4, 2) := by decide +kernel
theorem dX4_goesScale_233 : decode cX4_goesScale 233 = .ok (.lconst 0, 1) := by decide +kernel
theorem dX4_goesScale_234 : decode cX4_goesScale 234 = .ok (.lcmp, 1) := by decide +kernel
theorem dX4_goesScale_235 : decode cX4_goesScale 235 = .ok (.ifCond .ne 11, 3) := by decide +kernel
theorem dX4_goesScale_238 : decode cX4_goesScale 238 = .ok (.aload_n 0, 1) := by decide +kernel
theorem dX4_goesScale_239 : decode cX4_goesScale 239 = .ok (.lconst 0, 1) := by decide +kernel
theorem dX4_goesScale_240 : decode cX4_goesScale 240 = .ok (.invokevirtual 111, 3) := by decide +kernel
theorem dX4_goesScale_243 : decode cX4_goesScale 243 = .ok (.goto 47, 3) := by decide +kernel
theorem dX4_goesScale_246 : decode cX4_goesScale 246 = .ok (.aload_n 0, 1) := by decide +kernel
theorem dX4_goesScale_247 : decode cX4_goesScale 247 = .ok (.getfield 50, 3) := by decide +kernel
theorem dX4_goesScale_250 : decode cX4_goesScale 250 = .ok (.aload_n 0, 1) := by decide +kernel
theorem dX4_goesScale_251 : decode cX4_goesScale 251 = .ok (.getfield 104, 3) := by decide +kernel
theorem dX4_goesScale_254 : decode cX4_goesScale 254 = .ok (.iconst 1, 1) := by decide +kernel
theorem dX4_goesScale_255 : decode cX4_goesScale 255 = .ok (.isub, 1) := by decide +kernel
theorem dX4_goesScale_256 : decode cX4_goesScale 256 = .ok (.lload 4, 2) := by decide +kernel
theorem dX4_goesScale_258 : decode cX4_goesScale 258 = .ok (.lastore, 1) := by decide +kernel
theorem dX4_goesScale_259 : decode cX4_goesScale 259 = .ok (.aload_n 0, 1) := by decide +kernel
theorem dX4_goesScale_260 : decode cX4_goesScale 260 = .ok (.iconst 0, 1) := by decide +kernel
theorem dX4_goesScale_261 : decode cX4_goesScale 261 = .ok (.iload 8, 2) := by decide +kernel
theorem dX4_goesScale_263 : decode cX4_goesScale 263 = .ok (.iload_n 2, 1) := by decide +kernel
theorem dX4_goesScale_264 : decode cX4_goesScale 264 = .ok (.iload_n 2, 1) := by decide +kernel
theorem dX4_goesScale_265 : decode cX4_goesScale 265 = .ok (.invokevirtual 115, 3) := by decide +kernel
theorem dX4_goesScale_268 : decode cX4_goesScale 268 = .ok (.goto 22, 3) := by decide +kernel
theorem dX4_goesScale_271 : decode cX4_goesScale 271 = .ok (.aload_n 0, 1) := by decide +kernel
theorem dX4_goesScale_272 : decode cX4_goesScale 272 = .ok (.iload 6, 2) := by decide +kernel
theorem dX4_goesScale_274 : decode cX4_goesScale 274 = .ok (.aload_n 0, 1) := by decide +kernel
theorem dX4_goesScale_275 : decode cX4_goesScale 275 = .ok (.getfield 50, 3) := by decide +kernel
theorem dX4_goesScale_278 : decode cX4_goesScale 278 = .ok (.aload_n 0, 1) := by decide +kernel
theorem dX4_goesScale_279 : decode cX4_goesScale 279 = .ok (.getfield 104, 3) := by decide +kernel
theorem dX4_goesScale_282 : decode cX4_goesScale 282 = .ok (.iconst 1, 1) := by decide +kernel
theorem dX4_goesScale_283 : decode cX4_goesScale 283 = .ok (.isub, 1) := by decide +kernel
theorem dX4_goesScale_284 : decode cX4_goesScale 284 = .ok (.laload, 1) := by decide +kernel
theorem dX4_goesScale_285 : decode cX4_goesScale 285 = .ok (.lload 4, 2) := by decide +kernel
theorem dX4_goesScale_287 : decode cX4_goesScale 287 = .ok (.invokevirtual 121, 3) := by decide +kernel
theorem dX4_goesScale_290 : decode cX4_goesScale 290 = .ok (.return_, 1) := by decide +kernel
theorem dX4_both_0 : decode cX4_both 0 = .ok (.iload_n 1, 1) := by decide +kernel
theorem dX4_both_1 : decode cX4_both 1 = .ok (.iconst 4, 1) := by decide +kernel
theorem dX4_both_2 : decode cX4_both 2 = .ok (.if_icmp .ne 16, 3) := by decide +kernel
theorem dX4_both_5 : decode cX4_both 5 = .ok (.lload 4, 2) := by decide +kernel
theorem dX4_both_7 : decode cX4_both 7 = .ok (.lconst 0, 1) := by decide +kernel
theorem dX4_both_8 : decode cX4_both 8 = .ok (.lcmp, 1) := by decide +kernel
theorem dX4_both_9 : decode cX4_both 9 = .ok (.ifCond .ne 9, 3) := by decide +kernel
theorem dX4_both_12 : decode cX4_both 12 = .ok (.aload_n 0, 1) := by decide +kernel
theorem dX4_both_13 : decode cX4_both 13 = .ok (.iconst 1, 1) := by decide +kernel
theorem dX4_both_14 : decode cX4_both 14 = .ok (.putfield 98, 3) := by decide +kernel
theorem dX4_both_17 : decode cX4_both 17 = .ok (.return_, 1) := by decide +kernel
theorem dX4_both_18 : decode cX4_both 18 = .ok (.aload_n 0, 1) := by decide +kernel
theorem dX4_both_19 : decode cX4_both 19 = .ok (.iload_n 1, 1) := by decide +kernel
theorem dX4_both_20 : decode cX4_both 20 = .ok (.iconst 2, 1) := by decide +kernel
theorem dX4_both_21 : decode cX4_both 21 = .ok (.if_icmp .ne 10, 3) := by decide +kernel
theorem dX4_both_24 : decode cX4_both 24 = .ok (.lload_n 2, 1) := by decide +kernel
theorem dX4_both_25 : decode cX4_both 25 = .ok (.lload 4, 2) := by decide +kernel
theorem dX4_both_27 : decode cX4_both 27 = .ok (.ladd, 1) := by decide +kernel
theorem dX4_both_28 : decode cX4_both 28 = .ok (.goto 50, 3) := by decide +kernel
theorem dX4_both_31 : decode cX4_both 31 = .ok (.iload_n 1, 1) := by decide +kernel
theorem dX4_both_32 : decode cX4_both 32 = .ok (.iconst 3, 1) := by decide +kernel
theorem dX4_both_33 : decode cX4_both 33 = .ok (.if_icmp .ne 10, 3) := by decide +kernel
theorem dX4_both_36 : decode cX4_both 36 = .ok (.lload_n 2, 1) := by decide +kernel
theorem dX4_both_37 : decode cX4_both 37 = .ok (.lload 4, 2) := by decide +kernel
theorem dX4_both_39 : decode cX4_both 39 = .ok (.lmul, 1) := by decide +kernel
theorem dX4_both_40 : decode cX4_both 40 = .ok (.goto 38, 3) := by decide +kernel
theorem dX4_both_43 : decode cX4_both 43 = .ok (.iload_n 1, 1) := by decide +kernel
theorem dX4_both_44 : decode cX4_both 44 = .ok (.iconst 4, 1) := by decide +kernel
theorem dX4_both_45 : decode cX4_both 45 = .ok (.if_icmp .ne 10, 3) := by decide +kernel
theorem dX4_both_48 : decode cX4_both 48 = .ok (.lload_n 2, 1) := by decide +kernel
theorem dX4_both_49 : decode cX4_both 49 = .ok (.lload 4, 2) := by decide +kernel
theorem dX4_both_51 : decode cX4_both 51 = .ok (.ldiv, 1) := by decide +kernel
theorem dX4_both_52 : decode cX4_both 52 = .ok (.goto 26, 3) := by decide +kernel
theorem dX4_both_55 : decode cX4_both 55 = .ok (.iload_n 1, 1) := by decide +kernel
theorem dX4_both_56 : decode cX4_both 56 = .ok (.iconst 5, 1) := by decide +kernel
theorem dX4_both_57 : decode cX4_both 57 = .ok (.if_icmp .ne 19, 3) := by decide +kernel
theorem dX4_both_60 : decode cX4_both 60 = .ok (.lload_n 2, 1) := by decide +kernel
theorem dX4_both_61 : decode cX4_both 61 = .ok (.lload 4, 2) := by decide +kernel
theorem dX4_both_63 : decode cX4_both 63 = .ok (.lcmp, 1) := by decide +kernel
theorem dX4_both_64 : decode cX4_both 64 = .ok (.ifCond .ge 7, 3) := by decide +kernel
theorem dX4_both_67 : decode cX4_both 67 = .ok (.lload_n 2, 1) := by decide +kernel
theorem dX4_both_68 : decode cX4_both 68 = .ok (.goto 10, 3) := by decide +kernel
theorem dX4_both_71 : decode cX4_both 71 = .ok (.lload 4, 2) := by decide +kernel
theorem dX4_both_73 : decode cX4_both 73 = .ok (.goto 5, 3) := by decide +kernel
theorem dX4_both_76 : decode cX4_both 76 = .ok (.lload 4, 2) := by decide +kernel
theorem dX4_both_78 : decode cX4_both 78 = .ok (.invokevirtual 111, 3) := by decide +kernel
theorem dX4_both_81 : decode cX4_both 81 = .ok (.return_, 1) := by decide +kernel
theorem dX4_goesSieve_0 : decode cX4_goesSieve 0 = .ok (.aload_n 0, 1) := by decide +kernel
theorem dX4_goesSieve_1 : decode cX4_goesSieve 1 = .ok (.getfield 23, 3) := by decide +kernel
theorem dX4_goesSieve_4 : decode cX4_goesSieve 4 = .ok (.iload_n 1, 1) := by decide +kernel
theorem dX4_goesSieve_5 : decode cX4_goesSieve 5 = .ok (.iaload, 1) := by decide +kernel
theorem dX4_goesSieve_6 : decode cX4_goesSieve 6 = .ok (.istore 6, 2) := by decide +kernel
theorem dX4_goesSieve_8 : decode cX4_goesSieve 8 = .ok (.aload_n 0, 1) := by decide +kernel
theorem dX4_goesSieve_9 : decode cX4_goesSieve 9 = .ok (.getfield 26, 3) := by decide +kernel
theorem dX4_goesSieve_12 : decode cX4_goesSieve 12 = .ok (.iload_n 1, 1) := by decide +kernel
theorem dX4_goesSieve_13 : decode cX4_goesSieve 13 = .ok (.iaload, 1) := by decide +kernel
theorem dX4_goesSieve_14 : decode cX4_goesSieve 14 = .ok (.istore 7, 2) := by decide +kernel
theorem dX4_goesSieve_16 : decode cX4_goesSieve 16 = .ok (.iload 6, 2) := by decide +kernel
theorem dX4_goesSieve_18 : decode cX4_goesSieve 18 = .ok (.bipush 9, 2) := by decide +kernel
theorem dX4_goesSieve_20 : decode cX4_goesSieve 20 = .ok (.if_icmp .ne 11, 3) := by decide +kernel
theorem dX4_goesSieve_23 : decode cX4_goesSieve 23 = .ok (.aload_n 0, 1) := by decide +kernel
theorem dX4_goesSieve_24 : decode cX4_goesSieve 24 = .ok (.iconst 3, 1) := by decide +kernel
theorem dX4_goesSieve_25 : decode cX4_goesSieve 25 = .ok (.putfield 98, 3) := by decide +kernel
theorem dX4_goesSieve_28 : decode cX4_goesSieve 28 = .ok (.goto 329, 3) := by decide +kernel
theorem dX4_goesSieve_31 : decode cX4_goesSieve 31 = .ok (.iload 6, 2) := by decide +kernel
theorem dX4_goesSieve_33 : decode cX4_goesSieve 33 = .ok (.ifCond .ne 11, 3) := by decide +kernel
theorem dX4_goesSieve_36 : decode cX4_goesSieve 36 = .ok (.aload_n 0, 1) := by decide +kernel
theorem dX4_goesSieve_37 : decode cX4_goesSieve 37 = .ok (.lconst 1, 1) := by decide +kernel
theorem dX4_goesSieve_38 : decode cX4_goesSieve 38 = .ok (.invokevirtual 111, 3) := by decide +kernel
theorem dX4_goesSieve_41 : decode cX4_goesSieve 41 = .ok (.goto 316, 3) := by decide +kernel
theorem dX4_goesSieve_44 : decode cX4_goesSieve 44 = .ok (.iload 6, 2) := by decide +kernel
theorem dX4_goesSieve_46 : decode cX4_goesSieve 46 = .ok (.bipush 6, 2) := by decide +kernel
theorem dX4_goesSieve_48 : decode cX4_goesSieve 48 = .ok (.if_icmp .ne 83, 3) := by decide +kernel
theorem dX4_goesSieve_51 : decode cX4_goesSieve 51 = .ok (.iload 7, 2) := by decide +kernel
theorem dX4_goesSieve_53 : decode cX4_goesSieve 53 = .ok (.iconst 1, 1) := by decide +kernel
theorem dX4_goesSieve_54 : decode cX4_goesSieve 54 = .ok (.if_icmp .ge 7, 3) := by decide +kernel
theorem dX4_goesSieve_57 : decode cX4_goesSieve 57 = .ok (.iconst 1, 1) := by decide +kernel
theorem dX4_goesSieve_58 : decode cX4_goesSieve 58 = .ok (.goto 5, 3) := by decide +kernel
theorem dX4_goesSieve_61 : decode cX4_goesSieve 61 = .ok (.iload 7, 2) := by decide +kernel
theorem dX4_goesSieve_63 : decode cX4_goesSieve 63 = .ok (.istore 8, 2) := by decide +kernel
theorem dX4_goesSieve_65 : decode cX4_goesSieve 65 = .ok (.aload_n 0, 1) := by decide +kernel
theorem dX4_goesSieve_66 : decode cX4_goesSieve 66 = .ok (.getfield 35, 3) := by decide +kernel
theorem dX4_goesSieve_69 : decode cX4_goesSieve 69 = .ok (.iload_n 1, 1) := by decide +kernel
theorem dX4_goesSieve_70 : decode cX4_goesSieve 70 = .ok (.dup2, 1) := by decide +kernel
theorem dX4_goesSieve_71 : decode cX4_goesSieve 71 = .ok (.iaload, 1) := by decide +kernel
theorem dX4_goesSieve_72 : decode cX4_goesSieve 72 = .ok (.iconst 1, 1) := by decide +kernel
theorem dX4_goesSieve_73 : decode cX4_goesSieve 73 = .ok (.iadd, 1) := by decide +kernel
theorem dX4_goesSieve_74 : decode cX4_goesSieve 74 = .ok (.iastore, 1) := by decide +kernel
theorem dX4_goesSieve_75 : decode cX4_goesSieve 75 = .ok (.aload_n 0, 1) := by decide +kernel
theorem dX4_goesSieve_76 : decode cX4_goesSieve 76 = .ok (.getfield 35, 3) := by decide +kernel
theorem dX4_goesSieve_79 : decode cX4_goesSieve 79 = .ok (.iload_n 1, 1) := by decide +kernel
theorem dX4_goesSieve_80 : decode cX4_goesSieve 80 = .ok (.iaload, 1) := by decide +kernel
theorem dX4_goesSieve_81 : decode cX4_goesSieve 81 = .ok (.iload 8, 2) := by decide +kernel
theorem dX4_goesSieve_83 : decode cX4_goesSieve 83 = .ok (.if_icmp .ne 7, 3) := by decide +kernel
theorem dX4_goesSieve_86 : decode cX4_goesSieve 86 = .ok (.iconst 1, 1) := by decide +kernel
theorem dX4_goesSieve_87 : decode cX4_goesSieve 87 = .ok (.goto 4, 3) := by decide +kernel
theorem dX4_goesSieve_90 : decode cX4_goesSieve 90 = .ok (.iconst 0, 1) := by decide +kernel
theorem dX4_goesSieve_91 : decode cX4_goesSieve 91 = .ok (.istore 9, 2) := by decide +kernel
theorem dX4_goesSieve_93 : decode cX4_goesSieve 93 = .ok (.aload_n 0, 1) := by decide +kernel
theorem dX4_goesSieve_94 : decode cX4_goesSieve 94 = .ok (.getfield 35, 3) := by decide +kernel
theorem dX4_goesSieve_97 : decode cX4_goesSieve 97 = .ok (.iload_n 1, 1) := by decide +kernel
theorem dX4_goesSieve_98 : decode cX4_goesSieve 98 = .ok (.iload 9, 2) := by decide +kernel
theorem dX4_goesSieve_100 : decode cX4_goesSieve 100 = .ok (.ifCond .eq 7, 3) := by decide +kernel
theorem dX4_goesSieve_103 : decode cX4_goesSieve 103 = .ok (.iconst 0, 1) := by decide +kernel
theorem dX4_goesSieve_104 : decode cX4_goesSieve 104 = .ok (.goto 9, 3) := by decide +kernel
theorem dX4_goesSieve_107 : decode cX4_goesSieve 107 = .ok (.aload_n 0, 1) := by decide +kernel
theorem dX4_goesSieve_108 : decode cX4_goesSieve 108 = .ok (.getfield 35, 3) := by decide +kernel
theorem dX4_goesSieve_111 : decode cX4_goesSieve 111 = .ok (.iload_n 1, 1) := by decide +kernel
theorem dX4_goesSieve_112 : decode cX4_goesSieve 112 = .ok (.iaload, 1) := by decide +kernel
theorem dX4_goesSieve_113 : decode cX4_goesSieve 113 = .ok (.iastore, 1) := by decide +kernel
theorem dX4_goesSieve_114 : decode cX4_goesSieve 114 = .ok (.aload_n 0, 1) := by decide +kernel
theorem dX4_goesSieve_115 : decode cX4_goesSieve 115 = .ok (.iload 9, 2) := by decide +kernel
theorem dX4_goesSieve_117 : decode cX4_goesSieve 117 = .ok (.ifCond .eq 7, 3) := by decide +kernel
theorem dX4_goesSieve_120 : decode cX4_goesSieve 120 = .ok (.lconst 1, 1) := by decide +kernel
theorem dX4_goesSieve_121 : decode cX4_goesSieve 121 = .ok (.goto 4, 3) := by decide +kernel
theorem dX4_goesSieve_124 : decode cX4_goesSieve 124 = .ok (.lconst 0, 1) := by decide +kernel
theorem dX4_goesSieve_125 : decode cX4_goesSieve 125 = .ok (.invokevirtual 111, 3) := by decide +kernel
theorem dX4_goesSieve_128 : decode cX4_goesSieve 128 = .ok (.goto 229, 3) := by decide +kernel
theorem dX4_goesSieve_131 : decode cX4_goesSieve 131 = .ok (.iload 6, 2) := by decide +kernel
theorem dX4_goesSieve_133 : decode cX4_goesSieve 133 = .ok (.bipush 7, 2) := by decide +kernel
theorem dX4_goesSieve_135 : decode cX4_goesSieve 135 = .ok (.if_icmp .ne 21, 3) := by decide +kernel
theorem dX4_goesSieve_138 : decode cX4_goesSieve 138 = .ok (.aload_n 0, 1) := by decide +kernel
theorem dX4_goesSieve_139 : decode cX4_goesSieve 139 = .ok (.iload_n 2, 1) := by decide +kernel
theorem dX4_goesSieve_140 : decode cX4_goesSieve 140 = .ok (.iload 7, 2) := by decide +kernel
theorem dX4_goesSieve_142 : decode cX4_goesSieve 142 = .ok (.if_icmp .ge 7, 3) := by decide +kernel
theorem dX4_goesSieve_145 : decode cX4_goesSieve 145 = .ok (.lconst 1, 1) := by decide +kernel
theorem dX4_goesSieve_146 : decode cX4_goesSieve 146 = .ok (.goto 4, 3) := by decide +kernel
theorem dX4_goesSieve_149 : decode cX4_goesSieve 149 = .ok (.lconst 0, 1) := by decide +kernel
theorem dX4_goesSieve_150 : decode cX4_goesSieve 150 = .ok (.invokevirtual 111, 3) := by decide +kernel
theorem dX4_goesSieve_153 : decode cX4_goesSieve 153 = .ok (.goto 204, 3) := by decide +kernel
theorem dX4_goesSieve_156 : decode cX4_goesSieve 156 = .ok (.iload_n 3, 1) := by decide +kernel
theorem dX4_goesSieve_157 : decode cX4_goesSieve 157 = .ok (.ifCond .ne 25, 3) := by decide +kernel
theorem dX4_goesSieve_160 : decode cX4_goesSieve 160 = .ok (.aload_n 0, 1) := by decide +kernel
theorem dX4_goesSieve_161 : decode cX4_goesSieve 161 = .ok (.iload 6, 2) := by decide +kernel
theorem dX4_goesSieve_163 : decode cX4_goesSieve 163 = .ok (.iconst 3, 1) := by decide +kernel
theorem dX4_goesSieve_164 : decode cX4_goesSieve 164 = .ok (.if_icmp .ge 7, 3) := by decide +kernel
theorem dX4_goesSieve_167 : decode cX4_goesSieve 167 = .ok (.iconst 0, 1) := by decide +kernel
theorem dX4_goesSieve_168 : decode cX4_goesSieve 168 = .ok (.goto 4, 3) := by decide +kernel
theorem dX4_goesSieve_171 : decode cX4_goesSieve 171 = .ok (.iconst 1, 1) := by decide +kernel
theorem dX4_goesSieve_172 : decode cX4_goesSieve 172 = .ok (.iload 7, 2) := by decide +kernel
theorem dX4_goesSieve_174 : decode cX4_goesSieve 174 = .ok (.iload_n 2, 1) := by decide +kernel
theorem dX4_goesSieve_175 : decode cX4_goesSieve 175 = .ok (.iload_n 2, 1) := by decide +kernel
theorem dX4_goesSieve_176 : decode cX4_goesSieve 176 = .ok (.invokevirtual 115, 3) := by decide +kernel
theorem dX4_goesSieve_179 : decode cX4_goesSieve 179 = .ok (.goto 178, 3) := by decide +kernel
theorem dX4_goesSieve_182 : decode cX4_goesSieve 182 = .ok (.iload 6, 2) := by decide +kernel
theorem dX4_goesSieve_184 : decode cX4_goesSieve 184 = .ok (.iconst 3, 1) := by decide +kernel
theorem dX4_goesSieve_185 : decode cX4_goesSieve 185 = .ok (.if_icmp .ne 14, 3) := by decide +kernel
theorem dX4_goesSieve_188 : decode cX4_goesSieve 188 = .ok (.aload_n 0, 1) := by decide +kernel
theorem dX4_goesSieve_189 : decode cX4_goesSieve 189 = .ok (.lconst 1, 1) := by decide +kernel
theorem dX4_goesSieve_190 : decode cX4_goesSieve 190 = .ok (.lload 4, 2) := by decide +kernel
theorem dX4_goesSieve_192 : decode cX4_goesSieve 192 = .ok (.lsub, 1) := by decide +kernel
theorem dX4_goesSieve_193 : decode cX4_goesSieve 193 = .ok (.invokevirtual 111, 3) := by decide +kernel
theorem dX4_goesSieve_196 : decode cX4_goesSieve 196 = .ok (.goto 161, 3) := by decide +kernel
theorem dX4_goesSieve_199 : decode cX4_goesSieve 199 = .ok (.iload 6, 2) := by decide +kernel
theorem dX4_goesSieve_201 : decode cX4_goesSieve 201 = .ok (.bipush 8, 2) := by decide +kernel
theorem dX4_goesSieve_203 : decode cX4_goesSieve 203 = .ok (.if_icmp .ne 12, 3) := by decide +kernel
theorem dX4_goesSieve_206 : decode cX4_goesSieve 206 = .ok (.aload_n 0, 1) := by decide +kernel
theorem dX4_goesSieve_207 : decode cX4_goesSieve 207 = .ok (.lload 4, 2) := by decide +kernel
theorem dX4_goesSieve_209 : decode cX4_goesSieve 209 = .ok (.invokevirtual 111, 3) := by decide +kernel
theorem dX4_goesSieve_212 : decode cX4_goesSieve 212 = .ok (.goto 145, 3) := by decide +kernel
theorem dX4_goesSieve_215 : decode cX4_goesSieve 215 = .ok (.iload_n 3, 1) := by decide +kernel
theorem dX4_goesSieve_216 : decode cX4_goesSieve 216 = .ok (.iconst 1, 1) := by decide +kernel
theorem dX4_goesSieve_217 : decode cX4_goesSieve 217 = .ok (.if_icmp .ne 77, 3) := by decide +kernel
theorem dX4_goesSieve_220 : decode cX4_goesSieve 220 = .ok (.iload 6, 2) := by decide +kernel
theorem dX4_goesSieve_222 : decode cX4_goesSieve 222 = .ok (.iconst 4, 1) := by decide +kernel
theorem dX4_goesSieve_223 : decode cX4_goesSieve 223 = .ok (.if_icmp .ne 10, 3) := by decide +kernel
theorem dX4_goesSieve_226 : decode cX4_goesSieve 226 = .ok (.lload 4, 2) := by decide +kernel
theorem dX4_goesSieve_228 : decode cX4_goesSieve 228 = .ok (.lconst 0, 1) := by decide +kernel
theorem dX4_goesSieve_229 : decode cX4_goesSieve 229 = .ok (.lcmp, 1) := by decide +kernel
theorem dX4_goesSieve_230 : decode cX4_goesSieve 230 = .ok (.ifCond .eq 16, 3) := by decide +kernel
theorem dX4_goesSieve_233 : decode cX4_goesSieve 233 = .ok (.iload 6, 2) := by decide +kernel
theorem dX4_goesSieve_235 : decode cX4_goesSieve 235 = .ok (.iconst 5, 1) := by decide +kernel
theorem dX4_goesSieve_236 : decode cX4_goesSieve 236 = .ok (.if_icmp .ne 19, 3) := by decide +kernel
theorem dX4_goesSieve_239 : decode cX4_goesSieve 239 = .ok (.lload 4, 2) := by decide +kernel
theorem dX4_goesSieve_241 : decode cX4_goesSieve 241 = .ok (.lconst 1, 1) := by decide +kernel
theorem dX4_goesSieve_242 : decode cX4_goesSieve 242 = .ok (.lcmp, 1) := by decide +kernel
theorem dX4_goesSieve_243 : decode cX4_goesSieve 243 = .ok (.ifCond .ne 12, 3) := by decide +kernel
theorem dX4_goesSieve_246 : decode cX4_goesSieve 246 = .ok (.aload_n 0, 1) := by decide +kernel
theorem dX4_goesSieve_247 : decode cX4_goesSieve 247 = .ok (.lload 4, 2) := by decide +kernel
theorem dX4_goesSieve_249 : decode cX4_goesSieve 249 = .ok (.invokevirtual 111, 3) := by decide +kernel
theorem dX4_goesSieve_252 : decode cX4_goesSieve 252 = .ok (.goto 105, 3) := by decide +kernel
theorem dX4_goesSieve_255 : decode cX4_goesSieve 255 = .ok (.aload_n 0, 1) := by decide +kernel
theorem dX4_goesSieve_256 : decode cX4_goesSieve 256 = .ok (.getfield 50, 3) := by decide +kernel
theorem dX4_goesSieve_259 : decode cX4_goesSieve 259 = .ok (.aload_n 0, 1) := by decide +kernel
theorem dX4_goesSieve_260 : decode cX4_goesSieve 260 = .ok (.getfield 104, 3) := by decide +kernel
theorem dX4_goesSieve_263 : decode cX4_goesSieve 263 = .ok (.iconst 1, 1) := by decide +kernel
theorem dX4_goesSieve_264 : decode cX4_goesSieve 264 = .ok (.isub, 1) := by decide +kernel
theorem dX4_goesSieve_265 : decode cX4_goesSieve 265 = .ok (.lload 4, 2) := by decide +kernel
theorem dX4_goesSieve_267 : decode cX4_goesSieve 267 = .ok (.lastore, 1) := by decide +kernel
theorem dX4_goesSieve_268 : decode cX4_goesSieve 268 = .ok (.aload_n 0, 1) := by decide +kernel
theorem dX4_goesSieve_269 : decode cX4_goesSieve 269 = .ok (.iload 6, 2) := by decide +kernel
theorem dX4_goesSieve_271 : decode cX4_goesSieve 271 = .ok (.iconst 3, 1) := by decide +kernel
theorem dX4_goesSieve_272 : decode cX4_goesSieve 272 = .ok (.if_icmp .ge 7, 3) := by decide +kernel
theorem dX4_goesSieve_275 : decode cX4_goesSieve 275 = .ok (.iconst 0, 1) := by decide +kernel
theorem dX4_goesSieve_276 : decode cX4_goesSieve 276 = .ok (.goto 4, 3) := by decide +kernel
theorem dX4_goesSieve_279 : decode cX4_goesSieve 279 = .ok (.iconst 1, 1) := by decide +kernel
theorem dX4_goesSieve_280 : decode cX4_goesSieve 280 = .ok (.aload_n 0, 1) := by decide +kernel
theorem dX4_goesSieve_281 : decode cX4_goesSieve 281 = .ok (.getfield 29, 3) := by decide +kernel
theorem dX4_goesSieve_284 : decode cX4_goesSieve 284 = .ok (.iload_n 1, 1) := by decide +kernel
theorem dX4_goesSieve_285 : decode cX4_goesSieve 285 = .ok (.iaload, 1) := by decide +kernel
theorem dX4_goesSieve_286 : decode cX4_goesSieve 286 = .ok (.iload_n 2, 1) := by decide +kernel
theorem dX4_goesSieve_287 : decode cX4_goesSieve 287 = .ok (.iload_n 2, 1) := by decide +kernel
theorem dX4_goesSieve_288 : decode cX4_goesSieve 288 = .ok (.invokevirtual 115, 3) := by decide +kernel
theorem dX4_goesSieve_291 : decode cX4_goesSieve 291 = .ok (.goto 66, 3) := by decide +kernel
theorem dX4_goesSieve_294 : decode cX4_goesSieve 294 = .ok (.aload_n 0, 1) := by decide +kernel
theorem dX4_goesSieve_295 : decode cX4_goesSieve 295 = .ok (.getfield 50, 3) := by decide +kernel
theorem dX4_goesSieve_298 : decode cX4_goesSieve 298 = .ok (.aload_n 0, 1) := by decide +kernel
theorem dX4_goesSieve_299 : decode cX4_goesSieve 299 = .ok (.getfield 104, 3) := by decide +kernel
theorem dX4_goesSieve_302 : decode cX4_goesSieve 302 = .ok (.iconst 1, 1) := by decide +kernel
theorem dX4_goesSieve_303 : decode cX4_goesSieve 303 = .ok (.isub, 1) := by decide +kernel
theorem dX4_goesSieve_304 : decode cX4_goesSieve 304 = .ok (.laload, 1) := by decide +kernel
theorem dX4_goesSieve_305 : decode cX4_goesSieve 305 = .ok (.lstore 8, 2) := by decide +kernel
theorem dX4_goesSieve_307 : decode cX4_goesSieve 307 = .ok (.aload_n 0, 1) := by decide +kernel
theorem dX4_goesSieve_308 : decode cX4_goesSieve 308 = .ok (.iload 6, 2) := by decide +kernel
theorem dX4_goesSieve_310 : decode cX4_goesSieve 310 = .ok (.iconst 1, 1) := by decide +kernel
theorem dX4_goesSieve_311 : decode cX4_goesSieve 311 = .ok (.if_icmp .ne 19, 3) := by decide +kernel
theorem dX4_goesSieve_314 : decode cX4_goesSieve 314 = .ok (.lload 8, 2) := by decide +kernel
theorem dX4_goesSieve_316 : decode cX4_goesSieve 316 = .ok (.lload 4, 2) := by decide +kernel
theorem dX4_goesSieve_318 : decode cX4_goesSieve 318 = .ok (.lcmp, 1) := by decide +kernel
theorem dX4_goesSieve_319 : decode cX4_goesSieve 319 = .ok (.ifCond .le 7, 3) := by decide +kernel
theorem dX4_goesSieve_322 : decode cX4_goesSieve 322 = .ok (.lconst 1, 1) := by decide +kernel
theorem dX4_goesSieve_323 : decode cX4_goesSieve 323 = .ok (.goto 31, 3) := by decide +kernel
theorem dX4_goesSieve_326 : decode cX4_goesSieve 326 = .ok (.lconst 0, 1) := by decide +kernel
theorem dX4_goesSieve_327 : decode cX4_goesSieve 327 = .ok (.goto 27, 3) := by decide +kernel
theorem dX4_goesSieve_330 : decode cX4_goesSieve 330 = .ok (.iload 6, 2) := by decide +kernel
theorem dX4_goesSieve_332 : decode cX4_goesSieve 332 = .ok (.iconst 2, 1) := by decide +kernel
theorem dX4_goesSieve_333 : decode cX4_goesSieve 333 = .ok (.if_icmp .ne 19, 3) := by decide +kernel
theorem dX4_goesSieve_336 : decode cX4_goesSieve 336 = .ok (.lload 8, 2) := by decide +kernel
theorem dX4_goesSieve_338 : decode cX4_goesSieve 338 = .ok (.lload 4, 2) := by decide +kernel
theorem dX4_goesSieve_340 : decode cX4_goesSieve 340 = .ok (.lcmp, 1) := by decide +kernel
theorem dX4_goesSieve_341 : decode cX4_goesSieve 341 = .ok (.ifCond .ne 7, 3) := by decide +kernel
theorem dX4_goesSieve_344 : decode cX4_goesSieve 344 = .ok (.lconst 1, 1) := by decide +kernel
theorem dX4_goesSieve_345 : decode cX4_goesSieve 345 = .ok (.goto 9, 3) := by decide +kernel
theorem dX4_goesSieve_348 : decode cX4_goesSieve 348 = .ok (.lconst 0, 1) := by decide +kernel
theorem dX4_goesSieve_349 : decode cX4_goesSieve 349 = .ok (.goto 5, 3) := by decide +kernel
theorem dX4_goesSieve_352 : decode cX4_goesSieve 352 = .ok (.lload 4, 2) := by decide +kernel
theorem dX4_goesSieve_354 : decode cX4_goesSieve 354 = .ok (.invokevirtual 111, 3) := by decide +kernel
theorem dX4_goesSieve_357 : decode cX4_goesSieve 357 = .ok (.return_, 1) := by decide +kernel
theorem dX4_goesOrder_0 : decode cX4_goesOrder 0 = .ok (.aload_n 0, 1) := by decide +kernel
theorem dX4_goesOrder_1 : decode cX4_goesOrder 1 = .ok (.getfield 23, 3) := by decide +kernel
theorem dX4_goesOrder_4 : decode cX4_goesOrder 4 = .ok (.iload_n 1, 1) := by decide +kernel
theorem dX4_goesOrder_5 : decode cX4_goesOrder 5 = .ok (.iaload, 1) := by decide +kernel
theorem dX4_goesOrder_6 : decode cX4_goesOrder 6 = .ok (.istore 5, 2) := by decide +kernel
theorem dX4_goesOrder_8 : decode cX4_goesOrder 8 = .ok (.aload_n 0, 1) := by decide +kernel
theorem dX4_goesOrder_9 : decode cX4_goesOrder 9 = .ok (.getfield 41, 3) := by decide +kernel
theorem dX4_goesOrder_12 : decode cX4_goesOrder 12 = .ok (.aload_n 0, 1) := by decide +kernel
theorem dX4_goesOrder_13 : decode cX4_goesOrder 13 = .ok (.getfield 104, 3) := by decide +kernel
theorem dX4_goesOrder_16 : decode cX4_goesOrder 16 = .ok (.iconst 1, 1) := by decide +kernel
theorem dX4_goesOrder_17 : decode cX4_goesOrder 17 = .ok (.isub, 1) := by decide +kernel
theorem dX4_goesOrder_18 : decode cX4_goesOrder 18 = .ok (.iaload, 1) := by decide +kernel
theorem dX4_goesOrder_19 : decode cX4_goesOrder 19 = .ok (.istore 6, 2) := by decide +kernel
theorem dX4_goesOrder_21 : decode cX4_goesOrder 21 = .ok (.aload_n 0, 1) := by decide +kernel
theorem dX4_goesOrder_22 : decode cX4_goesOrder 22 = .ok (.getfield 44, 3) := by decide +kernel
theorem dX4_goesOrder_25 : decode cX4_goesOrder 25 = .ok (.aload_n 0, 1) := by decide +kernel
theorem dX4_goesOrder_26 : decode cX4_goesOrder 26 = .ok (.getfield 104, 3) := by decide +kernel
theorem dX4_goesOrder_29 : decode cX4_goesOrder 29 = .ok (.iconst 1, 1) := by decide +kernel
theorem dX4_goesOrder_30 : decode cX4_goesOrder 30 = .ok (.isub, 1) := by decide +kernel
theorem dX4_goesOrder_31 : decode cX4_goesOrder 31 = .ok (.iaload, 1) := by decide +kernel
theorem dX4_goesOrder_32 : decode cX4_goesOrder 32 = .ok (.istore 7, 2) := by decide +kernel
theorem dX4_goesOrder_34 : decode cX4_goesOrder 34 = .ok (.iload 5, 2) := by decide +kernel
theorem dX4_goesOrder_36 : decode cX4_goesOrder 36 = .ok (.iconst 5, 1) := by decide +kernel
theorem dX4_goesOrder_37 : decode cX4_goesOrder 37 = .ok (.if_icmp .ne 11, 3) := by decide +kernel
theorem dX4_goesOrder_40 : decode cX4_goesOrder 40 = .ok (.aload_n 0, 1) := by decide +kernel
theorem dX4_goesOrder_41 : decode cX4_goesOrder 41 = .ok (.iconst 3, 1) := by decide +kernel
theorem dX4_goesOrder_42 : decode cX4_goesOrder 42 = .ok (.putfield 98, 3) := by decide +kernel
theorem dX4_goesOrder_45 : decode cX4_goesOrder 45 = .ok (.goto 257, 3) := by decide +kernel
theorem dX4_goesOrder_48 : decode cX4_goesOrder 48 = .ok (.iload 5, 2) := by decide +kernel
theorem dX4_goesOrder_50 : decode cX4_goesOrder 50 = .ok (.iconst 4, 1) := by decide +kernel
theorem dX4_goesOrder_51 : decode cX4_goesOrder 51 = .ok (.if_icmp .ne 35, 3) := by decide +kernel
theorem dX4_goesOrder_54 : decode cX4_goesOrder 54 = .ok (.aload_n 0, 1) := by decide +kernel
theorem dX4_goesOrder_55 : decode cX4_goesOrder 55 = .ok (.iload 6, 2) := by decide +kernel
theorem dX4_goesOrder_57 : decode cX4_goesOrder 57 = .ok (.iload 7, 2) := by decide +kernel
theorem dX4_goesOrder_59 : decode cX4_goesOrder 59 = .ok (.if_icmp .ge 9, 3) := by decide +kernel
theorem dX4_goesOrder_62 : decode cX4_goesOrder 62 = .ok (.ldc2_w 125, 3) := by decide +kernel
theorem dX4_goesOrder_65 : decode cX4_goesOrder 65 = .ok (.goto 15, 3) := by decide +kernel
theorem dX4_goesOrder_68 : decode cX4_goesOrder 68 = .ok (.iload 6, 2) := by decide +kernel
theorem dX4_goesOrder_70 : decode cX4_goesOrder 70 = .ok (.iload 7, 2) := by decide +kernel
theorem dX4_goesOrder_72 : decode cX4_goesOrder 72 = .ok (.if_icmp .le 7, 3) := by decide +kernel
theorem dX4_goesOrder_75 : decode cX4_goesOrder 75 = .ok (.lconst 1, 1) := by decide +kernel
theorem dX4_goesOrder_76 : decode cX4_goesOrder 76 = .ok (.goto 4, 3) := by decide +kernel
theorem dX4_goesOrder_79 : decode cX4_goesOrder 79 = .ok (.lconst 0, 1) := by decide +kernel
theorem dX4_goesOrder_80 : decode cX4_goesOrder 80 = .ok (.invokevirtual 111, 3) := by decide +kernel
theorem dX4_goesOrder_83 : decode cX4_goesOrder 83 = .ok (.goto 219, 3) := by decide +kernel
theorem dX4_goesOrder_86 : decode cX4_goesOrder 86 = .ok (.iload_n 2, 1) := by decide +kernel
theorem dX4_goesOrder_87 : decode cX4_goesOrder 87 = .ok (.ifCond .ne 56, 3) := by decide +kernel
theorem dX4_goesOrder_90 : decode cX4_goesOrder 90 = .ok (.aload_n 0, 1) := by decide +kernel
theorem dX4_goesOrder_91 : decode cX4_goesOrder 91 = .ok (.iload 5, 2) := by decide +kernel
theorem dX4_goesOrder_93 : decode cX4_goesOrder 93 = .ok (.ifCond .ne 7, 3) := by decide +kernel
theorem dX4_goesOrder_96 : decode cX4_goesOrder 96 = .ok (.iconst 0, 1) := by decide +kernel
theorem dX4_goesOrder_97 : decode cX4_goesOrder 97 = .ok (.goto 14, 3) := by decide +kernel
theorem dX4_goesOrder_100 : decode cX4_goesOrder 100 = .ok (.iload 5, 2) := by decide +kernel
theorem dX4_goesOrder_102 : decode cX4_goesOrder 102 = .ok (.iconst 3, 1) := by decide +kernel
theorem dX4_goesOrder_103 : decode cX4_goesOrder 103 = .ok (.if_icmp .ne 7, 3) := by decide +kernel
theorem dX4_goesOrder_106 : decode cX4_goesOrder 106 = .ok (.iconst 1, 1) := by decide +kernel
theorem dX4_goesOrder_107 : decode cX4_goesOrder 107 = .ok (.goto 4, 3) := by decide +kernel
theorem dX4_goesOrder_110 : decode cX4_goesOrder 110 = .ok (.iconst 2, 1) := by decide +kernel
theorem dX4_goesOrder_111 : decode cX4_goesOrder 111 = .ok (.aload_n 0, 1) := by decide +kernel
theorem dX4_goesOrder_112 : decode cX4_goesOrder 112 = .ok (.getfield 26, 3) := by decide +kernel
theorem dX4_goesOrder_115 : decode cX4_goesOrder 115 = .ok (.iload_n 1, 1) := by decide +kernel
theorem dX4_goesOrder_116 : decode cX4_goesOrder 116 = .ok (.iaload, 1) := by decide +kernel
theorem dX4_goesOrder_117 : decode cX4_goesOrder 117 = .ok (.iload 6, 2) := by decide +kernel
theorem dX4_goesOrder_119 : decode cX4_goesOrder 119 = .ok (.iload 5, 2) := by decide +kernel
theorem dX4_goesOrder_121 : decode cX4_goesOrder 121 = .ok (.ifCond .eq 9, 3) := by decide +kernel
theorem dX4_goesOrder_124 : decode cX4_goesOrder 124 = .ok (.iload 5, 2) := by decide +kernel
theorem dX4_goesOrder_126 : decode cX4_goesOrder 126 = .ok (.iconst 3, 1) := by decide +kernel
theorem dX4_goesOrder_127 : decode cX4_goesOrder 127 = .ok (.if_icmp .ne 8, 3) := by decide +kernel
theorem dX4_goesOrder_130 : decode cX4_goesOrder 130 = .ok (.iload 6, 2) := by decide +kernel
theorem dX4_goesOrder_132 : decode cX4_goesOrder 132 = .ok (.goto 5, 3) := by decide +kernel
theorem dX4_goesOrder_135 : decode cX4_goesOrder 135 = .ok (.iload 7, 2) := by decide +kernel
theorem dX4_goesOrder_137 : decode cX4_goesOrder 137 = .ok (.invokevirtual 115, 3) := by decide +kernel
theorem dX4_goesOrder_140 : decode cX4_goesOrder 140 = .ok (.goto 162, 3) := by decide +kernel
theorem dX4_goesOrder_143 : decode cX4_goesOrder 143 = .ok (.iload 5, 2) := by decide +kernel
theorem dX4_goesOrder_145 : decode cX4_goesOrder 145 = .ok (.iconst 1, 1) := by decide +kernel
theorem dX4_goesOrder_146 : decode cX4_goesOrder 146 = .ok (.if_icmp .ne 12, 3) := by decide +kernel
theorem dX4_goesOrder_149 : decode cX4_goesOrder 149 = .ok (.aload_n 0, 1) := by decide +kernel
theorem dX4_goesOrder_150 : decode cX4_goesOrder 150 = .ok (.lload_n 3, 1) := by decide +kernel
theorem dX4_goesOrder_151 : decode cX4_goesOrder 151 = .ok (.lneg, 1) := by decide +kernel
theorem dX4_goesOrder_152 : decode cX4_goesOrder 152 = .ok (.invokevirtual 111, 3) := by decide +kernel
theorem dX4_goesOrder_155 : decode cX4_goesOrder 155 = .ok (.goto 147, 3) := by decide +kernel
theorem dX4_goesOrder_158 : decode cX4_goesOrder 158 = .ok (.iload 5, 2) := by decide +kernel
theorem dX4_goesOrder_160 : decode cX4_goesOrder 160 = .ok (.iconst 2, 1) := by decide +kernel
theorem dX4_goesOrder_161 : decode cX4_goesOrder 161 = .ok (.if_icmp .ne 40, 3) := by decide +kernel
theorem dX4_goesOrder_164 : decode cX4_goesOrder 164 = .ok (.iload_n 2, 1) := by decide +kernel
theorem dX4_goesOrder_165 : decode cX4_goesOrder 165 = .ok (.iconst 1, 1) := by decide +kernel
theorem dX4_goesOrder_166 : decode cX4_goesOrder 166 = .ok (.if_icmp .ne 27, 3) := by decide +kernel
theorem dX4_goesOrder_169 : decode cX4_goesOrder 169 = .ok (.lload_n 3, 1) := by decide +kernel
theorem dX4_goesOrder_170 : decode cX4_goesOrder 170 = .ok (.lconst 0, 1) := by decide +kernel
theorem dX4_goesOrder_171 : decode cX4_goesOrder 171 = .ok (.lcmp, 1) := by decide +kernel
theorem dX4_goesOrder_172 : decode cX4_goesOrder 172 = .ok (.ifCond .ne 21, 3) := by decide +kernel
theorem dX4_goesOrder_175 : decode cX4_goesOrder 175 = .ok (.aload_n 0, 1) := by decide +kernel
theorem dX4_goesOrder_176 : decode cX4_goesOrder 176 = .ok (.iconst 2, 1) := by decide +kernel
theorem dX4_goesOrder_177 : decode cX4_goesOrder 177 = .ok (.aload_n 0, 1) := by decide +kernel
theorem dX4_goesOrder_178 : decode cX4_goesOrder 178 = .ok (.getfield 29, 3) := by decide +kernel
theorem dX4_goesOrder_181 : decode cX4_goesOrder 181 = .ok (.iload_n 1, 1) := by decide +kernel
theorem dX4_goesOrder_182 : decode cX4_goesOrder 182 = .ok (.iaload, 1) := by decide +kernel
theorem dX4_goesOrder_183 : decode cX4_goesOrder 183 = .ok (.iload 6, 2) := by decide +kernel
theorem dX4_goesOrder_185 : decode cX4_goesOrder 185 = .ok (.iload 7, 2) := by decide +kernel
theorem dX4_goesOrder_187 : decode cX4_goesOrder 187 = .ok (.invokevirtual 115, 3) := by decide +kernel
theorem dX4_goesOrder_190 : decode cX4_goesOrder 190 = .ok (.goto 112, 3) := by decide +kernel
theorem dX4_goesOrder_193 : decode cX4_goesOrder 193 = .ok (.aload_n 0, 1) := by decide +kernel
theorem dX4_goesOrder_194 : decode cX4_goesOrder 194 = .ok (.lload_n 3, 1) := by decide +kernel
theorem dX4_goesOrder_195 : decode cX4_goesOrder 195 = .ok (.invokevirtual 111, 3) := by decide +kernel
theorem dX4_goesOrder_198 : decode cX4_goesOrder 198 = .ok (.goto 104, 3) := by decide +kernel
theorem dX4_goesOrder_201 : decode cX4_goesOrder 201 = .ok (.iload_n 2, 1) := by decide +kernel
theorem dX4_goesOrder_202 : decode cX4_goesOrder 202 = .ok (.iconst 1, 1) := by decide +kernel
theorem dX4_goesOrder_203 : decode cX4_goesOrder 203 = .ok (.if_icmp .ne 42, 3) := by decide +kernel
theorem dX4_goesOrder_206 : decode cX4_goesOrder 206 = .ok (.aload_n 0, 1) := by decide +kernel
theorem dX4_goesOrder_207 : decode cX4_goesOrder 207 = .ok (.getfield 50, 3) := by decide +kernel
theorem dX4_goesOrder_210 : decode cX4_goesOrder 210 = .ok (.aload_n 0, 1) := by decide +kernel
theorem dX4_goesOrder_211 : decode cX4_goesOrder 211 = .ok (.getfield 104, 3) := by decide +kernel
theorem dX4_goesOrder_214 : decode cX4_goesOrder 214 = .ok (.iconst 1, 1) := by decide +kernel
theorem dX4_goesOrder_215 : decode cX4_goesOrder 215 = .ok (.isub, 1) := by decide +kernel
theorem dX4_goesOrder_216 : decode cX4_goesOrder 216 = .ok (.lload_n 3, 1) := by decide +kernel
theorem dX4_goesOrder_217 : decode cX4_goesOrder 217 = .ok (.lastore, 1) := by decide +kernel
theorem dX4_goesOrder_218 : decode cX4_goesOrder 218 = .ok (.aload_n 0, 1) := by decide +kernel
theorem dX4_goesOrder_219 : decode cX4_goesOrder 219 = .ok (.iload 5, 2) := by decide +kernel
theorem dX4_goesOrder_221 : decode cX4_goesOrder 221 = .ok (.ifCond .ne 7, 3) := by decide +kernel
theorem dX4_goesOrder_224 : decode cX4_goesOrder 224 = .ok (.iconst 0, 1) := by decide +kernel
theorem dX4_goesOrder_225 : decode cX4_goesOrder 225 = .ok (.goto 4, 3) := by decide +kernel
theorem dX4_goesOrder_228 : decode cX4_goesOrder 228 = .ok (.iconst 1, 1) := by decide +kernel
theorem dX4_goesOrder_229 : decode cX4_goesOrder 229 = .ok (.aload_n 0, 1) := by decide +kernel
theorem dX4_goesOrder_230 : decode cX4_goesOrder 230 = .ok (.getfield 26, 3) := by decide +kernel
theorem dX4_goesOrder_233 : decode cX4_goesOrder 233 = .ok (.iload_n 1, 1) := by decide +kernel
theorem dX4_goesOrder_234 : decode cX4_goesOrder 234 = .ok (.iaload, 1) := by decide +kernel
theorem dX4_goesOrder_235 : decode cX4_goesOrder 235 = .ok (.iload 7, 2) := by decide +kernel
theorem dX4_goesOrder_237 : decode cX4_goesOrder 237 = .ok (.iload 7, 2) := by decide +kernel
theorem dX4_goesOrder_239 : decode cX4_goesOrder 239 = .ok (.invokevirtual 115, 3) := by decide +kernel
theorem dX4_goesOrder_242 : decode cX4_goesOrder 242 = .ok (.goto 60, 3) := by decide +kernel
theorem dX4_goesOrder_245 : decode cX4_goesOrder 245 = .ok (.aload_n 0, 1) := by decide +kernel
theorem dX4_goesOrder_246 : decode cX4_goesOrder 246 = .ok (.getfield 50, 3) := by decide +kernel
theorem dX4_goesOrder_249 : decode cX4_goesOrder 249 = .ok (.aload_n 0, 1) := by decide +kernel
theorem dX4_goesOrder_250 : decode cX4_goesOrder 250 = .ok (.getfield 104, 3) := by decide +kernel
theorem dX4_goesOrder_253 : decode cX4_goesOrder 253 = .ok (.iconst 1, 1) := by decide +kernel
theorem dX4_goesOrder_254 : decode cX4_goesOrder 254 = .ok (.isub, 1) := by decide +kernel
theorem dX4_goesOrder_255 : decode cX4_goesOrder 255 = .ok (.laload, 1) := by decide +kernel
theorem dX4_goesOrder_256 : decode cX4_goesOrder 256 = .ok (.lstore 8, 2) := by decide +kernel
theorem dX4_goesOrder_258 : decode cX4_goesOrder 258 = .ok (.lload 8, 2) := by decide +kernel
theorem dX4_goesOrder_260 : decode cX4_goesOrder 260 = .ok (.lload_n 3, 1) := by decide +kernel
theorem dX4_goesOrder_261 : decode cX4_goesOrder 261 = .ok (.lcmp, 1) := by decide +kernel
theorem dX4_goesOrder_262 : decode cX4_goesOrder 262 = .ok (.ifCond .ge 9, 3) := by decide +kernel
theorem dX4_goesOrder_265 : decode cX4_goesOrder 265 = .ok (.ldc2_w 125, 3) := by decide +kernel
theorem dX4_goesOrder_268 : decode cX4_goesOrder 268 = .ok (.goto 15, 3) := by decide +kernel
theorem dX4_goesOrder_271 : decode cX4_goesOrder 271 = .ok (.lload 8, 2) := by decide +kernel
theorem dX4_goesOrder_273 : decode cX4_goesOrder 273 = .ok (.lload_n 3, 1) := by decide +kernel
theorem dX4_goesOrder_274 : decode cX4_goesOrder 274 = .ok (.lcmp, 1) := by decide +kernel
theorem dX4_goesOrder_275 : decode cX4_goesOrder 275 = .ok (.ifCond .le 7, 3) := by decide +kernel
theorem dX4_goesOrder_278 : decode cX4_goesOrder 278 = .ok (.lconst 1, 1) := by decide +kernel
theorem dX4_goesOrder_279 : decode cX4_goesOrder 279 = .ok (.goto 4, 3) := by decide +kernel
theorem dX4_goesOrder_282 : decode cX4_goesOrder 282 = .ok (.lconst 0, 1) := by decide +kernel
theorem dX4_goesOrder_283 : decode cX4_goesOrder 283 = .ok (.lstore 10, 2) := by decide +kernel
theorem dX4_goesOrder_285 : decode cX4_goesOrder 285 = .ok (.aload_n 0, 1) := by decide +kernel
theorem dX4_goesOrder_286 : decode cX4_goesOrder 286 = .ok (.iload 5, 2) := by decide +kernel
theorem dX4_goesOrder_288 : decode cX4_goesOrder 288 = .ok (.ifCond .ne 8, 3) := by decide +kernel
theorem dX4_goesOrder_291 : decode cX4_goesOrder 291 = .ok (.lload 10, 2) := by decide +kernel
theorem dX4_goesOrder_293 : decode cX4_goesOrder 293 = .ok (.goto 6, 3) := by decide +kernel
theorem dX4_goesOrder_296 : decode cX4_goesOrder 296 = .ok (.lload 10, 2) := by decide +kernel
theorem dX4_goesOrder_298 : decode cX4_goesOrder 298 = .ok (.lneg, 1) := by decide +kernel
theorem dX4_goesOrder_299 : decode cX4_goesOrder 299 = .ok (.invokevirtual 111, 3) := by decide +kernel
theorem dX4_goesOrder_302 : decode cX4_goesOrder 302 = .ok (.return_, 1) := by decide +kernel
theorem dX4_recovers_0 : decode cX4_recovers 0 = .ok (.iconst 0, 1) := by decide +kernel
theorem dX4_recovers_1 : decode cX4_recovers 1 = .ok (.istore_n 1, 1) := by decide +kernel
theorem dX4_recovers_2 : decode cX4_recovers 2 = .ok (.aload_n 0, 1) := by decide +kernel
theorem dX4_recovers_3 : decode cX4_recovers 3 = .ok (.getfield 104, 3) := by decide +kernel
theorem dX4_recovers_6 : decode cX4_recovers 6 = .ok (.ifCond .le 83, 3) := by decide +kernel
theorem dX4_recovers_9 : decode cX4_recovers 9 = .ok (.iload_n 1, 1) := by decide +kernel
theorem dX4_recovers_10 : decode cX4_recovers 10 = .ok (.ifCond .ne 79, 3) := by decide +kernel
theorem dX4_recovers_13 : decode cX4_recovers 13 = .ok (.aload_n 0, 1) := by decide +kernel
theorem dX4_recovers_14 : decode cX4_recovers 14 = .ok (.getfield 38, 3) := by decide +kernel
theorem dX4_recovers_17 : decode cX4_recovers 17 = .ok (.aload_n 0, 1) := by decide +kernel
theorem dX4_recovers_18 : decode cX4_recovers 18 = .ok (.getfield 104, 3) := by decide +kernel
theorem dX4_recovers_21 : decode cX4_recovers 21 = .ok (.iconst 1, 1) := by decide +kernel
theorem dX4_recovers_22 : decode cX4_recovers 22 = .ok (.isub, 1) := by decide +kernel
theorem dX4_recovers_23 : decode cX4_recovers 23 = .ok (.iaload, 1) := by decide +kernel
theorem dX4_recovers_24 : decode cX4_recovers 24 = .ok (.istore_n 2, 1) := by decide +kernel
theorem dX4_recovers_25 : decode cX4_recovers 25 = .ok (.aload_n 0, 1) := by decide +kernel
theorem dX4_recovers_26 : decode cX4_recovers 26 = .ok (.getfield 98, 3) := by decide +kernel
theorem dX4_recovers_29 : decode cX4_recovers 29 = .ok (.iconst 4, 1) := by decide +kernel
theorem dX4_recovers_30 : decode cX4_recovers 30 = .ok (.if_icmp .eq 44, 3) := by decide +kernel
theorem dX4_recovers_33 : decode cX4_recovers 33 = .ok (.iload_n 2, 1) := by decide +kernel
theorem dX4_recovers_34 : decode cX4_recovers 34 = .ok (.bipush 24, 2) := by decide +kernel
theorem dX4_recovers_36 : decode cX4_recovers 36 = .ok (.if_icmp .lt 38, 3) := by decide +kernel
theorem dX4_recovers_39 : decode cX4_recovers 39 = .ok (.iload_n 2, 1) := by decide +kernel
theorem dX4_recovers_40 : decode cX4_recovers 40 = .ok (.bipush 48, 2) := by decide +kernel
theorem dX4_recovers_42 : decode cX4_recovers 42 = .ok (.if_icmp .ge 32, 3) := by decide +kernel
theorem dX4_recovers_45 : decode cX4_recovers 45 = .ok (.aload_n 0, 1) := by decide +kernel
theorem dX4_recovers_46 : decode cX4_recovers 46 = .ok (.getfield 23, 3) := by decide +kernel
theorem dX4_recovers_49 : decode cX4_recovers 49 = .ok (.iload_n 2, 1) := by decide +kernel
theorem dX4_recovers_50 : decode cX4_recovers 50 = .ok (.iaload, 1) := by decide +kernel
theorem dX4_recovers_51 : decode cX4_recovers 51 = .ok (.bipush 8, 2) := by decide +kernel
theorem dX4_recovers_53 : decode cX4_recovers 53 = .ok (.if_icmp .ne 21, 3) := by decide +kernel
theorem dX4_recovers_56 : decode cX4_recovers 56 = .ok (.aload_n 0, 1) := by decide +kernel
theorem dX4_recovers_57 : decode cX4_recovers 57 = .ok (.getfield 47, 3) := by decide +kernel
theorem dX4_recovers_60 : decode cX4_recovers 60 = .ok (.aload_n 0, 1) := by decide +kernel
theorem dX4_recovers_61 : decode cX4_recovers 61 = .ok (.getfield 104, 3) := by decide +kernel
theorem dX4_recovers_64 : decode cX4_recovers 64 = .ok (.iconst 1, 1) := by decide +kernel
theorem dX4_recovers_65 : decode cX4_recovers 65 = .ok (.isub, 1) := by decide +kernel
theorem dX4_recovers_66 : decode cX4_recovers 66 = .ok (.iaload, 1) := by decide +kernel
theorem dX4_recovers_67 : decode cX4_recovers 67 = .ok (.ifCond .le 7, 3) := by decide +kernel
theorem dX4_recovers_70 : decode cX4_recovers 70 = .ok (.iconst 1, 1) := by decide +kernel
theorem dX4_recovers_71 : decode cX4_recovers 71 = .ok (.goto 4, 3) := by decide +kernel
theorem dX4_recovers_74 : decode cX4_recovers 74 = .ok (.iconst 0, 1) := by decide +kernel
theorem dX4_recovers_75 : decode cX4_recovers 75 = .ok (.istore_n 1, 1) := by decide +kernel
theorem dX4_recovers_76 : decode cX4_recovers 76 = .ok (.aload_n 0, 1) := by decide +kernel
theorem dX4_recovers_77 : decode cX4_recovers 77 = .ok (.dup, 1) := by decide +kernel
theorem dX4_recovers_78 : decode cX4_recovers 78 = .ok (.getfield 104, 3) := by decide +kernel
theorem dX4_recovers_81 : decode cX4_recovers 81 = .ok (.iconst 1, 1) := by decide +kernel
theorem dX4_recovers_82 : decode cX4_recovers 82 = .ok (.isub, 1) := by decide +kernel
theorem dX4_recovers_83 : decode cX4_recovers 83 = .ok (.putfield 104, 3) := by decide +kernel
theorem dX4_recovers_86 : decode cX4_recovers 86 = .ok (.goto (-84), 3) := by decide +kernel
theorem dX4_recovers_89 : decode cX4_recovers 89 = .ok (.iload_n 1, 1) := by decide +kernel
theorem dX4_recovers_90 : decode cX4_recovers 90 = .ok (.ifCond .eq 23, 3) := by decide +kernel
theorem dX4_recovers_93 : decode cX4_recovers 93 = .ok (.aload_n 0, 1) := by decide +kernel
theorem dX4_recovers_94 : decode cX4_recovers 94 = .ok (.iconst 0, 1) := by decide +kernel
theorem dX4_recovers_95 : decode cX4_recovers 95 = .ok (.putfield 98, 3) := by decide +kernel
theorem dX4_recovers_98 : decode cX4_recovers 98 = .ok (.aload_n 0, 1) := by decide +kernel
theorem dX4_recovers_99 : decode cX4_recovers 99 = .ok (.dup, 1) := by decide +kernel
theorem dX4_recovers_100 : decode cX4_recovers 100 = .ok (.getfield 127, 3) := by decide +kernel
theorem dX4_recovers_103 : decode cX4_recovers 103 = .ok (.iconst 1, 1) := by decide +kernel
theorem dX4_recovers_104 : decode cX4_recovers 104 = .ok (.iadd, 1) := by decide +kernel
theorem dX4_recovers_105 : decode cX4_recovers 105 = .ok (.putfield 127, 3) := by decide +kernel
theorem dX4_recovers_108 : decode cX4_recovers 108 = .ok (.aload_n 0, 1) := by decide +kernel
theorem dX4_recovers_109 : decode cX4_recovers 109 = .ok (.lconst 0, 1) := by decide +kernel
theorem dX4_recovers_110 : decode cX4_recovers 110 = .ok (.putfield 107, 3) := by decide +kernel
theorem dX4_recovers_113 : decode cX4_recovers 113 = .ok (.return_, 1) := by decide +kernel
theorem dX4_ask_0 : decode cX4_ask 0 = .ok (.aload_n 0, 1) := by decide +kernel
theorem dX4_ask_1 : decode cX4_ask 1 = .ok (.iconst 0, 1) := by decide +kernel
theorem dX4_ask_2 : decode cX4_ask 2 = .ok (.putfield 104, 3) := by decide +kernel
theorem dX4_ask_5 : decode cX4_ask 5 = .ok (.aload_n 0, 1) := by decide +kernel
theorem dX4_ask_6 : decode cX4_ask 6 = .ok (.iconst 0, 1) := by decide +kernel
theorem dX4_ask_7 : decode cX4_ask 7 = .ok (.putfield 98, 3) := by decide +kernel
theorem dX4_ask_10 : decode cX4_ask 10 = .ok (.aload_n 0, 1) := by decide +kernel
theorem dX4_ask_11 : decode cX4_ask 11 = .ok (.iload_n 1, 1) := by decide +kernel
theorem dX4_ask_12 : decode cX4_ask 12 = .ok (.iload_n 2, 1) := by decide +kernel
theorem dX4_ask_13 : decode cX4_ask 13 = .ok (.iload_n 3, 1) := by decide +kernel
theorem dX4_ask_14 : decode cX4_ask 14 = .ok (.iload 4, 2) := by decide +kernel
theorem dX4_ask_16 : decode cX4_ask 16 = .ok (.invokevirtual 115, 3) := by decide +kernel
theorem dX4_ask_19 : decode cX4_ask 19 = .ok (.aload_n 0, 1) := by decide +kernel
theorem dX4_ask_20 : decode cX4_ask 20 = .ok (.getfield 104, 3) := by decide +kernel
theorem dX4_ask_23 : decode cX4_ask 23 = .ok (.ifCond .le 131, 3) := by decide +kernel
theorem dX4_ask_26 : decode cX4_ask 26 = .ok (.aload_n 0, 1) := by decide +kernel
theorem dX4_ask_27 : decode cX4_ask 27 = .ok (.getfield 98, 3) := by decide +kernel
theorem dX4_ask_30 : decode cX4_ask 30 = .ok (.ifCond .ne 124, 3) := by decide +kernel
theorem dX4_ask_33 : decode cX4_ask 33 = .ok (.aload_n 0, 1) := by decide +kernel
theorem dX4_ask_34 : decode cX4_ask 34 = .ok (.getfield 104, 3) := by decide +kernel
theorem dX4_ask_37 : decode cX4_ask 37 = .ok (.iconst 1, 1) := by decide +kernel
theorem dX4_ask_38 : decode cX4_ask 38 = .ok (.isub, 1) := by decide +kernel
theorem dX4_ask_39 : decode cX4_ask 39 = .ok (.istore 5, 2) := by decide +kernel
theorem dX4_ask_41 : decode cX4_ask 41 = .ok (.aload_n 0, 1) := by decide +kernel
theorem dX4_ask_42 : decode cX4_ask 42 = .ok (.getfield 38, 3) := by decide +kernel
theorem dX4_ask_45 : decode cX4_ask 45 = .ok (.iload 5, 2) := by decide +kernel
theorem dX4_ask_47 : decode cX4_ask 47 = .ok (.iaload, 1) := by decide +kernel
theorem dX4_ask_48 : decode cX4_ask 48 = .ok (.istore 6, 2) := by decide +kernel
theorem dX4_ask_50 : decode cX4_ask 50 = .ok (.aload_n 0, 1) := by decide +kernel
theorem dX4_ask_51 : decode cX4_ask 51 = .ok (.getfield 47, 3) := by decide +kernel
theorem dX4_ask_54 : decode cX4_ask 54 = .ok (.iload 5, 2) := by decide +kernel
theorem dX4_ask_56 : decode cX4_ask 56 = .ok (.iaload, 1) := by decide +kernel
theorem dX4_ask_57 : decode cX4_ask 57 = .ok (.istore 7, 2) := by decide +kernel
theorem dX4_ask_59 : decode cX4_ask 59 = .ok (.aload_n 0, 1) := by decide +kernel
theorem dX4_ask_60 : decode cX4_ask 60 = .ok (.getfield 47, 3) := by decide +kernel
theorem dX4_ask_63 : decode cX4_ask 63 = .ok (.iload 5, 2) := by decide +kernel
theorem dX4_ask_65 : decode cX4_ask 65 = .ok (.dup2, 1) := by decide +kernel
theorem dX4_ask_66 : decode cX4_ask 66 = .ok (.iaload, 1) := by decide +kernel
theorem dX4_ask_67 : decode cX4_ask 67 = .ok (.iconst 1, 1) := by decide +kernel
theorem dX4_ask_68 : decode cX4_ask 68 = .ok (.iadd, 1) := by decide +kernel
theorem dX4_ask_69 : decode cX4_ask 69 = .ok (.iastore, 1) := by decide +kernel
theorem dX4_ask_70 : decode cX4_ask 70 = .ok (.iload 6, 2) := by decide +kernel
theorem dX4_ask_72 : decode cX4_ask 72 = .ok (.bipush 24, 2) := by decide +kernel
theorem dX4_ask_74 : decode cX4_ask 74 = .ok (.if_icmp .ge 25, 3) := by decide +kernel
theorem dX4_ask_77 : decode cX4_ask 77 = .ok (.aload_n 0, 1) := by decide +kernel
theorem dX4_ask_78 : decode cX4_ask 78 = .ok (.iload 6, 2) := by decide +kernel
theorem dX4_ask_80 : decode cX4_ask 80 = .ok (.aload_n 0, 1) := by decide +kernel
theorem dX4_ask_81 : decode cX4_ask 81 = .ok (.getfield 41, 3) := by decide +kernel
theorem dX4_ask_84 : decode cX4_ask 84 = .ok (.iload 5, 2) := by decide +kernel
theorem dX4_ask_86 : decode cX4_ask 86 = .ok (.iaload, 1) := by decide +kernel
theorem dX4_ask_87 : decode cX4_ask 87 = .ok (.iload 7, 2) := by decide +kernel
theorem dX4_ask_89 : decode cX4_ask 89 = .ok (.aload_n 0, 1) := by decide +kernel
theorem dX4_ask_90 : decode cX4_ask 90 = .ok (.getfield 107, 3) := by decide +kernel
theorem dX4_ask_93 : decode cX4_ask 93 = .ok (.invokevirtual 130, 3) := by decide +kernel
theorem dX4_ask_96 : decode cX4_ask 96 = .ok (.goto 44, 3) := by decide +kernel
theorem dX4_ask_99 : decode cX4_ask 99 = .ok (.iload 6, 2) := by decide +kernel
theorem dX4_ask_101 : decode cX4_ask 101 = .ok (.bipush 48, 2) := by decide +kernel
theorem dX4_ask_103 : decode cX4_ask 103 = .ok (.if_icmp .ge 25, 3) := by decide +kernel
theorem dX4_ask_106 : decode cX4_ask 106 = .ok (.aload_n 0, 1) := by decide +kernel
theorem dX4_ask_107 : decode cX4_ask 107 = .ok (.iload 6, 2) := by decide +kernel
theorem dX4_ask_109 : decode cX4_ask 109 = .ok (.aload_n 0, 1) := by decide +kernel
theorem dX4_ask_110 : decode cX4_ask 110 = .ok (.getfield 41, 3) := by decide +kernel
theorem dX4_ask_113 : decode cX4_ask 113 = .ok (.iload 5, 2) := by decide +kernel
theorem dX4_ask_115 : decode cX4_ask 115 = .ok (.iaload, 1) := by decide +kernel
theorem dX4_ask_116 : decode cX4_ask 116 = .ok (.iload 7, 2) := by decide +kernel
theorem dX4_ask_118 : decode cX4_ask 118 = .ok (.aload_n 0, 1) := by decide +kernel
theorem dX4_ask_119 : decode cX4_ask 119 = .ok (.getfield 107, 3) := by decide +kernel
theorem dX4_ask_122 : decode cX4_ask 122 = .ok (.invokevirtual 134, 3) := by decide +kernel
theorem dX4_ask_125 : decode cX4_ask 125 = .ok (.goto 15, 3) := by decide +kernel

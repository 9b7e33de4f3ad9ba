theorem dX7_init_81 : decode cX7_init 81 = .ok (.bipush 20, 2) := by decide +kernel
theorem dX7_init_83 : decode cX7_init 83 = .ok (.newarray .int, 2) := by decide +kernel
theorem dX7_init_85 : decode cX7_init 85 = .ok (.putfield 46, 3) := by decide +kernel
theorem dX7_init_88 : decode cX7_init 88 = .ok (.aload_n 0, 1) := by decide +kernel
theorem dX7_init_89 : decode cX7_init 89 = .ok (.bipush 20, 2) := by decide +kernel
theorem dX7_init_91 : decode cX7_init 91 = .ok (.newarray .int, 2) := by decide +kernel
theorem dX7_init_93 : decode cX7_init 93 = .ok (.putfield 49, 3) := by decide +kernel
theorem dX7_init_96 : decode cX7_init 96 = .ok (.aload_n 0, 1) := by decide +kernel
theorem dX7_init_97 : decode cX7_init 97 = .ok (.bipush 20, 2) := by decide +kernel
theorem dX7_init_99 : decode cX7_init 99 = .ok (.newarray .int, 2) := by decide +kernel
theorem dX7_init_101 : decode cX7_init 101 = .ok (.putfield 52, 3) := by decide +kernel
theorem dX7_init_104 : decode cX7_init 104 = .ok (.aload_n 0, 1) := by decide +kernel
theorem dX7_init_105 : decode cX7_init 105 = .ok (.iconst (-1), 1) := by decide +kernel
theorem dX7_init_106 : decode cX7_init 106 = .ok (.putfield 55, 3) := by decide +kernel
theorem dX7_init_109 : decode cX7_init 109 = .ok (.aload_n 0, 1) := by decide +kernel
theorem dX7_init_110 : decode cX7_init 110 = .ok (.bipush 24, 2) := by decide +kernel
theorem dX7_init_112 : decode cX7_init 112 = .ok (.newarray .int, 2) := by decide +kernel
theorem dX7_init_114 : decode cX7_init 114 = .ok (.putfield 58, 3) := by decide +kernel
theorem dX7_init_117 : decode cX7_init 117 = .ok (.aload_n 0, 1) := by decide +kernel
theorem dX7_init_118 : decode cX7_init 118 = .ok (.bipush 120, 2) := by decide +kernel
theorem dX7_init_120 : decode cX7_init 120 = .ok (.newarray .int, 2) := by decide +kernel
theorem dX7_init_122 : decode cX7_init 122 = .ok (.putfield 61, 3) := by decide +kernel
theorem dX7_init_125 : decode cX7_init 125 = .ok (.aload_n 0, 1) := by decide +kernel
theorem dX7_init_126 : decode cX7_init 126 = .ok (.bipush 120, 2) := by decide +kernel
theorem dX7_init_128 : decode cX7_init 128 = .ok (.newarray .int, 2) := by decide +kernel
theorem dX7_init_130 : decode cX7_init 130 = .ok (.putfield 64, 3) := by decide +kernel
theorem dX7_init_133 : decode cX7_init 133 = .ok (.aload_n 0, 1) := by decide +kernel
theorem dX7_init_134 : decode cX7_init 134 = .ok (.bipush 120, 2) := by decide +kernel
theorem dX7_init_136 : decode cX7_init 136 = .ok (.newarray .int, 2) := by decide +kernel
theorem dX7_init_138 : decode cX7_init 138 = .ok (.putfield 67, 3) := by decide +kernel
theorem dX7_init_141 : decode cX7_init 141 = .ok (.aload_n 0, 1) := by decide +kernel
theorem dX7_init_142 : decode cX7_init 142 = .ok (.bipush 120, 2) := by decide +kernel
theorem dX7_init_144 : decode cX7_init 144 = .ok (.newarray .int, 2) := by decide +kernel
theorem dX7_init_146 : decode cX7_init 146 = .ok (.putfield 70, 3) := by decide +kernel
theorem dX7_init_149 : decode cX7_init 149 = .ok (.aload_n 0, 1) := by decide +kernel
theorem dX7_init_150 : decode cX7_init 150 = .ok (.bipush 120, 2) := by decide +kernel
theorem dX7_init_152 : decode cX7_init 152 = .ok (.newarray .int, 2) := by decide +kernel
theorem dX7_init_154 : decode cX7_init 154 = .ok (.putfield 73, 3) := by decide +kernel
theorem dX7_init_157 : decode cX7_init 157 = .ok (.aload_n 0, 1) := by decide +kernel
theorem dX7_init_158 : decode cX7_init 158 = .ok (.iconst 4, 1) := by decide +kernel
theorem dX7_init_159 : decode cX7_init 159 = .ok (.newarray .int, 2) := by decide +kernel
theorem dX7_init_161 : decode cX7_init 161 = .ok (.putfield 76, 3) := by decide +kernel
theorem dX7_init_164 : decode cX7_init 164 = .ok (.aload_n 0, 1) := by decide +kernel
theorem dX7_init_165 : decode cX7_init 165 = .ok (.bipush 100, 2) := by decide +kernel
theorem dX7_init_167 : decode cX7_init 167 = .ok (.putfield 79, 3) := by decide +kernel
theorem dX7_init_170 : decode cX7_init 170 = .ok (.aload_n 0, 1) := by decide +kernel
theorem dX7_init_171 : decode cX7_init 171 = .ok (.iconst 4, 1) := by decide +kernel
theorem dX7_init_172 : decode cX7_init 172 = .ok (.newarray .boolean, 2) := by decide +kernel
theorem dX7_init_174 : decode cX7_init 174 = .ok (.putfield 82, 3) := by decide +kernel
theorem dX7_init_177 : decode cX7_init 177 = .ok (.aload_n 0, 1) := by decide +kernel
theorem dX7_init_178 : decode cX7_init 178 = .ok (.iconst 4, 1) := by decide +kernel
theorem dX7_init_179 : decode cX7_init 179 = .ok (.newarray .int, 2) := by decide +kernel
theorem dX7_init_181 : decode cX7_init 181 = .ok (.putfield 85, 3) := by decide +kernel
theorem dX7_init_184 : decode cX7_init 184 = .ok (.aload_n 0, 1) := by decide +kernel
theorem dX7_init_185 : decode cX7_init 185 = .ok (.iconst 4, 1) := by decide +kernel
theorem dX7_init_186 : decode cX7_init 186 = .ok (.newarray .int, 2) := by decide +kernel
theorem dX7_init_188 : decode cX7_init 188 = .ok (.putfield 88, 3) := by decide +kernel
theorem dX7_init_191 : decode cX7_init 191 = .ok (.aload_n 0, 1) := by decide +kernel
theorem dX7_init_192 : decode cX7_init 192 = .ok (.sipush 240, 3) := by decide +kernel
theorem dX7_init_195 : decode cX7_init 195 = .ok (.newarray .int, 2) := by decide +kernel
theorem dX7_init_197 : decode cX7_init 197 = .ok (.putfield 91, 3) := by decide +kernel
theorem dX7_init_200 : decode cX7_init 200 = .ok (.aload_n 0, 1) := by decide +kernel
theorem dX7_init_201 : decode cX7_init 201 = .ok (.bipush 60, 2) := by decide +kernel
theorem dX7_init_203 : decode cX7_init 203 = .ok (.newarray .int, 2) := by decide +kernel
theorem dX7_init_205 : decode cX7_init 205 = .ok (.putfield 94, 3) := by decide +kernel
theorem dX7_init_208 : decode cX7_init 208 = .ok (.return_, 1) := by decide +kernel
theorem dX7_in_0 : decode cX7_in 0 = .ok (.iload_n 0, 1) := by decide +kernel
theorem dX7_in_1 : decode cX7_in 1 = .ok (.iload_n 1, 1) := by decide +kernel
theorem dX7_in_2 : decode cX7_in 2 = .ok (.if_icmp .lt 12, 3) := by decide +kernel
theorem dX7_in_5 : decode cX7_in 5 = .ok (.iload_n 0, 1) := by decide +kernel
theorem dX7_in_6 : decode cX7_in 6 = .ok (.iload_n 2, 1) := by decide +kernel
theorem dX7_in_7 : decode cX7_in 7 = .ok (.if_icmp .gt 7, 3) := by decide +kernel
theorem dX7_in_10 : decode cX7_in 10 = .ok (.iconst 1, 1) := by decide +kernel
theorem dX7_in_11 : decode cX7_in 11 = .ok (.goto 4, 3) := by decide +kernel
theorem dX7_in_14 : decode cX7_in 14 = .ok (.iconst 0, 1) := by decide +kernel
theorem dX7_in_15 : decode cX7_in 15 = .ok (.ireturn, 1) := by decide +kernel
theorem dX7_told_0 : decode cX7_told 0 = .ok (.ldc2_w 97, 3) := by decide +kernel
theorem dX7_told_3 : decode cX7_told 3 = .ok (.iload_n 0, 1) := by decide +kernel
theorem dX7_told_4 : decode cX7_told 4 = .ok (.i2l, 1) := by decide +kernel
theorem dX7_told_5 : decode cX7_told 5 = .ok (.lsub, 1) := by decide +kernel
theorem dX7_told_6 : decode cX7_told 6 = .ok (.lreturn, 1) := by decide +kernel
theorem dX7_divisor_0 : decode cX7_divisor 0 = .ok (.lload_n 0, 1) := by decide +kernel
theorem dX7_divisor_1 : decode cX7_divisor 1 = .ok (.lconst 0, 1) := by decide +kernel
theorem dX7_divisor_2 : decode cX7_divisor 2 = .ok (.lcmp, 1) := by decide +kernel
theorem dX7_divisor_3 : decode cX7_divisor 3 = .ok (.ifCond .ge 8, 3) := by decide +kernel
theorem dX7_divisor_6 : decode cX7_divisor 6 = .ok (.lload_n 0, 1) := by decide +kernel
theorem dX7_divisor_7 : decode cX7_divisor 7 = .ok (.lneg, 1) := by decide +kernel
theorem dX7_divisor_8 : decode cX7_divisor 8 = .ok (.goto 4, 3) := by decide +kernel
theorem dX7_divisor_11 : decode cX7_divisor 11 = .ok (.lload_n 0, 1) := by decide +kernel
theorem dX7_divisor_12 : decode cX7_divisor 12 = .ok (.lstore 4, 2) := by decide +kernel
theorem dX7_divisor_14 : decode cX7_divisor 14 = .ok (.lload_n 2, 1) := by decide +kernel
theorem dX7_divisor_15 : decode cX7_divisor 15 = .ok (.lconst 0, 1) := by decide +kernel
theorem dX7_divisor_16 : decode cX7_divisor 16 = .ok (.lcmp, 1) := by decide +kernel
theorem dX7_divisor_17 : decode cX7_divisor 17 = .ok (.ifCond .ge 8, 3) := by decide +kernel
theorem dX7_divisor_20 : decode cX7_divisor 20 = .ok (.lload_n 2, 1) := by decide +kernel
theorem dX7_divisor_21 : decode cX7_divisor 21 = .ok (.lneg, 1) := by decide +kernel
theorem dX7_divisor_22 : decode cX7_divisor 22 = .ok (.goto 4, 3) := by decide +kernel
theorem dX7_divisor_25 : decode cX7_divisor 25 = .ok (.lload_n 2, 1) := by decide +kernel
theorem dX7_divisor_26 : decode cX7_divisor 26 = .ok (.lstore 6, 2) := by decide +kernel
theorem dX7_divisor_28 : decode cX7_divisor 28 = .ok (.lload 6, 2) := by decide +kernel
theorem dX7_divisor_30 : decode cX7_divisor 30 = .ok (.lconst 0, 1) := by decide +kernel
theorem dX7_divisor_31 : decode cX7_divisor 31 = .ok (.lcmp, 1) := by decide +kernel
theorem dX7_divisor_32 : decode cX7_divisor 32 = .ok (.ifCond .eq 21, 3) := by decide +kernel
theorem dX7_divisor_35 : decode cX7_divisor 35 = .ok (.lload 4, 2) := by decide +kernel
theorem dX7_divisor_37 : decode cX7_divisor 37 = .ok (.lload 6, 2) := by decide +kernel
theorem dX7_divisor_39 : decode cX7_divisor 39 = .ok (.lrem, 1) := by decide +kernel
theorem dX7_divisor_40 : decode cX7_divisor 40 = .ok (.lstore 8, 2) := by decide +kernel
theorem dX7_divisor_42 : decode cX7_divisor 42 = .ok (.lload 6, 2) := by decide +kernel
theorem dX7_divisor_44 : decode cX7_divisor 44 = .ok (.lstore 4, 2) := by decide +kernel
theorem dX7_divisor_46 : decode cX7_divisor 46 = .ok (.lload 8, 2) := by decide +kernel
theorem dX7_divisor_48 : decode cX7_divisor 48 = .ok (.lstore 6, 2) := by decide +kernel
theorem dX7_divisor_50 : decode cX7_divisor 50 = .ok (.goto (-22), 3) := by decide +kernel
theorem dX7_divisor_53 : decode cX7_divisor 53 = .ok (.lload 4, 2) := by decide +kernel
theorem dX7_divisor_55 : decode cX7_divisor 55 = .ok (.lreturn, 1) := by decide +kernel
theorem dX7_is_0 : decode cX7_is 0 = .ok (.lload_n 1, 1) := by decide +kernel
theorem dX7_is_1 : decode cX7_is 1 = .ok (.lload_n 3, 1) := by decide +kernel
theorem dX7_is_2 : decode cX7_is 2 = .ok (.invokestatic 99, 3) := by decide +kernel
theorem dX7_is_5 : decode cX7_is 5 = .ok (.lstore 5, 2) := by decide +kernel
theorem dX7_is_7 : decode cX7_is 7 = .ok (.lload_n 3, 1) := by decide +kernel
theorem dX7_is_8 : decode cX7_is 8 = .ok (.lconst 0, 1) := by decide +kernel
theorem dX7_is_9 : decode cX7_is 9 = .ok (.lcmp, 1) := by decide +kernel
theorem dX7_is_10 : decode cX7_is 10 = .ok (.ifCond .ge 9, 3) := by decide +kernel
theorem dX7_is_13 : decode cX7_is 13 = .ok (.lload 5, 2) := by decide +kernel
theorem dX7_is_15 : decode cX7_is 15 = .ok (.lneg, 1) := by decide +kernel
theorem dX7_is_16 : decode cX7_is 16 = .ok (.goto 5, 3) := by decide +kernel
theorem dX7_is_19 : decode cX7_is 19 = .ok (.lload 5, 2) := by decide +kernel
theorem dX7_is_21 : decode cX7_is 21 = .ok (.lstore 5, 2) := by decide +kernel
theorem dX7_is_23 : decode cX7_is 23 = .ok (.aload_n 0, 1) := by decide +kernel
theorem dX7_is_24 : decode cX7_is 24 = .ok (.lload_n 1, 1) := by decide +kernel
theorem dX7_is_25 : decode cX7_is 25 = .ok (.lload 5, 2) := by decide +kernel
theorem dX7_is_27 : decode cX7_is 27 = .ok (.ldiv, 1) := by decide +kernel
theorem dX7_is_28 : decode cX7_is 28 = .ok (.putfield 103, 3) := by decide +kernel
theorem dX7_is_31 : decode cX7_is 31 = .ok (.aload_n 0, 1) := by decide +kernel
theorem dX7_is_32 : decode cX7_is 32 = .ok (.lload_n 3, 1) := by decide +kernel
theorem dX7_is_33 : decode cX7_is 33 = .ok (.lload 5, 2) := by decide +kernel
theorem dX7_is_35 : decode cX7_is 35 = .ok (.ldiv, 1) := by decide +kernel
theorem dX7_is_36 : decode cX7_is 36 = .ok (.putfield 7, 3) := by decide +kernel
theorem dX7_is_39 : decode cX7_is 39 = .ok (.return_, 1) := by decide +kernel
theorem dX7_part_0 : decode cX7_part 0 = .ok (.iload_n 1, 1) := by decide +kernel
theorem dX7_part_1 : decode cX7_part 1 = .ok (.ifCond .ne 10, 3) := by decide +kernel
theorem dX7_part_4 : decode cX7_part 4 = .ok (.aload_n 0, 1) := by decide +kernel
theorem dX7_part_5 : decode cX7_part 5 = .ok (.getfield 103, 3) := by decide +kernel
theorem dX7_part_8 : decode cX7_part 8 = .ok (.goto 7, 3) := by decide +kernel
theorem dX7_part_11 : decode cX7_part 11 = .ok (.aload_n 0, 1) := by decide +kernel
theorem dX7_part_12 : decode cX7_part 12 = .ok (.getfield 7, 3) := by decide +kernel
theorem dX7_part_15 : decode cX7_part 15 = .ok (.lreturn, 1) := by decide +kernel
theorem dX7_isDesign_0 : decode cX7_isDesign 0 = .ok (.iload_n 0, 1) := by decide +kernel
theorem dX7_isDesign_1 : decode cX7_isDesign 1 = .ok (.iconst 0, 1) := by decide +kernel
theorem dX7_isDesign_2 : decode cX7_isDesign 2 = .ok (.iconst 3, 1) := by decide +kernel
theorem dX7_isDesign_3 : decode cX7_isDesign 3 = .ok (.invokestatic 106, 3) := by decide +kernel
theorem dX7_isDesign_6 : decode cX7_isDesign 6 = .ok (.ireturn, 1) := by decide +kernel
theorem dX7_type_0 : decode cX7_type 0 = .ok (.iload_n 1, 1) := by decide +kernel
theorem dX7_type_1 : decode cX7_type 1 = .ok (.invokestatic 110, 3) := by decide +kernel
theorem dX7_type_4 : decode cX7_type 4 = .ok (.ifCond .eq 14, 3) := by decide +kernel
theorem dX7_type_7 : decode cX7_type 7 = .ok (.iload_n 2, 1) := by decide +kernel
theorem dX7_type_8 : decode cX7_type 8 = .ok (.iconst 0, 1) := by decide +kernel
theorem dX7_type_9 : decode cX7_type 9 = .ok (.sipush 255, 3) := by decide +kernel
theorem dX7_type_12 : decode cX7_type 12 = .ok (.invokestatic 106, 3) := by decide +kernel
theorem dX7_type_15 : decode cX7_type 15 = .ok (.ifCond .ne 6, 3) := by decide +kernel
theorem dX7_type_18 : decode cX7_type 18 = .ok (.bipush (-2), 2) := by decide +kernel
theorem dX7_type_20 : decode cX7_type 20 = .ok (.ireturn, 1) := by decide +kernel
theorem dX7_type_21 : decode cX7_type 21 = .ok (.aload_n 0, 1) := by decide +kernel
theorem dX7_type_22 : decode cX7_type 22 = .ok (.getfield 13, 3) := by decide +kernel
theorem dX7_type_25 : decode cX7_type 25 = .ok (.iload_n 1, 1) := by decide +kernel
theorem dX7_type_26 : decode cX7_type 26 = .ok (.iaload, 1) := by decide +kernel
theorem dX7_type_27 : decode cX7_type 27 = .ok (.bipush 60, 2) := by decide +kernel
theorem dX7_type_29 : decode cX7_type 29 = .ok (.if_icmp .ne 6, 3) := by decide +kernel
theorem dX7_type_32 : decode cX7_type 32 = .ok (.bipush (-4), 2) := by decide +kernel
theorem dX7_type_34 : decode cX7_type 34 = .ok (.ireturn, 1) := by decide +kernel
theorem dX7_type_35 : decode cX7_type 35 = .ok (.aload_n 0, 1) := by decide +kernel
theorem dX7_type_36 : decode cX7_type 36 = .ok (.getfield 17, 3) := by decide +kernel
theorem dX7_type_39 : decode cX7_type 39 = .ok (.bipush 60, 2) := by decide +kernel
theorem dX7_type_41 : decode cX7_type 41 = .ok (.iload_n 1, 1) := by decide +kernel
theorem dX7_type_42 : decode cX7_type 42 = .ok (.imul, 1) := by decide +kernel
theorem dX7_type_43 : decode cX7_type 43 = .ok (.aload_n 0, 1) := by decide +kernel
theorem dX7_type_44 : decode cX7_type 44 = .ok (.getfield 13, 3) := by decide +kernel
theorem dX7_type_47 : decode cX7_type 47 = .ok (.iload_n 1, 1) := by decide +kernel
theorem dX7_type_48 : decode cX7_type 48 = .ok (.iaload, 1) := by decide +kernel
theorem dX7_type_49 : decode cX7_type 49 = .ok (.iadd, 1) := by decide +kernel
theorem dX7_type_50 : decode cX7_type 50 = .ok (.iload_n 2, 1) := by decide +kernel
theorem dX7_type_51 : decode cX7_type 51 = .ok (.iastore, 1) := by decide +kernel
theorem dX7_type_52 : decode cX7_type 52 = .ok (.aload_n 0, 1) := by decide +kernel
theorem dX7_type_53 : decode cX7_type 53 = .ok (.getfield 13, 3) := by decide +kernel
theorem dX7_type_56 : decode cX7_type 56 = .ok (.iload_n 1, 1) := by decide +kernel
theorem dX7_type_57 : decode cX7_type 57 = .ok (.dup2, 1) := by decide +kernel
theorem dX7_type_58 : decode cX7_type 58 = .ok (.iaload, 1) := by decide +kernel
theorem dX7_type_59 : decode cX7_type 59 = .ok (.iconst 1, 1) := by decide +kernel
theorem dX7_type_60 : decode cX7_type 60 = .ok (.iadd, 1) := by decide +kernel
theorem dX7_type_61 : decode cX7_type 61 = .ok (.iastore, 1) := by decide +kernel
theorem dX7_type_62 : decode cX7_type 62 = .ok (.aload_n 0, 1) := by decide +kernel
theorem dX7_type_63 : decode cX7_type 63 = .ok (.getfield 20, 3) := by decide +kernel
theorem dX7_type_66 : decode cX7_type 66 = .ok (.iload_n 1, 1) := by decide +kernel
theorem dX7_type_67 : decode cX7_type 67 = .ok (.iconst 0, 1) := by decide +kernel
theorem dX7_type_68 : decode cX7_type 68 = .ok (.bastore, 1) := by decide +kernel
theorem dX7_type_69 : decode cX7_type 69 = .ok (.aload_n 0, 1) := by decide +kernel
theorem dX7_type_70 : decode cX7_type 70 = .ok (.getfield 13, 3) := by decide +kernel
theorem dX7_type_73 : decode cX7_type 73 = .ok (.iload_n 1, 1) := by decide +kernel
theorem dX7_type_74 : decode cX7_type 74 = .ok (.iaload, 1) := by decide +kernel
theorem dX7_type_75 : decode cX7_type 75 = .ok (.ireturn, 1) := by decide +kernel
theorem dX7_wipe_0 : decode cX7_wipe 0 = .ok (.iload_n 1, 1) := by decide +kernel
theorem dX7_wipe_1 : decode cX7_wipe 1 = .ok (.invokestatic 110, 3) := by decide +kernel
theorem dX7_wipe_4 : decode cX7_wipe 4 = .ok (.ifCond .ne 6, 3) := by decide +kernel
theorem dX7_wipe_7 : decode cX7_wipe 7 = .ok (.bipush (-2), 2) := by decide +kernel
theorem dX7_wipe_9 : decode cX7_wipe 9 = .ok (.ireturn, 1) := by decide +kernel
theorem dX7_wipe_10 : decode cX7_wipe 10 = .ok (.aload_n 0, 1) := by decide +kernel
theorem dX7_wipe_11 : decode cX7_wipe 11 = .ok (.getfield 13, 3) := by decide +kernel
theorem dX7_wipe_14 : decode cX7_wipe 14 = .ok (.iload_n 1, 1) := by decide +kernel
theorem dX7_wipe_15 : decode cX7_wipe 15 = .ok (.iaload, 1) := by decide +kernel
theorem dX7_wipe_16 : decode cX7_wipe 16 = .ok (.istore_n 2, 1) := by decide +kernel
theorem dX7_wipe_17 : decode cX7_wipe 17 = .ok (.aload_n 0, 1) := by decide +kernel
theorem dX7_wipe_18 : decode cX7_wipe 18 = .ok (.getfield 13, 3) := by decide +kernel
theorem dX7_wipe_21 : decode cX7_wipe 21 = .ok (.iload_n 1, 1) := by decide +kernel
theorem dX7_wipe_22 : decode cX7_wipe 22 = .ok (.iconst 0, 1) := by decide +kernel
theorem dX7_wipe_23 : decode cX7_wipe 23 = .ok (.iastore, 1) := by decide +kernel
theorem dX7_wipe_24 : decode cX7_wipe 24 = .ok (.aload_n 0, 1) := by decide +kernel
theorem dX7_wipe_25 : decode cX7_wipe 25 = .ok (.getfield 20, 3) := by decide +kernel
theorem dX7_wipe_28 : decode cX7_wipe 28 = .ok (.iload_n 1, 1) := by decide +kernel
theorem dX7_wipe_29 : decode cX7_wipe 29 = .ok (.iconst 0, 1) := by decide +kernel
theorem dX7_wipe_30 : decode cX7_wipe 30 = .ok (.bastore, 1) := by decide +kernel
theorem dX7_wipe_31 : decode cX7_wipe 31 = .ok (.iload_n 2, 1) := by decide +kernel
theorem dX7_wipe_32 : decode cX7_wipe 32 = .ok (.ireturn, 1) := by decide +kernel
theorem dX7_byteNow_0 : decode cX7_byteNow 0 = .ok (.aload_n 0, 1) := by decide +kernel
theorem dX7_byteNow_1 : decode cX7_byteNow 1 = .ok (.getfield 114, 3) := by decide +kernel
theorem dX7_byteNow_4 : decode cX7_byteNow 4 = .ok (.aload_n 0, 1) := by decide +kernel
theorem dX7_byteNow_5 : decode cX7_byteNow 5 = .ok (.getfield 13, 3) := by decide +kernel
theorem dX7_byteNow_8 : decode cX7_byteNow 8 = .ok (.aload_n 0, 1) := by decide +kernel
theorem dX7_byteNow_9 : decode cX7_byteNow 9 = .ok (.getfield 117, 3) := by decide +kernel
theorem dX7_byteNow_12 : decode cX7_byteNow 12 = .ok (.iaload, 1) := by decide +kernel
theorem dX7_byteNow_13 : decode cX7_byteNow 13 = .ok (.if_icmp .ge 23, 3) := by decide +kernel
theorem dX7_byteNow_16 : decode cX7_byteNow 16 = .ok (.aload_n 0, 1) := by decide +kernel
theorem dX7_byteNow_17 : decode cX7_byteNow 17 = .ok (.getfield 17, 3) := by decide +kernel
theorem dX7_byteNow_20 : decode cX7_byteNow 20 = .ok (.bipush 60, 2) := by decide +kernel
theorem dX7_byteNow_22 : decode cX7_byteNow 22 = .ok (.aload_n 0, 1) := by decide +kernel
theorem dX7_byteNow_23 : decode cX7_byteNow 23 = .ok (.getfield 117, 3) := by decide +kernel
theorem dX7_byteNow_26 : decode cX7_byteNow 26 = .ok (.imul, 1) := by decide +kernel
theorem dX7_byteNow_27 : decode cX7_byteNow 27 = .ok (.aload_n 0, 1) := by decide +kernel
theorem dX7_byteNow_28 : decode cX7_byteNow 28 = .ok (.getfield 114, 3) := by decide +kernel
theorem dX7_byteNow_31 : decode cX7_byteNow 31 = .ok (.iadd, 1) := by decide +kernel
theorem dX7_byteNow_32 : decode cX7_byteNow 32 = .ok (.iaload, 1) := by decide +kernel
theorem dX7_byteNow_33 : decode cX7_byteNow 33 = .ok (.goto 4, 3) := by decide +kernel
theorem dX7_byteNow_36 : decode cX7_byteNow 36 = .ok (.iconst (-1), 1) := by decide +kernel
theorem dX7_byteNow_37 : decode cX7_byteNow 37 = .ok (.ireturn, 1) := by decide +kernel
theorem dX7_number_0 : decode cX7_number 0 = .ok (.aload_n 0, 1) := by decide +kernel
theorem dX7_number_1 : decode cX7_number 1 = .ok (.getfield 114, 3) := by decide +kernel
theorem dX7_number_4 : decode cX7_number 4 = .ok (.istore_n 3, 1) := by decide +kernel
theorem dX7_number_5 : decode cX7_number 5 = .ok (.iconst 0, 1) := by decide +kernel
theorem dX7_number_6 : decode cX7_number 6 = .ok (.istore 4, 2) := by decide +kernel
theorem dX7_number_8 : decode cX7_number 8 = .ok (.aload_n 0, 1) := by decide +kernel
theorem dX7_number_9 : decode cX7_number 9 = .ok (.getfield 120, 3) := by decide +kernel
theorem dX7_number_12 : decode cX7_number 12 = .ok (.iconst (-1), 1) := by decide +kernel
theorem dX7_number_13 : decode cX7_number 13 = .ok (.if_icmp .ne 59, 3) := by decide +kernel
theorem dX7_number_16 : decode cX7_number 16 = .ok (.aload_n 0, 1) := by decide +kernel
theorem dX7_number_17 : decode cX7_number 17 = .ok (.getfield 114, 3) := by decide +kernel
theorem dX7_number_20 : decode cX7_number 20 = .ok (.iload_n 3, 1) := by decide +kernel
theorem dX7_number_21 : decode cX7_number 21 = .ok (.iconst 2, 1) := by decide +kernel
theorem dX7_number_22 : decode cX7_number 22 = .ok (.iadd, 1) := by decide +kernel
theorem dX7_number_23 : decode cX7_number 23 = .ok (.if_icmp .ge 49, 3) := by decide +kernel
theorem dX7_number_26 : decode cX7_number 26 = .ok (.aload_n 0, 1) := by decide +kernel
theorem dX7_number_27 : decode cX7_number 27 = .ok (.invokevirtual 123, 3) := by decide +kernel
theorem dX7_number_30 : decode cX7_number 30 = .ok (.bipush 48, 2) := by decide +kernel
theorem dX7_number_32 : decode cX7_number 32 = .ok (.if_icmp .lt 40, 3) := by decide +kernel
theorem dX7_number_35 : decode cX7_number 35 = .ok (.aload_n 0, 1) := by decide +kernel
theorem dX7_number_36 : decode cX7_number 36 = .ok (.invokevirtual 123, 3) := by decide +kernel
theorem dX7_number_39 : decode cX7_number 39 = .ok (.bipush 57, 2) := by decide +kernel
theorem dX7_number_41 : decode cX7_number 41 = .ok (.if_icmp .gt 31, 3) := by decide +kernel
theorem dX7_number_44 : decode cX7_number 44 = .ok (.bipush 10, 2) := by decide +kernel
theorem dX7_number_46 : decode cX7_number 46 = .ok (.iload 4, 2) := by decide +kernel
theorem dX7_number_48 : decode cX7_number 48 = .ok (.imul, 1) := by decide +kernel
theorem dX7_number_49 : decode cX7_number 49 = .ok (.aload_n 0, 1) := by decide +kernel
theorem dX7_number_50 : decode cX7_number 50 = .ok (.invokevirtual 123, 3) := by decide +kernel
theorem dX7_number_53 : decode cX7_number 53 = .ok (.iadd, 1) := by decide +kernel
theorem dX7_number_54 : decode cX7_number 54 = .ok (.bipush 48, 2) := by decide +kernel
theorem dX7_number_56 : decode cX7_number 56 = .ok (.isub, 1) := by decide +kernel
theorem dX7_number_57 : decode cX7_number 57 = .ok (.istore 4, 2) := by decide +kernel
theorem dX7_number_59 : decode cX7_number 59 = .ok (.aload_n 0, 1) := by decide +kernel
theorem dX7_number_60 : decode cX7_number 60 = .ok (.dup, 1) := by decide +kernel
theorem dX7_number_61 : decode cX7_number 61 = .ok (.getfield 114, 3) := by decide +kernel
theorem dX7_number_64 : decode cX7_number 64 = .ok (.iconst 1, 1) := by decide +kernel
theorem dX7_number_65 : decode cX7_number 65 = .ok (.iadd, 1) := by decide +kernel
theorem dX7_number_66 : decode cX7_number 66 = .ok (.putfield 114, 3) := by decide +kernel
theorem dX7_number_69 : decode cX7_number 69 = .ok (.goto (-61), 3) := by decide +kernel
theorem dX7_number_72 : decode cX7_number 72 = .ok (.aload_n 0, 1) := by decide +kernel
theorem dX7_number_73 : decode cX7_number 73 = .ok (.getfield 120, 3) := by decide +kernel
theorem dX7_number_76 : decode cX7_number 76 = .ok (.iconst (-1), 1) := by decide +kernel
theorem dX7_number_77 : decode cX7_number 77 = .ok (.if_icmp .ne 26, 3) := by decide +kernel
theorem dX7_number_80 : decode cX7_number 80 = .ok (.aload_n 0, 1) := by decide +kernel
theorem dX7_number_81 : decode cX7_number 81 = .ok (.getfield 114, 3) := by decide +kernel
theorem dX7_number_84 : decode cX7_number 84 = .ok (.iload_n 3, 1) := by decide +kernel
theorem dX7_number_85 : decode cX7_number 85 = .ok (.if_icmp .eq 13, 3) := by decide +kernel
theorem dX7_number_88 : decode cX7_number 88 = .ok (.iload 4, 2) := by decide +kernel
theorem dX7_number_90 : decode cX7_number 90 = .ok (.iload_n 1, 1) := by decide +kernel
theorem dX7_number_91 : decode cX7_number 91 = .ok (.iload_n 2, 1) := by decide +kernel
theorem dX7_number_92 : decode cX7_number 92 = .ok (.invokestatic 106, 3) := by decide +kernel
theorem dX7_number_95 : decode cX7_number 95 = .ok (.ifCond .ne 8, 3) := by decide +kernel
theorem dX7_number_98 : decode cX7_number 98 = .ok (.aload_n 0, 1) := by decide +kernel
theorem dX7_number_99 : decode cX7_number 99 = .ok (.iload_n 3, 1) := by decide +kernel
theorem dX7_number_100 : decode cX7_number 100 = .ok (.putfield 120, 3) := by decide +kernel
theorem dX7_number_103 : decode cX7_number 103 = .ok (.iload 4, 2) := by decide +kernel
theorem dX7_number_105 : decode cX7_number 105 = .ok (.ireturn, 1) := by decide +kernel
theorem dX7_partRead_0 : decode cX7_partRead 0 = .ok (.aload_n 0, 1) := by decide +kernel
theorem dX7_partRead_1 : decode cX7_partRead 1 = .ok (.invokevirtual 123, 3) := by decide +kernel
theorem dX7_partRead_4 : decode cX7_partRead 4 = .ok (.istore_n 1, 1) := by decide +kernel
theorem dX7_partRead_5 : decode cX7_partRead 5 = .ok (.iload_n 1, 1) := by decide +kernel
theorem dX7_partRead_6 : decode cX7_partRead 6 = .ok (.bipush 116, 2) := by decide +kernel
theorem dX7_partRead_8 : decode cX7_partRead 8 = .ok (.if_icmp .eq 36, 3) := by decide +kernel
theorem dX7_partRead_11 : decode cX7_partRead 11 = .ok (.iload_n 1, 1) := by decide +kernel
theorem dX7_partRead_12 : decode cX7_partRead 12 = .ok (.bipush 111, 2) := by decide +kernel
theorem dX7_partRead_14 : decode cX7_partRead 14 = .ok (.if_icmp .eq 30, 3) := by decide +kernel
theorem dX7_partRead_17 : decode cX7_partRead 17 = .ok (.iload_n 1, 1) := by decide +kernel
theorem dX7_partRead_18 : decode cX7_partRead 18 = .ok (.bipush 121, 2) := by decide +kernel
theorem dX7_partRead_20 : decode cX7_partRead 20 = .ok (.if_icmp .eq 24, 3) := by decide +kernel
theorem dX7_partRead_23 : decode cX7_partRead 23 = .ok (.iload_n 1, 1) := by decide +kernel
theorem dX7_partRead_24 : decode cX7_partRead 24 = .ok (.bipush 110, 2) := by decide +kernel
theorem dX7_partRead_26 : decode cX7_partRead 26 = .ok (.if_icmp .eq 18, 3) := by decide +kernel
theorem dX7_partRead_29 : decode cX7_partRead 29 = .ok (.iload_n 1, 1) := by decide +kernel
theorem dX7_partRead_30 : decode cX7_partRead 30 = .ok (.bipush 117, 2) := by decide +kernel
theorem dX7_partRead_32 : decode cX7_partRead 32 = .ok (.if_icmp .eq 12, 3) := by decide +kernel
theorem dX7_partRead_35 : decode cX7_partRead 35 = .ok (.aload_n 0, 1) := by decide +kernel
theorem dX7_partRead_36 : decode cX7_partRead 36 = .ok (.aload_n 0, 1) := by decide +kernel
theorem dX7_partRead_37 : decode cX7_partRead 37 = .ok (.getfield 114, 3) := by decide +kernel
theorem dX7_partRead_40 : decode cX7_partRead 40 = .ok (.putfield 120, 3) := by decide +kernel
theorem dX7_partRead_43 : decode cX7_partRead 43 = .ok (.return_, 1) := by decide +kernel
theorem dX7_partRead_44 : decode cX7_partRead 44 = .ok (.aload_n 0, 1) := by decide +kernel
theorem dX7_partRead_45 : decode cX7_partRead 45 = .ok (.dup, 1) := by decide +kernel
theorem dX7_partRead_46 : decode cX7_partRead 46 = .ok (.getfield 114, 3) := by decide +kernel
theorem dX7_partRead_49 : decode cX7_partRead 49 = .ok (.iconst 1, 1) := by decide +kernel
theorem dX7_partRead_50 : decode cX7_partRead 50 = .ok (.iadd, 1) := by decide +kernel
theorem dX7_partRead_51 : decode cX7_partRead 51 = .ok (.putfield 114, 3) := by decide +kernel
theorem dX7_partRead_54 : decode cX7_partRead 54 = .ok (.aload_n 0, 1) := by decide +kernel
theorem dX7_partRead_55 : decode cX7_partRead 55 = .ok (.iconst 0, 1) := by decide +kernel
theorem dX7_partRead_56 : decode cX7_partRead 56 = .ok (.bipush 20, 2) := by decide +kernel
theorem dX7_partRead_58 : decode cX7_partRead 58 = .ok (.invokevirtual 127, 3) := by decide +kernel
theorem dX7_partRead_61 : decode cX7_partRead 61 = .ok (.istore_n 2, 1) := by decide +kernel
theorem dX7_partRead_62 : decode cX7_partRead 62 = .ok (.aload_n 0, 1) := by decide +kernel
theorem dX7_partRead_63 : decode cX7_partRead 63 = .ok (.getfield 120, 3) := by decide +kernel
theorem dX7_partRead_66 : decode cX7_partRead 66 = .ok (.iconst (-1), 1) := by decide +kernel
theorem dX7_partRead_67 : decode cX7_partRead 67 = .ok (.if_icmp .ne 20, 3) := by decide +kernel
theorem dX7_partRead_70 : decode cX7_partRead 70 = .ok (.aload_n 0, 1) := by decide +kernel
theorem dX7_partRead_71 : decode cX7_partRead 71 = .ok (.invokevirtual 123, 3) := by decide +kernel
theorem dX7_partRead_74 : decode cX7_partRead 74 = .ok (.bipush 47, 2) := by decide +kernel
theorem dX7_partRead_76 : decode cX7_partRead 76 = .ok (.if_icmp .eq 11, 3) := by decide +kernel
theorem dX7_partRead_79 : decode cX7_partRead 79 = .ok (.aload_n 0, 1) := by decide +kernel
theorem dX7_partRead_80 : decode cX7_partRead 80 = .ok (.aload_n 0, 1) := by decide +kernel
theorem dX7_partRead_81 : decode cX7_partRead 81 = .ok (.getfield 114, 3) := by decide +kernel
theorem dX7_partRead_84 : decode cX7_partRead 84 = .ok (.putfield 120, 3) := by decide +kernel
theorem dX7_partRead_87 : decode cX7_partRead 87 = .ok (.aload_n 0, 1) := by decide +kernel
theorem dX7_partRead_88 : decode cX7_partRead 88 = .ok (.dup, 1) := by decide +kernel
theorem dX7_partRead_89 : decode cX7_partRead 89 = .ok (.getfield 114, 3) := by decide +kernel
theorem dX7_partRead_92 : decode cX7_partRead 92 = .ok (.iconst 1, 1) := by decide +kernel
theorem dX7_partRead_93 : decode cX7_partRead 93 = .ok (.iadd, 1) := by decide +kernel
theorem dX7_partRead_94 : decode cX7_partRead 94 = .ok (.putfield 114, 3) := by decide +kernel
theorem dX7_partRead_97 : decode cX7_partRead 97 = .ok (.aload_n 0, 1) := by decide +kernel
theorem dX7_partRead_98 : decode cX7_partRead 98 = .ok (.iload_n 2, 1) := by decide +kernel
theorem dX7_partRead_99 : decode cX7_partRead 99 = .ok (.iconst 1, 1) := by decide +kernel
theorem dX7_partRead_100 : decode cX7_partRead 100 = .ok (.if_icmp .ge 7, 3) := by decide +kernel
theorem dX7_partRead_103 : decode cX7_partRead 103 = .ok (.iconst 1, 1) := by decide +kernel
theorem dX7_partRead_104 : decode cX7_partRead 104 = .ok (.goto 4, 3) := by decide +kernel
theorem dX7_partRead_107 : decode cX7_partRead 107 = .ok (.iload_n 2, 1) := by decide +kernel
theorem dX7_partRead_108 : decode cX7_partRead 108 = .ok (.bipush 20, 2) := by decide +kernel
theorem dX7_partRead_110 : decode cX7_partRead 110 = .ok (.invokevirtual 127, 3) := by decide +kernel
theorem dX7_partRead_113 : decode cX7_partRead 113 = .ok (.istore_n 3, 1) := by decide +kernel
theorem dX7_partRead_114 : decode cX7_partRead 114 = .ok (.aload_n 0, 1) := by decide +kernel
theorem dX7_partRead_115 : decode cX7_partRead 115 = .ok (.getfield 120, 3) := by decide +kernel
theorem dX7_partRead_118 : decode cX7_partRead 118 = .ok (.iconst (-1), 1) := by decide +kernel
theorem dX7_partRead_119 : decode cX7_partRead 119 = .ok (.if_icmp .ne 43, 3) := by decide +kernel
theorem dX7_partRead_122 : decode cX7_partRead 122 = .ok (.aload_n 0, 1) := by decide +kernel
theorem dX7_partRead_123 : decode cX7_partRead 123 = .ok (.getfield 46, 3) := by decide +kernel
theorem dX7_partRead_126 : decode cX7_partRead 126 = .ok (.aload_n 0, 1) := by decide +kernel
theorem dX7_partRead_127 : decode cX7_partRead 127 = .ok (.getfield 131, 3) := by decide +kernel
theorem dX7_partRead_130 : decode cX7_partRead 130 = .ok (.iload_n 1, 1) := by decide +kernel
theorem dX7_partRead_131 : decode cX7_partRead 131 = .ok (.iastore, 1) := by decide +kernel
theorem dX7_partRead_132 : decode cX7_partRead 132 = .ok (.aload_n 0, 1) := by decide +kernel
theorem dX7_partRead_133 : decode cX7_partRead 133 = .ok (.getfield 49, 3) := by decide +kernel
theorem dX7_partRead_136 : decode cX7_partRead 136 = .ok (.aload_n 0, 1) := by decide +kernel
theorem dX7_partRead_137 : decode cX7_partRead 137 = .ok (.getfield 131, 3) := by decide +kernel
theorem dX7_partRead_140 : decode cX7_partRead 140 = .ok (.iload_n 2, 1) := by decide +kernel
theorem dX7_partRead_141 : decode cX7_partRead 141 = .ok (.iastore, 1) := by decide +kernel
theorem dX7_partRead_142 : decode cX7_partRead 142 = .ok (.aload_n 0, 1) := by decide +kernel
theorem dX7_partRead_143 : decode cX7_partRead 143 = .ok (.getfield 52, 3) := by decide +kernel
theorem dX7_partRead_146 : decode cX7_partRead 146 = .ok (.aload_n 0, 1) := by decide +kernel
theorem dX7_partRead_147 : decode cX7_partRead 147 = .ok (.getfield 131, 3) := by decide +kernel
theorem dX7_partRead_150 : decode cX7_partRead 150 = .ok (.iload_n 3, 1) := by decide +kernel
theorem dX7_partRead_151 : decode cX7_partRead 151 = .ok (.iastore, 1) := by decide +kernel
theorem dX7_partRead_152 : decode cX7_partRead 152 = .ok (.aload_n 0, 1) := by decide +kernel
theorem dX7_partRead_153 : decode cX7_partRead 153 = .ok (.dup, 1) := by decide +kernel
theorem dX7_partRead_154 : decode cX7_partRead 154 = .ok (.getfield 131, 3) := by decide +kernel
theorem dX7_partRead_157 : decode cX7_partRead 157 = .ok (.iconst 1, 1) := by decide +kernel
theorem dX7_partRead_158 : decode cX7_partRead 158 = .ok (.iadd, 1) := by decide +kernel
theorem dX7_partRead_159 : decode cX7_partRead 159 = .ok (.putfield 131, 3) := by decide +kernel
theorem dX7_partRead_162 : decode cX7_partRead 162 = .ok (.return_, 1) := by decide +kernel
theorem dX7_shareOf_0 : decode cX7_shareOf 0 = .ok (.iconst 0, 1) := by decide +kernel
theorem dX7_shareOf_1 : decode cX7_shareOf 1 = .ok (.istore_n 3, 1) := by decide +kernel
theorem dX7_shareOf_2 : decode cX7_shareOf 2 = .ok (.iconst 0, 1) := by decide +kernel
theorem dX7_shareOf_3 : decode cX7_shareOf 3 = .ok (.istore 4, 2) := by decide +kernel
theorem dX7_shareOf_5 : decode cX7_shareOf 5 = .ok (.iload 4, 2) := by decide +kernel
theorem dX7_shareOf_7 : decode cX7_shareOf 7 = .ok (.aload_n 0, 1) := by decide +kernel
theorem dX7_shareOf_8 : decode cX7_shareOf 8 = .ok (.getfield 131, 3) := by decide +kernel
theorem dX7_shareOf_11 : decode cX7_shareOf 11 = .ok (.if_icmp .ge 44, 3) := by decide +kernel
theorem dX7_shareOf_14 : decode cX7_shareOf 14 = .ok (.iload_n 3, 1) := by decide +kernel
theorem dX7_shareOf_15 : decode cX7_shareOf 15 = .ok (.aload_n 0, 1) := by decide +kernel
theorem dX7_shareOf_16 : decode cX7_shareOf 16 = .ok (.getfield 46, 3) := by decide +kernel
theorem dX7_shareOf_19 : decode cX7_shareOf 19 = .ok (.iload 4, 2) := by decide +kernel
theorem dX7_shareOf_21 : decode cX7_shareOf 21 = .ok (.iaload, 1) := by decide +kernel
theorem dX7_shareOf_22 : decode cX7_shareOf 22 = .ok (.iload_n 1, 1) := by decide +kernel
theorem dX7_shareOf_23 : decode cX7_shareOf 23 = .ok (.if_icmp .ne 23, 3) := by decide +kernel
theorem dX7_shareOf_26 : decode cX7_shareOf 26 = .ok (.aload_n 0, 1) := by decide +kernel
theorem dX7_shareOf_27 : decode cX7_shareOf 27 = .ok (.getfield 49, 3) := by decide +kernel
theorem dX7_shareOf_30 : decode cX7_shareOf 30 = .ok (.iload 4, 2) := by decide +kernel
theorem dX7_shareOf_32 : decode cX7_shareOf 32 = .ok (.iaload, 1) := by decide +kernel
theorem dX7_shareOf_33 : decode cX7_shareOf 33 = .ok (.iload_n 2, 1) := by decide +kernel
theorem dX7_shareOf_34 : decode cX7_shareOf 34 = .ok (.aload_n 0, 1) := by decide +kernel
theorem dX7_shareOf_35 : decode cX7_shareOf 35 = .ok (.getfield 52, 3) := by decide +kernel
theorem dX7_shareOf_38 : decode cX7_shareOf 38 = .ok (.iload 4, 2) := by decide +kernel
theorem dX7_shareOf_40 : decode cX7_shareOf 40 = .ok (.iaload, 1) := by decide +kernel
theorem dX7_shareOf_41 : decode cX7_shareOf 41 = .ok (.idiv, 1) := by decide +kernel
theorem dX7_shareOf_42 : decode cX7_shareOf 42 = .ok (.imul, 1) := by decide +kernel
theorem dX7_shareOf_43 : decode cX7_shareOf 43 = .ok (.goto 4, 3) := by decide +kernel
theorem dX7_shareOf_46 : decode cX7_shareOf 46 = .ok (.iconst 0, 1) := by decide +kernel
theorem dX7_shareOf_47 : decode cX7_shareOf 47 = .ok (.iadd, 1) := by decide +kernel
theorem dX7_shareOf_48 : decode cX7_shareOf 48 = .ok (.istore_n 3, 1) := by decide +kernel
theorem dX7_shareOf_49 : decode cX7_shareOf 49 = .ok (.iinc 4 1, 3) := by decide +kernel
theorem dX7_shareOf_52 : decode cX7_shareOf 52 = .ok (.goto (-47), 3) := by decide +kernel
theorem dX7_shareOf_55 : decode cX7_shareOf 55 = .ok (.iload_n 3, 1) := by decide +kernel
theorem dX7_shareOf_56 : decode cX7_shareOf 56 = .ok (.ireturn, 1) := by decide +kernel
theorem dX7_wholeNow_0 : decode cX7_wholeNow 0 = .ok (.iconst 1, 1) := by decide +kernel
theorem dX7_wholeNow_1 : decode cX7_wholeNow 1 = .ok (.istore_n 1, 1) := by decide +kernel
theorem dX7_wholeNow_2 : decode cX7_wholeNow 2 = .ok (.iconst 0, 1) := by decide +kernel
theorem dX7_wholeNow_3 : decode cX7_wholeNow 3 = .ok (.istore_n 2, 1) := by decide +kernel
theorem dX7_wholeNow_4 : decode cX7_wholeNow 4 = .ok (.iload_n 2, 1) := by decide +kernel
theorem dX7_wholeNow_5 : decode cX7_wholeNow 5 = .ok (.aload_n 0, 1) := by decide +kernel
theorem dX7_wholeNow_6 : decode cX7_wholeNow 6 = .ok (.getfield 131, 3) := by decide +kernel
theorem dX7_wholeNow_9 : decode cX7_wholeNow 9 = .ok (.if_icmp .ge 54, 3) := by decide +kernel
theorem dX7_wholeNow_12 : decode cX7_wholeNow 12 = .ok (.iload_n 1, 1) := by decide +kernel
theorem dX7_wholeNow_13 : decode cX7_wholeNow 13 = .ok (.bipush 25, 2) := by decide +kernel
theorem dX7_wholeNow_15 : decode cX7_wholeNow 15 = .ok (.if_icmp .ge 48, 3) := by decide +kernel
theorem dX7_wholeNow_18 : decode cX7_wholeNow 18 = .ok (.aload_n 0, 1) := by decide +kernel
theorem dX7_wholeNow_19 : decode cX7_wholeNow 19 = .ok (.getfield 52, 3) := by decide +kernel
theorem dX7_wholeNow_22 : decode cX7_wholeNow 22 = .ok (.iload_n 2, 1) := by decide +kernel
theorem dX7_wholeNow_23 : decode cX7_wholeNow 23 = .ok (.iaload, 1) := by decide +kernel
theorem dX7_wholeNow_24 : decode cX7_wholeNow 24 = .ok (.aload_n 0, 1) := by decide +kernel
theorem dX7_wholeNow_25 : decode cX7_wholeNow 25 = .ok (.getfield 49, 3) := by decide +kernel
theorem dX7_wholeNow_28 : decode cX7_wholeNow 28 = .ok (.iload_n 2, 1) := by decide +kernel
theorem dX7_wholeNow_29 : decode cX7_wholeNow 29 = .ok (.iaload, 1) := by decide +kernel
theorem dX7_wholeNow_30 : decode cX7_wholeNow 30 = .ok (.i2l, 1) := by decide +kernel
theorem dX7_wholeNow_31 : decode cX7_wholeNow 31 = .ok (.aload_n 0, 1) := by decide +kernel
theorem dX7_wholeNow_32 : decode cX7_wholeNow 32 = .ok (.getfield 52, 3) := by decide +kernel
theorem dX7_wholeNow_35 : decode cX7_wholeNow 35 = .ok (.iload_n 2, 1) := by decide +kernel
theorem dX7_wholeNow_36 : decode cX7_wholeNow 36 = .ok (.iaload, 1) := by decide +kernel
theorem dX7_wholeNow_37 : decode cX7_wholeNow 37 = .ok (.i2l, 1) := by decide +kernel
theorem dX7_wholeNow_38 : decode cX7_wholeNow 38 = .ok (.invokestatic 99, 3) := by decide +kernel
theorem dX7_wholeNow_41 : decode cX7_wholeNow 41 = .ok (.l2i, 1) := by decide +kernel
theorem dX7_wholeNow_42 : decode cX7_wholeNow 42 = .ok (.idiv, 1) := by decide +kernel
theorem dX7_wholeNow_43 : decode cX7_wholeNow 43 = .ok (.istore_n 3, 1) := by decide +kernel
theorem dX7_wholeNow_44 : decode cX7_wholeNow 44 = .ok (.iload_n 1, 1) := by decide +kernel
theorem dX7_wholeNow_45 : decode cX7_wholeNow 45 = .ok (.iload_n 1, 1) := by decide +kernel
theorem dX7_wholeNow_46 : decode cX7_wholeNow 46 = .ok (.i2l, 1) := by decide +kernel
theorem dX7_wholeNow_47 : decode cX7_wholeNow 47 = .ok (.iload_n 3, 1) := by decide +kernel
theorem dX7_wholeNow_48 : decode cX7_wholeNow 48 = .ok (.i2l, 1) := by decide +kernel
theorem dX7_wholeNow_49 : decode cX7_wholeNow 49 = .ok (.invokestatic 99, 3) := by decide +kernel
theorem dX7_wholeNow_52 : decode cX7_wholeNow 52 = .ok (.l2i, 1) := by decide +kernel
theorem dX7_wholeNow_53 : decode cX7_wholeNow 53 = .ok (.idiv, 1) := by decide +kernel
theorem dX7_wholeNow_54 : decode cX7_wholeNow 54 = .ok (.iload_n 3, 1) := by decide +kernel
theorem dX7_wholeNow_55 : decode cX7_wholeNow 55 = .ok (.imul, 1) := by decide +kernel
theorem dX7_wholeNow_56 : decode cX7_wholeNow 56 = .ok (.istore_n 1, 1) := by decide +kernel
theorem dX7_wholeNow_57 : decode cX7_wholeNow 57 = .ok (.iinc 2 1, 3) := by decide +kernel
theorem dX7_wholeNow_60 : decode cX7_wholeNow 60 = .ok (.goto (-56), 3) := by decide +kernel
theorem dX7_wholeNow_63 : decode cX7_wholeNow 63 = .ok (.iload_n 1, 1) := by decide +kernel
theorem dX7_wholeNow_64 : decode cX7_wholeNow 64 = .ok (.ireturn, 1) := by decide +kernel
theorem dX7_reads_0 : decode cX7_reads 0 = .ok (.aload_n 0, 1) := by decide +kernel
theorem dX7_reads_1 : decode cX7_reads 1 = .ok (.getfield 20, 3) := by decide +kernel
theorem dX7_reads_4 : decode cX7_reads 4 = .ok (.iload_n 1, 1) := by decide +kernel
theorem dX7_reads_5 : decode cX7_reads 5 = .ok (.baload, 1) := by decide +kernel
theorem dX7_reads_6 : decode cX7_reads 6 = .ok (.ifCond .eq 4, 3) := by decide +kernel
theorem dX7_reads_9 : decode cX7_reads 9 = .ok (.return_, 1) := by decide +kernel
theorem dX7_reads_10 : decode cX7_reads 10 = .ok (.aload_n 0, 1) := by decide +kernel
theorem dX7_reads_11 : decode cX7_reads 11 = .ok (.getfield 20, 3) := by decide +kernel
theorem dX7_reads_14 : decode cX7_reads 14 = .ok (.iload_n 1, 1) := by decide +kernel
theorem dX7_reads_15 : decode cX7_reads 15 = .ok (.iconst 1, 1) := by decide +kernel
theorem dX7_reads_16 : decode cX7_reads 16 = .ok (.bastore, 1) := by decide +kernel
theorem dX7_reads_17 : decode cX7_reads 17 = .ok (.aload_n 0, 1) := by decide +kernel
theorem dX7_reads_18 : decode cX7_reads 18 = .ok (.iload_n 1, 1) := by decide +kernel
theorem dX7_reads_19 : decode cX7_reads 19 = .ok (.putfield 117, 3) := by decide +kernel
theorem dX7_reads_22 : decode cX7_reads 22 = .ok (.aload_n 0, 1) := by decide +kernel
theorem dX7_reads_23 : decode cX7_reads 23 = .ok (.iconst 0, 1) := by decide +kernel
theorem dX7_reads_24 : decode cX7_reads 24 = .ok (.putfield 114, 3) := by decide +kernel
theorem dX7_reads_27 : decode cX7_reads 27 = .ok (.aload_n 0, 1) := by decide +kernel
theorem dX7_reads_28 : decode cX7_reads 28 = .ok (.iconst (-1), 1) := by decide +kernel
theorem dX7_reads_29 : decode cX7_reads 29 = .ok (.putfield 120, 3) := by decide +kernel
theorem dX7_reads_32 : decode cX7_reads 32 = .ok (.aload_n 0, 1) := by decide +kernel
theorem dX7_reads_33 : decode cX7_reads 33 = .ok (.iconst 0, 1) := by decide +kernel
theorem dX7_reads_34 : decode cX7_reads 34 = .ok (.putfield 131, 3) := by decide +kernel
theorem dX7_reads_37 : decode cX7_reads 37 = .ok (.aload_n 0, 1) := by decide +kernel
theorem dX7_reads_38 : decode cX7_reads 38 = .ok (.invokevirtual 134, 3) := by decide +kernel
theorem dX7_reads_41 : decode cX7_reads 41 = .ok (.aload_n 0, 1) := by decide +kernel
theorem dX7_reads_42 : decode cX7_reads 42 = .ok (.getfield 120, 3) := by decide +kernel
theorem dX7_reads_45 : decode cX7_reads 45 = .ok (.iconst (-1), 1) := by decide +kernel
theorem dX7_reads_46 : decode cX7_reads 46 = .ok (.if_icmp .ne 53, 3) := by decide +kernel
theorem dX7_reads_49 : decode cX7_reads 49 = .ok (.aload_n 0, 1) := by decide +kernel
theorem dX7_reads_50 : decode cX7_reads 50 = .ok (.getfield 114, 3) := by decide +kernel
theorem dX7_reads_53 : decode cX7_reads 53 = .ok (.aload_n 0, 1) := by decide +kernel
theorem dX7_reads_54 : decode cX7_reads 54 = .ok (.getfield 13, 3) := by decide +kernel
theorem dX7_reads_57 : decode cX7_reads 57 = .ok (.iload_n 1, 1) := by decide +kernel
theorem dX7_reads_58 : decode cX7_reads 58 = .ok (.iaload, 1) := by decide +kernel
theorem dX7_reads_59 : decode cX7_reads 59 = .ok (.if_icmp .ge 40, 3) := by decide +kernel
theorem dX7_reads_62 : decode cX7_reads 62 = .ok (.aload_n 0, 1) := by decide +kernel
theorem dX7_reads_63 : decode cX7_reads 63 = .ok (.invokevirtual 123, 3) := by decide +kernel
theorem dX7_reads_66 : decode cX7_reads 66 = .ok (.bipush 59, 2) := by decide +kernel
theorem dX7_reads_68 : decode cX7_reads 68 = .ok (.if_icmp .eq 14, 3) := by decide +kernel
theorem dX7_reads_71 : decode cX7_reads 71 = .ok (.aload_n 0, 1) := by decide +kernel
theorem dX7_reads_72 : decode cX7_reads 72 = .ok (.aload_n 0, 1) := by decide +kernel
theorem dX7_reads_73 : decode cX7_reads 73 = .ok (.getfield 114, 3) := by decide +kernel
theorem dX7_reads_76 : decode cX7_reads 76 = .ok (.putfield 120, 3) := by decide +kernel
theorem dX7_reads_79 : decode cX7_reads 79 = .ok (.goto (-38), 3) := by decide +kernel
theorem dX7_reads_82 : decode cX7_reads 82 = .ok (.aload_n 0, 1) := by decide +kernel
theorem dX7_reads_83 : decode cX7_reads 83 = .ok (.dup, 1) := by decide +kernel
theorem dX7_reads_84 : decode cX7_reads 84 = .ok (.getfield 114, 3) := by decide +kernel
theorem dX7_reads_87 : decode cX7_reads 87 = .ok (.iconst 1, 1) := by decide +kernel
theorem dX7_reads_88 : decode cX7_reads 88 = .ok (.iadd, 1) := by decide +kernel
theorem dX7_reads_89 : decode cX7_reads 89 = .ok (.putfield 114, 3) := by decide +kernel
theorem dX7_reads_92 : decode cX7_reads 92 = .ok (.aload_n 0, 1) := by decide +kernel
theorem dX7_reads_93 : decode cX7_reads 93 = .ok (.invokevirtual 134, 3) := by decide +kernel
theorem dX7_reads_96 : decode cX7_reads 96 = .ok (.goto (-55), 3) := by decide +kernel
theorem dX7_reads_99 : decode cX7_reads 99 = .ok (.aload_n 0, 1) := by decide +kernel
theorem dX7_reads_100 : decode cX7_reads 100 = .ok (.getfield 120, 3) := by decide +kernel
theorem dX7_reads_103 : decode cX7_reads 103 = .ok (.iconst (-1), 1) := by decide +kernel
theorem dX7_reads_104 : decode cX7_reads 104 = .ok (.if_icmp .ne 10, 3) := by decide +kernel
theorem dX7_reads_107 : decode cX7_reads 107 = .ok (.aload_n 0, 1) := by decide +kernel
theorem dX7_reads_108 : decode cX7_reads 108 = .ok (.invokevirtual 137, 3) := by decide +kernel
theorem dX7_reads_111 : decode cX7_reads 111 = .ok (.goto 5, 3) := by decide +kernel
theorem dX7_reads_114 : decode cX7_reads 114 = .ok (.bipush 25, 2) := by decide +kernel
theorem dX7_reads_116 : decode cX7_reads 116 = .ok (.istore_n 2, 1) := by decide +kernel
theorem dX7_reads_117 : decode cX7_reads 117 = .ok (.aload_n 0, 1) := by decide +kernel
theorem dX7_reads_118 : decode cX7_reads 118 = .ok (.getfield 120, 3) := by decide +kernel
theorem dX7_reads_121 : decode cX7_reads 121 = .ok (.iconst (-1), 1) := by decide +kernel
theorem dX7_reads_122 : decode cX7_reads 122 = .ok (.if_icmp .ne 177, 3) := by decide +kernel
theorem dX7_reads_125 : decode cX7_reads 125 = .ok (.iload_n 2, 1) := by decide +kernel
theorem dX7_reads_126 : decode cX7_reads 126 = .ok (.bipush 25, 2) := by decide +kernel
theorem dX7_reads_128 : decode cX7_reads 128 = .ok (.if_icmp .ge 171, 3) := by decide +kernel
theorem dX7_reads_131 : decode cX7_reads 131 = .ok (.iconst 0, 1) := by decide +kernel
theorem dX7_reads_132 : decode cX7_reads 132 = .ok (.istore_n 3, 1) := by decide +kernel
theorem dX7_reads_133 : decode cX7_reads 133 = .ok (.iload_n 3, 1) := by decide +kernel
theorem dX7_reads_134 : decode cX7_reads 134 = .ok (.aload_n 0, 1) := by decide +kernel
theorem dX7_reads_135 : decode cX7_reads 135 = .ok (.getfield 131, 3) := by decide +kernel
theorem dX7_reads_138 : decode cX7_reads 138 = .ok (.if_icmp .ge 51, 3) := by decide +kernel
theorem dX7_reads_141 : decode cX7_reads 141 = .ok (.aload_n 0, 1) := by decide +kernel
theorem dX7_reads_142 : decode cX7_reads 142 = .ok (.getfield 49, 3) := by decide +kernel
theorem dX7_reads_145 : decode cX7_reads 145 = .ok (.iload_n 3, 1) := by decide +kernel
theorem dX7_reads_146 : decode cX7_reads 146 = .ok (.iaload, 1) := by decide +kernel
theorem dX7_reads_147 : decode cX7_reads 147 = .ok (.i2l, 1) := by decide +kernel
theorem dX7_reads_148 : decode cX7_reads 148 = .ok (.aload_n 0, 1) := by decide +kernel
theorem dX7_reads_149 : decode cX7_reads 149 = .ok (.getfield 52, 3) := by decide +kernel
theorem dX7_reads_152 : decode cX7_reads 152 = .ok (.iload_n 3, 1) := by decide +kernel
theorem dX7_reads_153 : decode cX7_reads 153 = .ok (.iaload, 1) := by decide +kernel
theorem dX7_reads_154 : decode cX7_reads 154 = .ok (.i2l, 1) := by decide +kernel
theorem dX7_reads_155 : decode cX7_reads 155 = .ok (.invokestatic 99, 3) := by decide +kernel
theorem dX7_reads_158 : decode cX7_reads 158 = .ok (.l2i, 1) := by decide +kernel
theorem dX7_reads_159 : decode cX7_reads 159 = .ok (.istore 4, 2) := by decide +kernel
theorem dX7_reads_161 : decode cX7_reads 161 = .ok (.aload_n 0, 1) := by decide +kernel
theorem dX7_reads_162 : decode cX7_reads 162 = .ok (.getfield 49, 3) := by decide +kernel
theorem dX7_reads_165 : decode cX7_reads 165 = .ok (.iload_n 3, 1) := by decide +kernel
theorem dX7_reads_166 : decode cX7_reads 166 = .ok (.dup2, 1) := by decide +kernel
theorem dX7_reads_167 : decode cX7_reads 167 = .ok (.iaload, 1) := by decide +kernel
theorem dX7_reads_168 : decode cX7_reads 168 = .ok (.iload 4, 2) := by decide +kernel
theorem dX7_reads_170 : decode cX7_reads 170 = .ok (.idiv, 1) := by decide +kernel
theorem dX7_reads_171 : decode cX7_reads 171 = .ok (.iastore, 1) := by decide +kernel
theorem dX7_reads_172 : decode cX7_reads 172 = .ok (.aload_n 0, 1) := by decide +kernel
theorem dX7_reads_173 : decode cX7_reads 173 = .ok (.getfield 52, 3) := by decide +kernel
theorem dX7_reads_176 : decode cX7_reads 176 = .ok (.iload_n 3, 1) := by decide +kernel
theorem dX7_reads_177 : decode cX7_reads 177 = .ok (.dup2, 1) := by decide +kernel
theorem dX7_reads_178 : decode cX7_reads 178 = .ok (.iaload, 1) := by decide +kernel
theorem dX7_reads_179 : decode cX7_reads 179 = .ok (.iload 4, 2) := by decide +kernel
theorem dX7_reads_181 : decode cX7_reads 181 = .ok (.idiv, 1) := by decide +kernel
theorem dX7_reads_182 : decode cX7_reads 182 = .ok (.iastore, 1) := by decide +kernel
theorem dX7_reads_183 : decode cX7_reads 183 = .ok (.iinc 3 1, 3) := by decide +kernel
theorem dX7_reads_186 : decode cX7_reads 186 = .ok (.goto (-53), 3) := by decide +kernel
theorem dX7_reads_189 : decode cX7_reads 189 = .ok (.aload_n 0, 1) := by decide +kernel
theorem dX7_reads_190 : decode cX7_reads 190 = .ok (.getfield 30, 3) := by decide +kernel
theorem dX7_reads_193 : decode cX7_reads 193 = .ok (.iload_n 1, 1) := by decide +kernel
theorem dX7_reads_194 : decode cX7_reads 194 = .ok (.aload_n 0, 1) := by decide +kernel
theorem dX7_reads_195 : decode cX7_reads 195 = .ok (.bipush 116, 2) := by decide +kernel
theorem dX7_reads_197 : decode cX7_reads 197 = .ok (.iload_n 2, 1) := by decide +kernel
theorem dX7_reads_198 : decode cX7_reads 198 = .ok (.invokevirtual 140, 3) := by decide +kernel
theorem dX7_reads_201 : decode cX7_reads 201 = .ok (.iastore, 1) := by decide +kernel
theorem dX7_reads_202 : decode cX7_reads 202 = .ok (.aload_n 0, 1) := by decide +kernel
theorem dX7_reads_203 : decode cX7_reads 203 = .ok (.getfield 33, 3) := by decide +kernel
theorem dX7_reads_206 : decode cX7_reads 206 = .ok (.iload_n 1, 1) := by decide +kernel
theorem dX7_reads_207 : decode cX7_reads 207 = .ok (.aload_n 0, 1) := by decide +kernel
theorem dX7_reads_208 : decode cX7_reads 208 = .ok (.bipush 111, 2) := by decide +kernel
theorem dX7_reads_210 : decode cX7_reads 210 = .ok (.iload_n 2, 1) := by decide +kernel
theorem dX7_reads_211 : decode cX7_reads 211 = .ok (.invokevirtual 140, 3) := by decide +kernel
theorem dX7_reads_214 : decode cX7_reads 214 = .ok (.iastore, 1) := by decide +kernel
theorem dX7_reads_215 : decode cX7_reads 215 = .ok (.aload_n 0, 1) := by decide +kernel
theorem dX7_reads_216 : decode cX7_reads 216 = .ok (.getfield 36, 3) := by decide +kernel
theorem dX7_reads_219 : decode cX7_reads 219 = .ok (.iload_n 1, 1) := by decide +kernel
theorem dX7_reads_220 : decode cX7_reads 220 = .ok (.aload_n 0, 1) := by decide +kernel
theorem dX7_reads_221 : decode cX7_reads 221 = .ok (.bipush 121, 2) := by decide +kernel
theorem dX7_reads_223 : decode cX7_reads 223 = .ok (.iload_n 2, 1) := by decide +kernel
theorem dX7_reads_224 : decode cX7_reads 224 = .ok (.invokevirtual 140, 3) := by decide +kernel
theorem dX7_reads_227 : decode cX7_reads 227 = .ok (.iastore, 1) := by decide +kernel
theorem dX7_reads_228 : decode cX7_reads 228 = .ok (.aload_n 0, 1) := by decide +kernel
theorem dX7_reads_229 : decode cX7_reads 229 = .ok (.getfield 39, 3) := by decide +kernel
theorem dX7_reads_232 : decode cX7_reads 232 = .ok (.iload_n 1, 1) := by decide +kernel
theorem dX7_reads_233 : decode cX7_reads 233 = .ok (.aload_n 0, 1) := by decide +kernel
theorem dX7_reads_234 : decode cX7_reads 234 = .ok (.bipush 117, 2) := by decide +kernel
theorem dX7_reads_236 : decode cX7_reads 236 = .ok (.iload_n 2, 1) := by decide +kernel
theorem dX7_reads_237 : decode cX7_reads 237 = .ok (.invokevirtual 140, 3) := by decide +kernel
theorem dX7_reads_240 : decode cX7_reads 240 = .ok (.iastore, 1) := by decide +kernel
theorem dX7_reads_241 : decode cX7_reads 241 = .ok (.aload_n 0, 1) := by decide +kernel
theorem dX7_reads_242 : decode cX7_reads 242 = .ok (.getfield 30, 3) := by decide +kernel
theorem dX7_reads_245 : decode cX7_reads 245 = .ok (.iload_n 1, 1) := by decide +kernel
theorem dX7_reads_246 : decode cX7_reads 246 = .ok (.iaload, 1) := by decide +kernel
theorem dX7_reads_247 : decode cX7_reads 247 = .ok (.aload_n 0, 1) := by decide +kernel
theorem dX7_reads_248 : decode cX7_reads 248 = .ok (.getfield 33, 3) := by decide +kernel
theorem dX7_reads_251 : decode cX7_reads 251 = .ok (.iload_n 1, 1) := by decide +kernel
theorem dX7_reads_252 : decode cX7_reads 252 = .ok (.iaload, 1) := by decide +kernel
theorem dX7_reads_253 : decode cX7_reads 253 = .ok (.iadd, 1) := by decide +kernel
theorem dX7_reads_254 : decode cX7_reads 254 = .ok (.aload_n 0, 1) := by decide +kernel
theorem dX7_reads_255 : decode cX7_reads 255 = .ok (.getfield 36, 3) := by decide +kernel
theorem dX7_reads_258 : decode cX7_reads 258 = .ok (.iload_n 1, 1) := by decide +kernel
theorem dX7_reads_259 : decode cX7_reads 259 = .ok (.iaload, 1) := by decide +kernel
theorem dX7_reads_260 : decode cX7_reads 260 = .ok (.iadd, 1) := by decide +kernel
theorem dX7_reads_261 : decode cX7_reads 261 = .ok (.aload_n 0, 1) := by decide +kernel
theorem dX7_reads_262 : decode cX7_reads 262 = .ok (.getfield 39, 3) := by decide +kernel
theorem dX7_reads_265 : decode cX7_reads 265 = .ok (.iload_n 1, 1) := by decide +kernel
theorem dX7_reads_266 : decode cX7_reads 266 = .ok (.iaload, 1) := by decide +kernel
theorem dX7_reads_267 : decode cX7_reads 267 = .ok (.iadd, 1) := by decide +kernel
theorem dX7_reads_268 : decode cX7_reads 268 = .ok (.aload_n 0, 1) := by decide +kernel
theorem dX7_reads_269 : decode cX7_reads 269 = .ok (.bipush 110, 2) := by decide +kernel
theorem dX7_reads_271 : decode cX7_reads 271 = .ok (.iload_n 2, 1) := by decide +kernel
theorem dX7_reads_272 : decode cX7_reads 272 = .ok (.invokevirtual 140, 3) := by decide +kernel
theorem dX7_reads_275 : decode cX7_reads 275 = .ok (.iadd, 1) := by decide +kernel
theorem dX7_reads_276 : decode cX7_reads 276 = .ok (.istore_n 3, 1) := by decide +kernel
theorem dX7_reads_277 : decode cX7_reads 277 = .ok (.aload_n 0, 1) := by decide +kernel
theorem dX7_reads_278 : decode cX7_reads 278 = .ok (.iload_n 3, 1) := by decide +kernel
theorem dX7_reads_279 : decode cX7_reads 279 = .ok (.iload_n 2, 1) := by decide +kernel
theorem dX7_reads_280 : decode cX7_reads 280 = .ok (.if_icmp .ne 7, 3) := by decide +kernel
theorem dX7_reads_283 : decode cX7_reads 283 = .ok (.iconst (-1), 1) := by decide +kernel
theorem dX7_reads_284 : decode cX7_reads 284 = .ok (.goto 9, 3) := by decide +kernel
theorem dX7_reads_287 : decode cX7_reads 287 = .ok (.aload_n 0, 1) := by decide +kernel
theorem dX7_reads_288 : decode cX7_reads 288 = .ok (.getfield 13, 3) := by decide +kernel
theorem dX7_reads_291 : decode cX7_reads 291 = .ok (.iload_n 1, 1) := by decide +kernel
theorem dX7_reads_292 : decode cX7_reads 292 = .ok (.iaload, 1) := by decide +kernel
theorem dX7_reads_293 : decode cX7_reads 293 = .ok (.putfield 120, 3) := by decide +kernel
theorem dX7_reads_296 : decode cX7_reads 296 = .ok (.goto 21, 3) := by decide +kernel
theorem dX7_reads_299 : decode cX7_reads 299 = .ok (.aload_n 0, 1) := by decide +kernel
theorem dX7_reads_300 : decode cX7_reads 300 = .ok (.getfield 120, 3) := by decide +kernel
theorem dX7_reads_303 : decode cX7_reads 303 = .ok (.iconst (-1), 1) := by decide +kernel
theorem dX7_reads_304 : decode cX7_reads 304 = .ok (.if_icmp .ne 13, 3) := by decide +kernel
theorem dX7_reads_307 : decode cX7_reads 307 = .ok (.aload_n 0, 1) := by decide +kernel
theorem dX7_reads_308 : decode cX7_reads 308 = .ok (.aload_n 0, 1) := by decide +kernel
theorem dX7_reads_309 : decode cX7_reads 309 = .ok (.getfield 13, 3) := by decide +kernel
theorem dX7_reads_312 : decode cX7_reads 312 = .ok (.iload_n 1, 1) := by decide +kernel
theorem dX7_reads_313 : decode cX7_reads 313 = .ok (.iaload, 1) := by decide +kernel
theorem dX7_reads_314 : decode cX7_reads 314 = .ok (.putfield 120, 3) := by decide +kernel
theorem dX7_reads_317 : decode cX7_reads 317 = .ok (.aload_n 0, 1) := by decide +kernel
theorem dX7_reads_318 : decode cX7_reads 318 = .ok (.getfield 27, 3) := by decide +kernel
theorem dX7_reads_321 : decode cX7_reads 321 = .ok (.iload_n 1, 1) := by decide +kernel
theorem dX7_reads_322 : decode cX7_reads 322 = .ok (.iload_n 2, 1) := by decide +kernel
theorem dX7_reads_323 : decode cX7_reads 323 = .ok (.iastore, 1) := by decide +kernel
theorem dX7_reads_324 : decode cX7_reads 324 = .ok (.aload_n 0, 1) := by decide +kernel
theorem dX7_reads_325 : decode cX7_reads 325 = .ok (.getfield 24, 3) := by decide +kernel
theorem dX7_reads_328 : decode cX7_reads 328 = .ok (.iload_n 1, 1) := by decide +kernel
theorem dX7_reads_329 : decode cX7_reads 329 = .ok (.aload_n 0, 1) := by decide +kernel
theorem dX7_reads_330 : decode cX7_reads 330 = .ok (.getfield 120, 3) := by decide +kernel
theorem dX7_reads_333 : decode cX7_reads 333 = .ok (.iastore, 1) := by decide +kernel
theorem dX7_reads_334 : decode cX7_reads 334 = .ok (.return_, 1) := by decide +kernel
theorem dX7_faultOf_0 : decode cX7_faultOf 0 = .ok (.aload_n 0, 1) := by decide +kernel
theorem dX7_faultOf_1 : decode cX7_faultOf 1 = .ok (.iload_n 1, 1) := by decide +kernel
theorem dX7_faultOf_2 : decode cX7_faultOf 2 = .ok (.invokevirtual 143, 3) := by decide +kernel
theorem dX7_faultOf_5 : decode cX7_faultOf 5 = .ok (.aload_n 0, 1) := by decide +kernel
theorem dX7_faultOf_6 : decode cX7_faultOf 6 = .ok (.getfield 24, 3) := by decide +kernel
theorem dX7_faultOf_9 : decode cX7_faultOf 9 = .ok (.iload_n 1, 1) := by decide +kernel
theorem dX7_faultOf_10 : decode cX7_faultOf 10 = .ok (.iaload, 1) := by decide +kernel
theorem dX7_faultOf_11 : decode cX7_faultOf 11 = .ok (.ireturn, 1) := by decide +kernel
theorem dX7_fault_0 : decode cX7_fault 0 = .ok (.iload_n 1, 1) := by decide +kernel
theorem dX7_fault_1 : decode cX7_fault 1 = .ok (.invokestatic 110, 3) := by decide +kernel
theorem dX7_fault_4 : decode cX7_fault 4 = .ok (.ifCond .eq 11, 3) := by decide +kernel
theorem dX7_fault_7 : decode cX7_fault 7 = .ok (.aload_n 0, 1) := by decide +kernel
theorem dX7_fault_8 : decode cX7_fault 8 = .ok (.iload_n 1, 1) := by decide +kernel
theorem dX7_fault_9 : decode cX7_fault 9 = .ok (.invokevirtual 147, 3) := by decide +kernel
theorem dX7_fault_12 : decode cX7_fault 12 = .ok (.goto 5, 3) := by decide +kernel
theorem dX7_fault_15 : decode cX7_fault 15 = .ok (.bipush (-2), 2) := by decide +kernel
theorem dX7_fault_17 : decode cX7_fault 17 = .ok (.ireturn, 1) := by decide +kernel
theorem dX7_other_0 : decode cX7_other 0 = .ok (.iload_n 1, 1) := by decide +kernel
theorem dX7_other_1 : decode cX7_other 1 = .ok (.iconst 0, 1) := by decide +kernel
theorem dX7_other_2 : decode cX7_other 2 = .ok (.bipush 24, 2) := by decide +kernel
theorem dX7_other_4 : decode cX7_other 4 = .ok (.invokestatic 106, 3) := by decide +kernel
theorem dX7_other_7 : decode cX7_other 7 = .ok (.ifCond .ne 6, 3) := by decide +kernel
theorem dX7_other_10 : decode cX7_other 10 = .ok (.bipush (-2), 2) := by decide +kernel
theorem dX7_other_12 : decode cX7_other 12 = .ok (.ireturn, 1) := by decide +kernel
theorem dX7_other_13 : decode cX7_other 13 = .ok (.aload_n 0, 1) := by decide +kernel
theorem dX7_other_14 : decode cX7_other 14 = .ok (.getfield 42, 3) := by decide +kernel
theorem dX7_other_17 : decode cX7_other 17 = .ok (.istore_n 2, 1) := by decide +kernel
theorem dX7_other_18 : decode cX7_other 18 = .ok (.aload_n 0, 1) := by decide +kernel
theorem dX7_other_19 : decode cX7_other 19 = .ok (.iload_n 1, 1) := by decide +kernel
theorem dX7_other_20 : decode cX7_other 20 = .ok (.putfield 42, 3) := by decide +kernel
theorem dX7_other_23 : decode cX7_other 23 = .ok (.iload_n 2, 1) := by decide +kernel
theorem dX7_other_24 : decode cX7_other 24 = .ok (.ireturn, 1) := by decide +kernel
theorem dX7_base_0 : decode cX7_base 0 = .ok (.ldc2_w 151, 3) := by decide +kernel
theorem dX7_base_3 : decode cX7_base 3 = .ok (.aload_n 0, 1) := by decide +kernel
theorem dX7_base_4 : decode cX7_base 4 = .ok (.getfield 27, 3) := by decide +kernel
theorem dX7_base_7 : decode cX7_base 7 = .ok (.iload_n 1, 1) := by decide +kernel
theorem dX7_base_8 : decode cX7_base 8 = .ok (.iaload, 1) := by decide +kernel
theorem dX7_base_9 : decode cX7_base 9 = .ok (.i2l, 1) := by decide +kernel
theorem dX7_base_10 : decode cX7_base 10 = .ok (.lmul, 1) := by decide +kernel
theorem dX7_base_11 : decode cX7_base 11 = .ok (.lreturn, 1) := by decide +kernel
theorem dX7_yesIf_0 : decode cX7_yesIf 0 = .ok (.iload_n 2, 1) := by decide +kernel
theorem dX7_yesIf_1 : decode cX7_yesIf 1 = .ok (.iconst 1, 1) := by decide +kernel
theorem dX7_yesIf_2 : decode cX7_yesIf 2 = .ok (.if_icmp .ne 12, 3) := by decide +kernel
theorem dX7_yesIf_5 : decode cX7_yesIf 5 = .ok (.aload_n 0, 1) := by decide +kernel
theorem dX7_yesIf_6 : decode cX7_yesIf 6 = .ok (.getfield 30, 3) := by decide +kernel
theorem dX7_yesIf_9 : decode cX7_yesIf 9 = .ok (.iload_n 1, 1) := by decide +kernel
theorem dX7_yesIf_10 : decode cX7_yesIf 10 = .ok (.iaload, 1) := by decide +kernel
theorem dX7_yesIf_11 : decode cX7_yesIf 11 = .ok (.goto 9, 3) := by decide +kernel
theorem dX7_yesIf_14 : decode cX7_yesIf 14 = .ok (.aload_n 0, 1) := by decide +kernel
theorem dX7_yesIf_15 : decode cX7_yesIf 15 = .ok (.getfield 33, 3) := by decide +kernel
theorem dX7_yesIf_18 : decode cX7_yesIf 18 = .ok (.iload_n 1, 1) := by decide +kernel
theorem dX7_yesIf_19 : decode cX7_yesIf 19 = .ok (.iaload, 1) := by decide +kernel
theorem dX7_yesIf_20 : decode cX7_yesIf 20 = .ok (.aload_n 0, 1) := by decide +kernel
theorem dX7_yesIf_21 : decode cX7_yesIf 21 = .ok (.getfield 36, 3) := by decide +kernel
theorem dX7_yesIf_24 : decode cX7_yesIf 24 = .ok (.iload_n 1, 1) := by decide +kernel
theorem dX7_yesIf_25 : decode cX7_yesIf 25 = .ok (.iaload, 1) := by decide +kernel
theorem dX7_yesIf_26 : decode cX7_yesIf 26 = .ok (.iadd, 1) := by decide +kernel
theorem dX7_yesIf_27 : decode cX7_yesIf 27 = .ok (.istore_n 3, 1) := by decide +kernel
theorem dX7_yesIf_28 : decode cX7_yesIf 28 = .ok (.ldc2_w 151, 3) := by decide +kernel
theorem dX7_yesIf_31 : decode cX7_yesIf 31 = .ok (.iload_n 3, 1) := by decide +kernel
theorem dX7_yesIf_32 : decode cX7_yesIf 32 = .ok (.i2l, 1) := by decide +kernel
theorem dX7_yesIf_33 : decode cX7_yesIf 33 = .ok (.lmul, 1) := by decide +kernel
theorem dX7_yesIf_34 : decode cX7_yesIf 34 = .ok (.aload_n 0, 1) := by decide +kernel
theorem dX7_yesIf_35 : decode cX7_yesIf 35 = .ok (.getfield 39, 3) := by decide +kernel
theorem dX7_yesIf_38 : decode cX7_yesIf 38 = .ok (.iload_n 1, 1) := by decide +kernel
theorem dX7_yesIf_39 : decode cX7_yesIf 39 = .ok (.iaload, 1) := by decide +kernel
theorem dX7_yesIf_40 : decode cX7_yesIf 40 = .ok (.i2l, 1) := by decide +kernel
theorem dX7_yesIf_41 : decode cX7_yesIf 41 = .ok (.aload_n 0, 1) := by decide +kernel
theorem dX7_yesIf_42 : decode cX7_yesIf 42 = .ok (.getfield 42, 3) := by decide +kernel
theorem dX7_yesIf_45 : decode cX7_yesIf 45 = .ok (.i2l, 1) := by decide +kernel
theorem dX7_yesIf_46 : decode cX7_yesIf 46 = .ok (.lmul, 1) := by decide +kernel
theorem dX7_yesIf_47 : decode cX7_yesIf 47 = .ok (.ladd, 1) := by decide +kernel
theorem dX7_yesIf_48 : decode cX7_yesIf 48 = .ok (.lreturn, 1) := by decide +kernel
theorem dX7_more_0 : decode cX7_more 0 = .ok (.aload_n 0, 1) := by decide +kernel
theorem dX7_more_1 : decode cX7_more 1 = .ok (.iload_n 1, 1) := by decide +kernel
theorem dX7_more_2 : decode cX7_more 2 = .ok (.iconst 1, 1) := by decide +kernel
theorem dX7_more_3 : decode cX7_more 3 = .ok (.invokevirtual 153, 3) := by decide +kernel
theorem dX7_more_6 : decode cX7_more 6 = .ok (.aload_n 0, 1) := by decide +kernel
theorem dX7_more_7 : decode cX7_more 7 = .ok (.iload_n 1, 1) := by decide +kernel
theorem dX7_more_8 : decode cX7_more 8 = .ok (.iconst 0, 1) := by decide +kernel
theorem dX7_more_9 : decode cX7_more 9 = .ok (.invokevirtual 153, 3) := by decide +kernel
theorem dX7_more_12 : decode cX7_more 12 = .ok (.lsub, 1) := by decide +kernel
theorem dX7_more_13 : decode cX7_more 13 = .ok (.lreturn, 1) := by decide +kernel
theorem dX7_saysOf_0 : decode cX7_saysOf 0 = .ok (.aload_n 0, 1) := by decide +kernel
theorem dX7_saysOf_1 : decode cX7_saysOf 1 = .ok (.iload_n 1, 1) := by decide +kernel
theorem dX7_saysOf_2 : decode cX7_saysOf 2 = .ok (.invokevirtual 147, 3) := by decide +kernel
theorem dX7_saysOf_5 : decode cX7_saysOf 5 = .ok (.iconst (-1), 1) := by decide +kernel
theorem dX7_saysOf_6 : decode cX7_saysOf 6 = .ok (.if_icmp .eq 9, 3) := by decide +kernel
theorem dX7_saysOf_9 : decode cX7_saysOf 9 = .ok (.bipush (-3), 2) := by decide +kernel
theorem dX7_saysOf_11 : decode cX7_saysOf 11 = .ok (.invokestatic 157, 3) := by decide +kernel
theorem dX7_saysOf_14 : decode cX7_saysOf 14 = .ok (.lreturn, 1) := by decide +kernel
theorem dX7_saysOf_15 : decode cX7_saysOf 15 = .ok (.aload_n 0, 1) := by decide +kernel
theorem dX7_saysOf_16 : decode cX7_saysOf 16 = .ok (.aload_n 0, 1) := by decide +kernel
theorem dX7_saysOf_17 : decode cX7_saysOf 17 = .ok (.iload_n 1, 1) := by decide +kernel
theorem dX7_saysOf_18 : decode cX7_saysOf 18 = .ok (.iload_n 2, 1) := by decide +kernel
theorem dX7_saysOf_19 : decode cX7_saysOf 19 = .ok (.invokevirtual 153, 3) := by decide +kernel
theorem dX7_saysOf_22 : decode cX7_saysOf 22 = .ok (.aload_n 0, 1) := by decide +kernel
theorem dX7_saysOf_23 : decode cX7_saysOf 23 = .ok (.iload_n 1, 1) := by decide +kernel
theorem dX7_saysOf_24 : decode cX7_saysOf 24 = .ok (.invokevirtual 161, 3) := by decide +kernel
theorem dX7_saysOf_27 : decode cX7_saysOf 27 = .ok (.invokevirtual 164, 3) := by decide +kernel
theorem dX7_saysOf_30 : decode cX7_saysOf 30 = .ok (.aload_n 0, 1) := by decide +kernel
theorem dX7_saysOf_31 : decode cX7_saysOf 31 = .ok (.iload_n 3, 1) := by decide +kernel
theorem dX7_saysOf_32 : decode cX7_saysOf 32 = .ok (.invokevirtual 168, 3) := by decide +kernel
theorem dX7_saysOf_35 : decode cX7_saysOf 35 = .ok (.lreturn, 1) := by decide +kernel
theorem dX7_saysYes_0 : decode cX7_saysYes 0 = .ok (.iload_n 1, 1) := by decide +kernel
theorem dX7_saysYes_1 : decode cX7_saysYes 1 = .ok (.invokestatic 110, 3) := by decide +kernel
theorem dX7_saysYes_4 : decode cX7_saysYes 4 = .ok (.ifCond .eq 31, 3) := by decide +kernel
theorem dX7_saysYes_7 : decode cX7_saysYes 7 = .ok (.iload_n 2, 1) := by decide +kernel
theorem dX7_saysYes_8 : decode cX7_saysYes 8 = .ok (.iconst 0, 1) := by decide +kernel
theorem dX7_saysYes_9 : decode cX7_saysYes 9 = .ok (.iconst 1, 1) := by decide +kernel
theorem dX7_saysYes_10 : decode cX7_saysYes 10 = .ok (.invokestatic 106, 3) := by decide +kernel
theorem dX7_saysYes_13 : decode cX7_saysYes 13 = .ok (.ifCond .eq 22, 3) := by decide +kernel
theorem dX7_saysYes_16 : decode cX7_saysYes 16 = .ok (.iload_n 3, 1) := by decide +kernel
theorem dX7_saysYes_17 : decode cX7_saysYes 17 = .ok (.iconst 0, 1) := by decide +kernel
theorem dX7_saysYes_18 : decode cX7_saysYes 18 = .ok (.iconst 1, 1) := by decide +kernel
theorem dX7_saysYes_19 : decode cX7_saysYes 19 = .ok (.invokestatic 106, 3) := by decide +kernel
theorem dX7_saysYes_22 : decode cX7_saysYes 22 = .ok (.ifCond .eq 13, 3) := by decide +kernel
theorem dX7_saysYes_25 : decode cX7_saysYes 25 = .ok (.aload_n 0, 1) := by decide +kernel
theorem dX7_saysYes_26 : decode cX7_saysYes 26 = .ok (.iload_n 1, 1) := by decide +kernel
theorem dX7_saysYes_27 : decode cX7_saysYes 27 = .ok (.iload_n 2, 1) := by decide +kernel
theorem dX7_saysYes_28 : decode cX7_saysYes 28 = .ok (.iload_n 3, 1) := by decide +kernel
theorem dX7_saysYes_29 : decode cX7_saysYes 29 = .ok (.invokevirtual 171, 3) := by decide +kernel
theorem dX7_saysYes_32 : decode cX7_saysYes 32 = .ok (.goto 8, 3) := by decide +kernel
theorem dX7_saysYes_35 : decode cX7_saysYes 35 = .ok (.bipush (-2), 2) := by decide +kernel
theorem dX7_saysYes_37 : decode cX7_saysYes 37 = .ok (.invokestatic 157, 3) := by decide +kernel
theorem dX7_saysYes_40 : decode cX7_saysYes 40 = .ok (.lreturn, 1) := by decide +kernel
theorem dX7_unitOf_0 : decode cX7_unitOf 0 = .ok (.aload_n 0, 1) := by decide +kernel
theorem dX7_unitOf_1 : decode cX7_unitOf 1 = .ok (.iload_n 1, 1) := by decide +kernel
theorem dX7_unitOf_2 : decode cX7_unitOf 2 = .ok (.invokevirtual 147, 3) := by decide +kernel
theorem dX7_unitOf_5 : decode cX7_unitOf 5 = .ok (.iconst (-1), 1) := by decide +kernel
theorem dX7_unitOf_6 : decode cX7_unitOf 6 = .ok (.if_icmp .eq 6, 3) := by decide +kernel
theorem dX7_unitOf_9 : decode cX7_unitOf 9 = .ok (.bipush (-3), 2) := by decide +kernel
theorem dX7_unitOf_11 : decode cX7_unitOf 11 = .ok (.ireturn, 1) := by decide +kernel
theorem dX7_unitOf_12 : decode cX7_unitOf 12 = .ok (.aload_n 0, 1) := by decide +kernel
theorem dX7_unitOf_13 : decode cX7_unitOf 13 = .ok (.aload_n 0, 1) := by decide +kernel
theorem dX7_unitOf_14 : decode cX7_unitOf 14 = .ok (.iload_n 1, 1) := by decide +kernel
theorem dX7_unitOf_15 : decode cX7_unitOf 15 = .ok (.iconst 1, 1) := by decide +kernel
theorem dX7_unitOf_16 : decode cX7_unitOf 16 = .ok (.invokevirtual 153, 3) := by decide +kernel
theorem dX7_unitOf_19 : decode cX7_unitOf 19 = .ok (.aload_n 0, 1) := by decide +kernel
theorem dX7_unitOf_20 : decode cX7_unitOf 20 = .ok (.iload_n 1, 1) := by decide +kernel
theorem dX7_unitOf_21 : decode cX7_unitOf 21 = .ok (.invokevirtual 161, 3) := by decide +kernel
theorem dX7_unitOf_24 : decode cX7_unitOf 24 = .ok (.invokevirtual 164, 3) := by decide +kernel
theorem dX7_unitOf_27 : decode cX7_unitOf 27 = .ok (.aload_n 0, 1) := by decide +kernel
theorem dX7_unitOf_28 : decode cX7_unitOf 28 = .ok (.getfield 7, 3) := by decide +kernel
theorem dX7_unitOf_31 : decode cX7_unitOf 31 = .ok (.lstore_n 2, 1) := by decide +kernel
theorem dX7_unitOf_32 : decode cX7_unitOf 32 = .ok (.aload_n 0, 1) := by decide +kernel
theorem dX7_unitOf_33 : decode cX7_unitOf 33 = .ok (.aload_n 0, 1) := by decide +kernel
theorem dX7_unitOf_34 : decode cX7_unitOf 34 = .ok (.iload_n 1, 1) := by decide +kernel
theorem dX7_unitOf_35 : decode cX7_unitOf 35 = .ok (.iconst 0, 1) := by decide +kernel
theorem dX7_unitOf_36 : decode cX7_unitOf 36 = .ok (.invokevirtual 153, 3) := by decide +kernel
theorem dX7_unitOf_39 : decode cX7_unitOf 39 = .ok (.aload_n 0, 1) := by decide +kernel
theorem dX7_unitOf_40 : decode cX7_unitOf 40 = .ok (.iload_n 1, 1) := by decide +kernel
theorem dX7_unitOf_41 : decode cX7_unitOf 41 = .ok (.invokevirtual 161, 3) := by decide +kernel
theorem dX7_unitOf_44 : decode cX7_unitOf 44 = .ok (.invokevirtual 164, 3) := by decide +kernel
theorem dX7_unitOf_47 : decode cX7_unitOf 47 = .ok (.lload_n 2, 1) := by decide +kernel
theorem dX7_unitOf_48 : decode cX7_unitOf 48 = .ok (.lload_n 2, 1) := by decide +kernel
theorem dX7_unitOf_49 : decode cX7_unitOf 49 = .ok (.aload_n 0, 1) := by decide +kernel
theorem dX7_unitOf_50 : decode cX7_unitOf 50 = .ok (.getfield 7, 3) := by decide +kernel
theorem dX7_unitOf_53 : decode cX7_unitOf 53 = .ok (.invokestatic 99, 3) := by decide +kernel
theorem dX7_unitOf_56 : decode cX7_unitOf 56 = .ok (.ldiv, 1) := by decide +kernel
theorem dX7_unitOf_57 : decode cX7_unitOf 57 = .ok (.aload_n 0, 1) := by decide +kernel
theorem dX7_unitOf_58 : decode cX7_unitOf 58 = .ok (.getfield 7, 3) := by decide +kernel
theorem dX7_unitOf_61 : decode cX7_unitOf 61 = .ok (.lmul, 1) := by decide +kernel
theorem dX7_unitOf_62 : decode cX7_unitOf 62 = .ok (.l2i, 1) := by decide +kernel
theorem dX7_unitOf_63 : decode cX7_unitOf 63 = .ok (.ireturn, 1) := by decide +kernel
theorem dX7_unit_0 : decode cX7_unit 0 = .ok (.iload_n 1, 1) := by decide +kernel
theorem dX7_unit_1 : decode cX7_unit 1 = .ok (.invokestatic 110, 3) := by decide +kernel
theorem dX7_unit_4 : decode cX7_unit 4 = .ok (.ifCond .eq 11, 3) := by decide +kernel
theorem dX7_unit_7 : decode cX7_unit 7 = .ok (.aload_n 0, 1) := by decide +kernel
theorem dX7_unit_8 : decode cX7_unit 8 = .ok (.iload_n 1, 1) := by decide +kernel
theorem dX7_unit_9 : decode cX7_unit 9 = .ok (.invokevirtual 175, 3) := by decide +kernel
theorem dX7_unit_12 : decode cX7_unit 12 = .ok (.goto 5, 3) := by decide +kernel
theorem dX7_unit_15 : decode cX7_unit 15 = .ok (.bipush (-2), 2) := by decide +kernel
theorem dX7_unit_17 : decode cX7_unit 17 = .ok (.ireturn, 1) := by decide +kernel
theorem dX7_pass_0 : decode cX7_pass 0 = .ok (.iload_n 1, 1) := by decide +kernel
theorem dX7_pass_1 : decode cX7_pass 1 = .ok (.iconst 1, 1) := by decide +kernel
theorem dX7_pass_2 : decode cX7_pass 2 = .ok (.bipush 100, 2) := by decide +kernel
theorem dX7_pass_4 : decode cX7_pass 4 = .ok (.invokestatic 106, 3) := by decide +kernel
theorem dX7_pass_7 : decode cX7_pass 7 = .ok (.ifCond .eq 15, 3) := by decide +kernel
theorem dX7_pass_10 : decode cX7_pass 10 = .ok (.aload_n 0, 1) := by decide +kernel
theorem dX7_pass_11 : decode cX7_pass 11 = .ok (.getfield 178, 3) := by decide +kernel
theorem dX7_pass_14 : decode cX7_pass 14 = .ok (.iload_n 1, 1) := by decide +kernel
theorem dX7_pass_15 : decode cX7_pass 15 = .ok (.iadd, 1) := by decide +kernel
theorem dX7_pass_16 : decode cX7_pass 16 = .ok (.sipush 399, 3) := by decide +kernel
theorem dX7_pass_19 : decode cX7_pass 19 = .ok (.if_icmp .le 6, 3) := by decide +kernel
theorem dX7_pass_22 : decode cX7_pass 22 = .ok (.bipush (-2), 2) := by decide +kernel
theorem dX7_pass_24 : decode cX7_pass 24 = .ok (.ireturn, 1) := by decide +kernel
theorem dX7_pass_25 : decode cX7_pass 25 = .ok (.aload_n 0, 1) := by decide +kernel
theorem dX7_pass_26 : decode cX7_pass 26 = .ok (.dup, 1) := by decide +kernel
theorem dX7_pass_27 : decode cX7_pass 27 = .ok (.getfield 178, 3) := by decide +kernel
theorem dX7_pass_30 : decode cX7_pass 30 = .ok (.iload_n 1, 1) := by decide +kernel
theorem dX7_pass_31 : decode cX7_pass 31 = .ok (.iadd, 1) := by decide +kernel
theorem dX7_pass_32 : decode cX7_pass 32 = .ok (.putfield 178, 3) := by decide +kernel
theorem dX7_pass_35 : decode cX7_pass 35 = .ok (.aload_n 0, 1) := by decide +kernel
theorem dX7_pass_36 : decode cX7_pass 36 = .ok (.getfield 178, 3) := by decide +kernel
theorem dX7_pass_39 : decode cX7_pass 39 = .ok (.ireturn, 1) := by decide +kernel
theorem dX7_isPerson_0 : decode cX7_isPerson 0 = .ok (.iload_n 0, 1) := by decide +kernel
theorem dX7_isPerson_1 : decode cX7_isPerson 1 = .ok (.iconst 0, 1) := by decide +kernel
theorem dX7_isPerson_2 : decode cX7_isPerson 2 = .ok (.bipush 23, 2) := by decide +kernel
theorem dX7_isPerson_4 : decode cX7_isPerson 4 = .ok (.invokestatic 106, 3) := by decide +kernel
theorem dX7_isPerson_7 : decode cX7_isPerson 7 = .ok (.ireturn, 1) := by decide +kernel
theorem dX7_isGroup_0 : decode cX7_isGroup 0 = .ok (.iload_n 0, 1) := by decide +kernel
theorem dX7_isGroup_1 : decode cX7_isGroup 1 = .ok (.iconst 0, 1) := by decide +kernel
theorem dX7_isGroup_2 : decode cX7_isGroup 2 = .ok (.iconst 3, 1) := by decide +kernel
theorem dX7_isGroup_3 : decode cX7_isGroup 3 = .ok (.invokestatic 106, 3) := by decide +kernel
theorem dX7_isGroup_6 : decode cX7_isGroup 6 = .ok (.ireturn, 1) := by decide +kernel
theorem dX7_group_0 : decode cX7_group 0 = .ok (.iload_n 1, 1) := by decide +kernel
theorem dX7_group_1 : decode cX7_group 1 = .ok (.invokestatic 181, 3) := by decide +kernel
theorem dX7_group_4 : decode cX7_group 4 = .ok (.ifCond .eq 10, 3) := by decide +kernel
theorem dX7_group_7 : decode cX7_group 7 = .ok (.iload_n 2, 1) := by decide +kernel
theorem dX7_group_8 : decode cX7_group 8 = .ok (.invokestatic 184, 3) := by decide +kernel
theorem dX7_group_11 : decode cX7_group 11 = .ok (.ifCond .ne 6, 3) := by decide +kernel
theorem dX7_group_14 : decode cX7_group 14 = .ok (.bipush (-2), 2) := by decide +kernel
theorem dX7_group_16 : decode cX7_group 16 = .ok (.ireturn, 1) := by decide +kernel
theorem dX7_group_17 : decode cX7_group 17 = .ok (.aload_n 0, 1) := by decide +kernel
theorem dX7_group_18 : decode cX7_group 18 = .ok (.getfield 58, 3) := by decide +kernel
theorem dX7_group_21 : decode cX7_group 21 = .ok (.iload_n 1, 1) := by decide +kernel
theorem dX7_group_22 : decode cX7_group 22 = .ok (.iaload, 1) := by decide +kernel
theorem dX7_group_23 : decode cX7_group 23 = .ok (.istore_n 3, 1) := by decide +kernel
theorem dX7_group_24 : decode cX7_group 24 = .ok (.aload_n 0, 1) := by decide +kernel
theorem dX7_group_25 : decode cX7_group 25 = .ok (.getfield 58, 3) := by decide +kernel
theorem dX7_group_28 : decode cX7_group 28 = .ok (.iload_n 1, 1) := by decide +kernel
theorem dX7_group_29 : decode cX7_group 29 = .ok (.iload_n 2, 1) := by decide +kernel
theorem dX7_group_30 : decode cX7_group 30 = .ok (.iastore, 1) := by decide +kernel
theorem dX7_group_31 : decode cX7_group 31 = .ok (.iload_n 3, 1) := by decide +kernel
theorem dX7_group_32 : decode cX7_group 32 = .ok (.ireturn, 1) := by decide +kernel
theorem dX7_answersBy_0 : decode cX7_answersBy 0 = .ok (.iload_n 1, 1) := by decide +kernel
theorem dX7_answersBy_1 : decode cX7_answersBy 1 = .ok (.invokestatic 181, 3) := by decide +kernel
theorem dX7_answersBy_4 : decode cX7_answersBy 4 = .ok (.ifCond .eq 19, 3) := by decide +kernel
theorem dX7_answersBy_7 : decode cX7_answersBy 7 = .ok (.iload_n 2, 1) := by decide +kernel
theorem dX7_answersBy_8 : decode cX7_answersBy 8 = .ok (.invokestatic 110, 3) := by decide +kernel
theorem dX7_answersBy_11 : decode cX7_answersBy 11 = .ok (.ifCond .eq 12, 3) := by decide +kernel
theorem dX7_answersBy_14 : decode cX7_answersBy 14 = .ok (.iload_n 3, 1) := by decide +kernel
theorem dX7_answersBy_15 : decode cX7_answersBy 15 = .ok (.iconst 0, 1) := by decide +kernel
theorem dX7_answersBy_16 : decode cX7_answersBy 16 = .ok (.iconst 1, 1) := by decide +kernel
theorem dX7_answersBy_17 : decode cX7_answersBy 17 = .ok (.invokestatic 106, 3) := by decide +kernel
theorem dX7_answersBy_20 : decode cX7_answersBy 20 = .ok (.ifCond .ne 6, 3) := by decide +kernel
theorem dX7_answersBy_23 : decode cX7_answersBy 23 = .ok (.bipush (-2), 2) := by decide +kernel
theorem dX7_answersBy_25 : decode cX7_answersBy 25 = .ok (.ireturn, 1) := by decide +kernel
theorem dX7_answersBy_26 : decode cX7_answersBy 26 = .ok (.aload_n 0, 1) := by decide +kernel
theorem dX7_answersBy_27 : decode cX7_answersBy 27 = .ok (.iload_n 2, 1) := by decide +kernel
theorem dX7_answersBy_28 : decode cX7_answersBy 28 = .ok (.invokevirtual 147, 3) := by decide +kernel
theorem dX7_answersBy_31 : decode cX7_answersBy 31 = .ok (.iconst (-1), 1) := by decide +kernel
theorem dX7_answersBy_32 : decode cX7_answersBy 32 = .ok (.if_icmp .eq 6, 3) := by decide +kernel
theorem dX7_answersBy_35 : decode cX7_answersBy 35 = .ok (.bipush (-3), 2) := by decide +kernel
theorem dX7_answersBy_37 : decode cX7_answersBy 37 = .ok (.ireturn, 1) := by decide +kernel
theorem dX7_answersBy_38 : decode cX7_answersBy 38 = .ok (.aload_n 0, 1) := by decide +kernel
theorem dX7_answersBy_39 : decode cX7_answersBy 39 = .ok (.getfield 187, 3) := by decide +kernel
theorem dX7_answersBy_42 : decode cX7_answersBy 42 = .ok (.bipush 120, 2) := by decide +kernel
theorem dX7_answersBy_44 : decode cX7_answersBy 44 = .ok (.if_icmp .ne 6, 3) := by decide +kernel
theorem dX7_answersBy_47 : decode cX7_answersBy 47 = .ok (.bipush (-4), 2) := by decide +kernel
theorem dX7_answersBy_49 : decode cX7_answersBy 49 = .ok (.ireturn, 1) := by decide +kernel
theorem dX7_answersBy_50 : decode cX7_answersBy 50 = .ok (.aload_n 0, 1) := by decide +kernel
theorem dX7_answersBy_51 : decode cX7_answersBy 51 = .ok (.getfield 61, 3) := by decide +kernel
theorem dX7_answersBy_54 : decode cX7_answersBy 54 = .ok (.aload_n 0, 1) := by decide +kernel
theorem dX7_answersBy_55 : decode cX7_answersBy 55 = .ok (.getfield 187, 3) := by decide +kernel
theorem dX7_answersBy_58 : decode cX7_answersBy 58 = .ok (.iload_n 1, 1) := by decide +kernel
theorem dX7_answersBy_59 : decode cX7_answersBy 59 = .ok (.iastore, 1) := by decide +kernel
theorem dX7_answersBy_60 : decode cX7_answersBy 60 = .ok (.aload_n 0, 1) := by decide +kernel
theorem dX7_answersBy_61 : decode cX7_answersBy 61 = .ok (.getfield 64, 3) := by decide +kernel
theorem dX7_answersBy_64 : decode cX7_answersBy 64 = .ok (.aload_n 0, 1) := by decide +kernel
theorem dX7_answersBy_65 : decode cX7_answersBy 65 = .ok (.getfield 187, 3) := by decide +kernel
theorem dX7_answersBy_68 : decode cX7_answersBy 68 = .ok (.iload_n 2, 1) := by decide +kernel
theorem dX7_answersBy_69 : decode cX7_answersBy 69 = .ok (.iastore, 1) := by decide +kernel
theorem dX7_answersBy_70 : decode cX7_answersBy 70 = .ok (.aload_n 0, 1) := by decide +kernel
theorem dX7_answersBy_71 : decode cX7_answersBy 71 = .ok (.getfield 67, 3) := by decide +kernel
theorem dX7_answersBy_74 : decode cX7_answersBy 74 = .ok (.aload_n 0, 1) := by decide +kernel
theorem dX7_answersBy_75 : decode cX7_answersBy 75 = .ok (.getfield 187, 3) := by decide +kernel
theorem dX7_answersBy_78 : decode cX7_answersBy 78 = .ok (.iload_n 3, 1) := by decide +kernel
theorem dX7_answersBy_79 : decode cX7_answersBy 79 = .ok (.iastore, 1) := by decide +kernel
theorem dX7_answersBy_80 : decode cX7_answersBy 80 = .ok (.aload_n 0, 1) := by decide +kernel
theorem dX7_answersBy_81 : decode cX7_answersBy 81 = .ok (.getfield 70, 3) := by decide +kernel
theorem dX7_answersBy_84 : decode cX7_answersBy 84 = .ok (.aload_n 0, 1) := by decide +kernel
theorem dX7_answersBy_85 : decode cX7_answersBy 85 = .ok (.getfield 187, 3) := by decide +kernel
theorem dX7_answersBy_88 : decode cX7_answersBy 88 = .ok (.aload_n 0, 1) := by decide +kernel
theorem dX7_answersBy_89 : decode cX7_answersBy 89 = .ok (.getfield 178, 3) := by decide +kernel
theorem dX7_answersBy_92 : decode cX7_answersBy 92 = .ok (.iastore, 1) := by decide +kernel
theorem dX7_answersBy_93 : decode cX7_answersBy 93 = .ok (.aload_n 0, 1) := by decide +kernel
theorem dX7_answersBy_94 : decode cX7_answersBy 94 = .ok (.getfield 73, 3) := by decide +kernel
theorem dX7_answersBy_97 : decode cX7_answersBy 97 = .ok (.aload_n 0, 1) := by decide +kernel
theorem dX7_answersBy_98 : decode cX7_answersBy 98 = .ok (.getfield 187, 3) := by decide +kernel
theorem dX7_answersBy_101 : decode cX7_answersBy 101 = .ok (.iconst (-1), 1) := by decide +kernel
theorem dX7_answersBy_102 : decode cX7_answersBy 102 = .ok (.iastore, 1) := by decide +kernel
theorem dX7_answersBy_103 : decode cX7_answersBy 103 = .ok (.aload_n 0, 1) := by decide +kernel
theorem dX7_answersBy_104 : decode cX7_answersBy 104 = .ok (.dup, 1) := by decide +kernel
theorem dX7_answersBy_105 : decode cX7_answersBy 105 = .ok (.getfield 187, 3) := by decide +kernel
theorem dX7_answersBy_108 : decode cX7_answersBy 108 = .ok (.iconst 1, 1) := by decide +kernel
theorem dX7_answersBy_109 : decode cX7_answersBy 109 = .ok (.iadd, 1) := by decide +kernel
theorem dX7_answersBy_110 : decode cX7_answersBy 110 = .ok (.putfield 187, 3) := by decide +kernel
theorem dX7_answersBy_113 : decode cX7_answersBy 113 = .ok (.aload_n 0, 1) := by decide +kernel
theorem dX7_answersBy_114 : decode cX7_answersBy 114 = .ok (.getfield 187, 3) := by decide +kernel
theorem dX7_answersBy_117 : decode cX7_answersBy 117 = .ok (.iconst 1, 1) := by decide +kernel
theorem dX7_answersBy_118 : decode cX7_answersBy 118 = .ok (.isub, 1) := by decide +kernel
theorem dX7_answersBy_119 : decode cX7_answersBy 119 = .ok (.ireturn, 1) := by decide +kernel
theorem dX7_answer_0 : decode cX7_answer 0 = .ok (.aload_n 0, 1) := by decide +kernel
theorem dX7_answer_1 : decode cX7_answer 1 = .ok (.iload_n 1, 1) := by decide +kernel
theorem dX7_answer_2 : decode cX7_answer 2 = .ok (.iload_n 2, 1) := by decide +kernel
theorem dX7_answer_3 : decode cX7_answer 3 = .ok (.iload_n 3, 1) := by decide +kernel
theorem dX7_answer_4 : decode cX7_answer 4 = .ok (.invokevirtual 190, 3) := by decide +kernel
theorem dX7_answer_7 : decode cX7_answer 7 = .ok (.ireturn, 1) := by decide +kernel
theorem dX7_read_0 : decode cX7_read 0 = .ok (.iload_n 1, 1) := by decide +kernel
theorem dX7_read_1 : decode cX7_read 1 = .ok (.invokestatic 194, 3) := by decide +kernel
theorem dX7_read_4 : decode cX7_read 4 = .ok (.ifCond .eq 10, 3) := by decide +kernel
theorem dX7_read_7 : decode cX7_read 7 = .ok (.iload_n 2, 1) := by decide +kernel
theorem dX7_read_8 : decode cX7_read 8 = .ok (.invokestatic 110, 3) := by decide +kernel
theorem dX7_read_11 : decode cX7_read 11 = .ok (.ifCond .ne 6, 3) := by decide +kernel
theorem dX7_read_14 : decode cX7_read 14 = .ok (.bipush (-2), 2) := by decide +kernel
theorem dX7_read_16 : decode cX7_read 16 = .ok (.ireturn, 1) := by decide +kernel
theorem dX7_read_17 : decode cX7_read 17 = .ok (.aload_n 0, 1) := by decide +kernel
theorem dX7_read_18 : decode cX7_read 18 = .ok (.getfield 82, 3) := by decide +kernel
theorem dX7_read_21 : decode cX7_read 21 = .ok (.iload_n 1, 1) := by decide +kernel
theorem dX7_read_22 : decode cX7_read 22 = .ok (.baload, 1) := by decide +kernel
theorem dX7_read_23 : decode cX7_read 23 = .ok (.ifCond .ne 9, 3) := by decide +kernel
theorem dX7_read_26 : decode cX7_read 26 = .ok (.aload_n 0, 1) := by decide +kernel
theorem dX7_read_27 : decode cX7_read 27 = .ok (.iconst 1, 1) := by decide +kernel
theorem dX7_read_28 : decode cX7_read 28 = .ok (.invokevirtual 197, 3) := by decide +kernel
theorem dX7_read_31 : decode cX7_read 31 = .ok (.ireturn, 1) := by decide +kernel
theorem dX7_read_32 : decode cX7_read 32 = .ok (.aload_n 0, 1) := by decide +kernel
theorem dX7_read_33 : decode cX7_read 33 = .ok (.iload_n 2, 1) := by decide +kernel
theorem dX7_read_34 : decode cX7_read 34 = .ok (.invokevirtual 147, 3) := by decide +kernel
theorem dX7_read_37 : decode cX7_read 37 = .ok (.iconst (-1), 1) := by decide +kernel
theorem dX7_read_38 : decode cX7_read 38 = .ok (.if_icmp .eq 6, 3) := by decide +kernel
theorem dX7_read_41 : decode cX7_read 41 = .ok (.bipush (-3), 2) := by decide +kernel
theorem dX7_read_43 : decode cX7_read 43 = .ok (.ireturn, 1) := by decide +kernel
theorem dX7_read_44 : decode cX7_read 44 = .ok (.iconst 0, 1) := by decide +kernel
theorem dX7_read_45 : decode cX7_read 45 = .ok (.istore_n 3, 1) := by decide +kernel
theorem dX7_read_46 : decode cX7_read 46 = .ok (.iconst 2, 1) := by decide +kernel
theorem dX7_read_47 : decode cX7_read 47 = .ok (.iload_n 3, 1) := by decide +kernel
theorem dX7_read_48 : decode cX7_read 48 = .ok (.imul, 1) := by decide +kernel
theorem dX7_read_49 : decode cX7_read 49 = .ok (.iconst 1, 1) := by decide +kernel
theorem dX7_read_50 : decode cX7_read 50 = .ok (.iadd, 1) := by decide +kernel
theorem dX7_read_51 : decode cX7_read 51 = .ok (.aload_n 0, 1) := by decide +kernel
theorem dX7_read_52 : decode cX7_read 52 = .ok (.getfield 88, 3) := by decide +kernel
theorem dX7_read_55 : decode cX7_read 55 = .ok (.iload_n 1, 1) := by decide +kernel
theorem dX7_read_56 : decode cX7_read 56 = .ok (.iaload, 1) := by decide +kernel
theorem dX7_read_57 : decode cX7_read 57 = .ok (.if_icmp .ge 45, 3) := by decide +kernel
theorem dX7_read_60 : decode cX7_read 60 = .ok (.aload_n 0, 1) := by decide +kernel
theorem dX7_read_61 : decode cX7_read 61 = .ok (.aload_n 0, 1) := by decide +kernel
theorem dX7_read_62 : decode cX7_read 62 = .ok (.getfield 91, 3) := by decide +kernel
theorem dX7_read_65 : decode cX7_read 65 = .ok (.bipush 60, 2) := by decide +kernel
theorem dX7_read_67 : decode cX7_read 67 = .ok (.iload_n 1, 1) := by decide +kernel
theorem dX7_read_68 : decode cX7_read 68 = .ok (.imul, 1) := by decide +kernel
theorem dX7_read_69 : decode cX7_read 69 = .ok (.iconst 2, 1) := by decide +kernel
theorem dX7_read_70 : decode cX7_read 70 = .ok (.iload_n 3, 1) := by decide +kernel
theorem dX7_read_71 : decode cX7_read 71 = .ok (.imul, 1) := by decide +kernel
theorem dX7_read_72 : decode cX7_read 72 = .ok (.iadd, 1) := by decide +kernel
theorem dX7_read_73 : decode cX7_read 73 = .ok (.iaload, 1) := by decide +kernel
theorem dX7_read_74 : decode cX7_read 74 = .ok (.iload_n 2, 1) := by decide +kernel
theorem dX7_read_75 : decode cX7_read 75 = .ok (.aload_n 0, 1) := by decide +kernel
theorem dX7_read_76 : decode cX7_read 76 = .ok (.getfield 91, 3) := by decide +kernel
theorem dX7_read_79 : decode cX7_read 79 = .ok (.bipush 60, 2) := by decide +kernel
theorem dX7_read_81 : decode cX7_read 81 = .ok (.iload_n 1, 1) := by decide +kernel
theorem dX7_read_82 : decode cX7_read 82 = .ok (.imul, 1) := by decide +kernel
theorem dX7_read_83 : decode cX7_read 83 = .ok (.iconst 2, 1) := by decide +kernel
theorem dX7_read_84 : decode cX7_read 84 = .ok (.iload_n 3, 1) := by decide +kernel
theorem dX7_read_85 : decode cX7_read 85 = .ok (.imul, 1) := by decide +kernel
theorem dX7_read_86 : decode cX7_read 86 = .ok (.iadd, 1) := by decide +kernel
theorem dX7_read_87 : decode cX7_read 87 = .ok (.iconst 1, 1) := by decide +kernel
theorem dX7_read_88 : decode cX7_read 88 = .ok (.iadd, 1) := by decide +kernel
theorem dX7_read_89 : decode cX7_read 89 = .ok (.iaload, 1) := by decide +kernel
theorem dX7_read_90 : decode cX7_read 90 = .ok (.invokevirtual 190, 3) := by decide +kernel
theorem dX7_read_93 : decode cX7_read 93 = .ok (.ifCond .lt 9, 3) := by decide +kernel
theorem dX7_read_96 : decode cX7_read 96 = .ok (.iinc 3 1, 3) := by decide +kernel
theorem dX7_read_99 : decode cX7_read 99 = .ok (.goto (-53), 3) := by decide +kernel
theorem dX7_read_102 : decode cX7_read 102 = .ok (.iload_n 3, 1) := by decide +kernel
theorem dX7_read_103 : decode cX7_read 103 = .ok (.ireturn, 1) := by decide +kernel
theorem dX7_isAnswer_0 : decode cX7_isAnswer 0 = .ok (.iload_n 1, 1) := by decide +kernel
theorem dX7_isAnswer_1 : decode cX7_isAnswer 1 = .ok (.iconst 0, 1) := by decide +kernel
theorem dX7_isAnswer_2 : decode cX7_isAnswer 2 = .ok (.aload_n 0, 1) := by decide +kernel
theorem dX7_isAnswer_3 : decode cX7_isAnswer 3 = .ok (.getfield 187, 3) := by decide +kernel
theorem dX7_isAnswer_6 : decode cX7_isAnswer 6 = .ok (.iconst 1, 1) := by decide +kernel
theorem dX7_isAnswer_7 : decode cX7_isAnswer 7 = .ok (.isub, 1) := by decide +kernel
theorem dX7_isAnswer_8 : decode cX7_isAnswer 8 = .ok (.invokestatic 106, 3) := by decide +kernel
theorem dX7_isAnswer_11 : decode cX7_isAnswer 11 = .ok (.ireturn, 1) := by decide +kernel
theorem dX7_takeBack_0 : decode cX7_takeBack 0 = .ok (.aload_n 0, 1) := by decide +kernel
theorem dX7_takeBack_1 : decode cX7_takeBack 1 = .ok (.iload_n 1, 1) := by decide +kernel
theorem dX7_takeBack_2 : decode cX7_takeBack 2 = .ok (.invokevirtual 200, 3) := by decide +kernel
theorem dX7_takeBack_5 : decode cX7_takeBack 5 = .ok (.ifCond .ne 6, 3) := by decide +kernel
theorem dX7_takeBack_8 : decode cX7_takeBack 8 = .ok (.bipush (-2), 2) := by decide +kernel
theorem dX7_takeBack_10 : decode cX7_takeBack 10 = .ok (.ireturn, 1) := by decide +kernel
theorem dX7_takeBack_11 : decode cX7_takeBack 11 = .ok (.aload_n 0, 1) := by decide +kernel
theorem dX7_takeBack_12 : decode cX7_takeBack 12 = .ok (.getfield 73, 3) := by decide +kernel
theorem dX7_takeBack_15 : decode cX7_takeBack 15 = .ok (.iload_n 1, 1) := by decide +kernel
theorem dX7_takeBack_16 : decode cX7_takeBack 16 = .ok (.iaload, 1) := by decide +kernel
theorem dX7_takeBack_17 : decode cX7_takeBack 17 = .ok (.iconst (-1), 1) := by decide +kernel
theorem dX7_takeBack_18 : decode cX7_takeBack 18 = .ok (.if_icmp .eq 6, 3) := by decide +kernel
theorem dX7_takeBack_21 : decode cX7_takeBack 21 = .ok (.bipush (-3), 2) := by decide +kernel
theorem dX7_takeBack_23 : decode cX7_takeBack 23 = .ok (.ireturn, 1) := by decide +kernel
theorem dX7_takeBack_24 : decode cX7_takeBack 24 = .ok (.aload_n 0, 1) := by decide +kernel
theorem dX7_takeBack_25 : decode cX7_takeBack 25 = .ok (.getfield 73, 3) := by decide +kernel
theorem dX7_takeBack_28 : decode cX7_takeBack 28 = .ok (.iload_n 1, 1) := by decide +kernel
theorem dX7_takeBack_29 : decode cX7_takeBack 29 = .ok (.aload_n 0, 1) := by decide +kernel
theorem dX7_takeBack_30 : decode cX7_takeBack 30 = .ok (.getfield 178, 3) := by decide +kernel
theorem dX7_takeBack_33 : decode cX7_takeBack 33 = .ok (.iastore, 1) := by decide +kernel
theorem dX7_takeBack_34 : decode cX7_takeBack 34 = .ok (.iconst 1, 1) := by decide +kernel
theorem dX7_takeBack_35 : decode cX7_takeBack 35 = .ok (.ireturn, 1) := by decide +kernel
theorem dX7_isKnown_0 : decode cX7_isKnown 0 = .ok (.aload_n 0, 1) := by decide +kernel
theorem dX7_isKnown_1 : decode cX7_isKnown 1 = .ok (.getfield 55, 3) := by decide +kernel
theorem dX7_isKnown_4 : decode cX7_isKnown 4 = .ok (.iconst (-1), 1) := by decide +kernel
theorem dX7_isKnown_5 : decode cX7_isKnown 5 = .ok (.if_icmp .ne 10, 3) := by decide +kernel
theorem dX7_isKnown_8 : decode cX7_isKnown 8 = .ok (.aload_n 0, 1) := by decide +kernel
theorem dX7_isKnown_9 : decode cX7_isKnown 9 = .ok (.getfield 178, 3) := by decide +kernel
theorem dX7_isKnown_12 : decode cX7_isKnown 12 = .ok (.goto 7, 3) := by decide +kernel
theorem dX7_isKnown_15 : decode cX7_isKnown 15 = .ok (.aload_n 0, 1) := by decide +kernel
theorem dX7_isKnown_16 : decode cX7_isKnown 16 = .ok (.getfield 55, 3) := by decide +kernel
theorem dX7_isKnown_19 : decode cX7_isKnown 19 = .ok (.istore_n 2, 1) := by decide +kernel
theorem dX7_isKnown_20 : decode cX7_isKnown 20 = .ok (.aload_n 0, 1) := by decide +kernel
theorem dX7_isKnown_21 : decode cX7_isKnown 21 = .ok (.getfield 70, 3) := by decide +kernel
theorem dX7_isKnown_24 : decode cX7_isKnown 24 = .ok (.iload_n 1, 1) := by decide +kernel
theorem dX7_isKnown_25 : decode cX7_isKnown 25 = .ok (.iaload, 1) := by decide +kernel
theorem dX7_isKnown_26 : decode cX7_isKnown 26 = .ok (.iload_n 2, 1) := by decide +kernel
theorem dX7_isKnown_27 : decode cX7_isKnown 27 = .ok (.if_icmp .gt 27, 3) := by decide +kernel
theorem dX7_isKnown_30 : decode cX7_isKnown 30 = .ok (.aload_n 0, 1) := by decide +kernel
theorem dX7_isKnown_31 : decode cX7_isKnown 31 = .ok (.getfield 73, 3) := by decide +kernel
theorem dX7_isKnown_34 : decode cX7_isKnown 34 = .ok (.iload_n 1, 1) := by decide +kernel
theorem dX7_isKnown_35 : decode cX7_isKnown 35 = .ok (.iaload, 1) := by decide +kernel
theorem dX7_isKnown_36 : decode cX7_isKnown 36 = .ok (.iconst (-1), 1) := by decide +kernel
theorem dX7_isKnown_37 : decode cX7_isKnown 37 = .ok (.if_icmp .eq 13, 3) := by decide +kernel
theorem dX7_isKnown_40 : decode cX7_isKnown 40 = .ok (.aload_n 0, 1) := by decide +kernel
theorem dX7_isKnown_41 : decode cX7_isKnown 41 = .ok (.getfield 73, 3) := by decide +kernel
theorem dX7_isKnown_44 : decode cX7_isKnown 44 = .ok (.iload_n 1, 1) := by decide +kernel
theorem dX7_isKnown_45 : decode cX7_isKnown 45 = .ok (.iaload, 1) := by decide +kernel
theorem dX7_isKnown_46 : decode cX7_isKnown 46 = .ok (.iload_n 2, 1) := by decide +kernel
theorem dX7_isKnown_47 : decode cX7_isKnown 47 = .ok (.if_icmp .le 7, 3) := by decide +kernel
theorem dX7_isKnown_50 : decode cX7_isKnown 50 = .ok (.iconst 1, 1) := by decide +kernel
theorem dX7_isKnown_51 : decode cX7_isKnown 51 = .ok (.goto 4, 3) := by decide +kernel
theorem dX7_isKnown_54 : decode cX7_isKnown 54 = .ok (.iconst 0, 1) := by decide +kernel
theorem dX7_isKnown_55 : decode cX7_isKnown 55 = .ok (.ireturn, 1) := by decide +kernel
theorem dX7_about_0 : decode cX7_about 0 = .ok (.aload_n 0, 1) := by decide +kernel
theorem dX7_about_1 : decode cX7_about 1 = .ok (.iload_n 1, 1) := by decide +kernel
theorem dX7_about_2 : decode cX7_about 2 = .ok (.invokevirtual 200, 3) := by decide +kernel
theorem dX7_about_5 : decode cX7_about 5 = .ok (.ifCond .ne 6, 3) := by decide +kernel
theorem dX7_about_8 : decode cX7_about 8 = .ok (.bipush (-2), 2) := by decide +kernel
theorem dX7_about_10 : decode cX7_about 10 = .ok (.ireturn, 1) := by decide +kernel
theorem dX7_about_11 : decode cX7_about 11 = .ok (.iload_n 2, 1) := by decide +kernel
theorem dX7_about_12 : decode cX7_about 12 = .ok (.tableswitch 89 0 5 #[40, 47, 54, 61, 68, 75], 40) := by decide +kernel
theorem dX7_about_52 : decode cX7_about 52 = .ok (.aload_n 0, 1) := by decide +kernel
theorem dX7_about_53 : decode cX7_about 53 = .ok (.getfield 61, 3) := by decide +kernel
theorem dX7_about_56 : decode cX7_about 56 = .ok (.iload_n 1, 1) := by decide +kernel
theorem dX7_about_57 : decode cX7_about 57 = .ok (.iaload, 1) := by decide +kernel
theorem dX7_about_58 : decode cX7_about 58 = .ok (.ireturn, 1) := by decide +kernel
theorem dX7_about_59 : decode cX7_about 59 = .ok (.aload_n 0, 1) := by decide +kernel
theorem dX7_about_60 : decode cX7_about 60 = .ok (.getfield 64, 3) := by decide +kernel
theorem dX7_about_63 : decode cX7_about 63 = .ok (.iload_n 1, 1) := by decide +kernel
theorem dX7_about_64 : decode cX7_about 64 = .ok (.iaload, 1) := by decide +kernel
theorem dX7_about_65 : decode cX7_about 65 = .ok (.ireturn, 1) := by decide +kernel
theorem dX7_about_66 : decode cX7_about 66 = .ok (.aload_n 0, 1) := by decide +kernel
theorem dX7_about_67 : decode cX7_about 67 = .ok (.getfield 67, 3) := by decide +kernel
theorem dX7_about_70 : decode cX7_about 70 = .ok (.iload_n 1, 1) := by decide +kernel
theorem dX7_about_71 : decode cX7_about 71 = .ok (.iaload, 1) := by decide +kernel
theorem dX7_about_72 : decode cX7_about 72 = .ok (.ireturn, 1) := by decide +kernel
theorem dX7_about_73 : decode cX7_about 73 = .ok (.aload_n 0, 1) := by decide +kernel
theorem dX7_about_74 : decode cX7_about 74 = .ok (.getfield 70, 3) := by decide +kernel
theorem dX7_about_77 : decode cX7_about 77 = .ok (.iload_n 1, 1) := by decide +kernel
theorem dX7_about_78 : decode cX7_about 78 = .ok (.iaload, 1) := by decide +kernel
theorem dX7_about_79 : decode cX7_about 79 = .ok (.ireturn, 1) := by decide +kernel
theorem dX7_about_80 : decode cX7_about 80 = .ok (.aload_n 0, 1) := by decide +kernel
theorem dX7_about_81 : decode cX7_about 81 = .ok (.getfield 73, 3) := by decide +kernel
theorem dX7_about_84 : decode cX7_about 84 = .ok (.iload_n 1, 1) := by decide +kernel
theorem dX7_about_85 : decode cX7_about 85 = .ok (.iaload, 1) := by decide +kernel
theorem dX7_about_86 : decode cX7_about 86 = .ok (.ireturn, 1) := by decide +kernel
theorem dX7_about_87 : decode cX7_about 87 = .ok (.aload_n 0, 1) := by decide +kernel
theorem dX7_about_88 : decode cX7_about 88 = .ok (.iload_n 1, 1) := by decide +kernel
theorem dX7_about_89 : decode cX7_about 89 = .ok (.invokevirtual 203, 3) := by decide +kernel
theorem dX7_about_92 : decode cX7_about 92 = .ok (.ifCond .eq 7, 3) := by decide +kernel
theorem dX7_about_95 : decode cX7_about 95 = .ok (.iconst 1, 1) := by decide +kernel
theorem dX7_about_96 : decode cX7_about 96 = .ok (.goto 4, 3) := by decide +kernel
theorem dX7_about_99 : decode cX7_about 99 = .ok (.iconst 0, 1) := by decide +kernel
theorem dX7_about_100 : decode cX7_about 100 = .ok (.ireturn, 1) := by decide +kernel
theorem dX7_about_101 : decode cX7_about 101 = .ok (.bipush (-2), 2) := by decide +kernel
theorem dX7_about_103 : decode cX7_about 103 = .ok (.ireturn, 1) := by decide +kernel
theorem dX7_asOf_0 : decode cX7_asOf 0 = .ok (.iload_n 1, 1) := by decide +kernel
theorem dX7_asOf_1 : decode cX7_asOf 1 = .ok (.iconst (-1), 1) := by decide +kernel
theorem dX7_asOf_2 : decode cX7_asOf 2 = .ok (.aload_n 0, 1) := by decide +kernel
theorem dX7_asOf_3 : decode cX7_asOf 3 = .ok (.getfield 178, 3) := by decide +kernel
theorem dX7_asOf_6 : decode cX7_asOf 6 = .ok (.invokestatic 106, 3) := by decide +kernel
theorem dX7_asOf_9 : decode cX7_asOf 9 = .ok (.ifCond .ne 6, 3) := by decide +kernel
theorem dX7_asOf_12 : decode cX7_asOf 12 = .ok (.bipush (-2), 2) := by decide +kernel
theorem dX7_asOf_14 : decode cX7_asOf 14 = .ok (.ireturn, 1) := by decide +kernel
theorem dX7_asOf_15 : decode cX7_asOf 15 = .ok (.aload_n 0, 1) := by decide +kernel
theorem dX7_asOf_16 : decode cX7_asOf 16 = .ok (.getfield 55, 3) := by decide +kernel
theorem dX7_asOf_19 : decode cX7_asOf 19 = .ok (.istore_n 2, 1) := by decide +kernel
theorem dX7_asOf_20 : decode cX7_asOf 20 = .ok (.aload_n 0, 1) := by decide +kernel
theorem dX7_asOf_21 : decode cX7_asOf 21 = .ok (.iload_n 1, 1) := by decide +kernel
theorem dX7_asOf_22 : decode cX7_asOf 22 = .ok (.putfield 55, 3) := by decide +kernel
theorem dX7_asOf_25 : decode cX7_asOf 25 = .ok (.iload_n 2, 1) := by decide +kernel
theorem dX7_asOf_26 : decode cX7_asOf 26 = .ok (.ireturn, 1) := by decide +kernel
theorem dX7_polls_0 : decode cX7_polls 0 = .ok (.iconst 0, 1) := by decide +kernel
theorem dX7_polls_1 : decode cX7_polls 1 = .ok (.istore_n 3, 1) := by decide +kernel
theorem dX7_polls_2 : decode cX7_polls 2 = .ok (.aload_n 0, 1) := by decide +kernel
theorem dX7_polls_3 : decode cX7_polls 3 = .ok (.iconst 0, 1) := by decide +kernel
theorem dX7_polls_4 : decode cX7_polls 4 = .ok (.putfield 206, 3) := by decide +kernel
theorem dX7_polls_7 : decode cX7_polls 7 = .ok (.aload_n 0, 1) := by decide +kernel
theorem dX7_polls_8 : decode cX7_polls 8 = .ok (.iconst 0, 1) := by decide +kernel
theorem dX7_polls_9 : decode cX7_polls 9 = .ok (.putfield 209, 3) := by decide +kernel
theorem dX7_polls_12 : decode cX7_polls 12 = .ok (.iconst 0, 1) := by decide +kernel
theorem dX7_polls_13 : decode cX7_polls 13 = .ok (.istore 4, 2) := by decide +kernel
theorem dX7_polls_15 : decode cX7_polls 15 = .ok (.iload 4, 2) := by decide +kernel
theorem dX7_polls_17 : decode cX7_polls 17 = .ok (.aload_n 0, 1) := by decide +kernel
theorem dX7_polls_18 : decode cX7_polls 18 = .ok (.getfield 187, 3) := by decide +kernel
theorem dX7_polls_21 : decode cX7_polls 21 = .ok (.if_icmp .ge 91, 3) := by decide +kernel
theorem dX7_polls_24 : decode cX7_polls 24 = .ok (.aload_n 0, 1) := by decide +kernel
theorem dX7_polls_25 : decode cX7_polls 25 = .ok (.getfield 61, 3) := by decide +kernel
theorem dX7_polls_28 : decode cX7_polls 28 = .ok (.iload 4, 2) := by decide +kernel
theorem dX7_polls_30 : decode cX7_polls 30 = .ok (.iaload, 1) := by decide +kernel
theorem dX7_polls_31 : decode cX7_polls 31 = .ok (.istore 5, 2) := by decide +kernel
theorem dX7_polls_33 : decode cX7_polls 33 = .ok (.aload_n 0, 1) := by decide +kernel
theorem dX7_polls_34 : decode cX7_polls 34 = .ok (.getfield 64, 3) := by decide +kernel
theorem dX7_polls_37 : decode cX7_polls 37 = .ok (.iload 4, 2) := by decide +kernel
theorem dX7_polls_39 : decode cX7_polls 39 = .ok (.iaload, 1) := by decide +kernel
theorem dX7_polls_40 : decode cX7_polls 40 = .ok (.iload_n 2, 1) := by decide +kernel
theorem dX7_polls_41 : decode cX7_polls 41 = .ok (.if_icmp .ne 65, 3) := by decide +kernel
theorem dX7_polls_44 : decode cX7_polls 44 = .ok (.aload_n 0, 1) := by decide +kernel
theorem dX7_polls_45 : decode cX7_polls 45 = .ok (.getfield 58, 3) := by decide +kernel
theorem dX7_polls_48 : decode cX7_polls 48 = .ok (.iload 5, 2) := by decide +kernel
theorem dX7_polls_50 : decode cX7_polls 50 = .ok (.iaload, 1) := by decide +kernel
theorem dX7_polls_51 : decode cX7_polls 51 = .ok (.iload_n 1, 1) := by decide +kernel
theorem dX7_polls_52 : decode cX7_polls 52 = .ok (.if_icmp .ne 54, 3) := by decide +kernel
theorem dX7_polls_55 : decode cX7_polls 55 = .ok (.aload_n 0, 1) := by decide +kernel
theorem dX7_polls_56 : decode cX7_polls 56 = .ok (.iload 4, 2) := by decide +kernel
theorem dX7_polls_58 : decode cX7_polls 58 = .ok (.invokevirtual 203, 3) := by decide +kernel
theorem dX7_polls_61 : decode cX7_polls 61 = .ok (.ifCond .eq 45, 3) := by decide +kernel
theorem dX7_polls_64 : decode cX7_polls 64 = .ok (.iload_n 3, 1) := by decide +kernel
theorem dX7_polls_65 : decode cX7_polls 65 = .ok (.iload 5, 2) := by decide +kernel
theorem dX7_polls_67 : decode cX7_polls 67 = .ok (.ishr, 1) := by decide +kernel
theorem dX7_polls_68 : decode cX7_polls 68 = .ok (.iconst 1, 1) := by decide +kernel
theorem dX7_polls_69 : decode cX7_polls 69 = .ok (.iand, 1) := by decide +kernel
theorem dX7_polls_70 : decode cX7_polls 70 = .ok (.ifCond .ne 36, 3) := by decide +kernel
theorem dX7_polls_73 : decode cX7_polls 73 = .ok (.iload_n 3, 1) := by decide +kernel
theorem dX7_polls_74 : decode cX7_polls 74 = .ok (.iconst 1, 1) := by decide +kernel
theorem dX7_polls_75 : decode cX7_polls 75 = .ok (.iload 5, 2) := by decide +kernel
theorem dX7_polls_77 : decode cX7_polls 77 = .ok (.ishl, 1) := by decide +kernel
theorem dX7_polls_78 : decode cX7_polls 78 = .ok (.ior, 1) := by decide +kernel
theorem dX7_polls_79 : decode cX7_polls 79 = .ok (.istore_n 3, 1) := by decide +kernel
theorem dX7_polls_80 : decode cX7_polls 80 = .ok (.aload_n 0, 1) := by decide +kernel
theorem dX7_polls_81 : decode cX7_polls 81 = .ok (.dup, 1) := by decide +kernel
theorem dX7_polls_82 : decode cX7_polls 82 = .ok (.getfield 206, 3) := by decide +kernel
theorem dX7_polls_85 : decode cX7_polls 85 = .ok (.iconst 1, 1) := by decide +kernel
theorem dX7_polls_86 : decode cX7_polls 86 = .ok (.iadd, 1) := by decide +kernel
theorem dX7_polls_87 : decode cX7_polls 87 = .ok (.putfield 206, 3) := by decide +kernel
theorem dX7_polls_90 : decode cX7_polls 90 = .ok (.aload_n 0, 1) := by decide +kernel
theorem dX7_polls_91 : decode cX7_polls 91 = .ok (.dup, 1) := by decide +kernel
theorem dX7_polls_92 : decode cX7_polls 92 = .ok (.getfield 209, 3) := by decide +kernel
theorem dX7_polls_95 : decode cX7_polls 95 = .ok (.aload_n 0, 1) := by decide +kernel
theorem dX7_polls_96 : decode cX7_polls 96 = .ok (.getfield 67, 3) := by decide +kernel
theorem dX7_polls_99 : decode cX7_polls 99 = .ok (.iload 4, 2) := by decide +kernel
theorem dX7_polls_101 : decode cX7_polls 101 = .ok (.iaload, 1) := by decide +kernel
theorem dX7_polls_102 : decode cX7_polls 102 = .ok (.iadd, 1) := by decide +kernel
theorem dX7_polls_103 : decode cX7_polls 103 = .ok (.putfield 209, 3) := by decide +kernel
theorem dX7_polls_106 : decode cX7_polls 106 = .ok (.iinc 4 1, 3) := by decide +kernel
theorem dX7_polls_109 : decode cX7_polls 109 = .ok (.goto (-94), 3) := by decide +kernel
theorem dX7_polls_112 : decode cX7_polls 112 = .ok (.return_, 1) := by decide +kernel
theorem dX7_isPoll_0 : decode cX7_isPoll 0 = .ok (.iload_n 0, 1) := by decide +kernel
theorem dX7_isPoll_1 : decode cX7_isPoll 1 = .ok (.invokestatic 184, 3) := by decide +kernel
theorem dX7_isPoll_4 : decode cX7_isPoll 4 = .ok (.ifCond .eq 14, 3) := by decide +kernel
theorem dX7_isPoll_7 : decode cX7_isPoll 7 = .ok (.iload_n 1, 1) := by decide +kernel
theorem dX7_isPoll_8 : decode cX7_isPoll 8 = .ok (.invokestatic 110, 3) := by decide +kernel
theorem dX7_isPoll_11 : decode cX7_isPoll 11 = .ok (.ifCond .eq 7, 3) := by decide +kernel
theorem dX7_isPoll_14 : decode cX7_isPoll 14 = .ok (.iconst 1, 1) := by decide +kernel
theorem dX7_isPoll_15 : decode cX7_isPoll 15 = .ok (.goto 4, 3) := by decide +kernel
theorem dX7_isPoll_18 : decode cX7_isPoll 18 = .ok (.iconst 0, 1) := by decide +kernel
theorem dX7_isPoll_19 : decode cX7_isPoll 19 = .ok (.ireturn, 1) := by decide +kernel
theorem dX7_poll_0 : decode cX7_poll 0 = .ok (.iload_n 1, 1) := by decide +kernel
theorem dX7_poll_1 : decode cX7_poll 1 = .ok (.iload_n 2, 1) := by decide +kernel
theorem dX7_poll_2 : decode cX7_poll 2 = .ok (.invokestatic 212, 3) := by decide +kernel
theorem dX7_poll_5 : decode cX7_poll 5 = .ok (.ifCond .eq 12, 3) := by decide +kernel
theorem dX7_poll_8 : decode cX7_poll 8 = .ok (.iload_n 3, 1) := by decide +kernel
theorem dX7_poll_9 : decode cX7_poll 9 = .ok (.iconst 0, 1) := by decide +kernel
theorem dX7_poll_10 : decode cX7_poll 10 = .ok (.iconst 1, 1) := by decide +kernel
theorem dX7_poll_11 : decode cX7_poll 11 = .ok (.invokestatic 106, 3) := by decide +kernel
theorem dX7_poll_14 : decode cX7_poll 14 = .ok (.ifCond .ne 6, 3) := by decide +kernel
theorem dX7_poll_17 : decode cX7_poll 17 = .ok (.bipush (-2), 2) := by decide +kernel
theorem dX7_poll_19 : decode cX7_poll 19 = .ok (.ireturn, 1) := by decide +kernel
theorem dX7_poll_20 : decode cX7_poll 20 = .ok (.aload_n 0, 1) := by decide +kernel
theorem dX7_poll_21 : decode cX7_poll 21 = .ok (.iload_n 1, 1) := by decide +kernel
theorem dX7_poll_22 : decode cX7_poll 22 = .ok (.iload_n 2, 1) := by decide +kernel
theorem dX7_poll_23 : decode cX7_poll 23 = .ok (.invokevirtual 216, 3) := by decide +kernel
theorem dX7_poll_26 : decode cX7_poll 26 = .ok (.iload_n 3, 1) := by decide +kernel
theorem dX7_poll_27 : decode cX7_poll 27 = .ok (.ifCond .ne 10, 3) := by decide +kernel
theorem dX7_poll_30 : decode cX7_poll 30 = .ok (.aload_n 0, 1) := by decide +kernel
theorem dX7_poll_31 : decode cX7_poll 31 = .ok (.getfield 206, 3) := by decide +kernel
theorem dX7_poll_34 : decode cX7_poll 34 = .ok (.goto 7, 3) := by decide +kernel
theorem dX7_poll_37 : decode cX7_poll 37 = .ok (.aload_n 0, 1) := by decide +kernel
theorem dX7_poll_38 : decode cX7_poll 38 = .ok (.getfield 209, 3) := by decide +kernel
theorem dX7_poll_41 : decode cX7_poll 41 = .ok (.ireturn, 1) := by decide +kernel
theorem dX7_share_0 : decode cX7_share 0 = .ok (.iload_n 1, 1) := by decide +kernel
theorem dX7_share_1 : decode cX7_share 1 = .ok (.iload_n 2, 1) := by decide +kernel
theorem dX7_share_2 : decode cX7_share 2 = .ok (.invokestatic 212, 3) := by decide +kernel
theorem dX7_share_5 : decode cX7_share 5 = .ok (.ifCond .eq 12, 3) := by decide +kernel
theorem dX7_share_8 : decode cX7_share 8 = .ok (.iload_n 3, 1) := by decide +kernel
theorem dX7_share_9 : decode cX7_share 9 = .ok (.iconst 0, 1) := by decide +kernel
theorem dX7_share_10 : decode cX7_share 10 = .ok (.iconst 1, 1) := by decide +kernel
theorem dX7_share_11 : decode cX7_share 11 = .ok (.invokestatic 106, 3) := by decide +kernel
theorem dX7_share_14 : decode cX7_share 14 = .ok (.ifCond .ne 9, 3) := by decide +kernel
theorem dX7_share_17 : decode cX7_share 17 = .ok (.bipush (-2), 2) := by decide +kernel
theorem dX7_share_19 : decode cX7_share 19 = .ok (.invokestatic 157, 3) := by decide +kernel
theorem dX7_share_22 : decode cX7_share 22 = .ok (.lreturn, 1) := by decide +kernel
theorem dX7_share_23 : decode cX7_share 23 = .ok (.aload_n 0, 1) := by decide +kernel
theorem dX7_share_24 : decode cX7_share 24 = .ok (.iload_n 1, 1) := by decide +kernel
theorem dX7_share_25 : decode cX7_share 25 = .ok (.iload_n 2, 1) := by decide +kernel
theorem dX7_share_26 : decode cX7_share 26 = .ok (.invokevirtual 216, 3) := by decide +kernel
theorem dX7_share_29 : decode cX7_share 29 = .ok (.aload_n 0, 1) := by decide +kernel
theorem dX7_share_30 : decode cX7_share 30 = .ok (.iload_n 2, 1) := by decide +kernel
theorem dX7_share_31 : decode cX7_share 31 = .ok (.invokevirtual 147, 3) := by decide +kernel
theorem dX7_share_34 : decode cX7_share 34 = .ok (.iconst (-1), 1) := by decide +kernel
theorem dX7_share_35 : decode cX7_share 35 = .ok (.if_icmp .ne 20, 3) := by decide +kernel
theorem dX7_share_38 : decode cX7_share 38 = .ok (.aload_n 0, 1) := by decide +kernel
theorem dX7_share_39 : decode cX7_share 39 = .ok (.iload_n 2, 1) := by decide +kernel
theorem dX7_share_40 : decode cX7_share 40 = .ok (.invokevirtual 220, 3) := by decide +kernel
theorem dX7_share_43 : decode cX7_share 43 = .ok (.lconst 0, 1) := by decide +kernel
theorem dX7_share_44 : decode cX7_share 44 = .ok (.lcmp, 1) := by decide +kernel
theorem dX7_share_45 : decode cX7_share 45 = .ok (.ifCond .eq 10, 3) := by decide +kernel
theorem dX7_share_48 : decode cX7_share 48 = .ok (.aload_n 0, 1) := by decide +kernel
theorem dX7_share_49 : decode cX7_share 49 = .ok (.getfield 206, 3) := by decide +kernel
theorem dX7_share_52 : decode cX7_share 52 = .ok (.ifCond .ne 9, 3) := by decide +kernel
theorem dX7_share_55 : decode cX7_share 55 = .ok (.bipush (-3), 2) := by decide +kernel
theorem dX7_share_57 : decode cX7_share 57 = .ok (.invokestatic 157, 3) := by decide +kernel
theorem dX7_share_60 : decode cX7_share 60 = .ok (.lreturn, 1) := by decide +kernel
theorem dX7_share_61 : decode cX7_share 61 = .ok (.aload_n 0, 1) := by decide +kernel
theorem dX7_share_62 : decode cX7_share 62 = .ok (.aload_n 0, 1) := by decide +kernel
theorem dX7_share_63 : decode cX7_share 63 = .ok (.getfield 209, 3) := by decide +kernel
theorem dX7_share_66 : decode cX7_share 66 = .ok (.i2l, 1) := by decide +kernel
theorem dX7_share_67 : decode cX7_share 67 = .ok (.aload_n 0, 1) := by decide +kernel
theorem dX7_share_68 : decode cX7_share 68 = .ok (.iload_n 2, 1) := by decide +kernel
theorem dX7_share_69 : decode cX7_share 69 = .ok (.invokevirtual 161, 3) := by decide +kernel
theorem dX7_share_72 : decode cX7_share 72 = .ok (.lmul, 1) := by decide +kernel
theorem dX7_share_73 : decode cX7_share 73 = .ok (.aload_n 0, 1) := by decide +kernel
theorem dX7_share_74 : decode cX7_share 74 = .ok (.getfield 206, 3) := by decide +kernel
theorem dX7_share_77 : decode cX7_share 77 = .ok (.i2l, 1) := by decide +kernel
theorem dX7_share_78 : decode cX7_share 78 = .ok (.aload_n 0, 1) := by decide +kernel
theorem dX7_share_79 : decode cX7_share 79 = .ok (.iload_n 2, 1) := by decide +kernel
theorem dX7_share_80 : decode cX7_share 80 = .ok (.iconst 0, 1) := by decide +kernel
theorem dX7_share_81 : decode cX7_share 81 = .ok (.invokevirtual 153, 3) := by decide +kernel
theorem dX7_share_84 : decode cX7_share 84 = .ok (.lmul, 1) := by decide +kernel
theorem dX7_share_85 : decode cX7_share 85 = .ok (.lsub, 1) := by decide +kernel
theorem dX7_share_86 : decode cX7_share 86 = .ok (.aload_n 0, 1) := by decide +kernel
theorem dX7_share_87 : decode cX7_share 87 = .ok (.getfield 206, 3) := by decide +kernel
theorem dX7_share_90 : decode cX7_share 90 = .ok (.i2l, 1) := by decide +kernel
theorem dX7_share_91 : decode cX7_share 91 = .ok (.aload_n 0, 1) := by decide +kernel
theorem dX7_share_92 : decode cX7_share 92 = .ok (.iload_n 2, 1) := by decide +kernel
theorem dX7_share_93 : decode cX7_share 93 = .ok (.invokevirtual 220, 3) := by decide +kernel
theorem dX7_share_96 : decode cX7_share 96 = .ok (.lmul, 1) := by decide +kernel
theorem dX7_share_97 : decode cX7_share 97 = .ok (.invokevirtual 164, 3) := by decide +kernel
theorem dX7_share_100 : decode cX7_share 100 = .ok (.aload_n 0, 1) := by decide +kernel
theorem dX7_share_101 : decode cX7_share 101 = .ok (.iload_n 3, 1) := by decide +kernel
theorem dX7_share_102 : decode cX7_share 102 = .ok (.invokevirtual 168, 3) := by decide +kernel
theorem dX7_share_105 : decode cX7_share 105 = .ok (.lreturn, 1) := by decide +kernel
theorem dX7_scatter_0 : decode cX7_scatter 0 = .ok (.iload_n 1, 1) := by decide +kernel
theorem dX7_scatter_1 : decode cX7_scatter 1 = .ok (.iload_n 2, 1) := by decide +kernel
theorem dX7_scatter_2 : decode cX7_scatter 2 = .ok (.invokestatic 212, 3) := by decide +kernel
theorem dX7_scatter_5 : decode cX7_scatter 5 = .ok (.ifCond .eq 12, 3) := by decide +kernel
theorem dX7_scatter_8 : decode cX7_scatter 8 = .ok (.iload_n 3, 1) := by decide +kernel
theorem dX7_scatter_9 : decode cX7_scatter 9 = .ok (.iconst 0, 1) := by decide +kernel
theorem dX7_scatter_10 : decode cX7_scatter 10 = .ok (.iconst 1, 1) := by decide +kernel
theorem dX7_scatter_11 : decode cX7_scatter 11 = .ok (.invokestatic 106, 3) := by decide +kernel
theorem dX7_scatter_14 : decode cX7_scatter 14 = .ok (.ifCond .ne 9, 3) := by decide +kernel
theorem dX7_scatter_17 : decode cX7_scatter 17 = .ok (.bipush (-2), 2) := by decide +kernel
theorem dX7_scatter_19 : decode cX7_scatter 19 = .ok (.invokestatic 157, 3) := by decide +kernel
theorem dX7_scatter_22 : decode cX7_scatter 22 = .ok (.lreturn, 1) := by decide +kernel
theorem dX7_scatter_23 : decode cX7_scatter 23 = .ok (.aload_n 0, 1) := by decide +kernel
theorem dX7_scatter_24 : decode cX7_scatter 24 = .ok (.iload_n 1, 1) := by decide +kernel
theorem dX7_scatter_25 : decode cX7_scatter 25 = .ok (.iload_n 2, 1) := by decide +kernel
theorem dX7_scatter_26 : decode cX7_scatter 26 = .ok (.invokevirtual 216, 3) := by decide +kernel
theorem dX7_scatter_29 : decode cX7_scatter 29 = .ok (.aload_n 0, 1) := by decide +kernel
theorem dX7_scatter_30 : decode cX7_scatter 30 = .ok (.iload_n 2, 1) := by decide +kernel
theorem dX7_scatter_31 : decode cX7_scatter 31 = .ok (.invokevirtual 147, 3) := by decide +kernel
theorem dX7_scatter_34 : decode cX7_scatter 34 = .ok (.iconst (-1), 1) := by decide +kernel
theorem dX7_scatter_35 : decode cX7_scatter 35 = .ok (.if_icmp .ne 21, 3) := by decide +kernel
theorem dX7_scatter_38 : decode cX7_scatter 38 = .ok (.aload_n 0, 1) := by decide +kernel
theorem dX7_scatter_39 : decode cX7_scatter 39 = .ok (.iload_n 2, 1) := by decide +kernel
theorem dX7_scatter_40 : decode cX7_scatter 40 = .ok (.invokevirtual 220, 3) := by decide +kernel
theorem dX7_scatter_43 : decode cX7_scatter 43 = .ok (.lconst 0, 1) := by decide +kernel
theorem dX7_scatter_44 : decode cX7_scatter 44 = .ok (.lcmp, 1) := by decide +kernel
theorem dX7_scatter_45 : decode cX7_scatter 45 = .ok (.ifCond .eq 11, 3) := by decide +kernel
theorem dX7_scatter_48 : decode cX7_scatter 48 = .ok (.aload_n 0, 1) := by decide +kernel
theorem dX7_scatter_49 : decode cX7_scatter 49 = .ok (.getfield 206, 3) := by decide +kernel
theorem dX7_scatter_52 : decode cX7_scatter 52 = .ok (.iconst 2, 1) := by decide +kernel
theorem dX7_scatter_53 : decode cX7_scatter 53 = .ok (.if_icmp .ge 9, 3) := by decide +kernel
theorem dX7_scatter_56 : decode cX7_scatter 56 = .ok (.bipush (-3), 2) := by decide +kernel
theorem dX7_scatter_58 : decode cX7_scatter 58 = .ok (.invokestatic 157, 3) := by decide +kernel
theorem dX7_scatter_61 : decode cX7_scatter 61 = .ok (.lreturn, 1) := by decide +kernel
theorem dX7_scatter_62 : decode cX7_scatter 62 = .ok (.aload_n 0, 1) := by decide +kernel
theorem dX7_scatter_63 : decode cX7_scatter 63 = .ok (.getfield 206, 3) := by decide +kernel
theorem dX7_scatter_66 : decode cX7_scatter 66 = .ok (.i2l, 1) := by decide +kernel
theorem dX7_scatter_67 : decode cX7_scatter 67 = .ok (.lstore 4, 2) := by decide +kernel
theorem dX7_scatter_69 : decode cX7_scatter 69 = .ok (.aload_n 0, 1) := by decide +kernel
theorem dX7_scatter_70 : decode cX7_scatter 70 = .ok (.getfield 209, 3) := by decide +kernel
theorem dX7_scatter_73 : decode cX7_scatter 73 = .ok (.i2l, 1) := by decide +kernel
theorem dX7_scatter_74 : decode cX7_scatter 74 = .ok (.lload 4, 2) := by decide +kernel
theorem dX7_scatter_76 : decode cX7_scatter 76 = .ok (.aload_n 0, 1) := by decide +kernel
theorem dX7_scatter_77 : decode cX7_scatter 77 = .ok (.getfield 209, 3) := by decide +kernel
theorem dX7_scatter_80 : decode cX7_scatter 80 = .ok (.i2l, 1) := by decide +kernel
theorem dX7_scatter_81 : decode cX7_scatter 81 = .ok (.lsub, 1) := by decide +kernel
theorem dX7_scatter_82 : decode cX7_scatter 82 = .ok (.lmul, 1) := by decide +kernel
theorem dX7_scatter_83 : decode cX7_scatter 83 = .ok (.aload_n 0, 1) := by decide +kernel
theorem dX7_scatter_84 : decode cX7_scatter 84 = .ok (.iload_n 2, 1) := by decide +kernel
theorem dX7_scatter_85 : decode cX7_scatter 85 = .ok (.invokevirtual 161, 3) := by decide +kernel
theorem dX7_scatter_88 : decode cX7_scatter 88 = .ok (.lmul, 1) := by decide +kernel
theorem dX7_scatter_89 : decode cX7_scatter 89 = .ok (.aload_n 0, 1) := by decide +kernel
theorem dX7_scatter_90 : decode cX7_scatter 90 = .ok (.iload_n 2, 1) := by decide +kernel
theorem dX7_scatter_91 : decode cX7_scatter 91 = .ok (.invokevirtual 161, 3) := by decide +kernel
theorem dX7_scatter_94 : decode cX7_scatter 94 = .ok (.lmul, 1) := by decide +kernel
theorem dX7_scatter_95 : decode cX7_scatter 95 = .ok (.lstore 6, 2) := by decide +kernel
theorem dX7_scatter_97 : decode cX7_scatter 97 = .ok (.aload_n 0, 1) := by decide +kernel
theorem dX7_scatter_98 : decode cX7_scatter 98 = .ok (.lload 6, 2) := by decide +kernel
theorem dX7_scatter_100 : decode cX7_scatter 100 = .ok (.lload 4, 2) := by decide +kernel
theorem dX7_scatter_102 : decode cX7_scatter 102 = .ok (.lload 4, 2) := by decide +kernel
theorem dX7_scatter_104 : decode cX7_scatter 104 = .ok (.lmul, 1) := by decide +kernel
theorem dX7_scatter_105 : decode cX7_scatter 105 = .ok (.lload 4, 2) := by decide +kernel
theorem dX7_scatter_107 : decode cX7_scatter 107 = .ok (.lconst 1, 1) := by decide +kernel
theorem dX7_scatter_108 : decode cX7_scatter 108 = .ok (.lsub, 1) := by decide +kernel
theorem dX7_scatter_109 : decode cX7_scatter 109 = .ok (.lmul, 1) := by decide +kernel
theorem dX7_scatter_110 : decode cX7_scatter 110 = .ok (.aload_n 0, 1) := by decide +kernel
theorem dX7_scatter_111 : decode cX7_scatter 111 = .ok (.iload_n 2, 1) := by decide +kernel
theorem dX7_scatter_112 : decode cX7_scatter 112 = .ok (.invokevirtual 220, 3) := by decide +kernel
theorem dX7_scatter_115 : decode cX7_scatter 115 = .ok (.lmul, 1) := by decide +kernel
theorem dX7_scatter_116 : decode cX7_scatter 116 = .ok (.aload_n 0, 1) := by decide +kernel
theorem dX7_scatter_117 : decode cX7_scatter 117 = .ok (.iload_n 2, 1) := by decide +kernel
theorem dX7_scatter_118 : decode cX7_scatter 118 = .ok (.invokevirtual 220, 3) := by decide +kernel
theorem dX7_scatter_121 : decode cX7_scatter 121 = .ok (.lmul, 1) := by decide +kernel
theorem dX7_scatter_122 : decode cX7_scatter 122 = .ok (.invokevirtual 164, 3) := by decide +kernel
theorem dX7_scatter_125 : decode cX7_scatter 125 = .ok (.aload_n 0, 1) := by decide +kernel
theorem dX7_scatter_126 : decode cX7_scatter 126 = .ok (.iload_n 3, 1) := by decide +kernel
theorem dX7_scatter_127 : decode cX7_scatter 127 = .ok (.invokevirtual 168, 3) := by decide +kernel
theorem dX7_scatter_130 : decode cX7_scatter 130 = .ok (.lreturn, 1) := by decide +kernel
theorem dX7_power_0 : decode cX7_power 0 = .ok (.lconst 1, 1) := by decide +kernel
theorem dX7_power_1 : decode cX7_power 1 = .ok (.lstore_n 3, 1) := by decide +kernel
theorem dX7_power_2 : decode cX7_power 2 = .ok (.iconst 0, 1) := by decide +kernel
theorem dX7_power_3 : decode cX7_power 3 = .ok (.istore 5, 2) := by decide +kernel
theorem dX7_power_5 : decode cX7_power 5 = .ok (.iload 5, 2) := by decide +kernel
theorem dX7_power_7 : decode cX7_power 7 = .ok (.iload_n 2, 1) := by decide +kernel
theorem dX7_power_8 : decode cX7_power 8 = .ok (.if_icmp .ge 13, 3) := by decide +kernel
theorem dX7_power_11 : decode cX7_power 11 = .ok (.lload_n 3, 1) := by decide +kernel
theorem dX7_power_12 : decode cX7_power 12 = .ok (.lload_n 0, 1) := by decide +kernel
theorem dX7_power_13 : decode cX7_power 13 = .ok (.lmul, 1) := by decide +kernel
theorem dX7_power_14 : decode cX7_power 14 = .ok (.lstore_n 3, 1) := by decide +kernel
theorem dX7_power_15 : decode cX7_power 15 = .ok (.iinc 5 1, 3) := by decide +kernel
theorem dX7_power_18 : decode cX7_power 18 = .ok (.goto (-13), 3) := by decide +kernel
theorem dX7_power_21 : decode cX7_power 21 = .ok (.lload_n 3, 1) := by decide +kernel
theorem dX7_power_22 : decode cX7_power 22 = .ok (.lreturn, 1) := by decide +kernel
theorem dX7_choose_0 : decode cX7_choose 0 = .ok (.lconst 1, 1) := by decide +kernel
theorem dX7_choose_1 : decode cX7_choose 1 = .ok (.lstore_n 2, 1) := by decide +kernel
theorem dX7_choose_2 : decode cX7_choose 2 = .ok (.iconst 1, 1) := by decide +kernel
theorem dX7_choose_3 : decode cX7_choose 3 = .ok (.istore 4, 2) := by decide +kernel
theorem dX7_choose_5 : decode cX7_choose 5 = .ok (.iload 4, 2) := by decide +kernel
theorem dX7_choose_7 : decode cX7_choose 7 = .ok (.iload_n 1, 1) := by decide +kernel
theorem dX7_choose_8 : decode cX7_choose 8 = .ok (.if_icmp .gt 23, 3) := by decide +kernel
theorem dX7_choose_11 : decode cX7_choose 11 = .ok (.lload_n 2, 1) := by decide +kernel
theorem dX7_choose_12 : decode cX7_choose 12 = .ok (.iload_n 0, 1) := by decide +kernel
theorem dX7_choose_13 : decode cX7_choose 13 = .ok (.iload_n 1, 1) := by decide +kernel
theorem dX7_choose_14 : decode cX7_choose 14 = .ok (.isub, 1) := by decide +kernel
theorem dX7_choose_15 : decode cX7_choose 15 = .ok (.iload 4, 2) := by decide +kernel
theorem dX7_choose_17 : decode cX7_choose 17 = .ok (.iadd, 1) := by decide +kernel
theorem dX7_choose_18 : decode cX7_choose 18 = .ok (.i2l, 1) := by decide +kernel
theorem dX7_choose_19 : decode cX7_choose 19 = .ok (.lmul, 1) := by decide +kernel
theorem dX7_choose_20 : decode cX7_choose 20 = .ok (.iload 4, 2) := by decide +kernel
theorem dX7_choose_22 : decode cX7_choose 22 = .ok (.i2l, 1) := by decide +kernel
theorem dX7_choose_23 : decode cX7_choose 23 = .ok (.ldiv, 1) := by decide +kernel
theorem dX7_choose_24 : decode cX7_choose 24 = .ok (.lstore_n 2, 1) := by decide +kernel
theorem dX7_choose_25 : decode cX7_choose 25 = .ok (.iinc 4 1, 3) := by decide +kernel
theorem dX7_choose_28 : decode cX7_choose 28 = .ok (.goto (-23), 3) := by decide +kernel
theorem dX7_choose_31 : decode cX7_choose 31 = .ok (.lload_n 2, 1) := by decide +kernel
theorem dX7_choose_32 : decode cX7_choose 32 = .ok (.lreturn, 1) := by decide +kernel
theorem dX7_waysOf_0 : decode cX7_waysOf 0 = .ok (.lconst 0, 1) := by decide +kernel
theorem dX7_waysOf_1 : decode cX7_waysOf 1 = .ok (.lstore 4, 2) := by decide +kernel
theorem dX7_waysOf_3 : decode cX7_waysOf 3 = .ok (.iconst 0, 1) := by decide +kernel
theorem dX7_waysOf_4 : decode cX7_waysOf 4 = .ok (.istore 6, 2) := by decide +kernel
theorem dX7_waysOf_6 : decode cX7_waysOf 6 = .ok (.iload 6, 2) := by decide +kernel
theorem dX7_waysOf_8 : decode cX7_waysOf 8 = .ok (.iload_n 2, 1) := by decide +kernel
theorem dX7_waysOf_9 : decode cX7_waysOf 9 = .ok (.if_icmp .gt 113, 3) := by decide +kernel
theorem dX7_waysOf_12 : decode cX7_waysOf 12 = .ok (.iload 6, 2) := by decide +kernel
theorem dX7_waysOf_14 : decode cX7_waysOf 14 = .ok (.iload_n 3, 1) := by decide +kernel
theorem dX7_waysOf_15 : decode cX7_waysOf 15 = .ok (.if_icmp .gt 107, 3) := by decide +kernel
theorem dX7_waysOf_18 : decode cX7_waysOf 18 = .ok (.iload_n 3, 1) := by decide +kernel
theorem dX7_waysOf_19 : decode cX7_waysOf 19 = .ok (.iload 6, 2) := by decide +kernel
theorem dX7_waysOf_21 : decode cX7_waysOf 21 = .ok (.isub, 1) := by decide +kernel
theorem dX7_waysOf_22 : decode cX7_waysOf 22 = .ok (.istore 7, 2) := by decide +kernel
theorem dX7_waysOf_24 : decode cX7_waysOf 24 = .ok (.iload 7, 2) := by decide +kernel
theorem dX7_waysOf_26 : decode cX7_waysOf 26 = .ok (.iload_n 1, 1) := by decide +kernel
theorem dX7_waysOf_27 : decode cX7_waysOf 27 = .ok (.iload_n 2, 1) := by decide +kernel
theorem dX7_waysOf_28 : decode cX7_waysOf 28 = .ok (.isub, 1) := by decide +kernel
theorem dX7_waysOf_29 : decode cX7_waysOf 29 = .ok (.if_icmp .gt 87, 3) := by decide +kernel
theorem dX7_waysOf_32 : decode cX7_waysOf 32 = .ok (.iload_n 2, 1) := by decide +kernel
theorem dX7_waysOf_33 : decode cX7_waysOf 33 = .ok (.iload 6, 2) := by decide +kernel
theorem dX7_waysOf_35 : decode cX7_waysOf 35 = .ok (.invokestatic 223, 3) := by decide +kernel
theorem dX7_waysOf_38 : decode cX7_waysOf 38 = .ok (.aload_n 0, 1) := by decide +kernel
theorem dX7_waysOf_39 : decode cX7_waysOf 39 = .ok (.getfield 226, 3) := by decide +kernel
theorem dX7_waysOf_42 : decode cX7_waysOf 42 = .ok (.iload 6, 2) := by decide +kernel
theorem dX7_waysOf_44 : decode cX7_waysOf 44 = .ok (.invokestatic 229, 3) := by decide +kernel
theorem dX7_waysOf_47 : decode cX7_waysOf 47 = .ok (.lmul, 1) := by decide +kernel
theorem dX7_waysOf_48 : decode cX7_waysOf 48 = .ok (.aload_n 0, 1) := by decide +kernel
theorem dX7_waysOf_49 : decode cX7_waysOf 49 = .ok (.getfield 233, 3) := by decide +kernel
theorem dX7_waysOf_52 : decode cX7_waysOf 52 = .ok (.aload_n 0, 1) := by decide +kernel
theorem dX7_waysOf_53 : decode cX7_waysOf 53 = .ok (.getfield 226, 3) := by decide +kernel
theorem dX7_waysOf_56 : decode cX7_waysOf 56 = .ok (.lsub, 1) := by decide +kernel
theorem dX7_waysOf_57 : decode cX7_waysOf 57 = .ok (.iload_n 2, 1) := by decide +kernel
theorem dX7_waysOf_58 : decode cX7_waysOf 58 = .ok (.iload 6, 2) := by decide +kernel
theorem dX7_waysOf_60 : decode cX7_waysOf 60 = .ok (.isub, 1) := by decide +kernel
theorem dX7_waysOf_61 : decode cX7_waysOf 61 = .ok (.invokestatic 229, 3) := by decide +kernel
theorem dX7_waysOf_64 : decode cX7_waysOf 64 = .ok (.lmul, 1) := by decide +kernel
theorem dX7_waysOf_65 : decode cX7_waysOf 65 = .ok (.lstore 8, 2) := by decide +kernel
theorem dX7_waysOf_67 : decode cX7_waysOf 67 = .ok (.iload_n 1, 1) := by decide +kernel
theorem dX7_waysOf_68 : decode cX7_waysOf 68 = .ok (.iload_n 2, 1) := by decide +kernel
theorem dX7_waysOf_69 : decode cX7_waysOf 69 = .ok (.isub, 1) := by decide +kernel
theorem dX7_waysOf_70 : decode cX7_waysOf 70 = .ok (.iload 7, 2) := by decide +kernel
theorem dX7_waysOf_72 : decode cX7_waysOf 72 = .ok (.invokestatic 223, 3) := by decide +kernel
theorem dX7_waysOf_75 : decode cX7_waysOf 75 = .ok (.aload_n 0, 1) := by decide +kernel
theorem dX7_waysOf_76 : decode cX7_waysOf 76 = .ok (.getfield 236, 3) := by decide +kernel
theorem dX7_waysOf_79 : decode cX7_waysOf 79 = .ok (.iload 7, 2) := by decide +kernel
theorem dX7_waysOf_81 : decode cX7_waysOf 81 = .ok (.invokestatic 229, 3) := by decide +kernel
theorem dX7_waysOf_84 : decode cX7_waysOf 84 = .ok (.lmul, 1) := by decide +kernel
theorem dX7_waysOf_85 : decode cX7_waysOf 85 = .ok (.aload_n 0, 1) := by decide +kernel
theorem dX7_waysOf_86 : decode cX7_waysOf 86 = .ok (.getfield 233, 3) := by decide +kernel
theorem dX7_waysOf_89 : decode cX7_waysOf 89 = .ok (.aload_n 0, 1) := by decide +kernel
theorem dX7_waysOf_90 : decode cX7_waysOf 90 = .ok (.getfield 236, 3) := by decide +kernel
theorem dX7_waysOf_93 : decode cX7_waysOf 93 = .ok (.lsub, 1) := by decide +kernel
theorem dX7_waysOf_94 : decode cX7_waysOf 94 = .ok (.iload_n 1, 1) := by decide +kernel
theorem dX7_waysOf_95 : decode cX7_waysOf 95 = .ok (.iload_n 2, 1) := by decide +kernel
theorem dX7_waysOf_96 : decode cX7_waysOf 96 = .ok (.isub, 1) := by decide +kernel
theorem dX7_waysOf_97 : decode cX7_waysOf 97 = .ok (.iload 7, 2) := by decide +kernel
theorem dX7_waysOf_99 : decode cX7_waysOf 99 = .ok (.isub, 1) := by decide +kernel
theorem dX7_waysOf_100 : decode cX7_waysOf 100 = .ok (.invokestatic 229, 3) := by decide +kernel
theorem dX7_waysOf_103 : decode cX7_waysOf 103 = .ok (.lmul, 1) := by decide +kernel
theorem dX7_waysOf_104 : decode cX7_waysOf 104 = .ok (.lstore 10, 2) := by decide +kernel
theorem dX7_waysOf_106 : decode cX7_waysOf 106 = .ok (.lload 4, 2) := by decide +kernel
theorem dX7_waysOf_108 : decode cX7_waysOf 108 = .ok (.lload 8, 2) := by decide +kernel
theorem dX7_waysOf_110 : decode cX7_waysOf 110 = .ok (.lload 10, 2) := by decide +kernel
theorem dX7_waysOf_112 : decode cX7_waysOf 112 = .ok (.lmul, 1) := by decide +kernel
theorem dX7_waysOf_113 : decode cX7_waysOf 113 = .ok (.ladd, 1) := by decide +kernel
theorem dX7_waysOf_114 : decode cX7_waysOf 114 = .ok (.lstore 4, 2) := by decide +kernel
theorem dX7_waysOf_116 : decode cX7_waysOf 116 = .ok (.iinc 6 1, 3) := by decide +kernel
theorem dX7_waysOf_119 : decode cX7_waysOf 119 = .ok (.goto (-113), 3) := by decide +kernel
theorem dX7_waysOf_122 : decode cX7_waysOf 122 = .ok (.lload 4, 2) := by decide +kernel
theorem dX7_waysOf_124 : decode cX7_waysOf 124 = .ok (.lreturn, 1) := by decide +kernel
theorem dX7_refusesWays_0 : decode cX7_refusesWays 0 = .ok (.iload_n 1, 1) := by decide +kernel
theorem dX7_refusesWays_1 : decode cX7_refusesWays 1 = .ok (.iload_n 2, 1) := by decide +kernel
theorem dX7_refusesWays_2 : decode cX7_refusesWays 2 = .ok (.invokestatic 212, 3) := by decide +kernel
theorem dX7_refusesWays_5 : decode cX7_refusesWays 5 = .ok (.ifCond .eq 7, 3) := by decide +kernel
theorem dX7_refusesWays_8 : decode cX7_refusesWays 8 = .ok (.iload_n 3, 1) := by decide +kernel
theorem dX7_refusesWays_9 : decode cX7_refusesWays 9 = .ok (.ifCond .ge 6, 3) := by decide +kernel
theorem dX7_refusesWays_12 : decode cX7_refusesWays 12 = .ok (.bipush (-2), 2) := by decide +kernel
theorem dX7_refusesWays_14 : decode cX7_refusesWays 14 = .ok (.ireturn, 1) := by decide +kernel
theorem dX7_refusesWays_15 : decode cX7_refusesWays 15 = .ok (.aload_n 0, 1) := by decide +kernel
theorem dX7_refusesWays_16 : decode cX7_refusesWays 16 = .ok (.iload_n 1, 1) := by decide +kernel
theorem dX7_refusesWays_17 : decode cX7_refusesWays 17 = .ok (.iload_n 2, 1) := by decide +kernel
theorem dX7_refusesWays_18 : decode cX7_refusesWays 18 = .ok (.invokevirtual 216, 3) := by decide +kernel
theorem dX7_refusesWays_21 : decode cX7_refusesWays 21 = .ok (.aload_n 0, 1) := by decide +kernel
theorem dX7_refusesWays_22 : decode cX7_refusesWays 22 = .ok (.iload_n 2, 1) := by decide +kernel
theorem dX7_refusesWays_23 : decode cX7_refusesWays 23 = .ok (.invokevirtual 147, 3) := by decide +kernel
theorem dX7_refusesWays_26 : decode cX7_refusesWays 26 = .ok (.iconst (-1), 1) := by decide +kernel
theorem dX7_refusesWays_27 : decode cX7_refusesWays 27 = .ok (.if_icmp .ne 11, 3) := by decide +kernel
theorem dX7_refusesWays_30 : decode cX7_refusesWays 30 = .ok (.iload_n 3, 1) := by decide +kernel
theorem dX7_refusesWays_31 : decode cX7_refusesWays 31 = .ok (.aload_n 0, 1) := by decide +kernel
theorem dX7_refusesWays_32 : decode cX7_refusesWays 32 = .ok (.getfield 206, 3) := by decide +kernel
theorem dX7_refusesWays_35 : decode cX7_refusesWays 35 = .ok (.if_icmp .le 6, 3) := by decide +kernel
theorem dX7_refusesWays_38 : decode cX7_refusesWays 38 = .ok (.bipush (-3), 2) := by decide +kernel
theorem dX7_refusesWays_40 : decode cX7_refusesWays 40 = .ok (.ireturn, 1) := by decide +kernel
theorem dX7_refusesWays_41 : decode cX7_refusesWays 41 = .ok (.aload_n 0, 1) := by decide +kernel
theorem dX7_refusesWays_42 : decode cX7_refusesWays 42 = .ok (.getfield 206, 3) := by decide +kernel
theorem dX7_refusesWays_45 : decode cX7_refusesWays 45 = .ok (.bipush 12, 2) := by decide +kernel
theorem dX7_refusesWays_47 : decode cX7_refusesWays 47 = .ok (.if_icmp .gt 13, 3) := by decide +kernel
theorem dX7_refusesWays_50 : decode cX7_refusesWays 50 = .ok (.aload_n 0, 1) := by decide +kernel
theorem dX7_refusesWays_51 : decode cX7_refusesWays 51 = .ok (.iload_n 2, 1) := by decide +kernel
theorem dX7_refusesWays_52 : decode cX7_refusesWays 52 = .ok (.invokevirtual 175, 3) := by decide +kernel
theorem dX7_refusesWays_55 : decode cX7_refusesWays 55 = .ok (.bipush 24, 2) := by decide +kernel
theorem dX7_refusesWays_57 : decode cX7_refusesWays 57 = .ok (.if_icmp .le 6, 3) := by decide +kernel
theorem dX7_refusesWays_60 : decode cX7_refusesWays 60 = .ok (.bipush (-4), 2) := by decide +kernel
theorem dX7_refusesWays_62 : decode cX7_refusesWays 62 = .ok (.ireturn, 1) := by decide +kernel
theorem dX7_refusesWays_63 : decode cX7_refusesWays 63 = .ok (.aload_n 0, 1) := by decide +kernel
theorem dX7_refusesWays_64 : decode cX7_refusesWays 64 = .ok (.aload_n 0, 1) := by decide +kernel
theorem dX7_refusesWays_65 : decode cX7_refusesWays 65 = .ok (.iload_n 2, 1) := by decide +kernel
theorem dX7_refusesWays_66 : decode cX7_refusesWays 66 = .ok (.invokevirtual 175, 3) := by decide +kernel
theorem dX7_refusesWays_69 : decode cX7_refusesWays 69 = .ok (.i2l, 1) := by decide +kernel
theorem dX7_refusesWays_70 : decode cX7_refusesWays 70 = .ok (.putfield 233, 3) := by decide +kernel
theorem dX7_refusesWays_73 : decode cX7_refusesWays 73 = .ok (.aload_n 0, 1) := by decide +kernel
theorem dX7_refusesWays_74 : decode cX7_refusesWays 74 = .ok (.aload_n 0, 1) := by decide +kernel
theorem dX7_refusesWays_75 : decode cX7_refusesWays 75 = .ok (.iload_n 2, 1) := by decide +kernel
theorem dX7_refusesWays_76 : decode cX7_refusesWays 76 = .ok (.iconst 1, 1) := by decide +kernel
theorem dX7_refusesWays_77 : decode cX7_refusesWays 77 = .ok (.invokevirtual 153, 3) := by decide +kernel
theorem dX7_refusesWays_80 : decode cX7_refusesWays 80 = .ok (.aload_n 0, 1) := by decide +kernel
theorem dX7_refusesWays_81 : decode cX7_refusesWays 81 = .ok (.getfield 233, 3) := by decide +kernel
theorem dX7_refusesWays_84 : decode cX7_refusesWays 84 = .ok (.lmul, 1) := by decide +kernel
theorem dX7_refusesWays_85 : decode cX7_refusesWays 85 = .ok (.aload_n 0, 1) := by decide +kernel
theorem dX7_refusesWays_86 : decode cX7_refusesWays 86 = .ok (.iload_n 2, 1) := by decide +kernel
theorem dX7_refusesWays_87 : decode cX7_refusesWays 87 = .ok (.invokevirtual 161, 3) := by decide +kernel
theorem dX7_refusesWays_90 : decode cX7_refusesWays 90 = .ok (.ldiv, 1) := by decide +kernel
theorem dX7_refusesWays_91 : decode cX7_refusesWays 91 = .ok (.putfield 226, 3) := by decide +kernel
theorem dX7_refusesWays_94 : decode cX7_refusesWays 94 = .ok (.aload_n 0, 1) := by decide +kernel
theorem dX7_refusesWays_95 : decode cX7_refusesWays 95 = .ok (.aload_n 0, 1) := by decide +kernel
theorem dX7_refusesWays_96 : decode cX7_refusesWays 96 = .ok (.iload_n 2, 1) := by decide +kernel
theorem dX7_refusesWays_97 : decode cX7_refusesWays 97 = .ok (.iconst 0, 1) := by decide +kernel
theorem dX7_refusesWays_98 : decode cX7_refusesWays 98 = .ok (.invokevirtual 153, 3) := by decide +kernel
theorem dX7_refusesWays_101 : decode cX7_refusesWays 101 = .ok (.aload_n 0, 1) := by decide +kernel
theorem dX7_refusesWays_102 : decode cX7_refusesWays 102 = .ok (.getfield 233, 3) := by decide +kernel
theorem dX7_refusesWays_105 : decode cX7_refusesWays 105 = .ok (.lmul, 1) := by decide +kernel
theorem dX7_refusesWays_106 : decode cX7_refusesWays 106 = .ok (.aload_n 0, 1) := by decide +kernel
theorem dX7_refusesWays_107 : decode cX7_refusesWays 107 = .ok (.iload_n 2, 1) := by decide +kernel
theorem dX7_refusesWays_108 : decode cX7_refusesWays 108 = .ok (.invokevirtual 161, 3) := by decide +kernel
theorem dX7_refusesWays_111 : decode cX7_refusesWays 111 = .ok (.ldiv, 1) := by decide +kernel
theorem dX7_refusesWays_112 : decode cX7_refusesWays 112 = .ok (.putfield 236, 3) := by decide +kernel
theorem dX7_refusesWays_115 : decode cX7_refusesWays 115 = .ok (.iconst 0, 1) := by decide +kernel
theorem dX7_refusesWays_116 : decode cX7_refusesWays 116 = .ok (.ireturn, 1) := by decide +kernel
theorem dX7_ways_0 : decode cX7_ways 0 = .ok (.aload_n 0, 1) := by decide +kernel
theorem dX7_ways_1 : decode cX7_ways 1 = .ok (.iload_n 1, 1) := by decide +kernel
theorem dX7_ways_2 : decode cX7_ways 2 = .ok (.iload_n 2, 1) := by decide +kernel
theorem dX7_ways_3 : decode cX7_ways 3 = .ok (.iload_n 3, 1) := by decide +kernel
theorem dX7_ways_4 : decode cX7_ways 4 = .ok (.invokevirtual 239, 3) := by decide +kernel
theorem dX7_ways_7 : decode cX7_ways 7 = .ok (.istore 4, 2) := by decide +kernel
theorem dX7_ways_9 : decode cX7_ways 9 = .ok (.iload 4, 2) := by decide +kernel
theorem dX7_ways_11 : decode cX7_ways 11 = .ok (.ifCond .eq 11, 3) := by decide +kernel
theorem dX7_ways_14 : decode cX7_ways 14 = .ok (.iload 4, 2) := by decide +kernel
theorem dX7_ways_16 : decode cX7_ways 16 = .ok (.invokestatic 157, 3) := by decide +kernel
theorem dX7_ways_19 : decode cX7_ways 19 = .ok (.goto 16, 3) := by decide +kernel
theorem dX7_ways_22 : decode cX7_ways 22 = .ok (.aload_n 0, 1) := by decide +kernel
theorem dX7_ways_23 : decode cX7_ways 23 = .ok (.aload_n 0, 1) := by decide +kernel
theorem dX7_ways_24 : decode cX7_ways 24 = .ok (.getfield 206, 3) := by decide +kernel
theorem dX7_ways_27 : decode cX7_ways 27 = .ok (.iload_n 3, 1) := by decide +kernel
theorem dX7_ways_28 : decode cX7_ways 28 = .ok (.aload_n 0, 1) := by decide +kernel
theorem dX7_ways_29 : decode cX7_ways 29 = .ok (.getfield 209, 3) := by decide +kernel
theorem dX7_ways_32 : decode cX7_ways 32 = .ok (.invokevirtual 242, 3) := by decide +kernel
theorem dX7_ways_35 : decode cX7_ways 35 = .ok (.lreturn, 1) := by decide +kernel
theorem dX7_likelyNow_0 : decode cX7_likelyNow 0 = .ok (.iconst 0, 1) := by decide +kernel
theorem dX7_likelyNow_1 : decode cX7_likelyNow 1 = .ok (.istore_n 1, 1) := by decide +kernel
theorem dX7_likelyNow_2 : decode cX7_likelyNow 2 = .ok (.iconst 1, 1) := by decide +kernel
theorem dX7_likelyNow_3 : decode cX7_likelyNow 3 = .ok (.istore_n 2, 1) := by decide +kernel
theorem dX7_likelyNow_4 : decode cX7_likelyNow 4 = .ok (.iload_n 2, 1) := by decide +kernel
theorem dX7_likelyNow_5 : decode cX7_likelyNow 5 = .ok (.aload_n 0, 1) := by decide +kernel
theorem dX7_likelyNow_6 : decode cX7_likelyNow 6 = .ok (.getfield 206, 3) := by decide +kernel
theorem dX7_likelyNow_9 : decode cX7_likelyNow 9 = .ok (.if_icmp .gt 45, 3) := by decide +kernel
theorem dX7_likelyNow_12 : decode cX7_likelyNow 12 = .ok (.aload_n 0, 1) := by decide +kernel
theorem dX7_likelyNow_13 : decode cX7_likelyNow 13 = .ok (.aload_n 0, 1) := by decide +kernel
theorem dX7_likelyNow_14 : decode cX7_likelyNow 14 = .ok (.getfield 206, 3) := by decide +kernel
theorem dX7_likelyNow_17 : decode cX7_likelyNow 17 = .ok (.iload_n 2, 1) := by decide +kernel
theorem dX7_likelyNow_18 : decode cX7_likelyNow 18 = .ok (.aload_n 0, 1) := by decide +kernel
theorem dX7_likelyNow_19 : decode cX7_likelyNow 19 = .ok (.getfield 209, 3) := by decide +kernel
theorem dX7_likelyNow_22 : decode cX7_likelyNow 22 = .ok (.invokevirtual 242, 3) := by decide +kernel
theorem dX7_likelyNow_25 : decode cX7_likelyNow 25 = .ok (.aload_n 0, 1) := by decide +kernel
theorem dX7_likelyNow_26 : decode cX7_likelyNow 26 = .ok (.aload_n 0, 1) := by decide +kernel
theorem dX7_likelyNow_27 : decode cX7_likelyNow 27 = .ok (.getfield 206, 3) := by decide +kernel
theorem dX7_likelyNow_30 : decode cX7_likelyNow 30 = .ok (.iload_n 1, 1) := by decide +kernel
theorem dX7_likelyNow_31 : decode cX7_likelyNow 31 = .ok (.aload_n 0, 1) := by decide +kernel
theorem dX7_likelyNow_32 : decode cX7_likelyNow 32 = .ok (.getfield 209, 3) := by decide +kernel
theorem dX7_likelyNow_35 : decode cX7_likelyNow 35 = .ok (.invokevirtual 242, 3) := by decide +kernel
theorem dX7_likelyNow_38 : decode cX7_likelyNow 38 = .ok (.lcmp, 1) := by decide +kernel
theorem dX7_likelyNow_39 : decode cX7_likelyNow 39 = .ok (.ifCond .le 7, 3) := by decide +kernel
theorem dX7_likelyNow_42 : decode cX7_likelyNow 42 = .ok (.iload_n 2, 1) := by decide +kernel
theorem dX7_likelyNow_43 : decode cX7_likelyNow 43 = .ok (.goto 4, 3) := by decide +kernel
theorem dX7_likelyNow_46 : decode cX7_likelyNow 46 = .ok (.iload_n 1, 1) := by decide +kernel
theorem dX7_likelyNow_47 : decode cX7_likelyNow 47 = .ok (.istore_n 1, 1) := by decide +kernel
theorem dX7_likelyNow_48 : decode cX7_likelyNow 48 = .ok (.iinc 2 1, 3) := by decide +kernel
theorem dX7_likelyNow_51 : decode cX7_likelyNow 51 = .ok (.goto (-47), 3) := by decide +kernel
theorem dX7_likelyNow_54 : decode cX7_likelyNow 54 = .ok (.iload_n 1, 1) := by decide +kernel
theorem dX7_likelyNow_55 : decode cX7_likelyNow 55 = .ok (.ireturn, 1) := by decide +kernel
theorem dX7_likelyOf_0 : decode cX7_likelyOf 0 = .ok (.aload_n 0, 1) := by decide +kernel
theorem dX7_likelyOf_1 : decode cX7_likelyOf 1 = .ok (.iload_n 1, 1) := by decide +kernel
theorem dX7_likelyOf_2 : decode cX7_likelyOf 2 = .ok (.iload_n 2, 1) := by decide +kernel
theorem dX7_likelyOf_3 : decode cX7_likelyOf 3 = .ok (.iconst 0, 1) := by decide +kernel
theorem dX7_likelyOf_4 : decode cX7_likelyOf 4 = .ok (.invokevirtual 239, 3) := by decide +kernel
theorem dX7_likelyOf_7 : decode cX7_likelyOf 7 = .ok (.istore_n 3, 1) := by decide +kernel
theorem dX7_likelyOf_8 : decode cX7_likelyOf 8 = .ok (.iload_n 3, 1) := by decide +kernel
theorem dX7_likelyOf_9 : decode cX7_likelyOf 9 = .ok (.ifCond .eq 7, 3) := by decide +kernel
theorem dX7_likelyOf_12 : decode cX7_likelyOf 12 = .ok (.iload_n 3, 1) := by decide +kernel
theorem dX7_likelyOf_13 : decode cX7_likelyOf 13 = .ok (.goto 7, 3) := by decide +kernel
theorem dX7_likelyOf_16 : decode cX7_likelyOf 16 = .ok (.aload_n 0, 1) := by decide +kernel
theorem dX7_likelyOf_17 : decode cX7_likelyOf 17 = .ok (.invokevirtual 245, 3) := by decide +kernel
theorem dX7_likelyOf_20 : decode cX7_likelyOf 20 = .ok (.ireturn, 1) := by decide +kernel
theorem dX7_likely_0 : decode cX7_likely 0 = .ok (.aload_n 0, 1) := by decide +kernel
theorem dX7_likely_1 : decode cX7_likely 1 = .ok (.iload_n 1, 1) := by decide +kernel
theorem dX7_likely_2 : decode cX7_likely 2 = .ok (.iload_n 2, 1) := by decide +kernel
theorem dX7_likely_3 : decode cX7_likely 3 = .ok (.invokevirtual 248, 3) := by decide +kernel
theorem dX7_likely_6 : decode cX7_likely 6 = .ok (.ireturn, 1) := by decide +kernel
theorem dX7_span_0 : decode cX7_span 0 = .ok (.iload_n 1, 1) := by decide +kernel
theorem dX7_span_1 : decode cX7_span 1 = .ok (.iload_n 2, 1) := by decide +kernel
theorem dX7_span_2 : decode cX7_span 2 = .ok (.invokestatic 212, 3) := by decide +kernel
theorem dX7_span_5 : decode cX7_span 5 = .ok (.ifCond .eq 23, 3) := by decide +kernel
theorem dX7_span_8 : decode cX7_span 8 = .ok (.iload_n 3, 1) := by decide +kernel
theorem dX7_span_9 : decode cX7_span 9 = .ok (.iconst 1, 1) := by decide +kernel
theorem dX7_span_10 : decode cX7_span 10 = .ok (.bipush 100, 2) := by decide +kernel
theorem dX7_span_12 : decode cX7_span 12 = .ok (.invokestatic 106, 3) := by decide +kernel
theorem dX7_span_15 : decode cX7_span 15 = .ok (.ifCond .eq 13, 3) := by decide +kernel
theorem dX7_span_18 : decode cX7_span 18 = .ok (.iload 4, 2) := by decide +kernel
theorem dX7_span_20 : decode cX7_span 20 = .ok (.iconst 0, 1) := by decide +kernel
theorem dX7_span_21 : decode cX7_span 21 = .ok (.iconst 1, 1) := by decide +kernel
theorem dX7_span_22 : decode cX7_span 22 = .ok (.invokestatic 106, 3) := by decide +kernel
theorem dX7_span_25 : decode cX7_span 25 = .ok (.ifCond .ne 6, 3) := by decide +kernel
theorem dX7_span_28 : decode cX7_span 28 = .ok (.bipush (-2), 2) := by decide +kernel
theorem dX7_span_30 : decode cX7_span 30 = .ok (.ireturn, 1) := by decide +kernel
theorem dX7_span_31 : decode cX7_span 31 = .ok (.aload_n 0, 1) := by decide +kernel
theorem dX7_span_32 : decode cX7_span 32 = .ok (.iload_n 1, 1) := by decide +kernel
theorem dX7_span_33 : decode cX7_span 33 = .ok (.iload_n 2, 1) := by decide +kernel
theorem dX7_span_34 : decode cX7_span 34 = .ok (.iconst 0, 1) := by decide +kernel
theorem dX7_span_35 : decode cX7_span 35 = .ok (.invokevirtual 239, 3) := by decide +kernel
theorem dX7_span_38 : decode cX7_span 38 = .ok (.istore 5, 2) := by decide +kernel
theorem dX7_span_40 : decode cX7_span 40 = .ok (.iload 5, 2) := by decide +kernel
theorem dX7_span_42 : decode cX7_span 42 = .ok (.ifCond .eq 6, 3) := by decide +kernel
theorem dX7_span_45 : decode cX7_span 45 = .ok (.iload 5, 2) := by decide +kernel
theorem dX7_span_47 : decode cX7_span 47 = .ok (.ireturn, 1) := by decide +kernel
theorem dX7_span_48 : decode cX7_span 48 = .ok (.aload_n 0, 1) := by decide +kernel
theorem dX7_span_49 : decode cX7_span 49 = .ok (.aload_n 0, 1) := by decide +kernel
theorem dX7_span_50 : decode cX7_span 50 = .ok (.getfield 206, 3) := by decide +kernel
theorem dX7_span_53 : decode cX7_span 53 = .ok (.aload_n 0, 1) := by decide +kernel
theorem dX7_span_54 : decode cX7_span 54 = .ok (.invokevirtual 245, 3) := by decide +kernel
theorem dX7_span_57 : decode cX7_span 57 = .ok (.aload_n 0, 1) := by decide +kernel
theorem dX7_span_58 : decode cX7_span 58 = .ok (.getfield 209, 3) := by decide +kernel
theorem dX7_span_61 : decode cX7_span 61 = .ok (.invokevirtual 242, 3) := by decide +kernel
theorem dX7_span_64 : decode cX7_span 64 = .ok (.lstore 6, 2) := by decide +kernel
theorem dX7_span_66 : decode cX7_span 66 = .ok (.iconst (-1), 1) := by decide +kernel
theorem dX7_span_67 : decode cX7_span 67 = .ok (.istore 8, 2) := by decide +kernel
theorem dX7_span_69 : decode cX7_span 69 = .ok (.iconst 0, 1) := by decide +kernel
theorem dX7_span_70 : decode cX7_span 70 = .ok (.istore 9, 2) := by decide +kernel
theorem dX7_span_72 : decode cX7_span 72 = .ok (.iload 9, 2) := by decide +kernel
theorem dX7_span_74 : decode cX7_span 74 = .ok (.aload_n 0, 1) := by decide +kernel
theorem dX7_span_75 : decode cX7_span 75 = .ok (.getfield 206, 3) := by decide +kernel
theorem dX7_span_78 : decode cX7_span 78 = .ok (.if_icmp .gt 69, 3) := by decide +kernel
theorem dX7_span_81 : decode cX7_span 81 = .ok (.ldc2_w 251, 3) := by decide +kernel
theorem dX7_span_84 : decode cX7_span 84 = .ok (.aload_n 0, 1) := by decide +kernel
theorem dX7_span_85 : decode cX7_span 85 = .ok (.aload_n 0, 1) := by decide +kernel
theorem dX7_span_86 : decode cX7_span 86 = .ok (.getfield 206, 3) := by decide +kernel
theorem dX7_span_89 : decode cX7_span 89 = .ok (.iload 9, 2) := by decide +kernel
theorem dX7_span_91 : decode cX7_span 91 = .ok (.aload_n 0, 1) := by decide +kernel
theorem dX7_span_92 : decode cX7_span 92 = .ok (.getfield 209, 3) := by decide +kernel
theorem dX7_span_95 : decode cX7_span 95 = .ok (.invokevirtual 242, 3) := by decide +kernel
theorem dX7_span_98 : decode cX7_span 98 = .ok (.lmul, 1) := by decide +kernel
theorem dX7_span_99 : decode cX7_span 99 = .ok (.iload_n 3, 1) := by decide +kernel
theorem dX7_span_100 : decode cX7_span 100 = .ok (.i2l, 1) := by decide +kernel
theorem dX7_span_101 : decode cX7_span 101 = .ok (.lload 6, 2) := by decide +kernel
theorem dX7_span_103 : decode cX7_span 103 = .ok (.lmul, 1) := by decide +kernel
theorem dX7_span_104 : decode cX7_span 104 = .ok (.lcmp, 1) := by decide +kernel
theorem dX7_span_105 : decode cX7_span 105 = .ok (.ifCond .lt 7, 3) := by decide +kernel
theorem dX7_span_108 : decode cX7_span 108 = .ok (.iconst 1, 1) := by decide +kernel
theorem dX7_span_109 : decode cX7_span 109 = .ok (.goto 4, 3) := by decide +kernel
theorem dX7_span_112 : decode cX7_span 112 = .ok (.iconst 0, 1) := by decide +kernel
theorem dX7_span_113 : decode cX7_span 113 = .ok (.istore 10, 2) := by decide +kernel
theorem dX7_span_115 : decode cX7_span 115 = .ok (.iload 10, 2) := by decide +kernel

theorem dX11_isIn_0 : decode cX11_isIn 0 = .ok (.lload_n 0, 1) := by decide +kernel
theorem dX11_isIn_1 : decode cX11_isIn 1 = .ok (.lload_n 2, 1) := by decide +kernel
theorem dX11_isIn_2 : decode cX11_isIn 2 = .ok (.lcmp, 1) := by decide +kernel
theorem dX11_isIn_3 : decode cX11_isIn 3 = .ok (.ifCond .lt 14, 3) := by decide +kernel
theorem dX11_isIn_6 : decode cX11_isIn 6 = .ok (.lload_n 0, 1) := by decide +kernel
theorem dX11_isIn_7 : decode cX11_isIn 7 = .ok (.lload 4, 2) := by decide +kernel
theorem dX11_isIn_9 : decode cX11_isIn 9 = .ok (.lcmp, 1) := by decide +kernel
theorem dX11_isIn_10 : decode cX11_isIn 10 = .ok (.ifCond .gt 7, 3) := by decide +kernel
theorem dX11_isIn_13 : decode cX11_isIn 13 = .ok (.iconst 1, 1) := by decide +kernel
theorem dX11_isIn_14 : decode cX11_isIn 14 = .ok (.goto 4, 3) := by decide +kernel
theorem dX11_isIn_17 : decode cX11_isIn 17 = .ok (.iconst 0, 1) := by decide +kernel
theorem dX11_isIn_18 : decode cX11_isIn 18 = .ok (.ireturn, 1) := by decide +kernel
theorem dX11_one_0 : decode cX11_one 0 = .ok (.iload_n 0, 1) := by decide +kernel
theorem dX11_one_1 : decode cX11_one 1 = .ok (.ifCond .eq 7, 3) := by decide +kernel
theorem dX11_one_4 : decode cX11_one 4 = .ok (.iconst 1, 1) := by decide +kernel
theorem dX11_one_5 : decode cX11_one 5 = .ok (.goto 4, 3) := by decide +kernel
theorem dX11_one_8 : decode cX11_one 8 = .ok (.iconst 0, 1) := by decide +kernel
theorem dX11_one_9 : decode cX11_one 9 = .ok (.ireturn, 1) := by decide +kernel
theorem dX11_init_0 : decode cX11_init 0 = .ok (.aload_n 0, 1) := by decide +kernel
theorem dX11_init_1 : decode cX11_init 1 = .ok (.invokespecial 3, 3) := by decide +kernel
theorem dX11_init_4 : decode cX11_init 4 = .ok (.aload_n 0, 1) := by decide +kernel
theorem dX11_init_5 : decode cX11_init 5 = .ok (.sipush 210, 3) := by decide +kernel
theorem dX11_init_8 : decode cX11_init 8 = .ok (.newarray .long, 2) := by decide +kernel
theorem dX11_init_10 : decode cX11_init 10 = .ok (.putfield 9, 3) := by decide +kernel
theorem dX11_init_13 : decode cX11_init 13 = .ok (.aload_n 0, 1) := by decide +kernel
theorem dX11_init_14 : decode cX11_init 14 = .ok (.sipush 1680, 3) := by decide +kernel
theorem dX11_init_17 : decode cX11_init 17 = .ok (.newarray .long, 2) := by decide +kernel
theorem dX11_init_19 : decode cX11_init 19 = .ok (.putfield 15, 3) := by decide +kernel
theorem dX11_init_22 : decode cX11_init 22 = .ok (.aload_n 0, 1) := by decide +kernel
theorem dX11_init_23 : decode cX11_init 23 = .ok (.bipush 24, 2) := by decide +kernel
theorem dX11_init_25 : decode cX11_init 25 = .ok (.newarray .long, 2) := by decide +kernel
theorem dX11_init_27 : decode cX11_init 27 = .ok (.putfield 18, 3) := by decide +kernel
theorem dX11_init_30 : decode cX11_init 30 = .ok (.aload_n 0, 1) := by decide +kernel
theorem dX11_init_31 : decode cX11_init 31 = .ok (.sipush 294, 3) := by decide +kernel
theorem dX11_init_34 : decode cX11_init 34 = .ok (.newarray .int, 2) := by decide +kernel
theorem dX11_init_36 : decode cX11_init 36 = .ok (.putfield 21, 3) := by decide +kernel
theorem dX11_init_39 : decode cX11_init 39 = .ok (.aload_n 0, 1) := by decide +kernel
theorem dX11_init_40 : decode cX11_init 40 = .ok (.sipush 128, 3) := by decide +kernel
theorem dX11_init_43 : decode cX11_init 43 = .ok (.newarray .int, 2) := by decide +kernel
theorem dX11_init_45 : decode cX11_init 45 = .ok (.putfield 25, 3) := by decide +kernel
theorem dX11_init_48 : decode cX11_init 48 = .ok (.aload_n 0, 1) := by decide +kernel
theorem dX11_init_49 : decode cX11_init 49 = .ok (.bipush 8, 2) := by decide +kernel
theorem dX11_init_51 : decode cX11_init 51 = .ok (.newarray .int, 2) := by decide +kernel
theorem dX11_init_53 : decode cX11_init 53 = .ok (.putfield 28, 3) := by decide +kernel
theorem dX11_init_56 : decode cX11_init 56 = .ok (.aload_n 0, 1) := by decide +kernel
theorem dX11_init_57 : decode cX11_init 57 = .ok (.bipush 6, 2) := by decide +kernel
theorem dX11_init_59 : decode cX11_init 59 = .ok (.newarray .int, 2) := by decide +kernel
theorem dX11_init_61 : decode cX11_init 61 = .ok (.putfield 31, 3) := by decide +kernel
theorem dX11_init_64 : decode cX11_init 64 = .ok (.aload_n 0, 1) := by decide +kernel
theorem dX11_init_65 : decode cX11_init 65 = .ok (.sipush 1400, 3) := by decide +kernel
theorem dX11_init_68 : decode cX11_init 68 = .ok (.newarray .long, 2) := by decide +kernel
theorem dX11_init_70 : decode cX11_init 70 = .ok (.putfield 34, 3) := by decide +kernel
theorem dX11_init_73 : decode cX11_init 73 = .ok (.aload_n 0, 1) := by decide +kernel
theorem dX11_init_74 : decode cX11_init 74 = .ok (.sipush 1400, 3) := by decide +kernel
theorem dX11_init_77 : decode cX11_init 77 = .ok (.newarray .int, 2) := by decide +kernel
theorem dX11_init_79 : decode cX11_init 79 = .ok (.putfield 37, 3) := by decide +kernel
theorem dX11_init_82 : decode cX11_init 82 = .ok (.aload_n 0, 1) := by decide +kernel
theorem dX11_init_83 : decode cX11_init 83 = .ok (.sipush 700, 3) := by decide +kernel
theorem dX11_init_86 : decode cX11_init 86 = .ok (.newarray .int, 2) := by decide +kernel
theorem dX11_init_88 : decode cX11_init 88 = .ok (.putfield 40, 3) := by decide +kernel
theorem dX11_init_91 : decode cX11_init 91 = .ok (.aload_n 0, 1) := by decide +kernel
theorem dX11_init_92 : decode cX11_init 92 = .ok (.iconst (-1), 1) := by decide +kernel
theorem dX11_init_93 : decode cX11_init 93 = .ok (.putfield 43, 3) := by decide +kernel
theorem dX11_init_96 : decode cX11_init 96 = .ok (.aload_n 0, 1) := by decide +kernel
theorem dX11_init_97 : decode cX11_init 97 = .ok (.sipush 700, 3) := by decide +kernel
theorem dX11_init_100 : decode cX11_init 100 = .ok (.newarray .long, 2) := by decide +kernel
theorem dX11_init_102 : decode cX11_init 102 = .ok (.putfield 47, 3) := by decide +kernel
theorem dX11_init_105 : decode cX11_init 105 = .ok (.aload_n 0, 1) := by decide +kernel
theorem dX11_init_106 : decode cX11_init 106 = .ok (.iconst 4, 1) := by decide +kernel
theorem dX11_init_107 : decode cX11_init 107 = .ok (.newarray .long, 2) := by decide +kernel
theorem dX11_init_109 : decode cX11_init 109 = .ok (.putfield 50, 3) := by decide +kernel
theorem dX11_init_112 : decode cX11_init 112 = .ok (.aload_n 0, 1) := by decide +kernel
theorem dX11_init_113 : decode cX11_init 113 = .ok (.iconst (-1), 1) := by decide +kernel
theorem dX11_init_114 : decode cX11_init 114 = .ok (.putfield 53, 3) := by decide +kernel
theorem dX11_init_117 : decode cX11_init 117 = .ok (.aload_n 0, 1) := by decide +kernel
theorem dX11_init_118 : decode cX11_init 118 = .ok (.bipush 12, 2) := by decide +kernel
theorem dX11_init_120 : decode cX11_init 120 = .ok (.newarray .long, 2) := by decide +kernel
theorem dX11_init_122 : decode cX11_init 122 = .ok (.putfield 56, 3) := by decide +kernel
theorem dX11_init_125 : decode cX11_init 125 = .ok (.aload_n 0, 1) := by decide +kernel
theorem dX11_init_126 : decode cX11_init 126 = .ok (.bipush 12, 2) := by decide +kernel
theorem dX11_init_128 : decode cX11_init 128 = .ok (.newarray .long, 2) := by decide +kernel
theorem dX11_init_130 : decode cX11_init 130 = .ok (.putfield 59, 3) := by decide +kernel
theorem dX11_init_133 : decode cX11_init 133 = .ok (.aload_n 0, 1) := by decide +kernel
theorem dX11_init_134 : decode cX11_init 134 = .ok (.bipush 12, 2) := by decide +kernel
theorem dX11_init_136 : decode cX11_init 136 = .ok (.newarray .long, 2) := by decide +kernel
theorem dX11_init_138 : decode cX11_init 138 = .ok (.putfield 62, 3) := by decide +kernel
theorem dX11_init_141 : decode cX11_init 141 = .ok (.aload_n 0, 1) := by decide +kernel
theorem dX11_init_142 : decode cX11_init 142 = .ok (.bipush 12, 2) := by decide +kernel
theorem dX11_init_144 : decode cX11_init 144 = .ok (.newarray .boolean, 2) := by decide +kernel
theorem dX11_init_146 : decode cX11_init 146 = .ok (.putfield 65, 3) := by decide +kernel
theorem dX11_init_149 : decode cX11_init 149 = .ok (.aload_n 0, 1) := by decide +kernel
theorem dX11_init_150 : decode cX11_init 150 = .ok (.bipush 72, 2) := by decide +kernel
theorem dX11_init_152 : decode cX11_init 152 = .ok (.newarray .long, 2) := by decide +kernel
theorem dX11_init_154 : decode cX11_init 154 = .ok (.putfield 69, 3) := by decide +kernel
theorem dX11_init_157 : decode cX11_init 157 = .ok (.aload_n 0, 1) := by decide +kernel
theorem dX11_init_158 : decode cX11_init 158 = .ok (.bipush 12, 2) := by decide +kernel
theorem dX11_init_160 : decode cX11_init 160 = .ok (.newarray .long, 2) := by decide +kernel
theorem dX11_init_162 : decode cX11_init 162 = .ok (.putfield 72, 3) := by decide +kernel
theorem dX11_init_165 : decode cX11_init 165 = .ok (.aload_n 0, 1) := by decide +kernel
theorem dX11_init_166 : decode cX11_init 166 = .ok (.bipush 11, 2) := by decide +kernel
theorem dX11_init_168 : decode cX11_init 168 = .ok (.newarray .long, 2) := by decide +kernel
theorem dX11_init_170 : decode cX11_init 170 = .ok (.putfield 75, 3) := by decide +kernel
theorem dX11_init_173 : decode cX11_init 173 = .ok (.aload_n 0, 1) := by decide +kernel
theorem dX11_init_174 : decode cX11_init 174 = .ok (.bipush 12, 2) := by decide +kernel
theorem dX11_init_176 : decode cX11_init 176 = .ok (.newarray .boolean, 2) := by decide +kernel
theorem dX11_init_178 : decode cX11_init 178 = .ok (.putfield 78, 3) := by decide +kernel
theorem dX11_init_181 : decode cX11_init 181 = .ok (.aload_n 0, 1) := by decide +kernel
theorem dX11_init_182 : decode cX11_init 182 = .ok (.invokevirtual 81, 3) := by decide +kernel
theorem dX11_init_185 : decode cX11_init 185 = .ok (.aload_n 0, 1) := by decide +kernel
theorem dX11_init_186 : decode cX11_init 186 = .ok (.invokevirtual 84, 3) := by decide +kernel
theorem dX11_init_189 : decode cX11_init 189 = .ok (.return_, 1) := by decide +kernel
theorem dX11_keeps_0 : decode cX11_keeps 0 = .ok (.aload_n 0, 1) := by decide +kernel
theorem dX11_keeps_1 : decode cX11_keeps 1 = .ok (.getfield 87, 3) := by decide +kernel
theorem dX11_keeps_4 : decode cX11_keeps 4 = .ok (.bipush 8, 2) := by decide +kernel
theorem dX11_keeps_6 : decode cX11_keeps 6 = .ok (.if_icmp .ne 44, 3) := by decide +kernel
theorem dX11_keeps_9 : decode cX11_keeps 9 = .ok (.iconst 0, 1) := by decide +kernel
theorem dX11_keeps_10 : decode cX11_keeps 10 = .ok (.istore_n 1, 1) := by decide +kernel
theorem dX11_keeps_11 : decode cX11_keeps 11 = .ok (.iload_n 1, 1) := by decide +kernel
theorem dX11_keeps_12 : decode cX11_keeps 12 = .ok (.sipush 1470, 3) := by decide +kernel
theorem dX11_keeps_15 : decode cX11_keeps 15 = .ok (.if_icmp .ge 25, 3) := by decide +kernel
theorem dX11_keeps_18 : decode cX11_keeps 18 = .ok (.aload_n 0, 1) := by decide +kernel
theorem dX11_keeps_19 : decode cX11_keeps 19 = .ok (.getfield 15, 3) := by decide +kernel
theorem dX11_keeps_22 : decode cX11_keeps 22 = .ok (.iload_n 1, 1) := by decide +kernel
theorem dX11_keeps_23 : decode cX11_keeps 23 = .ok (.aload_n 0, 1) := by decide +kernel
theorem dX11_keeps_24 : decode cX11_keeps 24 = .ok (.getfield 15, 3) := by decide +kernel
theorem dX11_keeps_27 : decode cX11_keeps 27 = .ok (.iload_n 1, 1) := by decide +kernel
theorem dX11_keeps_28 : decode cX11_keeps 28 = .ok (.sipush 210, 3) := by decide +kernel
theorem dX11_keeps_31 : decode cX11_keeps 31 = .ok (.iadd, 1) := by decide +kernel
theorem dX11_keeps_32 : decode cX11_keeps 32 = .ok (.laload, 1) := by decide +kernel
theorem dX11_keeps_33 : decode cX11_keeps 33 = .ok (.lastore, 1) := by decide +kernel
theorem dX11_keeps_34 : decode cX11_keeps 34 = .ok (.iinc 1 1, 3) := by decide +kernel
theorem dX11_keeps_37 : decode cX11_keeps 37 = .ok (.goto (-26), 3) := by decide +kernel
theorem dX11_keeps_40 : decode cX11_keeps 40 = .ok (.aload_n 0, 1) := by decide +kernel
theorem dX11_keeps_41 : decode cX11_keeps 41 = .ok (.dup, 1) := by decide +kernel
theorem dX11_keeps_42 : decode cX11_keeps 42 = .ok (.getfield 87, 3) := by decide +kernel
theorem dX11_keeps_45 : decode cX11_keeps 45 = .ok (.iconst 1, 1) := by decide +kernel
theorem dX11_keeps_46 : decode cX11_keeps 46 = .ok (.isub, 1) := by decide +kernel
theorem dX11_keeps_47 : decode cX11_keeps 47 = .ok (.putfield 87, 3) := by decide +kernel
theorem dX11_keeps_50 : decode cX11_keeps 50 = .ok (.iconst 0, 1) := by decide +kernel
theorem dX11_keeps_51 : decode cX11_keeps 51 = .ok (.istore_n 1, 1) := by decide +kernel
theorem dX11_keeps_52 : decode cX11_keeps 52 = .ok (.iload_n 1, 1) := by decide +kernel
theorem dX11_keeps_53 : decode cX11_keeps 53 = .ok (.sipush 210, 3) := by decide +kernel
theorem dX11_keeps_56 : decode cX11_keeps 56 = .ok (.if_icmp .ge 30, 3) := by decide +kernel
theorem dX11_keeps_59 : decode cX11_keeps 59 = .ok (.aload_n 0, 1) := by decide +kernel
theorem dX11_keeps_60 : decode cX11_keeps 60 = .ok (.getfield 15, 3) := by decide +kernel
theorem dX11_keeps_63 : decode cX11_keeps 63 = .ok (.sipush 210, 3) := by decide +kernel
theorem dX11_keeps_66 : decode cX11_keeps 66 = .ok (.aload_n 0, 1) := by decide +kernel
theorem dX11_keeps_67 : decode cX11_keeps 67 = .ok (.getfield 87, 3) := by decide +kernel
theorem dX11_keeps_70 : decode cX11_keeps 70 = .ok (.imul, 1) := by decide +kernel
theorem dX11_keeps_71 : decode cX11_keeps 71 = .ok (.iload_n 1, 1) := by decide +kernel
theorem dX11_keeps_72 : decode cX11_keeps 72 = .ok (.iadd, 1) := by decide +kernel
theorem dX11_keeps_73 : decode cX11_keeps 73 = .ok (.aload_n 0, 1) := by decide +kernel
theorem dX11_keeps_74 : decode cX11_keeps 74 = .ok (.getfield 9, 3) := by decide +kernel
theorem dX11_keeps_77 : decode cX11_keeps 77 = .ok (.iload_n 1, 1) := by decide +kernel
theorem dX11_keeps_78 : decode cX11_keeps 78 = .ok (.laload, 1) := by decide +kernel
theorem dX11_keeps_79 : decode cX11_keeps 79 = .ok (.lastore, 1) := by decide +kernel
theorem dX11_keeps_80 : decode cX11_keeps 80 = .ok (.iinc 1 1, 3) := by decide +kernel
theorem dX11_keeps_83 : decode cX11_keeps 83 = .ok (.goto (-31), 3) := by decide +kernel
theorem dX11_keeps_86 : decode cX11_keeps 86 = .ok (.aload_n 0, 1) := by decide +kernel
theorem dX11_keeps_87 : decode cX11_keeps 87 = .ok (.dup, 1) := by decide +kernel
theorem dX11_keeps_88 : decode cX11_keeps 88 = .ok (.getfield 87, 3) := by decide +kernel
theorem dX11_keeps_91 : decode cX11_keeps 91 = .ok (.iconst 1, 1) := by decide +kernel
theorem dX11_keeps_92 : decode cX11_keeps 92 = .ok (.iadd, 1) := by decide +kernel
theorem dX11_keeps_93 : decode cX11_keeps 93 = .ok (.putfield 87, 3) := by decide +kernel
theorem dX11_keeps_96 : decode cX11_keeps 96 = .ok (.return_, 1) := by decide +kernel
theorem dX11_undo_0 : decode cX11_undo 0 = .ok (.aload_n 0, 1) := by decide +kernel
theorem dX11_undo_1 : decode cX11_undo 1 = .ok (.getfield 87, 3) := by decide +kernel
theorem dX11_undo_4 : decode cX11_undo 4 = .ok (.ifCond .ne 5, 3) := by decide +kernel
theorem dX11_undo_7 : decode cX11_undo 7 = .ok (.iconst 0, 1) := by decide +kernel
theorem dX11_undo_8 : decode cX11_undo 8 = .ok (.ireturn, 1) := by decide +kernel
theorem dX11_undo_9 : decode cX11_undo 9 = .ok (.aload_n 0, 1) := by decide +kernel
theorem dX11_undo_10 : decode cX11_undo 10 = .ok (.dup, 1) := by decide +kernel
theorem dX11_undo_11 : decode cX11_undo 11 = .ok (.getfield 87, 3) := by decide +kernel
theorem dX11_undo_14 : decode cX11_undo 14 = .ok (.iconst 1, 1) := by decide +kernel
theorem dX11_undo_15 : decode cX11_undo 15 = .ok (.isub, 1) := by decide +kernel
theorem dX11_undo_16 : decode cX11_undo 16 = .ok (.putfield 87, 3) := by decide +kernel
theorem dX11_undo_19 : decode cX11_undo 19 = .ok (.iconst 0, 1) := by decide +kernel
theorem dX11_undo_20 : decode cX11_undo 20 = .ok (.istore_n 1, 1) := by decide +kernel
theorem dX11_undo_21 : decode cX11_undo 21 = .ok (.iload_n 1, 1) := by decide +kernel
theorem dX11_undo_22 : decode cX11_undo 22 = .ok (.sipush 210, 3) := by decide +kernel
theorem dX11_undo_25 : decode cX11_undo 25 = .ok (.if_icmp .ge 30, 3) := by decide +kernel
theorem dX11_undo_28 : decode cX11_undo 28 = .ok (.aload_n 0, 1) := by decide +kernel
theorem dX11_undo_29 : decode cX11_undo 29 = .ok (.getfield 9, 3) := by decide +kernel
theorem dX11_undo_32 : decode cX11_undo 32 = .ok (.iload_n 1, 1) := by decide +kernel
theorem dX11_undo_33 : decode cX11_undo 33 = .ok (.aload_n 0, 1) := by decide +kernel
theorem dX11_undo_34 : decode cX11_undo 34 = .ok (.getfield 15, 3) := by decide +kernel
theorem dX11_undo_37 : decode cX11_undo 37 = .ok (.sipush 210, 3) := by decide +kernel
theorem dX11_undo_40 : decode cX11_undo 40 = .ok (.aload_n 0, 1) := by decide +kernel
theorem dX11_undo_41 : decode cX11_undo 41 = .ok (.getfield 87, 3) := by decide +kernel
theorem dX11_undo_44 : decode cX11_undo 44 = .ok (.imul, 1) := by decide +kernel
theorem dX11_undo_45 : decode cX11_undo 45 = .ok (.iload_n 1, 1) := by decide +kernel
theorem dX11_undo_46 : decode cX11_undo 46 = .ok (.iadd, 1) := by decide +kernel
theorem dX11_undo_47 : decode cX11_undo 47 = .ok (.laload, 1) := by decide +kernel
theorem dX11_undo_48 : decode cX11_undo 48 = .ok (.lastore, 1) := by decide +kernel
theorem dX11_undo_49 : decode cX11_undo 49 = .ok (.iinc 1 1, 3) := by decide +kernel
theorem dX11_undo_52 : decode cX11_undo 52 = .ok (.goto (-31), 3) := by decide +kernel
theorem dX11_undo_55 : decode cX11_undo 55 = .ok (.iconst 1, 1) := by decide +kernel
theorem dX11_undo_56 : decode cX11_undo 56 = .ok (.ireturn, 1) := by decide +kernel
theorem dX11_plain_0 : decode cX11_plain 0 = .ok (.bipush 64, 2) := by decide +kernel
theorem dX11_plain_2 : decode cX11_plain 2 = .ok (.istore_n 1, 1) := by decide +kernel
theorem dX11_plain_3 : decode cX11_plain 3 = .ok (.iload_n 1, 1) := by decide +kernel
theorem dX11_plain_4 : decode cX11_plain 4 = .ok (.sipush 128, 3) := by decide +kernel
theorem dX11_plain_7 : decode cX11_plain 7 = .ok (.if_icmp .ge 16, 3) := by decide +kernel
theorem dX11_plain_10 : decode cX11_plain 10 = .ok (.aload_n 0, 1) := by decide +kernel
theorem dX11_plain_11 : decode cX11_plain 11 = .ok (.getfield 25, 3) := by decide +kernel
theorem dX11_plain_14 : decode cX11_plain 14 = .ok (.iload_n 1, 1) := by decide +kernel
theorem dX11_plain_15 : decode cX11_plain 15 = .ok (.iconst 1, 1) := by decide +kernel
theorem dX11_plain_16 : decode cX11_plain 16 = .ok (.iastore, 1) := by decide +kernel
theorem dX11_plain_17 : decode cX11_plain 17 = .ok (.iinc 1 1, 3) := by decide +kernel
theorem dX11_plain_20 : decode cX11_plain 20 = .ok (.goto (-17), 3) := by decide +kernel
theorem dX11_plain_23 : decode cX11_plain 23 = .ok (.iconst 4, 1) := by decide +kernel
theorem dX11_plain_24 : decode cX11_plain 24 = .ok (.istore_n 1, 1) := by decide +kernel
theorem dX11_plain_25 : decode cX11_plain 25 = .ok (.iload_n 1, 1) := by decide +kernel
theorem dX11_plain_26 : decode cX11_plain 26 = .ok (.bipush 8, 2) := by decide +kernel
theorem dX11_plain_28 : decode cX11_plain 28 = .ok (.if_icmp .ge 17, 3) := by decide +kernel
theorem dX11_plain_31 : decode cX11_plain 31 = .ok (.aload_n 0, 1) := by decide +kernel
theorem dX11_plain_32 : decode cX11_plain 32 = .ok (.getfield 28, 3) := by decide +kernel
theorem dX11_plain_35 : decode cX11_plain 35 = .ok (.iload_n 1, 1) := by decide +kernel
theorem dX11_plain_36 : decode cX11_plain 36 = .ok (.bipush 100, 2) := by decide +kernel
theorem dX11_plain_38 : decode cX11_plain 38 = .ok (.iastore, 1) := by decide +kernel
theorem dX11_plain_39 : decode cX11_plain 39 = .ok (.iinc 1 1, 3) := by decide +kernel
theorem dX11_plain_42 : decode cX11_plain 42 = .ok (.goto (-17), 3) := by decide +kernel
theorem dX11_plain_45 : decode cX11_plain 45 = .ok (.aload_n 0, 1) := by decide +kernel
theorem dX11_plain_46 : decode cX11_plain 46 = .ok (.getfield 31, 3) := by decide +kernel
theorem dX11_plain_49 : decode cX11_plain 49 = .ok (.iconst 3, 1) := by decide +kernel
theorem dX11_plain_50 : decode cX11_plain 50 = .ok (.ldc 90, 2) := by decide +kernel
theorem dX11_plain_52 : decode cX11_plain 52 = .ok (.iastore, 1) := by decide +kernel
theorem dX11_plain_53 : decode cX11_plain 53 = .ok (.aload_n 0, 1) := by decide +kernel
theorem dX11_plain_54 : decode cX11_plain 54 = .ok (.getfield 31, 3) := by decide +kernel
theorem dX11_plain_57 : decode cX11_plain 57 = .ok (.iconst 4, 1) := by decide +kernel
theorem dX11_plain_58 : decode cX11_plain 58 = .ok (.iconst 0, 1) := by decide +kernel
theorem dX11_plain_59 : decode cX11_plain 59 = .ok (.iastore, 1) := by decide +kernel
theorem dX11_plain_60 : decode cX11_plain 60 = .ok (.aload_n 0, 1) := by decide +kernel
theorem dX11_plain_61 : decode cX11_plain 61 = .ok (.getfield 31, 3) := by decide +kernel
theorem dX11_plain_64 : decode cX11_plain 64 = .ok (.iconst 5, 1) := by decide +kernel
theorem dX11_plain_65 : decode cX11_plain 65 = .ok (.bipush 100, 2) := by decide +kernel
theorem dX11_plain_67 : decode cX11_plain 67 = .ok (.iastore, 1) := by decide +kernel
theorem dX11_plain_68 : decode cX11_plain 68 = .ok (.aload_n 0, 1) := by decide +kernel
theorem dX11_plain_69 : decode cX11_plain 69 = .ok (.iconst 0, 1) := by decide +kernel
theorem dX11_plain_70 : decode cX11_plain 70 = .ok (.putfield 91, 3) := by decide +kernel
theorem dX11_plain_73 : decode cX11_plain 73 = .ok (.aload_n 0, 1) := by decide +kernel
theorem dX11_plain_74 : decode cX11_plain 74 = .ok (.iconst 0, 1) := by decide +kernel
theorem dX11_plain_75 : decode cX11_plain 75 = .ok (.putfield 94, 3) := by decide +kernel
theorem dX11_plain_78 : decode cX11_plain 78 = .ok (.aload_n 0, 1) := by decide +kernel
theorem dX11_plain_79 : decode cX11_plain 79 = .ok (.iconst 0, 1) := by decide +kernel
theorem dX11_plain_80 : decode cX11_plain 80 = .ok (.putfield 97, 3) := by decide +kernel
theorem dX11_plain_83 : decode cX11_plain 83 = .ok (.aload_n 0, 1) := by decide +kernel
theorem dX11_plain_84 : decode cX11_plain 84 = .ok (.bipush 10, 2) := by decide +kernel
theorem dX11_plain_86 : decode cX11_plain 86 = .ok (.putfield 100, 3) := by decide +kernel
theorem dX11_plain_89 : decode cX11_plain 89 = .ok (.aload_n 0, 1) := by decide +kernel
theorem dX11_plain_90 : decode cX11_plain 90 = .ok (.iconst 0, 1) := by decide +kernel
theorem dX11_plain_91 : decode cX11_plain 91 = .ok (.putfield 103, 3) := by decide +kernel
theorem dX11_plain_94 : decode cX11_plain 94 = .ok (.aload_n 0, 1) := by decide +kernel
theorem dX11_plain_95 : decode cX11_plain 95 = .ok (.iconst 4, 1) := by decide +kernel
theorem dX11_plain_96 : decode cX11_plain 96 = .ok (.putfield 106, 3) := by decide +kernel
theorem dX11_plain_99 : decode cX11_plain 99 = .ok (.aload_n 0, 1) := by decide +kernel
theorem dX11_plain_100 : decode cX11_plain 100 = .ok (.bipush 10, 2) := by decide +kernel
theorem dX11_plain_102 : decode cX11_plain 102 = .ok (.putfield 109, 3) := by decide +kernel
theorem dX11_plain_105 : decode cX11_plain 105 = .ok (.aload_n 0, 1) := by decide +kernel
theorem dX11_plain_106 : decode cX11_plain 106 = .ok (.iconst 0, 1) := by decide +kernel
theorem dX11_plain_107 : decode cX11_plain 107 = .ok (.putfield 112, 3) := by decide +kernel
theorem dX11_plain_110 : decode cX11_plain 110 = .ok (.return_, 1) := by decide +kernel
theorem dX11_takesOver_0 : decode cX11_takesOver 0 = .ok (.iconst 0, 1) := by decide +kernel
theorem dX11_takesOver_1 : decode cX11_takesOver 1 = .ok (.istore_n 1, 1) := by decide +kernel
theorem dX11_takesOver_2 : decode cX11_takesOver 2 = .ok (.iload_n 1, 1) := by decide +kernel
theorem dX11_takesOver_3 : decode cX11_takesOver 3 = .ok (.bipush 64, 2) := by decide +kernel
theorem dX11_takesOver_5 : decode cX11_takesOver 5 = .ok (.if_icmp .ge 24, 3) := by decide +kernel
theorem dX11_takesOver_8 : decode cX11_takesOver 8 = .ok (.aload_n 0, 1) := by decide +kernel
theorem dX11_takesOver_9 : decode cX11_takesOver 9 = .ok (.getfield 25, 3) := by decide +kernel
theorem dX11_takesOver_12 : decode cX11_takesOver 12 = .ok (.iload_n 1, 1) := by decide +kernel
theorem dX11_takesOver_13 : decode cX11_takesOver 13 = .ok (.aload_n 0, 1) := by decide +kernel
theorem dX11_takesOver_14 : decode cX11_takesOver 14 = .ok (.getfield 25, 3) := by decide +kernel
theorem dX11_takesOver_17 : decode cX11_takesOver 17 = .ok (.bipush 64, 2) := by decide +kernel
theorem dX11_takesOver_19 : decode cX11_takesOver 19 = .ok (.iload_n 1, 1) := by decide +kernel
theorem dX11_takesOver_20 : decode cX11_takesOver 20 = .ok (.iadd, 1) := by decide +kernel
theorem dX11_takesOver_21 : decode cX11_takesOver 21 = .ok (.iaload, 1) := by decide +kernel
theorem dX11_takesOver_22 : decode cX11_takesOver 22 = .ok (.iastore, 1) := by decide +kernel
theorem dX11_takesOver_23 : decode cX11_takesOver 23 = .ok (.iinc 1 1, 3) := by decide +kernel
theorem dX11_takesOver_26 : decode cX11_takesOver 26 = .ok (.goto (-24), 3) := by decide +kernel
theorem dX11_takesOver_29 : decode cX11_takesOver 29 = .ok (.iconst 0, 1) := by decide +kernel
theorem dX11_takesOver_30 : decode cX11_takesOver 30 = .ok (.istore_n 1, 1) := by decide +kernel
theorem dX11_takesOver_31 : decode cX11_takesOver 31 = .ok (.iload_n 1, 1) := by decide +kernel
theorem dX11_takesOver_32 : decode cX11_takesOver 32 = .ok (.iconst 4, 1) := by decide +kernel
theorem dX11_takesOver_33 : decode cX11_takesOver 33 = .ok (.if_icmp .ge 23, 3) := by decide +kernel
theorem dX11_takesOver_36 : decode cX11_takesOver 36 = .ok (.aload_n 0, 1) := by decide +kernel
theorem dX11_takesOver_37 : decode cX11_takesOver 37 = .ok (.getfield 28, 3) := by decide +kernel
theorem dX11_takesOver_40 : decode cX11_takesOver 40 = .ok (.iload_n 1, 1) := by decide +kernel
theorem dX11_takesOver_41 : decode cX11_takesOver 41 = .ok (.aload_n 0, 1) := by decide +kernel
theorem dX11_takesOver_42 : decode cX11_takesOver 42 = .ok (.getfield 28, 3) := by decide +kernel
theorem dX11_takesOver_45 : decode cX11_takesOver 45 = .ok (.iconst 4, 1) := by decide +kernel
theorem dX11_takesOver_46 : decode cX11_takesOver 46 = .ok (.iload_n 1, 1) := by decide +kernel
theorem dX11_takesOver_47 : decode cX11_takesOver 47 = .ok (.iadd, 1) := by decide +kernel
theorem dX11_takesOver_48 : decode cX11_takesOver 48 = .ok (.iaload, 1) := by decide +kernel
theorem dX11_takesOver_49 : decode cX11_takesOver 49 = .ok (.iastore, 1) := by decide +kernel
theorem dX11_takesOver_50 : decode cX11_takesOver 50 = .ok (.iinc 1 1, 3) := by decide +kernel
theorem dX11_takesOver_53 : decode cX11_takesOver 53 = .ok (.goto (-22), 3) := by decide +kernel
theorem dX11_takesOver_56 : decode cX11_takesOver 56 = .ok (.iconst 0, 1) := by decide +kernel
theorem dX11_takesOver_57 : decode cX11_takesOver 57 = .ok (.istore_n 1, 1) := by decide +kernel
theorem dX11_takesOver_58 : decode cX11_takesOver 58 = .ok (.iload_n 1, 1) := by decide +kernel
theorem dX11_takesOver_59 : decode cX11_takesOver 59 = .ok (.iconst 3, 1) := by decide +kernel
theorem dX11_takesOver_60 : decode cX11_takesOver 60 = .ok (.if_icmp .ge 23, 3) := by decide +kernel
theorem dX11_takesOver_63 : decode cX11_takesOver 63 = .ok (.aload_n 0, 1) := by decide +kernel
theorem dX11_takesOver_64 : decode cX11_takesOver 64 = .ok (.getfield 31, 3) := by decide +kernel
theorem dX11_takesOver_67 : decode cX11_takesOver 67 = .ok (.iload_n 1, 1) := by decide +kernel
theorem dX11_takesOver_68 : decode cX11_takesOver 68 = .ok (.aload_n 0, 1) := by decide +kernel
theorem dX11_takesOver_69 : decode cX11_takesOver 69 = .ok (.getfield 31, 3) := by decide +kernel
theorem dX11_takesOver_72 : decode cX11_takesOver 72 = .ok (.iconst 3, 1) := by decide +kernel
theorem dX11_takesOver_73 : decode cX11_takesOver 73 = .ok (.iload_n 1, 1) := by decide +kernel
theorem dX11_takesOver_74 : decode cX11_takesOver 74 = .ok (.iadd, 1) := by decide +kernel
theorem dX11_takesOver_75 : decode cX11_takesOver 75 = .ok (.iaload, 1) := by decide +kernel
theorem dX11_takesOver_76 : decode cX11_takesOver 76 = .ok (.iastore, 1) := by decide +kernel
theorem dX11_takesOver_77 : decode cX11_takesOver 77 = .ok (.iinc 1 1, 3) := by decide +kernel
theorem dX11_takesOver_80 : decode cX11_takesOver 80 = .ok (.goto (-22), 3) := by decide +kernel
theorem dX11_takesOver_83 : decode cX11_takesOver 83 = .ok (.iconst 0, 1) := by decide +kernel
theorem dX11_takesOver_84 : decode cX11_takesOver 84 = .ok (.istore_n 1, 1) := by decide +kernel
theorem dX11_takesOver_85 : decode cX11_takesOver 85 = .ok (.iload_n 1, 1) := by decide +kernel
theorem dX11_takesOver_86 : decode cX11_takesOver 86 = .ok (.aload_n 0, 1) := by decide +kernel
theorem dX11_takesOver_87 : decode cX11_takesOver 87 = .ok (.getfield 91, 3) := by decide +kernel
theorem dX11_takesOver_90 : decode cX11_takesOver 90 = .ok (.if_icmp .ge 41, 3) := by decide +kernel
theorem dX11_takesOver_93 : decode cX11_takesOver 93 = .ok (.aload_n 0, 1) := by decide +kernel
theorem dX11_takesOver_94 : decode cX11_takesOver 94 = .ok (.getfield 34, 3) := by decide +kernel
theorem dX11_takesOver_97 : decode cX11_takesOver 97 = .ok (.iload_n 1, 1) := by decide +kernel
theorem dX11_takesOver_98 : decode cX11_takesOver 98 = .ok (.aload_n 0, 1) := by decide +kernel
theorem dX11_takesOver_99 : decode cX11_takesOver 99 = .ok (.getfield 34, 3) := by decide +kernel
theorem dX11_takesOver_102 : decode cX11_takesOver 102 = .ok (.sipush 700, 3) := by decide +kernel
theorem dX11_takesOver_105 : decode cX11_takesOver 105 = .ok (.iload_n 1, 1) := by decide +kernel
theorem dX11_takesOver_106 : decode cX11_takesOver 106 = .ok (.iadd, 1) := by decide +kernel
theorem dX11_takesOver_107 : decode cX11_takesOver 107 = .ok (.laload, 1) := by decide +kernel
theorem dX11_takesOver_108 : decode cX11_takesOver 108 = .ok (.lastore, 1) := by decide +kernel
theorem dX11_takesOver_109 : decode cX11_takesOver 109 = .ok (.aload_n 0, 1) := by decide +kernel
theorem dX11_takesOver_110 : decode cX11_takesOver 110 = .ok (.getfield 37, 3) := by decide +kernel
theorem dX11_takesOver_113 : decode cX11_takesOver 113 = .ok (.iload_n 1, 1) := by decide +kernel
theorem dX11_takesOver_114 : decode cX11_takesOver 114 = .ok (.aload_n 0, 1) := by decide +kernel
theorem dX11_takesOver_115 : decode cX11_takesOver 115 = .ok (.getfield 37, 3) := by decide +kernel
theorem dX11_takesOver_118 : decode cX11_takesOver 118 = .ok (.sipush 700, 3) := by decide +kernel
theorem dX11_takesOver_121 : decode cX11_takesOver 121 = .ok (.iload_n 1, 1) := by decide +kernel
theorem dX11_takesOver_122 : decode cX11_takesOver 122 = .ok (.iadd, 1) := by decide +kernel
theorem dX11_takesOver_123 : decode cX11_takesOver 123 = .ok (.iaload, 1) := by decide +kernel
theorem dX11_takesOver_124 : decode cX11_takesOver 124 = .ok (.iastore, 1) := by decide +kernel
theorem dX11_takesOver_125 : decode cX11_takesOver 125 = .ok (.iinc 1 1, 3) := by decide +kernel
theorem dX11_takesOver_128 : decode cX11_takesOver 128 = .ok (.goto (-43), 3) := by decide +kernel
theorem dX11_takesOver_131 : decode cX11_takesOver 131 = .ok (.aload_n 0, 1) := by decide +kernel
theorem dX11_takesOver_132 : decode cX11_takesOver 132 = .ok (.aload_n 0, 1) := by decide +kernel
theorem dX11_takesOver_133 : decode cX11_takesOver 133 = .ok (.getfield 91, 3) := by decide +kernel
theorem dX11_takesOver_136 : decode cX11_takesOver 136 = .ok (.putfield 116, 3) := by decide +kernel
theorem dX11_takesOver_139 : decode cX11_takesOver 139 = .ok (.iconst 0, 1) := by decide +kernel
theorem dX11_takesOver_140 : decode cX11_takesOver 140 = .ok (.istore_n 1, 1) := by decide +kernel
theorem dX11_takesOver_141 : decode cX11_takesOver 141 = .ok (.iload_n 1, 1) := by decide +kernel
theorem dX11_takesOver_142 : decode cX11_takesOver 142 = .ok (.bipush 12, 2) := by decide +kernel
theorem dX11_takesOver_144 : decode cX11_takesOver 144 = .ok (.if_icmp .ge 24, 3) := by decide +kernel
theorem dX11_takesOver_147 : decode cX11_takesOver 147 = .ok (.aload_n 0, 1) := by decide +kernel
theorem dX11_takesOver_148 : decode cX11_takesOver 148 = .ok (.getfield 18, 3) := by decide +kernel
theorem dX11_takesOver_151 : decode cX11_takesOver 151 = .ok (.iload_n 1, 1) := by decide +kernel
theorem dX11_takesOver_152 : decode cX11_takesOver 152 = .ok (.aload_n 0, 1) := by decide +kernel
theorem dX11_takesOver_153 : decode cX11_takesOver 153 = .ok (.getfield 18, 3) := by decide +kernel
theorem dX11_takesOver_156 : decode cX11_takesOver 156 = .ok (.bipush 12, 2) := by decide +kernel
theorem dX11_takesOver_158 : decode cX11_takesOver 158 = .ok (.iload_n 1, 1) := by decide +kernel
theorem dX11_takesOver_159 : decode cX11_takesOver 159 = .ok (.iadd, 1) := by decide +kernel
theorem dX11_takesOver_160 : decode cX11_takesOver 160 = .ok (.laload, 1) := by decide +kernel
theorem dX11_takesOver_161 : decode cX11_takesOver 161 = .ok (.lastore, 1) := by decide +kernel
theorem dX11_takesOver_162 : decode cX11_takesOver 162 = .ok (.iinc 1 1, 3) := by decide +kernel
theorem dX11_takesOver_165 : decode cX11_takesOver 165 = .ok (.goto (-24), 3) := by decide +kernel
theorem dX11_takesOver_168 : decode cX11_takesOver 168 = .ok (.iconst 0, 1) := by decide +kernel
theorem dX11_takesOver_169 : decode cX11_takesOver 169 = .ok (.istore_n 1, 1) := by decide +kernel
theorem dX11_takesOver_170 : decode cX11_takesOver 170 = .ok (.iload_n 1, 1) := by decide +kernel
theorem dX11_takesOver_171 : decode cX11_takesOver 171 = .ok (.sipush 144, 3) := by decide +kernel
theorem dX11_takesOver_174 : decode cX11_takesOver 174 = .ok (.if_icmp .ge 25, 3) := by decide +kernel
theorem dX11_takesOver_177 : decode cX11_takesOver 177 = .ok (.aload_n 0, 1) := by decide +kernel
theorem dX11_takesOver_178 : decode cX11_takesOver 178 = .ok (.getfield 21, 3) := by decide +kernel
theorem dX11_takesOver_181 : decode cX11_takesOver 181 = .ok (.iload_n 1, 1) := by decide +kernel
theorem dX11_takesOver_182 : decode cX11_takesOver 182 = .ok (.aload_n 0, 1) := by decide +kernel
theorem dX11_takesOver_183 : decode cX11_takesOver 183 = .ok (.getfield 21, 3) := by decide +kernel
theorem dX11_takesOver_186 : decode cX11_takesOver 186 = .ok (.sipush 144, 3) := by decide +kernel
theorem dX11_takesOver_189 : decode cX11_takesOver 189 = .ok (.iload_n 1, 1) := by decide +kernel
theorem dX11_takesOver_190 : decode cX11_takesOver 190 = .ok (.iadd, 1) := by decide +kernel
theorem dX11_takesOver_191 : decode cX11_takesOver 191 = .ok (.iaload, 1) := by decide +kernel
theorem dX11_takesOver_192 : decode cX11_takesOver 192 = .ok (.iastore, 1) := by decide +kernel
theorem dX11_takesOver_193 : decode cX11_takesOver 193 = .ok (.iinc 1 1, 3) := by decide +kernel
theorem dX11_takesOver_196 : decode cX11_takesOver 196 = .ok (.goto (-26), 3) := by decide +kernel
theorem dX11_takesOver_199 : decode cX11_takesOver 199 = .ok (.iconst 0, 1) := by decide +kernel
theorem dX11_takesOver_200 : decode cX11_takesOver 200 = .ok (.istore_n 1, 1) := by decide +kernel
theorem dX11_takesOver_201 : decode cX11_takesOver 201 = .ok (.iload_n 1, 1) := by decide +kernel
theorem dX11_takesOver_202 : decode cX11_takesOver 202 = .ok (.sipush 210, 3) := by decide +kernel
theorem dX11_takesOver_205 : decode cX11_takesOver 205 = .ok (.if_icmp .ge 16, 3) := by decide +kernel
theorem dX11_takesOver_208 : decode cX11_takesOver 208 = .ok (.aload_n 0, 1) := by decide +kernel
theorem dX11_takesOver_209 : decode cX11_takesOver 209 = .ok (.getfield 9, 3) := by decide +kernel
theorem dX11_takesOver_212 : decode cX11_takesOver 212 = .ok (.iload_n 1, 1) := by decide +kernel
theorem dX11_takesOver_213 : decode cX11_takesOver 213 = .ok (.lconst 0, 1) := by decide +kernel
theorem dX11_takesOver_214 : decode cX11_takesOver 214 = .ok (.lastore, 1) := by decide +kernel
theorem dX11_takesOver_215 : decode cX11_takesOver 215 = .ok (.iinc 1 1, 3) := by decide +kernel
theorem dX11_takesOver_218 : decode cX11_takesOver 218 = .ok (.goto (-17), 3) := by decide +kernel
theorem dX11_takesOver_221 : decode cX11_takesOver 221 = .ok (.aload_n 0, 1) := by decide +kernel
theorem dX11_takesOver_222 : decode cX11_takesOver 222 = .ok (.getfield 9, 3) := by decide +kernel
theorem dX11_takesOver_225 : decode cX11_takesOver 225 = .ok (.iconst 0, 1) := by decide +kernel
theorem dX11_takesOver_226 : decode cX11_takesOver 226 = .ok (.aload_n 0, 1) := by decide +kernel
theorem dX11_takesOver_227 : decode cX11_takesOver 227 = .ok (.getfield 100, 3) := by decide +kernel
theorem dX11_takesOver_230 : decode cX11_takesOver 230 = .ok (.i2l, 1) := by decide +kernel
theorem dX11_takesOver_231 : decode cX11_takesOver 231 = .ok (.lastore, 1) := by decide +kernel
theorem dX11_takesOver_232 : decode cX11_takesOver 232 = .ok (.aload_n 0, 1) := by decide +kernel
theorem dX11_takesOver_233 : decode cX11_takesOver 233 = .ok (.getfield 9, 3) := by decide +kernel
theorem dX11_takesOver_236 : decode cX11_takesOver 236 = .ok (.iconst 1, 1) := by decide +kernel
theorem dX11_takesOver_237 : decode cX11_takesOver 237 = .ok (.aload_n 0, 1) := by decide +kernel
theorem dX11_takesOver_238 : decode cX11_takesOver 238 = .ok (.getfield 103, 3) := by decide +kernel
theorem dX11_takesOver_241 : decode cX11_takesOver 241 = .ok (.i2l, 1) := by decide +kernel
theorem dX11_takesOver_242 : decode cX11_takesOver 242 = .ok (.lastore, 1) := by decide +kernel
theorem dX11_takesOver_243 : decode cX11_takesOver 243 = .ok (.aload_n 0, 1) := by decide +kernel
theorem dX11_takesOver_244 : decode cX11_takesOver 244 = .ok (.getfield 9, 3) := by decide +kernel
theorem dX11_takesOver_247 : decode cX11_takesOver 247 = .ok (.iconst 2, 1) := by decide +kernel
theorem dX11_takesOver_248 : decode cX11_takesOver 248 = .ok (.aload_n 0, 1) := by decide +kernel
theorem dX11_takesOver_249 : decode cX11_takesOver 249 = .ok (.getfield 106, 3) := by decide +kernel
theorem dX11_takesOver_252 : decode cX11_takesOver 252 = .ok (.i2l, 1) := by decide +kernel
theorem dX11_takesOver_253 : decode cX11_takesOver 253 = .ok (.lastore, 1) := by decide +kernel
theorem dX11_takesOver_254 : decode cX11_takesOver 254 = .ok (.aload_n 0, 1) := by decide +kernel
theorem dX11_takesOver_255 : decode cX11_takesOver 255 = .ok (.getfield 9, 3) := by decide +kernel
theorem dX11_takesOver_258 : decode cX11_takesOver 258 = .ok (.iconst 3, 1) := by decide +kernel
theorem dX11_takesOver_259 : decode cX11_takesOver 259 = .ok (.aload_n 0, 1) := by decide +kernel
theorem dX11_takesOver_260 : decode cX11_takesOver 260 = .ok (.getfield 109, 3) := by decide +kernel
theorem dX11_takesOver_263 : decode cX11_takesOver 263 = .ok (.i2l, 1) := by decide +kernel
theorem dX11_takesOver_264 : decode cX11_takesOver 264 = .ok (.lastore, 1) := by decide +kernel
theorem dX11_takesOver_265 : decode cX11_takesOver 265 = .ok (.aload_n 0, 1) := by decide +kernel
theorem dX11_takesOver_266 : decode cX11_takesOver 266 = .ok (.getfield 9, 3) := by decide +kernel
theorem dX11_takesOver_269 : decode cX11_takesOver 269 = .ok (.iconst 5, 1) := by decide +kernel
theorem dX11_takesOver_270 : decode cX11_takesOver 270 = .ok (.aload_n 0, 1) := by decide +kernel
theorem dX11_takesOver_271 : decode cX11_takesOver 271 = .ok (.getfield 94, 3) := by decide +kernel
theorem dX11_takesOver_274 : decode cX11_takesOver 274 = .ok (.i2l, 1) := by decide +kernel
theorem dX11_takesOver_275 : decode cX11_takesOver 275 = .ok (.lastore, 1) := by decide +kernel
theorem dX11_takesOver_276 : decode cX11_takesOver 276 = .ok (.aload_n 0, 1) := by decide +kernel
theorem dX11_takesOver_277 : decode cX11_takesOver 277 = .ok (.getfield 9, 3) := by decide +kernel
theorem dX11_takesOver_280 : decode cX11_takesOver 280 = .ok (.bipush 6, 2) := by decide +kernel
theorem dX11_takesOver_282 : decode cX11_takesOver 282 = .ok (.aload_n 0, 1) := by decide +kernel
theorem dX11_takesOver_283 : decode cX11_takesOver 283 = .ok (.getfield 97, 3) := by decide +kernel
theorem dX11_takesOver_286 : decode cX11_takesOver 286 = .ok (.i2l, 1) := by decide +kernel
theorem dX11_takesOver_287 : decode cX11_takesOver 287 = .ok (.lastore, 1) := by decide +kernel
theorem dX11_takesOver_288 : decode cX11_takesOver 288 = .ok (.iconst 0, 1) := by decide +kernel
theorem dX11_takesOver_289 : decode cX11_takesOver 289 = .ok (.istore_n 1, 1) := by decide +kernel
theorem dX11_takesOver_290 : decode cX11_takesOver 290 = .ok (.iload_n 1, 1) := by decide +kernel
theorem dX11_takesOver_291 : decode cX11_takesOver 291 = .ok (.aload_n 0, 1) := by decide +kernel
theorem dX11_takesOver_292 : decode cX11_takesOver 292 = .ok (.getfield 94, 3) := by decide +kernel
theorem dX11_takesOver_295 : decode cX11_takesOver 295 = .ok (.if_icmp .ge 19, 3) := by decide +kernel
theorem dX11_takesOver_298 : decode cX11_takesOver 298 = .ok (.aload_n 0, 1) := by decide +kernel
theorem dX11_takesOver_299 : decode cX11_takesOver 299 = .ok (.getfield 9, 3) := by decide +kernel
theorem dX11_takesOver_302 : decode cX11_takesOver 302 = .ok (.bipush 10, 2) := by decide +kernel
theorem dX11_takesOver_304 : decode cX11_takesOver 304 = .ok (.iload_n 1, 1) := by decide +kernel
theorem dX11_takesOver_305 : decode cX11_takesOver 305 = .ok (.iadd, 1) := by decide +kernel
theorem dX11_takesOver_306 : decode cX11_takesOver 306 = .ok (.lconst 1, 1) := by decide +kernel
theorem dX11_takesOver_307 : decode cX11_takesOver 307 = .ok (.lastore, 1) := by decide +kernel
theorem dX11_takesOver_308 : decode cX11_takesOver 308 = .ok (.iinc 1 1, 3) := by decide +kernel
theorem dX11_takesOver_311 : decode cX11_takesOver 311 = .ok (.goto (-21), 3) := by decide +kernel
theorem dX11_takesOver_314 : decode cX11_takesOver 314 = .ok (.aload_n 0, 1) := by decide +kernel
theorem dX11_takesOver_315 : decode cX11_takesOver 315 = .ok (.iconst 0, 1) := by decide +kernel
theorem dX11_takesOver_316 : decode cX11_takesOver 316 = .ok (.putfield 87, 3) := by decide +kernel
theorem dX11_takesOver_319 : decode cX11_takesOver 319 = .ok (.return_, 1) := by decide +kernel
theorem dX11_four_0 : decode cX11_four 0 = .ok (.bipush 24, 2) := by decide +kernel
theorem dX11_four_2 : decode cX11_four 2 = .ok (.istore_n 2, 1) := by decide +kernel
theorem dX11_four_3 : decode cX11_four 3 = .ok (.iload_n 2, 1) := by decide +kernel
theorem dX11_four_4 : decode cX11_four 4 = .ok (.ifCond .lt 35, 3) := by decide +kernel
theorem dX11_four_7 : decode cX11_four 7 = .ok (.aload_n 0, 1) := by decide +kernel
theorem dX11_four_8 : decode cX11_four 8 = .ok (.getfield 40, 3) := by decide +kernel
theorem dX11_four_11 : decode cX11_four 11 = .ok (.aload_n 0, 1) := by decide +kernel
theorem dX11_four_12 : decode cX11_four 12 = .ok (.getfield 119, 3) := by decide +kernel
theorem dX11_four_15 : decode cX11_four 15 = .ok (.iload_n 1, 1) := by decide +kernel
theorem dX11_four_16 : decode cX11_four 16 = .ok (.iload_n 2, 1) := by decide +kernel
theorem dX11_four_17 : decode cX11_four 17 = .ok (.ishr, 1) := by decide +kernel
theorem dX11_four_18 : decode cX11_four 18 = .ok (.sipush 255, 3) := by decide +kernel
theorem dX11_four_21 : decode cX11_four 21 = .ok (.iand, 1) := by decide +kernel
theorem dX11_four_22 : decode cX11_four 22 = .ok (.iastore, 1) := by decide +kernel
theorem dX11_four_23 : decode cX11_four 23 = .ok (.aload_n 0, 1) := by decide +kernel
theorem dX11_four_24 : decode cX11_four 24 = .ok (.dup, 1) := by decide +kernel
theorem dX11_four_25 : decode cX11_four 25 = .ok (.getfield 119, 3) := by decide +kernel
theorem dX11_four_28 : decode cX11_four 28 = .ok (.iconst 1, 1) := by decide +kernel
theorem dX11_four_29 : decode cX11_four 29 = .ok (.iadd, 1) := by decide +kernel
theorem dX11_four_30 : decode cX11_four 30 = .ok (.putfield 119, 3) := by decide +kernel
theorem dX11_four_33 : decode cX11_four 33 = .ok (.iinc 2 (-8), 3) := by decide +kernel
theorem dX11_four_36 : decode cX11_four 36 = .ok (.goto (-33), 3) := by decide +kernel
theorem dX11_four_39 : decode cX11_four 39 = .ok (.return_, 1) := by decide +kernel
theorem dX11_feed_0 : decode cX11_feed 0 = .ok (.aload_n 0, 1) := by decide +kernel
theorem dX11_feed_1 : decode cX11_feed 1 = .ok (.getfield 119, 3) := by decide +kernel
theorem dX11_feed_4 : decode cX11_feed 4 = .ok (.bipush 20, 2) := by decide +kernel
theorem dX11_feed_6 : decode cX11_feed 6 = .ok (.iadd, 1) := by decide +kernel
theorem dX11_feed_7 : decode cX11_feed 7 = .ok (.sipush 700, 3) := by decide +kernel
theorem dX11_feed_10 : decode cX11_feed 10 = .ok (.if_icmp .le 5, 3) := by decide +kernel
theorem dX11_feed_13 : decode cX11_feed 13 = .ok (.iconst (-1), 1) := by decide +kernel
theorem dX11_feed_14 : decode cX11_feed 14 = .ok (.ireturn, 1) := by decide +kernel
theorem dX11_feed_15 : decode cX11_feed 15 = .ok (.aload_n 0, 1) := by decide +kernel
theorem dX11_feed_16 : decode cX11_feed 16 = .ok (.iload_n 1, 1) := by decide +kernel
theorem dX11_feed_17 : decode cX11_feed 17 = .ok (.invokevirtual 122, 3) := by decide +kernel
theorem dX11_feed_20 : decode cX11_feed 20 = .ok (.aload_n 0, 1) := by decide +kernel
theorem dX11_feed_21 : decode cX11_feed 21 = .ok (.iload_n 2, 1) := by decide +kernel
theorem dX11_feed_22 : decode cX11_feed 22 = .ok (.invokevirtual 122, 3) := by decide +kernel
theorem dX11_feed_25 : decode cX11_feed 25 = .ok (.aload_n 0, 1) := by decide +kernel
theorem dX11_feed_26 : decode cX11_feed 26 = .ok (.iload_n 3, 1) := by decide +kernel
theorem dX11_feed_27 : decode cX11_feed 27 = .ok (.invokevirtual 122, 3) := by decide +kernel
theorem dX11_feed_30 : decode cX11_feed 30 = .ok (.aload_n 0, 1) := by decide +kernel
theorem dX11_feed_31 : decode cX11_feed 31 = .ok (.iload 4, 2) := by decide +kernel
theorem dX11_feed_33 : decode cX11_feed 33 = .ok (.invokevirtual 122, 3) := by decide +kernel
theorem dX11_feed_36 : decode cX11_feed 36 = .ok (.aload_n 0, 1) := by decide +kernel
theorem dX11_feed_37 : decode cX11_feed 37 = .ok (.iload 5, 2) := by decide +kernel
theorem dX11_feed_39 : decode cX11_feed 39 = .ok (.invokevirtual 122, 3) := by decide +kernel
theorem dX11_feed_42 : decode cX11_feed 42 = .ok (.aload_n 0, 1) := by decide +kernel
theorem dX11_feed_43 : decode cX11_feed 43 = .ok (.getfield 119, 3) := by decide +kernel
theorem dX11_feed_46 : decode cX11_feed 46 = .ok (.ireturn, 1) := by decide +kernel
theorem dX11_end_0 : decode cX11_end 0 = .ok (.iload_n 1, 1) := by decide +kernel
theorem dX11_end_1 : decode cX11_end 1 = .ok (.i2l, 1) := by decide +kernel
theorem dX11_end_2 : decode cX11_end 2 = .ok (.lconst 0, 1) := by decide +kernel
theorem dX11_end_3 : decode cX11_end 3 = .ok (.aload_n 0, 1) := by decide +kernel
theorem dX11_end_4 : decode cX11_end 4 = .ok (.getfield 119, 3) := by decide +kernel
theorem dX11_end_7 : decode cX11_end 7 = .ok (.i2l, 1) := by decide +kernel
theorem dX11_end_8 : decode cX11_end 8 = .ok (.invokestatic 126, 3) := by decide +kernel
theorem dX11_end_11 : decode cX11_end 11 = .ok (.ifCond .ne 5, 3) := by decide +kernel
theorem dX11_end_14 : decode cX11_end 14 = .ok (.iconst 0, 1) := by decide +kernel
theorem dX11_end_15 : decode cX11_end 15 = .ok (.ireturn, 1) := by decide +kernel
theorem dX11_end_16 : decode cX11_end 16 = .ok (.aload_n 0, 1) := by decide +kernel
theorem dX11_end_17 : decode cX11_end 17 = .ok (.iload_n 1, 1) := by decide +kernel
theorem dX11_end_18 : decode cX11_end 18 = .ok (.putfield 119, 3) := by decide +kernel
theorem dX11_end_21 : decode cX11_end 21 = .ok (.iconst 1, 1) := by decide +kernel
theorem dX11_end_22 : decode cX11_end 22 = .ok (.ireturn, 1) := by decide +kernel
theorem dX11_see_0 : decode cX11_see 0 = .ok (.iload_n 1, 1) := by decide +kernel
theorem dX11_see_1 : decode cX11_see 1 = .ok (.aload_n 0, 1) := by decide +kernel
theorem dX11_see_2 : decode cX11_see 2 = .ok (.getfield 119, 3) := by decide +kernel
theorem dX11_see_5 : decode cX11_see 5 = .ok (.if_icmp .ge 12, 3) := by decide +kernel
theorem dX11_see_8 : decode cX11_see 8 = .ok (.aload_n 0, 1) := by decide +kernel
theorem dX11_see_9 : decode cX11_see 9 = .ok (.getfield 40, 3) := by decide +kernel
theorem dX11_see_12 : decode cX11_see 12 = .ok (.iload_n 1, 1) := by decide +kernel
theorem dX11_see_13 : decode cX11_see 13 = .ok (.iaload, 1) := by decide +kernel
theorem dX11_see_14 : decode cX11_see 14 = .ok (.goto 4, 3) := by decide +kernel
theorem dX11_see_17 : decode cX11_see 17 = .ok (.iconst (-1), 1) := by decide +kernel
theorem dX11_see_18 : decode cX11_see 18 = .ok (.ireturn, 1) := by decide +kernel
theorem dX11_next_0 : decode cX11_next 0 = .ok (.aload_n 0, 1) := by decide +kernel
theorem dX11_next_1 : decode cX11_next 1 = .ok (.aload_n 0, 1) := by decide +kernel
theorem dX11_next_2 : decode cX11_next 2 = .ok (.getfield 130, 3) := by decide +kernel
theorem dX11_next_5 : decode cX11_next 5 = .ok (.invokevirtual 133, 3) := by decide +kernel
theorem dX11_next_8 : decode cX11_next 8 = .ok (.bipush 32, 2) := by decide +kernel
theorem dX11_next_10 : decode cX11_next 10 = .ok (.if_icmp .eq 16, 3) := by decide +kernel
theorem dX11_next_13 : decode cX11_next 13 = .ok (.aload_n 0, 1) := by decide +kernel
theorem dX11_next_14 : decode cX11_next 14 = .ok (.aload_n 0, 1) := by decide +kernel
theorem dX11_next_15 : decode cX11_next 15 = .ok (.getfield 130, 3) := by decide +kernel
theorem dX11_next_18 : decode cX11_next 18 = .ok (.invokevirtual 133, 3) := by decide +kernel
theorem dX11_next_21 : decode cX11_next 21 = .ok (.bipush 10, 2) := by decide +kernel
theorem dX11_next_23 : decode cX11_next 23 = .ok (.if_icmp .ne 16, 3) := by decide +kernel
theorem dX11_next_26 : decode cX11_next 26 = .ok (.aload_n 0, 1) := by decide +kernel
theorem dX11_next_27 : decode cX11_next 27 = .ok (.dup, 1) := by decide +kernel
theorem dX11_next_28 : decode cX11_next 28 = .ok (.getfield 130, 3) := by decide +kernel
theorem dX11_next_31 : decode cX11_next 31 = .ok (.iconst 1, 1) := by decide +kernel
theorem dX11_next_32 : decode cX11_next 32 = .ok (.iadd, 1) := by decide +kernel
theorem dX11_next_33 : decode cX11_next 33 = .ok (.putfield 130, 3) := by decide +kernel
theorem dX11_next_36 : decode cX11_next 36 = .ok (.goto (-36), 3) := by decide +kernel
theorem dX11_next_39 : decode cX11_next 39 = .ok (.aload_n 0, 1) := by decide +kernel
theorem dX11_next_40 : decode cX11_next 40 = .ok (.aload_n 0, 1) := by decide +kernel
theorem dX11_next_41 : decode cX11_next 41 = .ok (.getfield 130, 3) := by decide +kernel
theorem dX11_next_44 : decode cX11_next 44 = .ok (.putfield 137, 3) := by decide +kernel
theorem dX11_next_47 : decode cX11_next 47 = .ok (.aload_n 0, 1) := by decide +kernel
theorem dX11_next_48 : decode cX11_next 48 = .ok (.aload_n 0, 1) := by decide +kernel
theorem dX11_next_49 : decode cX11_next 49 = .ok (.getfield 130, 3) := by decide +kernel
theorem dX11_next_52 : decode cX11_next 52 = .ok (.invokevirtual 133, 3) := by decide +kernel
theorem dX11_next_55 : decode cX11_next 55 = .ok (.istore_n 1, 1) := by decide +kernel
theorem dX11_next_56 : decode cX11_next 56 = .ok (.aload_n 0, 1) := by decide +kernel
theorem dX11_next_57 : decode cX11_next 57 = .ok (.lconst 0, 1) := by decide +kernel
theorem dX11_next_58 : decode cX11_next 58 = .ok (.putfield 140, 3) := by decide +kernel
theorem dX11_next_61 : decode cX11_next 61 = .ok (.aload_n 0, 1) := by decide +kernel
theorem dX11_next_62 : decode cX11_next 62 = .ok (.iconst 0, 1) := by decide +kernel
theorem dX11_next_63 : decode cX11_next 63 = .ok (.putfield 144, 3) := by decide +kernel
theorem dX11_next_66 : decode cX11_next 66 = .ok (.aload_n 0, 1) := by decide +kernel
theorem dX11_next_67 : decode cX11_next 67 = .ok (.iconst 0, 1) := by decide +kernel
theorem dX11_next_68 : decode cX11_next 68 = .ok (.putfield 147, 3) := by decide +kernel
theorem dX11_next_71 : decode cX11_next 71 = .ok (.iload_n 1, 1) := by decide +kernel
theorem dX11_next_72 : decode cX11_next 72 = .ok (.iconst (-1), 1) := by decide +kernel
theorem dX11_next_73 : decode cX11_next 73 = .ok (.if_icmp .ne 11, 3) := by decide +kernel
theorem dX11_next_76 : decode cX11_next 76 = .ok (.aload_n 0, 1) := by decide +kernel
theorem dX11_next_77 : decode cX11_next 77 = .ok (.iconst 0, 1) := by decide +kernel
theorem dX11_next_78 : decode cX11_next 78 = .ok (.putfield 150, 3) := by decide +kernel
theorem dX11_next_81 : decode cX11_next 81 = .ok (.goto 203, 3) := by decide +kernel
theorem dX11_next_84 : decode cX11_next 84 = .ok (.iload_n 1, 1) := by decide +kernel
theorem dX11_next_85 : decode cX11_next 85 = .ok (.i2l, 1) := by decide +kernel
theorem dX11_next_86 : decode cX11_next 86 = .ok (.ldc2_w 153, 3) := by decide +kernel
theorem dX11_next_89 : decode cX11_next 89 = .ok (.ldc2_w 155, 3) := by decide +kernel
theorem dX11_next_92 : decode cX11_next 92 = .ok (.invokestatic 126, 3) := by decide +kernel
theorem dX11_next_95 : decode cX11_next 95 = .ok (.ifCond .eq 79, 3) := by decide +kernel
theorem dX11_next_98 : decode cX11_next 98 = .ok (.aload_n 0, 1) := by decide +kernel
theorem dX11_next_99 : decode cX11_next 99 = .ok (.iconst 1, 1) := by decide +kernel
theorem dX11_next_100 : decode cX11_next 100 = .ok (.putfield 150, 3) := by decide +kernel
theorem dX11_next_103 : decode cX11_next 103 = .ok (.aload_n 0, 1) := by decide +kernel
theorem dX11_next_104 : decode cX11_next 104 = .ok (.aload_n 0, 1) := by decide +kernel
theorem dX11_next_105 : decode cX11_next 105 = .ok (.getfield 130, 3) := by decide +kernel
theorem dX11_next_108 : decode cX11_next 108 = .ok (.invokevirtual 133, 3) := by decide +kernel
theorem dX11_next_111 : decode cX11_next 111 = .ok (.i2l, 1) := by decide +kernel
theorem dX11_next_112 : decode cX11_next 112 = .ok (.ldc2_w 153, 3) := by decide +kernel
theorem dX11_next_115 : decode cX11_next 115 = .ok (.ldc2_w 155, 3) := by decide +kernel
theorem dX11_next_118 : decode cX11_next 118 = .ok (.invokestatic 126, 3) := by decide +kernel
theorem dX11_next_121 : decode cX11_next 121 = .ok (.ifCond .eq 163, 3) := by decide +kernel
theorem dX11_next_124 : decode cX11_next 124 = .ok (.aload_n 0, 1) := by decide +kernel
theorem dX11_next_125 : decode cX11_next 125 = .ok (.getfield 130, 3) := by decide +kernel
theorem dX11_next_128 : decode cX11_next 128 = .ok (.aload_n 0, 1) := by decide +kernel
theorem dX11_next_129 : decode cX11_next 129 = .ok (.getfield 137, 3) := by decide +kernel
theorem dX11_next_132 : decode cX11_next 132 = .ok (.isub, 1) := by decide +kernel
theorem dX11_next_133 : decode cX11_next 133 = .ok (.bipush 7, 2) := by decide +kernel
theorem dX11_next_135 : decode cX11_next 135 = .ok (.if_icmp .ge 26, 3) := by decide +kernel
theorem dX11_next_138 : decode cX11_next 138 = .ok (.aload_n 0, 1) := by decide +kernel
theorem dX11_next_139 : decode cX11_next 139 = .ok (.aload_n 0, 1) := by decide +kernel
theorem dX11_next_140 : decode cX11_next 140 = .ok (.getfield 140, 3) := by decide +kernel
theorem dX11_next_143 : decode cX11_next 143 = .ok (.iconst 5, 1) := by decide +kernel
theorem dX11_next_144 : decode cX11_next 144 = .ok (.lshl, 1) := by decide +kernel
theorem dX11_next_145 : decode cX11_next 145 = .ok (.aload_n 0, 1) := by decide +kernel
theorem dX11_next_146 : decode cX11_next 146 = .ok (.aload_n 0, 1) := by decide +kernel
theorem dX11_next_147 : decode cX11_next 147 = .ok (.getfield 130, 3) := by decide +kernel
theorem dX11_next_150 : decode cX11_next 150 = .ok (.invokevirtual 133, 3) := by decide +kernel
theorem dX11_next_153 : decode cX11_next 153 = .ok (.bipush 96, 2) := by decide +kernel
theorem dX11_next_155 : decode cX11_next 155 = .ok (.isub, 1) := by decide +kernel
theorem dX11_next_156 : decode cX11_next 156 = .ok (.i2l, 1) := by decide +kernel
theorem dX11_next_157 : decode cX11_next 157 = .ok (.lor, 1) := by decide +kernel
theorem dX11_next_158 : decode cX11_next 158 = .ok (.putfield 140, 3) := by decide +kernel
theorem dX11_next_161 : decode cX11_next 161 = .ok (.aload_n 0, 1) := by decide +kernel
theorem dX11_next_162 : decode cX11_next 162 = .ok (.dup, 1) := by decide +kernel
theorem dX11_next_163 : decode cX11_next 163 = .ok (.getfield 130, 3) := by decide +kernel
theorem dX11_next_166 : decode cX11_next 166 = .ok (.iconst 1, 1) := by decide +kernel
theorem dX11_next_167 : decode cX11_next 167 = .ok (.iadd, 1) := by decide +kernel
theorem dX11_next_168 : decode cX11_next 168 = .ok (.putfield 130, 3) := by decide +kernel
theorem dX11_next_171 : decode cX11_next 171 = .ok (.goto (-68), 3) := by decide +kernel
theorem dX11_next_174 : decode cX11_next 174 = .ok (.iload_n 1, 1) := by decide +kernel
theorem dX11_next_175 : decode cX11_next 175 = .ok (.i2l, 1) := by decide +kernel
theorem dX11_next_176 : decode cX11_next 176 = .ok (.ldc2_w 157, 3) := by decide +kernel
theorem dX11_next_179 : decode cX11_next 179 = .ok (.ldc2_w 159, 3) := by decide +kernel
theorem dX11_next_182 : decode cX11_next 182 = .ok (.invokestatic 126, 3) := by decide +kernel
theorem dX11_next_185 : decode cX11_next 185 = .ok (.ifCond .eq 79, 3) := by decide +kernel
theorem dX11_next_188 : decode cX11_next 188 = .ok (.aload_n 0, 1) := by decide +kernel
theorem dX11_next_189 : decode cX11_next 189 = .ok (.iconst 2, 1) := by decide +kernel
theorem dX11_next_190 : decode cX11_next 190 = .ok (.putfield 150, 3) := by decide +kernel
theorem dX11_next_193 : decode cX11_next 193 = .ok (.aload_n 0, 1) := by decide +kernel
theorem dX11_next_194 : decode cX11_next 194 = .ok (.aload_n 0, 1) := by decide +kernel
theorem dX11_next_195 : decode cX11_next 195 = .ok (.getfield 130, 3) := by decide +kernel
theorem dX11_next_198 : decode cX11_next 198 = .ok (.invokevirtual 133, 3) := by decide +kernel
theorem dX11_next_201 : decode cX11_next 201 = .ok (.i2l, 1) := by decide +kernel
theorem dX11_next_202 : decode cX11_next 202 = .ok (.ldc2_w 157, 3) := by decide +kernel
theorem dX11_next_205 : decode cX11_next 205 = .ok (.ldc2_w 159, 3) := by decide +kernel
theorem dX11_next_208 : decode cX11_next 208 = .ok (.invokestatic 126, 3) := by decide +kernel
theorem dX11_next_211 : decode cX11_next 211 = .ok (.ifCond .eq 73, 3) := by decide +kernel
theorem dX11_next_214 : decode cX11_next 214 = .ok (.aload_n 0, 1) := by decide +kernel
theorem dX11_next_215 : decode cX11_next 215 = .ok (.getfield 130, 3) := by decide +kernel
theorem dX11_next_218 : decode cX11_next 218 = .ok (.aload_n 0, 1) := by decide +kernel
theorem dX11_next_219 : decode cX11_next 219 = .ok (.getfield 137, 3) := by decide +kernel
theorem dX11_next_222 : decode cX11_next 222 = .ok (.isub, 1) := by decide +kernel
theorem dX11_next_223 : decode cX11_next 223 = .ok (.bipush 8, 2) := by decide +kernel
theorem dX11_next_225 : decode cX11_next 225 = .ok (.if_icmp .ge 26, 3) := by decide +kernel
theorem dX11_next_228 : decode cX11_next 228 = .ok (.aload_n 0, 1) := by decide +kernel
theorem dX11_next_229 : decode cX11_next 229 = .ok (.bipush 10, 2) := by decide +kernel
theorem dX11_next_231 : decode cX11_next 231 = .ok (.aload_n 0, 1) := by decide +kernel
theorem dX11_next_232 : decode cX11_next 232 = .ok (.getfield 144, 3) := by decide +kernel
theorem dX11_next_235 : decode cX11_next 235 = .ok (.imul, 1) := by decide +kernel
theorem dX11_next_236 : decode cX11_next 236 = .ok (.aload_n 0, 1) := by decide +kernel
theorem dX11_next_237 : decode cX11_next 237 = .ok (.aload_n 0, 1) := by decide +kernel
theorem dX11_next_238 : decode cX11_next 238 = .ok (.getfield 130, 3) := by decide +kernel
theorem dX11_next_241 : decode cX11_next 241 = .ok (.invokevirtual 133, 3) := by decide +kernel
theorem dX11_next_244 : decode cX11_next 244 = .ok (.iadd, 1) := by decide +kernel
theorem dX11_next_245 : decode cX11_next 245 = .ok (.bipush 48, 2) := by decide +kernel
theorem dX11_next_247 : decode cX11_next 247 = .ok (.isub, 1) := by decide +kernel
theorem dX11_next_248 : decode cX11_next 248 = .ok (.putfield 144, 3) := by decide +kernel
theorem dX11_next_251 : decode cX11_next 251 = .ok (.aload_n 0, 1) := by decide +kernel
theorem dX11_next_252 : decode cX11_next 252 = .ok (.dup, 1) := by decide +kernel
theorem dX11_next_253 : decode cX11_next 253 = .ok (.getfield 130, 3) := by decide +kernel
theorem dX11_next_256 : decode cX11_next 256 = .ok (.iconst 1, 1) := by decide +kernel
theorem dX11_next_257 : decode cX11_next 257 = .ok (.iadd, 1) := by decide +kernel
theorem dX11_next_258 : decode cX11_next 258 = .ok (.putfield 130, 3) := by decide +kernel
theorem dX11_next_261 : decode cX11_next 261 = .ok (.goto (-68), 3) := by decide +kernel
theorem dX11_next_264 : decode cX11_next 264 = .ok (.aload_n 0, 1) := by decide +kernel
theorem dX11_next_265 : decode cX11_next 265 = .ok (.iconst 3, 1) := by decide +kernel
theorem dX11_next_266 : decode cX11_next 266 = .ok (.putfield 150, 3) := by decide +kernel
theorem dX11_next_269 : decode cX11_next 269 = .ok (.aload_n 0, 1) := by decide +kernel
theorem dX11_next_270 : decode cX11_next 270 = .ok (.iload_n 1, 1) := by decide +kernel
theorem dX11_next_271 : decode cX11_next 271 = .ok (.putfield 147, 3) := by decide +kernel
theorem dX11_next_274 : decode cX11_next 274 = .ok (.aload_n 0, 1) := by decide +kernel
theorem dX11_next_275 : decode cX11_next 275 = .ok (.dup, 1) := by decide +kernel
theorem dX11_next_276 : decode cX11_next 276 = .ok (.getfield 130, 3) := by decide +kernel
theorem dX11_next_279 : decode cX11_next 279 = .ok (.iconst 1, 1) := by decide +kernel
theorem dX11_next_280 : decode cX11_next 280 = .ok (.iadd, 1) := by decide +kernel
theorem dX11_next_281 : decode cX11_next 281 = .ok (.putfield 130, 3) := by decide +kernel
theorem dX11_next_284 : decode cX11_next 284 = .ok (.return_, 1) := by decide +kernel
theorem dX11_fails_0 : decode cX11_fails 0 = .ok (.aload_n 0, 1) := by decide +kernel
theorem dX11_fails_1 : decode cX11_fails 1 = .ok (.getfield 161, 3) := by decide +kernel
theorem dX11_fails_4 : decode cX11_fails 4 = .ok (.ifCond .ne 16, 3) := by decide +kernel
theorem dX11_fails_7 : decode cX11_fails 7 = .ok (.aload_n 0, 1) := by decide +kernel
theorem dX11_fails_8 : decode cX11_fails 8 = .ok (.iload_n 1, 1) := by decide +kernel
theorem dX11_fails_9 : decode cX11_fails 9 = .ok (.putfield 161, 3) := by decide +kernel
theorem dX11_fails_12 : decode cX11_fails 12 = .ok (.aload_n 0, 1) := by decide +kernel
theorem dX11_fails_13 : decode cX11_fails 13 = .ok (.aload_n 0, 1) := by decide +kernel
theorem dX11_fails_14 : decode cX11_fails 14 = .ok (.getfield 137, 3) := by decide +kernel
theorem dX11_fails_17 : decode cX11_fails 17 = .ok (.putfield 164, 3) := by decide +kernel
theorem dX11_fails_20 : decode cX11_fails 20 = .ok (.iconst 0, 1) := by decide +kernel
theorem dX11_fails_21 : decode cX11_fails 21 = .ok (.ireturn, 1) := by decide +kernel
theorem dX11_packed_0 : decode cX11_packed 0 = .ok (.lconst 0, 1) := by decide +kernel
theorem dX11_packed_1 : decode cX11_packed 1 = .ok (.lstore_n 1, 1) := by decide +kernel
theorem dX11_packed_2 : decode cX11_packed 2 = .ok (.iconst 0, 1) := by decide +kernel
theorem dX11_packed_3 : decode cX11_packed 3 = .ok (.istore_n 3, 1) := by decide +kernel
theorem dX11_packed_4 : decode cX11_packed 4 = .ok (.iload_n 3, 1) := by decide +kernel
theorem dX11_packed_5 : decode cX11_packed 5 = .ok (.aload_n 0, 1) := by decide +kernel
theorem dX11_packed_6 : decode cX11_packed 6 = .ok (.invokevirtual 167, 3) := by decide +kernel
theorem dX11_packed_9 : decode cX11_packed 9 = .ok (.if_icmp .ge 23, 3) := by decide +kernel
theorem dX11_packed_12 : decode cX11_packed 12 = .ok (.lload_n 1, 1) := by decide +kernel
theorem dX11_packed_13 : decode cX11_packed 13 = .ok (.iconst 5, 1) := by decide +kernel
theorem dX11_packed_14 : decode cX11_packed 14 = .ok (.lshl, 1) := by decide +kernel
theorem dX11_packed_15 : decode cX11_packed 15 = .ok (.aload_n 0, 1) := by decide +kernel
theorem dX11_packed_16 : decode cX11_packed 16 = .ok (.iload_n 3, 1) := by decide +kernel
theorem dX11_packed_17 : decode cX11_packed 17 = .ok (.invokevirtual 173, 3) := by decide +kernel
theorem dX11_packed_20 : decode cX11_packed 20 = .ok (.bipush 96, 2) := by decide +kernel
theorem dX11_packed_22 : decode cX11_packed 22 = .ok (.isub, 1) := by decide +kernel
theorem dX11_packed_23 : decode cX11_packed 23 = .ok (.i2l, 1) := by decide +kernel
theorem dX11_packed_24 : decode cX11_packed 24 = .ok (.lor, 1) := by decide +kernel
theorem dX11_packed_25 : decode cX11_packed 25 = .ok (.lstore_n 1, 1) := by decide +kernel
theorem dX11_packed_26 : decode cX11_packed 26 = .ok (.iinc 3 1, 3) := by decide +kernel
theorem dX11_packed_29 : decode cX11_packed 29 = .ok (.goto (-25), 3) := by decide +kernel
theorem dX11_packed_32 : decode cX11_packed 32 = .ok (.lload_n 1, 1) := by decide +kernel
theorem dX11_packed_33 : decode cX11_packed 33 = .ok (.lreturn, 1) := by decide +kernel
theorem dX11_isWord_0 : decode cX11_isWord 0 = .ok (.aload_n 0, 1) := by decide +kernel
theorem dX11_isWord_1 : decode cX11_isWord 1 = .ok (.getfield 150, 3) := by decide +kernel
theorem dX11_isWord_4 : decode cX11_isWord 4 = .ok (.iconst 1, 1) := by decide +kernel
theorem dX11_isWord_5 : decode cX11_isWord 5 = .ok (.if_icmp .ne 35, 3) := by decide +kernel
theorem dX11_isWord_8 : decode cX11_isWord 8 = .ok (.aload_n 0, 1) := by decide +kernel
theorem dX11_isWord_9 : decode cX11_isWord 9 = .ok (.getfield 130, 3) := by decide +kernel
theorem dX11_isWord_12 : decode cX11_isWord 12 = .ok (.aload_n 0, 1) := by decide +kernel
theorem dX11_isWord_13 : decode cX11_isWord 13 = .ok (.getfield 137, 3) := by decide +kernel
theorem dX11_isWord_16 : decode cX11_isWord 16 = .ok (.isub, 1) := by decide +kernel
theorem dX11_isWord_17 : decode cX11_isWord 17 = .ok (.aload_n 1, 1) := by decide +kernel
theorem dX11_isWord_18 : decode cX11_isWord 18 = .ok (.invokevirtual 167, 3) := by decide +kernel
theorem dX11_isWord_21 : decode cX11_isWord 21 = .ok (.if_icmp .ne 19, 3) := by decide +kernel
theorem dX11_isWord_24 : decode cX11_isWord 24 = .ok (.aload_n 0, 1) := by decide +kernel
theorem dX11_isWord_25 : decode cX11_isWord 25 = .ok (.getfield 140, 3) := by decide +kernel
theorem dX11_isWord_28 : decode cX11_isWord 28 = .ok (.aload_n 1, 1) := by decide +kernel
theorem dX11_isWord_29 : decode cX11_isWord 29 = .ok (.invokestatic 177, 3) := by decide +kernel
theorem dX11_isWord_32 : decode cX11_isWord 32 = .ok (.lcmp, 1) := by decide +kernel
theorem dX11_isWord_33 : decode cX11_isWord 33 = .ok (.ifCond .ne 7, 3) := by decide +kernel
theorem dX11_isWord_36 : decode cX11_isWord 36 = .ok (.iconst 1, 1) := by decide +kernel
theorem dX11_isWord_37 : decode cX11_isWord 37 = .ok (.goto 4, 3) := by decide +kernel
theorem dX11_isWord_40 : decode cX11_isWord 40 = .ok (.iconst 0, 1) := by decide +kernel
theorem dX11_isWord_41 : decode cX11_isWord 41 = .ok (.ireturn, 1) := by decide +kernel
theorem dX11_isSign_0 : decode cX11_isSign 0 = .ok (.aload_n 0, 1) := by decide +kernel
theorem dX11_isSign_1 : decode cX11_isSign 1 = .ok (.getfield 150, 3) := by decide +kernel
theorem dX11_isSign_4 : decode cX11_isSign 4 = .ok (.iconst 3, 1) := by decide +kernel
theorem dX11_isSign_5 : decode cX11_isSign 5 = .ok (.if_icmp .ne 15, 3) := by decide +kernel
theorem dX11_isSign_8 : decode cX11_isSign 8 = .ok (.aload_n 0, 1) := by decide +kernel
theorem dX11_isSign_9 : decode cX11_isSign 9 = .ok (.getfield 147, 3) := by decide +kernel
theorem dX11_isSign_12 : decode cX11_isSign 12 = .ok (.iload_n 1, 1) := by decide +kernel
theorem dX11_isSign_13 : decode cX11_isSign 13 = .ok (.if_icmp .ne 7, 3) := by decide +kernel
theorem dX11_isSign_16 : decode cX11_isSign 16 = .ok (.iconst 1, 1) := by decide +kernel
theorem dX11_isSign_17 : decode cX11_isSign 17 = .ok (.goto 4, 3) := by decide +kernel
theorem dX11_isSign_20 : decode cX11_isSign 20 = .ok (.iconst 0, 1) := by decide +kernel
theorem dX11_isSign_21 : decode cX11_isSign 21 = .ok (.ireturn, 1) := by decide +kernel
theorem dX11_askedHere_0 : decode cX11_askedHere 0 = .ok (.aload_n 0, 1) := by decide +kernel
theorem dX11_askedHere_1 : decode cX11_askedHere 1 = .ok (.ldc 181, 2) := by decide +kernel
theorem dX11_askedHere_3 : decode cX11_askedHere 3 = .ok (.invokevirtual 183, 3) := by decide +kernel
theorem dX11_askedHere_6 : decode cX11_askedHere 6 = .ok (.ifCond .eq 7, 3) := by decide +kernel
theorem dX11_askedHere_9 : decode cX11_askedHere 9 = .ok (.iconst 0, 1) := by decide +kernel
theorem dX11_askedHere_10 : decode cX11_askedHere 10 = .ok (.goto 43, 3) := by decide +kernel
theorem dX11_askedHere_13 : decode cX11_askedHere 13 = .ok (.aload_n 0, 1) := by decide +kernel
theorem dX11_askedHere_14 : decode cX11_askedHere 14 = .ok (.ldc 187, 2) := by decide +kernel
theorem dX11_askedHere_16 : decode cX11_askedHere 16 = .ok (.invokevirtual 183, 3) := by decide +kernel
theorem dX11_askedHere_19 : decode cX11_askedHere 19 = .ok (.ifCond .eq 7, 3) := by decide +kernel
theorem dX11_askedHere_22 : decode cX11_askedHere 22 = .ok (.iconst 1, 1) := by decide +kernel
theorem dX11_askedHere_23 : decode cX11_askedHere 23 = .ok (.goto 30, 3) := by decide +kernel
theorem dX11_askedHere_26 : decode cX11_askedHere 26 = .ok (.aload_n 0, 1) := by decide +kernel
theorem dX11_askedHere_27 : decode cX11_askedHere 27 = .ok (.ldc 189, 2) := by decide +kernel
theorem dX11_askedHere_29 : decode cX11_askedHere 29 = .ok (.invokevirtual 183, 3) := by decide +kernel
theorem dX11_askedHere_32 : decode cX11_askedHere 32 = .ok (.ifCond .eq 7, 3) := by decide +kernel
theorem dX11_askedHere_35 : decode cX11_askedHere 35 = .ok (.iconst 2, 1) := by decide +kernel
theorem dX11_askedHere_36 : decode cX11_askedHere 36 = .ok (.goto 17, 3) := by decide +kernel
theorem dX11_askedHere_39 : decode cX11_askedHere 39 = .ok (.aload_n 0, 1) := by decide +kernel
theorem dX11_askedHere_40 : decode cX11_askedHere 40 = .ok (.ldc 191, 2) := by decide +kernel
theorem dX11_askedHere_42 : decode cX11_askedHere 42 = .ok (.invokevirtual 183, 3) := by decide +kernel
theorem dX11_askedHere_45 : decode cX11_askedHere 45 = .ok (.ifCond .eq 7, 3) := by decide +kernel
theorem dX11_askedHere_48 : decode cX11_askedHere 48 = .ok (.iconst 3, 1) := by decide +kernel
theorem dX11_askedHere_49 : decode cX11_askedHere 49 = .ok (.goto 4, 3) := by decide +kernel
theorem dX11_askedHere_52 : decode cX11_askedHere 52 = .ok (.iconst (-1), 1) := by decide +kernel
theorem dX11_askedHere_53 : decode cX11_askedHere 53 = .ok (.ireturn, 1) := by decide +kernel
theorem dX11_isOwn_0 : decode cX11_isOwn 0 = .ok (.aload_n 0, 1) := by decide +kernel
theorem dX11_isOwn_1 : decode cX11_isOwn 1 = .ok (.invokevirtual 193, 3) := by decide +kernel
theorem dX11_isOwn_4 : decode cX11_isOwn 4 = .ok (.iconst (-1), 1) := by decide +kernel
theorem dX11_isOwn_5 : decode cX11_isOwn 5 = .ok (.if_icmp .ne 84, 3) := by decide +kernel
theorem dX11_isOwn_8 : decode cX11_isOwn 8 = .ok (.aload_n 0, 1) := by decide +kernel
theorem dX11_isOwn_9 : decode cX11_isOwn 9 = .ok (.ldc 196, 2) := by decide +kernel
theorem dX11_isOwn_11 : decode cX11_isOwn 11 = .ok (.invokevirtual 183, 3) := by decide +kernel
theorem dX11_isOwn_14 : decode cX11_isOwn 14 = .ok (.ifCond .ne 75, 3) := by decide +kernel
theorem dX11_isOwn_17 : decode cX11_isOwn 17 = .ok (.aload_n 0, 1) := by decide +kernel
theorem dX11_isOwn_18 : decode cX11_isOwn 18 = .ok (.ldc 198, 2) := by decide +kernel
theorem dX11_isOwn_20 : decode cX11_isOwn 20 = .ok (.invokevirtual 183, 3) := by decide +kernel
theorem dX11_isOwn_23 : decode cX11_isOwn 23 = .ok (.ifCond .ne 66, 3) := by decide +kernel
theorem dX11_isOwn_26 : decode cX11_isOwn 26 = .ok (.aload_n 0, 1) := by decide +kernel
theorem dX11_isOwn_27 : decode cX11_isOwn 27 = .ok (.ldc 199, 2) := by decide +kernel
theorem dX11_isOwn_29 : decode cX11_isOwn 29 = .ok (.invokevirtual 183, 3) := by decide +kernel
theorem dX11_isOwn_32 : decode cX11_isOwn 32 = .ok (.ifCond .ne 57, 3) := by decide +kernel
theorem dX11_isOwn_35 : decode cX11_isOwn 35 = .ok (.aload_n 0, 1) := by decide +kernel
theorem dX11_isOwn_36 : decode cX11_isOwn 36 = .ok (.ldc 201, 2) := by decide +kernel
theorem dX11_isOwn_38 : decode cX11_isOwn 38 = .ok (.invokevirtual 183, 3) := by decide +kernel
theorem dX11_isOwn_41 : decode cX11_isOwn 41 = .ok (.ifCond .ne 48, 3) := by decide +kernel
theorem dX11_isOwn_44 : decode cX11_isOwn 44 = .ok (.aload_n 0, 1) := by decide +kernel
theorem dX11_isOwn_45 : decode cX11_isOwn 45 = .ok (.ldc 203, 2) := by decide +kernel
theorem dX11_isOwn_47 : decode cX11_isOwn 47 = .ok (.invokevirtual 183, 3) := by decide +kernel
theorem dX11_isOwn_50 : decode cX11_isOwn 50 = .ok (.ifCond .ne 39, 3) := by decide +kernel
theorem dX11_isOwn_53 : decode cX11_isOwn 53 = .ok (.aload_n 0, 1) := by decide +kernel
theorem dX11_isOwn_54 : decode cX11_isOwn 54 = .ok (.ldc 205, 2) := by decide +kernel
theorem dX11_isOwn_56 : decode cX11_isOwn 56 = .ok (.invokevirtual 183, 3) := by decide +kernel
theorem dX11_isOwn_59 : decode cX11_isOwn 59 = .ok (.ifCond .ne 30, 3) := by decide +kernel
theorem dX11_isOwn_62 : decode cX11_isOwn 62 = .ok (.aload_n 0, 1) := by decide +kernel
theorem dX11_isOwn_63 : decode cX11_isOwn 63 = .ok (.ldc 207, 2) := by decide +kernel
theorem dX11_isOwn_65 : decode cX11_isOwn 65 = .ok (.invokevirtual 183, 3) := by decide +kernel
theorem dX11_isOwn_68 : decode cX11_isOwn 68 = .ok (.ifCond .ne 21, 3) := by decide +kernel
theorem dX11_isOwn_71 : decode cX11_isOwn 71 = .ok (.aload_n 0, 1) := by decide +kernel
theorem dX11_isOwn_72 : decode cX11_isOwn 72 = .ok (.ldc 209, 2) := by decide +kernel
theorem dX11_isOwn_74 : decode cX11_isOwn 74 = .ok (.invokevirtual 183, 3) := by decide +kernel
theorem dX11_isOwn_77 : decode cX11_isOwn 77 = .ok (.ifCond .ne 12, 3) := by decide +kernel
theorem dX11_isOwn_80 : decode cX11_isOwn 80 = .ok (.aload_n 0, 1) := by decide +kernel
theorem dX11_isOwn_81 : decode cX11_isOwn 81 = .ok (.ldc 211, 2) := by decide +kernel
theorem dX11_isOwn_83 : decode cX11_isOwn 83 = .ok (.invokevirtual 183, 3) := by decide +kernel
theorem dX11_isOwn_86 : decode cX11_isOwn 86 = .ok (.ifCond .eq 5, 3) := by decide +kernel
theorem dX11_isOwn_89 : decode cX11_isOwn 89 = .ok (.iconst 1, 1) := by decide +kernel
theorem dX11_isOwn_90 : decode cX11_isOwn 90 = .ok (.ireturn, 1) := by decide +kernel
theorem dX11_isOwn_91 : decode cX11_isOwn 91 = .ok (.aload_n 0, 1) := by decide +kernel
theorem dX11_isOwn_92 : decode cX11_isOwn 92 = .ok (.ldc 213, 2) := by decide +kernel
theorem dX11_isOwn_94 : decode cX11_isOwn 94 = .ok (.invokevirtual 183, 3) := by decide +kernel
theorem dX11_isOwn_97 : decode cX11_isOwn 97 = .ok (.ifCond .ne 39, 3) := by decide +kernel
theorem dX11_isOwn_100 : decode cX11_isOwn 100 = .ok (.aload_n 0, 1) := by decide +kernel
theorem dX11_isOwn_101 : decode cX11_isOwn 101 = .ok (.ldc 215, 2) := by decide +kernel
theorem dX11_isOwn_103 : decode cX11_isOwn 103 = .ok (.invokevirtual 183, 3) := by decide +kernel
theorem dX11_isOwn_106 : decode cX11_isOwn 106 = .ok (.ifCond .ne 30, 3) := by decide +kernel
theorem dX11_isOwn_109 : decode cX11_isOwn 109 = .ok (.aload_n 0, 1) := by decide +kernel
theorem dX11_isOwn_110 : decode cX11_isOwn 110 = .ok (.ldc 217, 2) := by decide +kernel
theorem dX11_isOwn_112 : decode cX11_isOwn 112 = .ok (.invokevirtual 183, 3) := by decide +kernel
theorem dX11_isOwn_115 : decode cX11_isOwn 115 = .ok (.ifCond .ne 21, 3) := by decide +kernel
theorem dX11_isOwn_118 : decode cX11_isOwn 118 = .ok (.aload_n 0, 1) := by decide +kernel
theorem dX11_isOwn_119 : decode cX11_isOwn 119 = .ok (.ldc 219, 2) := by decide +kernel
theorem dX11_isOwn_121 : decode cX11_isOwn 121 = .ok (.invokevirtual 183, 3) := by decide +kernel
theorem dX11_isOwn_124 : decode cX11_isOwn 124 = .ok (.ifCond .ne 12, 3) := by decide +kernel
theorem dX11_isOwn_127 : decode cX11_isOwn 127 = .ok (.aload_n 0, 1) := by decide +kernel
theorem dX11_isOwn_128 : decode cX11_isOwn 128 = .ok (.ldc 221, 2) := by decide +kernel
theorem dX11_isOwn_130 : decode cX11_isOwn 130 = .ok (.invokevirtual 183, 3) := by decide +kernel
theorem dX11_isOwn_133 : decode cX11_isOwn 133 = .ok (.ifCond .eq 7, 3) := by decide +kernel
theorem dX11_isOwn_136 : decode cX11_isOwn 136 = .ok (.iconst 1, 1) := by decide +kernel
theorem dX11_isOwn_137 : decode cX11_isOwn 137 = .ok (.goto 4, 3) := by decide +kernel
theorem dX11_isOwn_140 : decode cX11_isOwn 140 = .ok (.iconst 0, 1) := by decide +kernel
theorem dX11_isOwn_141 : decode cX11_isOwn 141 = .ok (.ireturn, 1) := by decide +kernel
theorem dX11_isName_0 : decode cX11_isName 0 = .ok (.aload_n 0, 1) := by decide +kernel
theorem dX11_isName_1 : decode cX11_isName 1 = .ok (.getfield 150, 3) := by decide +kernel
theorem dX11_isName_4 : decode cX11_isName 4 = .ok (.iconst 1, 1) := by decide +kernel
theorem dX11_isName_5 : decode cX11_isName 5 = .ok (.if_icmp .ne 28, 3) := by decide +kernel
theorem dX11_isName_8 : decode cX11_isName 8 = .ok (.aload_n 0, 1) := by decide +kernel
theorem dX11_isName_9 : decode cX11_isName 9 = .ok (.getfield 130, 3) := by decide +kernel
theorem dX11_isName_12 : decode cX11_isName 12 = .ok (.aload_n 0, 1) := by decide +kernel
theorem dX11_isName_13 : decode cX11_isName 13 = .ok (.getfield 137, 3) := by decide +kernel
theorem dX11_isName_16 : decode cX11_isName 16 = .ok (.isub, 1) := by decide +kernel
theorem dX11_isName_17 : decode cX11_isName 17 = .ok (.bipush 7, 2) := by decide +kernel
theorem dX11_isName_19 : decode cX11_isName 19 = .ok (.if_icmp .gt 14, 3) := by decide +kernel
theorem dX11_isName_22 : decode cX11_isName 22 = .ok (.aload_n 0, 1) := by decide +kernel
theorem dX11_isName_23 : decode cX11_isName 23 = .ok (.invokevirtual 223, 3) := by decide +kernel
theorem dX11_isName_26 : decode cX11_isName 26 = .ok (.ifCond .ne 7, 3) := by decide +kernel
theorem dX11_isName_29 : decode cX11_isName 29 = .ok (.iconst 1, 1) := by decide +kernel
theorem dX11_isName_30 : decode cX11_isName 30 = .ok (.goto 4, 3) := by decide +kernel
theorem dX11_isName_33 : decode cX11_isName 33 = .ok (.iconst 0, 1) := by decide +kernel
theorem dX11_isName_34 : decode cX11_isName 34 = .ok (.ireturn, 1) := by decide +kernel
theorem dX11_takesSign_0 : decode cX11_takesSign 0 = .ok (.aload_n 0, 1) := by decide +kernel
theorem dX11_takesSign_1 : decode cX11_takesSign 1 = .ok (.iload_n 1, 1) := by decide +kernel
theorem dX11_takesSign_2 : decode cX11_takesSign 2 = .ok (.invokevirtual 227, 3) := by decide +kernel
theorem dX11_takesSign_5 : decode cX11_takesSign 5 = .ok (.ifCond .ne 9, 3) := by decide +kernel
theorem dX11_takesSign_8 : decode cX11_takesSign 8 = .ok (.aload_n 0, 1) := by decide +kernel
theorem dX11_takesSign_9 : decode cX11_takesSign 9 = .ok (.iconst 1, 1) := by decide +kernel
theorem dX11_takesSign_10 : decode cX11_takesSign 10 = .ok (.invokevirtual 231, 3) := by decide +kernel
theorem dX11_takesSign_13 : decode cX11_takesSign 13 = .ok (.ireturn, 1) := by decide +kernel
theorem dX11_takesSign_14 : decode cX11_takesSign 14 = .ok (.aload_n 0, 1) := by decide +kernel
theorem dX11_takesSign_15 : decode cX11_takesSign 15 = .ok (.invokevirtual 234, 3) := by decide +kernel
theorem dX11_takesSign_18 : decode cX11_takesSign 18 = .ok (.iconst 1, 1) := by decide +kernel
theorem dX11_takesSign_19 : decode cX11_takesSign 19 = .ok (.ireturn, 1) := by decide +kernel
theorem dX11_readNumber_0 : decode cX11_readNumber 0 = .ok (.aload_n 0, 1) := by decide +kernel
theorem dX11_readNumber_1 : decode cX11_readNumber 1 = .ok (.getfield 150, 3) := by decide +kernel
theorem dX11_readNumber_4 : decode cX11_readNumber 4 = .ok (.iconst 2, 1) := by decide +kernel
theorem dX11_readNumber_5 : decode cX11_readNumber 5 = .ok (.if_icmp .ne 17, 3) := by decide +kernel
theorem dX11_readNumber_8 : decode cX11_readNumber 8 = .ok (.aload_n 0, 1) := by decide +kernel
theorem dX11_readNumber_9 : decode cX11_readNumber 9 = .ok (.getfield 130, 3) := by decide +kernel
theorem dX11_readNumber_12 : decode cX11_readNumber 12 = .ok (.aload_n 0, 1) := by decide +kernel
theorem dX11_readNumber_13 : decode cX11_readNumber 13 = .ok (.getfield 137, 3) := by decide +kernel
theorem dX11_readNumber_16 : decode cX11_readNumber 16 = .ok (.isub, 1) := by decide +kernel
theorem dX11_readNumber_17 : decode cX11_readNumber 17 = .ok (.bipush 8, 2) := by decide +kernel
theorem dX11_readNumber_19 : decode cX11_readNumber 19 = .ok (.if_icmp .le 9, 3) := by decide +kernel
theorem dX11_readNumber_22 : decode cX11_readNumber 22 = .ok (.aload_n 0, 1) := by decide +kernel
theorem dX11_readNumber_23 : decode cX11_readNumber 23 = .ok (.iconst 1, 1) := by decide +kernel
theorem dX11_readNumber_24 : decode cX11_readNumber 24 = .ok (.invokevirtual 231, 3) := by decide +kernel
theorem dX11_readNumber_27 : decode cX11_readNumber 27 = .ok (.ireturn, 1) := by decide +kernel
theorem dX11_readNumber_28 : decode cX11_readNumber 28 = .ok (.aload_n 0, 1) := by decide +kernel
theorem dX11_readNumber_29 : decode cX11_readNumber 29 = .ok (.getfield 144, 3) := by decide +kernel
theorem dX11_readNumber_32 : decode cX11_readNumber 32 = .ok (.i2l, 1) := by decide +kernel
theorem dX11_readNumber_33 : decode cX11_readNumber 33 = .ok (.iload_n 1, 1) := by decide +kernel
theorem dX11_readNumber_34 : decode cX11_readNumber 34 = .ok (.i2l, 1) := by decide +kernel
theorem dX11_readNumber_35 : decode cX11_readNumber 35 = .ok (.iload_n 2, 1) := by decide +kernel
theorem dX11_readNumber_36 : decode cX11_readNumber 36 = .ok (.i2l, 1) := by decide +kernel
theorem dX11_readNumber_37 : decode cX11_readNumber 37 = .ok (.invokestatic 126, 3) := by decide +kernel
theorem dX11_readNumber_40 : decode cX11_readNumber 40 = .ok (.ifCond .ne 9, 3) := by decide +kernel
theorem dX11_readNumber_43 : decode cX11_readNumber 43 = .ok (.aload_n 0, 1) := by decide +kernel
theorem dX11_readNumber_44 : decode cX11_readNumber 44 = .ok (.iconst 4, 1) := by decide +kernel
theorem dX11_readNumber_45 : decode cX11_readNumber 45 = .ok (.invokevirtual 231, 3) := by decide +kernel
theorem dX11_readNumber_48 : decode cX11_readNumber 48 = .ok (.ireturn, 1) := by decide +kernel
theorem dX11_readNumber_49 : decode cX11_readNumber 49 = .ok (.aload_n 0, 1) := by decide +kernel
theorem dX11_readNumber_50 : decode cX11_readNumber 50 = .ok (.aload_n 0, 1) := by decide +kernel
theorem dX11_readNumber_51 : decode cX11_readNumber 51 = .ok (.getfield 144, 3) := by decide +kernel
theorem dX11_readNumber_54 : decode cX11_readNumber 54 = .ok (.putfield 237, 3) := by decide +kernel
theorem dX11_readNumber_57 : decode cX11_readNumber 57 = .ok (.aload_n 0, 1) := by decide +kernel
theorem dX11_readNumber_58 : decode cX11_readNumber 58 = .ok (.invokevirtual 234, 3) := by decide +kernel
theorem dX11_readNumber_61 : decode cX11_readNumber 61 = .ok (.iconst 1, 1) := by decide +kernel
theorem dX11_readNumber_62 : decode cX11_readNumber 62 = .ok (.ireturn, 1) := by decide +kernel
theorem dX11_placeOf_0 : decode cX11_placeOf 0 = .ok (.iconst 0, 1) := by decide +kernel
theorem dX11_placeOf_1 : decode cX11_placeOf 1 = .ok (.istore 5, 2) := by decide +kernel
theorem dX11_placeOf_3 : decode cX11_placeOf 3 = .ok (.iload 5, 2) := by decide +kernel
theorem dX11_placeOf_5 : decode cX11_placeOf 5 = .ok (.iload 4, 2) := by decide +kernel
theorem dX11_placeOf_7 : decode cX11_placeOf 7 = .ok (.if_icmp .ge 26, 3) := by decide +kernel
theorem dX11_placeOf_10 : decode cX11_placeOf 10 = .ok (.aload_n 0, 1) := by decide +kernel
theorem dX11_placeOf_11 : decode cX11_placeOf 11 = .ok (.getfield 18, 3) := by decide +kernel
theorem dX11_placeOf_14 : decode cX11_placeOf 14 = .ok (.iload_n 3, 1) := by decide +kernel
theorem dX11_placeOf_15 : decode cX11_placeOf 15 = .ok (.iload 5, 2) := by decide +kernel
theorem dX11_placeOf_17 : decode cX11_placeOf 17 = .ok (.iadd, 1) := by decide +kernel
theorem dX11_placeOf_18 : decode cX11_placeOf 18 = .ok (.laload, 1) := by decide +kernel
theorem dX11_placeOf_19 : decode cX11_placeOf 19 = .ok (.lload_n 1, 1) := by decide +kernel
theorem dX11_placeOf_20 : decode cX11_placeOf 20 = .ok (.lcmp, 1) := by decide +kernel
theorem dX11_placeOf_21 : decode cX11_placeOf 21 = .ok (.ifCond .ne 6, 3) := by decide +kernel
theorem dX11_placeOf_24 : decode cX11_placeOf 24 = .ok (.iload 5, 2) := by decide +kernel
theorem dX11_placeOf_26 : decode cX11_placeOf 26 = .ok (.ireturn, 1) := by decide +kernel
theorem dX11_placeOf_27 : decode cX11_placeOf 27 = .ok (.iinc 5 1, 3) := by decide +kernel
theorem dX11_placeOf_30 : decode cX11_placeOf 30 = .ok (.goto (-27), 3) := by decide +kernel
theorem dX11_placeOf_33 : decode cX11_placeOf 33 = .ok (.iconst (-1), 1) := by decide +kernel
theorem dX11_placeOf_34 : decode cX11_placeOf 34 = .ok (.ireturn, 1) := by decide +kernel
theorem dX11_begins_0 : decode cX11_begins 0 = .ok (.aload_n 0, 1) := by decide +kernel
theorem dX11_begins_1 : decode cX11_begins 1 = .ok (.iconst 0, 1) := by decide +kernel
theorem dX11_begins_2 : decode cX11_begins 2 = .ok (.putfield 130, 3) := by decide +kernel
theorem dX11_begins_5 : decode cX11_begins 5 = .ok (.aload_n 0, 1) := by decide +kernel
theorem dX11_begins_6 : decode cX11_begins 6 = .ok (.iconst 0, 1) := by decide +kernel
theorem dX11_begins_7 : decode cX11_begins 7 = .ok (.putfield 161, 3) := by decide +kernel
theorem dX11_begins_10 : decode cX11_begins 10 = .ok (.aload_n 0, 1) := by decide +kernel
theorem dX11_begins_11 : decode cX11_begins 11 = .ok (.iconst (-1), 1) := by decide +kernel
theorem dX11_begins_12 : decode cX11_begins 12 = .ok (.putfield 164, 3) := by decide +kernel
theorem dX11_begins_15 : decode cX11_begins 15 = .ok (.aload_n 0, 1) := by decide +kernel
theorem dX11_begins_16 : decode cX11_begins 16 = .ok (.invokevirtual 234, 3) := by decide +kernel
theorem dX11_begins_19 : decode cX11_begins 19 = .ok (.return_, 1) := by decide +kernel
theorem dX11_isRead_0 : decode cX11_isRead 0 = .ok (.aload_n 0, 1) := by decide +kernel
theorem dX11_isRead_1 : decode cX11_isRead 1 = .ok (.iconst 0, 1) := by decide +kernel
theorem dX11_isRead_2 : decode cX11_isRead 2 = .ok (.putfield 119, 3) := by decide +kernel
theorem dX11_isRead_5 : decode cX11_isRead 5 = .ok (.aload_n 0, 1) := by decide +kernel
theorem dX11_isRead_6 : decode cX11_isRead 6 = .ok (.aload_n 0, 1) := by decide +kernel
theorem dX11_isRead_7 : decode cX11_isRead 7 = .ok (.getfield 161, 3) := by decide +kernel
theorem dX11_isRead_10 : decode cX11_isRead 10 = .ok (.putfield 240, 3) := by decide +kernel
theorem dX11_isRead_13 : decode cX11_isRead 13 = .ok (.aload_n 0, 1) := by decide +kernel
theorem dX11_isRead_14 : decode cX11_isRead 14 = .ok (.aload_n 0, 1) := by decide +kernel
theorem dX11_isRead_15 : decode cX11_isRead 15 = .ok (.getfield 164, 3) := by decide +kernel
theorem dX11_isRead_18 : decode cX11_isRead 18 = .ok (.putfield 43, 3) := by decide +kernel
theorem dX11_isRead_21 : decode cX11_isRead 21 = .ok (.aload_n 0, 1) := by decide +kernel
theorem dX11_isRead_22 : decode cX11_isRead 22 = .ok (.getfield 161, 3) := by decide +kernel
theorem dX11_isRead_25 : decode cX11_isRead 25 = .ok (.ifCond .ne 7, 3) := by decide +kernel
theorem dX11_isRead_28 : decode cX11_isRead 28 = .ok (.iconst 1, 1) := by decide +kernel
theorem dX11_isRead_29 : decode cX11_isRead 29 = .ok (.goto 4, 3) := by decide +kernel
theorem dX11_isRead_32 : decode cX11_isRead 32 = .ok (.iconst 0, 1) := by decide +kernel
theorem dX11_isRead_33 : decode cX11_isRead 33 = .ok (.ireturn, 1) := by decide +kernel
theorem dX11_fault_0 : decode cX11_fault 0 = .ok (.iload_n 1, 1) := by decide +kernel
theorem dX11_fault_1 : decode cX11_fault 1 = .ok (.ifCond .ne 10, 3) := by decide +kernel
theorem dX11_fault_4 : decode cX11_fault 4 = .ok (.aload_n 0, 1) := by decide +kernel
theorem dX11_fault_5 : decode cX11_fault 5 = .ok (.getfield 240, 3) := by decide +kernel
theorem dX11_fault_8 : decode cX11_fault 8 = .ok (.goto 16, 3) := by decide +kernel
theorem dX11_fault_11 : decode cX11_fault 11 = .ok (.iload_n 1, 1) := by decide +kernel
theorem dX11_fault_12 : decode cX11_fault 12 = .ok (.iconst 1, 1) := by decide +kernel
theorem dX11_fault_13 : decode cX11_fault 13 = .ok (.if_icmp .ne 10, 3) := by decide +kernel
theorem dX11_fault_16 : decode cX11_fault 16 = .ok (.aload_n 0, 1) := by decide +kernel
theorem dX11_fault_17 : decode cX11_fault 17 = .ok (.getfield 43, 3) := by decide +kernel
theorem dX11_fault_20 : decode cX11_fault 20 = .ok (.goto 4, 3) := by decide +kernel
theorem dX11_fault_23 : decode cX11_fault 23 = .ok (.iconst (-1), 1) := by decide +kernel
theorem dX11_fault_24 : decode cX11_fault 24 = .ok (.ireturn, 1) := by decide +kernel
theorem dX11_readMember_0 : decode cX11_readMember 0 = .ok (.aload_n 0, 1) := by decide +kernel
theorem dX11_readMember_1 : decode cX11_readMember 1 = .ok (.getfield 94, 3) := by decide +kernel
theorem dX11_readMember_4 : decode cX11_readMember 4 = .ok (.bipush 12, 2) := by decide +kernel
theorem dX11_readMember_6 : decode cX11_readMember 6 = .ok (.if_icmp .ne 9, 3) := by decide +kernel
theorem dX11_readMember_9 : decode cX11_readMember 9 = .ok (.aload_n 0, 1) := by decide +kernel
theorem dX11_readMember_10 : decode cX11_readMember 10 = .ok (.iconst 5, 1) := by decide +kernel
theorem dX11_readMember_11 : decode cX11_readMember 11 = .ok (.invokevirtual 231, 3) := by decide +kernel
theorem dX11_readMember_14 : decode cX11_readMember 14 = .ok (.ireturn, 1) := by decide +kernel
theorem dX11_readMember_15 : decode cX11_readMember 15 = .ok (.aload_n 0, 1) := by decide +kernel
theorem dX11_readMember_16 : decode cX11_readMember 16 = .ok (.invokevirtual 234, 3) := by decide +kernel
theorem dX11_readMember_19 : decode cX11_readMember 19 = .ok (.aload_n 0, 1) := by decide +kernel
theorem dX11_readMember_20 : decode cX11_readMember 20 = .ok (.invokevirtual 243, 3) := by decide +kernel
theorem dX11_readMember_23 : decode cX11_readMember 23 = .ok (.ifCond .ne 9, 3) := by decide +kernel
theorem dX11_readMember_26 : decode cX11_readMember 26 = .ok (.aload_n 0, 1) := by decide +kernel
theorem dX11_readMember_27 : decode cX11_readMember 27 = .ok (.iconst 1, 1) := by decide +kernel
theorem dX11_readMember_28 : decode cX11_readMember 28 = .ok (.invokevirtual 231, 3) := by decide +kernel
theorem dX11_readMember_31 : decode cX11_readMember 31 = .ok (.ireturn, 1) := by decide +kernel
theorem dX11_readMember_32 : decode cX11_readMember 32 = .ok (.aload_n 0, 1) := by decide +kernel
theorem dX11_readMember_33 : decode cX11_readMember 33 = .ok (.aload_n 0, 1) := by decide +kernel
theorem dX11_readMember_34 : decode cX11_readMember 34 = .ok (.getfield 140, 3) := by decide +kernel
theorem dX11_readMember_37 : decode cX11_readMember 37 = .ok (.bipush 12, 2) := by decide +kernel
theorem dX11_readMember_39 : decode cX11_readMember 39 = .ok (.aload_n 0, 1) := by decide +kernel
theorem dX11_readMember_40 : decode cX11_readMember 40 = .ok (.getfield 94, 3) := by decide +kernel
theorem dX11_readMember_43 : decode cX11_readMember 43 = .ok (.invokevirtual 246, 3) := by decide +kernel
theorem dX11_readMember_46 : decode cX11_readMember 46 = .ok (.iconst (-1), 1) := by decide +kernel
theorem dX11_readMember_47 : decode cX11_readMember 47 = .ok (.if_icmp .eq 9, 3) := by decide +kernel
theorem dX11_readMember_50 : decode cX11_readMember 50 = .ok (.aload_n 0, 1) := by decide +kernel
theorem dX11_readMember_51 : decode cX11_readMember 51 = .ok (.iconst 2, 1) := by decide +kernel
theorem dX11_readMember_52 : decode cX11_readMember 52 = .ok (.invokevirtual 231, 3) := by decide +kernel
theorem dX11_readMember_55 : decode cX11_readMember 55 = .ok (.ireturn, 1) := by decide +kernel
theorem dX11_readMember_56 : decode cX11_readMember 56 = .ok (.aload_n 0, 1) := by decide +kernel
theorem dX11_readMember_57 : decode cX11_readMember 57 = .ok (.getfield 18, 3) := by decide +kernel
theorem dX11_readMember_60 : decode cX11_readMember 60 = .ok (.bipush 12, 2) := by decide +kernel
theorem dX11_readMember_62 : decode cX11_readMember 62 = .ok (.aload_n 0, 1) := by decide +kernel
theorem dX11_readMember_63 : decode cX11_readMember 63 = .ok (.getfield 94, 3) := by decide +kernel
theorem dX11_readMember_66 : decode cX11_readMember 66 = .ok (.iadd, 1) := by decide +kernel
theorem dX11_readMember_67 : decode cX11_readMember 67 = .ok (.aload_n 0, 1) := by decide +kernel
theorem dX11_readMember_68 : decode cX11_readMember 68 = .ok (.getfield 140, 3) := by decide +kernel
theorem dX11_readMember_71 : decode cX11_readMember 71 = .ok (.lastore, 1) := by decide +kernel
theorem dX11_readMember_72 : decode cX11_readMember 72 = .ok (.aload_n 0, 1) := by decide +kernel
theorem dX11_readMember_73 : decode cX11_readMember 73 = .ok (.dup, 1) := by decide +kernel
theorem dX11_readMember_74 : decode cX11_readMember 74 = .ok (.getfield 94, 3) := by decide +kernel
theorem dX11_readMember_77 : decode cX11_readMember 77 = .ok (.iconst 1, 1) := by decide +kernel
theorem dX11_readMember_78 : decode cX11_readMember 78 = .ok (.iadd, 1) := by decide +kernel
theorem dX11_readMember_79 : decode cX11_readMember 79 = .ok (.putfield 94, 3) := by decide +kernel
theorem dX11_readMember_82 : decode cX11_readMember 82 = .ok (.aload_n 0, 1) := by decide +kernel
theorem dX11_readMember_83 : decode cX11_readMember 83 = .ok (.invokevirtual 234, 3) := by decide +kernel
theorem dX11_readMember_86 : decode cX11_readMember 86 = .ok (.iconst 1, 1) := by decide +kernel
theorem dX11_readMember_87 : decode cX11_readMember 87 = .ok (.ireturn, 1) := by decide +kernel
theorem dX11_readFive_0 : decode cX11_readFive 0 = .ok (.aload_n 0, 1) := by decide +kernel
theorem dX11_readFive_1 : decode cX11_readFive 1 = .ok (.getfield 21, 3) := by decide +kernel
theorem dX11_readFive_4 : decode cX11_readFive 4 = .ok (.iload_n 1, 1) := by decide +kernel
theorem dX11_readFive_5 : decode cX11_readFive 5 = .ok (.iconst 0, 1) := by decide +kernel
theorem dX11_readFive_6 : decode cX11_readFive 6 = .ok (.iadd, 1) := by decide +kernel
theorem dX11_readFive_7 : decode cX11_readFive 7 = .ok (.iload_n 2, 1) := by decide +kernel
theorem dX11_readFive_8 : decode cX11_readFive 8 = .ok (.iastore, 1) := by decide +kernel
theorem dX11_readFive_9 : decode cX11_readFive 9 = .ok (.iconst 1, 1) := by decide +kernel
theorem dX11_readFive_10 : decode cX11_readFive 10 = .ok (.istore_n 3, 1) := by decide +kernel
theorem dX11_readFive_11 : decode cX11_readFive 11 = .ok (.iload_n 3, 1) := by decide +kernel
theorem dX11_readFive_12 : decode cX11_readFive 12 = .ok (.iconst 5, 1) := by decide +kernel
theorem dX11_readFive_13 : decode cX11_readFive 13 = .ok (.if_icmp .gt 72, 3) := by decide +kernel
theorem dX11_readFive_16 : decode cX11_readFive 16 = .ok (.aload_n 0, 1) := by decide +kernel
theorem dX11_readFive_17 : decode cX11_readFive 17 = .ok (.iload_n 3, 1) := by decide +kernel
theorem dX11_readFive_18 : decode cX11_readFive 18 = .ok (.iconst 4, 1) := by decide +kernel
theorem dX11_readFive_19 : decode cX11_readFive 19 = .ok (.if_icmp .ge 7, 3) := by decide +kernel
theorem dX11_readFive_22 : decode cX11_readFive 22 = .ok (.iconst 0, 1) := by decide +kernel
theorem dX11_readFive_23 : decode cX11_readFive 23 = .ok (.goto 4, 3) := by decide +kernel
theorem dX11_readFive_26 : decode cX11_readFive 26 = .ok (.iconst 1, 1) := by decide +kernel
theorem dX11_readFive_27 : decode cX11_readFive 27 = .ok (.iload_n 3, 1) := by decide +kernel
theorem dX11_readFive_28 : decode cX11_readFive 28 = .ok (.iconst 3, 1) := by decide +kernel
theorem dX11_readFive_29 : decode cX11_readFive 29 = .ok (.if_icmp .ge 8, 3) := by decide +kernel
theorem dX11_readFive_32 : decode cX11_readFive 32 = .ok (.bipush 7, 2) := by decide +kernel
theorem dX11_readFive_34 : decode cX11_readFive 34 = .ok (.goto 25, 3) := by decide +kernel
theorem dX11_readFive_37 : decode cX11_readFive 37 = .ok (.iload_n 3, 1) := by decide +kernel
theorem dX11_readFive_38 : decode cX11_readFive 38 = .ok (.iconst 3, 1) := by decide +kernel
theorem dX11_readFive_39 : decode cX11_readFive 39 = .ok (.if_icmp .ne 7, 3) := by decide +kernel
theorem dX11_readFive_42 : decode cX11_readFive 42 = .ok (.iconst 3, 1) := by decide +kernel
theorem dX11_readFive_43 : decode cX11_readFive 43 = .ok (.goto 16, 3) := by decide +kernel
theorem dX11_readFive_46 : decode cX11_readFive 46 = .ok (.iload_n 3, 1) := by decide +kernel
theorem dX11_readFive_47 : decode cX11_readFive 47 = .ok (.iconst 4, 1) := by decide +kernel
theorem dX11_readFive_48 : decode cX11_readFive 48 = .ok (.if_icmp .ne 8, 3) := by decide +kernel
theorem dX11_readFive_51 : decode cX11_readFive 51 = .ok (.bipush 99, 2) := by decide +kernel
theorem dX11_readFive_53 : decode cX11_readFive 53 = .ok (.goto 6, 3) := by decide +kernel
theorem dX11_readFive_56 : decode cX11_readFive 56 = .ok (.sipush 999, 3) := by decide +kernel
theorem dX11_readFive_59 : decode cX11_readFive 59 = .ok (.invokevirtual 250, 3) := by decide +kernel
theorem dX11_readFive_62 : decode cX11_readFive 62 = .ok (.ifCond .ne 5, 3) := by decide +kernel
theorem dX11_readFive_65 : decode cX11_readFive 65 = .ok (.iconst 0, 1) := by decide +kernel
theorem dX11_readFive_66 : decode cX11_readFive 66 = .ok (.ireturn, 1) := by decide +kernel
theorem dX11_readFive_67 : decode cX11_readFive 67 = .ok (.aload_n 0, 1) := by decide +kernel
theorem dX11_readFive_68 : decode cX11_readFive 68 = .ok (.getfield 21, 3) := by decide +kernel
theorem dX11_readFive_71 : decode cX11_readFive 71 = .ok (.iload_n 1, 1) := by decide +kernel
theorem dX11_readFive_72 : decode cX11_readFive 72 = .ok (.iload_n 3, 1) := by decide +kernel
theorem dX11_readFive_73 : decode cX11_readFive 73 = .ok (.iadd, 1) := by decide +kernel
theorem dX11_readFive_74 : decode cX11_readFive 74 = .ok (.aload_n 0, 1) := by decide +kernel
theorem dX11_readFive_75 : decode cX11_readFive 75 = .ok (.getfield 237, 3) := by decide +kernel
theorem dX11_readFive_78 : decode cX11_readFive 78 = .ok (.iastore, 1) := by decide +kernel
theorem dX11_readFive_79 : decode cX11_readFive 79 = .ok (.iinc 3 1, 3) := by decide +kernel
theorem dX11_readFive_82 : decode cX11_readFive 82 = .ok (.goto (-71), 3) := by decide +kernel
theorem dX11_readFive_85 : decode cX11_readFive 85 = .ok (.iconst 1, 1) := by decide +kernel
theorem dX11_readFive_86 : decode cX11_readFive 86 = .ok (.ireturn, 1) := by decide +kernel
theorem dX11_readField_0 : decode cX11_readField 0 = .ok (.aload_n 0, 1) := by decide +kernel
theorem dX11_readField_1 : decode cX11_readField 1 = .ok (.getfield 97, 3) := by decide +kernel
theorem dX11_readField_4 : decode cX11_readField 4 = .ok (.bipush 24, 2) := by decide +kernel
theorem dX11_readField_6 : decode cX11_readField 6 = .ok (.if_icmp .ne 9, 3) := by decide +kernel
theorem dX11_readField_9 : decode cX11_readField 9 = .ok (.aload_n 0, 1) := by decide +kernel
theorem dX11_readField_10 : decode cX11_readField 10 = .ok (.iconst 5, 1) := by decide +kernel
theorem dX11_readField_11 : decode cX11_readField 11 = .ok (.invokevirtual 231, 3) := by decide +kernel
theorem dX11_readField_14 : decode cX11_readField 14 = .ok (.ireturn, 1) := by decide +kernel
theorem dX11_readField_15 : decode cX11_readField 15 = .ok (.aload_n 0, 1) := by decide +kernel
theorem dX11_readField_16 : decode cX11_readField 16 = .ok (.invokevirtual 234, 3) := by decide +kernel
theorem dX11_readField_19 : decode cX11_readField 19 = .ok (.aload_n 0, 1) := by decide +kernel
theorem dX11_readField_20 : decode cX11_readField 20 = .ok (.invokevirtual 243, 3) := by decide +kernel
theorem dX11_readField_23 : decode cX11_readField 23 = .ok (.ifCond .ne 9, 3) := by decide +kernel
theorem dX11_readField_26 : decode cX11_readField 26 = .ok (.aload_n 0, 1) := by decide +kernel
theorem dX11_readField_27 : decode cX11_readField 27 = .ok (.iconst 1, 1) := by decide +kernel
theorem dX11_readField_28 : decode cX11_readField 28 = .ok (.invokevirtual 231, 3) := by decide +kernel
theorem dX11_readField_31 : decode cX11_readField 31 = .ok (.ireturn, 1) := by decide +kernel
theorem dX11_readField_32 : decode cX11_readField 32 = .ok (.aload_n 0, 1) := by decide +kernel
theorem dX11_readField_33 : decode cX11_readField 33 = .ok (.aload_n 0, 1) := by decide +kernel
theorem dX11_readField_34 : decode cX11_readField 34 = .ok (.getfield 140, 3) := by decide +kernel
theorem dX11_readField_37 : decode cX11_readField 37 = .ok (.bipush 12, 2) := by decide +kernel
theorem dX11_readField_39 : decode cX11_readField 39 = .ok (.aload_n 0, 1) := by decide +kernel
theorem dX11_readField_40 : decode cX11_readField 40 = .ok (.getfield 94, 3) := by decide +kernel
theorem dX11_readField_43 : decode cX11_readField 43 = .ok (.invokevirtual 246, 3) := by decide +kernel
theorem dX11_readField_46 : decode cX11_readField 46 = .ok (.istore_n 1, 1) := by decide +kernel
theorem dX11_readField_47 : decode cX11_readField 47 = .ok (.iload_n 1, 1) := by decide +kernel
theorem dX11_readField_48 : decode cX11_readField 48 = .ok (.iconst (-1), 1) := by decide +kernel
theorem dX11_readField_49 : decode cX11_readField 49 = .ok (.if_icmp .ne 9, 3) := by decide +kernel
theorem dX11_readField_52 : decode cX11_readField 52 = .ok (.aload_n 0, 1) := by decide +kernel
theorem dX11_readField_53 : decode cX11_readField 53 = .ok (.iconst 3, 1) := by decide +kernel
theorem dX11_readField_54 : decode cX11_readField 54 = .ok (.invokevirtual 231, 3) := by decide +kernel
theorem dX11_readField_57 : decode cX11_readField 57 = .ok (.ireturn, 1) := by decide +kernel
theorem dX11_readField_58 : decode cX11_readField 58 = .ok (.aload_n 0, 1) := by decide +kernel
theorem dX11_readField_59 : decode cX11_readField 59 = .ok (.invokevirtual 234, 3) := by decide +kernel
theorem dX11_readField_62 : decode cX11_readField 62 = .ok (.aload_n 0, 1) := by decide +kernel
theorem dX11_readField_63 : decode cX11_readField 63 = .ok (.bipush 6, 2) := by decide +kernel
theorem dX11_readField_65 : decode cX11_readField 65 = .ok (.bipush 24, 2) := by decide +kernel
theorem dX11_readField_67 : decode cX11_readField 67 = .ok (.aload_n 0, 1) := by decide +kernel
theorem dX11_readField_68 : decode cX11_readField 68 = .ok (.getfield 97, 3) := by decide +kernel
theorem dX11_readField_71 : decode cX11_readField 71 = .ok (.iadd, 1) := by decide +kernel
theorem dX11_readField_72 : decode cX11_readField 72 = .ok (.imul, 1) := by decide +kernel
theorem dX11_readField_73 : decode cX11_readField 73 = .ok (.iload_n 1, 1) := by decide +kernel
theorem dX11_readField_74 : decode cX11_readField 74 = .ok (.invokevirtual 254, 3) := by decide +kernel
theorem dX11_readField_77 : decode cX11_readField 77 = .ok (.ifCond .ne 5, 3) := by decide +kernel
theorem dX11_readField_80 : decode cX11_readField 80 = .ok (.iconst 0, 1) := by decide +kernel
theorem dX11_readField_81 : decode cX11_readField 81 = .ok (.ireturn, 1) := by decide +kernel
theorem dX11_readField_82 : decode cX11_readField 82 = .ok (.aload_n 0, 1) := by decide +kernel
theorem dX11_readField_83 : decode cX11_readField 83 = .ok (.dup, 1) := by decide +kernel
theorem dX11_readField_84 : decode cX11_readField 84 = .ok (.getfield 97, 3) := by decide +kernel
theorem dX11_readField_87 : decode cX11_readField 87 = .ok (.iconst 1, 1) := by decide +kernel
theorem dX11_readField_88 : decode cX11_readField 88 = .ok (.iadd, 1) := by decide +kernel
theorem dX11_readField_89 : decode cX11_readField 89 = .ok (.putfield 97, 3) := by decide +kernel
theorem dX11_readField_92 : decode cX11_readField 92 = .ok (.iconst 1, 1) := by decide +kernel
theorem dX11_readField_93 : decode cX11_readField 93 = .ok (.ireturn, 1) := by decide +kernel
theorem dX11_readHazard_0 : decode cX11_readHazard 0 = .ok (.aload_n 0, 1) := by decide +kernel
theorem dX11_readHazard_1 : decode cX11_readHazard 1 = .ok (.invokevirtual 234, 3) := by decide +kernel
theorem dX11_readHazard_4 : decode cX11_readHazard 4 = .ok (.aload_n 0, 1) := by decide +kernel
theorem dX11_readHazard_5 : decode cX11_readHazard 5 = .ok (.iconst 0, 1) := by decide +kernel
theorem dX11_readHazard_6 : decode cX11_readHazard 6 = .ok (.bipush 7, 2) := by decide +kernel
theorem dX11_readHazard_8 : decode cX11_readHazard 8 = .ok (.invokevirtual 250, 3) := by decide +kernel
theorem dX11_readHazard_11 : decode cX11_readHazard 11 = .ok (.ifCond .ne 5, 3) := by decide +kernel
theorem dX11_readHazard_14 : decode cX11_readHazard 14 = .ok (.iconst 0, 1) := by decide +kernel
theorem dX11_readHazard_15 : decode cX11_readHazard 15 = .ok (.ireturn, 1) := by decide +kernel
theorem dX11_readHazard_16 : decode cX11_readHazard 16 = .ok (.aload_n 0, 1) := by decide +kernel
theorem dX11_readHazard_17 : decode cX11_readHazard 17 = .ok (.getfield 237, 3) := by decide +kernel
theorem dX11_readHazard_20 : decode cX11_readHazard 20 = .ok (.istore_n 1, 1) := by decide +kernel
theorem dX11_readHazard_21 : decode cX11_readHazard 21 = .ok (.aload_n 0, 1) := by decide +kernel
theorem dX11_readHazard_22 : decode cX11_readHazard 22 = .ok (.iconst 0, 1) := by decide +kernel
theorem dX11_readHazard_23 : decode cX11_readHazard 23 = .ok (.bipush 7, 2) := by decide +kernel
theorem dX11_readHazard_25 : decode cX11_readHazard 25 = .ok (.invokevirtual 250, 3) := by decide +kernel
theorem dX11_readHazard_28 : decode cX11_readHazard 28 = .ok (.ifCond .ne 5, 3) := by decide +kernel
theorem dX11_readHazard_31 : decode cX11_readHazard 31 = .ok (.iconst 0, 1) := by decide +kernel
theorem dX11_readHazard_32 : decode cX11_readHazard 32 = .ok (.ireturn, 1) := by decide +kernel
theorem dX11_readHazard_33 : decode cX11_readHazard 33 = .ok (.aload_n 0, 1) := by decide +kernel
theorem dX11_readHazard_34 : decode cX11_readHazard 34 = .ok (.getfield 237, 3) := by decide +kernel
theorem dX11_readHazard_37 : decode cX11_readHazard 37 = .ok (.istore_n 2, 1) := by decide +kernel
theorem dX11_readHazard_38 : decode cX11_readHazard 38 = .ok (.aload_n 0, 1) := by decide +kernel
theorem dX11_readHazard_39 : decode cX11_readHazard 39 = .ok (.iload_n 1, 1) := by decide +kernel
theorem dX11_readHazard_40 : decode cX11_readHazard 40 = .ok (.bipush 7, 2) := by decide +kernel
theorem dX11_readHazard_42 : decode cX11_readHazard 42 = .ok (.invokevirtual 250, 3) := by decide +kernel
theorem dX11_readHazard_45 : decode cX11_readHazard 45 = .ok (.ifCond .ne 5, 3) := by decide +kernel
theorem dX11_readHazard_48 : decode cX11_readHazard 48 = .ok (.iconst 0, 1) := by decide +kernel
theorem dX11_readHazard_49 : decode cX11_readHazard 49 = .ok (.ireturn, 1) := by decide +kernel
theorem dX11_readHazard_50 : decode cX11_readHazard 50 = .ok (.aload_n 0, 1) := by decide +kernel
theorem dX11_readHazard_51 : decode cX11_readHazard 51 = .ok (.getfield 237, 3) := by decide +kernel
theorem dX11_readHazard_54 : decode cX11_readHazard 54 = .ok (.istore_n 3, 1) := by decide +kernel
theorem dX11_readHazard_55 : decode cX11_readHazard 55 = .ok (.aload_n 0, 1) := by decide +kernel
theorem dX11_readHazard_56 : decode cX11_readHazard 56 = .ok (.iload_n 2, 1) := by decide +kernel
theorem dX11_readHazard_57 : decode cX11_readHazard 57 = .ok (.bipush 7, 2) := by decide +kernel
theorem dX11_readHazard_59 : decode cX11_readHazard 59 = .ok (.invokevirtual 250, 3) := by decide +kernel
theorem dX11_readHazard_62 : decode cX11_readHazard 62 = .ok (.ifCond .ne 5, 3) := by decide +kernel
theorem dX11_readHazard_65 : decode cX11_readHazard 65 = .ok (.iconst 0, 1) := by decide +kernel
theorem dX11_readHazard_66 : decode cX11_readHazard 66 = .ok (.ireturn, 1) := by decide +kernel
theorem dX11_readHazard_67 : decode cX11_readHazard 67 = .ok (.aload_n 0, 1) := by decide +kernel
theorem dX11_readHazard_68 : decode cX11_readHazard 68 = .ok (.getfield 237, 3) := by decide +kernel
theorem dX11_readHazard_71 : decode cX11_readHazard 71 = .ok (.istore 4, 2) := by decide +kernel
theorem dX11_readHazard_73 : decode cX11_readHazard 73 = .ok (.aload_n 0, 1) := by decide +kernel
theorem dX11_readHazard_74 : decode cX11_readHazard 74 = .ok (.iconst 1, 1) := by decide +kernel
theorem dX11_readHazard_75 : decode cX11_readHazard 75 = .ok (.bipush 9, 2) := by decide +kernel
theorem dX11_readHazard_77 : decode cX11_readHazard 77 = .ok (.invokevirtual 250, 3) := by decide +kernel
theorem dX11_readHazard_80 : decode cX11_readHazard 80 = .ok (.ifCond .ne 5, 3) := by decide +kernel
theorem dX11_readHazard_83 : decode cX11_readHazard 83 = .ok (.iconst 0, 1) := by decide +kernel
theorem dX11_readHazard_84 : decode cX11_readHazard 84 = .ok (.ireturn, 1) := by decide +kernel
theorem dX11_readHazard_85 : decode cX11_readHazard 85 = .ok (.iload_n 2, 1) := by decide +kernel
theorem dX11_readHazard_86 : decode cX11_readHazard 86 = .ok (.istore 5, 2) := by decide +kernel
theorem dX11_readHazard_88 : decode cX11_readHazard 88 = .ok (.iload 5, 2) := by decide +kernel
theorem dX11_readHazard_90 : decode cX11_readHazard 90 = .ok (.iload 4, 2) := by decide +kernel
theorem dX11_readHazard_92 : decode cX11_readHazard 92 = .ok (.if_icmp .gt 44, 3) := by decide +kernel
theorem dX11_readHazard_95 : decode cX11_readHazard 95 = .ok (.iload_n 1, 1) := by decide +kernel
theorem dX11_readHazard_96 : decode cX11_readHazard 96 = .ok (.istore 6, 2) := by decide +kernel
theorem dX11_readHazard_98 : decode cX11_readHazard 98 = .ok (.iload 6, 2) := by decide +kernel
theorem dX11_readHazard_100 : decode cX11_readHazard 100 = .ok (.iload_n 3, 1) := by decide +kernel
theorem dX11_readHazard_101 : decode cX11_readHazard 101 = .ok (.if_icmp .gt 29, 3) := by decide +kernel
theorem dX11_readHazard_104 : decode cX11_readHazard 104 = .ok (.aload_n 0, 1) := by decide +kernel
theorem dX11_readHazard_105 : decode cX11_readHazard 105 = .ok (.getfield 25, 3) := by decide +kernel
theorem dX11_readHazard_108 : decode cX11_readHazard 108 = .ok (.bipush 64, 2) := by decide +kernel
theorem dX11_readHazard_110 : decode cX11_readHazard 110 = .ok (.bipush 8, 2) := by decide +kernel
theorem dX11_readHazard_112 : decode cX11_readHazard 112 = .ok (.iload 5, 2) := by decide +kernel
theorem dX11_readHazard_114 : decode cX11_readHazard 114 = .ok (.imul, 1) := by decide +kernel
theorem dX11_readHazard_115 : decode cX11_readHazard 115 = .ok (.iadd, 1) := by decide +kernel
theorem dX11_readHazard_116 : decode cX11_readHazard 116 = .ok (.iload 6, 2) := by decide +kernel
theorem dX11_readHazard_118 : decode cX11_readHazard 118 = .ok (.iadd, 1) := by decide +kernel
theorem dX11_readHazard_119 : decode cX11_readHazard 119 = .ok (.aload_n 0, 1) := by decide +kernel
theorem dX11_readHazard_120 : decode cX11_readHazard 120 = .ok (.getfield 237, 3) := by decide +kernel
theorem dX11_readHazard_123 : decode cX11_readHazard 123 = .ok (.iastore, 1) := by decide +kernel
theorem dX11_readHazard_124 : decode cX11_readHazard 124 = .ok (.iinc 6 1, 3) := by decide +kernel
theorem dX11_readHazard_127 : decode cX11_readHazard 127 = .ok (.goto (-29), 3) := by decide +kernel
theorem dX11_readHazard_130 : decode cX11_readHazard 130 = .ok (.iinc 5 1, 3) := by decide +kernel
theorem dX11_readHazard_133 : decode cX11_readHazard 133 = .ok (.goto (-45), 3) := by decide +kernel
theorem dX11_readHazard_136 : decode cX11_readHazard 136 = .ok (.iconst 1, 1) := by decide +kernel
theorem dX11_readHazard_137 : decode cX11_readHazard 137 = .ok (.ireturn, 1) := by decide +kernel
theorem dX11_readLine_0 : decode cX11_readLine 0 = .ok (.aload_n 0, 1) := by decide +kernel
theorem dX11_readLine_1 : decode cX11_readLine 1 = .ok (.ldc 196, 2) := by decide +kernel
theorem dX11_readLine_3 : decode cX11_readLine 3 = .ok (.invokevirtual 183, 3) := by decide +kernel
theorem dX11_readLine_6 : decode cX11_readLine 6 = .ok (.ifCond .eq 8, 3) := by decide +kernel
theorem dX11_readLine_9 : decode cX11_readLine 9 = .ok (.aload_n 0, 1) := by decide +kernel
theorem dX11_readLine_10 : decode cX11_readLine 10 = .ok (.invokevirtual 257, 3) := by decide +kernel
theorem dX11_readLine_13 : decode cX11_readLine 13 = .ok (.ireturn, 1) := by decide +kernel
theorem dX11_readLine_14 : decode cX11_readLine 14 = .ok (.aload_n 0, 1) := by decide +kernel
theorem dX11_readLine_15 : decode cX11_readLine 15 = .ok (.ldc 198, 2) := by decide +kernel
theorem dX11_readLine_17 : decode cX11_readLine 17 = .ok (.invokevirtual 183, 3) := by decide +kernel
theorem dX11_readLine_20 : decode cX11_readLine 20 = .ok (.ifCond .eq 8, 3) := by decide +kernel
theorem dX11_readLine_23 : decode cX11_readLine 23 = .ok (.aload_n 0, 1) := by decide +kernel
theorem dX11_readLine_24 : decode cX11_readLine 24 = .ok (.invokevirtual 260, 3) := by decide +kernel
theorem dX11_readLine_27 : decode cX11_readLine 27 = .ok (.ireturn, 1) := by decide +kernel
theorem dX11_readLine_28 : decode cX11_readLine 28 = .ok (.aload_n 0, 1) := by decide +kernel
theorem dX11_readLine_29 : decode cX11_readLine 29 = .ok (.ldc 187, 2) := by decide +kernel
theorem dX11_readLine_31 : decode cX11_readLine 31 = .ok (.invokevirtual 183, 3) := by decide +kernel
theorem dX11_readLine_34 : decode cX11_readLine 34 = .ok (.ifCond .eq 8, 3) := by decide +kernel
theorem dX11_readLine_37 : decode cX11_readLine 37 = .ok (.aload_n 0, 1) := by decide +kernel
theorem dX11_readLine_38 : decode cX11_readLine 38 = .ok (.invokevirtual 263, 3) := by decide +kernel
theorem dX11_readLine_41 : decode cX11_readLine 41 = .ok (.ireturn, 1) := by decide +kernel
theorem dX11_readLine_42 : decode cX11_readLine 42 = .ok (.aload_n 0, 1) := by decide +kernel
theorem dX11_readLine_43 : decode cX11_readLine 43 = .ok (.ldc 211, 2) := by decide +kernel
theorem dX11_readLine_45 : decode cX11_readLine 45 = .ok (.invokevirtual 183, 3) := by decide +kernel
theorem dX11_readLine_48 : decode cX11_readLine 48 = .ok (.ifCond .eq 8, 3) := by decide +kernel
theorem dX11_readLine_51 : decode cX11_readLine 51 = .ok (.aload_n 0, 1) := by decide +kernel
theorem dX11_readLine_52 : decode cX11_readLine 52 = .ok (.invokevirtual 266, 3) := by decide +kernel
theorem dX11_readLine_55 : decode cX11_readLine 55 = .ok (.ireturn, 1) := by decide +kernel
theorem dX11_readLine_56 : decode cX11_readLine 56 = .ok (.aload_n 0, 1) := by decide +kernel
theorem dX11_readLine_57 : decode cX11_readLine 57 = .ok (.ldc 191, 2) := by decide +kernel
theorem dX11_readLine_59 : decode cX11_readLine 59 = .ok (.invokevirtual 183, 3) := by decide +kernel
theorem dX11_readLine_62 : decode cX11_readLine 62 = .ok (.istore_n 1, 1) := by decide +kernel
theorem dX11_readLine_63 : decode cX11_readLine 63 = .ok (.aload_n 0, 1) := by decide +kernel
theorem dX11_readLine_64 : decode cX11_readLine 64 = .ok (.ldc 199, 2) := by decide +kernel
theorem dX11_readLine_66 : decode cX11_readLine 66 = .ok (.invokevirtual 183, 3) := by decide +kernel
theorem dX11_readLine_69 : decode cX11_readLine 69 = .ok (.istore_n 2, 1) := by decide +kernel
theorem dX11_readLine_70 : decode cX11_readLine 70 = .ok (.aload_n 0, 1) := by decide +kernel
theorem dX11_readLine_71 : decode cX11_readLine 71 = .ok (.ldc 201, 2) := by decide +kernel
theorem dX11_readLine_73 : decode cX11_readLine 73 = .ok (.invokevirtual 183, 3) := by decide +kernel
theorem dX11_readLine_76 : decode cX11_readLine 76 = .ok (.istore_n 3, 1) := by decide +kernel
theorem dX11_readLine_77 : decode cX11_readLine 77 = .ok (.aload_n 0, 1) := by decide +kernel
theorem dX11_readLine_78 : decode cX11_readLine 78 = .ok (.ldc 203, 2) := by decide +kernel
theorem dX11_readLine_80 : decode cX11_readLine 80 = .ok (.invokevirtual 183, 3) := by decide +kernel
theorem dX11_readLine_83 : decode cX11_readLine 83 = .ok (.istore 4, 2) := by decide +kernel
theorem dX11_readLine_85 : decode cX11_readLine 85 = .ok (.aload_n 0, 1) := by decide +kernel
theorem dX11_readLine_86 : decode cX11_readLine 86 = .ok (.ldc 205, 2) := by decide +kernel
theorem dX11_readLine_88 : decode cX11_readLine 88 = .ok (.invokevirtual 183, 3) := by decide +kernel
theorem dX11_readLine_91 : decode cX11_readLine 91 = .ok (.istore 5, 2) := by decide +kernel
theorem dX11_readLine_93 : decode cX11_readLine 93 = .ok (.aload_n 0, 1) := by decide +kernel
theorem dX11_readLine_94 : decode cX11_readLine 94 = .ok (.ldc 207, 2) := by decide +kernel
theorem dX11_readLine_96 : decode cX11_readLine 96 = .ok (.invokevirtual 183, 3) := by decide +kernel
theorem dX11_readLine_99 : decode cX11_readLine 99 = .ok (.istore 6, 2) := by decide +kernel
theorem dX11_readLine_101 : decode cX11_readLine 101 = .ok (.iload_n 1, 1) := by decide +kernel
theorem dX11_readLine_102 : decode cX11_readLine 102 = .ok (.ifCond .ne 41, 3) := by decide +kernel
theorem dX11_readLine_105 : decode cX11_readLine 105 = .ok (.iload_n 2, 1) := by decide +kernel
theorem dX11_readLine_106 : decode cX11_readLine 106 = .ok (.ifCond .ne 37, 3) := by decide +kernel
theorem dX11_readLine_109 : decode cX11_readLine 109 = .ok (.iload_n 3, 1) := by decide +kernel
theorem dX11_readLine_110 : decode cX11_readLine 110 = .ok (.ifCond .ne 33, 3) := by decide +kernel
theorem dX11_readLine_113 : decode cX11_readLine 113 = .ok (.iload 4, 2) := by decide +kernel
theorem dX11_readLine_115 : decode cX11_readLine 115 = .ok (.ifCond .ne 28, 3) := by decide +kernel
theorem dX11_readLine_118 : decode cX11_readLine 118 = .ok (.iload 5, 2) := by decide +kernel
theorem dX11_readLine_120 : decode cX11_readLine 120 = .ok (.ifCond .ne 23, 3) := by decide +kernel
theorem dX11_readLine_123 : decode cX11_readLine 123 = .ok (.iload 6, 2) := by decide +kernel
theorem dX11_readLine_125 : decode cX11_readLine 125 = .ok (.ifCond .ne 18, 3) := by decide +kernel
theorem dX11_readLine_128 : decode cX11_readLine 128 = .ok (.aload_n 0, 1) := by decide +kernel
theorem dX11_readLine_129 : decode cX11_readLine 129 = .ok (.ldc 209, 2) := by decide +kernel
theorem dX11_readLine_131 : decode cX11_readLine 131 = .ok (.invokevirtual 183, 3) := by decide +kernel
theorem dX11_readLine_134 : decode cX11_readLine 134 = .ok (.ifCond .ne 9, 3) := by decide +kernel
theorem dX11_readLine_137 : decode cX11_readLine 137 = .ok (.aload_n 0, 1) := by decide +kernel
theorem dX11_readLine_138 : decode cX11_readLine 138 = .ok (.iconst 1, 1) := by decide +kernel
theorem dX11_readLine_139 : decode cX11_readLine 139 = .ok (.invokevirtual 231, 3) := by decide +kernel
theorem dX11_readLine_142 : decode cX11_readLine 142 = .ok (.ireturn, 1) := by decide +kernel
theorem dX11_readLine_143 : decode cX11_readLine 143 = .ok (.aload_n 0, 1) := by decide +kernel
theorem dX11_readLine_144 : decode cX11_readLine 144 = .ok (.invokevirtual 234, 3) := by decide +kernel
theorem dX11_readLine_147 : decode cX11_readLine 147 = .ok (.aload_n 0, 1) := by decide +kernel
theorem dX11_readLine_148 : decode cX11_readLine 148 = .ok (.iconst 0, 1) := by decide +kernel
theorem dX11_readLine_149 : decode cX11_readLine 149 = .ok (.iload_n 1, 1) := by decide +kernel
theorem dX11_readLine_150 : decode cX11_readLine 150 = .ok (.ifCond .eq 7, 3) := by decide +kernel
theorem dX11_readLine_153 : decode cX11_readLine 153 = .ok (.iconst 3, 1) := by decide +kernel
theorem dX11_readLine_154 : decode cX11_readLine 154 = .ok (.goto 50, 3) := by decide +kernel
theorem dX11_readLine_157 : decode cX11_readLine 157 = .ok (.iload_n 2, 1) := by decide +kernel
theorem dX11_readLine_158 : decode cX11_readLine 158 = .ok (.ifCond .eq 9, 3) := by decide +kernel
theorem dX11_readLine_161 : decode cX11_readLine 161 = .ok (.sipush 999, 3) := by decide +kernel
theorem dX11_readLine_164 : decode cX11_readLine 164 = .ok (.goto 40, 3) := by decide +kernel
theorem dX11_readLine_167 : decode cX11_readLine 167 = .ok (.iload_n 3, 1) := by decide +kernel
theorem dX11_readLine_168 : decode cX11_readLine 168 = .ok (.ifCond .eq 9, 3) := by decide +kernel
theorem dX11_readLine_171 : decode cX11_readLine 171 = .ok (.ldc_w 269, 3) := by decide +kernel
theorem dX11_readLine_174 : decode cX11_readLine 174 = .ok (.goto 30, 3) := by decide +kernel
theorem dX11_readLine_177 : decode cX11_readLine 177 = .ok (.iload 4, 2) := by decide +kernel
theorem dX11_readLine_179 : decode cX11_readLine 179 = .ok (.ifCond .ne 8, 3) := by decide +kernel
theorem dX11_readLine_182 : decode cX11_readLine 182 = .ok (.iload 5, 2) := by decide +kernel
theorem dX11_readLine_184 : decode cX11_readLine 184 = .ok (.ifCond .eq 8, 3) := by decide +kernel
theorem dX11_readLine_187 : decode cX11_readLine 187 = .ok (.ldc 90, 2) := by decide +kernel
theorem dX11_readLine_189 : decode cX11_readLine 189 = .ok (.goto 15, 3) := by decide +kernel
theorem dX11_readLine_192 : decode cX11_readLine 192 = .ok (.iload 6, 2) := by decide +kernel
theorem dX11_readLine_194 : decode cX11_readLine 194 = .ok (.ifCond .eq 8, 3) := by decide +kernel
theorem dX11_readLine_197 : decode cX11_readLine 197 = .ok (.bipush 99, 2) := by decide +kernel
theorem dX11_readLine_199 : decode cX11_readLine 199 = .ok (.goto 5, 3) := by decide +kernel
theorem dX11_readLine_202 : decode cX11_readLine 202 = .ok (.bipush 100, 2) := by decide +kernel
theorem dX11_readLine_204 : decode cX11_readLine 204 = .ok (.invokevirtual 250, 3) := by decide +kernel
theorem dX11_readLine_207 : decode cX11_readLine 207 = .ok (.ifCond .ne 5, 3) := by decide +kernel
theorem dX11_readLine_210 : decode cX11_readLine 210 = .ok (.iconst 0, 1) := by decide +kernel
theorem dX11_readLine_211 : decode cX11_readLine 211 = .ok (.ireturn, 1) := by decide +kernel
theorem dX11_readLine_212 : decode cX11_readLine 212 = .ok (.aload_n 0, 1) := by decide +kernel
theorem dX11_readLine_213 : decode cX11_readLine 213 = .ok (.getfield 237, 3) := by decide +kernel
theorem dX11_readLine_216 : decode cX11_readLine 216 = .ok (.istore 7, 2) := by decide +kernel
theorem dX11_readLine_218 : decode cX11_readLine 218 = .ok (.iload_n 1, 1) := by decide +kernel
theorem dX11_readLine_219 : decode cX11_readLine 219 = .ok (.ifCond .ne 8, 3) := by decide +kernel
theorem dX11_readLine_222 : decode cX11_readLine 222 = .ok (.iload 5, 2) := by decide +kernel
theorem dX11_readLine_224 : decode cX11_readLine 224 = .ok (.ifCond .eq 55, 3) := by decide +kernel
theorem dX11_readLine_227 : decode cX11_readLine 227 = .ok (.aload_n 0, 1) := by decide +kernel
theorem dX11_readLine_228 : decode cX11_readLine 228 = .ok (.iconst 0, 1) := by decide +kernel
theorem dX11_readLine_229 : decode cX11_readLine 229 = .ok (.iload_n 1, 1) := by decide +kernel
theorem dX11_readLine_230 : decode cX11_readLine 230 = .ok (.ifCond .eq 9, 3) := by decide +kernel
theorem dX11_readLine_233 : decode cX11_readLine 233 = .ok (.sipush 200, 3) := by decide +kernel
theorem dX11_readLine_236 : decode cX11_readLine 236 = .ok (.goto 5, 3) := by decide +kernel
theorem dX11_readLine_239 : decode cX11_readLine 239 = .ok (.bipush 100, 2) := by decide +kernel
theorem dX11_readLine_241 : decode cX11_readLine 241 = .ok (.invokevirtual 250, 3) := by decide +kernel
theorem dX11_readLine_244 : decode cX11_readLine 244 = .ok (.ifCond .ne 5, 3) := by decide +kernel
theorem dX11_readLine_247 : decode cX11_readLine 247 = .ok (.iconst 0, 1) := by decide +kernel
theorem dX11_readLine_248 : decode cX11_readLine 248 = .ok (.ireturn, 1) := by decide +kernel
theorem dX11_readLine_249 : decode cX11_readLine 249 = .ok (.iload_n 1, 1) := by decide +kernel
theorem dX11_readLine_250 : decode cX11_readLine 250 = .ok (.ifCond .eq 19, 3) := by decide +kernel
theorem dX11_readLine_253 : decode cX11_readLine 253 = .ok (.aload_n 0, 1) := by decide +kernel
theorem dX11_readLine_254 : decode cX11_readLine 254 = .ok (.getfield 28, 3) := by decide +kernel
theorem dX11_readLine_257 : decode cX11_readLine 257 = .ok (.iconst 4, 1) := by decide +kernel
theorem dX11_readLine_258 : decode cX11_readLine 258 = .ok (.iload 7, 2) := by decide +kernel
theorem dX11_readLine_260 : decode cX11_readLine 260 = .ok (.iadd, 1) := by decide +kernel
theorem dX11_readLine_261 : decode cX11_readLine 261 = .ok (.aload_n 0, 1) := by decide +kernel
theorem dX11_readLine_262 : decode cX11_readLine 262 = .ok (.getfield 237, 3) := by decide +kernel
theorem dX11_readLine_265 : decode cX11_readLine 265 = .ok (.iastore, 1) := by decide +kernel
theorem dX11_readLine_266 : decode cX11_readLine 266 = .ok (.goto 13, 3) := by decide +kernel
theorem dX11_readLine_269 : decode cX11_readLine 269 = .ok (.aload_n 0, 1) := by decide +kernel
theorem dX11_readLine_270 : decode cX11_readLine 270 = .ok (.getfield 31, 3) := by decide +kernel
theorem dX11_readLine_273 : decode cX11_readLine 273 = .ok (.iconst 5, 1) := by decide +kernel
theorem dX11_readLine_274 : decode cX11_readLine 274 = .ok (.aload_n 0, 1) := by decide +kernel
theorem dX11_readLine_275 : decode cX11_readLine 275 = .ok (.getfield 237, 3) := by decide +kernel
theorem dX11_readLine_278 : decode cX11_readLine 278 = .ok (.iastore, 1) := by decide +kernel
theorem dX11_readLine_279 : decode cX11_readLine 279 = .ok (.iload 5, 2) := by decide +kernel
theorem dX11_readLine_281 : decode cX11_readLine 281 = .ok (.ifCond .eq 11, 3) := by decide +kernel
theorem dX11_readLine_284 : decode cX11_readLine 284 = .ok (.aload_n 0, 1) := by decide +kernel
theorem dX11_readLine_285 : decode cX11_readLine 285 = .ok (.getfield 31, 3) := by decide +kernel
theorem dX11_readLine_288 : decode cX11_readLine 288 = .ok (.iconst 4, 1) := by decide +kernel
theorem dX11_readLine_289 : decode cX11_readLine 289 = .ok (.iload 7, 2) := by decide +kernel
theorem dX11_readLine_291 : decode cX11_readLine 291 = .ok (.iastore, 1) := by decide +kernel
theorem dX11_readLine_292 : decode cX11_readLine 292 = .ok (.iload_n 2, 1) := by decide +kernel
theorem dX11_readLine_293 : decode cX11_readLine 293 = .ok (.ifCond .eq 12, 3) := by decide +kernel
theorem dX11_readLine_296 : decode cX11_readLine 296 = .ok (.aload_n 0, 1) := by decide +kernel
theorem dX11_readLine_297 : decode cX11_readLine 297 = .ok (.iload 7, 2) := by decide +kernel
theorem dX11_readLine_299 : decode cX11_readLine 299 = .ok (.putfield 100, 3) := by decide +kernel
theorem dX11_readLine_302 : decode cX11_readLine 302 = .ok (.goto 61, 3) := by decide +kernel
theorem dX11_readLine_305 : decode cX11_readLine 305 = .ok (.iload_n 3, 1) := by decide +kernel
theorem dX11_readLine_306 : decode cX11_readLine 306 = .ok (.ifCond .eq 12, 3) := by decide +kernel
theorem dX11_readLine_309 : decode cX11_readLine 309 = .ok (.aload_n 0, 1) := by decide +kernel
theorem dX11_readLine_310 : decode cX11_readLine 310 = .ok (.iload 7, 2) := by decide +kernel
theorem dX11_readLine_312 : decode cX11_readLine 312 = .ok (.putfield 103, 3) := by decide +kernel
theorem dX11_readLine_315 : decode cX11_readLine 315 = .ok (.goto 48, 3) := by decide +kernel
theorem dX11_readLine_318 : decode cX11_readLine 318 = .ok (.iload 4, 2) := by decide +kernel
theorem dX11_readLine_320 : decode cX11_readLine 320 = .ok (.ifCond .eq 14, 3) := by decide +kernel
theorem dX11_readLine_323 : decode cX11_readLine 323 = .ok (.aload_n 0, 1) := by decide +kernel
theorem dX11_readLine_324 : decode cX11_readLine 324 = .ok (.getfield 31, 3) := by decide +kernel
theorem dX11_readLine_327 : decode cX11_readLine 327 = .ok (.iconst 3, 1) := by decide +kernel
theorem dX11_readLine_328 : decode cX11_readLine 328 = .ok (.iload 7, 2) := by decide +kernel
theorem dX11_readLine_330 : decode cX11_readLine 330 = .ok (.iastore, 1) := by decide +kernel
theorem dX11_readLine_331 : decode cX11_readLine 331 = .ok (.goto 32, 3) := by decide +kernel
theorem dX11_readLine_334 : decode cX11_readLine 334 = .ok (.iload 6, 2) := by decide +kernel
theorem dX11_readLine_336 : decode cX11_readLine 336 = .ok (.ifCond .eq 12, 3) := by decide +kernel
theorem dX11_readLine_339 : decode cX11_readLine 339 = .ok (.aload_n 0, 1) := by decide +kernel
theorem dX11_readLine_340 : decode cX11_readLine 340 = .ok (.iload 7, 2) := by decide +kernel
theorem dX11_readLine_342 : decode cX11_readLine 342 = .ok (.putfield 106, 3) := by decide +kernel
theorem dX11_readLine_345 : decode cX11_readLine 345 = .ok (.goto 18, 3) := by decide +kernel
theorem dX11_readLine_348 : decode cX11_readLine 348 = .ok (.iload_n 1, 1) := by decide +kernel
theorem dX11_readLine_349 : decode cX11_readLine 349 = .ok (.ifCond .ne 14, 3) := by decide +kernel
theorem dX11_readLine_352 : decode cX11_readLine 352 = .ok (.iload 5, 2) := by decide +kernel
theorem dX11_readLine_354 : decode cX11_readLine 354 = .ok (.ifCond .ne 9, 3) := by decide +kernel
theorem dX11_readLine_357 : decode cX11_readLine 357 = .ok (.aload_n 0, 1) := by decide +kernel
theorem dX11_readLine_358 : decode cX11_readLine 358 = .ok (.iload 7, 2) := by decide +kernel
theorem dX11_readLine_360 : decode cX11_readLine 360 = .ok (.putfield 109, 3) := by decide +kernel
theorem dX11_readLine_363 : decode cX11_readLine 363 = .ok (.iconst 1, 1) := by decide +kernel
theorem dX11_readLine_364 : decode cX11_readLine 364 = .ok (.ireturn, 1) := by decide +kernel
theorem dX11_book_0 : decode cX11_book 0 = .ok (.aload_n 0, 1) := by decide +kernel
theorem dX11_book_1 : decode cX11_book 1 = .ok (.invokevirtual 81, 3) := by decide +kernel
theorem dX11_book_4 : decode cX11_book 4 = .ok (.aload_n 0, 1) := by decide +kernel
theorem dX11_book_5 : decode cX11_book 5 = .ok (.invokevirtual 270, 3) := by decide +kernel
theorem dX11_book_8 : decode cX11_book 8 = .ok (.aload_n 0, 1) := by decide +kernel
theorem dX11_book_9 : decode cX11_book 9 = .ok (.getfield 150, 3) := by decide +kernel
theorem dX11_book_12 : decode cX11_book 12 = .ok (.ifCond .eq 7, 3) := by decide +kernel
theorem dX11_book_15 : decode cX11_book 15 = .ok (.iconst 1, 1) := by decide +kernel
theorem dX11_book_16 : decode cX11_book 16 = .ok (.goto 4, 3) := by decide +kernel
theorem dX11_book_19 : decode cX11_book 19 = .ok (.iconst 0, 1) := by decide +kernel
theorem dX11_book_20 : decode cX11_book 20 = .ok (.istore_n 1, 1) := by decide +kernel
theorem dX11_book_21 : decode cX11_book 21 = .ok (.iload_n 1, 1) := by decide +kernel
theorem dX11_book_22 : decode cX11_book 22 = .ok (.ifCond .eq 35, 3) := by decide +kernel
theorem dX11_book_25 : decode cX11_book 25 = .ok (.aload_n 0, 1) := by decide +kernel
theorem dX11_book_26 : decode cX11_book 26 = .ok (.invokevirtual 273, 3) := by decide +kernel
theorem dX11_book_29 : decode cX11_book 29 = .ok (.ifCond .eq 23, 3) := by decide +kernel
theorem dX11_book_32 : decode cX11_book 32 = .ok (.aload_n 0, 1) := by decide +kernel
theorem dX11_book_33 : decode cX11_book 33 = .ok (.bipush 59, 2) := by decide +kernel
theorem dX11_book_35 : decode cX11_book 35 = .ok (.invokevirtual 276, 3) := by decide +kernel
theorem dX11_book_38 : decode cX11_book 38 = .ok (.ifCond .eq 14, 3) := by decide +kernel
theorem dX11_book_41 : decode cX11_book 41 = .ok (.aload_n 0, 1) := by decide +kernel
theorem dX11_book_42 : decode cX11_book 42 = .ok (.getfield 150, 3) := by decide +kernel
theorem dX11_book_45 : decode cX11_book 45 = .ok (.ifCond .eq 7, 3) := by decide +kernel
theorem dX11_book_48 : decode cX11_book 48 = .ok (.iconst 1, 1) := by decide +kernel
theorem dX11_book_49 : decode cX11_book 49 = .ok (.goto 4, 3) := by decide +kernel
theorem dX11_book_52 : decode cX11_book 52 = .ok (.iconst 0, 1) := by decide +kernel
theorem dX11_book_53 : decode cX11_book 53 = .ok (.istore_n 1, 1) := by decide +kernel
theorem dX11_book_54 : decode cX11_book 54 = .ok (.goto (-33), 3) := by decide +kernel
theorem dX11_book_57 : decode cX11_book 57 = .ok (.aload_n 0, 1) := by decide +kernel
theorem dX11_book_58 : decode cX11_book 58 = .ok (.invokevirtual 279, 3) := by decide +kernel
theorem dX11_book_61 : decode cX11_book 61 = .ok (.ifCond .ne 5, 3) := by decide +kernel
theorem dX11_book_64 : decode cX11_book 64 = .ok (.iconst (-1), 1) := by decide +kernel
theorem dX11_book_65 : decode cX11_book 65 = .ok (.ireturn, 1) := by decide +kernel
theorem dX11_book_66 : decode cX11_book 66 = .ok (.aload_n 0, 1) := by decide +kernel
theorem dX11_book_67 : decode cX11_book 67 = .ok (.invokevirtual 84, 3) := by decide +kernel
theorem dX11_book_70 : decode cX11_book 70 = .ok (.aload_n 0, 1) := by decide +kernel
theorem dX11_book_71 : decode cX11_book 71 = .ok (.getfield 97, 3) := by decide +kernel
theorem dX11_book_74 : decode cX11_book 74 = .ok (.ireturn, 1) := by decide +kernel
theorem dX11_puts_0 : decode cX11_puts 0 = .ok (.aload_n 0, 1) := by decide +kernel
theorem dX11_puts_1 : decode cX11_puts 1 = .ok (.getfield 37, 3) := by decide +kernel
theorem dX11_puts_4 : decode cX11_puts 4 = .ok (.sipush 700, 3) := by decide +kernel
theorem dX11_puts_7 : decode cX11_puts 7 = .ok (.aload_n 0, 1) := by decide +kernel
theorem dX11_puts_8 : decode cX11_puts 8 = .ok (.getfield 91, 3) := by decide +kernel
theorem dX11_puts_11 : decode cX11_puts 11 = .ok (.iadd, 1) := by decide +kernel
theorem dX11_puts_12 : decode cX11_puts 12 = .ok (.iload_n 1, 1) := by decide +kernel
theorem dX11_puts_13 : decode cX11_puts 13 = .ok (.iastore, 1) := by decide +kernel
theorem dX11_puts_14 : decode cX11_puts 14 = .ok (.aload_n 0, 1) := by decide +kernel
theorem dX11_puts_15 : decode cX11_puts 15 = .ok (.getfield 34, 3) := by decide +kernel
theorem dX11_puts_18 : decode cX11_puts 18 = .ok (.sipush 700, 3) := by decide +kernel
theorem dX11_puts_21 : decode cX11_puts 21 = .ok (.aload_n 0, 1) := by decide +kernel
theorem dX11_puts_22 : decode cX11_puts 22 = .ok (.getfield 91, 3) := by decide +kernel
theorem dX11_puts_25 : decode cX11_puts 25 = .ok (.iadd, 1) := by decide +kernel
theorem dX11_puts_26 : decode cX11_puts 26 = .ok (.lload_n 2, 1) := by decide +kernel
theorem dX11_puts_27 : decode cX11_puts 27 = .ok (.lastore, 1) := by decide +kernel
theorem dX11_puts_28 : decode cX11_puts 28 = .ok (.aload_n 0, 1) := by decide +kernel
theorem dX11_puts_29 : decode cX11_puts 29 = .ok (.dup, 1) := by decide +kernel
theorem dX11_puts_30 : decode cX11_puts 30 = .ok (.getfield 91, 3) := by decide +kernel
theorem dX11_puts_33 : decode cX11_puts 33 = .ok (.iconst 1, 1) := by decide +kernel
theorem dX11_puts_34 : decode cX11_puts 34 = .ok (.iadd, 1) := by decide +kernel
theorem dX11_puts_35 : decode cX11_puts 35 = .ok (.putfield 91, 3) := by decide +kernel
theorem dX11_puts_38 : decode cX11_puts 38 = .ok (.return_, 1) := by decide +kernel
theorem dX11_readPay_0 : decode cX11_readPay 0 = .ok (.aload_n 0, 1) := by decide +kernel
theorem dX11_readPay_1 : decode cX11_readPay 1 = .ok (.getfield 112, 3) := by decide +kernel
theorem dX11_readPay_4 : decode cX11_readPay 4 = .ok (.ifCond .eq 9, 3) := by decide +kernel
theorem dX11_readPay_7 : decode cX11_readPay 7 = .ok (.aload_n 0, 1) := by decide +kernel
theorem dX11_readPay_8 : decode cX11_readPay 8 = .ok (.iconst 5, 1) := by decide +kernel
theorem dX11_readPay_9 : decode cX11_readPay 9 = .ok (.invokevirtual 231, 3) := by decide +kernel
theorem dX11_readPay_12 : decode cX11_readPay 12 = .ok (.ireturn, 1) := by decide +kernel
theorem dX11_readPay_13 : decode cX11_readPay 13 = .ok (.aload_n 0, 1) := by decide +kernel
theorem dX11_readPay_14 : decode cX11_readPay 14 = .ok (.iconst 1, 1) := by decide +kernel
theorem dX11_readPay_15 : decode cX11_readPay 15 = .ok (.putfield 112, 3) := by decide +kernel
theorem dX11_readPay_18 : decode cX11_readPay 18 = .ok (.aload_n 0, 1) := by decide +kernel
theorem dX11_readPay_19 : decode cX11_readPay 19 = .ok (.invokevirtual 234, 3) := by decide +kernel
theorem dX11_readPay_22 : decode cX11_readPay 22 = .ok (.aload_n 0, 1) := by decide +kernel
theorem dX11_readPay_23 : decode cX11_readPay 23 = .ok (.iconst 0, 1) := by decide +kernel
theorem dX11_readPay_24 : decode cX11_readPay 24 = .ok (.putfield 282, 3) := by decide +kernel
theorem dX11_readPay_27 : decode cX11_readPay 27 = .ok (.aload_n 0, 1) := by decide +kernel
theorem dX11_readPay_28 : decode cX11_readPay 28 = .ok (.invokevirtual 285, 3) := by decide +kernel
theorem dX11_readPay_31 : decode cX11_readPay 31 = .ok (.ireturn, 1) := by decide +kernel
theorem dX11_opens_0 : decode cX11_opens 0 = .ok (.aload_n 0, 1) := by decide +kernel
theorem dX11_opens_1 : decode cX11_opens 1 = .ok (.bipush 40, 2) := by decide +kernel
theorem dX11_opens_3 : decode cX11_opens 3 = .ok (.invokevirtual 227, 3) := by decide +kernel
theorem dX11_opens_6 : decode cX11_opens 6 = .ok (.ifCond .ne 9, 3) := by decide +kernel
theorem dX11_opens_9 : decode cX11_opens 9 = .ok (.aload_n 0, 1) := by decide +kernel
theorem dX11_opens_10 : decode cX11_opens 10 = .ok (.iconst 1, 1) := by decide +kernel
theorem dX11_opens_11 : decode cX11_opens 11 = .ok (.invokevirtual 231, 3) := by decide +kernel
theorem dX11_opens_14 : decode cX11_opens 14 = .ok (.ireturn, 1) := by decide +kernel
theorem dX11_opens_15 : decode cX11_opens 15 = .ok (.aload_n 0, 1) := by decide +kernel
theorem dX11_opens_16 : decode cX11_opens 16 = .ok (.getfield 282, 3) := by decide +kernel
theorem dX11_opens_19 : decode cX11_opens 19 = .ok (.bipush 8, 2) := by decide +kernel
theorem dX11_opens_21 : decode cX11_opens 21 = .ok (.if_icmp .ne 9, 3) := by decide +kernel
theorem dX11_opens_24 : decode cX11_opens 24 = .ok (.aload_n 0, 1) := by decide +kernel
theorem dX11_opens_25 : decode cX11_opens 25 = .ok (.iconst 5, 1) := by decide +kernel
theorem dX11_opens_26 : decode cX11_opens 26 = .ok (.invokevirtual 231, 3) := by decide +kernel
theorem dX11_opens_29 : decode cX11_opens 29 = .ok (.ireturn, 1) := by decide +kernel
theorem dX11_opens_30 : decode cX11_opens 30 = .ok (.aload_n 0, 1) := by decide +kernel
theorem dX11_opens_31 : decode cX11_opens 31 = .ok (.dup, 1) := by decide +kernel
theorem dX11_opens_32 : decode cX11_opens 32 = .ok (.getfield 282, 3) := by decide +kernel
theorem dX11_opens_35 : decode cX11_opens 35 = .ok (.iconst 1, 1) := by decide +kernel
theorem dX11_opens_36 : decode cX11_opens 36 = .ok (.iadd, 1) := by decide +kernel
theorem dX11_opens_37 : decode cX11_opens 37 = .ok (.putfield 282, 3) := by decide +kernel
theorem dX11_opens_40 : decode cX11_opens 40 = .ok (.aload_n 0, 1) := by decide +kernel
theorem dX11_opens_41 : decode cX11_opens 41 = .ok (.invokevirtual 234, 3) := by decide +kernel
theorem dX11_opens_44 : decode cX11_opens 44 = .ok (.iconst 1, 1) := by decide +kernel
theorem dX11_opens_45 : decode cX11_opens 45 = .ok (.ireturn, 1) := by decide +kernel
theorem dX11_closes_0 : decode cX11_closes 0 = .ok (.aload_n 0, 1) := by decide +kernel
theorem dX11_closes_1 : decode cX11_closes 1 = .ok (.bipush 41, 2) := by decide +kernel
theorem dX11_closes_3 : decode cX11_closes 3 = .ok (.invokevirtual 276, 3) := by decide +kernel
theorem dX11_closes_6 : decode cX11_closes 6 = .ok (.ifCond .ne 5, 3) := by decide +kernel
theorem dX11_closes_9 : decode cX11_closes 9 = .ok (.iconst 0, 1) := by decide +kernel
theorem dX11_closes_10 : decode cX11_closes 10 = .ok (.ireturn, 1) := by decide +kernel
theorem dX11_closes_11 : decode cX11_closes 11 = .ok (.aload_n 0, 1) := by decide +kernel
theorem dX11_closes_12 : decode cX11_closes 12 = .ok (.dup, 1) := by decide +kernel
theorem dX11_closes_13 : decode cX11_closes 13 = .ok (.getfield 282, 3) := by decide +kernel
theorem dX11_closes_16 : decode cX11_closes 16 = .ok (.iconst 1, 1) := by decide +kernel
theorem dX11_closes_17 : decode cX11_closes 17 = .ok (.isub, 1) := by decide +kernel
theorem dX11_closes_18 : decode cX11_closes 18 = .ok (.putfield 282, 3) := by decide +kernel
theorem dX11_closes_21 : decode cX11_closes 21 = .ok (.iconst 1, 1) := by decide +kernel
theorem dX11_closes_22 : decode cX11_closes 22 = .ok (.ireturn, 1) := by decide +kernel
theorem dX11_readSum_0 : decode cX11_readSum 0 = .ok (.aload_n 0, 1) := by decide +kernel
theorem dX11_readSum_1 : decode cX11_readSum 1 = .ok (.invokevirtual 288, 3) := by decide +kernel
theorem dX11_readSum_4 : decode cX11_readSum 4 = .ok (.ifCond .ne 5, 3) := by decide +kernel
theorem dX11_readSum_7 : decode cX11_readSum 7 = .ok (.iconst 0, 1) := by decide +kernel
theorem dX11_readSum_8 : decode cX11_readSum 8 = .ok (.ireturn, 1) := by decide +kernel
theorem dX11_readSum_9 : decode cX11_readSum 9 = .ok (.aload_n 0, 1) := by decide +kernel
theorem dX11_readSum_10 : decode cX11_readSum 10 = .ok (.bipush 43, 2) := by decide +kernel
theorem dX11_readSum_12 : decode cX11_readSum 12 = .ok (.invokevirtual 227, 3) := by decide +kernel
theorem dX11_readSum_15 : decode cX11_readSum 15 = .ok (.ifCond .ne 12, 3) := by decide +kernel
theorem dX11_readSum_18 : decode cX11_readSum 18 = .ok (.aload_n 0, 1) := by decide +kernel
theorem dX11_readSum_19 : decode cX11_readSum 19 = .ok (.bipush 45, 2) := by decide +kernel
theorem dX11_readSum_21 : decode cX11_readSum 21 = .ok (.invokevirtual 227, 3) := by decide +kernel
theorem dX11_readSum_24 : decode cX11_readSum 24 = .ok (.ifCond .eq 30, 3) := by decide +kernel
theorem dX11_readSum_27 : decode cX11_readSum 27 = .ok (.aload_n 0, 1) := by decide +kernel
theorem dX11_readSum_28 : decode cX11_readSum 28 = .ok (.getfield 147, 3) := by decide +kernel
theorem dX11_readSum_31 : decode cX11_readSum 31 = .ok (.istore_n 1, 1) := by decide +kernel
theorem dX11_readSum_32 : decode cX11_readSum 32 = .ok (.aload_n 0, 1) := by decide +kernel
theorem dX11_readSum_33 : decode cX11_readSum 33 = .ok (.invokevirtual 234, 3) := by decide +kernel
theorem dX11_readSum_36 : decode cX11_readSum 36 = .ok (.aload_n 0, 1) := by decide +kernel
theorem dX11_readSum_37 : decode cX11_readSum 37 = .ok (.invokevirtual 288, 3) := by decide +kernel
theorem dX11_readSum_40 : decode cX11_readSum 40 = .ok (.ifCond .ne 5, 3) := by decide +kernel
theorem dX11_readSum_43 : decode cX11_readSum 43 = .ok (.iconst 0, 1) := by decide +kernel
theorem dX11_readSum_44 : decode cX11_readSum 44 = .ok (.ireturn, 1) := by decide +kernel
theorem dX11_readSum_45 : decode cX11_readSum 45 = .ok (.aload_n 0, 1) := by decide +kernel
theorem dX11_readSum_46 : decode cX11_readSum 46 = .ok (.iload_n 1, 1) := by decide +kernel
theorem dX11_readSum_47 : decode cX11_readSum 47 = .ok (.lconst 0, 1) := by decide +kernel
theorem dX11_readSum_48 : decode cX11_readSum 48 = .ok (.invokevirtual 291, 3) := by decide +kernel
theorem dX11_readSum_51 : decode cX11_readSum 51 = .ok (.goto (-42), 3) := by decide +kernel
theorem dX11_readSum_54 : decode cX11_readSum 54 = .ok (.iconst 1, 1) := by decide +kernel
theorem dX11_readSum_55 : decode cX11_readSum 55 = .ok (.ireturn, 1) := by decide +kernel
theorem dX11_readProduct_0 : decode cX11_readProduct 0 = .ok (.aload_n 0, 1) := by decide +kernel
theorem dX11_readProduct_1 : decode cX11_readProduct 1 = .ok (.invokevirtual 295, 3) := by decide +kernel
theorem dX11_readProduct_4 : decode cX11_readProduct 4 = .ok (.ifCond .ne 5, 3) := by decide +kernel
theorem dX11_readProduct_7 : decode cX11_readProduct 7 = .ok (.iconst 0, 1) := by decide +kernel
theorem dX11_readProduct_8 : decode cX11_readProduct 8 = .ok (.ireturn, 1) := by decide +kernel
theorem dX11_readProduct_9 : decode cX11_readProduct 9 = .ok (.aload_n 0, 1) := by decide +kernel
theorem dX11_readProduct_10 : decode cX11_readProduct 10 = .ok (.bipush 42, 2) := by decide +kernel
theorem dX11_readProduct_12 : decode cX11_readProduct 12 = .ok (.invokevirtual 227, 3) := by decide +kernel
theorem dX11_readProduct_15 : decode cX11_readProduct 15 = .ok (.ifCond .ne 12, 3) := by decide +kernel
theorem dX11_readProduct_18 : decode cX11_readProduct 18 = .ok (.aload_n 0, 1) := by decide +kernel
theorem dX11_readProduct_19 : decode cX11_readProduct 19 = .ok (.bipush 47, 2) := by decide +kernel
theorem dX11_readProduct_21 : decode cX11_readProduct 21 = .ok (.invokevirtual 227, 3) := by decide +kernel
theorem dX11_readProduct_24 : decode cX11_readProduct 24 = .ok (.ifCond .eq 30, 3) := by decide +kernel
theorem dX11_readProduct_27 : decode cX11_readProduct 27 = .ok (.aload_n 0, 1) := by decide +kernel
theorem dX11_readProduct_28 : decode cX11_readProduct 28 = .ok (.getfield 147, 3) := by decide +kernel
theorem dX11_readProduct_31 : decode cX11_readProduct 31 = .ok (.istore_n 1, 1) := by decide +kernel
theorem dX11_readProduct_32 : decode cX11_readProduct 32 = .ok (.aload_n 0, 1) := by decide +kernel
theorem dX11_readProduct_33 : decode cX11_readProduct 33 = .ok (.invokevirtual 234, 3) := by decide +kernel
theorem dX11_readProduct_36 : decode cX11_readProduct 36 = .ok (.aload_n 0, 1) := by decide +kernel
theorem dX11_readProduct_37 : decode cX11_readProduct 37 = .ok (.invokevirtual 295, 3) := by decide +kernel
theorem dX11_readProduct_40 : decode cX11_readProduct 40 = .ok (.ifCond .ne 5, 3) := by decide +kernel
theorem dX11_readProduct_43 : decode cX11_readProduct 43 = .ok (.iconst 0, 1) := by decide +kernel
theorem dX11_readProduct_44 : decode cX11_readProduct 44 = .ok (.ireturn, 1) := by decide +kernel
theorem dX11_readProduct_45 : decode cX11_readProduct 45 = .ok (.aload_n 0, 1) := by decide +kernel
theorem dX11_readProduct_46 : decode cX11_readProduct 46 = .ok (.iload_n 1, 1) := by decide +kernel
theorem dX11_readProduct_47 : decode cX11_readProduct 47 = .ok (.lconst 0, 1) := by decide +kernel
theorem dX11_readProduct_48 : decode cX11_readProduct 48 = .ok (.invokevirtual 291, 3) := by decide +kernel
theorem dX11_readProduct_51 : decode cX11_readProduct 51 = .ok (.goto (-42), 3) := by decide +kernel
theorem dX11_readProduct_54 : decode cX11_readProduct 54 = .ok (.iconst 1, 1) := by decide +kernel
theorem dX11_readProduct_55 : decode cX11_readProduct 55 = .ok (.ireturn, 1) := by decide +kernel
theorem dX11_readPart_0 : decode cX11_readPart 0 = .ok (.aload_n 0, 1) := by decide +kernel
theorem dX11_readPart_1 : decode cX11_readPart 1 = .ok (.getfield 150, 3) := by decide +kernel
theorem dX11_readPart_4 : decode cX11_readPart 4 = .ok (.iconst 2, 1) := by decide +kernel
theorem dX11_readPart_5 : decode cX11_readPart 5 = .ok (.if_icmp .ne 28, 3) := by decide +kernel
theorem dX11_readPart_8 : decode cX11_readPart 8 = .ok (.aload_n 0, 1) := by decide +kernel
theorem dX11_readPart_9 : decode cX11_readPart 9 = .ok (.iconst 0, 1) := by decide +kernel
theorem dX11_readPart_10 : decode cX11_readPart 10 = .ok (.ldc_w 269, 3) := by decide +kernel
theorem dX11_readPart_13 : decode cX11_readPart 13 = .ok (.invokevirtual 250, 3) := by decide +kernel
theorem dX11_readPart_16 : decode cX11_readPart 16 = .ok (.ifCond .ne 5, 3) := by decide +kernel
theorem dX11_readPart_19 : decode cX11_readPart 19 = .ok (.iconst 0, 1) := by decide +kernel
theorem dX11_readPart_20 : decode cX11_readPart 20 = .ok (.ireturn, 1) := by decide +kernel
theorem dX11_readPart_21 : decode cX11_readPart 21 = .ok (.aload_n 0, 1) := by decide +kernel
theorem dX11_readPart_22 : decode cX11_readPart 22 = .ok (.iconst 0, 1) := by decide +kernel
theorem dX11_readPart_23 : decode cX11_readPart 23 = .ok (.aload_n 0, 1) := by decide +kernel
theorem dX11_readPart_24 : decode cX11_readPart 24 = .ok (.getfield 237, 3) := by decide +kernel
theorem dX11_readPart_27 : decode cX11_readPart 27 = .ok (.i2l, 1) := by decide +kernel
theorem dX11_readPart_28 : decode cX11_readPart 28 = .ok (.invokevirtual 291, 3) := by decide +kernel
theorem dX11_readPart_31 : decode cX11_readPart 31 = .ok (.iconst 1, 1) := by decide +kernel
theorem dX11_readPart_32 : decode cX11_readPart 32 = .ok (.ireturn, 1) := by decide +kernel
theorem dX11_readPart_33 : decode cX11_readPart 33 = .ok (.aload_n 0, 1) := by decide +kernel
theorem dX11_readPart_34 : decode cX11_readPart 34 = .ok (.invokevirtual 193, 3) := by decide +kernel
theorem dX11_readPart_37 : decode cX11_readPart 37 = .ok (.iconst (-1), 1) := by decide +kernel
theorem dX11_readPart_38 : decode cX11_readPart 38 = .ok (.if_icmp .eq 19, 3) := by decide +kernel
theorem dX11_readPart_41 : decode cX11_readPart 41 = .ok (.aload_n 0, 1) := by decide +kernel
theorem dX11_readPart_42 : decode cX11_readPart 42 = .ok (.iconst 1, 1) := by decide +kernel
theorem dX11_readPart_43 : decode cX11_readPart 43 = .ok (.aload_n 0, 1) := by decide +kernel
theorem dX11_readPart_44 : decode cX11_readPart 44 = .ok (.invokevirtual 193, 3) := by decide +kernel
theorem dX11_readPart_47 : decode cX11_readPart 47 = .ok (.i2l, 1) := by decide +kernel
theorem dX11_readPart_48 : decode cX11_readPart 48 = .ok (.invokevirtual 291, 3) := by decide +kernel
theorem dX11_readPart_51 : decode cX11_readPart 51 = .ok (.aload_n 0, 1) := by decide +kernel
theorem dX11_readPart_52 : decode cX11_readPart 52 = .ok (.invokevirtual 234, 3) := by decide +kernel
theorem dX11_readPart_55 : decode cX11_readPart 55 = .ok (.iconst 1, 1) := by decide +kernel
theorem dX11_readPart_56 : decode cX11_readPart 56 = .ok (.ireturn, 1) := by decide +kernel
theorem dX11_readPart_57 : decode cX11_readPart 57 = .ok (.aload_n 0, 1) := by decide +kernel
theorem dX11_readPart_58 : decode cX11_readPart 58 = .ok (.ldc 213, 2) := by decide +kernel
theorem dX11_readPart_60 : decode cX11_readPart 60 = .ok (.invokevirtual 183, 3) := by decide +kernel
theorem dX11_readPart_63 : decode cX11_readPart 63 = .ok (.ifCond .eq 7, 3) := by decide +kernel
theorem dX11_readPart_66 : decode cX11_readPart 66 = .ok (.iconst 2, 1) := by decide +kernel
theorem dX11_readPart_67 : decode cX11_readPart 67 = .ok (.goto 30, 3) := by decide +kernel
theorem dX11_readPart_70 : decode cX11_readPart 70 = .ok (.aload_n 0, 1) := by decide +kernel
theorem dX11_readPart_71 : decode cX11_readPart 71 = .ok (.ldc 215, 2) := by decide +kernel
theorem dX11_readPart_73 : decode cX11_readPart 73 = .ok (.invokevirtual 183, 3) := by decide +kernel
theorem dX11_readPart_76 : decode cX11_readPart 76 = .ok (.ifCond .eq 7, 3) := by decide +kernel
theorem dX11_readPart_79 : decode cX11_readPart 79 = .ok (.iconst 3, 1) := by decide +kernel
theorem dX11_readPart_80 : decode cX11_readPart 80 = .ok (.goto 17, 3) := by decide +kernel
theorem dX11_readPart_83 : decode cX11_readPart 83 = .ok (.aload_n 0, 1) := by decide +kernel
theorem dX11_readPart_84 : decode cX11_readPart 84 = .ok (.ldc 217, 2) := by decide +kernel
theorem dX11_readPart_86 : decode cX11_readPart 86 = .ok (.invokevirtual 183, 3) := by decide +kernel
theorem dX11_readPart_89 : decode cX11_readPart 89 = .ok (.ifCond .eq 7, 3) := by decide +kernel
theorem dX11_readPart_92 : decode cX11_readPart 92 = .ok (.iconst 4, 1) := by decide +kernel
theorem dX11_readPart_93 : decode cX11_readPart 93 = .ok (.goto 4, 3) := by decide +kernel
theorem dX11_readPart_96 : decode cX11_readPart 96 = .ok (.iconst (-1), 1) := by decide +kernel
theorem dX11_readPart_97 : decode cX11_readPart 97 = .ok (.istore_n 1, 1) := by decide +kernel
theorem dX11_readPart_98 : decode cX11_readPart 98 = .ok (.iload_n 1, 1) := by decide +kernel
theorem dX11_readPart_99 : decode cX11_readPart 99 = .ok (.iconst (-1), 1) := by decide +kernel
theorem dX11_readPart_100 : decode cX11_readPart 100 = .ok (.if_icmp .ne 30, 3) := by decide +kernel
theorem dX11_readPart_103 : decode cX11_readPart 103 = .ok (.aload_n 0, 1) := by decide +kernel
theorem dX11_readPart_104 : decode cX11_readPart 104 = .ok (.invokevirtual 298, 3) := by decide +kernel
theorem dX11_readPart_107 : decode cX11_readPart 107 = .ok (.ifCond .eq 21, 3) := by decide +kernel
theorem dX11_readPart_110 : decode cX11_readPart 110 = .ok (.aload_n 0, 1) := by decide +kernel
theorem dX11_readPart_111 : decode cX11_readPart 111 = .ok (.invokevirtual 285, 3) := by decide +kernel
theorem dX11_readPart_114 : decode cX11_readPart 114 = .ok (.ifCond .eq 14, 3) := by decide +kernel
theorem dX11_readPart_117 : decode cX11_readPart 117 = .ok (.aload_n 0, 1) := by decide +kernel
theorem dX11_readPart_118 : decode cX11_readPart 118 = .ok (.invokevirtual 301, 3) := by decide +kernel
theorem dX11_readPart_121 : decode cX11_readPart 121 = .ok (.ifCond .eq 7, 3) := by decide +kernel
theorem dX11_readPart_124 : decode cX11_readPart 124 = .ok (.iconst 1, 1) := by decide +kernel
theorem dX11_readPart_125 : decode cX11_readPart 125 = .ok (.goto 4, 3) := by decide +kernel
theorem dX11_readPart_128 : decode cX11_readPart 128 = .ok (.iconst 0, 1) := by decide +kernel
theorem dX11_readPart_129 : decode cX11_readPart 129 = .ok (.ireturn, 1) := by decide +kernel
theorem dX11_readPart_130 : decode cX11_readPart 130 = .ok (.aload_n 0, 1) := by decide +kernel
theorem dX11_readPart_131 : decode cX11_readPart 131 = .ok (.invokevirtual 234, 3) := by decide +kernel
theorem dX11_readPart_134 : decode cX11_readPart 134 = .ok (.aload_n 0, 1) := by decide +kernel
theorem dX11_readPart_135 : decode cX11_readPart 135 = .ok (.invokevirtual 298, 3) := by decide +kernel
theorem dX11_readPart_138 : decode cX11_readPart 138 = .ok (.ifCond .eq 26, 3) := by decide +kernel
theorem dX11_readPart_141 : decode cX11_readPart 141 = .ok (.aload_n 0, 1) := by decide +kernel
theorem dX11_readPart_142 : decode cX11_readPart 142 = .ok (.invokevirtual 285, 3) := by decide +kernel
theorem dX11_readPart_145 : decode cX11_readPart 145 = .ok (.ifCond .eq 19, 3) := by decide +kernel
theorem dX11_readPart_148 : decode cX11_readPart 148 = .ok (.aload_n 0, 1) := by decide +kernel
theorem dX11_readPart_149 : decode cX11_readPart 149 = .ok (.bipush 44, 2) := by decide +kernel
theorem dX11_readPart_151 : decode cX11_readPart 151 = .ok (.invokevirtual 276, 3) := by decide +kernel
theorem dX11_readPart_154 : decode cX11_readPart 154 = .ok (.ifCond .eq 10, 3) := by decide +kernel
theorem dX11_readPart_157 : decode cX11_readPart 157 = .ok (.aload_n 0, 1) := by decide +kernel
theorem dX11_readPart_158 : decode cX11_readPart 158 = .ok (.invokevirtual 285, 3) := by decide +kernel
theorem dX11_readPart_161 : decode cX11_readPart 161 = .ok (.ifCond .ne 5, 3) := by decide +kernel
theorem dX11_readPart_164 : decode cX11_readPart 164 = .ok (.iconst 0, 1) := by decide +kernel
theorem dX11_readPart_165 : decode cX11_readPart 165 = .ok (.ireturn, 1) := by decide +kernel
theorem dX11_readPart_166 : decode cX11_readPart 166 = .ok (.iload_n 1, 1) := by decide +kernel
theorem dX11_readPart_167 : decode cX11_readPart 167 = .ok (.iconst 4, 1) := by decide +kernel
theorem dX11_readPart_168 : decode cX11_readPart 168 = .ok (.if_icmp .ne 21, 3) := by decide +kernel
theorem dX11_readPart_171 : decode cX11_readPart 171 = .ok (.aload_n 0, 1) := by decide +kernel
theorem dX11_readPart_172 : decode cX11_readPart 172 = .ok (.bipush 44, 2) := by decide +kernel
theorem dX11_readPart_174 : decode cX11_readPart 174 = .ok (.invokevirtual 276, 3) := by decide +kernel
theorem dX11_readPart_177 : decode cX11_readPart 177 = .ok (.ifCond .eq 10, 3) := by decide +kernel
theorem dX11_readPart_180 : decode cX11_readPart 180 = .ok (.aload_n 0, 1) := by decide +kernel
theorem dX11_readPart_181 : decode cX11_readPart 181 = .ok (.invokevirtual 285, 3) := by decide +kernel
theorem dX11_readPart_184 : decode cX11_readPart 184 = .ok (.ifCond .ne 5, 3) := by decide +kernel
theorem dX11_readPart_187 : decode cX11_readPart 187 = .ok (.iconst 0, 1) := by decide +kernel
theorem dX11_readPart_188 : decode cX11_readPart 188 = .ok (.ireturn, 1) := by decide +kernel
theorem dX11_readPart_189 : decode cX11_readPart 189 = .ok (.aload_n 0, 1) := by decide +kernel
theorem dX11_readPart_190 : decode cX11_readPart 190 = .ok (.invokevirtual 301, 3) := by decide +kernel
theorem dX11_readPart_193 : decode cX11_readPart 193 = .ok (.ifCond .ne 5, 3) := by decide +kernel
theorem dX11_readPart_196 : decode cX11_readPart 196 = .ok (.iconst 0, 1) := by decide +kernel
theorem dX11_readPart_197 : decode cX11_readPart 197 = .ok (.ireturn, 1) := by decide +kernel
theorem dX11_readPart_198 : decode cX11_readPart 198 = .ok (.aload_n 0, 1) := by decide +kernel
theorem dX11_readPart_199 : decode cX11_readPart 199 = .ok (.iload_n 1, 1) := by decide +kernel
theorem dX11_readPart_200 : decode cX11_readPart 200 = .ok (.lconst 0, 1) := by decide +kernel
theorem dX11_readPart_201 : decode cX11_readPart 201 = .ok (.invokevirtual 291, 3) := by decide +kernel
theorem dX11_readPart_204 : decode cX11_readPart 204 = .ok (.iconst 1, 1) := by decide +kernel
theorem dX11_readPart_205 : decode cX11_readPart 205 = .ok (.ireturn, 1) := by decide +kernel
theorem dX11_lawTells_0 : decode cX11_lawTells 0 = .ok (.iconst 0, 1) := by decide +kernel
theorem dX11_lawTells_1 : decode cX11_lawTells 1 = .ok (.istore_n 1, 1) := by decide +kernel
theorem dX11_lawTells_2 : decode cX11_lawTells 2 = .ok (.iconst 0, 1) := by decide +kernel
theorem dX11_lawTells_3 : decode cX11_lawTells 3 = .ok (.istore_n 2, 1) := by decide +kernel
theorem dX11_lawTells_4 : decode cX11_lawTells 4 = .ok (.iload_n 2, 1) := by decide +kernel
theorem dX11_lawTells_5 : decode cX11_lawTells 5 = .ok (.aload_n 0, 1) := by decide +kernel
theorem dX11_lawTells_6 : decode cX11_lawTells 6 = .ok (.getfield 116, 3) := by decide +kernel
theorem dX11_lawTells_9 : decode cX11_lawTells 9 = .ok (.if_icmp .ge 140, 3) := by decide +kernel
theorem dX11_lawTells_12 : decode cX11_lawTells 12 = .ok (.aload_n 0, 1) := by decide +kernel
theorem dX11_lawTells_13 : decode cX11_lawTells 13 = .ok (.getfield 37, 3) := by decide +kernel
theorem dX11_lawTells_16 : decode cX11_lawTells 16 = .ok (.iload_n 2, 1) := by decide +kernel
theorem dX11_lawTells_17 : decode cX11_lawTells 17 = .ok (.iaload, 1) := by decide +kernel
theorem dX11_lawTells_18 : decode cX11_lawTells 18 = .ok (.istore_n 3, 1) := by decide +kernel
theorem dX11_lawTells_19 : decode cX11_lawTells 19 = .ok (.iload_n 3, 1) := by decide +kernel
theorem dX11_lawTells_20 : decode cX11_lawTells 20 = .ok (.ifCond .eq 8, 3) := by decide +kernel
theorem dX11_lawTells_23 : decode cX11_lawTells 23 = .ok (.iload_n 3, 1) := by decide +kernel
theorem dX11_lawTells_24 : decode cX11_lawTells 24 = .ok (.iconst 1, 1) := by decide +kernel
theorem dX11_lawTells_25 : decode cX11_lawTells 25 = .ok (.if_icmp .ne 40, 3) := by decide +kernel
theorem dX11_lawTells_28 : decode cX11_lawTells 28 = .ok (.aload_n 0, 1) := by decide +kernel
theorem dX11_lawTells_29 : decode cX11_lawTells 29 = .ok (.getfield 47, 3) := by decide +kernel
theorem dX11_lawTells_32 : decode cX11_lawTells 32 = .ok (.iload_n 1, 1) := by decide +kernel
theorem dX11_lawTells_33 : decode cX11_lawTells 33 = .ok (.iload_n 3, 1) := by decide +kernel
theorem dX11_lawTells_34 : decode cX11_lawTells 34 = .ok (.ifCond .ne 12, 3) := by decide +kernel
theorem dX11_lawTells_37 : decode cX11_lawTells 37 = .ok (.aload_n 0, 1) := by decide +kernel
theorem dX11_lawTells_38 : decode cX11_lawTells 38 = .ok (.getfield 34, 3) := by decide +kernel
theorem dX11_lawTells_41 : decode cX11_lawTells 41 = .ok (.iload_n 2, 1) := by decide +kernel
theorem dX11_lawTells_42 : decode cX11_lawTells 42 = .ok (.laload, 1) := by decide +kernel
theorem dX11_lawTells_43 : decode cX11_lawTells 43 = .ok (.goto 15, 3) := by decide +kernel
theorem dX11_lawTells_46 : decode cX11_lawTells 46 = .ok (.aload_n 0, 1) := by decide +kernel
theorem dX11_lawTells_47 : decode cX11_lawTells 47 = .ok (.getfield 50, 3) := by decide +kernel
theorem dX11_lawTells_50 : decode cX11_lawTells 50 = .ok (.aload_n 0, 1) := by decide +kernel
theorem dX11_lawTells_51 : decode cX11_lawTells 51 = .ok (.getfield 34, 3) := by decide +kernel
theorem dX11_lawTells_54 : decode cX11_lawTells 54 = .ok (.iload_n 2, 1) := by decide +kernel
theorem dX11_lawTells_55 : decode cX11_lawTells 55 = .ok (.laload, 1) := by decide +kernel
theorem dX11_lawTells_56 : decode cX11_lawTells 56 = .ok (.l2i, 1) := by decide +kernel
theorem dX11_lawTells_57 : decode cX11_lawTells 57 = .ok (.laload, 1) := by decide +kernel
theorem dX11_lawTells_58 : decode cX11_lawTells 58 = .ok (.lastore, 1) := by decide +kernel
theorem dX11_lawTells_59 : decode cX11_lawTells 59 = .ok (.iinc 1 1, 3) := by decide +kernel
theorem dX11_lawTells_62 : decode cX11_lawTells 62 = .ok (.goto 81, 3) := by decide +kernel
theorem dX11_lawTells_65 : decode cX11_lawTells 65 = .ok (.iload_n 3, 1) := by decide +kernel
theorem dX11_lawTells_66 : decode cX11_lawTells 66 = .ok (.iconst 4, 1) := by decide +kernel
theorem dX11_lawTells_67 : decode cX11_lawTells 67 = .ok (.if_icmp .ne 47, 3) := by decide +kernel
theorem dX11_lawTells_70 : decode cX11_lawTells 70 = .ok (.iinc 1 (-2), 3) := by decide +kernel
theorem dX11_lawTells_73 : decode cX11_lawTells 73 = .ok (.aload_n 0, 1) := by decide +kernel
theorem dX11_lawTells_74 : decode cX11_lawTells 74 = .ok (.getfield 47, 3) := by decide +kernel
theorem dX11_lawTells_77 : decode cX11_lawTells 77 = .ok (.iload_n 1, 1) := by decide +kernel
theorem dX11_lawTells_78 : decode cX11_lawTells 78 = .ok (.iconst 1, 1) := by decide +kernel
theorem dX11_lawTells_79 : decode cX11_lawTells 79 = .ok (.isub, 1) := by decide +kernel
theorem dX11_lawTells_80 : decode cX11_lawTells 80 = .ok (.aload_n 0, 1) := by decide +kernel
theorem dX11_lawTells_81 : decode cX11_lawTells 81 = .ok (.getfield 47, 3) := by decide +kernel
theorem dX11_lawTells_84 : decode cX11_lawTells 84 = .ok (.iload_n 1, 1) := by decide +kernel
theorem dX11_lawTells_85 : decode cX11_lawTells 85 = .ok (.iconst 1, 1) := by decide +kernel
theorem dX11_lawTells_86 : decode cX11_lawTells 86 = .ok (.isub, 1) := by decide +kernel
theorem dX11_lawTells_87 : decode cX11_lawTells 87 = .ok (.laload, 1) := by decide +kernel
theorem dX11_lawTells_88 : decode cX11_lawTells 88 = .ok (.lconst 0, 1) := by decide +kernel
theorem dX11_lawTells_89 : decode cX11_lawTells 89 = .ok (.lcmp, 1) := by decide +kernel
theorem dX11_lawTells_90 : decode cX11_lawTells 90 = .ok (.ifCond .le 12, 3) := by decide +kernel
theorem dX11_lawTells_93 : decode cX11_lawTells 93 = .ok (.aload_n 0, 1) := by decide +kernel
theorem dX11_lawTells_94 : decode cX11_lawTells 94 = .ok (.getfield 47, 3) := by decide +kernel
theorem dX11_lawTells_97 : decode cX11_lawTells 97 = .ok (.iload_n 1, 1) := by decide +kernel
theorem dX11_lawTells_98 : decode cX11_lawTells 98 = .ok (.laload, 1) := by decide +kernel
theorem dX11_lawTells_99 : decode cX11_lawTells 99 = .ok (.goto 11, 3) := by decide +kernel
theorem dX11_lawTells_102 : decode cX11_lawTells 102 = .ok (.aload_n 0, 1) := by decide +kernel
theorem dX11_lawTells_103 : decode cX11_lawTells 103 = .ok (.getfield 47, 3) := by decide +kernel
theorem dX11_lawTells_106 : decode cX11_lawTells 106 = .ok (.iload_n 1, 1) := by decide +kernel
theorem dX11_lawTells_107 : decode cX11_lawTells 107 = .ok (.iconst 1, 1) := by decide +kernel
theorem dX11_lawTells_108 : decode cX11_lawTells 108 = .ok (.iadd, 1) := by decide +kernel
theorem dX11_lawTells_109 : decode cX11_lawTells 109 = .ok (.laload, 1) := by decide +kernel
theorem dX11_lawTells_110 : decode cX11_lawTells 110 = .ok (.lastore, 1) := by decide +kernel
theorem dX11_lawTells_111 : decode cX11_lawTells 111 = .ok (.goto 32, 3) := by decide +kernel
theorem dX11_lawTells_114 : decode cX11_lawTells 114 = .ok (.iinc 1 (-1), 3) := by decide +kernel
theorem dX11_lawTells_117 : decode cX11_lawTells 117 = .ok (.aload_n 0, 1) := by decide +kernel
theorem dX11_lawTells_118 : decode cX11_lawTells 118 = .ok (.getfield 47, 3) := by decide +kernel
theorem dX11_lawTells_121 : decode cX11_lawTells 121 = .ok (.iload_n 1, 1) := by decide +kernel
theorem dX11_lawTells_122 : decode cX11_lawTells 122 = .ok (.iconst 1, 1) := by decide +kernel
theorem dX11_lawTells_123 : decode cX11_lawTells 123 = .ok (.isub, 1) := by decide +kernel
theorem dX11_lawTells_124 : decode cX11_lawTells 124 = .ok (.iload_n 3, 1) := by decide +kernel
theorem dX11_lawTells_125 : decode cX11_lawTells 125 = .ok (.aload_n 0, 1) := by decide +kernel
theorem dX11_lawTells_126 : decode cX11_lawTells 126 = .ok (.getfield 47, 3) := by decide +kernel
theorem dX11_lawTells_129 : decode cX11_lawTells 129 = .ok (.iload_n 1, 1) := by decide +kernel
theorem dX11_lawTells_130 : decode cX11_lawTells 130 = .ok (.iconst 1, 1) := by decide +kernel
theorem dX11_lawTells_131 : decode cX11_lawTells 131 = .ok (.isub, 1) := by decide +kernel
theorem dX11_lawTells_132 : decode cX11_lawTells 132 = .ok (.laload, 1) := by decide +kernel
theorem dX11_lawTells_133 : decode cX11_lawTells 133 = .ok (.aload_n 0, 1) := by decide +kernel
theorem dX11_lawTells_134 : decode cX11_lawTells 134 = .ok (.getfield 47, 3) := by decide +kernel
theorem dX11_lawTells_137 : decode cX11_lawTells 137 = .ok (.iload_n 1, 1) := by decide +kernel
theorem dX11_lawTells_138 : decode cX11_lawTells 138 = .ok (.laload, 1) := by decide +kernel
theorem dX11_lawTells_139 : decode cX11_lawTells 139 = .ok (.invokestatic 304, 3) := by decide +kernel
theorem dX11_lawTells_142 : decode cX11_lawTells 142 = .ok (.lastore, 1) := by decide +kernel
theorem dX11_lawTells_143 : decode cX11_lawTells 143 = .ok (.iinc 2 1, 3) := by decide +kernel
theorem dX11_lawTells_146 : decode cX11_lawTells 146 = .ok (.goto (-142), 3) := by decide +kernel
theorem dX11_lawTells_149 : decode cX11_lawTells 149 = .ok (.aload_n 0, 1) := by decide +kernel
theorem dX11_lawTells_150 : decode cX11_lawTells 150 = .ok (.getfield 47, 3) := by decide +kernel
theorem dX11_lawTells_153 : decode cX11_lawTells 153 = .ok (.iconst 0, 1) := by decide +kernel
theorem dX11_lawTells_154 : decode cX11_lawTells 154 = .ok (.laload, 1) := by decide +kernel
theorem dX11_lawTells_155 : decode cX11_lawTells 155 = .ok (.lreturn, 1) := by decide +kernel
theorem dX11_joined_0 : decode cX11_joined 0 = .ok (.iload_n 0, 1) := by decide +kernel
theorem dX11_joined_1 : decode cX11_joined 1 = .ok (.lookupswitch 83 #[(2, 77), (42, 59), (43, 51), (45, 55), (47, 63)], 51) := by decide +kernel
theorem dX11_joined_52 : decode cX11_joined 52 = .ok (.lload_n 1, 1) := by decide +kernel
theorem dX11_joined_53 : decode cX11_joined 53 = .ok (.lload_n 3, 1) := by decide +kernel
theorem dX11_joined_54 : decode cX11_joined 54 = .ok (.ladd, 1) := by decide +kernel
theorem dX11_joined_55 : decode cX11_joined 55 = .ok (.lreturn, 1) := by decide +kernel
theorem dX11_joined_56 : decode cX11_joined 56 = .ok (.lload_n 1, 1) := by decide +kernel
theorem dX11_joined_57 : decode cX11_joined 57 = .ok (.lload_n 3, 1) := by decide +kernel
theorem dX11_joined_58 : decode cX11_joined 58 = .ok (.lsub, 1) := by decide +kernel
theorem dX11_joined_59 : decode cX11_joined 59 = .ok (.lreturn, 1) := by decide +kernel
theorem dX11_joined_60 : decode cX11_joined 60 = .ok (.lload_n 1, 1) := by decide +kernel
theorem dX11_joined_61 : decode cX11_joined 61 = .ok (.lload_n 3, 1) := by decide +kernel
theorem dX11_joined_62 : decode cX11_joined 62 = .ok (.lmul, 1) := by decide +kernel
theorem dX11_joined_63 : decode cX11_joined 63 = .ok (.lreturn, 1) := by decide +kernel
theorem dX11_joined_64 : decode cX11_joined 64 = .ok (.lload_n 3, 1) := by decide +kernel
theorem dX11_joined_65 : decode cX11_joined 65 = .ok (.lconst 0, 1) := by decide +kernel
theorem dX11_joined_66 : decode cX11_joined 66 = .ok (.lcmp, 1) := by decide +kernel
theorem dX11_joined_67 : decode cX11_joined 67 = .ok (.ifCond .ne 7, 3) := by decide +kernel
theorem dX11_joined_70 : decode cX11_joined 70 = .ok (.lconst 0, 1) := by decide +kernel
theorem dX11_joined_71 : decode cX11_joined 71 = .ok (.goto 6, 3) := by decide +kernel
theorem dX11_joined_74 : decode cX11_joined 74 = .ok (.lload_n 1, 1) := by decide +kernel
theorem dX11_joined_75 : decode cX11_joined 75 = .ok (.lload_n 3, 1) := by decide +kernel
theorem dX11_joined_76 : decode cX11_joined 76 = .ok (.ldiv, 1) := by decide +kernel
theorem dX11_joined_77 : decode cX11_joined 77 = .ok (.lreturn, 1) := by decide +kernel
theorem dX11_joined_78 : decode cX11_joined 78 = .ok (.lload_n 1, 1) := by decide +kernel
theorem dX11_joined_79 : decode cX11_joined 79 = .ok (.lload_n 3, 1) := by decide +kernel
theorem dX11_joined_80 : decode cX11_joined 80 = .ok (.invokestatic 308, 3) := by decide +kernel
theorem dX11_joined_83 : decode cX11_joined 83 = .ok (.lreturn, 1) := by decide +kernel
theorem dX11_joined_84 : decode cX11_joined 84 = .ok (.lload_n 1, 1) := by decide +kernel
theorem dX11_joined_85 : decode cX11_joined 85 = .ok (.lload_n 3, 1) := by decide +kernel
theorem dX11_joined_86 : decode cX11_joined 86 = .ok (.invokestatic 313, 3) := by decide +kernel
theorem dX11_joined_89 : decode cX11_joined 89 = .ok (.lreturn, 1) := by decide +kernel
theorem dX11_pointsAll_0 : decode cX11_pointsAll 0 = .ok (.lconst 0, 1) := by decide +kernel
theorem dX11_pointsAll_1 : decode cX11_pointsAll 1 = .ok (.lstore_n 1, 1) := by decide +kernel
theorem dX11_pointsAll_2 : decode cX11_pointsAll 2 = .ok (.iconst 0, 1) := by decide +kernel
theorem dX11_pointsAll_3 : decode cX11_pointsAll 3 = .ok (.istore_n 3, 1) := by decide +kernel
theorem dX11_pointsAll_4 : decode cX11_pointsAll 4 = .ok (.iload_n 3, 1) := by decide +kernel
theorem dX11_pointsAll_5 : decode cX11_pointsAll 5 = .ok (.i2l, 1) := by decide +kernel
theorem dX11_pointsAll_6 : decode cX11_pointsAll 6 = .ok (.aload_n 0, 1) := by decide +kernel
theorem dX11_pointsAll_7 : decode cX11_pointsAll 7 = .ok (.getfield 9, 3) := by decide +kernel
theorem dX11_pointsAll_10 : decode cX11_pointsAll 10 = .ok (.iconst 5, 1) := by decide +kernel
theorem dX11_pointsAll_11 : decode cX11_pointsAll 11 = .ok (.laload, 1) := by decide +kernel
theorem dX11_pointsAll_12 : decode cX11_pointsAll 12 = .ok (.lcmp, 1) := by decide +kernel
theorem dX11_pointsAll_13 : decode cX11_pointsAll 13 = .ok (.ifCond .ge 17, 3) := by decide +kernel
theorem dX11_pointsAll_16 : decode cX11_pointsAll 16 = .ok (.lload_n 1, 1) := by decide +kernel
theorem dX11_pointsAll_17 : decode cX11_pointsAll 17 = .ok (.aload_n 0, 1) := by decide +kernel
theorem dX11_pointsAll_18 : decode cX11_pointsAll 18 = .ok (.iload_n 3, 1) := by decide +kernel
theorem dX11_pointsAll_19 : decode cX11_pointsAll 19 = .ok (.invokevirtual 315, 3) := by decide +kernel
theorem dX11_pointsAll_22 : decode cX11_pointsAll 22 = .ok (.ladd, 1) := by decide +kernel
theorem dX11_pointsAll_23 : decode cX11_pointsAll 23 = .ok (.lstore_n 1, 1) := by decide +kernel
theorem dX11_pointsAll_24 : decode cX11_pointsAll 24 = .ok (.iinc 3 1, 3) := by decide +kernel
theorem dX11_pointsAll_27 : decode cX11_pointsAll 27 = .ok (.goto (-23), 3) := by decide +kernel
theorem dX11_pointsAll_30 : decode cX11_pointsAll 30 = .ok (.lload_n 1, 1) := by decide +kernel
theorem dX11_pointsAll_31 : decode cX11_pointsAll 31 = .ok (.lreturn, 1) := by decide +kernel
theorem dX11_join_0 : decode cX11_join 0 = .ok (.aload_n 0, 1) := by decide +kernel
theorem dX11_join_1 : decode cX11_join 1 = .ok (.getfield 9, 3) := by decide +kernel
theorem dX11_join_4 : decode cX11_join 4 = .ok (.iconst 5, 1) := by decide +kernel
theorem dX11_join_5 : decode cX11_join 5 = .ok (.laload, 1) := by decide +kernel
theorem dX11_join_6 : decode cX11_join 6 = .ok (.l2i, 1) := by decide +kernel
theorem dX11_join_7 : decode cX11_join 7 = .ok (.istore_n 1, 1) := by decide +kernel
theorem dX11_join_8 : decode cX11_join 8 = .ok (.aload_n 0, 1) := by decide +kernel
theorem dX11_join_9 : decode cX11_join 9 = .ok (.getfield 9, 3) := by decide +kernel
theorem dX11_join_12 : decode cX11_join 12 = .ok (.bipush 6, 2) := by decide +kernel
theorem dX11_join_14 : decode cX11_join 14 = .ok (.laload, 1) := by decide +kernel
theorem dX11_join_15 : decode cX11_join 15 = .ok (.l2i, 1) := by decide +kernel
theorem dX11_join_16 : decode cX11_join 16 = .ok (.istore_n 2, 1) := by decide +kernel
theorem dX11_join_17 : decode cX11_join 17 = .ok (.aload_n 0, 1) := by decide +kernel
theorem dX11_join_18 : decode cX11_join 18 = .ok (.invokevirtual 270, 3) := by decide +kernel
theorem dX11_join_21 : decode cX11_join 21 = .ok (.aload_n 0, 1) := by decide +kernel
theorem dX11_join_22 : decode cX11_join 22 = .ok (.getfield 140, 3) := by decide +kernel
theorem dX11_join_25 : decode cX11_join 25 = .ok (.lstore_n 3, 1) := by decide +kernel
theorem dX11_join_26 : decode cX11_join 26 = .ok (.aload_n 0, 1) := by decide +kernel
theorem dX11_join_27 : decode cX11_join 27 = .ok (.invokevirtual 243, 3) := by decide +kernel
theorem dX11_join_30 : decode cX11_join 30 = .ok (.ifCond .ne 12, 3) := by decide +kernel
theorem dX11_join_33 : decode cX11_join 33 = .ok (.aload_n 0, 1) := by decide +kernel
theorem dX11_join_34 : decode cX11_join 34 = .ok (.iconst 1, 1) := by decide +kernel
theorem dX11_join_35 : decode cX11_join 35 = .ok (.invokevirtual 231, 3) := by decide +kernel
theorem dX11_join_38 : decode cX11_join 38 = .ok (.pop, 1) := by decide +kernel
theorem dX11_join_39 : decode cX11_join 39 = .ok (.goto 38, 3) := by decide +kernel
theorem dX11_join_42 : decode cX11_join 42 = .ok (.aload_n 0, 1) := by decide +kernel
theorem dX11_join_43 : decode cX11_join 43 = .ok (.aload_n 0, 1) := by decide +kernel
theorem dX11_join_44 : decode cX11_join 44 = .ok (.getfield 140, 3) := by decide +kernel
theorem dX11_join_47 : decode cX11_join 47 = .ok (.iconst 0, 1) := by decide +kernel
theorem dX11_join_48 : decode cX11_join 48 = .ok (.iload_n 1, 1) := by decide +kernel
theorem dX11_join_49 : decode cX11_join 49 = .ok (.invokevirtual 246, 3) := by decide +kernel
theorem dX11_join_52 : decode cX11_join 52 = .ok (.iconst (-1), 1) := by decide +kernel
theorem dX11_join_53 : decode cX11_join 53 = .ok (.if_icmp .eq 12, 3) := by decide +kernel
theorem dX11_join_56 : decode cX11_join 56 = .ok (.aload_n 0, 1) := by decide +kernel
theorem dX11_join_57 : decode cX11_join 57 = .ok (.iconst 2, 1) := by decide +kernel
theorem dX11_join_58 : decode cX11_join 58 = .ok (.invokevirtual 231, 3) := by decide +kernel
theorem dX11_join_61 : decode cX11_join 61 = .ok (.pop, 1) := by decide +kernel
theorem dX11_join_62 : decode cX11_join 62 = .ok (.goto 15, 3) := by decide +kernel
theorem dX11_join_65 : decode cX11_join 65 = .ok (.iload_n 1, 1) := by decide +kernel
theorem dX11_join_66 : decode cX11_join 66 = .ok (.bipush 12, 2) := by decide +kernel
theorem dX11_join_68 : decode cX11_join 68 = .ok (.if_icmp .ne 9, 3) := by decide +kernel
theorem dX11_join_71 : decode cX11_join 71 = .ok (.aload_n 0, 1) := by decide +kernel
theorem dX11_join_72 : decode cX11_join 72 = .ok (.iconst 5, 1) := by decide +kernel
theorem dX11_join_73 : decode cX11_join 73 = .ok (.invokevirtual 231, 3) := by decide +kernel
theorem dX11_join_76 : decode cX11_join 76 = .ok (.pop, 1) := by decide +kernel
theorem dX11_join_77 : decode cX11_join 77 = .ok (.iconst 0, 1) := by decide +kernel
theorem dX11_join_78 : decode cX11_join 78 = .ok (.istore 5, 2) := by decide +kernel
theorem dX11_join_80 : decode cX11_join 80 = .ok (.aload_n 0, 1) := by decide +kernel
theorem dX11_join_81 : decode cX11_join 81 = .ok (.getfield 161, 3) := by decide +kernel
theorem dX11_join_84 : decode cX11_join 84 = .ok (.ifCond .ne 7, 3) := by decide +kernel
theorem dX11_join_87 : decode cX11_join 87 = .ok (.aload_n 0, 1) := by decide +kernel
theorem dX11_join_88 : decode cX11_join 88 = .ok (.invokevirtual 234, 3) := by decide +kernel
theorem dX11_join_91 : decode cX11_join 91 = .ok (.aload_n 0, 1) := by decide +kernel
theorem dX11_join_92 : decode cX11_join 92 = .ok (.getfield 161, 3) := by decide +kernel
theorem dX11_join_95 : decode cX11_join 95 = .ok (.ifCond .ne 81, 3) := by decide +kernel
theorem dX11_join_98 : decode cX11_join 98 = .ok (.aload_n 0, 1) := by decide +kernel
theorem dX11_join_99 : decode cX11_join 99 = .ok (.getfield 150, 3) := by decide +kernel
theorem dX11_join_102 : decode cX11_join 102 = .ok (.ifCond .eq 74, 3) := by decide +kernel
theorem dX11_join_105 : decode cX11_join 105 = .ok (.aload_n 0, 1) := by decide +kernel
theorem dX11_join_106 : decode cX11_join 106 = .ok (.getfield 150, 3) := by decide +kernel
theorem dX11_join_109 : decode cX11_join 109 = .ok (.iconst 2, 1) := by decide +kernel
theorem dX11_join_110 : decode cX11_join 110 = .ok (.if_icmp .ne 44, 3) := by decide +kernel
theorem dX11_join_113 : decode cX11_join 113 = .ok (.aload_n 0, 1) := by decide +kernel
theorem dX11_join_114 : decode cX11_join 114 = .ok (.getfield 130, 3) := by decide +kernel
theorem dX11_join_117 : decode cX11_join 117 = .ok (.aload_n 0, 1) := by decide +kernel
theorem dX11_join_118 : decode cX11_join 118 = .ok (.getfield 137, 3) := by decide +kernel
theorem dX11_join_121 : decode cX11_join 121 = .ok (.isub, 1) := by decide +kernel
theorem dX11_join_122 : decode cX11_join 122 = .ok (.bipush 8, 2) := by decide +kernel
theorem dX11_join_124 : decode cX11_join 124 = .ok (.if_icmp .gt 30, 3) := by decide +kernel
theorem dX11_join_127 : decode cX11_join 127 = .ok (.aload_n 0, 1) := by decide +kernel
theorem dX11_join_128 : decode cX11_join 128 = .ok (.getfield 144, 3) := by decide +kernel
theorem dX11_join_131 : decode cX11_join 131 = .ok (.bipush 8, 2) := by decide +kernel
theorem dX11_join_133 : decode cX11_join 133 = .ok (.if_icmp .ge 21, 3) := by decide +kernel
theorem dX11_join_136 : decode cX11_join 136 = .ok (.iload_n 2, 1) := by decide +kernel
theorem dX11_join_137 : decode cX11_join 137 = .ok (.iload 5, 2) := by decide +kernel
theorem dX11_join_139 : decode cX11_join 139 = .ok (.iadd, 1) := by decide +kernel
theorem dX11_join_140 : decode cX11_join 140 = .ok (.bipush 24, 2) := by decide +kernel
theorem dX11_join_142 : decode cX11_join 142 = .ok (.if_icmp .ne 12, 3) := by decide +kernel
theorem dX11_join_145 : decode cX11_join 145 = .ok (.aload_n 0, 1) := by decide +kernel
theorem dX11_join_146 : decode cX11_join 146 = .ok (.iconst 5, 1) := by decide +kernel
theorem dX11_join_147 : decode cX11_join 147 = .ok (.invokevirtual 231, 3) := by decide +kernel
theorem dX11_join_150 : decode cX11_join 150 = .ok (.pop, 1) := by decide +kernel
theorem dX11_join_151 : decode cX11_join 151 = .ok (.goto (-60), 3) := by decide +kernel
theorem dX11_join_154 : decode cX11_join 154 = .ok (.aload_n 0, 1) := by decide +kernel
theorem dX11_join_155 : decode cX11_join 155 = .ok (.bipush 6, 2) := by decide +kernel
theorem dX11_join_157 : decode cX11_join 157 = .ok (.bipush 24, 2) := by decide +kernel
theorem dX11_join_159 : decode cX11_join 159 = .ok (.iload 5, 2) := by decide +kernel
theorem dX11_join_161 : decode cX11_join 161 = .ok (.iadd, 1) := by decide +kernel
theorem dX11_join_162 : decode cX11_join 162 = .ok (.imul, 1) := by decide +kernel
theorem dX11_join_163 : decode cX11_join 163 = .ok (.iload_n 1, 1) := by decide +kernel
theorem dX11_join_164 : decode cX11_join 164 = .ok (.invokevirtual 254, 3) := by decide +kernel
theorem dX11_join_167 : decode cX11_join 167 = .ok (.ifCond .eq (-76), 3) := by decide +kernel
theorem dX11_join_170 : decode cX11_join 170 = .ok (.iinc 5 1, 3) := by decide +kernel
theorem dX11_join_173 : decode cX11_join 173 = .ok (.goto (-82), 3) := by decide +kernel
theorem dX11_join_176 : decode cX11_join 176 = .ok (.aload_n 0, 1) := by decide +kernel
theorem dX11_join_177 : decode cX11_join 177 = .ok (.invokevirtual 279, 3) := by decide +kernel
theorem dX11_join_180 : decode cX11_join 180 = .ok (.ifCond .ne 5, 3) := by decide +kernel
theorem dX11_join_183 : decode cX11_join 183 = .ok (.iconst (-1), 1) := by decide +kernel
theorem dX11_join_184 : decode cX11_join 184 = .ok (.ireturn, 1) := by decide +kernel
theorem dX11_join_185 : decode cX11_join 185 = .ok (.aload_n 0, 1) := by decide +kernel
theorem dX11_join_186 : decode cX11_join 186 = .ok (.invokevirtual 319, 3) := by decide +kernel
theorem dX11_join_189 : decode cX11_join 189 = .ok (.aload_n 0, 1) := by decide +kernel
theorem dX11_join_190 : decode cX11_join 190 = .ok (.invokevirtual 322, 3) := by decide +kernel
theorem dX11_join_193 : decode cX11_join 193 = .ok (.lstore 6, 2) := by decide +kernel
theorem dX11_join_195 : decode cX11_join 195 = .ok (.iconst 0, 1) := by decide +kernel
theorem dX11_join_196 : decode cX11_join 196 = .ok (.istore 8, 2) := by decide +kernel
theorem dX11_join_198 : decode cX11_join 198 = .ok (.iload 8, 2) := by decide +kernel
theorem dX11_join_200 : decode cX11_join 200 = .ok (.bipush 6, 2) := by decide +kernel
theorem dX11_join_202 : decode cX11_join 202 = .ok (.iload 5, 2) := by decide +kernel
theorem dX11_join_204 : decode cX11_join 204 = .ok (.imul, 1) := by decide +kernel
theorem dX11_join_205 : decode cX11_join 205 = .ok (.if_icmp .ge 32, 3) := by decide +kernel
theorem dX11_join_208 : decode cX11_join 208 = .ok (.aload_n 0, 1) := by decide +kernel
theorem dX11_join_209 : decode cX11_join 209 = .ok (.getfield 21, 3) := by decide +kernel
theorem dX11_join_212 : decode cX11_join 212 = .ok (.bipush 6, 2) := by decide +kernel
theorem dX11_join_214 : decode cX11_join 214 = .ok (.iload_n 2, 1) := by decide +kernel
theorem dX11_join_215 : decode cX11_join 215 = .ok (.imul, 1) := by decide +kernel
theorem dX11_join_216 : decode cX11_join 216 = .ok (.iload 8, 2) := by decide +kernel
theorem dX11_join_218 : decode cX11_join 218 = .ok (.iadd, 1) := by decide +kernel
theorem dX11_join_219 : decode cX11_join 219 = .ok (.aload_n 0, 1) := by decide +kernel
theorem dX11_join_220 : decode cX11_join 220 = .ok (.getfield 21, 3) := by decide +kernel
theorem dX11_join_223 : decode cX11_join 223 = .ok (.sipush 144, 3) := by decide +kernel
theorem dX11_join_226 : decode cX11_join 226 = .ok (.iload 8, 2) := by decide +kernel
theorem dX11_join_228 : decode cX11_join 228 = .ok (.iadd, 1) := by decide +kernel
theorem dX11_join_229 : decode cX11_join 229 = .ok (.iaload, 1) := by decide +kernel
theorem dX11_join_230 : decode cX11_join 230 = .ok (.iastore, 1) := by decide +kernel
theorem dX11_join_231 : decode cX11_join 231 = .ok (.iinc 8 1, 3) := by decide +kernel
theorem dX11_join_234 : decode cX11_join 234 = .ok (.goto (-36), 3) := by decide +kernel
theorem dX11_join_237 : decode cX11_join 237 = .ok (.aload_n 0, 1) := by decide +kernel
theorem dX11_join_238 : decode cX11_join 238 = .ok (.getfield 18, 3) := by decide +kernel
theorem dX11_join_241 : decode cX11_join 241 = .ok (.iload_n 1, 1) := by decide +kernel
theorem dX11_join_242 : decode cX11_join 242 = .ok (.lload_n 3, 1) := by decide +kernel
theorem dX11_join_243 : decode cX11_join 243 = .ok (.lastore, 1) := by decide +kernel
theorem dX11_join_244 : decode cX11_join 244 = .ok (.aload_n 0, 1) := by decide +kernel
theorem dX11_join_245 : decode cX11_join 245 = .ok (.getfield 9, 3) := by decide +kernel
theorem dX11_join_248 : decode cX11_join 248 = .ok (.bipush 10, 2) := by decide +kernel
theorem dX11_join_250 : decode cX11_join 250 = .ok (.iload_n 1, 1) := by decide +kernel
theorem dX11_join_251 : decode cX11_join 251 = .ok (.iadd, 1) := by decide +kernel
theorem dX11_join_252 : decode cX11_join 252 = .ok (.lconst 1, 1) := by decide +kernel
theorem dX11_join_253 : decode cX11_join 253 = .ok (.lastore, 1) := by decide +kernel
theorem dX11_join_254 : decode cX11_join 254 = .ok (.aload_n 0, 1) := by decide +kernel
theorem dX11_join_255 : decode cX11_join 255 = .ok (.getfield 9, 3) := by decide +kernel
theorem dX11_join_258 : decode cX11_join 258 = .ok (.bipush 22, 2) := by decide +kernel
theorem dX11_join_260 : decode cX11_join 260 = .ok (.iload_n 1, 1) := by decide +kernel
theorem dX11_join_261 : decode cX11_join 261 = .ok (.iadd, 1) := by decide +kernel
theorem dX11_join_262 : decode cX11_join 262 = .ok (.lconst 0, 1) := by decide +kernel
theorem dX11_join_263 : decode cX11_join 263 = .ok (.lastore, 1) := by decide +kernel
theorem dX11_join_264 : decode cX11_join 264 = .ok (.aload_n 0, 1) := by decide +kernel
theorem dX11_join_265 : decode cX11_join 265 = .ok (.getfield 9, 3) := by decide +kernel
theorem dX11_join_268 : decode cX11_join 268 = .ok (.bipush 34, 2) := by decide +kernel
theorem dX11_join_270 : decode cX11_join 270 = .ok (.iload_n 1, 1) := by decide +kernel
theorem dX11_join_271 : decode cX11_join 271 = .ok (.iadd, 1) := by decide +kernel
theorem dX11_join_272 : decode cX11_join 272 = .ok (.lconst 0, 1) := by decide +kernel
theorem dX11_join_273 : decode cX11_join 273 = .ok (.lastore, 1) := by decide +kernel
theorem dX11_join_274 : decode cX11_join 274 = .ok (.aload_n 0, 1) := by decide +kernel
theorem dX11_join_275 : decode cX11_join 275 = .ok (.getfield 9, 3) := by decide +kernel
theorem dX11_join_278 : decode cX11_join 278 = .ok (.iconst 5, 1) := by decide +kernel
theorem dX11_join_279 : decode cX11_join 279 = .ok (.dup2, 1) := by decide +kernel
theorem dX11_join_280 : decode cX11_join 280 = .ok (.laload, 1) := by decide +kernel
theorem dX11_join_281 : decode cX11_join 281 = .ok (.lconst 1, 1) := by decide +kernel
theorem dX11_join_282 : decode cX11_join 282 = .ok (.ladd, 1) := by decide +kernel
theorem dX11_join_283 : decode cX11_join 283 = .ok (.lastore, 1) := by decide +kernel
theorem dX11_join_284 : decode cX11_join 284 = .ok (.aload_n 0, 1) := by decide +kernel
theorem dX11_join_285 : decode cX11_join 285 = .ok (.getfield 9, 3) := by decide +kernel
theorem dX11_join_288 : decode cX11_join 288 = .ok (.bipush 6, 2) := by decide +kernel
theorem dX11_join_290 : decode cX11_join 290 = .ok (.dup2, 1) := by decide +kernel
theorem dX11_join_291 : decode cX11_join 291 = .ok (.laload, 1) := by decide +kernel
theorem dX11_join_292 : decode cX11_join 292 = .ok (.iload 5, 2) := by decide +kernel
theorem dX11_join_294 : decode cX11_join 294 = .ok (.i2l, 1) := by decide +kernel
theorem dX11_join_295 : decode cX11_join 295 = .ok (.ladd, 1) := by decide +kernel
theorem dX11_join_296 : decode cX11_join 296 = .ok (.lastore, 1) := by decide +kernel
theorem dX11_join_297 : decode cX11_join 297 = .ok (.lload 6, 2) := by decide +kernel
theorem dX11_join_299 : decode cX11_join 299 = .ok (.lconst 0, 1) := by decide +kernel
theorem dX11_join_300 : decode cX11_join 300 = .ok (.lcmp, 1) := by decide +kernel
theorem dX11_join_301 : decode cX11_join 301 = .ok (.ifCond .ne 7, 3) := by decide +kernel
theorem dX11_join_304 : decode cX11_join 304 = .ok (.lconst 0, 1) := by decide +kernel
theorem dX11_join_305 : decode cX11_join 305 = .ok (.goto 24, 3) := by decide +kernel
theorem dX11_join_308 : decode cX11_join 308 = .ok (.ldc2_w 326, 3) := by decide +kernel
theorem dX11_join_311 : decode cX11_join 311 = .ok (.aload_n 0, 1) := by decide +kernel
theorem dX11_join_312 : decode cX11_join 312 = .ok (.getfield 9, 3) := by decide +kernel
theorem dX11_join_315 : decode cX11_join 315 = .ok (.iconst 1, 1) := by decide +kernel
theorem dX11_join_316 : decode cX11_join 316 = .ok (.laload, 1) := by decide +kernel
theorem dX11_join_317 : decode cX11_join 317 = .ok (.aload_n 0, 1) := by decide +kernel
theorem dX11_join_318 : decode cX11_join 318 = .ok (.iload_n 1, 1) := by decide +kernel
theorem dX11_join_319 : decode cX11_join 319 = .ok (.invokevirtual 315, 3) := by decide +kernel
theorem dX11_join_322 : decode cX11_join 322 = .ok (.lmul, 1) := by decide +kernel
theorem dX11_join_323 : decode cX11_join 323 = .ok (.lload 6, 2) := by decide +kernel
theorem dX11_join_325 : decode cX11_join 325 = .ok (.ldiv, 1) := by decide +kernel
theorem dX11_join_326 : decode cX11_join 326 = .ok (.invokestatic 308, 3) := by decide +kernel
theorem dX11_join_329 : decode cX11_join 329 = .ok (.lstore 8, 2) := by decide +kernel
theorem dX11_join_331 : decode cX11_join 331 = .ok (.aload_n 0, 1) := by decide +kernel
theorem dX11_join_332 : decode cX11_join 332 = .ok (.getfield 9, 3) := by decide +kernel
theorem dX11_join_335 : decode cX11_join 335 = .ok (.iconst 1, 1) := by decide +kernel
theorem dX11_join_336 : decode cX11_join 336 = .ok (.dup2, 1) := by decide +kernel
theorem dX11_join_337 : decode cX11_join 337 = .ok (.laload, 1) := by decide +kernel
theorem dX11_join_338 : decode cX11_join 338 = .ok (.lload 8, 2) := by decide +kernel
theorem dX11_join_340 : decode cX11_join 340 = .ok (.ladd, 1) := by decide +kernel
theorem dX11_join_341 : decode cX11_join 341 = .ok (.lastore, 1) := by decide +kernel
theorem dX11_join_342 : decode cX11_join 342 = .ok (.lload 8, 2) := by decide +kernel
theorem dX11_join_344 : decode cX11_join 344 = .ok (.l2i, 1) := by decide +kernel
theorem dX11_join_345 : decode cX11_join 345 = .ok (.ireturn, 1) := by decide +kernel
theorem dX11_named_0 : decode cX11_named 0 = .ok (.aload_n 0, 1) := by decide +kernel
theorem dX11_named_1 : decode cX11_named 1 = .ok (.invokevirtual 270, 3) := by decide +kernel
theorem dX11_named_4 : decode cX11_named 4 = .ok (.aload_n 0, 1) := by decide +kernel
theorem dX11_named_5 : decode cX11_named 5 = .ok (.invokevirtual 243, 3) := by decide +kernel
theorem dX11_named_8 : decode cX11_named 8 = .ok (.ifCond .eq 22, 3) := by decide +kernel
theorem dX11_named_11 : decode cX11_named 11 = .ok (.aload_n 0, 1) := by decide +kernel
theorem dX11_named_12 : decode cX11_named 12 = .ok (.aload_n 0, 1) := by decide +kernel
theorem dX11_named_13 : decode cX11_named 13 = .ok (.getfield 140, 3) := by decide +kernel
theorem dX11_named_16 : decode cX11_named 16 = .ok (.iconst 0, 1) := by decide +kernel
theorem dX11_named_17 : decode cX11_named 17 = .ok (.aload_n 0, 1) := by decide +kernel
theorem dX11_named_18 : decode cX11_named 18 = .ok (.getfield 9, 3) := by decide +kernel
theorem dX11_named_21 : decode cX11_named 21 = .ok (.iconst 5, 1) := by decide +kernel
theorem dX11_named_22 : decode cX11_named 22 = .ok (.laload, 1) := by decide +kernel
theorem dX11_named_23 : decode cX11_named 23 = .ok (.l2i, 1) := by decide +kernel
theorem dX11_named_24 : decode cX11_named 24 = .ok (.invokevirtual 246, 3) := by decide +kernel
theorem dX11_named_27 : decode cX11_named 27 = .ok (.goto 4, 3) := by decide +kernel
theorem dX11_named_30 : decode cX11_named 30 = .ok (.iconst (-1), 1) := by decide +kernel
theorem dX11_named_31 : decode cX11_named 31 = .ok (.istore_n 1, 1) := by decide +kernel
theorem dX11_named_32 : decode cX11_named 32 = .ok (.aload_n 0, 1) := by decide +kernel
theorem dX11_named_33 : decode cX11_named 33 = .ok (.invokevirtual 234, 3) := by decide +kernel
theorem dX11_named_36 : decode cX11_named 36 = .ok (.aload_n 0, 1) := by decide +kernel
theorem dX11_named_37 : decode cX11_named 37 = .ok (.getfield 150, 3) := by decide +kernel
theorem dX11_named_40 : decode cX11_named 40 = .ok (.ifCond .ne 7, 3) := by decide +kernel
theorem dX11_named_43 : decode cX11_named 43 = .ok (.iconst 1, 1) := by decide +kernel
theorem dX11_named_44 : decode cX11_named 44 = .ok (.goto 4, 3) := by decide +kernel
theorem dX11_named_47 : decode cX11_named 47 = .ok (.iconst 0, 1) := by decide +kernel
theorem dX11_named_48 : decode cX11_named 48 = .ok (.istore_n 2, 1) := by decide +kernel
theorem dX11_named_49 : decode cX11_named 49 = .ok (.aload_n 0, 1) := by decide +kernel
theorem dX11_named_50 : decode cX11_named 50 = .ok (.iconst 0, 1) := by decide +kernel
theorem dX11_named_51 : decode cX11_named 51 = .ok (.putfield 119, 3) := by decide +kernel
theorem dX11_named_54 : decode cX11_named 54 = .ok (.iload_n 2, 1) := by decide +kernel
theorem dX11_named_55 : decode cX11_named 55 = .ok (.ifCond .eq 26, 3) := by decide +kernel
theorem dX11_named_58 : decode cX11_named 58 = .ok (.iload_n 1, 1) := by decide +kernel
theorem dX11_named_59 : decode cX11_named 59 = .ok (.iconst (-1), 1) := by decide +kernel
theorem dX11_named_60 : decode cX11_named 60 = .ok (.if_icmp .eq 21, 3) := by decide +kernel
theorem dX11_named_63 : decode cX11_named 63 = .ok (.aload_n 0, 1) := by decide +kernel
theorem dX11_named_64 : decode cX11_named 64 = .ok (.getfield 9, 3) := by decide +kernel
theorem dX11_named_67 : decode cX11_named 67 = .ok (.bipush 10, 2) := by decide +kernel
theorem dX11_named_69 : decode cX11_named 69 = .ok (.iload_n 1, 1) := by decide +kernel
theorem dX11_named_70 : decode cX11_named 70 = .ok (.iadd, 1) := by decide +kernel
theorem dX11_named_71 : decode cX11_named 71 = .ok (.laload, 1) := by decide +kernel
theorem dX11_named_72 : decode cX11_named 72 = .ok (.lconst 1, 1) := by decide +kernel
theorem dX11_named_73 : decode cX11_named 73 = .ok (.lcmp, 1) := by decide +kernel
theorem dX11_named_74 : decode cX11_named 74 = .ok (.ifCond .ne 7, 3) := by decide +kernel
theorem dX11_named_77 : decode cX11_named 77 = .ok (.iload_n 1, 1) := by decide +kernel
theorem dX11_named_78 : decode cX11_named 78 = .ok (.goto 4, 3) := by decide +kernel
theorem dX11_named_81 : decode cX11_named 81 = .ok (.iconst (-1), 1) := by decide +kernel
theorem dX11_named_82 : decode cX11_named 82 = .ok (.ireturn, 1) := by decide +kernel
theorem dX11_wasMember_0 : decode cX11_wasMember 0 = .ok (.iload_n 1, 1) := by decide +kernel
theorem dX11_wasMember_1 : decode cX11_wasMember 1 = .ok (.i2l, 1) := by decide +kernel
theorem dX11_wasMember_2 : decode cX11_wasMember 2 = .ok (.lconst 0, 1) := by decide +kernel
theorem dX11_wasMember_3 : decode cX11_wasMember 3 = .ok (.aload_n 0, 1) := by decide +kernel
theorem dX11_wasMember_4 : decode cX11_wasMember 4 = .ok (.getfield 9, 3) := by decide +kernel
theorem dX11_wasMember_7 : decode cX11_wasMember 7 = .ok (.iconst 5, 1) := by decide +kernel
theorem dX11_wasMember_8 : decode cX11_wasMember 8 = .ok (.laload, 1) := by decide +kernel
theorem dX11_wasMember_9 : decode cX11_wasMember 9 = .ok (.lconst 1, 1) := by decide +kernel
theorem dX11_wasMember_10 : decode cX11_wasMember 10 = .ok (.lsub, 1) := by decide +kernel
theorem dX11_wasMember_11 : decode cX11_wasMember 11 = .ok (.invokestatic 126, 3) := by decide +kernel
theorem dX11_wasMember_14 : decode cX11_wasMember 14 = .ok (.ireturn, 1) := by decide +kernel
theorem dX11_isThere_0 : decode cX11_isThere 0 = .ok (.iload_n 1, 1) := by decide +kernel
theorem dX11_isThere_1 : decode cX11_isThere 1 = .ok (.aload_n 0, 1) := by decide +kernel
theorem dX11_isThere_2 : decode cX11_isThere 2 = .ok (.getfield 53, 3) := by decide +kernel
theorem dX11_isThere_5 : decode cX11_isThere 5 = .ok (.if_icmp .eq 21, 3) := by decide +kernel
theorem dX11_isThere_8 : decode cX11_isThere 8 = .ok (.aload_n 0, 1) := by decide +kernel
theorem dX11_isThere_9 : decode cX11_isThere 9 = .ok (.getfield 9, 3) := by decide +kernel
theorem dX11_isThere_12 : decode cX11_isThere 12 = .ok (.bipush 10, 2) := by decide +kernel
theorem dX11_isThere_14 : decode cX11_isThere 14 = .ok (.iload_n 1, 1) := by decide +kernel
theorem dX11_isThere_15 : decode cX11_isThere 15 = .ok (.iadd, 1) := by decide +kernel
theorem dX11_isThere_16 : decode cX11_isThere 16 = .ok (.laload, 1) := by decide +kernel
theorem dX11_isThere_17 : decode cX11_isThere 17 = .ok (.lconst 1, 1) := by decide +kernel
theorem dX11_isThere_18 : decode cX11_isThere 18 = .ok (.lcmp, 1) := by decide +kernel
theorem dX11_isThere_19 : decode cX11_isThere 19 = .ok (.ifCond .ne 7, 3) := by decide +kernel
theorem dX11_isThere_22 : decode cX11_isThere 22 = .ok (.iconst 1, 1) := by decide +kernel
theorem dX11_isThere_23 : decode cX11_isThere 23 = .ok (.goto 4, 3) := by decide +kernel
theorem dX11_isThere_26 : decode cX11_isThere 26 = .ok (.iconst 0, 1) := by decide +kernel
theorem dX11_isThere_27 : decode cX11_isThere 27 = .ok (.ireturn, 1) := by decide +kernel
theorem dX11_isMember_0 : decode cX11_isMember 0 = .ok (.aload_n 0, 1) := by decide +kernel
theorem dX11_isMember_1 : decode cX11_isMember 1 = .ok (.iload_n 1, 1) := by decide +kernel
theorem dX11_isMember_2 : decode cX11_isMember 2 = .ok (.invokevirtual 328, 3) := by decide +kernel
theorem dX11_isMember_5 : decode cX11_isMember 5 = .ok (.ifCond .eq 15, 3) := by decide +kernel
theorem dX11_isMember_8 : decode cX11_isMember 8 = .ok (.aload_n 0, 1) := by decide +kernel
theorem dX11_isMember_9 : decode cX11_isMember 9 = .ok (.iload_n 1, 1) := by decide +kernel
theorem dX11_isMember_10 : decode cX11_isMember 10 = .ok (.invokevirtual 331, 3) := by decide +kernel
theorem dX11_isMember_13 : decode cX11_isMember 13 = .ok (.ifCond .eq 7, 3) := by decide +kernel
theorem dX11_isMember_16 : decode cX11_isMember 16 = .ok (.iconst 1, 1) := by decide +kernel
theorem dX11_isMember_17 : decode cX11_isMember 17 = .ok (.goto 4, 3) := by decide +kernel
theorem dX11_isMember_20 : decode cX11_isMember 20 = .ok (.iconst 0, 1) := by decide +kernel
theorem dX11_isMember_21 : decode cX11_isMember 21 = .ok (.ireturn, 1) := by decide +kernel
theorem dX11_of_0 : decode cX11_of 0 = .ok (.aload_n 0, 1) := by decide +kernel
theorem dX11_of_1 : decode cX11_of 1 = .ok (.getfield 21, 3) := by decide +kernel
theorem dX11_of_4 : decode cX11_of 4 = .ok (.bipush 6, 2) := by decide +kernel
theorem dX11_of_6 : decode cX11_of 6 = .ok (.iload_n 1, 1) := by decide +kernel
theorem dX11_of_7 : decode cX11_of 7 = .ok (.imul, 1) := by decide +kernel
theorem dX11_of_8 : decode cX11_of 8 = .ok (.iload_n 2, 1) := by decide +kernel
theorem dX11_of_9 : decode cX11_of 9 = .ok (.iadd, 1) := by decide +kernel
theorem dX11_of_10 : decode cX11_of 10 = .ok (.iaload, 1) := by decide +kernel
theorem dX11_of_11 : decode cX11_of 11 = .ok (.ireturn, 1) := by decide +kernel
theorem dX11_isField_0 : decode cX11_isField 0 = .ok (.aload_n 0, 1) := by decide +kernel
theorem dX11_isField_1 : decode cX11_isField 1 = .ok (.aload_n 0, 1) := by decide +kernel
theorem dX11_isField_2 : decode cX11_isField 2 = .ok (.iload_n 1, 1) := by decide +kernel
theorem dX11_isField_3 : decode cX11_isField 3 = .ok (.iconst 0, 1) := by decide +kernel
theorem dX11_isField_4 : decode cX11_isField 4 = .ok (.invokevirtual 334, 3) := by decide +kernel
theorem dX11_isField_7 : decode cX11_isField 7 = .ok (.invokevirtual 331, 3) := by decide +kernel
theorem dX11_isField_10 : decode cX11_isField 10 = .ok (.ireturn, 1) := by decide +kernel
theorem dX11_sumOf_0 : decode cX11_sumOf 0 = .ok (.aload_n 0, 1) := by decide +kernel
theorem dX11_sumOf_1 : decode cX11_sumOf 1 = .ok (.iload_n 1, 1) := by decide +kernel
theorem dX11_sumOf_2 : decode cX11_sumOf 2 = .ok (.iconst 4, 1) := by decide +kernel
theorem dX11_sumOf_3 : decode cX11_sumOf 3 = .ok (.invokevirtual 334, 3) := by decide +kernel
theorem dX11_sumOf_6 : decode cX11_sumOf 6 = .ok (.i2l, 1) := by decide +kernel
theorem dX11_sumOf_7 : decode cX11_sumOf 7 = .ok (.aload_n 0, 1) := by decide +kernel
theorem dX11_sumOf_8 : decode cX11_sumOf 8 = .ok (.iload_n 1, 1) := by decide +kernel
theorem dX11_sumOf_9 : decode cX11_sumOf 9 = .ok (.iconst 5, 1) := by decide +kernel
theorem dX11_sumOf_10 : decode cX11_sumOf 10 = .ok (.invokevirtual 334, 3) := by decide +kernel
theorem dX11_sumOf_13 : decode cX11_sumOf 13 = .ok (.i2l, 1) := by decide +kernel
theorem dX11_sumOf_14 : decode cX11_sumOf 14 = .ok (.lmul, 1) := by decide +kernel
theorem dX11_sumOf_15 : decode cX11_sumOf 15 = .ok (.lreturn, 1) := by decide +kernel
theorem dX11_hazardOf_0 : decode cX11_hazardOf 0 = .ok (.aload_n 0, 1) := by decide +kernel
theorem dX11_hazardOf_1 : decode cX11_hazardOf 1 = .ok (.getfield 25, 3) := by decide +kernel
theorem dX11_hazardOf_4 : decode cX11_hazardOf 4 = .ok (.bipush 8, 2) := by decide +kernel
theorem dX11_hazardOf_6 : decode cX11_hazardOf 6 = .ok (.aload_n 0, 1) := by decide +kernel
theorem dX11_hazardOf_7 : decode cX11_hazardOf 7 = .ok (.iload_n 1, 1) := by decide +kernel
theorem dX11_hazardOf_8 : decode cX11_hazardOf 8 = .ok (.iconst 2, 1) := by decide +kernel
theorem dX11_hazardOf_9 : decode cX11_hazardOf 9 = .ok (.invokevirtual 334, 3) := by decide +kernel
theorem dX11_hazardOf_12 : decode cX11_hazardOf 12 = .ok (.imul, 1) := by decide +kernel
theorem dX11_hazardOf_13 : decode cX11_hazardOf 13 = .ok (.aload_n 0, 1) := by decide +kernel
theorem dX11_hazardOf_14 : decode cX11_hazardOf 14 = .ok (.iload_n 1, 1) := by decide +kernel
theorem dX11_hazardOf_15 : decode cX11_hazardOf 15 = .ok (.iconst 1, 1) := by decide +kernel
theorem dX11_hazardOf_16 : decode cX11_hazardOf 16 = .ok (.invokevirtual 334, 3) := by decide +kernel
theorem dX11_hazardOf_19 : decode cX11_hazardOf 19 = .ok (.iadd, 1) := by decide +kernel
theorem dX11_hazardOf_20 : decode cX11_hazardOf 20 = .ok (.iaload, 1) := by decide +kernel
theorem dX11_hazardOf_21 : decode cX11_hazardOf 21 = .ok (.ireturn, 1) := by decide +kernel
theorem dX11_pointsOf_0 : decode cX11_pointsOf 0 = .ok (.lconst 0, 1) := by decide +kernel
theorem dX11_pointsOf_1 : decode cX11_pointsOf 1 = .ok (.lstore_n 2, 1) := by decide +kernel
theorem dX11_pointsOf_2 : decode cX11_pointsOf 2 = .ok (.iconst 0, 1) := by decide +kernel
theorem dX11_pointsOf_3 : decode cX11_pointsOf 3 = .ok (.istore 4, 2) := by decide +kernel
theorem dX11_pointsOf_5 : decode cX11_pointsOf 5 = .ok (.iload 4, 2) := by decide +kernel
theorem dX11_pointsOf_7 : decode cX11_pointsOf 7 = .ok (.i2l, 1) := by decide +kernel
theorem dX11_pointsOf_8 : decode cX11_pointsOf 8 = .ok (.aload_n 0, 1) := by decide +kernel
theorem dX11_pointsOf_9 : decode cX11_pointsOf 9 = .ok (.getfield 9, 3) := by decide +kernel
theorem dX11_pointsOf_12 : decode cX11_pointsOf 12 = .ok (.bipush 6, 2) := by decide +kernel
theorem dX11_pointsOf_14 : decode cX11_pointsOf 14 = .ok (.laload, 1) := by decide +kernel
theorem dX11_pointsOf_15 : decode cX11_pointsOf 15 = .ok (.lcmp, 1) := by decide +kernel
theorem dX11_pointsOf_16 : decode cX11_pointsOf 16 = .ok (.ifCond .ge 49, 3) := by decide +kernel
theorem dX11_pointsOf_19 : decode cX11_pointsOf 19 = .ok (.aload_n 0, 1) := by decide +kernel
theorem dX11_pointsOf_20 : decode cX11_pointsOf 20 = .ok (.iload_n 1, 1) := by decide +kernel
theorem dX11_pointsOf_21 : decode cX11_pointsOf 21 = .ok (.invokevirtual 331, 3) := by decide +kernel
theorem dX11_pointsOf_24 : decode cX11_pointsOf 24 = .ok (.ifCond .eq 41, 3) := by decide +kernel
theorem dX11_pointsOf_27 : decode cX11_pointsOf 27 = .ok (.lload_n 2, 1) := by decide +kernel
theorem dX11_pointsOf_28 : decode cX11_pointsOf 28 = .ok (.aload_n 0, 1) := by decide +kernel
theorem dX11_pointsOf_29 : decode cX11_pointsOf 29 = .ok (.iload 4, 2) := by decide +kernel
theorem dX11_pointsOf_31 : decode cX11_pointsOf 31 = .ok (.iconst 0, 1) := by decide +kernel
theorem dX11_pointsOf_32 : decode cX11_pointsOf 32 = .ok (.invokevirtual 334, 3) := by decide +kernel
theorem dX11_pointsOf_35 : decode cX11_pointsOf 35 = .ok (.iload_n 1, 1) := by decide +kernel
theorem dX11_pointsOf_36 : decode cX11_pointsOf 36 = .ok (.if_icmp .ne 20, 3) := by decide +kernel
theorem dX11_pointsOf_39 : decode cX11_pointsOf 39 = .ok (.aload_n 0, 1) := by decide +kernel
theorem dX11_pointsOf_40 : decode cX11_pointsOf 40 = .ok (.iload 4, 2) := by decide +kernel
theorem dX11_pointsOf_42 : decode cX11_pointsOf 42 = .ok (.invokevirtual 338, 3) := by decide +kernel
theorem dX11_pointsOf_45 : decode cX11_pointsOf 45 = .ok (.aload_n 0, 1) := by decide +kernel
theorem dX11_pointsOf_46 : decode cX11_pointsOf 46 = .ok (.iload 4, 2) := by decide +kernel
theorem dX11_pointsOf_48 : decode cX11_pointsOf 48 = .ok (.invokevirtual 341, 3) := by decide +kernel
theorem dX11_pointsOf_51 : decode cX11_pointsOf 51 = .ok (.i2l, 1) := by decide +kernel
theorem dX11_pointsOf_52 : decode cX11_pointsOf 52 = .ok (.lmul, 1) := by decide +kernel
theorem dX11_pointsOf_53 : decode cX11_pointsOf 53 = .ok (.goto 4, 3) := by decide +kernel
theorem dX11_pointsOf_56 : decode cX11_pointsOf 56 = .ok (.lconst 0, 1) := by decide +kernel
theorem dX11_pointsOf_57 : decode cX11_pointsOf 57 = .ok (.ladd, 1) := by decide +kernel
theorem dX11_pointsOf_58 : decode cX11_pointsOf 58 = .ok (.lstore_n 2, 1) := by decide +kernel
theorem dX11_pointsOf_59 : decode cX11_pointsOf 59 = .ok (.iinc 4 1, 3) := by decide +kernel
theorem dX11_pointsOf_62 : decode cX11_pointsOf 62 = .ok (.goto (-57), 3) := by decide +kernel
theorem dX11_pointsOf_65 : decode cX11_pointsOf 65 = .ok (.lload_n 2, 1) := by decide +kernel
theorem dX11_pointsOf_66 : decode cX11_pointsOf 66 = .ok (.lreturn, 1) := by decide +kernel
theorem dX11_sumsOf_0 : decode cX11_sumsOf 0 = .ok (.lconst 0, 1) := by decide +kernel
theorem dX11_sumsOf_1 : decode cX11_sumsOf 1 = .ok (.lstore_n 2, 1) := by decide +kernel
theorem dX11_sumsOf_2 : decode cX11_sumsOf 2 = .ok (.iconst 0, 1) := by decide +kernel
theorem dX11_sumsOf_3 : decode cX11_sumsOf 3 = .ok (.istore 4, 2) := by decide +kernel
theorem dX11_sumsOf_5 : decode cX11_sumsOf 5 = .ok (.iload 4, 2) := by decide +kernel
theorem dX11_sumsOf_7 : decode cX11_sumsOf 7 = .ok (.i2l, 1) := by decide +kernel
theorem dX11_sumsOf_8 : decode cX11_sumsOf 8 = .ok (.aload_n 0, 1) := by decide +kernel
theorem dX11_sumsOf_9 : decode cX11_sumsOf 9 = .ok (.getfield 9, 3) := by decide +kernel
theorem dX11_sumsOf_12 : decode cX11_sumsOf 12 = .ok (.bipush 6, 2) := by decide +kernel
theorem dX11_sumsOf_14 : decode cX11_sumsOf 14 = .ok (.laload, 1) := by decide +kernel
theorem dX11_sumsOf_15 : decode cX11_sumsOf 15 = .ok (.lcmp, 1) := by decide +kernel
theorem dX11_sumsOf_16 : decode cX11_sumsOf 16 = .ok (.ifCond .ge 41, 3) := by decide +kernel
theorem dX11_sumsOf_19 : decode cX11_sumsOf 19 = .ok (.aload_n 0, 1) := by decide +kernel
theorem dX11_sumsOf_20 : decode cX11_sumsOf 20 = .ok (.iload_n 1, 1) := by decide +kernel
theorem dX11_sumsOf_21 : decode cX11_sumsOf 21 = .ok (.invokevirtual 331, 3) := by decide +kernel
theorem dX11_sumsOf_24 : decode cX11_sumsOf 24 = .ok (.ifCond .eq 33, 3) := by decide +kernel
theorem dX11_sumsOf_27 : decode cX11_sumsOf 27 = .ok (.lload_n 2, 1) := by decide +kernel
theorem dX11_sumsOf_28 : decode cX11_sumsOf 28 = .ok (.aload_n 0, 1) := by decide +kernel
theorem dX11_sumsOf_29 : decode cX11_sumsOf 29 = .ok (.iload 4, 2) := by decide +kernel
theorem dX11_sumsOf_31 : decode cX11_sumsOf 31 = .ok (.iconst 0, 1) := by decide +kernel
theorem dX11_sumsOf_32 : decode cX11_sumsOf 32 = .ok (.invokevirtual 334, 3) := by decide +kernel
theorem dX11_sumsOf_35 : decode cX11_sumsOf 35 = .ok (.iload_n 1, 1) := by decide +kernel
theorem dX11_sumsOf_36 : decode cX11_sumsOf 36 = .ok (.if_icmp .ne 12, 3) := by decide +kernel
theorem dX11_sumsOf_39 : decode cX11_sumsOf 39 = .ok (.aload_n 0, 1) := by decide +kernel
theorem dX11_sumsOf_40 : decode cX11_sumsOf 40 = .ok (.iload 4, 2) := by decide +kernel
theorem dX11_sumsOf_42 : decode cX11_sumsOf 42 = .ok (.invokevirtual 338, 3) := by decide +kernel
theorem dX11_sumsOf_45 : decode cX11_sumsOf 45 = .ok (.goto 4, 3) := by decide +kernel
theorem dX11_sumsOf_48 : decode cX11_sumsOf 48 = .ok (.lconst 0, 1) := by decide +kernel
theorem dX11_sumsOf_49 : decode cX11_sumsOf 49 = .ok (.ladd, 1) := by decide +kernel
theorem dX11_sumsOf_50 : decode cX11_sumsOf 50 = .ok (.lstore_n 2, 1) := by decide +kernel
theorem dX11_sumsOf_51 : decode cX11_sumsOf 51 = .ok (.iinc 4 1, 3) := by decide +kernel
theorem dX11_sumsOf_54 : decode cX11_sumsOf 54 = .ok (.goto (-49), 3) := by decide +kernel
theorem dX11_sumsOf_57 : decode cX11_sumsOf 57 = .ok (.lload_n 2, 1) := by decide +kernel
theorem dX11_sumsOf_58 : decode cX11_sumsOf 58 = .ok (.lreturn, 1) := by decide +kernel
theorem dX11_sumsAll_0 : decode cX11_sumsAll 0 = .ok (.lconst 0, 1) := by decide +kernel
theorem dX11_sumsAll_1 : decode cX11_sumsAll 1 = .ok (.lstore_n 1, 1) := by decide +kernel
theorem dX11_sumsAll_2 : decode cX11_sumsAll 2 = .ok (.iconst 0, 1) := by decide +kernel
theorem dX11_sumsAll_3 : decode cX11_sumsAll 3 = .ok (.istore_n 3, 1) := by decide +kernel
theorem dX11_sumsAll_4 : decode cX11_sumsAll 4 = .ok (.iload_n 3, 1) := by decide +kernel
theorem dX11_sumsAll_5 : decode cX11_sumsAll 5 = .ok (.i2l, 1) := by decide +kernel
theorem dX11_sumsAll_6 : decode cX11_sumsAll 6 = .ok (.aload_n 0, 1) := by decide +kernel
theorem dX11_sumsAll_7 : decode cX11_sumsAll 7 = .ok (.getfield 9, 3) := by decide +kernel
theorem dX11_sumsAll_10 : decode cX11_sumsAll 10 = .ok (.iconst 5, 1) := by decide +kernel
theorem dX11_sumsAll_11 : decode cX11_sumsAll 11 = .ok (.laload, 1) := by decide +kernel
theorem dX11_sumsAll_12 : decode cX11_sumsAll 12 = .ok (.lcmp, 1) := by decide +kernel
theorem dX11_sumsAll_13 : decode cX11_sumsAll 13 = .ok (.ifCond .ge 17, 3) := by decide +kernel
theorem dX11_sumsAll_16 : decode cX11_sumsAll 16 = .ok (.lload_n 1, 1) := by decide +kernel
theorem dX11_sumsAll_17 : decode cX11_sumsAll 17 = .ok (.aload_n 0, 1) := by decide +kernel
theorem dX11_sumsAll_18 : decode cX11_sumsAll 18 = .ok (.iload_n 3, 1) := by decide +kernel
theorem dX11_sumsAll_19 : decode cX11_sumsAll 19 = .ok (.invokevirtual 344, 3) := by decide +kernel
theorem dX11_sumsAll_22 : decode cX11_sumsAll 22 = .ok (.ladd, 1) := by decide +kernel
theorem dX11_sumsAll_23 : decode cX11_sumsAll 23 = .ok (.lstore_n 1, 1) := by decide +kernel
theorem dX11_sumsAll_24 : decode cX11_sumsAll 24 = .ok (.iinc 3 1, 3) := by decide +kernel
theorem dX11_sumsAll_27 : decode cX11_sumsAll 27 = .ok (.goto (-23), 3) := by decide +kernel
theorem dX11_sumsAll_30 : decode cX11_sumsAll 30 = .ok (.lload_n 1, 1) := by decide +kernel
theorem dX11_sumsAll_31 : decode cX11_sumsAll 31 = .ok (.lreturn, 1) := by decide +kernel
theorem dX11_advanceOf_0 : decode cX11_advanceOf 0 = .ok (.aload_n 0, 1) := by decide +kernel
theorem dX11_advanceOf_1 : decode cX11_advanceOf 1 = .ok (.iload_n 1, 1) := by decide +kernel
theorem dX11_advanceOf_2 : decode cX11_advanceOf 2 = .ok (.invokevirtual 315, 3) := by decide +kernel
theorem dX11_advanceOf_5 : decode cX11_advanceOf 5 = .ok (.aload_n 0, 1) := by decide +kernel
theorem dX11_advanceOf_6 : decode cX11_advanceOf 6 = .ok (.getfield 9, 3) := by decide +kernel
theorem dX11_advanceOf_9 : decode cX11_advanceOf 9 = .ok (.iconst 0, 1) := by decide +kernel
theorem dX11_advanceOf_10 : decode cX11_advanceOf 10 = .ok (.laload, 1) := by decide +kernel
theorem dX11_advanceOf_11 : decode cX11_advanceOf 11 = .ok (.lmul, 1) := by decide +kernel
theorem dX11_advanceOf_12 : decode cX11_advanceOf 12 = .ok (.ldc2_w 347, 3) := by decide +kernel
theorem dX11_advanceOf_15 : decode cX11_advanceOf 15 = .ok (.ldiv, 1) := by decide +kernel
theorem dX11_advanceOf_16 : decode cX11_advanceOf 16 = .ok (.lreturn, 1) := by decide +kernel
theorem dX11_isOver_0 : decode cX11_isOver 0 = .ok (.bipush 46, 2) := by decide +kernel
theorem dX11_isOver_2 : decode cX11_isOver 2 = .ok (.iconst 5, 1) := by decide +kernel
theorem dX11_isOver_3 : decode cX11_isOver 3 = .ok (.iload_n 1, 1) := by decide +kernel
theorem dX11_isOver_4 : decode cX11_isOver 4 = .ok (.imul, 1) := by decide +kernel
theorem dX11_isOver_5 : decode cX11_isOver 5 = .ok (.iadd, 1) := by decide +kernel
theorem dX11_isOver_6 : decode cX11_isOver 6 = .ok (.istore_n 3, 1) := by decide +kernel
theorem dX11_isOver_7 : decode cX11_isOver 7 = .ok (.aload_n 0, 1) := by decide +kernel
theorem dX11_isOver_8 : decode cX11_isOver 8 = .ok (.iload_n 2, 1) := by decide +kernel
theorem dX11_isOver_9 : decode cX11_isOver 9 = .ok (.iconst 1, 1) := by decide +kernel
theorem dX11_isOver_10 : decode cX11_isOver 10 = .ok (.invokevirtual 334, 3) := by decide +kernel
theorem dX11_isOver_13 : decode cX11_isOver 13 = .ok (.i2l, 1) := by decide +kernel
theorem dX11_isOver_14 : decode cX11_isOver 14 = .ok (.aload_n 0, 1) := by decide +kernel
theorem dX11_isOver_15 : decode cX11_isOver 15 = .ok (.getfield 9, 3) := by decide +kernel
theorem dX11_isOver_18 : decode cX11_isOver 18 = .ok (.iload_n 3, 1) := by decide +kernel
theorem dX11_isOver_19 : decode cX11_isOver 19 = .ok (.laload, 1) := by decide +kernel
theorem dX11_isOver_20 : decode cX11_isOver 20 = .ok (.aload_n 0, 1) := by decide +kernel
theorem dX11_isOver_21 : decode cX11_isOver 21 = .ok (.getfield 9, 3) := by decide +kernel
theorem dX11_isOver_24 : decode cX11_isOver 24 = .ok (.iload_n 3, 1) := by decide +kernel
theorem dX11_isOver_25 : decode cX11_isOver 25 = .ok (.iconst 2, 1) := by decide +kernel
theorem dX11_isOver_26 : decode cX11_isOver 26 = .ok (.iadd, 1) := by decide +kernel
theorem dX11_isOver_27 : decode cX11_isOver 27 = .ok (.laload, 1) := by decide +kernel
theorem dX11_isOver_28 : decode cX11_isOver 28 = .ok (.invokestatic 126, 3) := by decide +kernel
theorem dX11_isOver_31 : decode cX11_isOver 31 = .ok (.ifCond .eq 36, 3) := by decide +kernel
theorem dX11_isOver_34 : decode cX11_isOver 34 = .ok (.aload_n 0, 1) := by decide +kernel
theorem dX11_isOver_35 : decode cX11_isOver 35 = .ok (.iload_n 2, 1) := by decide +kernel
theorem dX11_isOver_36 : decode cX11_isOver 36 = .ok (.iconst 2, 1) := by decide +kernel
theorem dX11_isOver_37 : decode cX11_isOver 37 = .ok (.invokevirtual 334, 3) := by decide +kernel
theorem dX11_isOver_40 : decode cX11_isOver 40 = .ok (.i2l, 1) := by decide +kernel
theorem dX11_isOver_41 : decode cX11_isOver 41 = .ok (.aload_n 0, 1) := by decide +kernel
theorem dX11_isOver_42 : decode cX11_isOver 42 = .ok (.getfield 9, 3) := by decide +kernel
theorem dX11_isOver_45 : decode cX11_isOver 45 = .ok (.iload_n 3, 1) := by decide +kernel
theorem dX11_isOver_46 : decode cX11_isOver 46 = .ok (.iconst 1, 1) := by decide +kernel
theorem dX11_isOver_47 : decode cX11_isOver 47 = .ok (.iadd, 1) := by decide +kernel
theorem dX11_isOver_48 : decode cX11_isOver 48 = .ok (.laload, 1) := by decide +kernel
theorem dX11_isOver_49 : decode cX11_isOver 49 = .ok (.aload_n 0, 1) := by decide +kernel
theorem dX11_isOver_50 : decode cX11_isOver 50 = .ok (.getfield 9, 3) := by decide +kernel
theorem dX11_isOver_53 : decode cX11_isOver 53 = .ok (.iload_n 3, 1) := by decide +kernel
theorem dX11_isOver_54 : decode cX11_isOver 54 = .ok (.iconst 3, 1) := by decide +kernel
theorem dX11_isOver_55 : decode cX11_isOver 55 = .ok (.iadd, 1) := by decide +kernel
theorem dX11_isOver_56 : decode cX11_isOver 56 = .ok (.laload, 1) := by decide +kernel
theorem dX11_isOver_57 : decode cX11_isOver 57 = .ok (.invokestatic 126, 3) := by decide +kernel
theorem dX11_isOver_60 : decode cX11_isOver 60 = .ok (.ifCond .eq 7, 3) := by decide +kernel
theorem dX11_isOver_63 : decode cX11_isOver 63 = .ok (.iconst 1, 1) := by decide +kernel
theorem dX11_isOver_64 : decode cX11_isOver 64 = .ok (.goto 4, 3) := by decide +kernel
theorem dX11_isOver_67 : decode cX11_isOver 67 = .ok (.iconst 0, 1) := by decide +kernel
theorem dX11_isOver_68 : decode cX11_isOver 68 = .ok (.ireturn, 1) := by decide +kernel
theorem dX11_hit_0 : decode cX11_hit 0 = .ok (.aload_n 0, 1) := by decide +kernel
theorem dX11_hit_1 : decode cX11_hit 1 = .ok (.iload_n 1, 1) := by decide +kernel
theorem dX11_hit_2 : decode cX11_hit 2 = .ok (.iload_n 2, 1) := by decide +kernel
theorem dX11_hit_3 : decode cX11_hit 3 = .ok (.invokevirtual 349, 3) := by decide +kernel
theorem dX11_hit_6 : decode cX11_hit 6 = .ok (.ifCond .eq 36, 3) := by decide +kernel
theorem dX11_hit_9 : decode cX11_hit 9 = .ok (.aload_n 0, 1) := by decide +kernel
theorem dX11_hit_10 : decode cX11_hit 10 = .ok (.getfield 9, 3) := by decide +kernel
theorem dX11_hit_13 : decode cX11_hit 13 = .ok (.bipush 46, 2) := by decide +kernel
theorem dX11_hit_15 : decode cX11_hit 15 = .ok (.iconst 5, 1) := by decide +kernel
theorem dX11_hit_16 : decode cX11_hit 16 = .ok (.iload_n 1, 1) := by decide +kernel
theorem dX11_hit_17 : decode cX11_hit 17 = .ok (.imul, 1) := by decide +kernel
theorem dX11_hit_18 : decode cX11_hit 18 = .ok (.iadd, 1) := by decide +kernel
theorem dX11_hit_19 : decode cX11_hit 19 = .ok (.iconst 4, 1) := by decide +kernel
theorem dX11_hit_20 : decode cX11_hit 20 = .ok (.iadd, 1) := by decide +kernel
theorem dX11_hit_21 : decode cX11_hit 21 = .ok (.laload, 1) := by decide +kernel
theorem dX11_hit_22 : decode cX11_hit 22 = .ok (.aload_n 0, 1) := by decide +kernel
theorem dX11_hit_23 : decode cX11_hit 23 = .ok (.getfield 28, 3) := by decide +kernel
theorem dX11_hit_26 : decode cX11_hit 26 = .ok (.aload_n 0, 1) := by decide +kernel
theorem dX11_hit_27 : decode cX11_hit 27 = .ok (.iload_n 2, 1) := by decide +kernel
theorem dX11_hit_28 : decode cX11_hit 28 = .ok (.iconst 3, 1) := by decide +kernel
theorem dX11_hit_29 : decode cX11_hit 29 = .ok (.invokevirtual 334, 3) := by decide +kernel
theorem dX11_hit_32 : decode cX11_hit 32 = .ok (.iaload, 1) := by decide +kernel
theorem dX11_hit_33 : decode cX11_hit 33 = .ok (.i2l, 1) := by decide +kernel
theorem dX11_hit_34 : decode cX11_hit 34 = .ok (.lmul, 1) := by decide +kernel
theorem dX11_hit_35 : decode cX11_hit 35 = .ok (.ldc2_w 352, 3) := by decide +kernel
theorem dX11_hit_38 : decode cX11_hit 38 = .ok (.ldiv, 1) := by decide +kernel
theorem dX11_hit_39 : decode cX11_hit 39 = .ok (.goto 4, 3) := by decide +kernel
theorem dX11_hit_42 : decode cX11_hit 42 = .ok (.lconst 0, 1) := by decide +kernel
theorem dX11_hit_43 : decode cX11_hit 43 = .ok (.lreturn, 1) := by decide +kernel
theorem dX11_lostOf_0 : decode cX11_lostOf 0 = .ok (.lconst 0, 1) := by decide +kernel
theorem dX11_lostOf_1 : decode cX11_lostOf 1 = .ok (.lstore_n 2, 1) := by decide +kernel
theorem dX11_lostOf_2 : decode cX11_lostOf 2 = .ok (.iconst 0, 1) := by decide +kernel
theorem dX11_lostOf_3 : decode cX11_lostOf 3 = .ok (.istore 4, 2) := by decide +kernel
theorem dX11_lostOf_5 : decode cX11_lostOf 5 = .ok (.iload 4, 2) := by decide +kernel
theorem dX11_lostOf_7 : decode cX11_lostOf 7 = .ok (.i2l, 1) := by decide +kernel
theorem dX11_lostOf_8 : decode cX11_lostOf 8 = .ok (.aload_n 0, 1) := by decide +kernel
theorem dX11_lostOf_9 : decode cX11_lostOf 9 = .ok (.getfield 9, 3) := by decide +kernel
theorem dX11_lostOf_12 : decode cX11_lostOf 12 = .ok (.bipush 7, 2) := by decide +kernel
theorem dX11_lostOf_14 : decode cX11_lostOf 14 = .ok (.laload, 1) := by decide +kernel
theorem dX11_lostOf_15 : decode cX11_lostOf 15 = .ok (.lcmp, 1) := by decide +kernel
theorem dX11_lostOf_16 : decode cX11_lostOf 16 = .ok (.ifCond .ge 19, 3) := by decide +kernel
theorem dX11_lostOf_19 : decode cX11_lostOf 19 = .ok (.lload_n 2, 1) := by decide +kernel
theorem dX11_lostOf_20 : decode cX11_lostOf 20 = .ok (.aload_n 0, 1) := by decide +kernel
theorem dX11_lostOf_21 : decode cX11_lostOf 21 = .ok (.iload 4, 2) := by decide +kernel
theorem dX11_lostOf_23 : decode cX11_lostOf 23 = .ok (.iload_n 1, 1) := by decide +kernel
theorem dX11_lostOf_24 : decode cX11_lostOf 24 = .ok (.invokevirtual 354, 3) := by decide +kernel
theorem dX11_lostOf_27 : decode cX11_lostOf 27 = .ok (.ladd, 1) := by decide +kernel
theorem dX11_lostOf_28 : decode cX11_lostOf 28 = .ok (.lstore_n 2, 1) := by decide +kernel
theorem dX11_lostOf_29 : decode cX11_lostOf 29 = .ok (.iinc 4 1, 3) := by decide +kernel
theorem dX11_lostOf_32 : decode cX11_lostOf 32 = .ok (.goto (-27), 3) := by decide +kernel
theorem dX11_lostOf_35 : decode cX11_lostOf 35 = .ok (.ldc2_w 352, 3) := by decide +kernel
theorem dX11_lostOf_38 : decode cX11_lostOf 38 = .ok (.lload_n 2, 1) := by decide +kernel
theorem dX11_lostOf_39 : decode cX11_lostOf 39 = .ok (.invokestatic 308, 3) := by decide +kernel
theorem dX11_lostOf_42 : decode cX11_lostOf 42 = .ok (.lreturn, 1) := by decide +kernel
theorem dX11_paidBy_0 : decode cX11_paidBy 0 = .ok (.aload_n 0, 1) := by decide +kernel
theorem dX11_paidBy_1 : decode cX11_paidBy 1 = .ok (.getfield 116, 3) := by decide +kernel
theorem dX11_paidBy_4 : decode cX11_paidBy 4 = .ok (.ifCond .ne 17, 3) := by decide +kernel
theorem dX11_paidBy_7 : decode cX11_paidBy 7 = .ok (.lload_n 2, 1) := by decide +kernel
theorem dX11_paidBy_8 : decode cX11_paidBy 8 = .ok (.ldc2_w 358, 3) := by decide +kernel
theorem dX11_paidBy_11 : decode cX11_paidBy 11 = .ok (.lcmp, 1) := by decide +kernel
theorem dX11_paidBy_12 : decode cX11_paidBy 12 = .ok (.ifCond .ge 7, 3) := by decide +kernel
theorem dX11_paidBy_15 : decode cX11_paidBy 15 = .ok (.lconst 0, 1) := by decide +kernel
theorem dX11_paidBy_16 : decode cX11_paidBy 16 = .ok (.goto 4, 3) := by decide +kernel
theorem dX11_paidBy_19 : decode cX11_paidBy 19 = .ok (.lload_n 2, 1) := by decide +kernel
theorem dX11_paidBy_20 : decode cX11_paidBy 20 = .ok (.lreturn, 1) := by decide +kernel
theorem dX11_paidBy_21 : decode cX11_paidBy 21 = .ok (.aload_n 0, 1) := by decide +kernel
theorem dX11_paidBy_22 : decode cX11_paidBy 22 = .ok (.getfield 50, 3) := by decide +kernel
theorem dX11_paidBy_25 : decode cX11_paidBy 25 = .ok (.iconst 0, 1) := by decide +kernel
theorem dX11_paidBy_26 : decode cX11_paidBy 26 = .ok (.lload_n 2, 1) := by decide +kernel
theorem dX11_paidBy_27 : decode cX11_paidBy 27 = .ok (.lastore, 1) := by decide +kernel
theorem dX11_paidBy_28 : decode cX11_paidBy 28 = .ok (.aload_n 0, 1) := by decide +kernel
theorem dX11_paidBy_29 : decode cX11_paidBy 29 = .ok (.getfield 50, 3) := by decide +kernel
theorem dX11_paidBy_32 : decode cX11_paidBy 32 = .ok (.iconst 1, 1) := by decide +kernel
theorem dX11_paidBy_33 : decode cX11_paidBy 33 = .ok (.aload_n 0, 1) := by decide +kernel
theorem dX11_paidBy_34 : decode cX11_paidBy 34 = .ok (.iload_n 1, 1) := by decide +kernel
theorem dX11_paidBy_35 : decode cX11_paidBy 35 = .ok (.invokevirtual 341, 3) := by decide +kernel
theorem dX11_paidBy_38 : decode cX11_paidBy 38 = .ok (.i2l, 1) := by decide +kernel
theorem dX11_paidBy_39 : decode cX11_paidBy 39 = .ok (.lastore, 1) := by decide +kernel
theorem dX11_paidBy_40 : decode cX11_paidBy 40 = .ok (.aload_n 0, 1) := by decide +kernel
theorem dX11_paidBy_41 : decode cX11_paidBy 41 = .ok (.getfield 50, 3) := by decide +kernel
theorem dX11_paidBy_44 : decode cX11_paidBy 44 = .ok (.iconst 2, 1) := by decide +kernel
theorem dX11_paidBy_45 : decode cX11_paidBy 45 = .ok (.aload_n 0, 1) := by decide +kernel
theorem dX11_paidBy_46 : decode cX11_paidBy 46 = .ok (.getfield 9, 3) := by decide +kernel
theorem dX11_paidBy_49 : decode cX11_paidBy 49 = .ok (.bipush 34, 2) := by decide +kernel
theorem dX11_paidBy_51 : decode cX11_paidBy 51 = .ok (.aload_n 0, 1) := by decide +kernel
theorem dX11_paidBy_52 : decode cX11_paidBy 52 = .ok (.iload_n 1, 1) := by decide +kernel
theorem dX11_paidBy_53 : decode cX11_paidBy 53 = .ok (.iconst 0, 1) := by decide +kernel
theorem dX11_paidBy_54 : decode cX11_paidBy 54 = .ok (.invokevirtual 334, 3) := by decide +kernel
theorem dX11_paidBy_57 : decode cX11_paidBy 57 = .ok (.iadd, 1) := by decide +kernel
theorem dX11_paidBy_58 : decode cX11_paidBy 58 = .ok (.laload, 1) := by decide +kernel
theorem dX11_paidBy_59 : decode cX11_paidBy 59 = .ok (.lastore, 1) := by decide +kernel
theorem dX11_paidBy_60 : decode cX11_paidBy 60 = .ok (.aload_n 0, 1) := by decide +kernel
theorem dX11_paidBy_61 : decode cX11_paidBy 61 = .ok (.getfield 50, 3) := by decide +kernel
theorem dX11_paidBy_64 : decode cX11_paidBy 64 = .ok (.iconst 3, 1) := by decide +kernel
theorem dX11_paidBy_65 : decode cX11_paidBy 65 = .ok (.aload_n 0, 1) := by decide +kernel
theorem dX11_paidBy_66 : decode cX11_paidBy 66 = .ok (.iload_n 1, 1) := by decide +kernel
theorem dX11_paidBy_67 : decode cX11_paidBy 67 = .ok (.iconst 3, 1) := by decide +kernel
theorem dX11_paidBy_68 : decode cX11_paidBy 68 = .ok (.invokevirtual 334, 3) := by decide +kernel
theorem dX11_paidBy_71 : decode cX11_paidBy 71 = .ok (.i2l, 1) := by decide +kernel
theorem dX11_paidBy_72 : decode cX11_paidBy 72 = .ok (.lastore, 1) := by decide +kernel
theorem dX11_paidBy_73 : decode cX11_paidBy 73 = .ok (.lconst 0, 1) := by decide +kernel
theorem dX11_paidBy_74 : decode cX11_paidBy 74 = .ok (.lload_n 2, 1) := by decide +kernel
theorem dX11_paidBy_75 : decode cX11_paidBy 75 = .ok (.aload_n 0, 1) := by decide +kernel
theorem dX11_paidBy_76 : decode cX11_paidBy 76 = .ok (.invokevirtual 360, 3) := by decide +kernel
theorem dX11_paidBy_79 : decode cX11_paidBy 79 = .ok (.invokestatic 308, 3) := by decide +kernel
theorem dX11_paidBy_82 : decode cX11_paidBy 82 = .ok (.invokestatic 313, 3) := by decide +kernel
theorem dX11_paidBy_85 : decode cX11_paidBy 85 = .ok (.lreturn, 1) := by decide +kernel
theorem dX11_claimBy_0 : decode cX11_claimBy 0 = .ok (.aload_n 0, 1) := by decide +kernel
theorem dX11_claimBy_1 : decode cX11_claimBy 1 = .ok (.iload_n 1, 1) := by decide +kernel
theorem dX11_claimBy_2 : decode cX11_claimBy 2 = .ok (.invokevirtual 338, 3) := by decide +kernel
theorem dX11_claimBy_5 : decode cX11_claimBy 5 = .ok (.aload_n 0, 1) := by decide +kernel
theorem dX11_claimBy_6 : decode cX11_claimBy 6 = .ok (.iload_n 1, 1) := by decide +kernel
theorem dX11_claimBy_7 : decode cX11_claimBy 7 = .ok (.lload_n 2, 1) := by decide +kernel
theorem dX11_claimBy_8 : decode cX11_claimBy 8 = .ok (.invokevirtual 363, 3) := by decide +kernel
theorem dX11_claimBy_11 : decode cX11_claimBy 11 = .ok (.lmul, 1) := by decide +kernel
theorem dX11_claimBy_12 : decode cX11_claimBy 12 = .ok (.ldc2_w 352, 3) := by decide +kernel
theorem dX11_claimBy_15 : decode cX11_claimBy 15 = .ok (.ldiv, 1) := by decide +kernel
theorem dX11_claimBy_16 : decode cX11_claimBy 16 = .ok (.lreturn, 1) := by decide +kernel
theorem dX11_claimsOf_0 : decode cX11_claimsOf 0 = .ok (.lconst 0, 1) := by decide +kernel
theorem dX11_claimsOf_1 : decode cX11_claimsOf 1 = .ok (.lstore_n 2, 1) := by decide +kernel
theorem dX11_claimsOf_2 : decode cX11_claimsOf 2 = .ok (.iconst 0, 1) := by decide +kernel
theorem dX11_claimsOf_3 : decode cX11_claimsOf 3 = .ok (.istore 4, 2) := by decide +kernel
theorem dX11_claimsOf_5 : decode cX11_claimsOf 5 = .ok (.iload 4, 2) := by decide +kernel
theorem dX11_claimsOf_7 : decode cX11_claimsOf 7 = .ok (.i2l, 1) := by decide +kernel
theorem dX11_claimsOf_8 : decode cX11_claimsOf 8 = .ok (.aload_n 0, 1) := by decide +kernel
theorem dX11_claimsOf_9 : decode cX11_claimsOf 9 = .ok (.getfield 9, 3) := by decide +kernel
theorem dX11_claimsOf_12 : decode cX11_claimsOf 12 = .ok (.bipush 6, 2) := by decide +kernel
theorem dX11_claimsOf_14 : decode cX11_claimsOf 14 = .ok (.laload, 1) := by decide +kernel
theorem dX11_claimsOf_15 : decode cX11_claimsOf 15 = .ok (.lcmp, 1) := by decide +kernel
theorem dX11_claimsOf_16 : decode cX11_claimsOf 16 = .ok (.ifCond .ge 47, 3) := by decide +kernel
theorem dX11_claimsOf_19 : decode cX11_claimsOf 19 = .ok (.aload_n 0, 1) := by decide +kernel
theorem dX11_claimsOf_20 : decode cX11_claimsOf 20 = .ok (.iload_n 1, 1) := by decide +kernel
theorem dX11_claimsOf_21 : decode cX11_claimsOf 21 = .ok (.invokevirtual 331, 3) := by decide +kernel
theorem dX11_claimsOf_24 : decode cX11_claimsOf 24 = .ok (.ifCond .eq 39, 3) := by decide +kernel
theorem dX11_claimsOf_27 : decode cX11_claimsOf 27 = .ok (.lload_n 2, 1) := by decide +kernel
theorem dX11_claimsOf_28 : decode cX11_claimsOf 28 = .ok (.aload_n 0, 1) := by decide +kernel
theorem dX11_claimsOf_29 : decode cX11_claimsOf 29 = .ok (.iload 4, 2) := by decide +kernel
theorem dX11_claimsOf_31 : decode cX11_claimsOf 31 = .ok (.iconst 0, 1) := by decide +kernel
theorem dX11_claimsOf_32 : decode cX11_claimsOf 32 = .ok (.invokevirtual 334, 3) := by decide +kernel
theorem dX11_claimsOf_35 : decode cX11_claimsOf 35 = .ok (.iload_n 1, 1) := by decide +kernel
theorem dX11_claimsOf_36 : decode cX11_claimsOf 36 = .ok (.if_icmp .ne 18, 3) := by decide +kernel
theorem dX11_claimsOf_39 : decode cX11_claimsOf 39 = .ok (.aload_n 0, 1) := by decide +kernel
theorem dX11_claimsOf_40 : decode cX11_claimsOf 40 = .ok (.iload 4, 2) := by decide +kernel
theorem dX11_claimsOf_42 : decode cX11_claimsOf 42 = .ok (.aload_n 0, 1) := by decide +kernel
theorem dX11_claimsOf_43 : decode cX11_claimsOf 43 = .ok (.iload 4, 2) := by decide +kernel
theorem dX11_claimsOf_45 : decode cX11_claimsOf 45 = .ok (.invokevirtual 367, 3) := by decide +kernel
theorem dX11_claimsOf_48 : decode cX11_claimsOf 48 = .ok (.invokevirtual 370, 3) := by decide +kernel
theorem dX11_claimsOf_51 : decode cX11_claimsOf 51 = .ok (.goto 4, 3) := by decide +kernel
theorem dX11_claimsOf_54 : decode cX11_claimsOf 54 = .ok (.lconst 0, 1) := by decide +kernel
theorem dX11_claimsOf_55 : decode cX11_claimsOf 55 = .ok (.ladd, 1) := by decide +kernel
theorem dX11_claimsOf_56 : decode cX11_claimsOf 56 = .ok (.lstore_n 2, 1) := by decide +kernel
theorem dX11_claimsOf_57 : decode cX11_claimsOf 57 = .ok (.iinc 4 1, 3) := by decide +kernel
theorem dX11_claimsOf_60 : decode cX11_claimsOf 60 = .ok (.goto (-55), 3) := by decide +kernel
theorem dX11_claimsOf_63 : decode cX11_claimsOf 63 = .ok (.lload_n 2, 1) := by decide +kernel
theorem dX11_claimsOf_64 : decode cX11_claimsOf 64 = .ok (.lreturn, 1) := by decide +kernel
theorem dX11_losses_0 : decode cX11_losses 0 = .ok (.lconst 0, 1) := by decide +kernel
theorem dX11_losses_1 : decode cX11_losses 1 = .ok (.lstore_n 1, 1) := by decide +kernel
theorem dX11_losses_2 : decode cX11_losses 2 = .ok (.iconst 0, 1) := by decide +kernel
theorem dX11_losses_3 : decode cX11_losses 3 = .ok (.istore_n 3, 1) := by decide +kernel
theorem dX11_losses_4 : decode cX11_losses 4 = .ok (.iload_n 3, 1) := by decide +kernel
theorem dX11_losses_5 : decode cX11_losses 5 = .ok (.i2l, 1) := by decide +kernel
theorem dX11_losses_6 : decode cX11_losses 6 = .ok (.aload_n 0, 1) := by decide +kernel
theorem dX11_losses_7 : decode cX11_losses 7 = .ok (.getfield 9, 3) := by decide +kernel
theorem dX11_losses_10 : decode cX11_losses 10 = .ok (.iconst 5, 1) := by decide +kernel
theorem dX11_losses_11 : decode cX11_losses 11 = .ok (.laload, 1) := by decide +kernel
theorem dX11_losses_12 : decode cX11_losses 12 = .ok (.lcmp, 1) := by decide +kernel
theorem dX11_losses_13 : decode cX11_losses 13 = .ok (.ifCond .ge 17, 3) := by decide +kernel
theorem dX11_losses_16 : decode cX11_losses 16 = .ok (.lload_n 1, 1) := by decide +kernel
theorem dX11_losses_17 : decode cX11_losses 17 = .ok (.aload_n 0, 1) := by decide +kernel
theorem dX11_losses_18 : decode cX11_losses 18 = .ok (.iload_n 3, 1) := by decide +kernel
theorem dX11_losses_19 : decode cX11_losses 19 = .ok (.invokevirtual 373, 3) := by decide +kernel
theorem dX11_losses_22 : decode cX11_losses 22 = .ok (.ladd, 1) := by decide +kernel
theorem dX11_losses_23 : decode cX11_losses 23 = .ok (.lstore_n 1, 1) := by decide +kernel
theorem dX11_losses_24 : decode cX11_losses 24 = .ok (.iinc 3 1, 3) := by decide +kernel
theorem dX11_losses_27 : decode cX11_losses 27 = .ok (.goto (-23), 3) := by decide +kernel
theorem dX11_losses_30 : decode cX11_losses 30 = .ok (.lload_n 1, 1) := by decide +kernel
theorem dX11_losses_31 : decode cX11_losses 31 = .ok (.lreturn, 1) := by decide +kernel
theorem dX11_canBe_0 : decode cX11_canBe 0 = .ok (.iload_n 0, 1) := by decide +kernel
theorem dX11_canBe_1 : decode cX11_canBe 1 = .ok (.i2l, 1) := by decide +kernel
theorem dX11_canBe_2 : decode cX11_canBe 2 = .ok (.lconst 0, 1) := by decide +kernel
theorem dX11_canBe_3 : decode cX11_canBe 3 = .ok (.ldc2_w 376, 3) := by decide +kernel
theorem dX11_canBe_6 : decode cX11_canBe 6 = .ok (.invokestatic 126, 3) := by decide +kernel
theorem dX11_canBe_9 : decode cX11_canBe 9 = .ok (.ifCond .eq 58, 3) := by decide +kernel
theorem dX11_canBe_12 : decode cX11_canBe 12 = .ok (.iload_n 1, 1) := by decide +kernel
theorem dX11_canBe_13 : decode cX11_canBe 13 = .ok (.i2l, 1) := by decide +kernel
theorem dX11_canBe_14 : decode cX11_canBe 14 = .ok (.lconst 0, 1) := by decide +kernel
theorem dX11_canBe_15 : decode cX11_canBe 15 = .ok (.ldc2_w 376, 3) := by decide +kernel
theorem dX11_canBe_18 : decode cX11_canBe 18 = .ok (.invokestatic 126, 3) := by decide +kernel
theorem dX11_canBe_21 : decode cX11_canBe 21 = .ok (.ifCond .eq 46, 3) := by decide +kernel
theorem dX11_canBe_24 : decode cX11_canBe 24 = .ok (.iload_n 2, 1) := by decide +kernel
theorem dX11_canBe_25 : decode cX11_canBe 25 = .ok (.i2l, 1) := by decide +kernel
theorem dX11_canBe_26 : decode cX11_canBe 26 = .ok (.iload_n 0, 1) := by decide +kernel
theorem dX11_canBe_27 : decode cX11_canBe 27 = .ok (.i2l, 1) := by decide +kernel
theorem dX11_canBe_28 : decode cX11_canBe 28 = .ok (.ldc2_w 376, 3) := by decide +kernel
theorem dX11_canBe_31 : decode cX11_canBe 31 = .ok (.invokestatic 126, 3) := by decide +kernel
theorem dX11_canBe_34 : decode cX11_canBe 34 = .ok (.ifCond .eq 33, 3) := by decide +kernel
theorem dX11_canBe_37 : decode cX11_canBe 37 = .ok (.iload_n 3, 1) := by decide +kernel
theorem dX11_canBe_38 : decode cX11_canBe 38 = .ok (.i2l, 1) := by decide +kernel
theorem dX11_canBe_39 : decode cX11_canBe 39 = .ok (.iload_n 1, 1) := by decide +kernel
theorem dX11_canBe_40 : decode cX11_canBe 40 = .ok (.i2l, 1) := by decide +kernel
theorem dX11_canBe_41 : decode cX11_canBe 41 = .ok (.ldc2_w 376, 3) := by decide +kernel
theorem dX11_canBe_44 : decode cX11_canBe 44 = .ok (.invokestatic 126, 3) := by decide +kernel
theorem dX11_canBe_47 : decode cX11_canBe 47 = .ok (.ifCond .eq 20, 3) := by decide +kernel
theorem dX11_canBe_50 : decode cX11_canBe 50 = .ok (.iload 4, 2) := by decide +kernel
theorem dX11_canBe_52 : decode cX11_canBe 52 = .ok (.i2l, 1) := by decide +kernel
theorem dX11_canBe_53 : decode cX11_canBe 53 = .ok (.lconst 1, 1) := by decide +kernel
theorem dX11_canBe_54 : decode cX11_canBe 54 = .ok (.ldc2_w 352, 3) := by decide +kernel
theorem dX11_canBe_57 : decode cX11_canBe 57 = .ok (.invokestatic 126, 3) := by decide +kernel
theorem dX11_canBe_60 : decode cX11_canBe 60 = .ok (.ifCond .eq 7, 3) := by decide +kernel
theorem dX11_canBe_63 : decode cX11_canBe 63 = .ok (.iconst 1, 1) := by decide +kernel
theorem dX11_canBe_64 : decode cX11_canBe 64 = .ok (.goto 4, 3) := by decide +kernel
theorem dX11_canBe_67 : decode cX11_canBe 67 = .ok (.iconst 0, 1) := by decide +kernel
theorem dX11_canBe_68 : decode cX11_canBe 68 = .ok (.ireturn, 1) := by decide +kernel
theorem dX11_comes_0 : decode cX11_comes 0 = .ok (.bipush 46, 2) := by decide +kernel
theorem dX11_comes_2 : decode cX11_comes 2 = .ok (.iconst 5, 1) := by decide +kernel
theorem dX11_comes_3 : decode cX11_comes 3 = .ok (.aload_n 0, 1) := by decide +kernel
theorem dX11_comes_4 : decode cX11_comes 4 = .ok (.getfield 9, 3) := by decide +kernel
theorem dX11_comes_7 : decode cX11_comes 7 = .ok (.bipush 7, 2) := by decide +kernel
theorem dX11_comes_9 : decode cX11_comes 9 = .ok (.laload, 1) := by decide +kernel
theorem dX11_comes_10 : decode cX11_comes 10 = .ok (.l2i, 1) := by decide +kernel
theorem dX11_comes_11 : decode cX11_comes 11 = .ok (.imul, 1) := by decide +kernel
theorem dX11_comes_12 : decode cX11_comes 12 = .ok (.iadd, 1) := by decide +kernel
theorem dX11_comes_13 : decode cX11_comes 13 = .ok (.istore 6, 2) := by decide +kernel
theorem dX11_comes_15 : decode cX11_comes 15 = .ok (.aload_n 0, 1) := by decide +kernel
theorem dX11_comes_16 : decode cX11_comes 16 = .ok (.getfield 9, 3) := by decide +kernel
theorem dX11_comes_19 : decode cX11_comes 19 = .ok (.iload 6, 2) := by decide +kernel
theorem dX11_comes_21 : decode cX11_comes 21 = .ok (.iload_n 1, 1) := by decide +kernel
theorem dX11_comes_22 : decode cX11_comes 22 = .ok (.i2l, 1) := by decide +kernel
theorem dX11_comes_23 : decode cX11_comes 23 = .ok (.lastore, 1) := by decide +kernel
theorem dX11_comes_24 : decode cX11_comes 24 = .ok (.aload_n 0, 1) := by decide +kernel
theorem dX11_comes_25 : decode cX11_comes 25 = .ok (.getfield 9, 3) := by decide +kernel
theorem dX11_comes_28 : decode cX11_comes 28 = .ok (.iload 6, 2) := by decide +kernel
theorem dX11_comes_30 : decode cX11_comes 30 = .ok (.iconst 1, 1) := by decide +kernel
theorem dX11_comes_31 : decode cX11_comes 31 = .ok (.iadd, 1) := by decide +kernel
theorem dX11_comes_32 : decode cX11_comes 32 = .ok (.iload_n 2, 1) := by decide +kernel
theorem dX11_comes_33 : decode cX11_comes 33 = .ok (.i2l, 1) := by decide +kernel
theorem dX11_comes_34 : decode cX11_comes 34 = .ok (.lastore, 1) := by decide +kernel
theorem dX11_comes_35 : decode cX11_comes 35 = .ok (.aload_n 0, 1) := by decide +kernel
theorem dX11_comes_36 : decode cX11_comes 36 = .ok (.getfield 9, 3) := by decide +kernel
theorem dX11_comes_39 : decode cX11_comes 39 = .ok (.iload 6, 2) := by decide +kernel
theorem dX11_comes_41 : decode cX11_comes 41 = .ok (.iconst 2, 1) := by decide +kernel
theorem dX11_comes_42 : decode cX11_comes 42 = .ok (.iadd, 1) := by decide +kernel
theorem dX11_comes_43 : decode cX11_comes 43 = .ok (.iload_n 3, 1) := by decide +kernel
theorem dX11_comes_44 : decode cX11_comes 44 = .ok (.i2l, 1) := by decide +kernel
theorem dX11_comes_45 : decode cX11_comes 45 = .ok (.lastore, 1) := by decide +kernel
theorem dX11_comes_46 : decode cX11_comes 46 = .ok (.aload_n 0, 1) := by decide +kernel
theorem dX11_comes_47 : decode cX11_comes 47 = .ok (.getfield 9, 3) := by decide +kernel
theorem dX11_comes_50 : decode cX11_comes 50 = .ok (.iload 6, 2) := by decide +kernel
theorem dX11_comes_52 : decode cX11_comes 52 = .ok (.iconst 3, 1) := by decide +kernel
theorem dX11_comes_53 : decode cX11_comes 53 = .ok (.iadd, 1) := by decide +kernel
theorem dX11_comes_54 : decode cX11_comes 54 = .ok (.iload 4, 2) := by decide +kernel
theorem dX11_comes_56 : decode cX11_comes 56 = .ok (.i2l, 1) := by decide +kernel
theorem dX11_comes_57 : decode cX11_comes 57 = .ok (.lastore, 1) := by decide +kernel
theorem dX11_comes_58 : decode cX11_comes 58 = .ok (.aload_n 0, 1) := by decide +kernel
theorem dX11_comes_59 : decode cX11_comes 59 = .ok (.getfield 9, 3) := by decide +kernel
theorem dX11_comes_62 : decode cX11_comes 62 = .ok (.iload 6, 2) := by decide +kernel
theorem dX11_comes_64 : decode cX11_comes 64 = .ok (.iconst 4, 1) := by decide +kernel
theorem dX11_comes_65 : decode cX11_comes 65 = .ok (.iadd, 1) := by decide +kernel
theorem dX11_comes_66 : decode cX11_comes 66 = .ok (.iload 5, 2) := by decide +kernel
theorem dX11_comes_68 : decode cX11_comes 68 = .ok (.i2l, 1) := by decide +kernel
theorem dX11_comes_69 : decode cX11_comes 69 = .ok (.lastore, 1) := by decide +kernel
theorem dX11_comes_70 : decode cX11_comes 70 = .ok (.aload_n 0, 1) := by decide +kernel
theorem dX11_comes_71 : decode cX11_comes 71 = .ok (.getfield 9, 3) := by decide +kernel
theorem dX11_comes_74 : decode cX11_comes 74 = .ok (.bipush 7, 2) := by decide +kernel
theorem dX11_comes_76 : decode cX11_comes 76 = .ok (.dup2, 1) := by decide +kernel
theorem dX11_comes_77 : decode cX11_comes 77 = .ok (.laload, 1) := by decide +kernel
theorem dX11_comes_78 : decode cX11_comes 78 = .ok (.lconst 1, 1) := by decide +kernel
theorem dX11_comes_79 : decode cX11_comes 79 = .ok (.ladd, 1) := by decide +kernel
theorem dX11_comes_80 : decode cX11_comes 80 = .ok (.lastore, 1) := by decide +kernel
theorem dX11_comes_81 : decode cX11_comes 81 = .ok (.return_, 1) := by decide +kernel
theorem dX11_storm_0 : decode cX11_storm 0 = .ok (.iload_n 1, 1) := by decide +kernel
theorem dX11_storm_1 : decode cX11_storm 1 = .ok (.iload_n 2, 1) := by decide +kernel
theorem dX11_storm_2 : decode cX11_storm 2 = .ok (.iload_n 3, 1) := by decide +kernel
theorem dX11_storm_3 : decode cX11_storm 3 = .ok (.iload 4, 2) := by decide +kernel
theorem dX11_storm_5 : decode cX11_storm 5 = .ok (.iload 5, 2) := by decide +kernel
theorem dX11_storm_7 : decode cX11_storm 7 = .ok (.invokestatic 378, 3) := by decide +kernel
theorem dX11_storm_10 : decode cX11_storm 10 = .ok (.ifCond .eq 17, 3) := by decide +kernel
theorem dX11_storm_13 : decode cX11_storm 13 = .ok (.aload_n 0, 1) := by decide +kernel
theorem dX11_storm_14 : decode cX11_storm 14 = .ok (.getfield 9, 3) := by decide +kernel
theorem dX11_storm_17 : decode cX11_storm 17 = .ok (.bipush 7, 2) := by decide +kernel
theorem dX11_storm_19 : decode cX11_storm 19 = .ok (.laload, 1) := by decide +kernel
theorem dX11_storm_20 : decode cX11_storm 20 = .ok (.ldc2_w 382, 3) := by decide +kernel
theorem dX11_storm_23 : decode cX11_storm 23 = .ok (.lcmp, 1) := by decide +kernel
theorem dX11_storm_24 : decode cX11_storm 24 = .ok (.ifCond .ne 5, 3) := by decide +kernel
theorem dX11_storm_27 : decode cX11_storm 27 = .ok (.iconst (-1), 1) := by decide +kernel
theorem dX11_storm_28 : decode cX11_storm 28 = .ok (.ireturn, 1) := by decide +kernel
theorem dX11_storm_29 : decode cX11_storm 29 = .ok (.aload_n 0, 1) := by decide +kernel
theorem dX11_storm_30 : decode cX11_storm 30 = .ok (.invokevirtual 319, 3) := by decide +kernel
theorem dX11_storm_33 : decode cX11_storm 33 = .ok (.aload_n 0, 1) := by decide +kernel
theorem dX11_storm_34 : decode cX11_storm 34 = .ok (.iload_n 1, 1) := by decide +kernel
theorem dX11_storm_35 : decode cX11_storm 35 = .ok (.iload_n 2, 1) := by decide +kernel
theorem dX11_storm_36 : decode cX11_storm 36 = .ok (.iload_n 3, 1) := by decide +kernel
theorem dX11_storm_37 : decode cX11_storm 37 = .ok (.iload 4, 2) := by decide +kernel
theorem dX11_storm_39 : decode cX11_storm 39 = .ok (.iload 5, 2) := by decide +kernel
theorem dX11_storm_41 : decode cX11_storm 41 = .ok (.invokevirtual 384, 3) := by decide +kernel
theorem dX11_storm_44 : decode cX11_storm 44 = .ok (.iconst 0, 1) := by decide +kernel
theorem dX11_storm_45 : decode cX11_storm 45 = .ok (.istore 6, 2) := by decide +kernel
theorem dX11_storm_47 : decode cX11_storm 47 = .ok (.iconst 0, 1) := by decide +kernel
theorem dX11_storm_48 : decode cX11_storm 48 = .ok (.istore 7, 2) := by decide +kernel
theorem dX11_storm_50 : decode cX11_storm 50 = .ok (.iload 7, 2) := by decide +kernel
theorem dX11_storm_52 : decode cX11_storm 52 = .ok (.i2l, 1) := by decide +kernel
theorem dX11_storm_53 : decode cX11_storm 53 = .ok (.aload_n 0, 1) := by decide +kernel
theorem dX11_storm_54 : decode cX11_storm 54 = .ok (.getfield 9, 3) := by decide +kernel
theorem dX11_storm_57 : decode cX11_storm 57 = .ok (.bipush 6, 2) := by decide +kernel
theorem dX11_storm_59 : decode cX11_storm 59 = .ok (.laload, 1) := by decide +kernel
theorem dX11_storm_60 : decode cX11_storm 60 = .ok (.lcmp, 1) := by decide +kernel
theorem dX11_storm_61 : decode cX11_storm 61 = .ok (.ifCond .ge 50, 3) := by decide +kernel
theorem dX11_storm_64 : decode cX11_storm 64 = .ok (.iload 6, 2) := by decide +kernel
theorem dX11_storm_66 : decode cX11_storm 66 = .ok (.aload_n 0, 1) := by decide +kernel
theorem dX11_storm_67 : decode cX11_storm 67 = .ok (.iload 7, 2) := by decide +kernel
theorem dX11_storm_69 : decode cX11_storm 69 = .ok (.invokevirtual 388, 3) := by decide +kernel
theorem dX11_storm_72 : decode cX11_storm 72 = .ok (.ifCond .eq 26, 3) := by decide +kernel
theorem dX11_storm_75 : decode cX11_storm 75 = .ok (.aload_n 0, 1) := by decide +kernel
theorem dX11_storm_76 : decode cX11_storm 76 = .ok (.aload_n 0, 1) := by decide +kernel
theorem dX11_storm_77 : decode cX11_storm 77 = .ok (.getfield 9, 3) := by decide +kernel
theorem dX11_storm_80 : decode cX11_storm 80 = .ok (.bipush 7, 2) := by decide +kernel
theorem dX11_storm_82 : decode cX11_storm 82 = .ok (.laload, 1) := by decide +kernel
theorem dX11_storm_83 : decode cX11_storm 83 = .ok (.l2i, 1) := by decide +kernel
theorem dX11_storm_84 : decode cX11_storm 84 = .ok (.iconst 1, 1) := by decide +kernel
theorem dX11_storm_85 : decode cX11_storm 85 = .ok (.isub, 1) := by decide +kernel
theorem dX11_storm_86 : decode cX11_storm 86 = .ok (.iload 7, 2) := by decide +kernel
theorem dX11_storm_88 : decode cX11_storm 88 = .ok (.invokevirtual 349, 3) := by decide +kernel
theorem dX11_storm_91 : decode cX11_storm 91 = .ok (.ifCond .eq 7, 3) := by decide +kernel
theorem dX11_storm_94 : decode cX11_storm 94 = .ok (.iconst 1, 1) := by decide +kernel
theorem dX11_storm_95 : decode cX11_storm 95 = .ok (.goto 4, 3) := by decide +kernel
theorem dX11_storm_98 : decode cX11_storm 98 = .ok (.iconst 0, 1) := by decide +kernel
theorem dX11_storm_99 : decode cX11_storm 99 = .ok (.invokestatic 391, 3) := by decide +kernel
theorem dX11_storm_102 : decode cX11_storm 102 = .ok (.iadd, 1) := by decide +kernel
theorem dX11_storm_103 : decode cX11_storm 103 = .ok (.istore 6, 2) := by decide +kernel
theorem dX11_storm_105 : decode cX11_storm 105 = .ok (.iinc 7 1, 3) := by decide +kernel
theorem dX11_storm_108 : decode cX11_storm 108 = .ok (.goto (-58), 3) := by decide +kernel
theorem dX11_storm_111 : decode cX11_storm 111 = .ok (.iload 6, 2) := by decide +kernel
theorem dX11_storm_113 : decode cX11_storm 113 = .ok (.ireturn, 1) := by decide +kernel
theorem dX11_leave_0 : decode cX11_leave 0 = .ok (.aload_n 0, 1) := by decide +kernel
theorem dX11_leave_1 : decode cX11_leave 1 = .ok (.iload_n 1, 1) := by decide +kernel
theorem dX11_leave_2 : decode cX11_leave 2 = .ok (.invokevirtual 395, 3) := by decide +kernel
theorem dX11_leave_5 : decode cX11_leave 5 = .ok (.ifCond .eq 17, 3) := by decide +kernel
theorem dX11_leave_8 : decode cX11_leave 8 = .ok (.aload_n 0, 1) := by decide +kernel
theorem dX11_leave_9 : decode cX11_leave 9 = .ok (.getfield 9, 3) := by decide +kernel
theorem dX11_leave_12 : decode cX11_leave 12 = .ok (.bipush 22, 2) := by decide +kernel
theorem dX11_leave_14 : decode cX11_leave 14 = .ok (.iload_n 1, 1) := by decide +kernel
theorem dX11_leave_15 : decode cX11_leave 15 = .ok (.iadd, 1) := by decide +kernel
theorem dX11_leave_16 : decode cX11_leave 16 = .ok (.laload, 1) := by decide +kernel
theorem dX11_leave_17 : decode cX11_leave 17 = .ok (.lconst 1, 1) := by decide +kernel
theorem dX11_leave_18 : decode cX11_leave 18 = .ok (.lcmp, 1) := by decide +kernel
theorem dX11_leave_19 : decode cX11_leave 19 = .ok (.ifCond .ne 5, 3) := by decide +kernel
theorem dX11_leave_22 : decode cX11_leave 22 = .ok (.iconst 0, 1) := by decide +kernel
theorem dX11_leave_23 : decode cX11_leave 23 = .ok (.ireturn, 1) := by decide +kernel
theorem dX11_leave_24 : decode cX11_leave 24 = .ok (.aload_n 0, 1) := by decide +kernel
theorem dX11_leave_25 : decode cX11_leave 25 = .ok (.invokevirtual 319, 3) := by decide +kernel
theorem dX11_leave_28 : decode cX11_leave 28 = .ok (.aload_n 0, 1) := by decide +kernel
theorem dX11_leave_29 : decode cX11_leave 29 = .ok (.getfield 9, 3) := by decide +kernel
theorem dX11_leave_32 : decode cX11_leave 32 = .ok (.bipush 22, 2) := by decide +kernel
theorem dX11_leave_34 : decode cX11_leave 34 = .ok (.iload_n 1, 1) := by decide +kernel
theorem dX11_leave_35 : decode cX11_leave 35 = .ok (.iadd, 1) := by decide +kernel
theorem dX11_leave_36 : decode cX11_leave 36 = .ok (.lconst 1, 1) := by decide +kernel
theorem dX11_leave_37 : decode cX11_leave 37 = .ok (.lastore, 1) := by decide +kernel
theorem dX11_leave_38 : decode cX11_leave 38 = .ok (.iconst 1, 1) := by decide +kernel
theorem dX11_leave_39 : decode cX11_leave 39 = .ok (.ireturn, 1) := by decide +kernel
theorem dX11_set_0 : decode cX11_set 0 = .ok (.iload_n 1, 1) := by decide +kernel
theorem dX11_set_1 : decode cX11_set 1 = .ok (.ifCond .eq 14, 3) := by decide +kernel
theorem dX11_set_4 : decode cX11_set 4 = .ok (.iload_n 1, 1) := by decide +kernel
theorem dX11_set_5 : decode cX11_set 5 = .ok (.iconst 5, 1) := by decide +kernel
theorem dX11_set_6 : decode cX11_set 6 = .ok (.if_icmp .eq 9, 3) := by decide +kernel
theorem dX11_set_9 : decode cX11_set 9 = .ok (.iload_n 1, 1) := by decide +kernel
theorem dX11_set_10 : decode cX11_set 10 = .ok (.bipush 6, 2) := by decide +kernel
theorem dX11_set_12 : decode cX11_set 12 = .ok (.if_icmp .ne 36, 3) := by decide +kernel
theorem dX11_set_15 : decode cX11_set 15 = .ok (.iload_n 2, 1) := by decide +kernel
theorem dX11_set_16 : decode cX11_set 16 = .ok (.i2l, 1) := by decide +kernel
theorem dX11_set_17 : decode cX11_set 17 = .ok (.lconst 0, 1) := by decide +kernel
theorem dX11_set_18 : decode cX11_set 18 = .ok (.iload_n 1, 1) := by decide +kernel
theorem dX11_set_19 : decode cX11_set 19 = .ok (.ifCond .ne 9, 3) := by decide +kernel
theorem dX11_set_22 : decode cX11_set 22 = .ok (.ldc2_w 398, 3) := by decide +kernel
theorem dX11_set_25 : decode cX11_set 25 = .ok (.goto 17, 3) := by decide +kernel
theorem dX11_set_28 : decode cX11_set 28 = .ok (.iload_n 1, 1) := by decide +kernel
theorem dX11_set_29 : decode cX11_set 29 = .ok (.iconst 5, 1) := by decide +kernel
theorem dX11_set_30 : decode cX11_set 30 = .ok (.if_icmp .ne 9, 3) := by decide +kernel
theorem dX11_set_33 : decode cX11_set 33 = .ok (.ldc2_w 400, 3) := by decide +kernel
theorem dX11_set_36 : decode cX11_set 36 = .ok (.goto 6, 3) := by decide +kernel
theorem dX11_set_39 : decode cX11_set 39 = .ok (.ldc2_w 352, 3) := by decide +kernel
theorem dX11_set_42 : decode cX11_set 42 = .ok (.invokestatic 126, 3) := by decide +kernel
theorem dX11_set_45 : decode cX11_set 45 = .ok (.ifCond .ne 5, 3) := by decide +kernel
theorem dX11_set_48 : decode cX11_set 48 = .ok (.iconst 0, 1) := by decide +kernel
theorem dX11_set_49 : decode cX11_set 49 = .ok (.ireturn, 1) := by decide +kernel
theorem dX11_set_50 : decode cX11_set 50 = .ok (.iload_n 1, 1) := by decide +kernel
theorem dX11_set_51 : decode cX11_set 51 = .ok (.ifCond .ne 7, 3) := by decide +kernel
theorem dX11_set_54 : decode cX11_set 54 = .ok (.iconst 0, 1) := by decide +kernel
theorem dX11_set_55 : decode cX11_set 55 = .ok (.goto 13, 3) := by decide +kernel
theorem dX11_set_58 : decode cX11_set 58 = .ok (.iload_n 1, 1) := by decide +kernel
theorem dX11_set_59 : decode cX11_set 59 = .ok (.iconst 5, 1) := by decide +kernel
theorem dX11_set_60 : decode cX11_set 60 = .ok (.if_icmp .ne 7, 3) := by decide +kernel
theorem dX11_set_63 : decode cX11_set 63 = .ok (.iconst 2, 1) := by decide +kernel
theorem dX11_set_64 : decode cX11_set 64 = .ok (.goto 4, 3) := by decide +kernel
theorem dX11_set_67 : decode cX11_set 67 = .ok (.iconst 3, 1) := by decide +kernel
theorem dX11_set_68 : decode cX11_set 68 = .ok (.istore_n 3, 1) := by decide +kernel
theorem dX11_set_69 : decode cX11_set 69 = .ok (.aload_n 0, 1) := by decide +kernel
theorem dX11_set_70 : decode cX11_set 70 = .ok (.getfield 9, 3) := by decide +kernel
theorem dX11_set_73 : decode cX11_set 73 = .ok (.iload_n 3, 1) := by decide +kernel
theorem dX11_set_74 : decode cX11_set 74 = .ok (.laload, 1) := by decide +kernel
theorem dX11_set_75 : decode cX11_set 75 = .ok (.iload_n 2, 1) := by decide +kernel
theorem dX11_set_76 : decode cX11_set 76 = .ok (.i2l, 1) := by decide +kernel
theorem dX11_set_77 : decode cX11_set 77 = .ok (.lcmp, 1) := by decide +kernel
theorem dX11_set_78 : decode cX11_set 78 = .ok (.ifCond .ne 5, 3) := by decide +kernel
theorem dX11_set_81 : decode cX11_set 81 = .ok (.iconst 0, 1) := by decide +kernel
theorem dX11_set_82 : decode cX11_set 82 = .ok (.ireturn, 1) := by decide +kernel
theorem dX11_set_83 : decode cX11_set 83 = .ok (.aload_n 0, 1) := by decide +kernel
theorem dX11_set_84 : decode cX11_set 84 = .ok (.invokevirtual 319, 3) := by decide +kernel
theorem dX11_set_87 : decode cX11_set 87 = .ok (.aload_n 0, 1) := by decide +kernel
theorem dX11_set_88 : decode cX11_set 88 = .ok (.getfield 9, 3) := by decide +kernel
theorem dX11_set_91 : decode cX11_set 91 = .ok (.iload_n 3, 1) := by decide +kernel
theorem dX11_set_92 : decode cX11_set 92 = .ok (.iload_n 2, 1) := by decide +kernel
theorem dX11_set_93 : decode cX11_set 93 = .ok (.i2l, 1) := by decide +kernel
theorem dX11_set_94 : decode cX11_set 94 = .ok (.lastore, 1) := by decide +kernel
theorem dX11_set_95 : decode cX11_set 95 = .ok (.iconst 1, 1) := by decide +kernel
theorem dX11_set_96 : decode cX11_set 96 = .ok (.ireturn, 1) := by decide +kernel
theorem dX11_divides_0 : decode cX11_divides 0 = .ok (.lconst 0, 1) := by decide +kernel
theorem dX11_divides_1 : decode cX11_divides 1 = .ok (.lstore_n 3, 1) := by decide +kernel
theorem dX11_divides_2 : decode cX11_divides 2 = .ok (.iconst 0, 1) := by decide +kernel
theorem dX11_divides_3 : decode cX11_divides 3 = .ok (.istore 5, 2) := by decide +kernel
theorem dX11_divides_5 : decode cX11_divides 5 = .ok (.iload 5, 2) := by decide +kernel
theorem dX11_divides_7 : decode cX11_divides 7 = .ok (.bipush 12, 2) := by decide +kernel
theorem dX11_divides_9 : decode cX11_divides 9 = .ok (.if_icmp .ge 41, 3) := by decide +kernel
theorem dX11_divides_12 : decode cX11_divides 12 = .ok (.aload_n 0, 1) := by decide +kernel
theorem dX11_divides_13 : decode cX11_divides 13 = .ok (.getfield 59, 3) := by decide +kernel
theorem dX11_divides_16 : decode cX11_divides 16 = .ok (.iload 5, 2) := by decide +kernel
theorem dX11_divides_18 : decode cX11_divides 18 = .ok (.lconst 0, 1) := by decide +kernel
theorem dX11_divides_19 : decode cX11_divides 19 = .ok (.lastore, 1) := by decide +kernel
theorem dX11_divides_20 : decode cX11_divides 20 = .ok (.lload_n 3, 1) := by decide +kernel
theorem dX11_divides_21 : decode cX11_divides 21 = .ok (.aload_n 0, 1) := by decide +kernel
theorem dX11_divides_22 : decode cX11_divides 22 = .ok (.getfield 65, 3) := by decide +kernel
theorem dX11_divides_25 : decode cX11_divides 25 = .ok (.iload 5, 2) := by decide +kernel
theorem dX11_divides_27 : decode cX11_divides 27 = .ok (.baload, 1) := by decide +kernel
theorem dX11_divides_28 : decode cX11_divides 28 = .ok (.ifCond .eq 13, 3) := by decide +kernel
theorem dX11_divides_31 : decode cX11_divides 31 = .ok (.aload_n 0, 1) := by decide +kernel
theorem dX11_divides_32 : decode cX11_divides 32 = .ok (.getfield 56, 3) := by decide +kernel
theorem dX11_divides_35 : decode cX11_divides 35 = .ok (.iload 5, 2) := by decide +kernel
theorem dX11_divides_37 : decode cX11_divides 37 = .ok (.laload, 1) := by decide +kernel
theorem dX11_divides_38 : decode cX11_divides 38 = .ok (.goto 4, 3) := by decide +kernel
theorem dX11_divides_41 : decode cX11_divides 41 = .ok (.lconst 0, 1) := by decide +kernel
theorem dX11_divides_42 : decode cX11_divides 42 = .ok (.ladd, 1) := by decide +kernel
theorem dX11_divides_43 : decode cX11_divides 43 = .ok (.lstore_n 3, 1) := by decide +kernel
theorem dX11_divides_44 : decode cX11_divides 44 = .ok (.iinc 5 1, 3) := by decide +kernel
theorem dX11_divides_47 : decode cX11_divides 47 = .ok (.goto (-42), 3) := by decide +kernel
theorem dX11_divides_50 : decode cX11_divides 50 = .ok (.lload_n 3, 1) := by decide +kernel
theorem dX11_divides_51 : decode cX11_divides 51 = .ok (.lconst 0, 1) := by decide +kernel
theorem dX11_divides_52 : decode cX11_divides 52 = .ok (.lcmp, 1) := by decide +kernel
theorem dX11_divides_53 : decode cX11_divides 53 = .ok (.ifCond .ne 5, 3) := by decide +kernel
theorem dX11_divides_56 : decode cX11_divides 56 = .ok (.lconst 0, 1) := by decide +kernel
theorem dX11_divides_57 : decode cX11_divides 57 = .ok (.lreturn, 1) := by decide +kernel
theorem dX11_divides_58 : decode cX11_divides 58 = .ok (.lload_n 1, 1) := by decide +kernel
theorem dX11_divides_59 : decode cX11_divides 59 = .ok (.lstore 5, 2) := by decide +kernel
theorem dX11_divides_61 : decode cX11_divides 61 = .ok (.iconst 0, 1) := by decide +kernel
theorem dX11_divides_62 : decode cX11_divides 62 = .ok (.istore 7, 2) := by decide +kernel
theorem dX11_divides_64 : decode cX11_divides 64 = .ok (.iload 7, 2) := by decide +kernel
theorem dX11_divides_66 : decode cX11_divides 66 = .ok (.bipush 12, 2) := by decide +kernel
theorem dX11_divides_68 : decode cX11_divides 68 = .ok (.if_icmp .ge 80, 3) := by decide +kernel
theorem dX11_divides_71 : decode cX11_divides 71 = .ok (.aload_n 0, 1) := by decide +kernel
theorem dX11_divides_72 : decode cX11_divides 72 = .ok (.getfield 62, 3) := by decide +kernel
theorem dX11_divides_75 : decode cX11_divides 75 = .ok (.iload 7, 2) := by decide +kernel
theorem dX11_divides_77 : decode cX11_divides 77 = .ok (.ldc2_w 402, 3) := by decide +kernel
theorem dX11_divides_80 : decode cX11_divides 80 = .ok (.lastore, 1) := by decide +kernel
theorem dX11_divides_81 : decode cX11_divides 81 = .ok (.aload_n 0, 1) := by decide +kernel
theorem dX11_divides_82 : decode cX11_divides 82 = .ok (.getfield 65, 3) := by decide +kernel
theorem dX11_divides_85 : decode cX11_divides 85 = .ok (.iload 7, 2) := by decide +kernel
theorem dX11_divides_87 : decode cX11_divides 87 = .ok (.baload, 1) := by decide +kernel
theorem dX11_divides_88 : decode cX11_divides 88 = .ok (.ifCond .ne 6, 3) := by decide +kernel
theorem dX11_divides_91 : decode cX11_divides 91 = .ok (.goto 51, 3) := by decide +kernel
theorem dX11_divides_94 : decode cX11_divides 94 = .ok (.aload_n 0, 1) := by decide +kernel
theorem dX11_divides_95 : decode cX11_divides 95 = .ok (.getfield 59, 3) := by decide +kernel
theorem dX11_divides_98 : decode cX11_divides 98 = .ok (.iload 7, 2) := by decide +kernel
theorem dX11_divides_100 : decode cX11_divides 100 = .ok (.lload_n 1, 1) := by decide +kernel
theorem dX11_divides_101 : decode cX11_divides 101 = .ok (.aload_n 0, 1) := by decide +kernel
theorem dX11_divides_102 : decode cX11_divides 102 = .ok (.getfield 56, 3) := by decide +kernel
theorem dX11_divides_105 : decode cX11_divides 105 = .ok (.iload 7, 2) := by decide +kernel
theorem dX11_divides_107 : decode cX11_divides 107 = .ok (.laload, 1) := by decide +kernel
theorem dX11_divides_108 : decode cX11_divides 108 = .ok (.lmul, 1) := by decide +kernel
theorem dX11_divides_109 : decode cX11_divides 109 = .ok (.lload_n 3, 1) := by decide +kernel
theorem dX11_divides_110 : decode cX11_divides 110 = .ok (.ldiv, 1) := by decide +kernel
theorem dX11_divides_111 : decode cX11_divides 111 = .ok (.lastore, 1) := by decide +kernel
theorem dX11_divides_112 : decode cX11_divides 112 = .ok (.aload_n 0, 1) := by decide +kernel
theorem dX11_divides_113 : decode cX11_divides 113 = .ok (.getfield 62, 3) := by decide +kernel
theorem dX11_divides_116 : decode cX11_divides 116 = .ok (.iload 7, 2) := by decide +kernel
theorem dX11_divides_118 : decode cX11_divides 118 = .ok (.lload_n 1, 1) := by decide +kernel
theorem dX11_divides_119 : decode cX11_divides 119 = .ok (.aload_n 0, 1) := by decide +kernel
theorem dX11_divides_120 : decode cX11_divides 120 = .ok (.getfield 56, 3) := by decide +kernel
theorem dX11_divides_123 : decode cX11_divides 123 = .ok (.iload 7, 2) := by decide +kernel
theorem dX11_divides_125 : decode cX11_divides 125 = .ok (.laload, 1) := by decide +kernel
theorem dX11_divides_126 : decode cX11_divides 126 = .ok (.lmul, 1) := by decide +kernel
theorem dX11_divides_127 : decode cX11_divides 127 = .ok (.lload_n 3, 1) := by decide +kernel
theorem dX11_divides_128 : decode cX11_divides 128 = .ok (.lrem, 1) := by decide +kernel
theorem dX11_divides_129 : decode cX11_divides 129 = .ok (.lastore, 1) := by decide +kernel
theorem dX11_divides_130 : decode cX11_divides 130 = .ok (.lload 5, 2) := by decide +kernel
theorem dX11_divides_132 : decode cX11_divides 132 = .ok (.aload_n 0, 1) := by decide +kernel
theorem dX11_divides_133 : decode cX11_divides 133 = .ok (.getfield 59, 3) := by decide +kernel
theorem dX11_divides_136 : decode cX11_divides 136 = .ok (.iload 7, 2) := by decide +kernel
theorem dX11_divides_138 : decode cX11_divides 138 = .ok (.laload, 1) := by decide +kernel
theorem dX11_divides_139 : decode cX11_divides 139 = .ok (.lsub, 1) := by decide +kernel
theorem dX11_divides_140 : decode cX11_divides 140 = .ok (.lstore 5, 2) := by decide +kernel
theorem dX11_divides_142 : decode cX11_divides 142 = .ok (.iinc 7 1, 3) := by decide +kernel
theorem dX11_divides_145 : decode cX11_divides 145 = .ok (.goto (-81), 3) := by decide +kernel
theorem dX11_divides_148 : decode cX11_divides 148 = .ok (.lload 5, 2) := by decide +kernel
theorem dX11_divides_150 : decode cX11_divides 150 = .ok (.lconst 0, 1) := by decide +kernel
theorem dX11_divides_151 : decode cX11_divides 151 = .ok (.lcmp, 1) := by decide +kernel
theorem dX11_divides_152 : decode cX11_divides 152 = .ok (.ifCond .le 74, 3) := by decide +kernel
theorem dX11_divides_155 : decode cX11_divides 155 = .ok (.iconst 0, 1) := by decide +kernel
theorem dX11_divides_156 : decode cX11_divides 156 = .ok (.istore 7, 2) := by decide +kernel
theorem dX11_divides_158 : decode cX11_divides 158 = .ok (.iconst 1, 1) := by decide +kernel
theorem dX11_divides_159 : decode cX11_divides 159 = .ok (.istore 8, 2) := by decide +kernel
theorem dX11_divides_161 : decode cX11_divides 161 = .ok (.iload 8, 2) := by decide +kernel
theorem dX11_divides_163 : decode cX11_divides 163 = .ok (.bipush 12, 2) := by decide +kernel
theorem dX11_divides_165 : decode cX11_divides 165 = .ok (.if_icmp .ge 31, 3) := by decide +kernel
theorem dX11_divides_168 : decode cX11_divides 168 = .ok (.aload_n 0, 1) := by decide +kernel
theorem dX11_divides_169 : decode cX11_divides 169 = .ok (.getfield 62, 3) := by decide +kernel
theorem dX11_divides_172 : decode cX11_divides 172 = .ok (.iload 8, 2) := by decide +kernel
theorem dX11_divides_174 : decode cX11_divides 174 = .ok (.laload, 1) := by decide +kernel
theorem dX11_divides_175 : decode cX11_divides 175 = .ok (.aload_n 0, 1) := by decide +kernel
theorem dX11_divides_176 : decode cX11_divides 176 = .ok (.getfield 62, 3) := by decide +kernel
theorem dX11_divides_179 : decode cX11_divides 179 = .ok (.iload 7, 2) := by decide +kernel
theorem dX11_divides_181 : decode cX11_divides 181 = .ok (.laload, 1) := by decide +kernel
theorem dX11_divides_182 : decode cX11_divides 182 = .ok (.lcmp, 1) := by decide +kernel
theorem dX11_divides_183 : decode cX11_divides 183 = .ok (.ifCond .le 7, 3) := by decide +kernel
theorem dX11_divides_186 : decode cX11_divides 186 = .ok (.iload 8, 2) := by decide +kernel
theorem dX11_divides_188 : decode cX11_divides 188 = .ok (.istore 7, 2) := by decide +kernel
theorem dX11_divides_190 : decode cX11_divides 190 = .ok (.iinc 8 1, 3) := by decide +kernel
theorem dX11_divides_193 : decode cX11_divides 193 = .ok (.goto (-32), 3) := by decide +kernel
theorem dX11_divides_196 : decode cX11_divides 196 = .ok (.aload_n 0, 1) := by decide +kernel
theorem dX11_divides_197 : decode cX11_divides 197 = .ok (.getfield 59, 3) := by decide +kernel
theorem dX11_divides_200 : decode cX11_divides 200 = .ok (.iload 7, 2) := by decide +kernel
theorem dX11_divides_202 : decode cX11_divides 202 = .ok (.dup2, 1) := by decide +kernel
theorem dX11_divides_203 : decode cX11_divides 203 = .ok (.laload, 1) := by decide +kernel
theorem dX11_divides_204 : decode cX11_divides 204 = .ok (.lconst 1, 1) := by decide +kernel
theorem dX11_divides_205 : decode cX11_divides 205 = .ok (.ladd, 1) := by decide +kernel
theorem dX11_divides_206 : decode cX11_divides 206 = .ok (.lastore, 1) := by decide +kernel
theorem dX11_divides_207 : decode cX11_divides 207 = .ok (.aload_n 0, 1) := by decide +kernel
theorem dX11_divides_208 : decode cX11_divides 208 = .ok (.getfield 62, 3) := by decide +kernel
theorem dX11_divides_211 : decode cX11_divides 211 = .ok (.iload 7, 2) := by decide +kernel
theorem dX11_divides_213 : decode cX11_divides 213 = .ok (.ldc2_w 402, 3) := by decide +kernel
theorem dX11_divides_216 : decode cX11_divides 216 = .ok (.lastore, 1) := by decide +kernel
theorem dX11_divides_217 : decode cX11_divides 217 = .ok (.lload 5, 2) := by decide +kernel
theorem dX11_divides_219 : decode cX11_divides 219 = .ok (.lconst 1, 1) := by decide +kernel
theorem dX11_divides_220 : decode cX11_divides 220 = .ok (.lsub, 1) := by decide +kernel
theorem dX11_divides_221 : decode cX11_divides 221 = .ok (.lstore 5, 2) := by decide +kernel
theorem dX11_divides_223 : decode cX11_divides 223 = .ok (.goto (-75), 3) := by decide +kernel
theorem dX11_divides_226 : decode cX11_divides 226 = .ok (.lload_n 1, 1) := by decide +kernel
theorem dX11_divides_227 : decode cX11_divides 227 = .ok (.lreturn, 1) := by decide +kernel
theorem dX11_laysMembers_0 : decode cX11_laysMembers 0 = .ok (.iconst 0, 1) := by decide +kernel
theorem dX11_laysMembers_1 : decode cX11_laysMembers 1 = .ok (.istore_n 1, 1) := by decide +kernel
theorem dX11_laysMembers_2 : decode cX11_laysMembers 2 = .ok (.iload_n 1, 1) := by decide +kernel
theorem dX11_laysMembers_3 : decode cX11_laysMembers 3 = .ok (.bipush 72, 2) := by decide +kernel
theorem dX11_laysMembers_5 : decode cX11_laysMembers 5 = .ok (.if_icmp .ge 16, 3) := by decide +kernel
theorem dX11_laysMembers_8 : decode cX11_laysMembers 8 = .ok (.aload_n 0, 1) := by decide +kernel
theorem dX11_laysMembers_9 : decode cX11_laysMembers 9 = .ok (.getfield 69, 3) := by decide +kernel
theorem dX11_laysMembers_12 : decode cX11_laysMembers 12 = .ok (.iload_n 1, 1) := by decide +kernel
theorem dX11_laysMembers_13 : decode cX11_laysMembers 13 = .ok (.lconst 0, 1) := by decide +kernel
theorem dX11_laysMembers_14 : decode cX11_laysMembers 14 = .ok (.lastore, 1) := by decide +kernel
theorem dX11_laysMembers_15 : decode cX11_laysMembers 15 = .ok (.iinc 1 1, 3) := by decide +kernel
theorem dX11_laysMembers_18 : decode cX11_laysMembers 18 = .ok (.goto (-16), 3) := by decide +kernel
theorem dX11_laysMembers_21 : decode cX11_laysMembers 21 = .ok (.iconst 0, 1) := by decide +kernel
theorem dX11_laysMembers_22 : decode cX11_laysMembers 22 = .ok (.istore_n 1, 1) := by decide +kernel
theorem dX11_laysMembers_23 : decode cX11_laysMembers 23 = .ok (.iload_n 1, 1) := by decide +kernel
theorem dX11_laysMembers_24 : decode cX11_laysMembers 24 = .ok (.bipush 11, 2) := by decide +kernel
theorem dX11_laysMembers_26 : decode cX11_laysMembers 26 = .ok (.if_icmp .ge 16, 3) := by decide +kernel
theorem dX11_laysMembers_29 : decode cX11_laysMembers 29 = .ok (.aload_n 0, 1) := by decide +kernel
theorem dX11_laysMembers_30 : decode cX11_laysMembers 30 = .ok (.getfield 75, 3) := by decide +kernel
theorem dX11_laysMembers_33 : decode cX11_laysMembers 33 = .ok (.iload_n 1, 1) := by decide +kernel
theorem dX11_laysMembers_34 : decode cX11_laysMembers 34 = .ok (.lconst 0, 1) := by decide +kernel
theorem dX11_laysMembers_35 : decode cX11_laysMembers 35 = .ok (.lastore, 1) := by decide +kernel
theorem dX11_laysMembers_36 : decode cX11_laysMembers 36 = .ok (.iinc 1 1, 3) := by decide +kernel
theorem dX11_laysMembers_39 : decode cX11_laysMembers 39 = .ok (.goto (-16), 3) := by decide +kernel
theorem dX11_laysMembers_42 : decode cX11_laysMembers 42 = .ok (.iconst 0, 1) := by decide +kernel
theorem dX11_laysMembers_43 : decode cX11_laysMembers 43 = .ok (.istore_n 1, 1) := by decide +kernel
theorem dX11_laysMembers_44 : decode cX11_laysMembers 44 = .ok (.iload_n 1, 1) := by decide +kernel
theorem dX11_laysMembers_45 : decode cX11_laysMembers 45 = .ok (.bipush 12, 2) := by decide +kernel
theorem dX11_laysMembers_47 : decode cX11_laysMembers 47 = .ok (.if_icmp .ge 120, 3) := by decide +kernel
theorem dX11_laysMembers_50 : decode cX11_laysMembers 50 = .ok (.iload_n 1, 1) := by decide +kernel
theorem dX11_laysMembers_51 : decode cX11_laysMembers 51 = .ok (.i2l, 1) := by decide +kernel
theorem dX11_laysMembers_52 : decode cX11_laysMembers 52 = .ok (.aload_n 0, 1) := by decide +kernel
theorem dX11_laysMembers_53 : decode cX11_laysMembers 53 = .ok (.getfield 9, 3) := by decide +kernel
theorem dX11_laysMembers_56 : decode cX11_laysMembers 56 = .ok (.iconst 5, 1) := by decide +kernel
theorem dX11_laysMembers_57 : decode cX11_laysMembers 57 = .ok (.laload, 1) := by decide +kernel
theorem dX11_laysMembers_58 : decode cX11_laysMembers 58 = .ok (.lcmp, 1) := by decide +kernel
theorem dX11_laysMembers_59 : decode cX11_laysMembers 59 = .ok (.ifCond .ge 15, 3) := by decide +kernel
theorem dX11_laysMembers_62 : decode cX11_laysMembers 62 = .ok (.aload_n 0, 1) := by decide +kernel
theorem dX11_laysMembers_63 : decode cX11_laysMembers 63 = .ok (.iload_n 1, 1) := by decide +kernel
theorem dX11_laysMembers_64 : decode cX11_laysMembers 64 = .ok (.invokevirtual 331, 3) := by decide +kernel
theorem dX11_laysMembers_67 : decode cX11_laysMembers 67 = .ok (.ifCond .eq 7, 3) := by decide +kernel
theorem dX11_laysMembers_70 : decode cX11_laysMembers 70 = .ok (.iconst 1, 1) := by decide +kernel
theorem dX11_laysMembers_71 : decode cX11_laysMembers 71 = .ok (.goto 4, 3) := by decide +kernel
theorem dX11_laysMembers_74 : decode cX11_laysMembers 74 = .ok (.iconst 0, 1) := by decide +kernel
theorem dX11_laysMembers_75 : decode cX11_laysMembers 75 = .ok (.istore_n 2, 1) := by decide +kernel
theorem dX11_laysMembers_76 : decode cX11_laysMembers 76 = .ok (.aload_n 0, 1) := by decide +kernel
theorem dX11_laysMembers_77 : decode cX11_laysMembers 77 = .ok (.getfield 65, 3) := by decide +kernel
theorem dX11_laysMembers_80 : decode cX11_laysMembers 80 = .ok (.iload_n 1, 1) := by decide +kernel
theorem dX11_laysMembers_81 : decode cX11_laysMembers 81 = .ok (.iload_n 2, 1) := by decide +kernel
theorem dX11_laysMembers_82 : decode cX11_laysMembers 82 = .ok (.bastore, 1) := by decide +kernel
theorem dX11_laysMembers_83 : decode cX11_laysMembers 83 = .ok (.aload_n 0, 1) := by decide +kernel
theorem dX11_laysMembers_84 : decode cX11_laysMembers 84 = .ok (.getfield 72, 3) := by decide +kernel
theorem dX11_laysMembers_87 : decode cX11_laysMembers 87 = .ok (.iload_n 1, 1) := by decide +kernel
theorem dX11_laysMembers_88 : decode cX11_laysMembers 88 = .ok (.iload_n 2, 1) := by decide +kernel
theorem dX11_laysMembers_89 : decode cX11_laysMembers 89 = .ok (.ifCond .eq 11, 3) := by decide +kernel
theorem dX11_laysMembers_92 : decode cX11_laysMembers 92 = .ok (.aload_n 0, 1) := by decide +kernel
theorem dX11_laysMembers_93 : decode cX11_laysMembers 93 = .ok (.iload_n 1, 1) := by decide +kernel
theorem dX11_laysMembers_94 : decode cX11_laysMembers 94 = .ok (.invokevirtual 404, 3) := by decide +kernel
theorem dX11_laysMembers_97 : decode cX11_laysMembers 97 = .ok (.goto 4, 3) := by decide +kernel
theorem dX11_laysMembers_100 : decode cX11_laysMembers 100 = .ok (.lconst 0, 1) := by decide +kernel
theorem dX11_laysMembers_101 : decode cX11_laysMembers 101 = .ok (.lastore, 1) := by decide +kernel
theorem dX11_laysMembers_102 : decode cX11_laysMembers 102 = .ok (.aload_n 0, 1) := by decide +kernel
theorem dX11_laysMembers_103 : decode cX11_laysMembers 103 = .ok (.getfield 69, 3) := by decide +kernel
theorem dX11_laysMembers_106 : decode cX11_laysMembers 106 = .ok (.bipush 6, 2) := by decide +kernel
theorem dX11_laysMembers_108 : decode cX11_laysMembers 108 = .ok (.iload_n 1, 1) := by decide +kernel
theorem dX11_laysMembers_109 : decode cX11_laysMembers 109 = .ok (.imul, 1) := by decide +kernel
theorem dX11_laysMembers_110 : decode cX11_laysMembers 110 = .ok (.iconst 0, 1) := by decide +kernel
theorem dX11_laysMembers_111 : decode cX11_laysMembers 111 = .ok (.iadd, 1) := by decide +kernel
theorem dX11_laysMembers_112 : decode cX11_laysMembers 112 = .ok (.iload_n 2, 1) := by decide +kernel
theorem dX11_laysMembers_113 : decode cX11_laysMembers 113 = .ok (.ifCond .eq 11, 3) := by decide +kernel
theorem dX11_laysMembers_116 : decode cX11_laysMembers 116 = .ok (.aload_n 0, 1) := by decide +kernel
theorem dX11_laysMembers_117 : decode cX11_laysMembers 117 = .ok (.iload_n 1, 1) := by decide +kernel
theorem dX11_laysMembers_118 : decode cX11_laysMembers 118 = .ok (.invokevirtual 373, 3) := by decide +kernel
theorem dX11_laysMembers_121 : decode cX11_laysMembers 121 = .ok (.goto 4, 3) := by decide +kernel
theorem dX11_laysMembers_124 : decode cX11_laysMembers 124 = .ok (.lconst 0, 1) := by decide +kernel
theorem dX11_laysMembers_125 : decode cX11_laysMembers 125 = .ok (.lastore, 1) := by decide +kernel
theorem dX11_laysMembers_126 : decode cX11_laysMembers 126 = .ok (.aload_n 0, 1) := by decide +kernel
theorem dX11_laysMembers_127 : decode cX11_laysMembers 127 = .ok (.getfield 75, 3) := by decide +kernel
theorem dX11_laysMembers_130 : decode cX11_laysMembers 130 = .ok (.iconst 0, 1) := by decide +kernel
theorem dX11_laysMembers_131 : decode cX11_laysMembers 131 = .ok (.dup2, 1) := by decide +kernel
theorem dX11_laysMembers_132 : decode cX11_laysMembers 132 = .ok (.laload, 1) := by decide +kernel
theorem dX11_laysMembers_133 : decode cX11_laysMembers 133 = .ok (.aload_n 0, 1) := by decide +kernel
theorem dX11_laysMembers_134 : decode cX11_laysMembers 134 = .ok (.getfield 69, 3) := by decide +kernel
theorem dX11_laysMembers_137 : decode cX11_laysMembers 137 = .ok (.bipush 6, 2) := by decide +kernel
theorem dX11_laysMembers_139 : decode cX11_laysMembers 139 = .ok (.iload_n 1, 1) := by decide +kernel
theorem dX11_laysMembers_140 : decode cX11_laysMembers 140 = .ok (.imul, 1) := by decide +kernel
theorem dX11_laysMembers_141 : decode cX11_laysMembers 141 = .ok (.iconst 0, 1) := by decide +kernel
theorem dX11_laysMembers_142 : decode cX11_laysMembers 142 = .ok (.iadd, 1) := by decide +kernel
theorem dX11_laysMembers_143 : decode cX11_laysMembers 143 = .ok (.laload, 1) := by decide +kernel
theorem dX11_laysMembers_144 : decode cX11_laysMembers 144 = .ok (.ladd, 1) := by decide +kernel
theorem dX11_laysMembers_145 : decode cX11_laysMembers 145 = .ok (.lastore, 1) := by decide +kernel
theorem dX11_laysMembers_146 : decode cX11_laysMembers 146 = .ok (.aload_n 0, 1) := by decide +kernel
theorem dX11_laysMembers_147 : decode cX11_laysMembers 147 = .ok (.getfield 75, 3) := by decide +kernel
theorem dX11_laysMembers_150 : decode cX11_laysMembers 150 = .ok (.iconst 3, 1) := by decide +kernel
theorem dX11_laysMembers_151 : decode cX11_laysMembers 151 = .ok (.dup2, 1) := by decide +kernel
theorem dX11_laysMembers_152 : decode cX11_laysMembers 152 = .ok (.laload, 1) := by decide +kernel
theorem dX11_laysMembers_153 : decode cX11_laysMembers 153 = .ok (.aload_n 0, 1) := by decide +kernel
theorem dX11_laysMembers_154 : decode cX11_laysMembers 154 = .ok (.getfield 72, 3) := by decide +kernel
theorem dX11_laysMembers_157 : decode cX11_laysMembers 157 = .ok (.iload_n 1, 1) := by decide +kernel
theorem dX11_laysMembers_158 : decode cX11_laysMembers 158 = .ok (.laload, 1) := by decide +kernel
theorem dX11_laysMembers_159 : decode cX11_laysMembers 159 = .ok (.ladd, 1) := by decide +kernel
theorem dX11_laysMembers_160 : decode cX11_laysMembers 160 = .ok (.lastore, 1) := by decide +kernel
theorem dX11_laysMembers_161 : decode cX11_laysMembers 161 = .ok (.iinc 1 1, 3) := by decide +kernel
theorem dX11_laysMembers_164 : decode cX11_laysMembers 164 = .ok (.goto (-120), 3) := by decide +kernel
theorem dX11_laysMembers_167 : decode cX11_laysMembers 167 = .ok (.aload_n 0, 1) := by decide +kernel
theorem dX11_laysMembers_168 : decode cX11_laysMembers 168 = .ok (.getfield 75, 3) := by decide +kernel
theorem dX11_laysMembers_171 : decode cX11_laysMembers 171 = .ok (.iconst 1, 1) := by decide +kernel
theorem dX11_laysMembers_172 : decode cX11_laysMembers 172 = .ok (.aload_n 0, 1) := by decide +kernel
theorem dX11_laysMembers_173 : decode cX11_laysMembers 173 = .ok (.getfield 31, 3) := by decide +kernel
theorem dX11_laysMembers_176 : decode cX11_laysMembers 176 = .ok (.iconst 1, 1) := by decide +kernel
theorem dX11_laysMembers_177 : decode cX11_laysMembers 177 = .ok (.iaload, 1) := by decide +kernel
theorem dX11_laysMembers_178 : decode cX11_laysMembers 178 = .ok (.i2l, 1) := by decide +kernel
theorem dX11_laysMembers_179 : decode cX11_laysMembers 179 = .ok (.lconst 0, 1) := by decide +kernel
theorem dX11_laysMembers_180 : decode cX11_laysMembers 180 = .ok (.aload_n 0, 1) := by decide +kernel
theorem dX11_laysMembers_181 : decode cX11_laysMembers 181 = .ok (.getfield 75, 3) := by decide +kernel
theorem dX11_laysMembers_184 : decode cX11_laysMembers 184 = .ok (.iconst 0, 1) := by decide +kernel
theorem dX11_laysMembers_185 : decode cX11_laysMembers 185 = .ok (.laload, 1) := by decide +kernel
theorem dX11_laysMembers_186 : decode cX11_laysMembers 186 = .ok (.aload_n 0, 1) := by decide +kernel
theorem dX11_laysMembers_187 : decode cX11_laysMembers 187 = .ok (.getfield 31, 3) := by decide +kernel
theorem dX11_laysMembers_190 : decode cX11_laysMembers 190 = .ok (.iconst 0, 1) := by decide +kernel
theorem dX11_laysMembers_191 : decode cX11_laysMembers 191 = .ok (.iaload, 1) := by decide +kernel
theorem dX11_laysMembers_192 : decode cX11_laysMembers 192 = .ok (.i2l, 1) := by decide +kernel
theorem dX11_laysMembers_193 : decode cX11_laysMembers 193 = .ok (.lsub, 1) := by decide +kernel
theorem dX11_laysMembers_194 : decode cX11_laysMembers 194 = .ok (.invokestatic 313, 3) := by decide +kernel
theorem dX11_laysMembers_197 : decode cX11_laysMembers 197 = .ok (.invokestatic 308, 3) := by decide +kernel
theorem dX11_laysMembers_200 : decode cX11_laysMembers 200 = .ok (.aload_n 0, 1) := by decide +kernel
theorem dX11_laysMembers_201 : decode cX11_laysMembers 201 = .ok (.getfield 31, 3) := by decide +kernel
theorem dX11_laysMembers_204 : decode cX11_laysMembers 204 = .ok (.iconst 2, 1) := by decide +kernel
theorem dX11_laysMembers_205 : decode cX11_laysMembers 205 = .ok (.iaload, 1) := by decide +kernel
theorem dX11_laysMembers_206 : decode cX11_laysMembers 206 = .ok (.i2l, 1) := by decide +kernel
theorem dX11_laysMembers_207 : decode cX11_laysMembers 207 = .ok (.lmul, 1) := by decide +kernel
theorem dX11_laysMembers_208 : decode cX11_laysMembers 208 = .ok (.ldc2_w 352, 3) := by decide +kernel
theorem dX11_laysMembers_211 : decode cX11_laysMembers 211 = .ok (.ldiv, 1) := by decide +kernel
theorem dX11_laysMembers_212 : decode cX11_laysMembers 212 = .ok (.lastore, 1) := by decide +kernel
theorem dX11_laysMembers_213 : decode cX11_laysMembers 213 = .ok (.aload_n 0, 1) := by decide +kernel
theorem dX11_laysMembers_214 : decode cX11_laysMembers 214 = .ok (.getfield 75, 3) := by decide +kernel
theorem dX11_laysMembers_217 : decode cX11_laysMembers 217 = .ok (.iconst 2, 1) := by decide +kernel
theorem dX11_laysMembers_218 : decode cX11_laysMembers 218 = .ok (.aload_n 0, 1) := by decide +kernel
theorem dX11_laysMembers_219 : decode cX11_laysMembers 219 = .ok (.getfield 75, 3) := by decide +kernel
theorem dX11_laysMembers_222 : decode cX11_laysMembers 222 = .ok (.iconst 0, 1) := by decide +kernel
theorem dX11_laysMembers_223 : decode cX11_laysMembers 223 = .ok (.laload, 1) := by decide +kernel
theorem dX11_laysMembers_224 : decode cX11_laysMembers 224 = .ok (.aload_n 0, 1) := by decide +kernel
theorem dX11_laysMembers_225 : decode cX11_laysMembers 225 = .ok (.getfield 75, 3) := by decide +kernel
theorem dX11_laysMembers_228 : decode cX11_laysMembers 228 = .ok (.iconst 1, 1) := by decide +kernel
theorem dX11_laysMembers_229 : decode cX11_laysMembers 229 = .ok (.laload, 1) := by decide +kernel
theorem dX11_laysMembers_230 : decode cX11_laysMembers 230 = .ok (.lsub, 1) := by decide +kernel
theorem dX11_laysMembers_231 : decode cX11_laysMembers 231 = .ok (.lastore, 1) := by decide +kernel
theorem dX11_laysMembers_232 : decode cX11_laysMembers 232 = .ok (.return_, 1) := by decide +kernel
theorem dX11_reckons_0 : decode cX11_reckons 0 = .ok (.aload_n 0, 1) := by decide +kernel
theorem dX11_reckons_1 : decode cX11_reckons 1 = .ok (.invokevirtual 407, 3) := by decide +kernel
theorem dX11_reckons_4 : decode cX11_reckons 4 = .ok (.aload_n 0, 1) := by decide +kernel
theorem dX11_reckons_5 : decode cX11_reckons 5 = .ok (.getfield 9, 3) := by decide +kernel
theorem dX11_reckons_8 : decode cX11_reckons 8 = .ok (.iconst 1, 1) := by decide +kernel
theorem dX11_reckons_9 : decode cX11_reckons 9 = .ok (.laload, 1) := by decide +kernel
theorem dX11_reckons_10 : decode cX11_reckons 10 = .ok (.lstore_n 1, 1) := by decide +kernel
theorem dX11_reckons_11 : decode cX11_reckons 11 = .ok (.aload_n 0, 1) := by decide +kernel
theorem dX11_reckons_12 : decode cX11_reckons 12 = .ok (.getfield 75, 3) := by decide +kernel
theorem dX11_reckons_15 : decode cX11_reckons 15 = .ok (.iconst 2, 1) := by decide +kernel
theorem dX11_reckons_16 : decode cX11_reckons 16 = .ok (.laload, 1) := by decide +kernel
theorem dX11_reckons_17 : decode cX11_reckons 17 = .ok (.aload_n 0, 1) := by decide +kernel
theorem dX11_reckons_18 : decode cX11_reckons 18 = .ok (.getfield 75, 3) := by decide +kernel
theorem dX11_reckons_21 : decode cX11_reckons 21 = .ok (.iconst 3, 1) := by decide +kernel
theorem dX11_reckons_22 : decode cX11_reckons 22 = .ok (.laload, 1) := by decide +kernel
theorem dX11_reckons_23 : decode cX11_reckons 23 = .ok (.lcmp, 1) := by decide +kernel
theorem dX11_reckons_24 : decode cX11_reckons 24 = .ok (.ifCond .gt 138, 3) := by decide +kernel
theorem dX11_reckons_27 : decode cX11_reckons 27 = .ok (.aload_n 0, 1) := by decide +kernel
theorem dX11_reckons_28 : decode cX11_reckons 28 = .ok (.getfield 75, 3) := by decide +kernel
theorem dX11_reckons_31 : decode cX11_reckons 31 = .ok (.iconst 3, 1) := by decide +kernel
theorem dX11_reckons_32 : decode cX11_reckons 32 = .ok (.laload, 1) := by decide +kernel
theorem dX11_reckons_33 : decode cX11_reckons 33 = .ok (.aload_n 0, 1) := by decide +kernel
theorem dX11_reckons_34 : decode cX11_reckons 34 = .ok (.getfield 75, 3) := by decide +kernel
theorem dX11_reckons_37 : decode cX11_reckons 37 = .ok (.iconst 2, 1) := by decide +kernel
theorem dX11_reckons_38 : decode cX11_reckons 38 = .ok (.laload, 1) := by decide +kernel
theorem dX11_reckons_39 : decode cX11_reckons 39 = .ok (.lsub, 1) := by decide +kernel
theorem dX11_reckons_40 : decode cX11_reckons 40 = .ok (.lstore_n 3, 1) := by decide +kernel
theorem dX11_reckons_41 : decode cX11_reckons 41 = .ok (.aload_n 0, 1) := by decide +kernel
theorem dX11_reckons_42 : decode cX11_reckons 42 = .ok (.getfield 75, 3) := by decide +kernel
theorem dX11_reckons_45 : decode cX11_reckons 45 = .ok (.iconst 4, 1) := by decide +kernel
theorem dX11_reckons_46 : decode cX11_reckons 46 = .ok (.lload_n 3, 1) := by decide +kernel
theorem dX11_reckons_47 : decode cX11_reckons 47 = .ok (.lconst 0, 1) := by decide +kernel
theorem dX11_reckons_48 : decode cX11_reckons 48 = .ok (.aload_n 0, 1) := by decide +kernel
theorem dX11_reckons_49 : decode cX11_reckons 49 = .ok (.getfield 9, 3) := by decide +kernel
theorem dX11_reckons_52 : decode cX11_reckons 52 = .ok (.iconst 3, 1) := by decide +kernel
theorem dX11_reckons_53 : decode cX11_reckons 53 = .ok (.laload, 1) := by decide +kernel
theorem dX11_reckons_54 : decode cX11_reckons 54 = .ok (.aload_n 0, 1) := by decide +kernel
theorem dX11_reckons_55 : decode cX11_reckons 55 = .ok (.invokevirtual 410, 3) := by decide +kernel
theorem dX11_reckons_58 : decode cX11_reckons 58 = .ok (.lmul, 1) := by decide +kernel
theorem dX11_reckons_59 : decode cX11_reckons 59 = .ok (.ldc2_w 352, 3) := by decide +kernel
theorem dX11_reckons_62 : decode cX11_reckons 62 = .ok (.ldiv, 1) := by decide +kernel
theorem dX11_reckons_63 : decode cX11_reckons 63 = .ok (.lload_n 1, 1) := by decide +kernel
theorem dX11_reckons_64 : decode cX11_reckons 64 = .ok (.lsub, 1) := by decide +kernel
theorem dX11_reckons_65 : decode cX11_reckons 65 = .ok (.invokestatic 313, 3) := by decide +kernel
theorem dX11_reckons_68 : decode cX11_reckons 68 = .ok (.invokestatic 308, 3) := by decide +kernel
theorem dX11_reckons_71 : decode cX11_reckons 71 = .ok (.lastore, 1) := by decide +kernel
theorem dX11_reckons_72 : decode cX11_reckons 72 = .ok (.lload_n 1, 1) := by decide +kernel
theorem dX11_reckons_73 : decode cX11_reckons 73 = .ok (.aload_n 0, 1) := by decide +kernel
theorem dX11_reckons_74 : decode cX11_reckons 74 = .ok (.getfield 75, 3) := by decide +kernel
theorem dX11_reckons_77 : decode cX11_reckons 77 = .ok (.iconst 4, 1) := by decide +kernel
theorem dX11_reckons_78 : decode cX11_reckons 78 = .ok (.laload, 1) := by decide +kernel
theorem dX11_reckons_79 : decode cX11_reckons 79 = .ok (.ladd, 1) := by decide +kernel
theorem dX11_reckons_80 : decode cX11_reckons 80 = .ok (.lstore_n 1, 1) := by decide +kernel
theorem dX11_reckons_81 : decode cX11_reckons 81 = .ok (.iconst 0, 1) := by decide +kernel
theorem dX11_reckons_82 : decode cX11_reckons 82 = .ok (.istore 5, 2) := by decide +kernel
theorem dX11_reckons_84 : decode cX11_reckons 84 = .ok (.iload 5, 2) := by decide +kernel
theorem dX11_reckons_86 : decode cX11_reckons 86 = .ok (.bipush 12, 2) := by decide +kernel
theorem dX11_reckons_88 : decode cX11_reckons 88 = .ok (.if_icmp .ge 23, 3) := by decide +kernel
theorem dX11_reckons_91 : decode cX11_reckons 91 = .ok (.aload_n 0, 1) := by decide +kernel
theorem dX11_reckons_92 : decode cX11_reckons 92 = .ok (.getfield 56, 3) := by decide +kernel
theorem dX11_reckons_95 : decode cX11_reckons 95 = .ok (.iload 5, 2) := by decide +kernel
theorem dX11_reckons_97 : decode cX11_reckons 97 = .ok (.aload_n 0, 1) := by decide +kernel
theorem dX11_reckons_98 : decode cX11_reckons 98 = .ok (.getfield 72, 3) := by decide +kernel
theorem dX11_reckons_101 : decode cX11_reckons 101 = .ok (.iload 5, 2) := by decide +kernel
theorem dX11_reckons_103 : decode cX11_reckons 103 = .ok (.laload, 1) := by decide +kernel
theorem dX11_reckons_104 : decode cX11_reckons 104 = .ok (.lastore, 1) := by decide +kernel
theorem dX11_reckons_105 : decode cX11_reckons 105 = .ok (.iinc 5 1, 3) := by decide +kernel
theorem dX11_reckons_108 : decode cX11_reckons 108 = .ok (.goto (-24), 3) := by decide +kernel
theorem dX11_reckons_111 : decode cX11_reckons 111 = .ok (.aload_n 0, 1) := by decide +kernel
theorem dX11_reckons_112 : decode cX11_reckons 112 = .ok (.lload_n 3, 1) := by decide +kernel
theorem dX11_reckons_113 : decode cX11_reckons 113 = .ok (.aload_n 0, 1) := by decide +kernel
theorem dX11_reckons_114 : decode cX11_reckons 114 = .ok (.getfield 75, 3) := by decide +kernel
theorem dX11_reckons_117 : decode cX11_reckons 117 = .ok (.iconst 4, 1) := by decide +kernel
theorem dX11_reckons_118 : decode cX11_reckons 118 = .ok (.laload, 1) := by decide +kernel
theorem dX11_reckons_119 : decode cX11_reckons 119 = .ok (.lsub, 1) := by decide +kernel
theorem dX11_reckons_120 : decode cX11_reckons 120 = .ok (.invokevirtual 413, 3) := by decide +kernel
theorem dX11_reckons_123 : decode cX11_reckons 123 = .ok (.pop2, 1) := by decide +kernel
theorem dX11_reckons_124 : decode cX11_reckons 124 = .ok (.iconst 0, 1) := by decide +kernel
theorem dX11_reckons_125 : decode cX11_reckons 125 = .ok (.istore 5, 2) := by decide +kernel
theorem dX11_reckons_127 : decode cX11_reckons 127 = .ok (.iload 5, 2) := by decide +kernel
theorem dX11_reckons_129 : decode cX11_reckons 129 = .ok (.bipush 12, 2) := by decide +kernel
theorem dX11_reckons_131 : decode cX11_reckons 131 = .ok (.if_icmp .ge 28, 3) := by decide +kernel
theorem dX11_reckons_134 : decode cX11_reckons 134 = .ok (.aload_n 0, 1) := by decide +kernel
theorem dX11_reckons_135 : decode cX11_reckons 135 = .ok (.getfield 69, 3) := by decide +kernel
theorem dX11_reckons_138 : decode cX11_reckons 138 = .ok (.bipush 6, 2) := by decide +kernel
theorem dX11_reckons_140 : decode cX11_reckons 140 = .ok (.iload 5, 2) := by decide +kernel
theorem dX11_reckons_142 : decode cX11_reckons 142 = .ok (.imul, 1) := by decide +kernel
theorem dX11_reckons_143 : decode cX11_reckons 143 = .ok (.iconst 2, 1) := by decide +kernel
theorem dX11_reckons_144 : decode cX11_reckons 144 = .ok (.iadd, 1) := by decide +kernel
theorem dX11_reckons_145 : decode cX11_reckons 145 = .ok (.aload_n 0, 1) := by decide +kernel
theorem dX11_reckons_146 : decode cX11_reckons 146 = .ok (.getfield 59, 3) := by decide +kernel
theorem dX11_reckons_149 : decode cX11_reckons 149 = .ok (.iload 5, 2) := by decide +kernel
theorem dX11_reckons_151 : decode cX11_reckons 151 = .ok (.laload, 1) := by decide +kernel
theorem dX11_reckons_152 : decode cX11_reckons 152 = .ok (.lastore, 1) := by decide +kernel
theorem dX11_reckons_153 : decode cX11_reckons 153 = .ok (.iinc 5 1, 3) := by decide +kernel
theorem dX11_reckons_156 : decode cX11_reckons 156 = .ok (.goto (-29), 3) := by decide +kernel
theorem dX11_reckons_159 : decode cX11_reckons 159 = .ok (.goto 169, 3) := by decide +kernel
theorem dX11_reckons_162 : decode cX11_reckons 162 = .ok (.aload_n 0, 1) := by decide +kernel
theorem dX11_reckons_163 : decode cX11_reckons 163 = .ok (.getfield 75, 3) := by decide +kernel
theorem dX11_reckons_166 : decode cX11_reckons 166 = .ok (.iconst 2, 1) := by decide +kernel
theorem dX11_reckons_167 : decode cX11_reckons 167 = .ok (.laload, 1) := by decide +kernel
theorem dX11_reckons_168 : decode cX11_reckons 168 = .ok (.aload_n 0, 1) := by decide +kernel
theorem dX11_reckons_169 : decode cX11_reckons 169 = .ok (.getfield 75, 3) := by decide +kernel
theorem dX11_reckons_172 : decode cX11_reckons 172 = .ok (.iconst 3, 1) := by decide +kernel
theorem dX11_reckons_173 : decode cX11_reckons 173 = .ok (.laload, 1) := by decide +kernel
theorem dX11_reckons_174 : decode cX11_reckons 174 = .ok (.lsub, 1) := by decide +kernel
theorem dX11_reckons_175 : decode cX11_reckons 175 = .ok (.lstore_n 3, 1) := by decide +kernel
theorem dX11_reckons_176 : decode cX11_reckons 176 = .ok (.aload_n 0, 1) := by decide +kernel
theorem dX11_reckons_177 : decode cX11_reckons 177 = .ok (.getfield 75, 3) := by decide +kernel
theorem dX11_reckons_180 : decode cX11_reckons 180 = .ok (.bipush 6, 2) := by decide +kernel
theorem dX11_reckons_182 : decode cX11_reckons 182 = .ok (.lload_n 3, 1) := by decide +kernel
theorem dX11_reckons_183 : decode cX11_reckons 183 = .ok (.lload_n 1, 1) := by decide +kernel
theorem dX11_reckons_184 : decode cX11_reckons 184 = .ok (.ldc2_w 417, 3) := by decide +kernel
theorem dX11_reckons_187 : decode cX11_reckons 187 = .ok (.ldiv, 1) := by decide +kernel
theorem dX11_reckons_188 : decode cX11_reckons 188 = .ok (.invokestatic 308, 3) := by decide +kernel
theorem dX11_reckons_191 : decode cX11_reckons 191 = .ok (.lastore, 1) := by decide +kernel
theorem dX11_reckons_192 : decode cX11_reckons 192 = .ok (.lload_n 1, 1) := by decide +kernel
theorem dX11_reckons_193 : decode cX11_reckons 193 = .ok (.aload_n 0, 1) := by decide +kernel
theorem dX11_reckons_194 : decode cX11_reckons 194 = .ok (.getfield 75, 3) := by decide +kernel
theorem dX11_reckons_197 : decode cX11_reckons 197 = .ok (.bipush 6, 2) := by decide +kernel
theorem dX11_reckons_199 : decode cX11_reckons 199 = .ok (.laload, 1) := by decide +kernel
theorem dX11_reckons_200 : decode cX11_reckons 200 = .ok (.lsub, 1) := by decide +kernel
theorem dX11_reckons_201 : decode cX11_reckons 201 = .ok (.lstore_n 1, 1) := by decide +kernel
theorem dX11_reckons_202 : decode cX11_reckons 202 = .ok (.aload_n 0, 1) := by decide +kernel
theorem dX11_reckons_203 : decode cX11_reckons 203 = .ok (.lload_n 3, 1) := by decide +kernel
theorem dX11_reckons_204 : decode cX11_reckons 204 = .ok (.aload_n 0, 1) := by decide +kernel
theorem dX11_reckons_205 : decode cX11_reckons 205 = .ok (.getfield 75, 3) := by decide +kernel
theorem dX11_reckons_208 : decode cX11_reckons 208 = .ok (.bipush 6, 2) := by decide +kernel
theorem dX11_reckons_210 : decode cX11_reckons 210 = .ok (.laload, 1) := by decide +kernel
theorem dX11_reckons_211 : decode cX11_reckons 211 = .ok (.lsub, 1) := by decide +kernel
theorem dX11_reckons_212 : decode cX11_reckons 212 = .ok (.invokevirtual 419, 3) := by decide +kernel
theorem dX11_reckons_215 : decode cX11_reckons 215 = .ok (.lstore 5, 2) := by decide +kernel
theorem dX11_reckons_217 : decode cX11_reckons 217 = .ok (.iconst 0, 1) := by decide +kernel
theorem dX11_reckons_218 : decode cX11_reckons 218 = .ok (.istore 7, 2) := by decide +kernel
theorem dX11_reckons_220 : decode cX11_reckons 220 = .ok (.iload 7, 2) := by decide +kernel
theorem dX11_reckons_222 : decode cX11_reckons 222 = .ok (.bipush 12, 2) := by decide +kernel
theorem dX11_reckons_224 : decode cX11_reckons 224 = .ok (.if_icmp .ge 62, 3) := by decide +kernel
theorem dX11_reckons_227 : decode cX11_reckons 227 = .ok (.aload_n 0, 1) := by decide +kernel
theorem dX11_reckons_228 : decode cX11_reckons 228 = .ok (.getfield 65, 3) := by decide +kernel
theorem dX11_reckons_231 : decode cX11_reckons 231 = .ok (.iload 7, 2) := by decide +kernel
theorem dX11_reckons_233 : decode cX11_reckons 233 = .ok (.iload 7, 2) := by decide +kernel
theorem dX11_reckons_235 : decode cX11_reckons 235 = .ok (.i2l, 1) := by decide +kernel
theorem dX11_reckons_236 : decode cX11_reckons 236 = .ok (.aload_n 0, 1) := by decide +kernel
theorem dX11_reckons_237 : decode cX11_reckons 237 = .ok (.getfield 9, 3) := by decide +kernel
theorem dX11_reckons_240 : decode cX11_reckons 240 = .ok (.iconst 5, 1) := by decide +kernel
theorem dX11_reckons_241 : decode cX11_reckons 241 = .ok (.laload, 1) := by decide +kernel
theorem dX11_reckons_242 : decode cX11_reckons 242 = .ok (.lcmp, 1) := by decide +kernel
theorem dX11_reckons_243 : decode cX11_reckons 243 = .ok (.ifCond .ge 16, 3) := by decide +kernel
theorem dX11_reckons_246 : decode cX11_reckons 246 = .ok (.aload_n 0, 1) := by decide +kernel
theorem dX11_reckons_247 : decode cX11_reckons 247 = .ok (.iload 7, 2) := by decide +kernel
theorem dX11_reckons_249 : decode cX11_reckons 249 = .ok (.invokevirtual 331, 3) := by decide +kernel
theorem dX11_reckons_252 : decode cX11_reckons 252 = .ok (.ifCond .eq 7, 3) := by decide +kernel
theorem dX11_reckons_255 : decode cX11_reckons 255 = .ok (.iconst 1, 1) := by decide +kernel
theorem dX11_reckons_256 : decode cX11_reckons 256 = .ok (.goto 4, 3) := by decide +kernel
theorem dX11_reckons_259 : decode cX11_reckons 259 = .ok (.iconst 0, 1) := by decide +kernel
theorem dX11_reckons_260 : decode cX11_reckons 260 = .ok (.bastore, 1) := by decide +kernel
theorem dX11_reckons_261 : decode cX11_reckons 261 = .ok (.aload_n 0, 1) := by decide +kernel
theorem dX11_reckons_262 : decode cX11_reckons 262 = .ok (.getfield 56, 3) := by decide +kernel
theorem dX11_reckons_265 : decode cX11_reckons 265 = .ok (.iload 7, 2) := by decide +kernel
theorem dX11_reckons_267 : decode cX11_reckons 267 = .ok (.aload_n 0, 1) := by decide +kernel
theorem dX11_reckons_268 : decode cX11_reckons 268 = .ok (.getfield 69, 3) := by decide +kernel
theorem dX11_reckons_271 : decode cX11_reckons 271 = .ok (.bipush 6, 2) := by decide +kernel
theorem dX11_reckons_273 : decode cX11_reckons 273 = .ok (.iload 7, 2) := by decide +kernel
theorem dX11_reckons_275 : decode cX11_reckons 275 = .ok (.imul, 1) := by decide +kernel
theorem dX11_reckons_276 : decode cX11_reckons 276 = .ok (.iconst 0, 1) := by decide +kernel
theorem dX11_reckons_277 : decode cX11_reckons 277 = .ok (.iadd, 1) := by decide +kernel
theorem dX11_reckons_278 : decode cX11_reckons 278 = .ok (.laload, 1) := by decide +kernel
theorem dX11_reckons_279 : decode cX11_reckons 279 = .ok (.lastore, 1) := by decide +kernel
theorem dX11_reckons_280 : decode cX11_reckons 280 = .ok (.iinc 7 1, 3) := by decide +kernel
theorem dX11_reckons_283 : decode cX11_reckons 283 = .ok (.goto (-63), 3) := by decide +kernel
theorem dX11_reckons_286 : decode cX11_reckons 286 = .ok (.aload_n 0, 1) := by decide +kernel
theorem dX11_reckons_287 : decode cX11_reckons 287 = .ok (.lload 5, 2) := by decide +kernel
theorem dX11_reckons_289 : decode cX11_reckons 289 = .ok (.invokevirtual 413, 3) := by decide +kernel
theorem dX11_reckons_292 : decode cX11_reckons 292 = .ok (.pop2, 1) := by decide +kernel
theorem dX11_reckons_293 : decode cX11_reckons 293 = .ok (.iconst 0, 1) := by decide +kernel
theorem dX11_reckons_294 : decode cX11_reckons 294 = .ok (.istore 7, 2) := by decide +kernel
theorem dX11_reckons_296 : decode cX11_reckons 296 = .ok (.iload 7, 2) := by decide +kernel
theorem dX11_reckons_298 : decode cX11_reckons 298 = .ok (.bipush 12, 2) := by decide +kernel
theorem dX11_reckons_300 : decode cX11_reckons 300 = .ok (.if_icmp .ge 28, 3) := by decide +kernel
theorem dX11_reckons_303 : decode cX11_reckons 303 = .ok (.aload_n 0, 1) := by decide +kernel
theorem dX11_reckons_304 : decode cX11_reckons 304 = .ok (.getfield 69, 3) := by decide +kernel
theorem dX11_reckons_307 : decode cX11_reckons 307 = .ok (.bipush 6, 2) := by decide +kernel
theorem dX11_reckons_309 : decode cX11_reckons 309 = .ok (.iload 7, 2) := by decide +kernel
theorem dX11_reckons_311 : decode cX11_reckons 311 = .ok (.imul, 1) := by decide +kernel
theorem dX11_reckons_312 : decode cX11_reckons 312 = .ok (.iconst 1, 1) := by decide +kernel
theorem dX11_reckons_313 : decode cX11_reckons 313 = .ok (.iadd, 1) := by decide +kernel
theorem dX11_reckons_314 : decode cX11_reckons 314 = .ok (.aload_n 0, 1) := by decide +kernel
theorem dX11_reckons_315 : decode cX11_reckons 315 = .ok (.getfield 59, 3) := by decide +kernel
theorem dX11_reckons_318 : decode cX11_reckons 318 = .ok (.iload 7, 2) := by decide +kernel
theorem dX11_reckons_320 : decode cX11_reckons 320 = .ok (.laload, 1) := by decide +kernel
theorem dX11_reckons_321 : decode cX11_reckons 321 = .ok (.lastore, 1) := by decide +kernel
theorem dX11_reckons_322 : decode cX11_reckons 322 = .ok (.iinc 7 1, 3) := by decide +kernel
theorem dX11_reckons_325 : decode cX11_reckons 325 = .ok (.goto (-29), 3) := by decide +kernel
theorem dX11_reckons_328 : decode cX11_reckons 328 = .ok (.aload_n 0, 1) := by decide +kernel
theorem dX11_reckons_329 : decode cX11_reckons 329 = .ok (.lload_n 1, 1) := by decide +kernel
theorem dX11_reckons_330 : decode cX11_reckons 330 = .ok (.invokevirtual 422, 3) := by decide +kernel
theorem dX11_reckons_333 : decode cX11_reckons 333 = .ok (.lstore_n 1, 1) := by decide +kernel
theorem dX11_reckons_334 : decode cX11_reckons 334 = .ok (.iconst 0, 1) := by decide +kernel
theorem dX11_reckons_335 : decode cX11_reckons 335 = .ok (.istore_n 3, 1) := by decide +kernel
theorem dX11_reckons_336 : decode cX11_reckons 336 = .ok (.iload_n 3, 1) := by decide +kernel
theorem dX11_reckons_337 : decode cX11_reckons 337 = .ok (.bipush 12, 2) := by decide +kernel
theorem dX11_reckons_339 : decode cX11_reckons 339 = .ok (.if_icmp .ge 155, 3) := by decide +kernel
theorem dX11_reckons_342 : decode cX11_reckons 342 = .ok (.bipush 6, 2) := by decide +kernel
theorem dX11_reckons_344 : decode cX11_reckons 344 = .ok (.iload_n 3, 1) := by decide +kernel
theorem dX11_reckons_345 : decode cX11_reckons 345 = .ok (.imul, 1) := by decide +kernel
theorem dX11_reckons_346 : decode cX11_reckons 346 = .ok (.istore 4, 2) := by decide +kernel
theorem dX11_reckons_348 : decode cX11_reckons 348 = .ok (.aload_n 0, 1) := by decide +kernel
theorem dX11_reckons_349 : decode cX11_reckons 349 = .ok (.getfield 69, 3) := by decide +kernel
theorem dX11_reckons_352 : decode cX11_reckons 352 = .ok (.iload 4, 2) := by decide +kernel
theorem dX11_reckons_354 : decode cX11_reckons 354 = .ok (.iconst 5, 1) := by decide +kernel
theorem dX11_reckons_355 : decode cX11_reckons 355 = .ok (.iadd, 1) := by decide +kernel
theorem dX11_reckons_356 : decode cX11_reckons 356 = .ok (.aload_n 0, 1) := by decide +kernel
theorem dX11_reckons_357 : decode cX11_reckons 357 = .ok (.getfield 69, 3) := by decide +kernel
theorem dX11_reckons_360 : decode cX11_reckons 360 = .ok (.iload 4, 2) := by decide +kernel
theorem dX11_reckons_362 : decode cX11_reckons 362 = .ok (.iconst 0, 1) := by decide +kernel
theorem dX11_reckons_363 : decode cX11_reckons 363 = .ok (.iadd, 1) := by decide +kernel
theorem dX11_reckons_364 : decode cX11_reckons 364 = .ok (.laload, 1) := by decide +kernel
theorem dX11_reckons_365 : decode cX11_reckons 365 = .ok (.aload_n 0, 1) := by decide +kernel
theorem dX11_reckons_366 : decode cX11_reckons 366 = .ok (.getfield 69, 3) := by decide +kernel
theorem dX11_reckons_369 : decode cX11_reckons 369 = .ok (.iload 4, 2) := by decide +kernel
theorem dX11_reckons_371 : decode cX11_reckons 371 = .ok (.iconst 1, 1) := by decide +kernel
theorem dX11_reckons_372 : decode cX11_reckons 372 = .ok (.iadd, 1) := by decide +kernel
theorem dX11_reckons_373 : decode cX11_reckons 373 = .ok (.laload, 1) := by decide +kernel
theorem dX11_reckons_374 : decode cX11_reckons 374 = .ok (.lsub, 1) := by decide +kernel
theorem dX11_reckons_375 : decode cX11_reckons 375 = .ok (.aload_n 0, 1) := by decide +kernel
theorem dX11_reckons_376 : decode cX11_reckons 376 = .ok (.getfield 69, 3) := by decide +kernel
theorem dX11_reckons_379 : decode cX11_reckons 379 = .ok (.iload 4, 2) := by decide +kernel
theorem dX11_reckons_381 : decode cX11_reckons 381 = .ok (.iconst 2, 1) := by decide +kernel
theorem dX11_reckons_382 : decode cX11_reckons 382 = .ok (.iadd, 1) := by decide +kernel
theorem dX11_reckons_383 : decode cX11_reckons 383 = .ok (.laload, 1) := by decide +kernel
theorem dX11_reckons_384 : decode cX11_reckons 384 = .ok (.ladd, 1) := by decide +kernel
theorem dX11_reckons_385 : decode cX11_reckons 385 = .ok (.aload_n 0, 1) := by decide +kernel
theorem dX11_reckons_386 : decode cX11_reckons 386 = .ok (.getfield 72, 3) := by decide +kernel
theorem dX11_reckons_389 : decode cX11_reckons 389 = .ok (.iload_n 3, 1) := by decide +kernel
theorem dX11_reckons_390 : decode cX11_reckons 390 = .ok (.laload, 1) := by decide +kernel
theorem dX11_reckons_391 : decode cX11_reckons 391 = .ok (.lsub, 1) := by decide +kernel
theorem dX11_reckons_392 : decode cX11_reckons 392 = .ok (.aload_n 0, 1) := by decide +kernel
theorem dX11_reckons_393 : decode cX11_reckons 393 = .ok (.getfield 69, 3) := by decide +kernel
theorem dX11_reckons_396 : decode cX11_reckons 396 = .ok (.iload 4, 2) := by decide +kernel
theorem dX11_reckons_398 : decode cX11_reckons 398 = .ok (.iconst 3, 1) := by decide +kernel
theorem dX11_reckons_399 : decode cX11_reckons 399 = .ok (.iadd, 1) := by decide +kernel
theorem dX11_reckons_400 : decode cX11_reckons 400 = .ok (.laload, 1) := by decide +kernel
theorem dX11_reckons_401 : decode cX11_reckons 401 = .ok (.lsub, 1) := by decide +kernel
theorem dX11_reckons_402 : decode cX11_reckons 402 = .ok (.aload_n 0, 1) := by decide +kernel
theorem dX11_reckons_403 : decode cX11_reckons 403 = .ok (.getfield 69, 3) := by decide +kernel
theorem dX11_reckons_406 : decode cX11_reckons 406 = .ok (.iload 4, 2) := by decide +kernel
theorem dX11_reckons_408 : decode cX11_reckons 408 = .ok (.iconst 4, 1) := by decide +kernel
theorem dX11_reckons_409 : decode cX11_reckons 409 = .ok (.iadd, 1) := by decide +kernel
theorem dX11_reckons_410 : decode cX11_reckons 410 = .ok (.laload, 1) := by decide +kernel
theorem dX11_reckons_411 : decode cX11_reckons 411 = .ok (.lsub, 1) := by decide +kernel
theorem dX11_reckons_412 : decode cX11_reckons 412 = .ok (.lastore, 1) := by decide +kernel
theorem dX11_reckons_413 : decode cX11_reckons 413 = .ok (.aload_n 0, 1) := by decide +kernel
theorem dX11_reckons_414 : decode cX11_reckons 414 = .ok (.getfield 75, 3) := by decide +kernel
theorem dX11_reckons_417 : decode cX11_reckons 417 = .ok (.iconst 5, 1) := by decide +kernel
theorem dX11_reckons_418 : decode cX11_reckons 418 = .ok (.dup2, 1) := by decide +kernel
theorem dX11_reckons_419 : decode cX11_reckons 419 = .ok (.laload, 1) := by decide +kernel
theorem dX11_reckons_420 : decode cX11_reckons 420 = .ok (.aload_n 0, 1) := by decide +kernel
theorem dX11_reckons_421 : decode cX11_reckons 421 = .ok (.getfield 69, 3) := by decide +kernel
theorem dX11_reckons_424 : decode cX11_reckons 424 = .ok (.iload 4, 2) := by decide +kernel
theorem dX11_reckons_426 : decode cX11_reckons 426 = .ok (.iconst 2, 1) := by decide +kernel
theorem dX11_reckons_427 : decode cX11_reckons 427 = .ok (.iadd, 1) := by decide +kernel
theorem dX11_reckons_428 : decode cX11_reckons 428 = .ok (.laload, 1) := by decide +kernel
theorem dX11_reckons_429 : decode cX11_reckons 429 = .ok (.ladd, 1) := by decide +kernel
theorem dX11_reckons_430 : decode cX11_reckons 430 = .ok (.lastore, 1) := by decide +kernel
theorem dX11_reckons_431 : decode cX11_reckons 431 = .ok (.aload_n 0, 1) := by decide +kernel
theorem dX11_reckons_432 : decode cX11_reckons 432 = .ok (.getfield 75, 3) := by decide +kernel
theorem dX11_reckons_435 : decode cX11_reckons 435 = .ok (.bipush 7, 2) := by decide +kernel
theorem dX11_reckons_437 : decode cX11_reckons 437 = .ok (.dup2, 1) := by decide +kernel
theorem dX11_reckons_438 : decode cX11_reckons 438 = .ok (.laload, 1) := by decide +kernel
theorem dX11_reckons_439 : decode cX11_reckons 439 = .ok (.aload_n 0, 1) := by decide +kernel
theorem dX11_reckons_440 : decode cX11_reckons 440 = .ok (.getfield 69, 3) := by decide +kernel
theorem dX11_reckons_443 : decode cX11_reckons 443 = .ok (.iload 4, 2) := by decide +kernel
theorem dX11_reckons_445 : decode cX11_reckons 445 = .ok (.iconst 3, 1) := by decide +kernel
theorem dX11_reckons_446 : decode cX11_reckons 446 = .ok (.iadd, 1) := by decide +kernel
theorem dX11_reckons_447 : decode cX11_reckons 447 = .ok (.laload, 1) := by decide +kernel
theorem dX11_reckons_448 : decode cX11_reckons 448 = .ok (.ladd, 1) := by decide +kernel
theorem dX11_reckons_449 : decode cX11_reckons 449 = .ok (.lastore, 1) := by decide +kernel
theorem dX11_reckons_450 : decode cX11_reckons 450 = .ok (.aload_n 0, 1) := by decide +kernel
theorem dX11_reckons_451 : decode cX11_reckons 451 = .ok (.getfield 75, 3) := by decide +kernel
theorem dX11_reckons_454 : decode cX11_reckons 454 = .ok (.bipush 8, 2) := by decide +kernel
theorem dX11_reckons_456 : decode cX11_reckons 456 = .ok (.dup2, 1) := by decide +kernel
theorem dX11_reckons_457 : decode cX11_reckons 457 = .ok (.laload, 1) := by decide +kernel
theorem dX11_reckons_458 : decode cX11_reckons 458 = .ok (.aload_n 0, 1) := by decide +kernel
theorem dX11_reckons_459 : decode cX11_reckons 459 = .ok (.getfield 69, 3) := by decide +kernel
theorem dX11_reckons_462 : decode cX11_reckons 462 = .ok (.iload 4, 2) := by decide +kernel
theorem dX11_reckons_464 : decode cX11_reckons 464 = .ok (.iconst 1, 1) := by decide +kernel
theorem dX11_reckons_465 : decode cX11_reckons 465 = .ok (.iadd, 1) := by decide +kernel
theorem dX11_reckons_466 : decode cX11_reckons 466 = .ok (.laload, 1) := by decide +kernel
theorem dX11_reckons_467 : decode cX11_reckons 467 = .ok (.ladd, 1) := by decide +kernel
theorem dX11_reckons_468 : decode cX11_reckons 468 = .ok (.lastore, 1) := by decide +kernel
theorem dX11_reckons_469 : decode cX11_reckons 469 = .ok (.aload_n 0, 1) := by decide +kernel
theorem dX11_reckons_470 : decode cX11_reckons 470 = .ok (.getfield 75, 3) := by decide +kernel
theorem dX11_reckons_473 : decode cX11_reckons 473 = .ok (.bipush 9, 2) := by decide +kernel
theorem dX11_reckons_475 : decode cX11_reckons 475 = .ok (.dup2, 1) := by decide +kernel
theorem dX11_reckons_476 : decode cX11_reckons 476 = .ok (.laload, 1) := by decide +kernel
theorem dX11_reckons_477 : decode cX11_reckons 477 = .ok (.aload_n 0, 1) := by decide +kernel
theorem dX11_reckons_478 : decode cX11_reckons 478 = .ok (.getfield 69, 3) := by decide +kernel
theorem dX11_reckons_481 : decode cX11_reckons 481 = .ok (.iload 4, 2) := by decide +kernel
theorem dX11_reckons_483 : decode cX11_reckons 483 = .ok (.iconst 4, 1) := by decide +kernel
theorem dX11_reckons_484 : decode cX11_reckons 484 = .ok (.iadd, 1) := by decide +kernel
theorem dX11_reckons_485 : decode cX11_reckons 485 = .ok (.laload, 1) := by decide +kernel
theorem dX11_reckons_486 : decode cX11_reckons 486 = .ok (.ladd, 1) := by decide +kernel
theorem dX11_reckons_487 : decode cX11_reckons 487 = .ok (.lastore, 1) := by decide +kernel
theorem dX11_reckons_488 : decode cX11_reckons 488 = .ok (.iinc 3 1, 3) := by decide +kernel
theorem dX11_reckons_491 : decode cX11_reckons 491 = .ok (.goto (-155), 3) := by decide +kernel
theorem dX11_reckons_494 : decode cX11_reckons 494 = .ok (.aload_n 0, 1) := by decide +kernel
theorem dX11_reckons_495 : decode cX11_reckons 495 = .ok (.getfield 75, 3) := by decide +kernel
theorem dX11_reckons_498 : decode cX11_reckons 498 = .ok (.bipush 10, 2) := by decide +kernel
theorem dX11_reckons_500 : decode cX11_reckons 500 = .ok (.lload_n 1, 1) := by decide +kernel
theorem dX11_reckons_501 : decode cX11_reckons 501 = .ok (.lastore, 1) := by decide +kernel
theorem dX11_reckons_502 : decode cX11_reckons 502 = .ok (.return_, 1) := by decide +kernel
theorem dX11_calls_0 : decode cX11_calls 0 = .ok (.lload_n 1, 1) := by decide +kernel
theorem dX11_calls_1 : decode cX11_calls 1 = .ok (.lstore_n 3, 1) := by decide +kernel
theorem dX11_calls_2 : decode cX11_calls 2 = .ok (.iconst 0, 1) := by decide +kernel
theorem dX11_calls_3 : decode cX11_calls 3 = .ok (.istore 5, 2) := by decide +kernel
theorem dX11_calls_5 : decode cX11_calls 5 = .ok (.iload 5, 2) := by decide +kernel
theorem dX11_calls_7 : decode cX11_calls 7 = .ok (.bipush 12, 2) := by decide +kernel
theorem dX11_calls_9 : decode cX11_calls 9 = .ok (.if_icmp .ge 36, 3) := by decide +kernel
theorem dX11_calls_12 : decode cX11_calls 12 = .ok (.aload_n 0, 1) := by decide +kernel
theorem dX11_calls_13 : decode cX11_calls 13 = .ok (.getfield 56, 3) := by decide +kernel
theorem dX11_calls_16 : decode cX11_calls 16 = .ok (.iload 5, 2) := by decide +kernel
theorem dX11_calls_18 : decode cX11_calls 18 = .ok (.aload_n 0, 1) := by decide +kernel
theorem dX11_calls_19 : decode cX11_calls 19 = .ok (.getfield 65, 3) := by decide +kernel
theorem dX11_calls_22 : decode cX11_calls 22 = .ok (.iload 5, 2) := by decide +kernel
theorem dX11_calls_24 : decode cX11_calls 24 = .ok (.baload, 1) := by decide +kernel
theorem dX11_calls_25 : decode cX11_calls 25 = .ok (.ifCond .eq 12, 3) := by decide +kernel
theorem dX11_calls_28 : decode cX11_calls 28 = .ok (.aload_n 0, 1) := by decide +kernel
theorem dX11_calls_29 : decode cX11_calls 29 = .ok (.iload 5, 2) := by decide +kernel
theorem dX11_calls_31 : decode cX11_calls 31 = .ok (.invokevirtual 315, 3) := by decide +kernel
theorem dX11_calls_34 : decode cX11_calls 34 = .ok (.goto 4, 3) := by decide +kernel
theorem dX11_calls_37 : decode cX11_calls 37 = .ok (.lconst 0, 1) := by decide +kernel
theorem dX11_calls_38 : decode cX11_calls 38 = .ok (.lastore, 1) := by decide +kernel
theorem dX11_calls_39 : decode cX11_calls 39 = .ok (.iinc 5 1, 3) := by decide +kernel
theorem dX11_calls_42 : decode cX11_calls 42 = .ok (.goto (-37), 3) := by decide +kernel
theorem dX11_calls_45 : decode cX11_calls 45 = .ok (.lload_n 3, 1) := by decide +kernel
theorem dX11_calls_46 : decode cX11_calls 46 = .ok (.lconst 0, 1) := by decide +kernel
theorem dX11_calls_47 : decode cX11_calls 47 = .ok (.lcmp, 1) := by decide +kernel
theorem dX11_calls_48 : decode cX11_calls 48 = .ok (.ifCond .le 7, 3) := by decide +kernel
theorem dX11_calls_51 : decode cX11_calls 51 = .ok (.iconst 1, 1) := by decide +kernel
theorem dX11_calls_52 : decode cX11_calls 52 = .ok (.goto 4, 3) := by decide +kernel
theorem dX11_calls_55 : decode cX11_calls 55 = .ok (.iconst 0, 1) := by decide +kernel
theorem dX11_calls_56 : decode cX11_calls 56 = .ok (.istore 5, 2) := by decide +kernel
theorem dX11_calls_58 : decode cX11_calls 58 = .ok (.iload 5, 2) := by decide +kernel
theorem dX11_calls_60 : decode cX11_calls 60 = .ok (.ifCond .eq 227, 3) := by decide +kernel
theorem dX11_calls_63 : decode cX11_calls 63 = .ok (.aload_n 0, 1) := by decide +kernel
theorem dX11_calls_64 : decode cX11_calls 64 = .ok (.lload_n 3, 1) := by decide +kernel
theorem dX11_calls_65 : decode cX11_calls 65 = .ok (.invokevirtual 413, 3) := by decide +kernel
theorem dX11_calls_68 : decode cX11_calls 68 = .ok (.lstore 6, 2) := by decide +kernel
theorem dX11_calls_70 : decode cX11_calls 70 = .ok (.iconst 0, 1) := by decide +kernel
theorem dX11_calls_71 : decode cX11_calls 71 = .ok (.istore 5, 2) := by decide +kernel
theorem dX11_calls_73 : decode cX11_calls 73 = .ok (.iconst 0, 1) := by decide +kernel
theorem dX11_calls_74 : decode cX11_calls 74 = .ok (.istore 8, 2) := by decide +kernel
theorem dX11_calls_76 : decode cX11_calls 76 = .ok (.iload 8, 2) := by decide +kernel
theorem dX11_calls_78 : decode cX11_calls 78 = .ok (.bipush 12, 2) := by decide +kernel
theorem dX11_calls_80 : decode cX11_calls 80 = .ok (.if_icmp .ge 56, 3) := by decide +kernel
theorem dX11_calls_83 : decode cX11_calls 83 = .ok (.iload 5, 2) := by decide +kernel
theorem dX11_calls_85 : decode cX11_calls 85 = .ok (.ifCond .ne 38, 3) := by decide +kernel
theorem dX11_calls_88 : decode cX11_calls 88 = .ok (.aload_n 0, 1) := by decide +kernel
theorem dX11_calls_89 : decode cX11_calls 89 = .ok (.getfield 65, 3) := by decide +kernel
theorem dX11_calls_92 : decode cX11_calls 92 = .ok (.iload 8, 2) := by decide +kernel
theorem dX11_calls_94 : decode cX11_calls 94 = .ok (.baload, 1) := by decide +kernel
theorem dX11_calls_95 : decode cX11_calls 95 = .ok (.ifCond .eq 32, 3) := by decide +kernel
theorem dX11_calls_98 : decode cX11_calls 98 = .ok (.aload_n 0, 1) := by decide +kernel
theorem dX11_calls_99 : decode cX11_calls 99 = .ok (.getfield 59, 3) := by decide +kernel
theorem dX11_calls_102 : decode cX11_calls 102 = .ok (.iload 8, 2) := by decide +kernel
theorem dX11_calls_104 : decode cX11_calls 104 = .ok (.laload, 1) := by decide +kernel
theorem dX11_calls_105 : decode cX11_calls 105 = .ok (.aload_n 0, 1) := by decide +kernel
theorem dX11_calls_106 : decode cX11_calls 106 = .ok (.getfield 9, 3) := by decide +kernel
theorem dX11_calls_109 : decode cX11_calls 109 = .ok (.iconst 2, 1) := by decide +kernel
theorem dX11_calls_110 : decode cX11_calls 110 = .ok (.laload, 1) := by decide +kernel
theorem dX11_calls_111 : decode cX11_calls 111 = .ok (.aload_n 0, 1) := by decide +kernel
theorem dX11_calls_112 : decode cX11_calls 112 = .ok (.getfield 72, 3) := by decide +kernel
theorem dX11_calls_115 : decode cX11_calls 115 = .ok (.iload 8, 2) := by decide +kernel
theorem dX11_calls_117 : decode cX11_calls 117 = .ok (.laload, 1) := by decide +kernel
theorem dX11_calls_118 : decode cX11_calls 118 = .ok (.lmul, 1) := by decide +kernel
theorem dX11_calls_119 : decode cX11_calls 119 = .ok (.lcmp, 1) := by decide +kernel
theorem dX11_calls_120 : decode cX11_calls 120 = .ok (.ifCond .le 7, 3) := by decide +kernel
theorem dX11_calls_123 : decode cX11_calls 123 = .ok (.iconst 1, 1) := by decide +kernel
theorem dX11_calls_124 : decode cX11_calls 124 = .ok (.goto 4, 3) := by decide +kernel
theorem dX11_calls_127 : decode cX11_calls 127 = .ok (.iconst 0, 1) := by decide +kernel
theorem dX11_calls_128 : decode cX11_calls 128 = .ok (.istore 5, 2) := by decide +kernel
theorem dX11_calls_130 : decode cX11_calls 130 = .ok (.iinc 8 1, 3) := by decide +kernel
theorem dX11_calls_133 : decode cX11_calls 133 = .ok (.goto (-57), 3) := by decide +kernel
theorem dX11_calls_136 : decode cX11_calls 136 = .ok (.iconst 0, 1) := by decide +kernel
theorem dX11_calls_137 : decode cX11_calls 137 = .ok (.istore 8, 2) := by decide +kernel
theorem dX11_calls_139 : decode cX11_calls 139 = .ok (.iload 8, 2) := by decide +kernel
theorem dX11_calls_141 : decode cX11_calls 141 = .ok (.bipush 12, 2) := by decide +kernel
theorem dX11_calls_143 : decode cX11_calls 143 = .ok (.if_icmp .ge 116, 3) := by decide +kernel
theorem dX11_calls_146 : decode cX11_calls 146 = .ok (.aload_n 0, 1) := by decide +kernel
theorem dX11_calls_147 : decode cX11_calls 147 = .ok (.getfield 65, 3) := by decide +kernel
theorem dX11_calls_150 : decode cX11_calls 150 = .ok (.iload 8, 2) := by decide +kernel
theorem dX11_calls_152 : decode cX11_calls 152 = .ok (.baload, 1) := by decide +kernel
theorem dX11_calls_153 : decode cX11_calls 153 = .ok (.ifCond .eq 100, 3) := by decide +kernel
theorem dX11_calls_156 : decode cX11_calls 156 = .ok (.iload 5, 2) := by decide +kernel
theorem dX11_calls_158 : decode cX11_calls 158 = .ok (.ifCond .eq 31, 3) := by decide +kernel
theorem dX11_calls_161 : decode cX11_calls 161 = .ok (.aload_n 0, 1) := by decide +kernel
theorem dX11_calls_162 : decode cX11_calls 162 = .ok (.getfield 59, 3) := by decide +kernel
theorem dX11_calls_165 : decode cX11_calls 165 = .ok (.iload 8, 2) := by decide +kernel
theorem dX11_calls_167 : decode cX11_calls 167 = .ok (.laload, 1) := by decide +kernel
theorem dX11_calls_168 : decode cX11_calls 168 = .ok (.aload_n 0, 1) := by decide +kernel
theorem dX11_calls_169 : decode cX11_calls 169 = .ok (.getfield 9, 3) := by decide +kernel
theorem dX11_calls_172 : decode cX11_calls 172 = .ok (.iconst 2, 1) := by decide +kernel
theorem dX11_calls_173 : decode cX11_calls 173 = .ok (.laload, 1) := by decide +kernel
theorem dX11_calls_174 : decode cX11_calls 174 = .ok (.aload_n 0, 1) := by decide +kernel
theorem dX11_calls_175 : decode cX11_calls 175 = .ok (.getfield 72, 3) := by decide +kernel
theorem dX11_calls_178 : decode cX11_calls 178 = .ok (.iload 8, 2) := by decide +kernel
theorem dX11_calls_180 : decode cX11_calls 180 = .ok (.laload, 1) := by decide +kernel
theorem dX11_calls_181 : decode cX11_calls 181 = .ok (.lmul, 1) := by decide +kernel
theorem dX11_calls_182 : decode cX11_calls 182 = .ok (.lcmp, 1) := by decide +kernel
theorem dX11_calls_183 : decode cX11_calls 183 = .ok (.ifCond .gt 6, 3) := by decide +kernel
theorem dX11_calls_186 : decode cX11_calls 186 = .ok (.goto 67, 3) := by decide +kernel
theorem dX11_calls_189 : decode cX11_calls 189 = .ok (.aload_n 0, 1) := by decide +kernel
theorem dX11_calls_190 : decode cX11_calls 190 = .ok (.getfield 69, 3) := by decide +kernel
theorem dX11_calls_193 : decode cX11_calls 193 = .ok (.bipush 6, 2) := by decide +kernel
theorem dX11_calls_195 : decode cX11_calls 195 = .ok (.iload 8, 2) := by decide +kernel
theorem dX11_calls_197 : decode cX11_calls 197 = .ok (.imul, 1) := by decide +kernel
theorem dX11_calls_198 : decode cX11_calls 198 = .ok (.iconst 3, 1) := by decide +kernel
theorem dX11_calls_199 : decode cX11_calls 199 = .ok (.iadd, 1) := by decide +kernel
theorem dX11_calls_200 : decode cX11_calls 200 = .ok (.iload 5, 2) := by decide +kernel
theorem dX11_calls_202 : decode cX11_calls 202 = .ok (.ifCond .eq 20, 3) := by decide +kernel
theorem dX11_calls_205 : decode cX11_calls 205 = .ok (.aload_n 0, 1) := by decide +kernel
theorem dX11_calls_206 : decode cX11_calls 206 = .ok (.getfield 9, 3) := by decide +kernel
theorem dX11_calls_209 : decode cX11_calls 209 = .ok (.iconst 2, 1) := by decide +kernel
theorem dX11_calls_210 : decode cX11_calls 210 = .ok (.laload, 1) := by decide +kernel
theorem dX11_calls_211 : decode cX11_calls 211 = .ok (.aload_n 0, 1) := by decide +kernel
theorem dX11_calls_212 : decode cX11_calls 212 = .ok (.getfield 72, 3) := by decide +kernel
theorem dX11_calls_215 : decode cX11_calls 215 = .ok (.iload 8, 2) := by decide +kernel
theorem dX11_calls_217 : decode cX11_calls 217 = .ok (.laload, 1) := by decide +kernel
theorem dX11_calls_218 : decode cX11_calls 218 = .ok (.lmul, 1) := by decide +kernel
theorem dX11_calls_219 : decode cX11_calls 219 = .ok (.goto 10, 3) := by decide +kernel
theorem dX11_calls_222 : decode cX11_calls 222 = .ok (.aload_n 0, 1) := by decide +kernel
theorem dX11_calls_223 : decode cX11_calls 223 = .ok (.getfield 59, 3) := by decide +kernel
theorem dX11_calls_226 : decode cX11_calls 226 = .ok (.iload 8, 2) := by decide +kernel
theorem dX11_calls_228 : decode cX11_calls 228 = .ok (.laload, 1) := by decide +kernel
theorem dX11_calls_229 : decode cX11_calls 229 = .ok (.lastore, 1) := by decide +kernel
theorem dX11_calls_230 : decode cX11_calls 230 = .ok (.lload_n 3, 1) := by decide +kernel
theorem dX11_calls_231 : decode cX11_calls 231 = .ok (.aload_n 0, 1) := by decide +kernel
theorem dX11_calls_232 : decode cX11_calls 232 = .ok (.getfield 69, 3) := by decide +kernel
theorem dX11_calls_235 : decode cX11_calls 235 = .ok (.bipush 6, 2) := by decide +kernel
theorem dX11_calls_237 : decode cX11_calls 237 = .ok (.iload 8, 2) := by decide +kernel
theorem dX11_calls_239 : decode cX11_calls 239 = .ok (.imul, 1) := by decide +kernel
theorem dX11_calls_240 : decode cX11_calls 240 = .ok (.iconst 3, 1) := by decide +kernel
theorem dX11_calls_241 : decode cX11_calls 241 = .ok (.iadd, 1) := by decide +kernel
theorem dX11_calls_242 : decode cX11_calls 242 = .ok (.laload, 1) := by decide +kernel
theorem dX11_calls_243 : decode cX11_calls 243 = .ok (.lsub, 1) := by decide +kernel
theorem dX11_calls_244 : decode cX11_calls 244 = .ok (.lstore_n 3, 1) := by decide +kernel
theorem dX11_calls_245 : decode cX11_calls 245 = .ok (.aload_n 0, 1) := by decide +kernel
theorem dX11_calls_246 : decode cX11_calls 246 = .ok (.getfield 65, 3) := by decide +kernel
theorem dX11_calls_249 : decode cX11_calls 249 = .ok (.iload 8, 2) := by decide +kernel
theorem dX11_calls_251 : decode cX11_calls 251 = .ok (.iconst 0, 1) := by decide +kernel
theorem dX11_calls_252 : decode cX11_calls 252 = .ok (.bastore, 1) := by decide +kernel
theorem dX11_calls_253 : decode cX11_calls 253 = .ok (.iinc 8 1, 3) := by decide +kernel
theorem dX11_calls_256 : decode cX11_calls 256 = .ok (.goto (-117), 3) := by decide +kernel
theorem dX11_calls_259 : decode cX11_calls 259 = .ok (.iload 5, 2) := by decide +kernel
theorem dX11_calls_261 : decode cX11_calls 261 = .ok (.ifCond .eq 20, 3) := by decide +kernel
theorem dX11_calls_264 : decode cX11_calls 264 = .ok (.lload 6, 2) := by decide +kernel
theorem dX11_calls_266 : decode cX11_calls 266 = .ok (.lconst 0, 1) := by decide +kernel
theorem dX11_calls_267 : decode cX11_calls 267 = .ok (.lcmp, 1) := by decide +kernel
theorem dX11_calls_268 : decode cX11_calls 268 = .ok (.ifCond .le 13, 3) := by decide +kernel
theorem dX11_calls_271 : decode cX11_calls 271 = .ok (.lload_n 3, 1) := by decide +kernel
theorem dX11_calls_272 : decode cX11_calls 272 = .ok (.lconst 0, 1) := by decide +kernel
theorem dX11_calls_273 : decode cX11_calls 273 = .ok (.lcmp, 1) := by decide +kernel
theorem dX11_calls_274 : decode cX11_calls 274 = .ok (.ifCond .le 7, 3) := by decide +kernel
theorem dX11_calls_277 : decode cX11_calls 277 = .ok (.iconst 1, 1) := by decide +kernel
theorem dX11_calls_278 : decode cX11_calls 278 = .ok (.goto 4, 3) := by decide +kernel
theorem dX11_calls_281 : decode cX11_calls 281 = .ok (.iconst 0, 1) := by decide +kernel
theorem dX11_calls_282 : decode cX11_calls 282 = .ok (.istore 5, 2) := by decide +kernel
theorem dX11_calls_284 : decode cX11_calls 284 = .ok (.goto (-226), 3) := by decide +kernel
theorem dX11_calls_287 : decode cX11_calls 287 = .ok (.lload_n 3, 1) := by decide +kernel
theorem dX11_calls_288 : decode cX11_calls 288 = .ok (.lreturn, 1) := by decide +kernel
theorem dX11_leaves_0 : decode cX11_leaves 0 = .ok (.lload_n 1, 1) := by decide +kernel
theorem dX11_leaves_1 : decode cX11_leaves 1 = .ok (.lstore_n 3, 1) := by decide +kernel
theorem dX11_leaves_2 : decode cX11_leaves 2 = .ok (.iconst 0, 1) := by decide +kernel
theorem dX11_leaves_3 : decode cX11_leaves 3 = .ok (.istore 5, 2) := by decide +kernel
theorem dX11_leaves_5 : decode cX11_leaves 5 = .ok (.iload 5, 2) := by decide +kernel
theorem dX11_leaves_7 : decode cX11_leaves 7 = .ok (.bipush 12, 2) := by decide +kernel
theorem dX11_leaves_9 : decode cX11_leaves 9 = .ok (.if_icmp .ge 17, 3) := by decide +kernel
theorem dX11_leaves_12 : decode cX11_leaves 12 = .ok (.aload_n 0, 1) := by decide +kernel
theorem dX11_leaves_13 : decode cX11_leaves 13 = .ok (.getfield 78, 3) := by decide +kernel
theorem dX11_leaves_16 : decode cX11_leaves 16 = .ok (.iload 5, 2) := by decide +kernel
theorem dX11_leaves_18 : decode cX11_leaves 18 = .ok (.iconst 0, 1) := by decide +kernel
theorem dX11_leaves_19 : decode cX11_leaves 19 = .ok (.bastore, 1) := by decide +kernel
theorem dX11_leaves_20 : decode cX11_leaves 20 = .ok (.iinc 5 1, 3) := by decide +kernel
theorem dX11_leaves_23 : decode cX11_leaves 23 = .ok (.goto (-18), 3) := by decide +kernel
theorem dX11_leaves_26 : decode cX11_leaves 26 = .ok (.iconst 0, 1) := by decide +kernel
theorem dX11_leaves_27 : decode cX11_leaves 27 = .ok (.istore 5, 2) := by decide +kernel
theorem dX11_leaves_29 : decode cX11_leaves 29 = .ok (.iload 5, 2) := by decide +kernel
theorem dX11_leaves_31 : decode cX11_leaves 31 = .ok (.i2l, 1) := by decide +kernel
theorem dX11_leaves_32 : decode cX11_leaves 32 = .ok (.aload_n 0, 1) := by decide +kernel
theorem dX11_leaves_33 : decode cX11_leaves 33 = .ok (.getfield 9, 3) := by decide +kernel
theorem dX11_leaves_36 : decode cX11_leaves 36 = .ok (.iconst 5, 1) := by decide +kernel
theorem dX11_leaves_37 : decode cX11_leaves 37 = .ok (.laload, 1) := by decide +kernel
theorem dX11_leaves_38 : decode cX11_leaves 38 = .ok (.lcmp, 1) := by decide +kernel
theorem dX11_leaves_39 : decode cX11_leaves 39 = .ok (.ifCond .ge 204, 3) := by decide +kernel
theorem dX11_leaves_42 : decode cX11_leaves 42 = .ok (.aload_n 0, 1) := by decide +kernel
theorem dX11_leaves_43 : decode cX11_leaves 43 = .ok (.iload 5, 2) := by decide +kernel
theorem dX11_leaves_45 : decode cX11_leaves 45 = .ok (.invokevirtual 331, 3) := by decide +kernel
theorem dX11_leaves_48 : decode cX11_leaves 48 = .ok (.ifCond .eq 189, 3) := by decide +kernel
theorem dX11_leaves_51 : decode cX11_leaves 51 = .ok (.aload_n 0, 1) := by decide +kernel
theorem dX11_leaves_52 : decode cX11_leaves 52 = .ok (.getfield 9, 3) := by decide +kernel
theorem dX11_leaves_55 : decode cX11_leaves 55 = .ok (.bipush 22, 2) := by decide +kernel
theorem dX11_leaves_57 : decode cX11_leaves 57 = .ok (.iload 5, 2) := by decide +kernel
theorem dX11_leaves_59 : decode cX11_leaves 59 = .ok (.iadd, 1) := by decide +kernel
theorem dX11_leaves_60 : decode cX11_leaves 60 = .ok (.laload, 1) := by decide +kernel
theorem dX11_leaves_61 : decode cX11_leaves 61 = .ok (.lconst 0, 1) := by decide +kernel
theorem dX11_leaves_62 : decode cX11_leaves 62 = .ok (.lcmp, 1) := by decide +kernel
theorem dX11_leaves_63 : decode cX11_leaves 63 = .ok (.ifCond .ne 6, 3) := by decide +kernel
theorem dX11_leaves_66 : decode cX11_leaves 66 = .ok (.goto 171, 3) := by decide +kernel
theorem dX11_leaves_69 : decode cX11_leaves 69 = .ok (.lconst 0, 1) := by decide +kernel
theorem dX11_leaves_70 : decode cX11_leaves 70 = .ok (.lstore 6, 2) := by decide +kernel
theorem dX11_leaves_72 : decode cX11_leaves 72 = .ok (.lconst 0, 1) := by decide +kernel
theorem dX11_leaves_73 : decode cX11_leaves 73 = .ok (.lstore 8, 2) := by decide +kernel
theorem dX11_leaves_75 : decode cX11_leaves 75 = .ok (.iconst 0, 1) := by decide +kernel
theorem dX11_leaves_76 : decode cX11_leaves 76 = .ok (.istore 10, 2) := by decide +kernel
theorem dX11_leaves_78 : decode cX11_leaves 78 = .ok (.iload 10, 2) := by decide +kernel
theorem dX11_leaves_80 : decode cX11_leaves 80 = .ok (.i2l, 1) := by decide +kernel
theorem dX11_leaves_81 : decode cX11_leaves 81 = .ok (.aload_n 0, 1) := by decide +kernel
theorem dX11_leaves_82 : decode cX11_leaves 82 = .ok (.getfield 9, 3) := by decide +kernel
theorem dX11_leaves_85 : decode cX11_leaves 85 = .ok (.iconst 5, 1) := by decide +kernel
theorem dX11_leaves_86 : decode cX11_leaves 86 = .ok (.laload, 1) := by decide +kernel
theorem dX11_leaves_87 : decode cX11_leaves 87 = .ok (.lcmp, 1) := by decide +kernel
theorem dX11_leaves_88 : decode cX11_leaves 88 = .ok (.ifCond .ge 53, 3) := by decide +kernel
theorem dX11_leaves_91 : decode cX11_leaves 91 = .ok (.aload_n 0, 1) := by decide +kernel
theorem dX11_leaves_92 : decode cX11_leaves 92 = .ok (.iload 10, 2) := by decide +kernel
theorem dX11_leaves_94 : decode cX11_leaves 94 = .ok (.invokevirtual 331, 3) := by decide +kernel
theorem dX11_leaves_97 : decode cX11_leaves 97 = .ok (.ifCond .eq 38, 3) := by decide +kernel
theorem dX11_leaves_100 : decode cX11_leaves 100 = .ok (.aload_n 0, 1) := by decide +kernel
theorem dX11_leaves_101 : decode cX11_leaves 101 = .ok (.getfield 78, 3) := by decide +kernel
theorem dX11_leaves_104 : decode cX11_leaves 104 = .ok (.iload 10, 2) := by decide +kernel
theorem dX11_leaves_106 : decode cX11_leaves 106 = .ok (.baload, 1) := by decide +kernel
theorem dX11_leaves_107 : decode cX11_leaves 107 = .ok (.ifCond .eq 6, 3) := by decide +kernel
theorem dX11_leaves_110 : decode cX11_leaves 110 = .ok (.goto 25, 3) := by decide +kernel
theorem dX11_leaves_113 : decode cX11_leaves 113 = .ok (.lload 6, 2) := by decide +kernel
theorem dX11_leaves_115 : decode cX11_leaves 115 = .ok (.aload_n 0, 1) := by decide +kernel
theorem dX11_leaves_116 : decode cX11_leaves 116 = .ok (.iload 10, 2) := by decide +kernel
theorem dX11_leaves_118 : decode cX11_leaves 118 = .ok (.invokevirtual 344, 3) := by decide +kernel
theorem dX11_leaves_121 : decode cX11_leaves 121 = .ok (.ladd, 1) := by decide +kernel
theorem dX11_leaves_122 : decode cX11_leaves 122 = .ok (.lstore 6, 2) := by decide +kernel
theorem dX11_leaves_124 : decode cX11_leaves 124 = .ok (.lload 8, 2) := by decide +kernel
theorem dX11_leaves_126 : decode cX11_leaves 126 = .ok (.aload_n 0, 1) := by decide +kernel
theorem dX11_leaves_127 : decode cX11_leaves 127 = .ok (.iload 10, 2) := by decide +kernel
theorem dX11_leaves_129 : decode cX11_leaves 129 = .ok (.invokevirtual 315, 3) := by decide +kernel
theorem dX11_leaves_132 : decode cX11_leaves 132 = .ok (.ladd, 1) := by decide +kernel
theorem dX11_leaves_133 : decode cX11_leaves 133 = .ok (.lstore 8, 2) := by decide +kernel
theorem dX11_leaves_135 : decode cX11_leaves 135 = .ok (.iinc 10 1, 3) := by decide +kernel
theorem dX11_leaves_138 : decode cX11_leaves 138 = .ok (.goto (-60), 3) := by decide +kernel
theorem dX11_leaves_141 : decode cX11_leaves 141 = .ok (.lconst 0, 1) := by decide +kernel
theorem dX11_leaves_142 : decode cX11_leaves 142 = .ok (.aload_n 0, 1) := by decide +kernel
theorem dX11_leaves_143 : decode cX11_leaves 143 = .ok (.getfield 9, 3) := by decide +kernel
theorem dX11_leaves_146 : decode cX11_leaves 146 = .ok (.iconst 3, 1) := by decide +kernel
theorem dX11_leaves_147 : decode cX11_leaves 147 = .ok (.laload, 1) := by decide +kernel
theorem dX11_leaves_148 : decode cX11_leaves 148 = .ok (.lload 6, 2) := by decide +kernel
theorem dX11_leaves_150 : decode cX11_leaves 150 = .ok (.lmul, 1) := by decide +kernel
theorem dX11_leaves_151 : decode cX11_leaves 151 = .ok (.ldc2_w 352, 3) := by decide +kernel
theorem dX11_leaves_154 : decode cX11_leaves 154 = .ok (.ldiv, 1) := by decide +kernel
theorem dX11_leaves_155 : decode cX11_leaves 155 = .ok (.lload_n 3, 1) := by decide +kernel
theorem dX11_leaves_156 : decode cX11_leaves 156 = .ok (.lsub, 1) := by decide +kernel
theorem dX11_leaves_157 : decode cX11_leaves 157 = .ok (.invokestatic 313, 3) := by decide +kernel
theorem dX11_leaves_160 : decode cX11_leaves 160 = .ok (.lstore 10, 2) := by decide +kernel
theorem dX11_leaves_162 : decode cX11_leaves 162 = .ok (.lload 8, 2) := by decide +kernel
theorem dX11_leaves_164 : decode cX11_leaves 164 = .ok (.lconst 0, 1) := by decide +kernel
theorem dX11_leaves_165 : decode cX11_leaves 165 = .ok (.lcmp, 1) := by decide +kernel
theorem dX11_leaves_166 : decode cX11_leaves 166 = .ok (.ifCond .ne 7, 3) := by decide +kernel
theorem dX11_leaves_169 : decode cX11_leaves 169 = .ok (.lconst 0, 1) := by decide +kernel
theorem dX11_leaves_170 : decode cX11_leaves 170 = .ok (.goto 38, 3) := by decide +kernel
theorem dX11_leaves_173 : decode cX11_leaves 173 = .ok (.lload 10, 2) := by decide +kernel
theorem dX11_leaves_175 : decode cX11_leaves 175 = .ok (.aload_n 0, 1) := by decide +kernel
theorem dX11_leaves_176 : decode cX11_leaves 176 = .ok (.iload 5, 2) := by decide +kernel
theorem dX11_leaves_178 : decode cX11_leaves 178 = .ok (.invokevirtual 315, 3) := by decide +kernel
theorem dX11_leaves_181 : decode cX11_leaves 181 = .ok (.lmul, 1) := by decide +kernel
theorem dX11_leaves_182 : decode cX11_leaves 182 = .ok (.lload 8, 2) := by decide +kernel
theorem dX11_leaves_184 : decode cX11_leaves 184 = .ok (.ldiv, 1) := by decide +kernel
theorem dX11_leaves_185 : decode cX11_leaves 185 = .ok (.lconst 0, 1) := by decide +kernel
theorem dX11_leaves_186 : decode cX11_leaves 186 = .ok (.ldc2_w 425, 3) := by decide +kernel
theorem dX11_leaves_189 : decode cX11_leaves 189 = .ok (.aload_n 0, 1) := by decide +kernel
theorem dX11_leaves_190 : decode cX11_leaves 190 = .ok (.getfield 9, 3) := by decide +kernel
theorem dX11_leaves_193 : decode cX11_leaves 193 = .ok (.bipush 34, 2) := by decide +kernel
theorem dX11_leaves_195 : decode cX11_leaves 195 = .ok (.iload 5, 2) := by decide +kernel
theorem dX11_leaves_197 : decode cX11_leaves 197 = .ok (.iadd, 1) := by decide +kernel
theorem dX11_leaves_198 : decode cX11_leaves 198 = .ok (.laload, 1) := by decide +kernel
theorem dX11_leaves_199 : decode cX11_leaves 199 = .ok (.lsub, 1) := by decide +kernel
theorem dX11_leaves_200 : decode cX11_leaves 200 = .ok (.invokestatic 313, 3) := by decide +kernel
theorem dX11_leaves_203 : decode cX11_leaves 203 = .ok (.lmul, 1) := by decide +kernel
theorem dX11_leaves_204 : decode cX11_leaves 204 = .ok (.ldc2_w 427, 3) := by decide +kernel
theorem dX11_leaves_207 : decode cX11_leaves 207 = .ok (.ldiv, 1) := by decide +kernel
theorem dX11_leaves_208 : decode cX11_leaves 208 = .ok (.lstore 12, 2) := by decide +kernel
theorem dX11_leaves_210 : decode cX11_leaves 210 = .ok (.aload_n 0, 1) := by decide +kernel
theorem dX11_leaves_211 : decode cX11_leaves 211 = .ok (.getfield 69, 3) := by decide +kernel
theorem dX11_leaves_214 : decode cX11_leaves 214 = .ok (.bipush 6, 2) := by decide +kernel
theorem dX11_leaves_216 : decode cX11_leaves 216 = .ok (.iload 5, 2) := by decide +kernel
theorem dX11_leaves_218 : decode cX11_leaves 218 = .ok (.imul, 1) := by decide +kernel
theorem dX11_leaves_219 : decode cX11_leaves 219 = .ok (.iconst 4, 1) := by decide +kernel
theorem dX11_leaves_220 : decode cX11_leaves 220 = .ok (.iadd, 1) := by decide +kernel
theorem dX11_leaves_221 : decode cX11_leaves 221 = .ok (.lload 12, 2) := by decide +kernel
theorem dX11_leaves_223 : decode cX11_leaves 223 = .ok (.lastore, 1) := by decide +kernel
theorem dX11_leaves_224 : decode cX11_leaves 224 = .ok (.lload_n 3, 1) := by decide +kernel
theorem dX11_leaves_225 : decode cX11_leaves 225 = .ok (.lload 12, 2) := by decide +kernel
theorem dX11_leaves_227 : decode cX11_leaves 227 = .ok (.ladd, 1) := by decide +kernel
theorem dX11_leaves_228 : decode cX11_leaves 228 = .ok (.lstore_n 3, 1) := by decide +kernel
theorem dX11_leaves_229 : decode cX11_leaves 229 = .ok (.aload_n 0, 1) := by decide +kernel
theorem dX11_leaves_230 : decode cX11_leaves 230 = .ok (.getfield 78, 3) := by decide +kernel
theorem dX11_leaves_233 : decode cX11_leaves 233 = .ok (.iload 5, 2) := by decide +kernel
theorem dX11_leaves_235 : decode cX11_leaves 235 = .ok (.iconst 1, 1) := by decide +kernel
theorem dX11_leaves_236 : decode cX11_leaves 236 = .ok (.bastore, 1) := by decide +kernel
theorem dX11_leaves_237 : decode cX11_leaves 237 = .ok (.iinc 5 1, 3) := by decide +kernel
theorem dX11_leaves_240 : decode cX11_leaves 240 = .ok (.goto (-211), 3) := by decide +kernel
theorem dX11_leaves_243 : decode cX11_leaves 243 = .ok (.lload_n 3, 1) := by decide +kernel
theorem dX11_leaves_244 : decode cX11_leaves 244 = .ok (.lreturn, 1) := by decide +kernel
theorem dX11_membersThere_0 : decode cX11_membersThere 0 = .ok (.iconst 0, 1) := by decide +kernel
theorem dX11_membersThere_1 : decode cX11_membersThere 1 = .ok (.istore_n 1, 1) := by decide +kernel
theorem dX11_membersThere_2 : decode cX11_membersThere 2 = .ok (.iconst 0, 1) := by decide +kernel
theorem dX11_membersThere_3 : decode cX11_membersThere 3 = .ok (.istore_n 2, 1) := by decide +kernel
theorem dX11_membersThere_4 : decode cX11_membersThere 4 = .ok (.iload_n 2, 1) := by decide +kernel
theorem dX11_membersThere_5 : decode cX11_membersThere 5 = .ok (.i2l, 1) := by decide +kernel
theorem dX11_membersThere_6 : decode cX11_membersThere 6 = .ok (.aload_n 0, 1) := by decide +kernel
theorem dX11_membersThere_7 : decode cX11_membersThere 7 = .ok (.getfield 9, 3) := by decide +kernel
theorem dX11_membersThere_10 : decode cX11_membersThere 10 = .ok (.iconst 5, 1) := by decide +kernel
theorem dX11_membersThere_11 : decode cX11_membersThere 11 = .ok (.laload, 1) := by decide +kernel
theorem dX11_membersThere_12 : decode cX11_membersThere 12 = .ok (.lcmp, 1) := by decide +kernel
theorem dX11_membersThere_13 : decode cX11_membersThere 13 = .ok (.ifCond .ge 20, 3) := by decide +kernel
theorem dX11_membersThere_16 : decode cX11_membersThere 16 = .ok (.iload_n 1, 1) := by decide +kernel
theorem dX11_membersThere_17 : decode cX11_membersThere 17 = .ok (.aload_n 0, 1) := by decide +kernel
theorem dX11_membersThere_18 : decode cX11_membersThere 18 = .ok (.iload_n 2, 1) := by decide +kernel
theorem dX11_membersThere_19 : decode cX11_membersThere 19 = .ok (.invokevirtual 331, 3) := by decide +kernel
theorem dX11_membersThere_22 : decode cX11_membersThere 22 = .ok (.invokestatic 391, 3) := by decide +kernel
theorem dX11_membersThere_25 : decode cX11_membersThere 25 = .ok (.iadd, 1) := by decide +kernel
theorem dX11_membersThere_26 : decode cX11_membersThere 26 = .ok (.istore_n 1, 1) := by decide +kernel
theorem dX11_membersThere_27 : decode cX11_membersThere 27 = .ok (.iinc 2 1, 3) := by decide +kernel
theorem dX11_membersThere_30 : decode cX11_membersThere 30 = .ok (.goto (-26), 3) := by decide +kernel
theorem dX11_membersThere_33 : decode cX11_membersThere 33 = .ok (.iload_n 1, 1) := by decide +kernel
theorem dX11_membersThere_34 : decode cX11_membersThere 34 = .ok (.ireturn, 1) := by decide +kernel
theorem dX11_close_0 : decode cX11_close 0 = .ok (.aload_n 0, 1) := by decide +kernel
theorem dX11_close_1 : decode cX11_close 1 = .ok (.invokevirtual 429, 3) := by decide +kernel
theorem dX11_close_4 : decode cX11_close 4 = .ok (.ifCond .ne 7, 3) := by decide +kernel
theorem dX11_close_7 : decode cX11_close 7 = .ok (.ldc2_w 402, 3) := by decide +kernel
theorem dX11_close_10 : decode cX11_close 10 = .ok (.lreturn, 1) := by decide +kernel
theorem dX11_close_11 : decode cX11_close 11 = .ok (.aload_n 0, 1) := by decide +kernel
theorem dX11_close_12 : decode cX11_close 12 = .ok (.invokevirtual 319, 3) := by decide +kernel
theorem dX11_close_15 : decode cX11_close 15 = .ok (.aload_n 0, 1) := by decide +kernel
theorem dX11_close_16 : decode cX11_close 16 = .ok (.invokevirtual 432, 3) := by decide +kernel
theorem dX11_close_19 : decode cX11_close 19 = .ok (.iconst 0, 1) := by decide +kernel
theorem dX11_close_20 : decode cX11_close 20 = .ok (.istore_n 1, 1) := by decide +kernel
theorem dX11_close_21 : decode cX11_close 21 = .ok (.iload_n 1, 1) := by decide +kernel
theorem dX11_close_22 : decode cX11_close 22 = .ok (.bipush 72, 2) := by decide +kernel
theorem dX11_close_24 : decode cX11_close 24 = .ok (.if_icmp .ge 24, 3) := by decide +kernel
theorem dX11_close_27 : decode cX11_close 27 = .ok (.aload_n 0, 1) := by decide +kernel
theorem dX11_close_28 : decode cX11_close 28 = .ok (.getfield 9, 3) := by decide +kernel
theorem dX11_close_31 : decode cX11_close 31 = .ok (.bipush 126, 2) := by decide +kernel
theorem dX11_close_33 : decode cX11_close 33 = .ok (.iload_n 1, 1) := by decide +kernel
theorem dX11_close_34 : decode cX11_close 34 = .ok (.iadd, 1) := by decide +kernel
theorem dX11_close_35 : decode cX11_close 35 = .ok (.aload_n 0, 1) := by decide +kernel
theorem dX11_close_36 : decode cX11_close 36 = .ok (.getfield 69, 3) := by decide +kernel
theorem dX11_close_39 : decode cX11_close 39 = .ok (.iload_n 1, 1) := by decide +kernel
theorem dX11_close_40 : decode cX11_close 40 = .ok (.laload, 1) := by decide +kernel
theorem dX11_close_41 : decode cX11_close 41 = .ok (.lastore, 1) := by decide +kernel
theorem dX11_close_42 : decode cX11_close 42 = .ok (.iinc 1 1, 3) := by decide +kernel
theorem dX11_close_45 : decode cX11_close 45 = .ok (.goto (-24), 3) := by decide +kernel
theorem dX11_close_48 : decode cX11_close 48 = .ok (.iconst 0, 1) := by decide +kernel
theorem dX11_close_49 : decode cX11_close 49 = .ok (.istore_n 1, 1) := by decide +kernel
theorem dX11_close_50 : decode cX11_close 50 = .ok (.iload_n 1, 1) := by decide +kernel
theorem dX11_close_51 : decode cX11_close 51 = .ok (.bipush 12, 2) := by decide +kernel
theorem dX11_close_53 : decode cX11_close 53 = .ok (.if_icmp .ge 119, 3) := by decide +kernel
theorem dX11_close_56 : decode cX11_close 56 = .ok (.iload_n 1, 1) := by decide +kernel
theorem dX11_close_57 : decode cX11_close 57 = .ok (.i2l, 1) := by decide +kernel
theorem dX11_close_58 : decode cX11_close 58 = .ok (.aload_n 0, 1) := by decide +kernel
theorem dX11_close_59 : decode cX11_close 59 = .ok (.getfield 9, 3) := by decide +kernel
theorem dX11_close_62 : decode cX11_close 62 = .ok (.iconst 5, 1) := by decide +kernel
theorem dX11_close_63 : decode cX11_close 63 = .ok (.laload, 1) := by decide +kernel
theorem dX11_close_64 : decode cX11_close 64 = .ok (.lcmp, 1) := by decide +kernel
theorem dX11_close_65 : decode cX11_close 65 = .ok (.ifCond .ge 15, 3) := by decide +kernel
theorem dX11_close_68 : decode cX11_close 68 = .ok (.aload_n 0, 1) := by decide +kernel
theorem dX11_close_69 : decode cX11_close 69 = .ok (.iload_n 1, 1) := by decide +kernel
theorem dX11_close_70 : decode cX11_close 70 = .ok (.invokevirtual 331, 3) := by decide +kernel
theorem dX11_close_73 : decode cX11_close 73 = .ok (.ifCond .eq 7, 3) := by decide +kernel
theorem dX11_close_76 : decode cX11_close 76 = .ok (.iconst 1, 1) := by decide +kernel
theorem dX11_close_77 : decode cX11_close 77 = .ok (.goto 4, 3) := by decide +kernel
theorem dX11_close_80 : decode cX11_close 80 = .ok (.iconst 0, 1) := by decide +kernel
theorem dX11_close_81 : decode cX11_close 81 = .ok (.istore_n 2, 1) := by decide +kernel
theorem dX11_close_82 : decode cX11_close 82 = .ok (.aload_n 0, 1) := by decide +kernel
theorem dX11_close_83 : decode cX11_close 83 = .ok (.getfield 9, 3) := by decide +kernel
theorem dX11_close_86 : decode cX11_close 86 = .ok (.sipush 198, 3) := by decide +kernel
theorem dX11_close_89 : decode cX11_close 89 = .ok (.iload_n 1, 1) := by decide +kernel
theorem dX11_close_90 : decode cX11_close 90 = .ok (.iadd, 1) := by decide +kernel
theorem dX11_close_91 : decode cX11_close 91 = .ok (.iload_n 2, 1) := by decide +kernel
theorem dX11_close_92 : decode cX11_close 92 = .ok (.invokestatic 391, 3) := by decide +kernel
theorem dX11_close_95 : decode cX11_close 95 = .ok (.i2l, 1) := by decide +kernel
theorem dX11_close_96 : decode cX11_close 96 = .ok (.lastore, 1) := by decide +kernel
theorem dX11_close_97 : decode cX11_close 97 = .ok (.iload_n 2, 1) := by decide +kernel
theorem dX11_close_98 : decode cX11_close 98 = .ok (.ifCond .eq 30, 3) := by decide +kernel
theorem dX11_close_101 : decode cX11_close 101 = .ok (.aload_n 0, 1) := by decide +kernel
theorem dX11_close_102 : decode cX11_close 102 = .ok (.getfield 9, 3) := by decide +kernel
theorem dX11_close_105 : decode cX11_close 105 = .ok (.bipush 22, 2) := by decide +kernel
theorem dX11_close_107 : decode cX11_close 107 = .ok (.iload_n 1, 1) := by decide +kernel
theorem dX11_close_108 : decode cX11_close 108 = .ok (.iadd, 1) := by decide +kernel
theorem dX11_close_109 : decode cX11_close 109 = .ok (.laload, 1) := by decide +kernel
theorem dX11_close_110 : decode cX11_close 110 = .ok (.lconst 0, 1) := by decide +kernel
theorem dX11_close_111 : decode cX11_close 111 = .ok (.lcmp, 1) := by decide +kernel
theorem dX11_close_112 : decode cX11_close 112 = .ok (.ifCond .ne 16, 3) := by decide +kernel
theorem dX11_close_115 : decode cX11_close 115 = .ok (.aload_n 0, 1) := by decide +kernel
theorem dX11_close_116 : decode cX11_close 116 = .ok (.getfield 9, 3) := by decide +kernel
theorem dX11_close_119 : decode cX11_close 119 = .ok (.bipush 34, 2) := by decide +kernel
theorem dX11_close_121 : decode cX11_close 121 = .ok (.iload_n 1, 1) := by decide +kernel
theorem dX11_close_122 : decode cX11_close 122 = .ok (.iadd, 1) := by decide +kernel
theorem dX11_close_123 : decode cX11_close 123 = .ok (.dup2, 1) := by decide +kernel
theorem dX11_close_124 : decode cX11_close 124 = .ok (.laload, 1) := by decide +kernel
theorem dX11_close_125 : decode cX11_close 125 = .ok (.lconst 1, 1) := by decide +kernel
theorem dX11_close_126 : decode cX11_close 126 = .ok (.ladd, 1) := by decide +kernel
theorem dX11_close_127 : decode cX11_close 127 = .ok (.lastore, 1) := by decide +kernel
theorem dX11_close_128 : decode cX11_close 128 = .ok (.iload_n 2, 1) := by decide +kernel
theorem dX11_close_129 : decode cX11_close 129 = .ok (.ifCond .eq 27, 3) := by decide +kernel
theorem dX11_close_132 : decode cX11_close 132 = .ok (.aload_n 0, 1) := by decide +kernel
theorem dX11_close_133 : decode cX11_close 133 = .ok (.getfield 9, 3) := by decide +kernel
theorem dX11_close_136 : decode cX11_close 136 = .ok (.bipush 22, 2) := by decide +kernel
theorem dX11_close_138 : decode cX11_close 138 = .ok (.iload_n 1, 1) := by decide +kernel
theorem dX11_close_139 : decode cX11_close 139 = .ok (.iadd, 1) := by decide +kernel
theorem dX11_close_140 : decode cX11_close 140 = .ok (.laload, 1) := by decide +kernel
theorem dX11_close_141 : decode cX11_close 141 = .ok (.lconst 1, 1) := by decide +kernel
theorem dX11_close_142 : decode cX11_close 142 = .ok (.lcmp, 1) := by decide +kernel
theorem dX11_close_143 : decode cX11_close 143 = .ok (.ifCond .ne 13, 3) := by decide +kernel
theorem dX11_close_146 : decode cX11_close 146 = .ok (.aload_n 0, 1) := by decide +kernel
theorem dX11_close_147 : decode cX11_close 147 = .ok (.getfield 9, 3) := by decide +kernel
theorem dX11_close_150 : decode cX11_close 150 = .ok (.bipush 10, 2) := by decide +kernel
theorem dX11_close_152 : decode cX11_close 152 = .ok (.iload_n 1, 1) := by decide +kernel
theorem dX11_close_153 : decode cX11_close 153 = .ok (.iadd, 1) := by decide +kernel
theorem dX11_close_154 : decode cX11_close 154 = .ok (.lconst 0, 1) := by decide +kernel
theorem dX11_close_155 : decode cX11_close 155 = .ok (.lastore, 1) := by decide +kernel
theorem dX11_close_156 : decode cX11_close 156 = .ok (.aload_n 0, 1) := by decide +kernel
theorem dX11_close_157 : decode cX11_close 157 = .ok (.getfield 9, 3) := by decide +kernel
theorem dX11_close_160 : decode cX11_close 160 = .ok (.bipush 22, 2) := by decide +kernel
theorem dX11_close_162 : decode cX11_close 162 = .ok (.iload_n 1, 1) := by decide +kernel
theorem dX11_close_163 : decode cX11_close 163 = .ok (.iadd, 1) := by decide +kernel
theorem dX11_close_164 : decode cX11_close 164 = .ok (.lconst 0, 1) := by decide +kernel
theorem dX11_close_165 : decode cX11_close 165 = .ok (.lastore, 1) := by decide +kernel
theorem dX11_close_166 : decode cX11_close 166 = .ok (.iinc 1 1, 3) := by decide +kernel
theorem dX11_close_169 : decode cX11_close 169 = .ok (.goto (-119), 3) := by decide +kernel
theorem dX11_close_172 : decode cX11_close 172 = .ok (.aload_n 0, 1) := by decide +kernel
theorem dX11_close_173 : decode cX11_close 173 = .ok (.getfield 9, 3) := by decide +kernel
theorem dX11_close_176 : decode cX11_close 176 = .ok (.bipush 8, 2) := by decide +kernel
theorem dX11_close_178 : decode cX11_close 178 = .ok (.lconst 1, 1) := by decide +kernel
theorem dX11_close_179 : decode cX11_close 179 = .ok (.lastore, 1) := by decide +kernel
theorem dX11_close_180 : decode cX11_close 180 = .ok (.aload_n 0, 1) := by decide +kernel
theorem dX11_close_181 : decode cX11_close 181 = .ok (.getfield 9, 3) := by decide +kernel
theorem dX11_close_184 : decode cX11_close 184 = .ok (.iconst 1, 1) := by decide +kernel
theorem dX11_close_185 : decode cX11_close 185 = .ok (.aload_n 0, 1) := by decide +kernel
theorem dX11_close_186 : decode cX11_close 186 = .ok (.getfield 75, 3) := by decide +kernel
theorem dX11_close_189 : decode cX11_close 189 = .ok (.bipush 10, 2) := by decide +kernel
theorem dX11_close_191 : decode cX11_close 191 = .ok (.laload, 1) := by decide +kernel
theorem dX11_close_192 : decode cX11_close 192 = .ok (.lastore, 1) := by decide +kernel
theorem dX11_close_193 : decode cX11_close 193 = .ok (.aload_n 0, 1) := by decide +kernel
theorem dX11_close_194 : decode cX11_close 194 = .ok (.getfield 9, 3) := by decide +kernel
theorem dX11_close_197 : decode cX11_close 197 = .ok (.bipush 7, 2) := by decide +kernel
theorem dX11_close_199 : decode cX11_close 199 = .ok (.lconst 0, 1) := by decide +kernel
theorem dX11_close_200 : decode cX11_close 200 = .ok (.lastore, 1) := by decide +kernel
theorem dX11_close_201 : decode cX11_close 201 = .ok (.aload_n 0, 1) := by decide +kernel
theorem dX11_close_202 : decode cX11_close 202 = .ok (.getfield 9, 3) := by decide +kernel
theorem dX11_close_205 : decode cX11_close 205 = .ok (.iconst 4, 1) := by decide +kernel
theorem dX11_close_206 : decode cX11_close 206 = .ok (.dup2, 1) := by decide +kernel
theorem dX11_close_207 : decode cX11_close 207 = .ok (.laload, 1) := by decide +kernel
theorem dX11_close_208 : decode cX11_close 208 = .ok (.lconst 1, 1) := by decide +kernel
theorem dX11_close_209 : decode cX11_close 209 = .ok (.ladd, 1) := by decide +kernel
theorem dX11_close_210 : decode cX11_close 210 = .ok (.lastore, 1) := by decide +kernel
theorem dX11_close_211 : decode cX11_close 211 = .ok (.aload_n 0, 1) := by decide +kernel
theorem dX11_close_212 : decode cX11_close 212 = .ok (.getfield 75, 3) := by decide +kernel
theorem dX11_close_215 : decode cX11_close 215 = .ok (.iconst 0, 1) := by decide +kernel
theorem dX11_close_216 : decode cX11_close 216 = .ok (.laload, 1) := by decide +kernel
theorem dX11_close_217 : decode cX11_close 217 = .ok (.lreturn, 1) := by decide +kernel
theorem dX11_member_0 : decode cX11_member 0 = .ok (.aload_n 0, 1) := by decide +kernel
theorem dX11_member_1 : decode cX11_member 1 = .ok (.iload_n 1, 1) := by decide +kernel
theorem dX11_member_2 : decode cX11_member 2 = .ok (.invokevirtual 328, 3) := by decide +kernel
theorem dX11_member_5 : decode cX11_member 5 = .ok (.ifCond .ne 7, 3) := by decide +kernel
theorem dX11_member_8 : decode cX11_member 8 = .ok (.ldc2_w 402, 3) := by decide +kernel
theorem dX11_member_11 : decode cX11_member 11 = .ok (.lreturn, 1) := by decide +kernel
theorem dX11_member_12 : decode cX11_member 12 = .ok (.aload_n 0, 1) := by decide +kernel
theorem dX11_member_13 : decode cX11_member 13 = .ok (.iload_n 1, 1) := by decide +kernel
theorem dX11_member_14 : decode cX11_member 14 = .ok (.invokevirtual 331, 3) := by decide +kernel
theorem dX11_member_17 : decode cX11_member 17 = .ok (.istore_n 3, 1) := by decide +kernel
theorem dX11_member_18 : decode cX11_member 18 = .ok (.iconst 0, 1) := by decide +kernel
theorem dX11_member_19 : decode cX11_member 19 = .ok (.istore 4, 2) := by decide +kernel
theorem dX11_member_21 : decode cX11_member 21 = .ok (.iconst 0, 1) := by decide +kernel
theorem dX11_member_22 : decode cX11_member 22 = .ok (.istore 5, 2) := by decide +kernel
theorem dX11_member_24 : decode cX11_member 24 = .ok (.iload 5, 2) := by decide +kernel
theorem dX11_member_26 : decode cX11_member 26 = .ok (.i2l, 1) := by decide +kernel
theorem dX11_member_27 : decode cX11_member 27 = .ok (.aload_n 0, 1) := by decide +kernel
theorem dX11_member_28 : decode cX11_member 28 = .ok (.getfield 9, 3) := by decide +kernel
theorem dX11_member_31 : decode cX11_member 31 = .ok (.bipush 6, 2) := by decide +kernel
theorem dX11_member_33 : decode cX11_member 33 = .ok (.laload, 1) := by decide +kernel
theorem dX11_member_34 : decode cX11_member 34 = .ok (.lcmp, 1) := by decide +kernel
theorem dX11_member_35 : decode cX11_member 35 = .ok (.ifCond .ge 37, 3) := by decide +kernel
theorem dX11_member_38 : decode cX11_member 38 = .ok (.iload 4, 2) := by decide +kernel
theorem dX11_member_40 : decode cX11_member 40 = .ok (.iload_n 3, 1) := by decide +kernel
theorem dX11_member_41 : decode cX11_member 41 = .ok (.ifCond .eq 18, 3) := by decide +kernel
theorem dX11_member_44 : decode cX11_member 44 = .ok (.aload_n 0, 1) := by decide +kernel
theorem dX11_member_45 : decode cX11_member 45 = .ok (.iload 5, 2) := by decide +kernel
theorem dX11_member_47 : decode cX11_member 47 = .ok (.iconst 0, 1) := by decide +kernel
theorem dX11_member_48 : decode cX11_member 48 = .ok (.invokevirtual 334, 3) := by decide +kernel
theorem dX11_member_51 : decode cX11_member 51 = .ok (.iload_n 1, 1) := by decide +kernel
theorem dX11_member_52 : decode cX11_member 52 = .ok (.if_icmp .ne 7, 3) := by decide +kernel
theorem dX11_member_55 : decode cX11_member 55 = .ok (.iconst 1, 1) := by decide +kernel
theorem dX11_member_56 : decode cX11_member 56 = .ok (.goto 4, 3) := by decide +kernel
theorem dX11_member_59 : decode cX11_member 59 = .ok (.iconst 0, 1) := by decide +kernel
theorem dX11_member_60 : decode cX11_member 60 = .ok (.invokestatic 391, 3) := by decide +kernel
theorem dX11_member_63 : decode cX11_member 63 = .ok (.iadd, 1) := by decide +kernel
theorem dX11_member_64 : decode cX11_member 64 = .ok (.istore 4, 2) := by decide +kernel
theorem dX11_member_66 : decode cX11_member 66 = .ok (.iinc 5 1, 3) := by decide +kernel
theorem dX11_member_69 : decode cX11_member 69 = .ok (.goto (-45), 3) := by decide +kernel
theorem dX11_member_72 : decode cX11_member 72 = .ok (.iload_n 2, 1) := by decide +kernel
theorem dX11_member_73 : decode cX11_member 73 = .ok (.tableswitch 101 0 7 #[47, 53, 63, 73, 77, 83, 89, 95], 47) := by decide +kernel
theorem dX11_member_120 : decode cX11_member 120 = .ok (.iload_n 3, 1) := by decide +kernel
theorem dX11_member_121 : decode cX11_member 121 = .ok (.invokestatic 391, 3) := by decide +kernel
theorem dX11_member_124 : decode cX11_member 124 = .ok (.i2l, 1) := by decide +kernel
theorem dX11_member_125 : decode cX11_member 125 = .ok (.lreturn, 1) := by decide +kernel
theorem dX11_member_126 : decode cX11_member 126 = .ok (.aload_n 0, 1) := by decide +kernel
theorem dX11_member_127 : decode cX11_member 127 = .ok (.getfield 9, 3) := by decide +kernel
theorem dX11_member_130 : decode cX11_member 130 = .ok (.bipush 22, 2) := by decide +kernel
theorem dX11_member_132 : decode cX11_member 132 = .ok (.iload_n 1, 1) := by decide +kernel
theorem dX11_member_133 : decode cX11_member 133 = .ok (.iadd, 1) := by decide +kernel
theorem dX11_member_134 : decode cX11_member 134 = .ok (.laload, 1) := by decide +kernel
theorem dX11_member_135 : decode cX11_member 135 = .ok (.lreturn, 1) := by decide +kernel
theorem dX11_member_136 : decode cX11_member 136 = .ok (.aload_n 0, 1) := by decide +kernel
theorem dX11_member_137 : decode cX11_member 137 = .ok (.getfield 9, 3) := by decide +kernel
theorem dX11_member_140 : decode cX11_member 140 = .ok (.bipush 34, 2) := by decide +kernel
theorem dX11_member_142 : decode cX11_member 142 = .ok (.iload_n 1, 1) := by decide +kernel
theorem dX11_member_143 : decode cX11_member 143 = .ok (.iadd, 1) := by decide +kernel
theorem dX11_member_144 : decode cX11_member 144 = .ok (.laload, 1) := by decide +kernel
theorem dX11_member_145 : decode cX11_member 145 = .ok (.lreturn, 1) := by decide +kernel
theorem dX11_member_146 : decode cX11_member 146 = .ok (.iload 4, 2) := by decide +kernel
theorem dX11_member_148 : decode cX11_member 148 = .ok (.i2l, 1) := by decide +kernel
theorem dX11_member_149 : decode cX11_member 149 = .ok (.lreturn, 1) := by decide +kernel
theorem dX11_member_150 : decode cX11_member 150 = .ok (.aload_n 0, 1) := by decide +kernel
theorem dX11_member_151 : decode cX11_member 151 = .ok (.iload_n 1, 1) := by decide +kernel
theorem dX11_member_152 : decode cX11_member 152 = .ok (.invokevirtual 344, 3) := by decide +kernel
theorem dX11_member_155 : decode cX11_member 155 = .ok (.lreturn, 1) := by decide +kernel
theorem dX11_member_156 : decode cX11_member 156 = .ok (.aload_n 0, 1) := by decide +kernel
theorem dX11_member_157 : decode cX11_member 157 = .ok (.iload_n 1, 1) := by decide +kernel
theorem dX11_member_158 : decode cX11_member 158 = .ok (.invokevirtual 315, 3) := by decide +kernel
theorem dX11_member_161 : decode cX11_member 161 = .ok (.lreturn, 1) := by decide +kernel
theorem dX11_member_162 : decode cX11_member 162 = .ok (.aload_n 0, 1) := by decide +kernel
theorem dX11_member_163 : decode cX11_member 163 = .ok (.iload_n 1, 1) := by decide +kernel
theorem dX11_member_164 : decode cX11_member 164 = .ok (.invokevirtual 404, 3) := by decide +kernel
theorem dX11_member_167 : decode cX11_member 167 = .ok (.lreturn, 1) := by decide +kernel
theorem dX11_member_168 : decode cX11_member 168 = .ok (.aload_n 0, 1) := by decide +kernel
theorem dX11_member_169 : decode cX11_member 169 = .ok (.iload_n 1, 1) := by decide +kernel
theorem dX11_member_170 : decode cX11_member 170 = .ok (.invokevirtual 373, 3) := by decide +kernel
theorem dX11_member_173 : decode cX11_member 173 = .ok (.lreturn, 1) := by decide +kernel
theorem dX11_member_174 : decode cX11_member 174 = .ok (.ldc2_w 402, 3) := by decide +kernel
theorem dX11_member_177 : decode cX11_member 177 = .ok (.lreturn, 1) := by decide +kernel
theorem dX11_field_0 : decode cX11_field 0 = .ok (.iload_n 1, 1) := by decide +kernel
theorem dX11_field_1 : decode cX11_field 1 = .ok (.i2l, 1) := by decide +kernel
theorem dX11_field_2 : decode cX11_field 2 = .ok (.lconst 0, 1) := by decide +kernel
theorem dX11_field_3 : decode cX11_field 3 = .ok (.aload_n 0, 1) := by decide +kernel
theorem dX11_field_4 : decode cX11_field 4 = .ok (.getfield 9, 3) := by decide +kernel
theorem dX11_field_7 : decode cX11_field 7 = .ok (.bipush 6, 2) := by decide +kernel
theorem dX11_field_9 : decode cX11_field 9 = .ok (.laload, 1) := by decide +kernel
theorem dX11_field_10 : decode cX11_field 10 = .ok (.lconst 1, 1) := by decide +kernel
theorem dX11_field_11 : decode cX11_field 11 = .ok (.lsub, 1) := by decide +kernel
theorem dX11_field_12 : decode cX11_field 12 = .ok (.invokestatic 126, 3) := by decide +kernel
theorem dX11_field_15 : decode cX11_field 15 = .ok (.ifCond .eq 15, 3) := by decide +kernel
theorem dX11_field_18 : decode cX11_field 18 = .ok (.iload_n 2, 1) := by decide +kernel
theorem dX11_field_19 : decode cX11_field 19 = .ok (.i2l, 1) := by decide +kernel
theorem dX11_field_20 : decode cX11_field 20 = .ok (.lconst 0, 1) := by decide +kernel
theorem dX11_field_21 : decode cX11_field 21 = .ok (.ldc2_w 435, 3) := by decide +kernel
theorem dX11_field_24 : decode cX11_field 24 = .ok (.invokestatic 126, 3) := by decide +kernel
theorem dX11_field_27 : decode cX11_field 27 = .ok (.ifCond .ne 7, 3) := by decide +kernel
theorem dX11_field_30 : decode cX11_field 30 = .ok (.ldc2_w 402, 3) := by decide +kernel
theorem dX11_field_33 : decode cX11_field 33 = .ok (.lreturn, 1) := by decide +kernel
theorem dX11_field_34 : decode cX11_field 34 = .ok (.iload_n 2, 1) := by decide +kernel
theorem dX11_field_35 : decode cX11_field 35 = .ok (.bipush 6, 2) := by decide +kernel
theorem dX11_field_37 : decode cX11_field 37 = .ok (.if_icmp .ge 11, 3) := by decide +kernel
theorem dX11_field_40 : decode cX11_field 40 = .ok (.aload_n 0, 1) := by decide +kernel
theorem dX11_field_41 : decode cX11_field 41 = .ok (.iload_n 1, 1) := by decide +kernel
theorem dX11_field_42 : decode cX11_field 42 = .ok (.iload_n 2, 1) := by decide +kernel
theorem dX11_field_43 : decode cX11_field 43 = .ok (.invokevirtual 334, 3) := by decide +kernel
theorem dX11_field_46 : decode cX11_field 46 = .ok (.i2l, 1) := by decide +kernel
theorem dX11_field_47 : decode cX11_field 47 = .ok (.lreturn, 1) := by decide +kernel
theorem dX11_field_48 : decode cX11_field 48 = .ok (.iload_n 2, 1) := by decide +kernel
theorem dX11_field_49 : decode cX11_field 49 = .ok (.bipush 6, 2) := by decide +kernel
theorem dX11_field_51 : decode cX11_field 51 = .ok (.if_icmp .ne 13, 3) := by decide +kernel
theorem dX11_field_54 : decode cX11_field 54 = .ok (.aload_n 0, 1) := by decide +kernel
theorem dX11_field_55 : decode cX11_field 55 = .ok (.iload_n 1, 1) := by decide +kernel
theorem dX11_field_56 : decode cX11_field 56 = .ok (.invokevirtual 388, 3) := by decide +kernel
theorem dX11_field_59 : decode cX11_field 59 = .ok (.invokestatic 391, 3) := by decide +kernel
theorem dX11_field_62 : decode cX11_field 62 = .ok (.i2l, 1) := by decide +kernel
theorem dX11_field_63 : decode cX11_field 63 = .ok (.lreturn, 1) := by decide +kernel
theorem dX11_field_64 : decode cX11_field 64 = .ok (.aload_n 0, 1) := by decide +kernel
theorem dX11_field_65 : decode cX11_field 65 = .ok (.iload_n 1, 1) := by decide +kernel
theorem dX11_field_66 : decode cX11_field 66 = .ok (.invokevirtual 388, 3) := by decide +kernel
theorem dX11_field_69 : decode cX11_field 69 = .ok (.ifCond .ne 5, 3) := by decide +kernel
theorem dX11_field_72 : decode cX11_field 72 = .ok (.lconst 0, 1) := by decide +kernel
theorem dX11_field_73 : decode cX11_field 73 = .ok (.lreturn, 1) := by decide +kernel
theorem dX11_field_74 : decode cX11_field 74 = .ok (.iload_n 2, 1) := by decide +kernel
theorem dX11_field_75 : decode cX11_field 75 = .ok (.bipush 7, 2) := by decide +kernel
theorem dX11_field_77 : decode cX11_field 77 = .ok (.if_icmp .ne 11, 3) := by decide +kernel
theorem dX11_field_80 : decode cX11_field 80 = .ok (.aload_n 0, 1) := by decide +kernel
theorem dX11_field_81 : decode cX11_field 81 = .ok (.iload_n 1, 1) := by decide +kernel
theorem dX11_field_82 : decode cX11_field 82 = .ok (.invokevirtual 367, 3) := by decide +kernel
theorem dX11_field_85 : decode cX11_field 85 = .ok (.goto 32, 3) := by decide +kernel
theorem dX11_field_88 : decode cX11_field 88 = .ok (.iload_n 2, 1) := by decide +kernel
theorem dX11_field_89 : decode cX11_field 89 = .ok (.bipush 8, 2) := by decide +kernel
theorem dX11_field_91 : decode cX11_field 91 = .ok (.if_icmp .ne 16, 3) := by decide +kernel
theorem dX11_field_94 : decode cX11_field 94 = .ok (.aload_n 0, 1) := by decide +kernel
theorem dX11_field_95 : decode cX11_field 95 = .ok (.iload_n 1, 1) := by decide +kernel
theorem dX11_field_96 : decode cX11_field 96 = .ok (.aload_n 0, 1) := by decide +kernel
theorem dX11_field_97 : decode cX11_field 97 = .ok (.iload_n 1, 1) := by decide +kernel
theorem dX11_field_98 : decode cX11_field 98 = .ok (.invokevirtual 367, 3) := by decide +kernel
theorem dX11_field_101 : decode cX11_field 101 = .ok (.invokevirtual 363, 3) := by decide +kernel
theorem dX11_field_104 : decode cX11_field 104 = .ok (.goto 13, 3) := by decide +kernel
theorem dX11_field_107 : decode cX11_field 107 = .ok (.aload_n 0, 1) := by decide +kernel
theorem dX11_field_108 : decode cX11_field 108 = .ok (.iload_n 1, 1) := by decide +kernel
theorem dX11_field_109 : decode cX11_field 109 = .ok (.aload_n 0, 1) := by decide +kernel
theorem dX11_field_110 : decode cX11_field 110 = .ok (.iload_n 1, 1) := by decide +kernel
theorem dX11_field_111 : decode cX11_field 111 = .ok (.invokevirtual 367, 3) := by decide +kernel
theorem dX11_field_114 : decode cX11_field 114 = .ok (.invokevirtual 370, 3) := by decide +kernel
theorem dX11_field_117 : decode cX11_field 117 = .ok (.lreturn, 1) := by decide +kernel
theorem dX11_hazard_0 : decode cX11_hazard 0 = .ok (.iload_n 1, 1) := by decide +kernel
theorem dX11_hazard_1 : decode cX11_hazard 1 = .ok (.i2l, 1) := by decide +kernel
theorem dX11_hazard_2 : decode cX11_hazard 2 = .ok (.lconst 0, 1) := by decide +kernel
theorem dX11_hazard_3 : decode cX11_hazard 3 = .ok (.ldc2_w 376, 3) := by decide +kernel
theorem dX11_hazard_6 : decode cX11_hazard 6 = .ok (.invokestatic 126, 3) := by decide +kernel
theorem dX11_hazard_9 : decode cX11_hazard 9 = .ok (.ifCond .eq 29, 3) := by decide +kernel
theorem dX11_hazard_12 : decode cX11_hazard 12 = .ok (.iload_n 2, 1) := by decide +kernel
theorem dX11_hazard_13 : decode cX11_hazard 13 = .ok (.i2l, 1) := by decide +kernel
theorem dX11_hazard_14 : decode cX11_hazard 14 = .ok (.lconst 0, 1) := by decide +kernel
theorem dX11_hazard_15 : decode cX11_hazard 15 = .ok (.ldc2_w 376, 3) := by decide +kernel
theorem dX11_hazard_18 : decode cX11_hazard 18 = .ok (.invokestatic 126, 3) := by decide +kernel
theorem dX11_hazard_21 : decode cX11_hazard 21 = .ok (.ifCond .eq 17, 3) := by decide +kernel
theorem dX11_hazard_24 : decode cX11_hazard 24 = .ok (.aload_n 0, 1) := by decide +kernel
theorem dX11_hazard_25 : decode cX11_hazard 25 = .ok (.getfield 25, 3) := by decide +kernel
theorem dX11_hazard_28 : decode cX11_hazard 28 = .ok (.bipush 8, 2) := by decide +kernel
theorem dX11_hazard_30 : decode cX11_hazard 30 = .ok (.iload_n 2, 1) := by decide +kernel
theorem dX11_hazard_31 : decode cX11_hazard 31 = .ok (.imul, 1) := by decide +kernel
theorem dX11_hazard_32 : decode cX11_hazard 32 = .ok (.iload_n 1, 1) := by decide +kernel
theorem dX11_hazard_33 : decode cX11_hazard 33 = .ok (.iadd, 1) := by decide +kernel
theorem dX11_hazard_34 : decode cX11_hazard 34 = .ok (.iaload, 1) := by decide +kernel
theorem dX11_hazard_35 : decode cX11_hazard 35 = .ok (.goto 4, 3) := by decide +kernel
theorem dX11_hazard_38 : decode cX11_hazard 38 = .ok (.iconst (-1), 1) := by decide +kernel
theorem dX11_hazard_39 : decode cX11_hazard 39 = .ok (.ireturn, 1) := by decide +kernel
theorem dX11_now_0 : decode cX11_now 0 = .ok (.aload_n 0, 1) := by decide +kernel
theorem dX11_now_1 : decode cX11_now 1 = .ok (.invokevirtual 429, 3) := by decide +kernel
theorem dX11_now_4 : decode cX11_now 4 = .ok (.ifCond .eq 15, 3) := by decide +kernel
theorem dX11_now_7 : decode cX11_now 7 = .ok (.iload_n 1, 1) := by decide +kernel
theorem dX11_now_8 : decode cX11_now 8 = .ok (.i2l, 1) := by decide +kernel
theorem dX11_now_9 : decode cX11_now 9 = .ok (.lconst 0, 1) := by decide +kernel
theorem dX11_now_10 : decode cX11_now 10 = .ok (.ldc2_w 437, 3) := by decide +kernel
theorem dX11_now_13 : decode cX11_now 13 = .ok (.invokestatic 126, 3) := by decide +kernel
theorem dX11_now_16 : decode cX11_now 16 = .ok (.ifCond .ne 7, 3) := by decide +kernel
theorem dX11_now_19 : decode cX11_now 19 = .ok (.ldc2_w 402, 3) := by decide +kernel
theorem dX11_now_22 : decode cX11_now 22 = .ok (.lreturn, 1) := by decide +kernel
theorem dX11_now_23 : decode cX11_now 23 = .ok (.aload_n 0, 1) := by decide +kernel
theorem dX11_now_24 : decode cX11_now 24 = .ok (.invokevirtual 432, 3) := by decide +kernel
theorem dX11_now_27 : decode cX11_now 27 = .ok (.aload_n 0, 1) := by decide +kernel
theorem dX11_now_28 : decode cX11_now 28 = .ok (.getfield 75, 3) := by decide +kernel
theorem dX11_now_31 : decode cX11_now 31 = .ok (.iload_n 1, 1) := by decide +kernel
theorem dX11_now_32 : decode cX11_now 32 = .ok (.laload, 1) := by decide +kernel
theorem dX11_now_33 : decode cX11_now 33 = .ok (.lreturn, 1) := by decide +kernel
theorem dX11_mine_0 : decode cX11_mine 0 = .ok (.aload_n 0, 1) := by decide +kernel
theorem dX11_mine_1 : decode cX11_mine 1 = .ok (.iload_n 1, 1) := by decide +kernel
theorem dX11_mine_2 : decode cX11_mine 2 = .ok (.invokevirtual 395, 3) := by decide +kernel
theorem dX11_mine_5 : decode cX11_mine 5 = .ok (.ifCond .eq 15, 3) := by decide +kernel
theorem dX11_mine_8 : decode cX11_mine 8 = .ok (.iload_n 2, 1) := by decide +kernel
theorem dX11_mine_9 : decode cX11_mine 9 = .ok (.i2l, 1) := by decide +kernel
theorem dX11_mine_10 : decode cX11_mine 10 = .ok (.lconst 0, 1) := by decide +kernel
theorem dX11_mine_11 : decode cX11_mine 11 = .ok (.ldc2_w 427, 3) := by decide +kernel
theorem dX11_mine_14 : decode cX11_mine 14 = .ok (.invokestatic 126, 3) := by decide +kernel
theorem dX11_mine_17 : decode cX11_mine 17 = .ok (.ifCond .ne 7, 3) := by decide +kernel
theorem dX11_mine_20 : decode cX11_mine 20 = .ok (.ldc2_w 439, 3) := by decide +kernel
theorem dX11_mine_23 : decode cX11_mine 23 = .ok (.lreturn, 1) := by decide +kernel
theorem dX11_mine_24 : decode cX11_mine 24 = .ok (.aload_n 0, 1) := by decide +kernel
theorem dX11_mine_25 : decode cX11_mine 25 = .ok (.invokevirtual 432, 3) := by decide +kernel
theorem dX11_mine_28 : decode cX11_mine 28 = .ok (.aload_n 0, 1) := by decide +kernel
theorem dX11_mine_29 : decode cX11_mine 29 = .ok (.getfield 69, 3) := by decide +kernel
theorem dX11_mine_32 : decode cX11_mine 32 = .ok (.bipush 6, 2) := by decide +kernel
theorem dX11_mine_34 : decode cX11_mine 34 = .ok (.iload_n 1, 1) := by decide +kernel
theorem dX11_mine_35 : decode cX11_mine 35 = .ok (.imul, 1) := by decide +kernel
theorem dX11_mine_36 : decode cX11_mine 36 = .ok (.iload_n 2, 1) := by decide +kernel
theorem dX11_mine_37 : decode cX11_mine 37 = .ok (.iadd, 1) := by decide +kernel
theorem dX11_mine_38 : decode cX11_mine 38 = .ok (.laload, 1) := by decide +kernel
theorem dX11_mine_39 : decode cX11_mine 39 = .ok (.lreturn, 1) := by decide +kernel
theorem dX11_then_0 : decode cX11_then 0 = .ok (.aload_n 0, 1) := by decide +kernel
theorem dX11_then_1 : decode cX11_then 1 = .ok (.getfield 9, 3) := by decide +kernel
theorem dX11_then_4 : decode cX11_then 4 = .ok (.bipush 8, 2) := by decide +kernel
theorem dX11_then_6 : decode cX11_then 6 = .ok (.laload, 1) := by decide +kernel
theorem dX11_then_7 : decode cX11_then 7 = .ok (.lconst 1, 1) := by decide +kernel
theorem dX11_then_8 : decode cX11_then 8 = .ok (.lcmp, 1) := by decide +kernel
theorem dX11_then_9 : decode cX11_then 9 = .ok (.ifCond .ne 59, 3) := by decide +kernel
theorem dX11_then_12 : decode cX11_then 12 = .ok (.iload_n 1, 1) := by decide +kernel
theorem dX11_then_13 : decode cX11_then 13 = .ok (.i2l, 1) := by decide +kernel
theorem dX11_then_14 : decode cX11_then 14 = .ok (.lconst 0, 1) := by decide +kernel
theorem dX11_then_15 : decode cX11_then 15 = .ok (.ldc2_w 441, 3) := by decide +kernel
theorem dX11_then_18 : decode cX11_then 18 = .ok (.invokestatic 126, 3) := by decide +kernel
theorem dX11_then_21 : decode cX11_then 21 = .ok (.ifCond .eq 47, 3) := by decide +kernel
theorem dX11_then_24 : decode cX11_then 24 = .ok (.iload_n 2, 1) := by decide +kernel
theorem dX11_then_25 : decode cX11_then 25 = .ok (.i2l, 1) := by decide +kernel
theorem dX11_then_26 : decode cX11_then 26 = .ok (.lconst 0, 1) := by decide +kernel
theorem dX11_then_27 : decode cX11_then 27 = .ok (.ldc2_w 427, 3) := by decide +kernel
theorem dX11_then_30 : decode cX11_then 30 = .ok (.invokestatic 126, 3) := by decide +kernel
theorem dX11_then_33 : decode cX11_then 33 = .ok (.ifCond .eq 35, 3) := by decide +kernel
theorem dX11_then_36 : decode cX11_then 36 = .ok (.aload_n 0, 1) := by decide +kernel
theorem dX11_then_37 : decode cX11_then 37 = .ok (.getfield 9, 3) := by decide +kernel
theorem dX11_then_40 : decode cX11_then 40 = .ok (.sipush 198, 3) := by decide +kernel
theorem dX11_then_43 : decode cX11_then 43 = .ok (.iload_n 1, 1) := by decide +kernel
theorem dX11_then_44 : decode cX11_then 44 = .ok (.iadd, 1) := by decide +kernel
theorem dX11_then_45 : decode cX11_then 45 = .ok (.laload, 1) := by decide +kernel
theorem dX11_then_46 : decode cX11_then 46 = .ok (.lconst 1, 1) := by decide +kernel
theorem dX11_then_47 : decode cX11_then 47 = .ok (.lcmp, 1) := by decide +kernel
theorem dX11_then_48 : decode cX11_then 48 = .ok (.ifCond .ne 20, 3) := by decide +kernel
theorem dX11_then_51 : decode cX11_then 51 = .ok (.aload_n 0, 1) := by decide +kernel
theorem dX11_then_52 : decode cX11_then 52 = .ok (.getfield 9, 3) := by decide +kernel
theorem dX11_then_55 : decode cX11_then 55 = .ok (.bipush 126, 2) := by decide +kernel
theorem dX11_then_57 : decode cX11_then 57 = .ok (.bipush 6, 2) := by decide +kernel
theorem dX11_then_59 : decode cX11_then 59 = .ok (.iload_n 1, 1) := by decide +kernel
theorem dX11_then_60 : decode cX11_then 60 = .ok (.imul, 1) := by decide +kernel
theorem dX11_then_61 : decode cX11_then 61 = .ok (.iadd, 1) := by decide +kernel
theorem dX11_then_62 : decode cX11_then 62 = .ok (.iload_n 2, 1) := by decide +kernel
theorem dX11_then_63 : decode cX11_then 63 = .ok (.iadd, 1) := by decide +kernel
theorem dX11_then_64 : decode cX11_then 64 = .ok (.laload, 1) := by decide +kernel
theorem dX11_then_65 : decode cX11_then 65 = .ok (.goto 6, 3) := by decide +kernel
theorem dX11_then_68 : decode cX11_then 68 = .ok (.ldc2_w 439, 3) := by decide +kernel
theorem dX11_then_71 : decode cX11_then 71 = .ok (.lreturn, 1) := by decide +kernel
theorem dX11_club_0 : decode cX11_club 0 = .ok (.iload_n 1, 1) := by decide +kernel
theorem dX11_club_1 : decode cX11_club 1 = .ok (.tableswitch 133 0 9 #[55, 62, 69, 77, 85, 93, 100, 107, 123, 128], 55) := by decide +kernel
theorem dX11_club_56 : decode cX11_club 56 = .ok (.aload_n 0, 1) := by decide +kernel
theorem dX11_club_57 : decode cX11_club 57 = .ok (.getfield 9, 3) := by decide +kernel
theorem dX11_club_60 : decode cX11_club 60 = .ok (.iconst 0, 1) := by decide +kernel
theorem dX11_club_61 : decode cX11_club 61 = .ok (.laload, 1) := by decide +kernel
theorem dX11_club_62 : decode cX11_club 62 = .ok (.lreturn, 1) := by decide +kernel
theorem dX11_club_63 : decode cX11_club 63 = .ok (.aload_n 0, 1) := by decide +kernel
theorem dX11_club_64 : decode cX11_club 64 = .ok (.getfield 9, 3) := by decide +kernel
theorem dX11_club_67 : decode cX11_club 67 = .ok (.iconst 1, 1) := by decide +kernel
theorem dX11_club_68 : decode cX11_club 68 = .ok (.laload, 1) := by decide +kernel
theorem dX11_club_69 : decode cX11_club 69 = .ok (.lreturn, 1) := by decide +kernel
theorem dX11_club_70 : decode cX11_club 70 = .ok (.aload_n 0, 1) := by decide +kernel
theorem dX11_club_71 : decode cX11_club 71 = .ok (.getfield 31, 3) := by decide +kernel
theorem dX11_club_74 : decode cX11_club 74 = .ok (.iconst 0, 1) := by decide +kernel
theorem dX11_club_75 : decode cX11_club 75 = .ok (.iaload, 1) := by decide +kernel
theorem dX11_club_76 : decode cX11_club 76 = .ok (.i2l, 1) := by decide +kernel
theorem dX11_club_77 : decode cX11_club 77 = .ok (.lreturn, 1) := by decide +kernel
theorem dX11_club_78 : decode cX11_club 78 = .ok (.aload_n 0, 1) := by decide +kernel
theorem dX11_club_79 : decode cX11_club 79 = .ok (.getfield 31, 3) := by decide +kernel
theorem dX11_club_82 : decode cX11_club 82 = .ok (.iconst 1, 1) := by decide +kernel
theorem dX11_club_83 : decode cX11_club 83 = .ok (.iaload, 1) := by decide +kernel
theorem dX11_club_84 : decode cX11_club 84 = .ok (.i2l, 1) := by decide +kernel
theorem dX11_club_85 : decode cX11_club 85 = .ok (.lreturn, 1) := by decide +kernel
theorem dX11_club_86 : decode cX11_club 86 = .ok (.aload_n 0, 1) := by decide +kernel
theorem dX11_club_87 : decode cX11_club 87 = .ok (.getfield 31, 3) := by decide +kernel
theorem dX11_club_90 : decode cX11_club 90 = .ok (.iconst 2, 1) := by decide +kernel
theorem dX11_club_91 : decode cX11_club 91 = .ok (.iaload, 1) := by decide +kernel
theorem dX11_club_92 : decode cX11_club 92 = .ok (.i2l, 1) := by decide +kernel
theorem dX11_club_93 : decode cX11_club 93 = .ok (.lreturn, 1) := by decide +kernel
theorem dX11_club_94 : decode cX11_club 94 = .ok (.aload_n 0, 1) := by decide +kernel
theorem dX11_club_95 : decode cX11_club 95 = .ok (.getfield 9, 3) := by decide +kernel
theorem dX11_club_98 : decode cX11_club 98 = .ok (.iconst 2, 1) := by decide +kernel
theorem dX11_club_99 : decode cX11_club 99 = .ok (.laload, 1) := by decide +kernel
theorem dX11_club_100 : decode cX11_club 100 = .ok (.lreturn, 1) := by decide +kernel
theorem dX11_club_101 : decode cX11_club 101 = .ok (.aload_n 0, 1) := by decide +kernel
theorem dX11_club_102 : decode cX11_club 102 = .ok (.getfield 9, 3) := by decide +kernel
theorem dX11_club_105 : decode cX11_club 105 = .ok (.iconst 3, 1) := by decide +kernel
theorem dX11_club_106 : decode cX11_club 106 = .ok (.laload, 1) := by decide +kernel
theorem dX11_club_107 : decode cX11_club 107 = .ok (.lreturn, 1) := by decide +kernel
theorem dX11_club_108 : decode cX11_club 108 = .ok (.aload_n 0, 1) := by decide +kernel
theorem dX11_club_109 : decode cX11_club 109 = .ok (.getfield 9, 3) := by decide +kernel
theorem dX11_club_112 : decode cX11_club 112 = .ok (.iconst 3, 1) := by decide +kernel
theorem dX11_club_113 : decode cX11_club 113 = .ok (.laload, 1) := by decide +kernel
theorem dX11_club_114 : decode cX11_club 114 = .ok (.aload_n 0, 1) := by decide +kernel
theorem dX11_club_115 : decode cX11_club 115 = .ok (.invokevirtual 410, 3) := by decide +kernel
theorem dX11_club_118 : decode cX11_club 118 = .ok (.lmul, 1) := by decide +kernel
theorem dX11_club_119 : decode cX11_club 119 = .ok (.ldc2_w 352, 3) := by decide +kernel
theorem dX11_club_122 : decode cX11_club 122 = .ok (.ldiv, 1) := by decide +kernel
theorem dX11_club_123 : decode cX11_club 123 = .ok (.lreturn, 1) := by decide +kernel
theorem dX11_club_124 : decode cX11_club 124 = .ok (.aload_n 0, 1) := by decide +kernel
theorem dX11_club_125 : decode cX11_club 125 = .ok (.invokevirtual 410, 3) := by decide +kernel
theorem dX11_club_128 : decode cX11_club 128 = .ok (.lreturn, 1) := by decide +kernel
theorem dX11_club_129 : decode cX11_club 129 = .ok (.aload_n 0, 1) := by decide +kernel
theorem dX11_club_130 : decode cX11_club 130 = .ok (.invokevirtual 322, 3) := by decide +kernel
theorem dX11_club_133 : decode cX11_club 133 = .ok (.lreturn, 1) := by decide +kernel
theorem dX11_club_134 : decode cX11_club 134 = .ok (.ldc2_w 402, 3) := by decide +kernel
theorem dX11_club_137 : decode cX11_club 137 = .ok (.lreturn, 1) := by decide +kernel
theorem dX11_worst_0 : decode cX11_worst 0 = .ok (.iload_n 1, 1) := by decide +kernel
theorem dX11_worst_1 : decode cX11_worst 1 = .ok (.i2l, 1) := by decide +kernel
theorem dX11_worst_2 : decode cX11_worst 2 = .ok (.lconst 1, 1) := by decide +kernel
theorem dX11_worst_3 : decode cX11_worst 3 = .ok (.ldc2_w 358, 3) := by decide +kernel
theorem dX11_worst_6 : decode cX11_worst 6 = .ok (.invokestatic 126, 3) := by decide +kernel
theorem dX11_worst_9 : decode cX11_worst 9 = .ok (.ifCond .eq 54, 3) := by decide +kernel
theorem dX11_worst_12 : decode cX11_worst 12 = .ok (.iload_n 2, 1) := by decide +kernel
theorem dX11_worst_13 : decode cX11_worst 13 = .ok (.i2l, 1) := by decide +kernel
theorem dX11_worst_14 : decode cX11_worst 14 = .ok (.lconst 1, 1) := by decide +kernel
theorem dX11_worst_15 : decode cX11_worst 15 = .ok (.ldc2_w 358, 3) := by decide +kernel
theorem dX11_worst_18 : decode cX11_worst 18 = .ok (.invokestatic 126, 3) := by decide +kernel
theorem dX11_worst_21 : decode cX11_worst 21 = .ok (.ifCond .eq 42, 3) := by decide +kernel
theorem dX11_worst_24 : decode cX11_worst 24 = .ok (.iload_n 3, 1) := by decide +kernel
theorem dX11_worst_25 : decode cX11_worst 25 = .ok (.i2l, 1) := by decide +kernel
theorem dX11_worst_26 : decode cX11_worst 26 = .ok (.lconst 1, 1) := by decide +kernel
theorem dX11_worst_27 : decode cX11_worst 27 = .ok (.ldc2_w 352, 3) := by decide +kernel
theorem dX11_worst_30 : decode cX11_worst 30 = .ok (.invokestatic 126, 3) := by decide +kernel
theorem dX11_worst_33 : decode cX11_worst 33 = .ok (.ifCond .eq 30, 3) := by decide +kernel
theorem dX11_worst_36 : decode cX11_worst 36 = .ok (.aload_n 0, 1) := by decide +kernel
theorem dX11_worst_37 : decode cX11_worst 37 = .ok (.getfield 9, 3) := by decide +kernel
theorem dX11_worst_40 : decode cX11_worst 40 = .ok (.bipush 7, 2) := by decide +kernel
theorem dX11_worst_42 : decode cX11_worst 42 = .ok (.laload, 1) := by decide +kernel
theorem dX11_worst_43 : decode cX11_worst 43 = .ok (.ldc2_w 382, 3) := by decide +kernel
theorem dX11_worst_46 : decode cX11_worst 46 = .ok (.lcmp, 1) := by decide +kernel
theorem dX11_worst_47 : decode cX11_worst 47 = .ok (.ifCond .eq 16, 3) := by decide +kernel
theorem dX11_worst_50 : decode cX11_worst 50 = .ok (.iload 4, 2) := by decide +kernel
theorem dX11_worst_52 : decode cX11_worst 52 = .ok (.i2l, 1) := by decide +kernel
theorem dX11_worst_53 : decode cX11_worst 53 = .ok (.lconst 0, 1) := by decide +kernel
theorem dX11_worst_54 : decode cX11_worst 54 = .ok (.ldc2_w 417, 3) := by decide +kernel
theorem dX11_worst_57 : decode cX11_worst 57 = .ok (.invokestatic 126, 3) := by decide +kernel
theorem dX11_worst_60 : decode cX11_worst 60 = .ok (.ifCond .ne 7, 3) := by decide +kernel
theorem dX11_worst_63 : decode cX11_worst 63 = .ok (.ldc2_w 402, 3) := by decide +kernel
theorem dX11_worst_66 : decode cX11_worst 66 = .ok (.lreturn, 1) := by decide +kernel
theorem dX11_worst_67 : decode cX11_worst 67 = .ok (.iconst 0, 1) := by decide +kernel
theorem dX11_worst_68 : decode cX11_worst 68 = .ok (.istore 5, 2) := by decide +kernel
theorem dX11_worst_70 : decode cX11_worst 70 = .ok (.iconst 0, 1) := by decide +kernel
theorem dX11_worst_71 : decode cX11_worst 71 = .ok (.istore 6, 2) := by decide +kernel
theorem dX11_worst_73 : decode cX11_worst 73 = .ok (.ldc2_w 402, 3) := by decide +kernel
theorem dX11_worst_76 : decode cX11_worst 76 = .ok (.lstore 7, 2) := by decide +kernel
theorem dX11_worst_78 : decode cX11_worst 78 = .ok (.iconst 0, 1) := by decide +kernel
theorem dX11_worst_79 : decode cX11_worst 79 = .ok (.istore 9, 2) := by decide +kernel
theorem dX11_worst_81 : decode cX11_worst 81 = .ok (.iload 9, 2) := by decide +kernel
theorem dX11_worst_83 : decode cX11_worst 83 = .ok (.iload_n 2, 1) := by decide +kernel
theorem dX11_worst_84 : decode cX11_worst 84 = .ok (.iadd, 1) := by decide +kernel
theorem dX11_worst_85 : decode cX11_worst 85 = .ok (.bipush 8, 2) := by decide +kernel
theorem dX11_worst_87 : decode cX11_worst 87 = .ok (.if_icmp .gt 88, 3) := by decide +kernel
theorem dX11_worst_90 : decode cX11_worst 90 = .ok (.iconst 0, 1) := by decide +kernel
theorem dX11_worst_91 : decode cX11_worst 91 = .ok (.istore 10, 2) := by decide +kernel
theorem dX11_worst_93 : decode cX11_worst 93 = .ok (.iload 10, 2) := by decide +kernel
theorem dX11_worst_95 : decode cX11_worst 95 = .ok (.iload_n 1, 1) := by decide +kernel
theorem dX11_worst_96 : decode cX11_worst 96 = .ok (.iadd, 1) := by decide +kernel
theorem dX11_worst_97 : decode cX11_worst 97 = .ok (.bipush 8, 2) := by decide +kernel
theorem dX11_worst_99 : decode cX11_worst 99 = .ok (.if_icmp .gt 70, 3) := by decide +kernel
theorem dX11_worst_102 : decode cX11_worst 102 = .ok (.aload_n 0, 1) := by decide +kernel
theorem dX11_worst_103 : decode cX11_worst 103 = .ok (.iload 10, 2) := by decide +kernel
theorem dX11_worst_105 : decode cX11_worst 105 = .ok (.iload 9, 2) := by decide +kernel
theorem dX11_worst_107 : decode cX11_worst 107 = .ok (.iload 10, 2) := by decide +kernel
theorem dX11_worst_109 : decode cX11_worst 109 = .ok (.iload_n 1, 1) := by decide +kernel
theorem dX11_worst_110 : decode cX11_worst 110 = .ok (.iadd, 1) := by decide +kernel
theorem dX11_worst_111 : decode cX11_worst 111 = .ok (.iconst 1, 1) := by decide +kernel
theorem dX11_worst_112 : decode cX11_worst 112 = .ok (.isub, 1) := by decide +kernel
theorem dX11_worst_113 : decode cX11_worst 113 = .ok (.iload 9, 2) := by decide +kernel
theorem dX11_worst_115 : decode cX11_worst 115 = .ok (.iload_n 2, 1) := by decide +kernel
theorem dX11_worst_116 : decode cX11_worst 116 = .ok (.iadd, 1) := by decide +kernel
theorem dX11_worst_117 : decode cX11_worst 117 = .ok (.iconst 1, 1) := by decide +kernel
theorem dX11_worst_118 : decode cX11_worst 118 = .ok (.isub, 1) := by decide +kernel
theorem dX11_worst_119 : decode cX11_worst 119 = .ok (.iload_n 3, 1) := by decide +kernel
theorem dX11_worst_120 : decode cX11_worst 120 = .ok (.invokevirtual 384, 3) := by decide +kernel
theorem dX11_worst_123 : decode cX11_worst 123 = .ok (.aload_n 0, 1) := by decide +kernel
theorem dX11_worst_124 : decode cX11_worst 124 = .ok (.invokevirtual 443, 3) := by decide +kernel
theorem dX11_worst_127 : decode cX11_worst 127 = .ok (.lstore 11, 2) := by decide +kernel
theorem dX11_worst_129 : decode cX11_worst 129 = .ok (.aload_n 0, 1) := by decide +kernel
theorem dX11_worst_130 : decode cX11_worst 130 = .ok (.getfield 9, 3) := by decide +kernel
theorem dX11_worst_133 : decode cX11_worst 133 = .ok (.bipush 7, 2) := by decide +kernel
theorem dX11_worst_135 : decode cX11_worst 135 = .ok (.dup2, 1) := by decide +kernel
theorem dX11_worst_136 : decode cX11_worst 136 = .ok (.laload, 1) := by decide +kernel
theorem dX11_worst_137 : decode cX11_worst 137 = .ok (.lconst 1, 1) := by decide +kernel
theorem dX11_worst_138 : decode cX11_worst 138 = .ok (.lsub, 1) := by decide +kernel
theorem dX11_worst_139 : decode cX11_worst 139 = .ok (.lastore, 1) := by decide +kernel
theorem dX11_worst_140 : decode cX11_worst 140 = .ok (.lload 11, 2) := by decide +kernel
theorem dX11_worst_142 : decode cX11_worst 142 = .ok (.lload 7, 2) := by decide +kernel
theorem dX11_worst_144 : decode cX11_worst 144 = .ok (.lcmp, 1) := by decide +kernel
theorem dX11_worst_145 : decode cX11_worst 145 = .ok (.ifCond .gt 6, 3) := by decide +kernel
theorem dX11_worst_148 : decode cX11_worst 148 = .ok (.goto 15, 3) := by decide +kernel
theorem dX11_worst_151 : decode cX11_worst 151 = .ok (.lload 11, 2) := by decide +kernel
theorem dX11_worst_153 : decode cX11_worst 153 = .ok (.lstore 7, 2) := by decide +kernel
theorem dX11_worst_155 : decode cX11_worst 155 = .ok (.iload 10, 2) := by decide +kernel
theorem dX11_worst_157 : decode cX11_worst 157 = .ok (.istore 5, 2) := by decide +kernel
theorem dX11_worst_159 : decode cX11_worst 159 = .ok (.iload 9, 2) := by decide +kernel
theorem dX11_worst_161 : decode cX11_worst 161 = .ok (.istore 6, 2) := by decide +kernel
theorem dX11_worst_163 : decode cX11_worst 163 = .ok (.iinc 10 1, 3) := by decide +kernel
theorem dX11_worst_166 : decode cX11_worst 166 = .ok (.goto (-73), 3) := by decide +kernel
theorem dX11_worst_169 : decode cX11_worst 169 = .ok (.iinc 9 1, 3) := by decide +kernel
theorem dX11_worst_172 : decode cX11_worst 172 = .ok (.goto (-91), 3) := by decide +kernel
theorem dX11_worst_175 : decode cX11_worst 175 = .ok (.iload 4, 2) := by decide +kernel
theorem dX11_worst_177 : decode cX11_worst 177 = .ok (.ifCond .ne 9, 3) := by decide +kernel
theorem dX11_worst_180 : decode cX11_worst 180 = .ok (.iload 5, 2) := by decide +kernel
theorem dX11_worst_182 : decode cX11_worst 182 = .ok (.i2l, 1) := by decide +kernel
theorem dX11_worst_183 : decode cX11_worst 183 = .ok (.goto 17, 3) := by decide +kernel
theorem dX11_worst_186 : decode cX11_worst 186 = .ok (.iload 4, 2) := by decide +kernel
theorem dX11_worst_188 : decode cX11_worst 188 = .ok (.iconst 1, 1) := by decide +kernel
theorem dX11_worst_189 : decode cX11_worst 189 = .ok (.if_icmp .ne 9, 3) := by decide +kernel
theorem dX11_worst_192 : decode cX11_worst 192 = .ok (.iload 6, 2) := by decide +kernel
theorem dX11_worst_194 : decode cX11_worst 194 = .ok (.i2l, 1) := by decide +kernel
theorem dX11_worst_195 : decode cX11_worst 195 = .ok (.goto 5, 3) := by decide +kernel
theorem dX11_worst_198 : decode cX11_worst 198 = .ok (.lload 7, 2) := by decide +kernel
theorem dX11_worst_200 : decode cX11_worst 200 = .ok (.lreturn, 1) := by decide +kernel
theorem dX11_rate_0 : decode cX11_rate 0 = .ok (.aload_n 0, 1) := by decide +kernel
theorem dX11_rate_1 : decode cX11_rate 1 = .ok (.invokevirtual 429, 3) := by decide +kernel
theorem dX11_rate_4 : decode cX11_rate 4 = .ok (.ifCond .ne 5, 3) := by decide +kernel
theorem dX11_rate_7 : decode cX11_rate 7 = .ok (.iconst (-1), 1) := by decide +kernel
theorem dX11_rate_8 : decode cX11_rate 8 = .ok (.ireturn, 1) := by decide +kernel
theorem dX11_rate_9 : decode cX11_rate 9 = .ok (.aload_n 0, 1) := by decide +kernel
theorem dX11_rate_10 : decode cX11_rate 10 = .ok (.getfield 9, 3) := by decide +kernel
theorem dX11_rate_13 : decode cX11_rate 13 = .ok (.iconst 0, 1) := by decide +kernel
theorem dX11_rate_14 : decode cX11_rate 14 = .ok (.laload, 1) := by decide +kernel
theorem dX11_rate_15 : decode cX11_rate 15 = .ok (.lstore_n 1, 1) := by decide +kernel
theorem dX11_rate_16 : decode cX11_rate 16 = .ok (.iconst (-1), 1) := by decide +kernel
theorem dX11_rate_17 : decode cX11_rate 17 = .ok (.istore_n 3, 1) := by decide +kernel
theorem dX11_rate_18 : decode cX11_rate 18 = .ok (.iconst 0, 1) := by decide +kernel
theorem dX11_rate_19 : decode cX11_rate 19 = .ok (.istore 4, 2) := by decide +kernel
theorem dX11_rate_21 : decode cX11_rate 21 = .ok (.iload 4, 2) := by decide +kernel
theorem dX11_rate_23 : decode cX11_rate 23 = .ok (.sipush 999, 3) := by decide +kernel
theorem dX11_rate_26 : decode cX11_rate 26 = .ok (.if_icmp .gt 54, 3) := by decide +kernel
theorem dX11_rate_29 : decode cX11_rate 29 = .ok (.iload_n 3, 1) := by decide +kernel
theorem dX11_rate_30 : decode cX11_rate 30 = .ok (.iconst (-1), 1) := by decide +kernel
theorem dX11_rate_31 : decode cX11_rate 31 = .ok (.if_icmp .ne 49, 3) := by decide +kernel
theorem dX11_rate_34 : decode cX11_rate 34 = .ok (.aload_n 0, 1) := by decide +kernel
theorem dX11_rate_35 : decode cX11_rate 35 = .ok (.getfield 9, 3) := by decide +kernel
theorem dX11_rate_38 : decode cX11_rate 38 = .ok (.iconst 0, 1) := by decide +kernel
theorem dX11_rate_39 : decode cX11_rate 39 = .ok (.iload 4, 2) := by decide +kernel
theorem dX11_rate_41 : decode cX11_rate 41 = .ok (.i2l, 1) := by decide +kernel
theorem dX11_rate_42 : decode cX11_rate 42 = .ok (.lastore, 1) := by decide +kernel
theorem dX11_rate_43 : decode cX11_rate 43 = .ok (.aload_n 0, 1) := by decide +kernel
theorem dX11_rate_44 : decode cX11_rate 44 = .ok (.invokevirtual 432, 3) := by decide +kernel
theorem dX11_rate_47 : decode cX11_rate 47 = .ok (.aload_n 0, 1) := by decide +kernel
theorem dX11_rate_48 : decode cX11_rate 48 = .ok (.getfield 75, 3) := by decide +kernel
theorem dX11_rate_51 : decode cX11_rate 51 = .ok (.bipush 7, 2) := by decide +kernel
theorem dX11_rate_53 : decode cX11_rate 53 = .ok (.laload, 1) := by decide +kernel
theorem dX11_rate_54 : decode cX11_rate 54 = .ok (.lconst 0, 1) := by decide +kernel
theorem dX11_rate_55 : decode cX11_rate 55 = .ok (.lcmp, 1) := by decide +kernel
theorem dX11_rate_56 : decode cX11_rate 56 = .ok (.ifCond .ne 18, 3) := by decide +kernel
theorem dX11_rate_59 : decode cX11_rate 59 = .ok (.aload_n 0, 1) := by decide +kernel
theorem dX11_rate_60 : decode cX11_rate 60 = .ok (.getfield 75, 3) := by decide +kernel
theorem dX11_rate_63 : decode cX11_rate 63 = .ok (.bipush 8, 2) := by decide +kernel
theorem dX11_rate_65 : decode cX11_rate 65 = .ok (.laload, 1) := by decide +kernel
theorem dX11_rate_66 : decode cX11_rate 66 = .ok (.lconst 0, 1) := by decide +kernel
theorem dX11_rate_67 : decode cX11_rate 67 = .ok (.lcmp, 1) := by decide +kernel
theorem dX11_rate_68 : decode cX11_rate 68 = .ok (.ifCond .ne 6, 3) := by decide +kernel
theorem dX11_rate_71 : decode cX11_rate 71 = .ok (.iload 4, 2) := by decide +kernel
theorem dX11_rate_73 : decode cX11_rate 73 = .ok (.istore_n 3, 1) := by decide +kernel
theorem dX11_rate_74 : decode cX11_rate 74 = .ok (.iinc 4 1, 3) := by decide +kernel
theorem dX11_rate_77 : decode cX11_rate 77 = .ok (.goto (-56), 3) := by decide +kernel
theorem dX11_rate_80 : decode cX11_rate 80 = .ok (.aload_n 0, 1) := by decide +kernel
theorem dX11_rate_81 : decode cX11_rate 81 = .ok (.getfield 9, 3) := by decide +kernel
theorem dX11_rate_84 : decode cX11_rate 84 = .ok (.iconst 0, 1) := by decide +kernel
theorem dX11_rate_85 : decode cX11_rate 85 = .ok (.lload_n 1, 1) := by decide +kernel
theorem dX11_rate_86 : decode cX11_rate 86 = .ok (.lastore, 1) := by decide +kernel
theorem dX11_rate_87 : decode cX11_rate 87 = .ok (.iload_n 3, 1) := by decide +kernel
theorem dX11_rate_88 : decode cX11_rate 88 = .ok (.ireturn, 1) := by decide +kernel
theorem dX11_reserve_0 : decode cX11_reserve 0 = .ok (.aload_n 0, 1) := by decide +kernel
theorem dX11_reserve_1 : decode cX11_reserve 1 = .ok (.invokevirtual 429, 3) := by decide +kernel
theorem dX11_reserve_4 : decode cX11_reserve 4 = .ok (.ifCond .ne 7, 3) := by decide +kernel
theorem dX11_reserve_7 : decode cX11_reserve 7 = .ok (.ldc2_w 402, 3) := by decide +kernel
theorem dX11_reserve_10 : decode cX11_reserve 10 = .ok (.lreturn, 1) := by decide +kernel
theorem dX11_reserve_11 : decode cX11_reserve 11 = .ok (.aload_n 0, 1) := by decide +kernel
theorem dX11_reserve_12 : decode cX11_reserve 12 = .ok (.invokevirtual 407, 3) := by decide +kernel
theorem dX11_reserve_15 : decode cX11_reserve 15 = .ok (.lconst 0, 1) := by decide +kernel
theorem dX11_reserve_16 : decode cX11_reserve 16 = .ok (.aload_n 0, 1) := by decide +kernel
theorem dX11_reserve_17 : decode cX11_reserve 17 = .ok (.getfield 75, 3) := by decide +kernel
theorem dX11_reserve_20 : decode cX11_reserve 20 = .ok (.iconst 2, 1) := by decide +kernel
theorem dX11_reserve_21 : decode cX11_reserve 21 = .ok (.laload, 1) := by decide +kernel
theorem dX11_reserve_22 : decode cX11_reserve 22 = .ok (.aload_n 0, 1) := by decide +kernel
theorem dX11_reserve_23 : decode cX11_reserve 23 = .ok (.getfield 75, 3) := by decide +kernel
theorem dX11_reserve_26 : decode cX11_reserve 26 = .ok (.iconst 3, 1) := by decide +kernel
theorem dX11_reserve_27 : decode cX11_reserve 27 = .ok (.laload, 1) := by decide +kernel
theorem dX11_reserve_28 : decode cX11_reserve 28 = .ok (.lsub, 1) := by decide +kernel
theorem dX11_reserve_29 : decode cX11_reserve 29 = .ok (.invokestatic 313, 3) := by decide +kernel
theorem dX11_reserve_32 : decode cX11_reserve 32 = .ok (.lstore_n 1, 1) := by decide +kernel
theorem dX11_reserve_33 : decode cX11_reserve 33 = .ok (.ldc2_w 417, 3) := by decide +kernel
theorem dX11_reserve_36 : decode cX11_reserve 36 = .ok (.lload_n 1, 1) := by decide +kernel
theorem dX11_reserve_37 : decode cX11_reserve 37 = .ok (.lmul, 1) := by decide +kernel
theorem dX11_reserve_38 : decode cX11_reserve 38 = .ok (.ldc2_w 446, 3) := by decide +kernel
theorem dX11_reserve_41 : decode cX11_reserve 41 = .ok (.lcmp, 1) := by decide +kernel
theorem dX11_reserve_42 : decode cX11_reserve 42 = .ok (.ifCond .le 9, 3) := by decide +kernel
theorem dX11_reserve_45 : decode cX11_reserve 45 = .ok (.ldc2_w 402, 3) := by decide +kernel
theorem dX11_reserve_48 : decode cX11_reserve 48 = .ok (.goto 8, 3) := by decide +kernel
theorem dX11_reserve_51 : decode cX11_reserve 51 = .ok (.ldc2_w 417, 3) := by decide +kernel
theorem dX11_reserve_54 : decode cX11_reserve 54 = .ok (.lload_n 1, 1) := by decide +kernel
theorem dX11_reserve_55 : decode cX11_reserve 55 = .ok (.lmul, 1) := by decide +kernel
theorem dX11_reserve_56 : decode cX11_reserve 56 = .ok (.lreturn, 1) := by decide +kernel
theorem dX11_without_0 : decode cX11_without 0 = .ok (.aload_n 0, 1) := by decide +kernel
theorem dX11_without_1 : decode cX11_without 1 = .ok (.iload_n 1, 1) := by decide +kernel
theorem dX11_without_2 : decode cX11_without 2 = .ok (.invokevirtual 395, 3) := by decide +kernel
theorem dX11_without_5 : decode cX11_without 5 = .ok (.ifCond .eq 16, 3) := by decide +kernel
theorem dX11_without_8 : decode cX11_without 8 = .ok (.aload_n 0, 1) := by decide +kernel
theorem dX11_without_9 : decode cX11_without 9 = .ok (.iload_n 2, 1) := by decide +kernel
theorem dX11_without_10 : decode cX11_without 10 = .ok (.invokevirtual 395, 3) := by decide +kernel
theorem dX11_without_13 : decode cX11_without 13 = .ok (.ifCond .eq 8, 3) := by decide +kernel
theorem dX11_without_16 : decode cX11_without 16 = .ok (.iload_n 1, 1) := by decide +kernel
theorem dX11_without_17 : decode cX11_without 17 = .ok (.iload_n 2, 1) := by decide +kernel
theorem dX11_without_18 : decode cX11_without 18 = .ok (.if_icmp .ne 7, 3) := by decide +kernel
theorem dX11_without_21 : decode cX11_without 21 = .ok (.ldc2_w 439, 3) := by decide +kernel
theorem dX11_without_24 : decode cX11_without 24 = .ok (.lreturn, 1) := by decide +kernel
theorem dX11_without_25 : decode cX11_without 25 = .ok (.aload_n 0, 1) := by decide +kernel
theorem dX11_without_26 : decode cX11_without 26 = .ok (.invokevirtual 432, 3) := by decide +kernel
theorem dX11_without_29 : decode cX11_without 29 = .ok (.aload_n 0, 1) := by decide +kernel
theorem dX11_without_30 : decode cX11_without 30 = .ok (.getfield 69, 3) := by decide +kernel
theorem dX11_without_33 : decode cX11_without 33 = .ok (.bipush 6, 2) := by decide +kernel
theorem dX11_without_35 : decode cX11_without 35 = .ok (.iload_n 1, 1) := by decide +kernel
theorem dX11_without_36 : decode cX11_without 36 = .ok (.imul, 1) := by decide +kernel
theorem dX11_without_37 : decode cX11_without 37 = .ok (.iconst 5, 1) := by decide +kernel
theorem dX11_without_38 : decode cX11_without 38 = .ok (.iadd, 1) := by decide +kernel
theorem dX11_without_39 : decode cX11_without 39 = .ok (.laload, 1) := by decide +kernel
theorem dX11_without_40 : decode cX11_without 40 = .ok (.lstore_n 3, 1) := by decide +kernel
theorem dX11_without_41 : decode cX11_without 41 = .ok (.aload_n 0, 1) := by decide +kernel
theorem dX11_without_42 : decode cX11_without 42 = .ok (.iload_n 2, 1) := by decide +kernel
theorem dX11_without_43 : decode cX11_without 43 = .ok (.putfield 53, 3) := by decide +kernel
theorem dX11_without_46 : decode cX11_without 46 = .ok (.aload_n 0, 1) := by decide +kernel
theorem dX11_without_47 : decode cX11_without 47 = .ok (.invokevirtual 432, 3) := by decide +kernel
theorem dX11_without_50 : decode cX11_without 50 = .ok (.aload_n 0, 1) := by decide +kernel
theorem dX11_without_51 : decode cX11_without 51 = .ok (.iconst (-1), 1) := by decide +kernel
theorem dX11_without_52 : decode cX11_without 52 = .ok (.putfield 53, 3) := by decide +kernel
theorem dX11_without_55 : decode cX11_without 55 = .ok (.aload_n 0, 1) := by decide +kernel
theorem dX11_without_56 : decode cX11_without 56 = .ok (.getfield 69, 3) := by decide +kernel
theorem dX11_without_59 : decode cX11_without 59 = .ok (.bipush 6, 2) := by decide +kernel
theorem dX11_without_61 : decode cX11_without 61 = .ok (.iload_n 1, 1) := by decide +kernel
theorem dX11_without_62 : decode cX11_without 62 = .ok (.imul, 1) := by decide +kernel
theorem dX11_without_63 : decode cX11_without 63 = .ok (.iconst 5, 1) := by decide +kernel
theorem dX11_without_64 : decode cX11_without 64 = .ok (.iadd, 1) := by decide +kernel
theorem dX11_without_65 : decode cX11_without 65 = .ok (.laload, 1) := by decide +kernel
theorem dX11_without_66 : decode cX11_without 66 = .ok (.lload_n 3, 1) := by decide +kernel
theorem dX11_without_67 : decode cX11_without 67 = .ok (.lsub, 1) := by decide +kernel
theorem dX11_without_68 : decode cX11_without 68 = .ok (.lreturn, 1) := by decide +kernel
theorem dX11_near_0 : decode cX11_near 0 = .ok (.aload_n 0, 1) := by decide +kernel
theorem dX11_near_1 : decode cX11_near 1 = .ok (.iload_n 1, 1) := by decide +kernel
theorem dX11_near_2 : decode cX11_near 2 = .ok (.iload_n 2, 1) := by decide +kernel
theorem dX11_near_3 : decode cX11_near 3 = .ok (.invokevirtual 448, 3) := by decide +kernel
theorem dX11_near_6 : decode cX11_near 6 = .ok (.iconst (-1), 1) := by decide +kernel
theorem dX11_near_7 : decode cX11_near 7 = .ok (.if_icmp .ne 5, 3) := by decide +kernel
theorem dX11_near_10 : decode cX11_near 10 = .ok (.iconst (-1), 1) := by decide +kernel
theorem dX11_near_11 : decode cX11_near 11 = .ok (.ireturn, 1) := by decide +kernel
theorem dX11_near_12 : decode cX11_near 12 = .ok (.iconst 0, 1) := by decide +kernel
theorem dX11_near_13 : decode cX11_near 13 = .ok (.istore_n 3, 1) := by decide +kernel
theorem dX11_near_14 : decode cX11_near 14 = .ok (.iconst 0, 1) := by decide +kernel
theorem dX11_near_15 : decode cX11_near 15 = .ok (.istore 4, 2) := by decide +kernel
theorem dX11_near_17 : decode cX11_near 17 = .ok (.iload 4, 2) := by decide +kernel
theorem dX11_near_19 : decode cX11_near 19 = .ok (.i2l, 1) := by decide +kernel
theorem dX11_near_20 : decode cX11_near 20 = .ok (.aload_n 0, 1) := by decide +kernel
theorem dX11_near_21 : decode cX11_near 21 = .ok (.getfield 9, 3) := by decide +kernel
theorem dX11_near_24 : decode cX11_near 24 = .ok (.bipush 6, 2) := by decide +kernel
theorem dX11_near_26 : decode cX11_near 26 = .ok (.laload, 1) := by decide +kernel
theorem dX11_near_27 : decode cX11_near 27 = .ok (.lcmp, 1) := by decide +kernel
theorem dX11_near_28 : decode cX11_near 28 = .ok (.ifCond .ge 67, 3) := by decide +kernel
theorem dX11_near_31 : decode cX11_near 31 = .ok (.aload_n 0, 1) := by decide +kernel
theorem dX11_near_32 : decode cX11_near 32 = .ok (.iload 4, 2) := by decide +kernel
theorem dX11_near_34 : decode cX11_near 34 = .ok (.iconst 1, 1) := by decide +kernel
theorem dX11_near_35 : decode cX11_near 35 = .ok (.invokevirtual 334, 3) := by decide +kernel
theorem dX11_near_38 : decode cX11_near 38 = .ok (.iload_n 1, 1) := by decide +kernel
theorem dX11_near_39 : decode cX11_near 39 = .ok (.isub, 1) := by decide +kernel
theorem dX11_near_40 : decode cX11_near 40 = .ok (.istore 5, 2) := by decide +kernel
theorem dX11_near_42 : decode cX11_near 42 = .ok (.aload_n 0, 1) := by decide +kernel
theorem dX11_near_43 : decode cX11_near 43 = .ok (.iload 4, 2) := by decide +kernel
theorem dX11_near_45 : decode cX11_near 45 = .ok (.iconst 2, 1) := by decide +kernel
theorem dX11_near_46 : decode cX11_near 46 = .ok (.invokevirtual 334, 3) := by decide +kernel
theorem dX11_near_49 : decode cX11_near 49 = .ok (.iload_n 2, 1) := by decide +kernel
theorem dX11_near_50 : decode cX11_near 50 = .ok (.isub, 1) := by decide +kernel
theorem dX11_near_51 : decode cX11_near 51 = .ok (.istore 6, 2) := by decide +kernel
theorem dX11_near_53 : decode cX11_near 53 = .ok (.aload_n 0, 1) := by decide +kernel
theorem dX11_near_54 : decode cX11_near 54 = .ok (.iload 4, 2) := by decide +kernel
theorem dX11_near_56 : decode cX11_near 56 = .ok (.invokevirtual 388, 3) := by decide +kernel
theorem dX11_near_59 : decode cX11_near 59 = .ok (.ifCond .eq 30, 3) := by decide +kernel
theorem dX11_near_62 : decode cX11_near 62 = .ok (.iload 5, 2) := by decide +kernel
theorem dX11_near_64 : decode cX11_near 64 = .ok (.iload 5, 2) := by decide +kernel
theorem dX11_near_66 : decode cX11_near 66 = .ok (.imul, 1) := by decide +kernel
theorem dX11_near_67 : decode cX11_near 67 = .ok (.iload 6, 2) := by decide +kernel
theorem dX11_near_69 : decode cX11_near 69 = .ok (.iload 6, 2) := by decide +kernel
theorem dX11_near_71 : decode cX11_near 71 = .ok (.imul, 1) := by decide +kernel
theorem dX11_near_72 : decode cX11_near 72 = .ok (.iadd, 1) := by decide +kernel
theorem dX11_near_73 : decode cX11_near 73 = .ok (.iconst 1, 1) := by decide +kernel
theorem dX11_near_74 : decode cX11_near 74 = .ok (.if_icmp .gt 15, 3) := by decide +kernel
theorem dX11_near_77 : decode cX11_near 77 = .ok (.iload_n 3, 1) := by decide +kernel
theorem dX11_near_78 : decode cX11_near 78 = .ok (.iconst 1, 1) := by decide +kernel
theorem dX11_near_79 : decode cX11_near 79 = .ok (.aload_n 0, 1) := by decide +kernel
theorem dX11_near_80 : decode cX11_near 80 = .ok (.iload 4, 2) := by decide +kernel
theorem dX11_near_82 : decode cX11_near 82 = .ok (.iconst 0, 1) := by decide +kernel
theorem dX11_near_83 : decode cX11_near 83 = .ok (.invokevirtual 334, 3) := by decide +kernel
theorem dX11_near_86 : decode cX11_near 86 = .ok (.ishl, 1) := by decide +kernel
theorem dX11_near_87 : decode cX11_near 87 = .ok (.ior, 1) := by decide +kernel
theorem dX11_near_88 : decode cX11_near 88 = .ok (.istore_n 3, 1) := by decide +kernel
theorem dX11_near_89 : decode cX11_near 89 = .ok (.iinc 4 1, 3) := by decide +kernel
theorem dX11_near_92 : decode cX11_near 92 = .ok (.goto (-75), 3) := by decide +kernel
theorem dX11_near_95 : decode cX11_near 95 = .ok (.iload_n 3, 1) := by decide +kernel
theorem dX11_near_96 : decode cX11_near 96 = .ok (.ireturn, 1) := by decide +kernel
theorem dX11_rank_0 : decode cX11_rank 0 = .ok (.iload_n 1, 1) := by decide +kernel
theorem dX11_rank_1 : decode cX11_rank 1 = .ok (.i2l, 1) := by decide +kernel
theorem dX11_rank_2 : decode cX11_rank 2 = .ok (.lconst 0, 1) := by decide +kernel
theorem dX11_rank_3 : decode cX11_rank 3 = .ok (.aload_n 0, 1) := by decide +kernel
theorem dX11_rank_4 : decode cX11_rank 4 = .ok (.invokevirtual 429, 3) := by decide +kernel
theorem dX11_rank_7 : decode cX11_rank 7 = .ok (.iconst 1, 1) := by decide +kernel
theorem dX11_rank_8 : decode cX11_rank 8 = .ok (.isub, 1) := by decide +kernel
theorem dX11_rank_9 : decode cX11_rank 9 = .ok (.i2l, 1) := by decide +kernel
theorem dX11_rank_10 : decode cX11_rank 10 = .ok (.invokestatic 126, 3) := by decide +kernel
theorem dX11_rank_13 : decode cX11_rank 13 = .ok (.ifCond .ne 5, 3) := by decide +kernel
theorem dX11_rank_16 : decode cX11_rank 16 = .ok (.iconst (-1), 1) := by decide +kernel
theorem dX11_rank_17 : decode cX11_rank 17 = .ok (.ireturn, 1) := by decide +kernel
theorem dX11_rank_18 : decode cX11_rank 18 = .ok (.aload_n 0, 1) := by decide +kernel
theorem dX11_rank_19 : decode cX11_rank 19 = .ok (.invokevirtual 432, 3) := by decide +kernel
theorem dX11_rank_22 : decode cX11_rank 22 = .ok (.iconst 0, 1) := by decide +kernel
theorem dX11_rank_23 : decode cX11_rank 23 = .ok (.istore_n 2, 1) := by decide +kernel
theorem dX11_rank_24 : decode cX11_rank 24 = .ok (.iload_n 2, 1) := by decide +kernel
theorem dX11_rank_25 : decode cX11_rank 25 = .ok (.i2l, 1) := by decide +kernel
theorem dX11_rank_26 : decode cX11_rank 26 = .ok (.aload_n 0, 1) := by decide +kernel
theorem dX11_rank_27 : decode cX11_rank 27 = .ok (.getfield 9, 3) := by decide +kernel
theorem dX11_rank_30 : decode cX11_rank 30 = .ok (.iconst 5, 1) := by decide +kernel
theorem dX11_rank_31 : decode cX11_rank 31 = .ok (.laload, 1) := by decide +kernel
theorem dX11_rank_32 : decode cX11_rank 32 = .ok (.lcmp, 1) := by decide +kernel
theorem dX11_rank_33 : decode cX11_rank 33 = .ok (.ifCond .ge 120, 3) := by decide +kernel
theorem dX11_rank_36 : decode cX11_rank 36 = .ok (.aload_n 0, 1) := by decide +kernel
theorem dX11_rank_37 : decode cX11_rank 37 = .ok (.iload_n 2, 1) := by decide +kernel
theorem dX11_rank_38 : decode cX11_rank 38 = .ok (.invokevirtual 331, 3) := by decide +kernel
theorem dX11_rank_41 : decode cX11_rank 41 = .ok (.ifCond .ne 6, 3) := by decide +kernel
theorem dX11_rank_44 : decode cX11_rank 44 = .ok (.goto 103, 3) := by decide +kernel
theorem dX11_rank_47 : decode cX11_rank 47 = .ok (.iconst 0, 1) := by decide +kernel
theorem dX11_rank_48 : decode cX11_rank 48 = .ok (.istore_n 3, 1) := by decide +kernel
theorem dX11_rank_49 : decode cX11_rank 49 = .ok (.iconst 0, 1) := by decide +kernel
theorem dX11_rank_50 : decode cX11_rank 50 = .ok (.istore 4, 2) := by decide +kernel
theorem dX11_rank_52 : decode cX11_rank 52 = .ok (.iload 4, 2) := by decide +kernel
theorem dX11_rank_54 : decode cX11_rank 54 = .ok (.i2l, 1) := by decide +kernel
theorem dX11_rank_55 : decode cX11_rank 55 = .ok (.aload_n 0, 1) := by decide +kernel
theorem dX11_rank_56 : decode cX11_rank 56 = .ok (.getfield 9, 3) := by decide +kernel
theorem dX11_rank_59 : decode cX11_rank 59 = .ok (.iconst 5, 1) := by decide +kernel
theorem dX11_rank_60 : decode cX11_rank 60 = .ok (.laload, 1) := by decide +kernel
theorem dX11_rank_61 : decode cX11_rank 61 = .ok (.lcmp, 1) := by decide +kernel
theorem dX11_rank_62 : decode cX11_rank 62 = .ok (.ifCond .ge 78, 3) := by decide +kernel
theorem dX11_rank_65 : decode cX11_rank 65 = .ok (.aload_n 0, 1) := by decide +kernel
theorem dX11_rank_66 : decode cX11_rank 66 = .ok (.getfield 69, 3) := by decide +kernel
theorem dX11_rank_69 : decode cX11_rank 69 = .ok (.bipush 6, 2) := by decide +kernel
theorem dX11_rank_71 : decode cX11_rank 71 = .ok (.iload 4, 2) := by decide +kernel
theorem dX11_rank_73 : decode cX11_rank 73 = .ok (.imul, 1) := by decide +kernel
theorem dX11_rank_74 : decode cX11_rank 74 = .ok (.iconst 5, 1) := by decide +kernel
theorem dX11_rank_75 : decode cX11_rank 75 = .ok (.iadd, 1) := by decide +kernel
theorem dX11_rank_76 : decode cX11_rank 76 = .ok (.laload, 1) := by decide +kernel
theorem dX11_rank_77 : decode cX11_rank 77 = .ok (.lstore 5, 2) := by decide +kernel
theorem dX11_rank_79 : decode cX11_rank 79 = .ok (.aload_n 0, 1) := by decide +kernel
theorem dX11_rank_80 : decode cX11_rank 80 = .ok (.getfield 69, 3) := by decide +kernel
theorem dX11_rank_83 : decode cX11_rank 83 = .ok (.bipush 6, 2) := by decide +kernel
theorem dX11_rank_85 : decode cX11_rank 85 = .ok (.iload_n 2, 1) := by decide +kernel
theorem dX11_rank_86 : decode cX11_rank 86 = .ok (.imul, 1) := by decide +kernel
theorem dX11_rank_87 : decode cX11_rank 87 = .ok (.iconst 5, 1) := by decide +kernel
theorem dX11_rank_88 : decode cX11_rank 88 = .ok (.iadd, 1) := by decide +kernel
theorem dX11_rank_89 : decode cX11_rank 89 = .ok (.laload, 1) := by decide +kernel
theorem dX11_rank_90 : decode cX11_rank 90 = .ok (.lstore 7, 2) := by decide +kernel
theorem dX11_rank_92 : decode cX11_rank 92 = .ok (.iload_n 3, 1) := by decide +kernel
theorem dX11_rank_93 : decode cX11_rank 93 = .ok (.aload_n 0, 1) := by decide +kernel
theorem dX11_rank_94 : decode cX11_rank 94 = .ok (.iload 4, 2) := by decide +kernel
theorem dX11_rank_96 : decode cX11_rank 96 = .ok (.invokevirtual 331, 3) := by decide +kernel
theorem dX11_rank_99 : decode cX11_rank 99 = .ok (.ifCond .eq 29, 3) := by decide +kernel
theorem dX11_rank_102 : decode cX11_rank 102 = .ok (.lload 5, 2) := by decide +kernel
theorem dX11_rank_104 : decode cX11_rank 104 = .ok (.lload 7, 2) := by decide +kernel
theorem dX11_rank_106 : decode cX11_rank 106 = .ok (.lcmp, 1) := by decide +kernel
theorem dX11_rank_107 : decode cX11_rank 107 = .ok (.ifCond .gt 17, 3) := by decide +kernel
theorem dX11_rank_110 : decode cX11_rank 110 = .ok (.lload 5, 2) := by decide +kernel
theorem dX11_rank_112 : decode cX11_rank 112 = .ok (.lload 7, 2) := by decide +kernel
theorem dX11_rank_114 : decode cX11_rank 114 = .ok (.lcmp, 1) := by decide +kernel
theorem dX11_rank_115 : decode cX11_rank 115 = .ok (.ifCond .ne 13, 3) := by decide +kernel
theorem dX11_rank_118 : decode cX11_rank 118 = .ok (.iload 4, 2) := by decide +kernel
theorem dX11_rank_120 : decode cX11_rank 120 = .ok (.iload_n 2, 1) := by decide +kernel
theorem dX11_rank_121 : decode cX11_rank 121 = .ok (.if_icmp .ge 7, 3) := by decide +kernel
theorem dX11_rank_124 : decode cX11_rank 124 = .ok (.iconst 1, 1) := by decide +kernel
theorem dX11_rank_125 : decode cX11_rank 125 = .ok (.goto 4, 3) := by decide +kernel
theorem dX11_rank_128 : decode cX11_rank 128 = .ok (.iconst 0, 1) := by decide +kernel
theorem dX11_rank_129 : decode cX11_rank 129 = .ok (.invokestatic 391, 3) := by decide +kernel
theorem dX11_rank_132 : decode cX11_rank 132 = .ok (.iadd, 1) := by decide +kernel
theorem dX11_rank_133 : decode cX11_rank 133 = .ok (.istore_n 3, 1) := by decide +kernel
theorem dX11_rank_134 : decode cX11_rank 134 = .ok (.iinc 4 1, 3) := by decide +kernel
theorem dX11_rank_137 : decode cX11_rank 137 = .ok (.goto (-85), 3) := by decide +kernel
theorem dX11_rank_140 : decode cX11_rank 140 = .ok (.iload_n 3, 1) := by decide +kernel
theorem dX11_rank_141 : decode cX11_rank 141 = .ok (.iload_n 1, 1) := by decide +kernel
theorem dX11_rank_142 : decode cX11_rank 142 = .ok (.if_icmp .ne 5, 3) := by decide +kernel
theorem dX11_rank_145 : decode cX11_rank 145 = .ok (.iload_n 2, 1) := by decide +kernel
theorem dX11_rank_146 : decode cX11_rank 146 = .ok (.ireturn, 1) := by decide +kernel
theorem dX11_rank_147 : decode cX11_rank 147 = .ok (.iinc 2 1, 3) := by decide +kernel
theorem dX11_rank_150 : decode cX11_rank 150 = .ok (.goto (-126), 3) := by decide +kernel
theorem dX11_rank_153 : decode cX11_rank 153 = .ok (.iconst (-1), 1) := by decide +kernel
theorem dX11_rank_154 : decode cX11_rank 154 = .ok (.ireturn, 1) := by decide +kernel
theorem dX11_alone_0 : decode cX11_alone 0 = .ok (.iload_n 1, 1) := by decide +kernel
theorem dX11_alone_1 : decode cX11_alone 1 = .ok (.i2l, 1) := by decide +kernel
theorem dX11_alone_2 : decode cX11_alone 2 = .ok (.lconst 0, 1) := by decide +kernel
theorem dX11_alone_3 : decode cX11_alone 3 = .ok (.aload_n 0, 1) := by decide +kernel
theorem dX11_alone_4 : decode cX11_alone 4 = .ok (.getfield 9, 3) := by decide +kernel
theorem dX11_alone_7 : decode cX11_alone 7 = .ok (.bipush 7, 2) := by decide +kernel
theorem dX11_alone_9 : decode cX11_alone 9 = .ok (.laload, 1) := by decide +kernel
theorem dX11_alone_10 : decode cX11_alone 10 = .ok (.lconst 1, 1) := by decide +kernel
theorem dX11_alone_11 : decode cX11_alone 11 = .ok (.lsub, 1) := by decide +kernel
theorem dX11_alone_12 : decode cX11_alone 12 = .ok (.invokestatic 126, 3) := by decide +kernel
theorem dX11_alone_15 : decode cX11_alone 15 = .ok (.ifCond .eq 15, 3) := by decide +kernel
theorem dX11_alone_18 : decode cX11_alone 18 = .ok (.iload_n 2, 1) := by decide +kernel
theorem dX11_alone_19 : decode cX11_alone 19 = .ok (.i2l, 1) := by decide +kernel
theorem dX11_alone_20 : decode cX11_alone 20 = .ok (.lconst 0, 1) := by decide +kernel
theorem dX11_alone_21 : decode cX11_alone 21 = .ok (.ldc2_w 450, 3) := by decide +kernel
theorem dX11_alone_24 : decode cX11_alone 24 = .ok (.invokestatic 126, 3) := by decide +kernel
theorem dX11_alone_27 : decode cX11_alone 27 = .ok (.ifCond .ne 7, 3) := by decide +kernel
theorem dX11_alone_30 : decode cX11_alone 30 = .ok (.ldc2_w 402, 3) := by decide +kernel
theorem dX11_alone_33 : decode cX11_alone 33 = .ok (.lreturn, 1) := by decide +kernel
theorem dX11_alone_34 : decode cX11_alone 34 = .ok (.lconst 0, 1) := by decide +kernel
theorem dX11_alone_35 : decode cX11_alone 35 = .ok (.lstore_n 3, 1) := by decide +kernel
theorem dX11_alone_36 : decode cX11_alone 36 = .ok (.iconst 0, 1) := by decide +kernel
theorem dX11_alone_37 : decode cX11_alone 37 = .ok (.istore 5, 2) := by decide +kernel
theorem dX11_alone_39 : decode cX11_alone 39 = .ok (.iload 5, 2) := by decide +kernel
theorem dX11_alone_41 : decode cX11_alone 41 = .ok (.i2l, 1) := by decide +kernel
theorem dX11_alone_42 : decode cX11_alone 42 = .ok (.aload_n 0, 1) := by decide +kernel
theorem dX11_alone_43 : decode cX11_alone 43 = .ok (.getfield 9, 3) := by decide +kernel
theorem dX11_alone_46 : decode cX11_alone 46 = .ok (.bipush 6, 2) := by decide +kernel
theorem dX11_alone_48 : decode cX11_alone 48 = .ok (.laload, 1) := by decide +kernel
theorem dX11_alone_49 : decode cX11_alone 49 = .ok (.lcmp, 1) := by decide +kernel
theorem dX11_alone_50 : decode cX11_alone 50 = .ok (.ifCond .ge 55, 3) := by decide +kernel
theorem dX11_alone_53 : decode cX11_alone 53 = .ok (.lload_n 3, 1) := by decide +kernel
theorem dX11_alone_54 : decode cX11_alone 54 = .ok (.aload_n 0, 1) := by decide +kernel
theorem dX11_alone_55 : decode cX11_alone 55 = .ok (.iload 5, 2) := by decide +kernel
theorem dX11_alone_57 : decode cX11_alone 57 = .ok (.invokevirtual 388, 3) := by decide +kernel
theorem dX11_alone_60 : decode cX11_alone 60 = .ok (.ifCond .eq 36, 3) := by decide +kernel
theorem dX11_alone_63 : decode cX11_alone 63 = .ok (.aload_n 0, 1) := by decide +kernel
theorem dX11_alone_64 : decode cX11_alone 64 = .ok (.iload 5, 2) := by decide +kernel
theorem dX11_alone_66 : decode cX11_alone 66 = .ok (.iconst 3, 1) := by decide +kernel
theorem dX11_alone_67 : decode cX11_alone 67 = .ok (.invokevirtual 334, 3) := by decide +kernel
theorem dX11_alone_70 : decode cX11_alone 70 = .ok (.iload_n 2, 1) := by decide +kernel
theorem dX11_alone_71 : decode cX11_alone 71 = .ok (.if_icmp .ne 25, 3) := by decide +kernel
theorem dX11_alone_74 : decode cX11_alone 74 = .ok (.aload_n 0, 1) := by decide +kernel
theorem dX11_alone_75 : decode cX11_alone 75 = .ok (.iload 5, 2) := by decide +kernel
theorem dX11_alone_77 : decode cX11_alone 77 = .ok (.ldc2_w 352, 3) := by decide +kernel
theorem dX11_alone_80 : decode cX11_alone 80 = .ok (.aload_n 0, 1) := by decide +kernel
theorem dX11_alone_81 : decode cX11_alone 81 = .ok (.iload_n 1, 1) := by decide +kernel
theorem dX11_alone_82 : decode cX11_alone 82 = .ok (.iload 5, 2) := by decide +kernel
theorem dX11_alone_84 : decode cX11_alone 84 = .ok (.invokevirtual 354, 3) := by decide +kernel
theorem dX11_alone_87 : decode cX11_alone 87 = .ok (.invokestatic 308, 3) := by decide +kernel
theorem dX11_alone_90 : decode cX11_alone 90 = .ok (.invokevirtual 370, 3) := by decide +kernel
theorem dX11_alone_93 : decode cX11_alone 93 = .ok (.goto 4, 3) := by decide +kernel
theorem dX11_alone_96 : decode cX11_alone 96 = .ok (.lconst 0, 1) := by decide +kernel
theorem dX11_alone_97 : decode cX11_alone 97 = .ok (.ladd, 1) := by decide +kernel
theorem dX11_alone_98 : decode cX11_alone 98 = .ok (.lstore_n 3, 1) := by decide +kernel
theorem dX11_alone_99 : decode cX11_alone 99 = .ok (.iinc 5 1, 3) := by decide +kernel
theorem dX11_alone_102 : decode cX11_alone 102 = .ok (.goto (-63), 3) := by decide +kernel
theorem dX11_alone_105 : decode cX11_alone 105 = .ok (.lload_n 3, 1) := by decide +kernel
theorem dX11_alone_106 : decode cX11_alone 106 = .ok (.lreturn, 1) := by decide +kernel
theorem dX11_look_0 : decode cX11_look 0 = .ok (.iconst 0, 1) := by decide +kernel
theorem dX11_look_1 : decode cX11_look 1 = .ok (.istore_n 2, 1) := by decide +kernel
theorem dX11_look_2 : decode cX11_look 2 = .ok (.iconst 0, 1) := by decide +kernel
theorem dX11_look_3 : decode cX11_look 3 = .ok (.istore_n 3, 1) := by decide +kernel
theorem dX11_look_4 : decode cX11_look 4 = .ok (.iload_n 3, 1) := by decide +kernel
theorem dX11_look_5 : decode cX11_look 5 = .ok (.i2l, 1) := by decide +kernel
theorem dX11_look_6 : decode cX11_look 6 = .ok (.aload_n 0, 1) := by decide +kernel
theorem dX11_look_7 : decode cX11_look 7 = .ok (.getfield 9, 3) := by decide +kernel
theorem dX11_look_10 : decode cX11_look 10 = .ok (.bipush 6, 2) := by decide +kernel
theorem dX11_look_12 : decode cX11_look 12 = .ok (.laload, 1) := by decide +kernel
theorem dX11_look_13 : decode cX11_look 13 = .ok (.lcmp, 1) := by decide +kernel
theorem dX11_look_14 : decode cX11_look 14 = .ok (.ifCond .ge 20, 3) := by decide +kernel
theorem dX11_look_17 : decode cX11_look 17 = .ok (.iload_n 2, 1) := by decide +kernel
theorem dX11_look_18 : decode cX11_look 18 = .ok (.aload_n 0, 1) := by decide +kernel
theorem dX11_look_19 : decode cX11_look 19 = .ok (.iload_n 3, 1) := by decide +kernel
theorem dX11_look_20 : decode cX11_look 20 = .ok (.invokevirtual 388, 3) := by decide +kernel
theorem dX11_look_23 : decode cX11_look 23 = .ok (.invokestatic 391, 3) := by decide +kernel
theorem dX11_look_26 : decode cX11_look 26 = .ok (.iadd, 1) := by decide +kernel
theorem dX11_look_27 : decode cX11_look 27 = .ok (.istore_n 2, 1) := by decide +kernel
theorem dX11_look_28 : decode cX11_look 28 = .ok (.iinc 3 1, 3) := by decide +kernel
theorem dX11_look_31 : decode cX11_look 31 = .ok (.goto (-27), 3) := by decide +kernel
theorem dX11_look_34 : decode cX11_look 34 = .ok (.iload_n 1, 1) := by decide +kernel
theorem dX11_look_35 : decode cX11_look 35 = .ok (.tableswitch 96 0 7 #[45, 50, 52, 61, 69, 74, 79, 87], 45) := by decide +kernel
theorem dX11_look_80 : decode cX11_look 80 = .ok (.aload_n 0, 1) := by decide +kernel
theorem dX11_look_81 : decode cX11_look 81 = .ok (.invokevirtual 429, 3) := by decide +kernel
theorem dX11_look_84 : decode cX11_look 84 = .ok (.ireturn, 1) := by decide +kernel
theorem dX11_look_85 : decode cX11_look 85 = .ok (.iload_n 2, 1) := by decide +kernel
theorem dX11_look_86 : decode cX11_look 86 = .ok (.ireturn, 1) := by decide +kernel
theorem dX11_look_87 : decode cX11_look 87 = .ok (.aload_n 0, 1) := by decide +kernel
theorem dX11_look_88 : decode cX11_look 88 = .ok (.getfield 9, 3) := by decide +kernel
theorem dX11_look_91 : decode cX11_look 91 = .ok (.bipush 7, 2) := by decide +kernel
theorem dX11_look_93 : decode cX11_look 93 = .ok (.laload, 1) := by decide +kernel
theorem dX11_look_94 : decode cX11_look 94 = .ok (.l2i, 1) := by decide +kernel
theorem dX11_look_95 : decode cX11_look 95 = .ok (.ireturn, 1) := by decide +kernel
theorem dX11_look_96 : decode cX11_look 96 = .ok (.aload_n 0, 1) := by decide +kernel
theorem dX11_look_97 : decode cX11_look 97 = .ok (.getfield 9, 3) := by decide +kernel
theorem dX11_look_100 : decode cX11_look 100 = .ok (.iconst 4, 1) := by decide +kernel
theorem dX11_look_101 : decode cX11_look 101 = .ok (.laload, 1) := by decide +kernel
theorem dX11_look_102 : decode cX11_look 102 = .ok (.l2i, 1) := by decide +kernel
theorem dX11_look_103 : decode cX11_look 103 = .ok (.ireturn, 1) := by decide +kernel
theorem dX11_look_104 : decode cX11_look 104 = .ok (.aload_n 0, 1) := by decide +kernel
theorem dX11_look_105 : decode cX11_look 105 = .ok (.getfield 87, 3) := by decide +kernel
theorem dX11_look_108 : decode cX11_look 108 = .ok (.ireturn, 1) := by decide +kernel
theorem dX11_look_109 : decode cX11_look 109 = .ok (.aload_n 0, 1) := by decide +kernel
theorem dX11_look_110 : decode cX11_look 110 = .ok (.getfield 119, 3) := by decide +kernel
theorem dX11_look_113 : decode cX11_look 113 = .ok (.ireturn, 1) := by decide +kernel
theorem dX11_look_114 : decode cX11_look 114 = .ok (.aload_n 0, 1) := by decide +kernel
theorem dX11_look_115 : decode cX11_look 115 = .ok (.getfield 9, 3) := by decide +kernel
theorem dX11_look_118 : decode cX11_look 118 = .ok (.iconst 5, 1) := by decide +kernel
theorem dX11_look_119 : decode cX11_look 119 = .ok (.laload, 1) := by decide +kernel
theorem dX11_look_120 : decode cX11_look 120 = .ok (.l2i, 1) := by decide +kernel
theorem dX11_look_121 : decode cX11_look 121 = .ok (.ireturn, 1) := by decide +kernel
theorem dX11_look_122 : decode cX11_look 122 = .ok (.aload_n 0, 1) := by decide +kernel
theorem dX11_look_123 : decode cX11_look 123 = .ok (.getfield 9, 3) := by decide +kernel
theorem dX11_look_126 : decode cX11_look 126 = .ok (.bipush 6, 2) := by decide +kernel
theorem dX11_look_128 : decode cX11_look 128 = .ok (.laload, 1) := by decide +kernel
theorem dX11_look_129 : decode cX11_look 129 = .ok (.l2i, 1) := by decide +kernel
theorem dX11_look_130 : decode cX11_look 130 = .ok (.ireturn, 1) := by decide +kernel
theorem dX11_look_131 : decode cX11_look 131 = .ok (.iconst (-1), 1) := by decide +kernel
theorem dX11_look_132 : decode cX11_look 132 = .ok (.ireturn, 1) := by decide +kernel

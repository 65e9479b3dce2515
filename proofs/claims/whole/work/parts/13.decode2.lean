theorem dX6_init_0 : decode cX6_init 0 = .ok (.aload_n 0, 1) := by decide +kernel
theorem dX6_init_1 : decode cX6_init 1 = .ok (.invokespecial 1, 3) := by decide +kernel
theorem dX6_init_4 : decode cX6_init 4 = .ok (.aload_n 0, 1) := by decide +kernel
theorem dX6_init_5 : decode cX6_init 5 = .ok (.bipush 8, 2) := by decide +kernel
theorem dX6_init_7 : decode cX6_init 7 = .ok (.newarray .int, 2) := by decide +kernel
theorem dX6_init_9 : decode cX6_init 9 = .ok (.putfield 7, 3) := by decide +kernel
theorem dX6_init_12 : decode cX6_init 12 = .ok (.aload_n 0, 1) := by decide +kernel
theorem dX6_init_13 : decode cX6_init 13 = .ok (.bipush 8, 2) := by decide +kernel
theorem dX6_init_15 : decode cX6_init 15 = .ok (.newarray .int, 2) := by decide +kernel
theorem dX6_init_17 : decode cX6_init 17 = .ok (.putfield 13, 3) := by decide +kernel
theorem dX6_init_20 : decode cX6_init 20 = .ok (.aload_n 0, 1) := by decide +kernel
theorem dX6_init_21 : decode cX6_init 21 = .ok (.bipush 8, 2) := by decide +kernel
theorem dX6_init_23 : decode cX6_init 23 = .ok (.newarray .boolean, 2) := by decide +kernel
theorem dX6_init_25 : decode cX6_init 25 = .ok (.putfield 16, 3) := by decide +kernel
theorem dX6_init_28 : decode cX6_init 28 = .ok (.aload_n 0, 1) := by decide +kernel
theorem dX6_init_29 : decode cX6_init 29 = .ok (.bipush 8, 2) := by decide +kernel
theorem dX6_init_31 : decode cX6_init 31 = .ok (.newarray .int, 2) := by decide +kernel
theorem dX6_init_33 : decode cX6_init 33 = .ok (.putfield 20, 3) := by decide +kernel
theorem dX6_init_36 : decode cX6_init 36 = .ok (.aload_n 0, 1) := by decide +kernel
theorem dX6_init_37 : decode cX6_init 37 = .ok (.sipush 200, 3) := by decide +kernel
theorem dX6_init_40 : decode cX6_init 40 = .ok (.newarray .int, 2) := by decide +kernel
theorem dX6_init_42 : decode cX6_init 42 = .ok (.putfield 23, 3) := by decide +kernel
theorem dX6_init_45 : decode cX6_init 45 = .ok (.aload_n 0, 1) := by decide +kernel
theorem dX6_init_46 : decode cX6_init 46 = .ok (.sipush 200, 3) := by decide +kernel
theorem dX6_init_49 : decode cX6_init 49 = .ok (.newarray .int, 2) := by decide +kernel
theorem dX6_init_51 : decode cX6_init 51 = .ok (.putfield 26, 3) := by decide +kernel
theorem dX6_init_54 : decode cX6_init 54 = .ok (.aload_n 0, 1) := by decide +kernel
theorem dX6_init_55 : decode cX6_init 55 = .ok (.sipush 200, 3) := by decide +kernel
theorem dX6_init_58 : decode cX6_init 58 = .ok (.newarray .int, 2) := by decide +kernel
theorem dX6_init_60 : decode cX6_init 60 = .ok (.putfield 29, 3) := by decide +kernel
theorem dX6_init_63 : decode cX6_init 63 = .ok (.aload_n 0, 1) := by decide +kernel
theorem dX6_init_64 : decode cX6_init 64 = .ok (.sipush 200, 3) := by decide +kernel
theorem dX6_init_67 : decode cX6_init 67 = .ok (.newarray .int, 2) := by decide +kernel
theorem dX6_init_69 : decode cX6_init 69 = .ok (.putfield 32, 3) := by decide +kernel
theorem dX6_init_72 : decode cX6_init 72 = .ok (.aload_n 0, 1) := by decide +kernel
theorem dX6_init_73 : decode cX6_init 73 = .ok (.sipush 200, 3) := by decide +kernel
theorem dX6_init_76 : decode cX6_init 76 = .ok (.newarray .boolean, 2) := by decide +kernel
theorem dX6_init_78 : decode cX6_init 78 = .ok (.putfield 35, 3) := by decide +kernel
theorem dX6_init_81 : decode cX6_init 81 = .ok (.aload_n 0, 1) := by decide +kernel
theorem dX6_init_82 : decode cX6_init 82 = .ok (.sipush 200, 3) := by decide +kernel
theorem dX6_init_85 : decode cX6_init 85 = .ok (.newarray .int, 2) := by decide +kernel
theorem dX6_init_87 : decode cX6_init 87 = .ok (.putfield 38, 3) := by decide +kernel
theorem dX6_init_90 : decode cX6_init 90 = .ok (.aload_n 0, 1) := by decide +kernel
theorem dX6_init_91 : decode cX6_init 91 = .ok (.sipush 300, 3) := by decide +kernel
theorem dX6_init_94 : decode cX6_init 94 = .ok (.newarray .int, 2) := by decide +kernel
theorem dX6_init_96 : decode cX6_init 96 = .ok (.putfield 41, 3) := by decide +kernel
theorem dX6_init_99 : decode cX6_init 99 = .ok (.aload_n 0, 1) := by decide +kernel
theorem dX6_init_100 : decode cX6_init 100 = .ok (.sipush 300, 3) := by decide +kernel
theorem dX6_init_103 : decode cX6_init 103 = .ok (.newarray .int, 2) := by decide +kernel
theorem dX6_init_105 : decode cX6_init 105 = .ok (.putfield 44, 3) := by decide +kernel
theorem dX6_init_108 : decode cX6_init 108 = .ok (.aload_n 0, 1) := by decide +kernel
theorem dX6_init_109 : decode cX6_init 109 = .ok (.sipush 300, 3) := by decide +kernel
theorem dX6_init_112 : decode cX6_init 112 = .ok (.newarray .int, 2) := by decide +kernel
theorem dX6_init_114 : decode cX6_init 114 = .ok (.putfield 47, 3) := by decide +kernel
theorem dX6_init_117 : decode cX6_init 117 = .ok (.aload_n 0, 1) := by decide +kernel
theorem dX6_init_118 : decode cX6_init 118 = .ok (.sipush 9000, 3) := by decide +kernel
theorem dX6_init_121 : decode cX6_init 121 = .ok (.newarray .int, 2) := by decide +kernel
theorem dX6_init_123 : decode cX6_init 123 = .ok (.putfield 50, 3) := by decide +kernel
theorem dX6_init_126 : decode cX6_init 126 = .ok (.aload_n 0, 1) := by decide +kernel
theorem dX6_init_127 : decode cX6_init 127 = .ok (.sipush 9000, 3) := by decide +kernel
theorem dX6_init_130 : decode cX6_init 130 = .ok (.newarray .int, 2) := by decide +kernel
theorem dX6_init_132 : decode cX6_init 132 = .ok (.putfield 53, 3) := by decide +kernel
theorem dX6_init_135 : decode cX6_init 135 = .ok (.aload_n 0, 1) := by decide +kernel
theorem dX6_init_136 : decode cX6_init 136 = .ok (.sipush 9000, 3) := by decide +kernel
theorem dX6_init_139 : decode cX6_init 139 = .ok (.newarray .int, 2) := by decide +kernel
theorem dX6_init_141 : decode cX6_init 141 = .ok (.putfield 56, 3) := by decide +kernel
theorem dX6_init_144 : decode cX6_init 144 = .ok (.aload_n 0, 1) := by decide +kernel
theorem dX6_init_145 : decode cX6_init 145 = .ok (.sipush 9000, 3) := by decide +kernel
theorem dX6_init_148 : decode cX6_init 148 = .ok (.newarray .boolean, 2) := by decide +kernel
theorem dX6_init_150 : decode cX6_init 150 = .ok (.putfield 59, 3) := by decide +kernel
theorem dX6_init_153 : decode cX6_init 153 = .ok (.aload_n 0, 1) := by decide +kernel
theorem dX6_init_154 : decode cX6_init 154 = .ok (.sipush 200, 3) := by decide +kernel
theorem dX6_init_157 : decode cX6_init 157 = .ok (.newarray .int, 2) := by decide +kernel
theorem dX6_init_159 : decode cX6_init 159 = .ok (.putfield 62, 3) := by decide +kernel
theorem dX6_init_162 : decode cX6_init 162 = .ok (.aload_n 0, 1) := by decide +kernel
theorem dX6_init_163 : decode cX6_init 163 = .ok (.sipush 200, 3) := by decide +kernel
theorem dX6_init_166 : decode cX6_init 166 = .ok (.newarray .int, 2) := by decide +kernel
theorem dX6_init_168 : decode cX6_init 168 = .ok (.putfield 65, 3) := by decide +kernel
theorem dX6_init_171 : decode cX6_init 171 = .ok (.aload_n 0, 1) := by decide +kernel
theorem dX6_init_172 : decode cX6_init 172 = .ok (.bipush 8, 2) := by decide +kernel
theorem dX6_init_174 : decode cX6_init 174 = .ok (.newarray .boolean, 2) := by decide +kernel
theorem dX6_init_176 : decode cX6_init 176 = .ok (.putfield 68, 3) := by decide +kernel
theorem dX6_init_179 : decode cX6_init 179 = .ok (.aload_n 0, 1) := by decide +kernel
theorem dX6_init_180 : decode cX6_init 180 = .ok (.iload_n 1, 1) := by decide +kernel
theorem dX6_init_181 : decode cX6_init 181 = .ok (.iconst 1, 1) := by decide +kernel
theorem dX6_init_182 : decode cX6_init 182 = .ok (.if_icmp .ge 7, 3) := by decide +kernel
theorem dX6_init_185 : decode cX6_init 185 = .ok (.iconst 1, 1) := by decide +kernel
theorem dX6_init_186 : decode cX6_init 186 = .ok (.goto 17, 3) := by decide +kernel
theorem dX6_init_189 : decode cX6_init 189 = .ok (.iload_n 1, 1) := by decide +kernel
theorem dX6_init_190 : decode cX6_init 190 = .ok (.sipush 30000, 3) := by decide +kernel
theorem dX6_init_193 : decode cX6_init 193 = .ok (.if_icmp .le 9, 3) := by decide +kernel
theorem dX6_init_196 : decode cX6_init 196 = .ok (.sipush 30000, 3) := by decide +kernel
theorem dX6_init_199 : decode cX6_init 199 = .ok (.goto 4, 3) := by decide +kernel
theorem dX6_init_202 : decode cX6_init 202 = .ok (.iload_n 1, 1) := by decide +kernel
theorem dX6_init_203 : decode cX6_init 203 = .ok (.putfield 71, 3) := by decide +kernel
theorem dX6_init_206 : decode cX6_init 206 = .ok (.return_, 1) := by decide +kernel
theorem dX6_in_0 : decode cX6_in 0 = .ok (.iload_n 0, 1) := by decide +kernel
theorem dX6_in_1 : decode cX6_in 1 = .ok (.iload_n 1, 1) := by decide +kernel
theorem dX6_in_2 : decode cX6_in 2 = .ok (.if_icmp .lt 12, 3) := by decide +kernel
theorem dX6_in_5 : decode cX6_in 5 = .ok (.iload_n 0, 1) := by decide +kernel
theorem dX6_in_6 : decode cX6_in 6 = .ok (.iload_n 2, 1) := by decide +kernel
theorem dX6_in_7 : decode cX6_in 7 = .ok (.if_icmp .gt 7, 3) := by decide +kernel
theorem dX6_in_10 : decode cX6_in 10 = .ok (.iconst 1, 1) := by decide +kernel
theorem dX6_in_11 : decode cX6_in 11 = .ok (.goto 4, 3) := by decide +kernel
theorem dX6_in_14 : decode cX6_in 14 = .ok (.iconst 0, 1) := by decide +kernel
theorem dX6_in_15 : decode cX6_in 15 = .ok (.ireturn, 1) := by decide +kernel
theorem dX6_isClass_0 : decode cX6_isClass 0 = .ok (.iload_n 1, 1) := by decide +kernel
theorem dX6_isClass_1 : decode cX6_isClass 1 = .ok (.iconst 0, 1) := by decide +kernel
theorem dX6_isClass_2 : decode cX6_isClass 2 = .ok (.aload_n 0, 1) := by decide +kernel
theorem dX6_isClass_3 : decode cX6_isClass 3 = .ok (.getfield 75, 3) := by decide +kernel
theorem dX6_isClass_6 : decode cX6_isClass 6 = .ok (.iconst 1, 1) := by decide +kernel
theorem dX6_isClass_7 : decode cX6_isClass 7 = .ok (.isub, 1) := by decide +kernel
theorem dX6_isClass_8 : decode cX6_isClass 8 = .ok (.invokestatic 78, 3) := by decide +kernel
theorem dX6_isClass_11 : decode cX6_isClass 11 = .ok (.ireturn, 1) := by decide +kernel
theorem dX6_cls_0 : decode cX6_cls 0 = .ok (.iload_n 1, 1) := by decide +kernel
theorem dX6_cls_1 : decode cX6_cls 1 = .ok (.iconst (-1), 1) := by decide +kernel
theorem dX6_cls_2 : decode cX6_cls 2 = .ok (.sipush 10000, 3) := by decide +kernel
theorem dX6_cls_5 : decode cX6_cls 5 = .ok (.invokestatic 78, 3) := by decide +kernel
theorem dX6_cls_8 : decode cX6_cls 8 = .ok (.ifCond .eq 14, 3) := by decide +kernel
theorem dX6_cls_11 : decode cX6_cls 11 = .ok (.iload_n 2, 1) := by decide +kernel
theorem dX6_cls_12 : decode cX6_cls 12 = .ok (.iconst 0, 1) := by decide +kernel
theorem dX6_cls_13 : decode cX6_cls 13 = .ok (.sipush 10000, 3) := by decide +kernel
theorem dX6_cls_16 : decode cX6_cls 16 = .ok (.invokestatic 78, 3) := by decide +kernel
theorem dX6_cls_19 : decode cX6_cls 19 = .ok (.ifCond .ne 6, 3) := by decide +kernel
theorem dX6_cls_22 : decode cX6_cls 22 = .ok (.bipush (-2), 2) := by decide +kernel
theorem dX6_cls_24 : decode cX6_cls 24 = .ok (.ireturn, 1) := by decide +kernel
theorem dX6_cls_25 : decode cX6_cls 25 = .ok (.aload_n 0, 1) := by decide +kernel
theorem dX6_cls_26 : decode cX6_cls 26 = .ok (.getfield 75, 3) := by decide +kernel
theorem dX6_cls_29 : decode cX6_cls 29 = .ok (.bipush 8, 2) := by decide +kernel
theorem dX6_cls_31 : decode cX6_cls 31 = .ok (.if_icmp .ne 6, 3) := by decide +kernel
theorem dX6_cls_34 : decode cX6_cls 34 = .ok (.bipush (-4), 2) := by decide +kernel
theorem dX6_cls_36 : decode cX6_cls 36 = .ok (.ireturn, 1) := by decide +kernel
theorem dX6_cls_37 : decode cX6_cls 37 = .ok (.aload_n 0, 1) := by decide +kernel
theorem dX6_cls_38 : decode cX6_cls 38 = .ok (.getfield 7, 3) := by decide +kernel
theorem dX6_cls_41 : decode cX6_cls 41 = .ok (.aload_n 0, 1) := by decide +kernel
theorem dX6_cls_42 : decode cX6_cls 42 = .ok (.getfield 75, 3) := by decide +kernel
theorem dX6_cls_45 : decode cX6_cls 45 = .ok (.iload_n 1, 1) := by decide +kernel
theorem dX6_cls_46 : decode cX6_cls 46 = .ok (.iastore, 1) := by decide +kernel
theorem dX6_cls_47 : decode cX6_cls 47 = .ok (.aload_n 0, 1) := by decide +kernel
theorem dX6_cls_48 : decode cX6_cls 48 = .ok (.getfield 13, 3) := by decide +kernel
theorem dX6_cls_51 : decode cX6_cls 51 = .ok (.aload_n 0, 1) := by decide +kernel
theorem dX6_cls_52 : decode cX6_cls 52 = .ok (.getfield 75, 3) := by decide +kernel
theorem dX6_cls_55 : decode cX6_cls 55 = .ok (.iload_n 2, 1) := by decide +kernel
theorem dX6_cls_56 : decode cX6_cls 56 = .ok (.iastore, 1) := by decide +kernel
theorem dX6_cls_57 : decode cX6_cls 57 = .ok (.aload_n 0, 1) := by decide +kernel
theorem dX6_cls_58 : decode cX6_cls 58 = .ok (.getfield 16, 3) := by decide +kernel
theorem dX6_cls_61 : decode cX6_cls 61 = .ok (.aload_n 0, 1) := by decide +kernel
theorem dX6_cls_62 : decode cX6_cls 62 = .ok (.getfield 75, 3) := by decide +kernel
theorem dX6_cls_65 : decode cX6_cls 65 = .ok (.iload_n 3, 1) := by decide +kernel
theorem dX6_cls_66 : decode cX6_cls 66 = .ok (.bastore, 1) := by decide +kernel
theorem dX6_cls_67 : decode cX6_cls 67 = .ok (.aload_n 0, 1) := by decide +kernel
theorem dX6_cls_68 : decode cX6_cls 68 = .ok (.dup, 1) := by decide +kernel
theorem dX6_cls_69 : decode cX6_cls 69 = .ok (.getfield 75, 3) := by decide +kernel
theorem dX6_cls_72 : decode cX6_cls 72 = .ok (.iconst 1, 1) := by decide +kernel
theorem dX6_cls_73 : decode cX6_cls 73 = .ok (.iadd, 1) := by decide +kernel
theorem dX6_cls_74 : decode cX6_cls 74 = .ok (.putfield 75, 3) := by decide +kernel
theorem dX6_cls_77 : decode cX6_cls 77 = .ok (.aload_n 0, 1) := by decide +kernel
theorem dX6_cls_78 : decode cX6_cls 78 = .ok (.getfield 75, 3) := by decide +kernel
theorem dX6_cls_81 : decode cX6_cls 81 = .ok (.iconst 1, 1) := by decide +kernel
theorem dX6_cls_82 : decode cX6_cls 82 = .ok (.isub, 1) := by decide +kernel
theorem dX6_cls_83 : decode cX6_cls 83 = .ok (.ireturn, 1) := by decide +kernel
theorem dX6_insert_0 : decode cX6_insert 0 = .ok (.aload_n 0, 1) := by decide +kernel
theorem dX6_insert_1 : decode cX6_insert 1 = .ok (.iload_n 1, 1) := by decide +kernel
theorem dX6_insert_2 : decode cX6_insert 2 = .ok (.invokevirtual 82, 3) := by decide +kernel
theorem dX6_insert_5 : decode cX6_insert 5 = .ok (.ifCond .ne 5, 3) := by decide +kernel
theorem dX6_insert_8 : decode cX6_insert 8 = .ok (.iconst (-1), 1) := by decide +kernel
theorem dX6_insert_9 : decode cX6_insert 9 = .ok (.ireturn, 1) := by decide +kernel
theorem dX6_insert_10 : decode cX6_insert 10 = .ok (.iload_n 2, 1) := by decide +kernel
theorem dX6_insert_11 : decode cX6_insert 11 = .ok (.iconst 1, 1) := by decide +kernel
theorem dX6_insert_12 : decode cX6_insert 12 = .ok (.sipush 10000, 3) := by decide +kernel
theorem dX6_insert_15 : decode cX6_insert 15 = .ok (.invokestatic 78, 3) := by decide +kernel
theorem dX6_insert_18 : decode cX6_insert 18 = .ok (.ifCond .eq 13, 3) := by decide +kernel
theorem dX6_insert_21 : decode cX6_insert 21 = .ok (.iload_n 3, 1) := by decide +kernel
theorem dX6_insert_22 : decode cX6_insert 22 = .ok (.iconst 0, 1) := by decide +kernel
theorem dX6_insert_23 : decode cX6_insert 23 = .ok (.bipush 39, 2) := by decide +kernel
theorem dX6_insert_25 : decode cX6_insert 25 = .ok (.invokestatic 78, 3) := by decide +kernel
theorem dX6_insert_28 : decode cX6_insert 28 = .ok (.ifCond .ne 6, 3) := by decide +kernel
theorem dX6_insert_31 : decode cX6_insert 31 = .ok (.bipush (-2), 2) := by decide +kernel
theorem dX6_insert_33 : decode cX6_insert 33 = .ok (.ireturn, 1) := by decide +kernel
theorem dX6_insert_34 : decode cX6_insert 34 = .ok (.iload_n 3, 1) := by decide +kernel
theorem dX6_insert_35 : decode cX6_insert 35 = .ok (.aload_n 0, 1) := by decide +kernel
theorem dX6_insert_36 : decode cX6_insert 36 = .ok (.getfield 86, 3) := by decide +kernel
theorem dX6_insert_39 : decode cX6_insert 39 = .ok (.if_icmp .ge 6, 3) := by decide +kernel
theorem dX6_insert_42 : decode cX6_insert 42 = .ok (.bipush (-3), 2) := by decide +kernel
theorem dX6_insert_44 : decode cX6_insert 44 = .ok (.ireturn, 1) := by decide +kernel
theorem dX6_insert_45 : decode cX6_insert 45 = .ok (.aload_n 0, 1) := by decide +kernel
theorem dX6_insert_46 : decode cX6_insert 46 = .ok (.getfield 89, 3) := by decide +kernel
theorem dX6_insert_49 : decode cX6_insert 49 = .ok (.sipush 200, 3) := by decide +kernel
theorem dX6_insert_52 : decode cX6_insert 52 = .ok (.if_icmp .ne 6, 3) := by decide +kernel
theorem dX6_insert_55 : decode cX6_insert 55 = .ok (.bipush (-4), 2) := by decide +kernel
theorem dX6_insert_57 : decode cX6_insert 57 = .ok (.ireturn, 1) := by decide +kernel
theorem dX6_insert_58 : decode cX6_insert 58 = .ok (.aload_n 0, 1) := by decide +kernel
theorem dX6_insert_59 : decode cX6_insert 59 = .ok (.getfield 23, 3) := by decide +kernel
theorem dX6_insert_62 : decode cX6_insert 62 = .ok (.aload_n 0, 1) := by decide +kernel
theorem dX6_insert_63 : decode cX6_insert 63 = .ok (.getfield 89, 3) := by decide +kernel
theorem dX6_insert_66 : decode cX6_insert 66 = .ok (.iload_n 1, 1) := by decide +kernel
theorem dX6_insert_67 : decode cX6_insert 67 = .ok (.iastore, 1) := by decide +kernel
theorem dX6_insert_68 : decode cX6_insert 68 = .ok (.aload_n 0, 1) := by decide +kernel
theorem dX6_insert_69 : decode cX6_insert 69 = .ok (.getfield 26, 3) := by decide +kernel
theorem dX6_insert_72 : decode cX6_insert 72 = .ok (.aload_n 0, 1) := by decide +kernel
theorem dX6_insert_73 : decode cX6_insert 73 = .ok (.getfield 89, 3) := by decide +kernel
theorem dX6_insert_76 : decode cX6_insert 76 = .ok (.iload_n 2, 1) := by decide +kernel
theorem dX6_insert_77 : decode cX6_insert 77 = .ok (.iastore, 1) := by decide +kernel
theorem dX6_insert_78 : decode cX6_insert 78 = .ok (.aload_n 0, 1) := by decide +kernel
theorem dX6_insert_79 : decode cX6_insert 79 = .ok (.getfield 29, 3) := by decide +kernel
theorem dX6_insert_82 : decode cX6_insert 82 = .ok (.aload_n 0, 1) := by decide +kernel
theorem dX6_insert_83 : decode cX6_insert 83 = .ok (.getfield 89, 3) := by decide +kernel
theorem dX6_insert_86 : decode cX6_insert 86 = .ok (.iload_n 3, 1) := by decide +kernel
theorem dX6_insert_87 : decode cX6_insert 87 = .ok (.iastore, 1) := by decide +kernel
theorem dX6_insert_88 : decode cX6_insert 88 = .ok (.aload_n 0, 1) := by decide +kernel
theorem dX6_insert_89 : decode cX6_insert 89 = .ok (.dup, 1) := by decide +kernel
theorem dX6_insert_90 : decode cX6_insert 90 = .ok (.getfield 89, 3) := by decide +kernel
theorem dX6_insert_93 : decode cX6_insert 93 = .ok (.iconst 1, 1) := by decide +kernel
theorem dX6_insert_94 : decode cX6_insert 94 = .ok (.iadd, 1) := by decide +kernel
theorem dX6_insert_95 : decode cX6_insert 95 = .ok (.putfield 89, 3) := by decide +kernel
theorem dX6_insert_98 : decode cX6_insert 98 = .ok (.aload_n 0, 1) := by decide +kernel
theorem dX6_insert_99 : decode cX6_insert 99 = .ok (.getfield 89, 3) := by decide +kernel
theorem dX6_insert_102 : decode cX6_insert 102 = .ok (.iconst 1, 1) := by decide +kernel
theorem dX6_insert_103 : decode cX6_insert 103 = .ok (.isub, 1) := by decide +kernel
theorem dX6_insert_104 : decode cX6_insert 104 = .ok (.ireturn, 1) := by decide +kernel
theorem dX6_mark_0 : decode cX6_mark 0 = .ok (.aload_n 0, 1) := by decide +kernel
theorem dX6_mark_1 : decode cX6_mark 1 = .ok (.iload_n 1, 1) := by decide +kernel
theorem dX6_mark_2 : decode cX6_mark 2 = .ok (.invokevirtual 82, 3) := by decide +kernel
theorem dX6_mark_5 : decode cX6_mark 5 = .ok (.ifCond .ne 5, 3) := by decide +kernel
theorem dX6_mark_8 : decode cX6_mark 8 = .ok (.iconst (-1), 1) := by decide +kernel
theorem dX6_mark_9 : decode cX6_mark 9 = .ok (.ireturn, 1) := by decide +kernel
theorem dX6_mark_10 : decode cX6_mark 10 = .ok (.iload_n 3, 1) := by decide +kernel
theorem dX6_mark_11 : decode cX6_mark 11 = .ok (.iconst 0, 1) := by decide +kernel
theorem dX6_mark_12 : decode cX6_mark 12 = .ok (.bipush 39, 2) := by decide +kernel
theorem dX6_mark_14 : decode cX6_mark 14 = .ok (.invokestatic 78, 3) := by decide +kernel
theorem dX6_mark_17 : decode cX6_mark 17 = .ok (.ifCond .ne 6, 3) := by decide +kernel
theorem dX6_mark_20 : decode cX6_mark 20 = .ok (.bipush (-2), 2) := by decide +kernel
theorem dX6_mark_22 : decode cX6_mark 22 = .ok (.ireturn, 1) := by decide +kernel
theorem dX6_mark_23 : decode cX6_mark 23 = .ok (.iload_n 3, 1) := by decide +kernel
theorem dX6_mark_24 : decode cX6_mark 24 = .ok (.aload_n 0, 1) := by decide +kernel
theorem dX6_mark_25 : decode cX6_mark 25 = .ok (.getfield 86, 3) := by decide +kernel
theorem dX6_mark_28 : decode cX6_mark 28 = .ok (.if_icmp .ge 6, 3) := by decide +kernel
theorem dX6_mark_31 : decode cX6_mark 31 = .ok (.bipush (-3), 2) := by decide +kernel
theorem dX6_mark_33 : decode cX6_mark 33 = .ok (.ireturn, 1) := by decide +kernel
theorem dX6_mark_34 : decode cX6_mark 34 = .ok (.aload_n 0, 1) := by decide +kernel
theorem dX6_mark_35 : decode cX6_mark 35 = .ok (.getfield 92, 3) := by decide +kernel
theorem dX6_mark_38 : decode cX6_mark 38 = .ok (.sipush 300, 3) := by decide +kernel
theorem dX6_mark_41 : decode cX6_mark 41 = .ok (.if_icmp .ne 6, 3) := by decide +kernel
theorem dX6_mark_44 : decode cX6_mark 44 = .ok (.bipush (-4), 2) := by decide +kernel
theorem dX6_mark_46 : decode cX6_mark 46 = .ok (.ireturn, 1) := by decide +kernel
theorem dX6_mark_47 : decode cX6_mark 47 = .ok (.aload_n 0, 1) := by decide +kernel
theorem dX6_mark_48 : decode cX6_mark 48 = .ok (.getfield 41, 3) := by decide +kernel
theorem dX6_mark_51 : decode cX6_mark 51 = .ok (.aload_n 0, 1) := by decide +kernel
theorem dX6_mark_52 : decode cX6_mark 52 = .ok (.getfield 92, 3) := by decide +kernel
theorem dX6_mark_55 : decode cX6_mark 55 = .ok (.iload_n 1, 1) := by decide +kernel
theorem dX6_mark_56 : decode cX6_mark 56 = .ok (.iastore, 1) := by decide +kernel
theorem dX6_mark_57 : decode cX6_mark 57 = .ok (.aload_n 0, 1) := by decide +kernel
theorem dX6_mark_58 : decode cX6_mark 58 = .ok (.getfield 47, 3) := by decide +kernel
theorem dX6_mark_61 : decode cX6_mark 61 = .ok (.aload_n 0, 1) := by decide +kernel
theorem dX6_mark_62 : decode cX6_mark 62 = .ok (.getfield 92, 3) := by decide +kernel
theorem dX6_mark_65 : decode cX6_mark 65 = .ok (.iload_n 2, 1) := by decide +kernel
theorem dX6_mark_66 : decode cX6_mark 66 = .ok (.iastore, 1) := by decide +kernel
theorem dX6_mark_67 : decode cX6_mark 67 = .ok (.aload_n 0, 1) := by decide +kernel
theorem dX6_mark_68 : decode cX6_mark 68 = .ok (.getfield 44, 3) := by decide +kernel
theorem dX6_mark_71 : decode cX6_mark 71 = .ok (.aload_n 0, 1) := by decide +kernel
theorem dX6_mark_72 : decode cX6_mark 72 = .ok (.getfield 92, 3) := by decide +kernel
theorem dX6_mark_75 : decode cX6_mark 75 = .ok (.iload_n 3, 1) := by decide +kernel
theorem dX6_mark_76 : decode cX6_mark 76 = .ok (.iastore, 1) := by decide +kernel
theorem dX6_mark_77 : decode cX6_mark 77 = .ok (.aload_n 0, 1) := by decide +kernel
theorem dX6_mark_78 : decode cX6_mark 78 = .ok (.dup, 1) := by decide +kernel
theorem dX6_mark_79 : decode cX6_mark 79 = .ok (.getfield 92, 3) := by decide +kernel
theorem dX6_mark_82 : decode cX6_mark 82 = .ok (.iconst 1, 1) := by decide +kernel
theorem dX6_mark_83 : decode cX6_mark 83 = .ok (.iadd, 1) := by decide +kernel
theorem dX6_mark_84 : decode cX6_mark 84 = .ok (.putfield 92, 3) := by decide +kernel
theorem dX6_mark_87 : decode cX6_mark 87 = .ok (.aload_n 0, 1) := by decide +kernel
theorem dX6_mark_88 : decode cX6_mark 88 = .ok (.getfield 92, 3) := by decide +kernel
theorem dX6_mark_91 : decode cX6_mark 91 = .ok (.ireturn, 1) := by decide +kernel
theorem dX6_standing_0 : decode cX6_standing 0 = .ok (.iconst 0, 1) := by decide +kernel
theorem dX6_standing_1 : decode cX6_standing 1 = .ok (.istore_n 3, 1) := by decide +kernel
theorem dX6_standing_2 : decode cX6_standing 2 = .ok (.iconst 0, 1) := by decide +kernel
theorem dX6_standing_3 : decode cX6_standing 3 = .ok (.istore 4, 2) := by decide +kernel
theorem dX6_standing_5 : decode cX6_standing 5 = .ok (.iload 4, 2) := by decide +kernel
theorem dX6_standing_7 : decode cX6_standing 7 = .ok (.aload_n 0, 1) := by decide +kernel
theorem dX6_standing_8 : decode cX6_standing 8 = .ok (.getfield 95, 3) := by decide +kernel
theorem dX6_standing_11 : decode cX6_standing 11 = .ok (.if_icmp .ge 54, 3) := by decide +kernel
theorem dX6_standing_14 : decode cX6_standing 14 = .ok (.iload_n 3, 1) := by decide +kernel
theorem dX6_standing_15 : decode cX6_standing 15 = .ok (.aload_n 0, 1) := by decide +kernel
theorem dX6_standing_16 : decode cX6_standing 16 = .ok (.getfield 50, 3) := by decide +kernel
theorem dX6_standing_19 : decode cX6_standing 19 = .ok (.iload 4, 2) := by decide +kernel
theorem dX6_standing_21 : decode cX6_standing 21 = .ok (.iaload, 1) := by decide +kernel
theorem dX6_standing_22 : decode cX6_standing 22 = .ok (.iload_n 1, 1) := by decide +kernel
theorem dX6_standing_23 : decode cX6_standing 23 = .ok (.if_icmp .ne 33, 3) := by decide +kernel
theorem dX6_standing_26 : decode cX6_standing 26 = .ok (.iload_n 2, 1) := by decide +kernel
theorem dX6_standing_27 : decode cX6_standing 27 = .ok (.ifCond .lt 19, 3) := by decide +kernel
theorem dX6_standing_30 : decode cX6_standing 30 = .ok (.aload_n 0, 1) := by decide +kernel
theorem dX6_standing_31 : decode cX6_standing 31 = .ok (.getfield 23, 3) := by decide +kernel
theorem dX6_standing_34 : decode cX6_standing 34 = .ok (.aload_n 0, 1) := by decide +kernel
theorem dX6_standing_35 : decode cX6_standing 35 = .ok (.getfield 53, 3) := by decide +kernel
theorem dX6_standing_38 : decode cX6_standing 38 = .ok (.iload 4, 2) := by decide +kernel
theorem dX6_standing_40 : decode cX6_standing 40 = .ok (.iaload, 1) := by decide +kernel
theorem dX6_standing_41 : decode cX6_standing 41 = .ok (.iaload, 1) := by decide +kernel
theorem dX6_standing_42 : decode cX6_standing 42 = .ok (.iload_n 2, 1) := by decide +kernel
theorem dX6_standing_43 : decode cX6_standing 43 = .ok (.if_icmp .ne 13, 3) := by decide +kernel
theorem dX6_standing_46 : decode cX6_standing 46 = .ok (.aload_n 0, 1) := by decide +kernel
theorem dX6_standing_47 : decode cX6_standing 47 = .ok (.getfield 56, 3) := by decide +kernel
theorem dX6_standing_50 : decode cX6_standing 50 = .ok (.iload 4, 2) := by decide +kernel
theorem dX6_standing_52 : decode cX6_standing 52 = .ok (.iaload, 1) := by decide +kernel
theorem dX6_standing_53 : decode cX6_standing 53 = .ok (.goto 4, 3) := by decide +kernel
theorem dX6_standing_56 : decode cX6_standing 56 = .ok (.iconst 0, 1) := by decide +kernel
theorem dX6_standing_57 : decode cX6_standing 57 = .ok (.iadd, 1) := by decide +kernel
theorem dX6_standing_58 : decode cX6_standing 58 = .ok (.istore_n 3, 1) := by decide +kernel
theorem dX6_standing_59 : decode cX6_standing 59 = .ok (.iinc 4 1, 3) := by decide +kernel
theorem dX6_standing_62 : decode cX6_standing 62 = .ok (.goto (-57), 3) := by decide +kernel
theorem dX6_standing_65 : decode cX6_standing 65 = .ok (.iload_n 3, 1) := by decide +kernel
theorem dX6_standing_66 : decode cX6_standing 66 = .ok (.ireturn, 1) := by decide +kernel
theorem dX6_place_0 : decode cX6_place 0 = .ok (.aload_n 0, 1) := by decide +kernel
theorem dX6_place_1 : decode cX6_place 1 = .ok (.getfield 23, 3) := by decide +kernel
theorem dX6_place_4 : decode cX6_place 4 = .ok (.iload_n 1, 1) := by decide +kernel
theorem dX6_place_5 : decode cX6_place 5 = .ok (.iaload, 1) := by decide +kernel
theorem dX6_place_6 : decode cX6_place 6 = .ok (.istore 4, 2) := by decide +kernel
theorem dX6_place_8 : decode cX6_place 8 = .ok (.aload_n 0, 1) := by decide +kernel
theorem dX6_place_9 : decode cX6_place 9 = .ok (.getfield 38, 3) := by decide +kernel
theorem dX6_place_12 : decode cX6_place 12 = .ok (.iload_n 1, 1) := by decide +kernel
theorem dX6_place_13 : decode cX6_place 13 = .ok (.iaload, 1) := by decide +kernel
theorem dX6_place_14 : decode cX6_place 14 = .ok (.ifCond .ne 27, 3) := by decide +kernel
theorem dX6_place_17 : decode cX6_place 17 = .ok (.aload_n 0, 1) := by decide +kernel
theorem dX6_place_18 : decode cX6_place 18 = .ok (.getfield 20, 3) := by decide +kernel
theorem dX6_place_21 : decode cX6_place 21 = .ok (.iload 4, 2) := by decide +kernel
theorem dX6_place_23 : decode cX6_place 23 = .ok (.dup2, 1) := by decide +kernel
theorem dX6_place_24 : decode cX6_place 24 = .ok (.iaload, 1) := by decide +kernel
theorem dX6_place_25 : decode cX6_place 25 = .ok (.iconst 1, 1) := by decide +kernel
theorem dX6_place_26 : decode cX6_place 26 = .ok (.iadd, 1) := by decide +kernel
theorem dX6_place_27 : decode cX6_place 27 = .ok (.iastore, 1) := by decide +kernel
theorem dX6_place_28 : decode cX6_place 28 = .ok (.aload_n 0, 1) := by decide +kernel
theorem dX6_place_29 : decode cX6_place 29 = .ok (.getfield 32, 3) := by decide +kernel
theorem dX6_place_32 : decode cX6_place 32 = .ok (.iload_n 1, 1) := by decide +kernel
theorem dX6_place_33 : decode cX6_place 33 = .ok (.aload_n 0, 1) := by decide +kernel
theorem dX6_place_34 : decode cX6_place 34 = .ok (.getfield 20, 3) := by decide +kernel
theorem dX6_place_37 : decode cX6_place 37 = .ok (.iload 4, 2) := by decide +kernel
theorem dX6_place_39 : decode cX6_place 39 = .ok (.iaload, 1) := by decide +kernel
theorem dX6_place_40 : decode cX6_place 40 = .ok (.iastore, 1) := by decide +kernel
theorem dX6_place_41 : decode cX6_place 41 = .ok (.aload_n 0, 1) := by decide +kernel
theorem dX6_place_42 : decode cX6_place 42 = .ok (.getfield 50, 3) := by decide +kernel
theorem dX6_place_45 : decode cX6_place 45 = .ok (.aload_n 0, 1) := by decide +kernel
theorem dX6_place_46 : decode cX6_place 46 = .ok (.getfield 95, 3) := by decide +kernel
theorem dX6_place_49 : decode cX6_place 49 = .ok (.aload_n 0, 1) := by decide +kernel
theorem dX6_place_50 : decode cX6_place 50 = .ok (.getfield 86, 3) := by decide +kernel
theorem dX6_place_53 : decode cX6_place 53 = .ok (.iastore, 1) := by decide +kernel
theorem dX6_place_54 : decode cX6_place 54 = .ok (.aload_n 0, 1) := by decide +kernel
theorem dX6_place_55 : decode cX6_place 55 = .ok (.getfield 53, 3) := by decide +kernel
theorem dX6_place_58 : decode cX6_place 58 = .ok (.aload_n 0, 1) := by decide +kernel
theorem dX6_place_59 : decode cX6_place 59 = .ok (.getfield 95, 3) := by decide +kernel
theorem dX6_place_62 : decode cX6_place 62 = .ok (.iload_n 1, 1) := by decide +kernel
theorem dX6_place_63 : decode cX6_place 63 = .ok (.iastore, 1) := by decide +kernel
theorem dX6_place_64 : decode cX6_place 64 = .ok (.aload_n 0, 1) := by decide +kernel
theorem dX6_place_65 : decode cX6_place 65 = .ok (.getfield 56, 3) := by decide +kernel
theorem dX6_place_68 : decode cX6_place 68 = .ok (.aload_n 0, 1) := by decide +kernel
theorem dX6_place_69 : decode cX6_place 69 = .ok (.getfield 95, 3) := by decide +kernel
theorem dX6_place_72 : decode cX6_place 72 = .ok (.iload_n 2, 1) := by decide +kernel
theorem dX6_place_73 : decode cX6_place 73 = .ok (.iastore, 1) := by decide +kernel
theorem dX6_place_74 : decode cX6_place 74 = .ok (.aload_n 0, 1) := by decide +kernel
theorem dX6_place_75 : decode cX6_place 75 = .ok (.getfield 59, 3) := by decide +kernel
theorem dX6_place_78 : decode cX6_place 78 = .ok (.aload_n 0, 1) := by decide +kernel
theorem dX6_place_79 : decode cX6_place 79 = .ok (.getfield 95, 3) := by decide +kernel
theorem dX6_place_82 : decode cX6_place 82 = .ok (.iload_n 3, 1) := by decide +kernel
theorem dX6_place_83 : decode cX6_place 83 = .ok (.bastore, 1) := by decide +kernel
theorem dX6_place_84 : decode cX6_place 84 = .ok (.aload_n 0, 1) := by decide +kernel
theorem dX6_place_85 : decode cX6_place 85 = .ok (.dup, 1) := by decide +kernel
theorem dX6_place_86 : decode cX6_place 86 = .ok (.getfield 95, 3) := by decide +kernel
theorem dX6_place_89 : decode cX6_place 89 = .ok (.iconst 1, 1) := by decide +kernel
theorem dX6_place_90 : decode cX6_place 90 = .ok (.iadd, 1) := by decide +kernel
theorem dX6_place_91 : decode cX6_place 91 = .ok (.putfield 95, 3) := by decide +kernel
theorem dX6_place_94 : decode cX6_place 94 = .ok (.aload_n 0, 1) := by decide +kernel
theorem dX6_place_95 : decode cX6_place 95 = .ok (.getfield 38, 3) := by decide +kernel
theorem dX6_place_98 : decode cX6_place 98 = .ok (.iload_n 1, 1) := by decide +kernel
theorem dX6_place_99 : decode cX6_place 99 = .ok (.dup2, 1) := by decide +kernel
theorem dX6_place_100 : decode cX6_place 100 = .ok (.iaload, 1) := by decide +kernel
theorem dX6_place_101 : decode cX6_place 101 = .ok (.iconst 1, 1) := by decide +kernel
theorem dX6_place_102 : decode cX6_place 102 = .ok (.iadd, 1) := by decide +kernel
theorem dX6_place_103 : decode cX6_place 103 = .ok (.iastore, 1) := by decide +kernel
theorem dX6_place_104 : decode cX6_place 104 = .ok (.aload_n 0, 1) := by decide +kernel
theorem dX6_place_105 : decode cX6_place 105 = .ok (.getfield 26, 3) := by decide +kernel
theorem dX6_place_108 : decode cX6_place 108 = .ok (.iload_n 1, 1) := by decide +kernel
theorem dX6_place_109 : decode cX6_place 109 = .ok (.dup2, 1) := by decide +kernel
theorem dX6_place_110 : decode cX6_place 110 = .ok (.iaload, 1) := by decide +kernel
theorem dX6_place_111 : decode cX6_place 111 = .ok (.iload_n 2, 1) := by decide +kernel
theorem dX6_place_112 : decode cX6_place 112 = .ok (.isub, 1) := by decide +kernel
theorem dX6_place_113 : decode cX6_place 113 = .ok (.iastore, 1) := by decide +kernel
theorem dX6_place_114 : decode cX6_place 114 = .ok (.return_, 1) := by decide +kernel
theorem dX6_go_0 : decode cX6_go 0 = .ok (.aload_n 0, 1) := by decide +kernel
theorem dX6_go_1 : decode cX6_go 1 = .ok (.getfield 65, 3) := by decide +kernel
theorem dX6_go_4 : decode cX6_go 4 = .ok (.aload_n 0, 1) := by decide +kernel
theorem dX6_go_5 : decode cX6_go 5 = .ok (.getfield 98, 3) := by decide +kernel
theorem dX6_go_8 : decode cX6_go 8 = .ok (.iload_n 1, 1) := by decide +kernel
theorem dX6_go_9 : decode cX6_go 9 = .ok (.iastore, 1) := by decide +kernel
theorem dX6_go_10 : decode cX6_go 10 = .ok (.aload_n 0, 1) := by decide +kernel
theorem dX6_go_11 : decode cX6_go 11 = .ok (.dup, 1) := by decide +kernel
theorem dX6_go_12 : decode cX6_go 12 = .ok (.getfield 98, 3) := by decide +kernel
theorem dX6_go_15 : decode cX6_go 15 = .ok (.iconst 1, 1) := by decide +kernel
theorem dX6_go_16 : decode cX6_go 16 = .ok (.iadd, 1) := by decide +kernel
theorem dX6_go_17 : decode cX6_go 17 = .ok (.putfield 98, 3) := by decide +kernel
theorem dX6_go_20 : decode cX6_go 20 = .ok (.aload_n 0, 1) := by decide +kernel
theorem dX6_go_21 : decode cX6_go 21 = .ok (.getfield 23, 3) := by decide +kernel
theorem dX6_go_24 : decode cX6_go 24 = .ok (.iload_n 1, 1) := by decide +kernel
theorem dX6_go_25 : decode cX6_go 25 = .ok (.iaload, 1) := by decide +kernel
theorem dX6_go_26 : decode cX6_go 26 = .ok (.istore_n 2, 1) := by decide +kernel
theorem dX6_go_27 : decode cX6_go 27 = .ok (.aload_n 0, 1) := by decide +kernel
theorem dX6_go_28 : decode cX6_go 28 = .ok (.getfield 68, 3) := by decide +kernel
theorem dX6_go_31 : decode cX6_go 31 = .ok (.iload_n 2, 1) := by decide +kernel
theorem dX6_go_32 : decode cX6_go 32 = .ok (.baload, 1) := by decide +kernel
theorem dX6_go_33 : decode cX6_go 33 = .ok (.ifCond .eq 4, 3) := by decide +kernel
theorem dX6_go_36 : decode cX6_go 36 = .ok (.return_, 1) := by decide +kernel
theorem dX6_go_37 : decode cX6_go 37 = .ok (.aload_n 0, 1) := by decide +kernel
theorem dX6_go_38 : decode cX6_go 38 = .ok (.aload_n 0, 1) := by decide +kernel
theorem dX6_go_39 : decode cX6_go 39 = .ok (.getfield 86, 3) := by decide +kernel
theorem dX6_go_42 : decode cX6_go 42 = .ok (.iconst (-1), 1) := by decide +kernel
theorem dX6_go_43 : decode cX6_go 43 = .ok (.invokevirtual 101, 3) := by decide +kernel
theorem dX6_go_46 : decode cX6_go 46 = .ok (.istore_n 3, 1) := by decide +kernel
theorem dX6_go_47 : decode cX6_go 47 = .ok (.aload_n 0, 1) := by decide +kernel
theorem dX6_go_48 : decode cX6_go 48 = .ok (.getfield 71, 3) := by decide +kernel
theorem dX6_go_51 : decode cX6_go 51 = .ok (.iload_n 3, 1) := by decide +kernel
theorem dX6_go_52 : decode cX6_go 52 = .ok (.isub, 1) := by decide +kernel
theorem dX6_go_53 : decode cX6_go 53 = .ok (.istore 4, 2) := by decide +kernel
theorem dX6_go_55 : decode cX6_go 55 = .ok (.aload_n 0, 1) := by decide +kernel
theorem dX6_go_56 : decode cX6_go 56 = .ok (.getfield 7, 3) := by decide +kernel
theorem dX6_go_59 : decode cX6_go 59 = .ok (.iload_n 2, 1) := by decide +kernel
theorem dX6_go_60 : decode cX6_go 60 = .ok (.iaload, 1) := by decide +kernel
theorem dX6_go_61 : decode cX6_go 61 = .ok (.aload_n 0, 1) := by decide +kernel
theorem dX6_go_62 : decode cX6_go 62 = .ok (.aload_n 0, 1) := by decide +kernel
theorem dX6_go_63 : decode cX6_go 63 = .ok (.getfield 86, 3) := by decide +kernel
theorem dX6_go_66 : decode cX6_go 66 = .ok (.iload_n 2, 1) := by decide +kernel
theorem dX6_go_67 : decode cX6_go 67 = .ok (.invokevirtual 101, 3) := by decide +kernel
theorem dX6_go_70 : decode cX6_go 70 = .ok (.isub, 1) := by decide +kernel
theorem dX6_go_71 : decode cX6_go 71 = .ok (.istore 5, 2) := by decide +kernel
theorem dX6_go_73 : decode cX6_go 73 = .ok (.aload_n 0, 1) := by decide +kernel
theorem dX6_go_74 : decode cX6_go 74 = .ok (.getfield 7, 3) := by decide +kernel
theorem dX6_go_77 : decode cX6_go 77 = .ok (.iload_n 2, 1) := by decide +kernel
theorem dX6_go_78 : decode cX6_go 78 = .ok (.iaload, 1) := by decide +kernel
theorem dX6_go_79 : decode cX6_go 79 = .ok (.ifCond .lt 15, 3) := by decide +kernel
theorem dX6_go_82 : decode cX6_go 82 = .ok (.iload 5, 2) := by decide +kernel
theorem dX6_go_84 : decode cX6_go 84 = .ok (.iload 4, 2) := by decide +kernel
theorem dX6_go_86 : decode cX6_go 86 = .ok (.if_icmp .ge 8, 3) := by decide +kernel
theorem dX6_go_89 : decode cX6_go 89 = .ok (.iload 5, 2) := by decide +kernel
theorem dX6_go_91 : decode cX6_go 91 = .ok (.goto 5, 3) := by decide +kernel
theorem dX6_go_94 : decode cX6_go 94 = .ok (.iload 4, 2) := by decide +kernel
theorem dX6_go_96 : decode cX6_go 96 = .ok (.istore 4, 2) := by decide +kernel
theorem dX6_go_98 : decode cX6_go 98 = .ok (.iload 4, 2) := by decide +kernel
theorem dX6_go_100 : decode cX6_go 100 = .ok (.ifCond .ge 7, 3) := by decide +kernel
theorem dX6_go_103 : decode cX6_go 103 = .ok (.iconst 0, 1) := by decide +kernel
theorem dX6_go_104 : decode cX6_go 104 = .ok (.goto 5, 3) := by decide +kernel
theorem dX6_go_107 : decode cX6_go 107 = .ok (.iload 4, 2) := by decide +kernel
theorem dX6_go_109 : decode cX6_go 109 = .ok (.istore 4, 2) := by decide +kernel
theorem dX6_go_111 : decode cX6_go 111 = .ok (.aload_n 0, 1) := by decide +kernel
theorem dX6_go_112 : decode cX6_go 112 = .ok (.getfield 26, 3) := by decide +kernel
theorem dX6_go_115 : decode cX6_go 115 = .ok (.iload_n 1, 1) := by decide +kernel
theorem dX6_go_116 : decode cX6_go 116 = .ok (.iaload, 1) := by decide +kernel
theorem dX6_go_117 : decode cX6_go 117 = .ok (.iload 4, 2) := by decide +kernel
theorem dX6_go_119 : decode cX6_go 119 = .ok (.if_icmp .gt 18, 3) := by decide +kernel
theorem dX6_go_122 : decode cX6_go 122 = .ok (.aload_n 0, 1) := by decide +kernel
theorem dX6_go_123 : decode cX6_go 123 = .ok (.iload_n 1, 1) := by decide +kernel
theorem dX6_go_124 : decode cX6_go 124 = .ok (.aload_n 0, 1) := by decide +kernel
theorem dX6_go_125 : decode cX6_go 125 = .ok (.getfield 26, 3) := by decide +kernel
theorem dX6_go_128 : decode cX6_go 128 = .ok (.iload_n 1, 1) := by decide +kernel
theorem dX6_go_129 : decode cX6_go 129 = .ok (.iaload, 1) := by decide +kernel
theorem dX6_go_130 : decode cX6_go 130 = .ok (.iconst 0, 1) := by decide +kernel
theorem dX6_go_131 : decode cX6_go 131 = .ok (.invokevirtual 105, 3) := by decide +kernel
theorem dX6_go_134 : decode cX6_go 134 = .ok (.goto 85, 3) := by decide +kernel
theorem dX6_go_137 : decode cX6_go 137 = .ok (.aload_n 0, 1) := by decide +kernel
theorem dX6_go_138 : decode cX6_go 138 = .ok (.getfield 13, 3) := by decide +kernel
theorem dX6_go_141 : decode cX6_go 141 = .ok (.iload_n 2, 1) := by decide +kernel
theorem dX6_go_142 : decode cX6_go 142 = .ok (.iaload, 1) := by decide +kernel
theorem dX6_go_143 : decode cX6_go 143 = .ok (.ifCond .le 50, 3) := by decide +kernel
theorem dX6_go_146 : decode cX6_go 146 = .ok (.iload 4, 2) := by decide +kernel
theorem dX6_go_148 : decode cX6_go 148 = .ok (.aload_n 0, 1) := by decide +kernel
theorem dX6_go_149 : decode cX6_go 149 = .ok (.getfield 13, 3) := by decide +kernel
theorem dX6_go_152 : decode cX6_go 152 = .ok (.iload_n 2, 1) := by decide +kernel
theorem dX6_go_153 : decode cX6_go 153 = .ok (.iaload, 1) := by decide +kernel
theorem dX6_go_154 : decode cX6_go 154 = .ok (.if_icmp .lt 39, 3) := by decide +kernel
theorem dX6_go_157 : decode cX6_go 157 = .ok (.aload_n 0, 1) := by decide +kernel
theorem dX6_go_158 : decode cX6_go 158 = .ok (.getfield 26, 3) := by decide +kernel
theorem dX6_go_161 : decode cX6_go 161 = .ok (.iload_n 1, 1) := by decide +kernel
theorem dX6_go_162 : decode cX6_go 162 = .ok (.iaload, 1) := by decide +kernel
theorem dX6_go_163 : decode cX6_go 163 = .ok (.iload 4, 2) := by decide +kernel
theorem dX6_go_165 : decode cX6_go 165 = .ok (.isub, 1) := by decide +kernel
theorem dX6_go_166 : decode cX6_go 166 = .ok (.aload_n 0, 1) := by decide +kernel
theorem dX6_go_167 : decode cX6_go 167 = .ok (.getfield 13, 3) := by decide +kernel
theorem dX6_go_170 : decode cX6_go 170 = .ok (.iload_n 2, 1) := by decide +kernel
theorem dX6_go_171 : decode cX6_go 171 = .ok (.iaload, 1) := by decide +kernel
theorem dX6_go_172 : decode cX6_go 172 = .ok (.if_icmp .lt 21, 3) := by decide +kernel
theorem dX6_go_175 : decode cX6_go 175 = .ok (.aload_n 0, 1) := by decide +kernel
theorem dX6_go_176 : decode cX6_go 176 = .ok (.iload_n 1, 1) := by decide +kernel
theorem dX6_go_177 : decode cX6_go 177 = .ok (.iload 4, 2) := by decide +kernel
theorem dX6_go_179 : decode cX6_go 179 = .ok (.iconst 0, 1) := by decide +kernel
theorem dX6_go_180 : decode cX6_go 180 = .ok (.invokevirtual 105, 3) := by decide +kernel
theorem dX6_go_183 : decode cX6_go 183 = .ok (.aload_n 0, 1) := by decide +kernel
theorem dX6_go_184 : decode cX6_go 184 = .ok (.getfield 68, 3) := by decide +kernel
theorem dX6_go_187 : decode cX6_go 187 = .ok (.iload_n 2, 1) := by decide +kernel
theorem dX6_go_188 : decode cX6_go 188 = .ok (.iconst 1, 1) := by decide +kernel
theorem dX6_go_189 : decode cX6_go 189 = .ok (.bastore, 1) := by decide +kernel
theorem dX6_go_190 : decode cX6_go 190 = .ok (.goto 29, 3) := by decide +kernel
theorem dX6_go_193 : decode cX6_go 193 = .ok (.iload_n 3, 1) := by decide +kernel
theorem dX6_go_194 : decode cX6_go 194 = .ok (.ifCond .ne 18, 3) := by decide +kernel
theorem dX6_go_197 : decode cX6_go 197 = .ok (.aload_n 0, 1) := by decide +kernel
theorem dX6_go_198 : decode cX6_go 198 = .ok (.iload_n 1, 1) := by decide +kernel
theorem dX6_go_199 : decode cX6_go 199 = .ok (.aload_n 0, 1) := by decide +kernel
theorem dX6_go_200 : decode cX6_go 200 = .ok (.getfield 26, 3) := by decide +kernel
theorem dX6_go_203 : decode cX6_go 203 = .ok (.iload_n 1, 1) := by decide +kernel
theorem dX6_go_204 : decode cX6_go 204 = .ok (.iaload, 1) := by decide +kernel
theorem dX6_go_205 : decode cX6_go 205 = .ok (.iconst 1, 1) := by decide +kernel
theorem dX6_go_206 : decode cX6_go 206 = .ok (.invokevirtual 105, 3) := by decide +kernel
theorem dX6_go_209 : decode cX6_go 209 = .ok (.goto 10, 3) := by decide +kernel
theorem dX6_go_212 : decode cX6_go 212 = .ok (.aload_n 0, 1) := by decide +kernel
theorem dX6_go_213 : decode cX6_go 213 = .ok (.getfield 68, 3) := by decide +kernel
theorem dX6_go_216 : decode cX6_go 216 = .ok (.iload_n 2, 1) := by decide +kernel
theorem dX6_go_217 : decode cX6_go 217 = .ok (.iconst 1, 1) := by decide +kernel
theorem dX6_go_218 : decode cX6_go 218 = .ok (.bastore, 1) := by decide +kernel
theorem dX6_go_219 : decode cX6_go 219 = .ok (.return_, 1) := by decide +kernel
theorem dX6_waits_0 : decode cX6_waits 0 = .ok (.aload_n 0, 1) := by decide +kernel
theorem dX6_waits_1 : decode cX6_waits 1 = .ok (.getfield 35, 3) := by decide +kernel
theorem dX6_waits_4 : decode cX6_waits 4 = .ok (.iload_n 1, 1) := by decide +kernel
theorem dX6_waits_5 : decode cX6_waits 5 = .ok (.baload, 1) := by decide +kernel
theorem dX6_waits_6 : decode cX6_waits 6 = .ok (.ifCond .ne 29, 3) := by decide +kernel
theorem dX6_waits_9 : decode cX6_waits 9 = .ok (.aload_n 0, 1) := by decide +kernel
theorem dX6_waits_10 : decode cX6_waits 10 = .ok (.getfield 26, 3) := by decide +kernel
theorem dX6_waits_13 : decode cX6_waits 13 = .ok (.iload_n 1, 1) := by decide +kernel
theorem dX6_waits_14 : decode cX6_waits 14 = .ok (.iaload, 1) := by decide +kernel
theorem dX6_waits_15 : decode cX6_waits 15 = .ok (.ifCond .le 20, 3) := by decide +kernel
theorem dX6_waits_18 : decode cX6_waits 18 = .ok (.aload_n 0, 1) := by decide +kernel
theorem dX6_waits_19 : decode cX6_waits 19 = .ok (.getfield 29, 3) := by decide +kernel
theorem dX6_waits_22 : decode cX6_waits 22 = .ok (.iload_n 1, 1) := by decide +kernel
theorem dX6_waits_23 : decode cX6_waits 23 = .ok (.iaload, 1) := by decide +kernel
theorem dX6_waits_24 : decode cX6_waits 24 = .ok (.aload_n 0, 1) := by decide +kernel
theorem dX6_waits_25 : decode cX6_waits 25 = .ok (.getfield 86, 3) := by decide +kernel
theorem dX6_waits_28 : decode cX6_waits 28 = .ok (.if_icmp .gt 7, 3) := by decide +kernel
theorem dX6_waits_31 : decode cX6_waits 31 = .ok (.iconst 1, 1) := by decide +kernel
theorem dX6_waits_32 : decode cX6_waits 32 = .ok (.goto 4, 3) := by decide +kernel

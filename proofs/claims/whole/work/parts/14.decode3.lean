theorem dX6_waits_35 : decode cX6_waits 35 = .ok (.iconst 0, 1) := by decide +kernel
theorem dX6_waits_36 : decode cX6_waits 36 = .ok (.ireturn, 1) := by decide +kernel
theorem dX6_isIn_0 : decode cX6_isIn 0 = .ok (.iconst 0, 1) := by decide +kernel
theorem dX6_isIn_1 : decode cX6_isIn 1 = .ok (.istore_n 3, 1) := by decide +kernel
theorem dX6_isIn_2 : decode cX6_isIn 2 = .ok (.iconst 0, 1) := by decide +kernel
theorem dX6_isIn_3 : decode cX6_isIn 3 = .ok (.istore 4, 2) := by decide +kernel
theorem dX6_isIn_5 : decode cX6_isIn 5 = .ok (.iload 4, 2) := by decide +kernel
theorem dX6_isIn_7 : decode cX6_isIn 7 = .ok (.iload_n 2, 1) := by decide +kernel
theorem dX6_isIn_8 : decode cX6_isIn 8 = .ok (.if_icmp .ge 30, 3) := by decide +kernel
theorem dX6_isIn_11 : decode cX6_isIn 11 = .ok (.iload_n 3, 1) := by decide +kernel
theorem dX6_isIn_12 : decode cX6_isIn 12 = .ok (.ifCond .ne 14, 3) := by decide +kernel
theorem dX6_isIn_15 : decode cX6_isIn 15 = .ok (.aload_n 0, 1) := by decide +kernel
theorem dX6_isIn_16 : decode cX6_isIn 16 = .ok (.getfield 65, 3) := by decide +kernel
theorem dX6_isIn_19 : decode cX6_isIn 19 = .ok (.iload 4, 2) := by decide +kernel
theorem dX6_isIn_21 : decode cX6_isIn 21 = .ok (.iaload, 1) := by decide +kernel
theorem dX6_isIn_22 : decode cX6_isIn 22 = .ok (.iload_n 1, 1) := by decide +kernel
theorem dX6_isIn_23 : decode cX6_isIn 23 = .ok (.if_icmp .ne 7, 3) := by decide +kernel
theorem dX6_isIn_26 : decode cX6_isIn 26 = .ok (.iconst 1, 1) := by decide +kernel
theorem dX6_isIn_27 : decode cX6_isIn 27 = .ok (.goto 4, 3) := by decide +kernel
theorem dX6_isIn_30 : decode cX6_isIn 30 = .ok (.iconst 0, 1) := by decide +kernel
theorem dX6_isIn_31 : decode cX6_isIn 31 = .ok (.istore_n 3, 1) := by decide +kernel
theorem dX6_isIn_32 : decode cX6_isIn 32 = .ok (.iinc 4 1, 3) := by decide +kernel
theorem dX6_isIn_35 : decode cX6_isIn 35 = .ok (.goto (-30), 3) := by decide +kernel
theorem dX6_isIn_38 : decode cX6_isIn 38 = .ok (.iload_n 3, 1) := by decide +kernel
theorem dX6_isIn_39 : decode cX6_isIn 39 = .ok (.ireturn, 1) := by decide +kernel
theorem dX6_close_0 : decode cX6_close 0 = .ok (.aload_n 0, 1) := by decide +kernel
theorem dX6_close_1 : decode cX6_close 1 = .ok (.getfield 86, 3) := by decide +kernel
theorem dX6_close_4 : decode cX6_close 4 = .ok (.bipush 40, 2) := by decide +kernel
theorem dX6_close_6 : decode cX6_close 6 = .ok (.if_icmp .ne 6, 3) := by decide +kernel
theorem dX6_close_9 : decode cX6_close 9 = .ok (.bipush (-3), 2) := by decide +kernel
theorem dX6_close_11 : decode cX6_close 11 = .ok (.ireturn, 1) := by decide +kernel
theorem dX6_close_12 : decode cX6_close 12 = .ok (.iconst 0, 1) := by decide +kernel
theorem dX6_close_13 : decode cX6_close 13 = .ok (.istore_n 1, 1) := by decide +kernel
theorem dX6_close_14 : decode cX6_close 14 = .ok (.iload_n 1, 1) := by decide +kernel
theorem dX6_close_15 : decode cX6_close 15 = .ok (.bipush 8, 2) := by decide +kernel
theorem dX6_close_17 : decode cX6_close 17 = .ok (.if_icmp .ge 41, 3) := by decide +kernel
theorem dX6_close_20 : decode cX6_close 20 = .ok (.aload_n 0, 1) := by decide +kernel
theorem dX6_close_21 : decode cX6_close 21 = .ok (.getfield 68, 3) := by decide +kernel
theorem dX6_close_24 : decode cX6_close 24 = .ok (.iload_n 1, 1) := by decide +kernel
theorem dX6_close_25 : decode cX6_close 25 = .ok (.iconst 0, 1) := by decide +kernel
theorem dX6_close_26 : decode cX6_close 26 = .ok (.bastore, 1) := by decide +kernel
theorem dX6_close_27 : decode cX6_close 27 = .ok (.aload_n 0, 1) := by decide +kernel
theorem dX6_close_28 : decode cX6_close 28 = .ok (.getfield 20, 3) := by decide +kernel
theorem dX6_close_31 : decode cX6_close 31 = .ok (.iload_n 1, 1) := by decide +kernel
theorem dX6_close_32 : decode cX6_close 32 = .ok (.aload_n 0, 1) := by decide +kernel
theorem dX6_close_33 : decode cX6_close 33 = .ok (.getfield 16, 3) := by decide +kernel
theorem dX6_close_36 : decode cX6_close 36 = .ok (.iload_n 1, 1) := by decide +kernel
theorem dX6_close_37 : decode cX6_close 37 = .ok (.baload, 1) := by decide +kernel
theorem dX6_close_38 : decode cX6_close 38 = .ok (.ifCond .eq 7, 3) := by decide +kernel
theorem dX6_close_41 : decode cX6_close 41 = .ok (.iconst 0, 1) := by decide +kernel
theorem dX6_close_42 : decode cX6_close 42 = .ok (.goto 9, 3) := by decide +kernel
theorem dX6_close_45 : decode cX6_close 45 = .ok (.aload_n 0, 1) := by decide +kernel
theorem dX6_close_46 : decode cX6_close 46 = .ok (.getfield 20, 3) := by decide +kernel
theorem dX6_close_49 : decode cX6_close 49 = .ok (.iload_n 1, 1) := by decide +kernel
theorem dX6_close_50 : decode cX6_close 50 = .ok (.iaload, 1) := by decide +kernel
theorem dX6_close_51 : decode cX6_close 51 = .ok (.iastore, 1) := by decide +kernel
theorem dX6_close_52 : decode cX6_close 52 = .ok (.iinc 1 1, 3) := by decide +kernel
theorem dX6_close_55 : decode cX6_close 55 = .ok (.goto (-41), 3) := by decide +kernel
theorem dX6_close_58 : decode cX6_close 58 = .ok (.aload_n 0, 1) := by decide +kernel
theorem dX6_close_59 : decode cX6_close 59 = .ok (.getfield 95, 3) := by decide +kernel
theorem dX6_close_62 : decode cX6_close 62 = .ok (.istore_n 1, 1) := by decide +kernel
theorem dX6_close_63 : decode cX6_close 63 = .ok (.aload_n 0, 1) := by decide +kernel
theorem dX6_close_64 : decode cX6_close 64 = .ok (.iconst 0, 1) := by decide +kernel
theorem dX6_close_65 : decode cX6_close 65 = .ok (.putfield 98, 3) := by decide +kernel
theorem dX6_close_68 : decode cX6_close 68 = .ok (.iconst 0, 1) := by decide +kernel
theorem dX6_close_69 : decode cX6_close 69 = .ok (.istore_n 2, 1) := by decide +kernel
theorem dX6_close_70 : decode cX6_close 70 = .ok (.iload_n 2, 1) := by decide +kernel
theorem dX6_close_71 : decode cX6_close 71 = .ok (.aload_n 0, 1) := by decide +kernel
theorem dX6_close_72 : decode cX6_close 72 = .ok (.getfield 109, 3) := by decide +kernel
theorem dX6_close_75 : decode cX6_close 75 = .ok (.if_icmp .ge 32, 3) := by decide +kernel
theorem dX6_close_78 : decode cX6_close 78 = .ok (.aload_n 0, 1) := by decide +kernel
theorem dX6_close_79 : decode cX6_close 79 = .ok (.aload_n 0, 1) := by decide +kernel
theorem dX6_close_80 : decode cX6_close 80 = .ok (.getfield 62, 3) := by decide +kernel
theorem dX6_close_83 : decode cX6_close 83 = .ok (.iload_n 2, 1) := by decide +kernel
theorem dX6_close_84 : decode cX6_close 84 = .ok (.iaload, 1) := by decide +kernel
theorem dX6_close_85 : decode cX6_close 85 = .ok (.invokevirtual 112, 3) := by decide +kernel
theorem dX6_close_88 : decode cX6_close 88 = .ok (.ifCond .eq 13, 3) := by decide +kernel
theorem dX6_close_91 : decode cX6_close 91 = .ok (.aload_n 0, 1) := by decide +kernel
theorem dX6_close_92 : decode cX6_close 92 = .ok (.aload_n 0, 1) := by decide +kernel
theorem dX6_close_93 : decode cX6_close 93 = .ok (.getfield 62, 3) := by decide +kernel
theorem dX6_close_96 : decode cX6_close 96 = .ok (.iload_n 2, 1) := by decide +kernel
theorem dX6_close_97 : decode cX6_close 97 = .ok (.iaload, 1) := by decide +kernel
theorem dX6_close_98 : decode cX6_close 98 = .ok (.invokevirtual 115, 3) := by decide +kernel
theorem dX6_close_101 : decode cX6_close 101 = .ok (.iinc 2 1, 3) := by decide +kernel
theorem dX6_close_104 : decode cX6_close 104 = .ok (.goto (-34), 3) := by decide +kernel
theorem dX6_close_107 : decode cX6_close 107 = .ok (.aload_n 0, 1) := by decide +kernel
theorem dX6_close_108 : decode cX6_close 108 = .ok (.getfield 98, 3) := by decide +kernel
theorem dX6_close_111 : decode cX6_close 111 = .ok (.istore_n 2, 1) := by decide +kernel
theorem dX6_close_112 : decode cX6_close 112 = .ok (.iconst 0, 1) := by decide +kernel
theorem dX6_close_113 : decode cX6_close 113 = .ok (.istore_n 3, 1) := by decide +kernel
theorem dX6_close_114 : decode cX6_close 114 = .ok (.iload_n 3, 1) := by decide +kernel
theorem dX6_close_115 : decode cX6_close 115 = .ok (.aload_n 0, 1) := by decide +kernel
theorem dX6_close_116 : decode cX6_close 116 = .ok (.getfield 89, 3) := by decide +kernel
theorem dX6_close_119 : decode cX6_close 119 = .ok (.if_icmp .ge 31, 3) := by decide +kernel
theorem dX6_close_122 : decode cX6_close 122 = .ok (.aload_n 0, 1) := by decide +kernel
theorem dX6_close_123 : decode cX6_close 123 = .ok (.iload_n 3, 1) := by decide +kernel
theorem dX6_close_124 : decode cX6_close 124 = .ok (.invokevirtual 112, 3) := by decide +kernel
theorem dX6_close_127 : decode cX6_close 127 = .ok (.ifCond .eq 17, 3) := by decide +kernel
theorem dX6_close_130 : decode cX6_close 130 = .ok (.aload_n 0, 1) := by decide +kernel
theorem dX6_close_131 : decode cX6_close 131 = .ok (.iload_n 3, 1) := by decide +kernel
theorem dX6_close_132 : decode cX6_close 132 = .ok (.iload_n 2, 1) := by decide +kernel
theorem dX6_close_133 : decode cX6_close 133 = .ok (.invokevirtual 119, 3) := by decide +kernel
theorem dX6_close_136 : decode cX6_close 136 = .ok (.ifCond .ne 8, 3) := by decide +kernel
theorem dX6_close_139 : decode cX6_close 139 = .ok (.aload_n 0, 1) := by decide +kernel
theorem dX6_close_140 : decode cX6_close 140 = .ok (.iload_n 3, 1) := by decide +kernel
theorem dX6_close_141 : decode cX6_close 141 = .ok (.invokevirtual 115, 3) := by decide +kernel
theorem dX6_close_144 : decode cX6_close 144 = .ok (.iinc 3 1, 3) := by decide +kernel
theorem dX6_close_147 : decode cX6_close 147 = .ok (.goto (-33), 3) := by decide +kernel
theorem dX6_close_150 : decode cX6_close 150 = .ok (.aload_n 0, 1) := by decide +kernel
theorem dX6_close_151 : decode cX6_close 151 = .ok (.aload_n 0, 1) := by decide +kernel
theorem dX6_close_152 : decode cX6_close 152 = .ok (.getfield 98, 3) := by decide +kernel
theorem dX6_close_155 : decode cX6_close 155 = .ok (.putfield 109, 3) := by decide +kernel
theorem dX6_close_158 : decode cX6_close 158 = .ok (.iconst 0, 1) := by decide +kernel
theorem dX6_close_159 : decode cX6_close 159 = .ok (.istore_n 3, 1) := by decide +kernel
theorem dX6_close_160 : decode cX6_close 160 = .ok (.iload_n 3, 1) := by decide +kernel
theorem dX6_close_161 : decode cX6_close 161 = .ok (.aload_n 0, 1) := by decide +kernel
theorem dX6_close_162 : decode cX6_close 162 = .ok (.getfield 98, 3) := by decide +kernel
theorem dX6_close_165 : decode cX6_close 165 = .ok (.if_icmp .ge 21, 3) := by decide +kernel
theorem dX6_close_168 : decode cX6_close 168 = .ok (.aload_n 0, 1) := by decide +kernel
theorem dX6_close_169 : decode cX6_close 169 = .ok (.getfield 62, 3) := by decide +kernel
theorem dX6_close_172 : decode cX6_close 172 = .ok (.iload_n 3, 1) := by decide +kernel
theorem dX6_close_173 : decode cX6_close 173 = .ok (.aload_n 0, 1) := by decide +kernel
theorem dX6_close_174 : decode cX6_close 174 = .ok (.getfield 65, 3) := by decide +kernel
theorem dX6_close_177 : decode cX6_close 177 = .ok (.iload_n 3, 1) := by decide +kernel
theorem dX6_close_178 : decode cX6_close 178 = .ok (.iaload, 1) := by decide +kernel
theorem dX6_close_179 : decode cX6_close 179 = .ok (.iastore, 1) := by decide +kernel
theorem dX6_close_180 : decode cX6_close 180 = .ok (.iinc 3 1, 3) := by decide +kernel
theorem dX6_close_183 : decode cX6_close 183 = .ok (.goto (-23), 3) := by decide +kernel
theorem dX6_close_186 : decode cX6_close 186 = .ok (.aload_n 0, 1) := by decide +kernel
theorem dX6_close_187 : decode cX6_close 187 = .ok (.dup, 1) := by decide +kernel
theorem dX6_close_188 : decode cX6_close 188 = .ok (.getfield 86, 3) := by decide +kernel
theorem dX6_close_191 : decode cX6_close 191 = .ok (.iconst 1, 1) := by decide +kernel
theorem dX6_close_192 : decode cX6_close 192 = .ok (.iadd, 1) := by decide +kernel
theorem dX6_close_193 : decode cX6_close 193 = .ok (.putfield 86, 3) := by decide +kernel
theorem dX6_close_196 : decode cX6_close 196 = .ok (.aload_n 0, 1) := by decide +kernel
theorem dX6_close_197 : decode cX6_close 197 = .ok (.getfield 95, 3) := by decide +kernel
theorem dX6_close_200 : decode cX6_close 200 = .ok (.iload_n 1, 1) := by decide +kernel
theorem dX6_close_201 : decode cX6_close 201 = .ok (.isub, 1) := by decide +kernel
theorem dX6_close_202 : decode cX6_close 202 = .ok (.ireturn, 1) := by decide +kernel
theorem dX6_heldAt_0 : decode cX6_heldAt 0 = .ok (.iload_n 1, 1) := by decide +kernel
theorem dX6_heldAt_1 : decode cX6_heldAt 1 = .ok (.istore_n 2, 1) := by decide +kernel
theorem dX6_heldAt_2 : decode cX6_heldAt 2 = .ok (.iconst 0, 1) := by decide +kernel
theorem dX6_heldAt_3 : decode cX6_heldAt 3 = .ok (.istore_n 3, 1) := by decide +kernel
theorem dX6_heldAt_4 : decode cX6_heldAt 4 = .ok (.iload_n 3, 1) := by decide +kernel
theorem dX6_heldAt_5 : decode cX6_heldAt 5 = .ok (.aload_n 0, 1) := by decide +kernel
theorem dX6_heldAt_6 : decode cX6_heldAt 6 = .ok (.getfield 109, 3) := by decide +kernel
theorem dX6_heldAt_9 : decode cX6_heldAt 9 = .ok (.if_icmp .ge 77, 3) := by decide +kernel
theorem dX6_heldAt_12 : decode cX6_heldAt 12 = .ok (.iload_n 1, 1) := by decide +kernel
theorem dX6_heldAt_13 : decode cX6_heldAt 13 = .ok (.ifCond .lt 73, 3) := by decide +kernel
theorem dX6_heldAt_16 : decode cX6_heldAt 16 = .ok (.aload_n 0, 1) := by decide +kernel
theorem dX6_heldAt_17 : decode cX6_heldAt 17 = .ok (.getfield 35, 3) := by decide +kernel
theorem dX6_heldAt_20 : decode cX6_heldAt 20 = .ok (.aload_n 0, 1) := by decide +kernel
theorem dX6_heldAt_21 : decode cX6_heldAt 21 = .ok (.getfield 62, 3) := by decide +kernel
theorem dX6_heldAt_24 : decode cX6_heldAt 24 = .ok (.iload_n 3, 1) := by decide +kernel
theorem dX6_heldAt_25 : decode cX6_heldAt 25 = .ok (.iaload, 1) := by decide +kernel
theorem dX6_heldAt_26 : decode cX6_heldAt 26 = .ok (.baload, 1) := by decide +kernel
theorem dX6_heldAt_27 : decode cX6_heldAt 27 = .ok (.ifCond .ne 21, 3) := by decide +kernel
theorem dX6_heldAt_30 : decode cX6_heldAt 30 = .ok (.aload_n 0, 1) := by decide +kernel
theorem dX6_heldAt_31 : decode cX6_heldAt 31 = .ok (.getfield 26, 3) := by decide +kernel
theorem dX6_heldAt_34 : decode cX6_heldAt 34 = .ok (.aload_n 0, 1) := by decide +kernel
theorem dX6_heldAt_35 : decode cX6_heldAt 35 = .ok (.getfield 62, 3) := by decide +kernel
theorem dX6_heldAt_38 : decode cX6_heldAt 38 = .ok (.iload_n 3, 1) := by decide +kernel
theorem dX6_heldAt_39 : decode cX6_heldAt 39 = .ok (.iaload, 1) := by decide +kernel
theorem dX6_heldAt_40 : decode cX6_heldAt 40 = .ok (.iaload, 1) := by decide +kernel
theorem dX6_heldAt_41 : decode cX6_heldAt 41 = .ok (.ifCond .le 7, 3) := by decide +kernel
theorem dX6_heldAt_44 : decode cX6_heldAt 44 = .ok (.iconst 1, 1) := by decide +kernel
theorem dX6_heldAt_45 : decode cX6_heldAt 45 = .ok (.goto 4, 3) := by decide +kernel
theorem dX6_heldAt_48 : decode cX6_heldAt 48 = .ok (.iconst 0, 1) := by decide +kernel
theorem dX6_heldAt_49 : decode cX6_heldAt 49 = .ok (.istore 4, 2) := by decide +kernel
theorem dX6_heldAt_51 : decode cX6_heldAt 51 = .ok (.iload 4, 2) := by decide +kernel
theorem dX6_heldAt_53 : decode cX6_heldAt 53 = .ok (.ifCond .eq 14, 3) := by decide +kernel
theorem dX6_heldAt_56 : decode cX6_heldAt 56 = .ok (.iload_n 2, 1) := by decide +kernel
theorem dX6_heldAt_57 : decode cX6_heldAt 57 = .ok (.ifCond .ne 10, 3) := by decide +kernel
theorem dX6_heldAt_60 : decode cX6_heldAt 60 = .ok (.aload_n 0, 1) := by decide +kernel
theorem dX6_heldAt_61 : decode cX6_heldAt 61 = .ok (.getfield 62, 3) := by decide +kernel
theorem dX6_heldAt_64 : decode cX6_heldAt 64 = .ok (.iload_n 3, 1) := by decide +kernel
theorem dX6_heldAt_65 : decode cX6_heldAt 65 = .ok (.iaload, 1) := by decide +kernel
theorem dX6_heldAt_66 : decode cX6_heldAt 66 = .ok (.ireturn, 1) := by decide +kernel
theorem dX6_heldAt_67 : decode cX6_heldAt 67 = .ok (.iload_n 2, 1) := by decide +kernel
theorem dX6_heldAt_68 : decode cX6_heldAt 68 = .ok (.iload 4, 2) := by decide +kernel
theorem dX6_heldAt_70 : decode cX6_heldAt 70 = .ok (.ifCond .eq 7, 3) := by decide +kernel
theorem dX6_heldAt_73 : decode cX6_heldAt 73 = .ok (.iconst 1, 1) := by decide +kernel
theorem dX6_heldAt_74 : decode cX6_heldAt 74 = .ok (.goto 4, 3) := by decide +kernel
theorem dX6_heldAt_77 : decode cX6_heldAt 77 = .ok (.iconst 0, 1) := by decide +kernel
theorem dX6_heldAt_78 : decode cX6_heldAt 78 = .ok (.isub, 1) := by decide +kernel
theorem dX6_heldAt_79 : decode cX6_heldAt 79 = .ok (.istore_n 2, 1) := by decide +kernel
theorem dX6_heldAt_80 : decode cX6_heldAt 80 = .ok (.iinc 3 1, 3) := by decide +kernel
theorem dX6_heldAt_83 : decode cX6_heldAt 83 = .ok (.goto (-79), 3) := by decide +kernel
theorem dX6_heldAt_86 : decode cX6_heldAt 86 = .ok (.iconst (-1), 1) := by decide +kernel
theorem dX6_heldAt_87 : decode cX6_heldAt 87 = .ok (.ireturn, 1) := by decide +kernel
theorem dX6_flush_0 : decode cX6_flush 0 = .ok (.iconst 0, 1) := by decide +kernel
theorem dX6_flush_1 : decode cX6_flush 1 = .ok (.istore_n 1, 1) := by decide +kernel
theorem dX6_flush_2 : decode cX6_flush 2 = .ok (.aload_n 0, 1) := by decide +kernel
theorem dX6_flush_3 : decode cX6_flush 3 = .ok (.iconst 0, 1) := by decide +kernel
theorem dX6_flush_4 : decode cX6_flush 4 = .ok (.invokevirtual 123, 3) := by decide +kernel
theorem dX6_flush_7 : decode cX6_flush 7 = .ok (.ifCond .lt 23, 3) := by decide +kernel
theorem dX6_flush_10 : decode cX6_flush 10 = .ok (.aload_n 0, 1) := by decide +kernel
theorem dX6_flush_11 : decode cX6_flush 11 = .ok (.getfield 86, 3) := by decide +kernel
theorem dX6_flush_14 : decode cX6_flush 14 = .ok (.bipush 40, 2) := by decide +kernel
theorem dX6_flush_16 : decode cX6_flush 16 = .ok (.if_icmp .ge 14, 3) := by decide +kernel
theorem dX6_flush_19 : decode cX6_flush 19 = .ok (.aload_n 0, 1) := by decide +kernel
theorem dX6_flush_20 : decode cX6_flush 20 = .ok (.invokevirtual 127, 3) := by decide +kernel
theorem dX6_flush_23 : decode cX6_flush 23 = .ok (.istore_n 2, 1) := by decide +kernel
theorem dX6_flush_24 : decode cX6_flush 24 = .ok (.iinc 1 1, 3) := by decide +kernel
theorem dX6_flush_27 : decode cX6_flush 27 = .ok (.goto (-25), 3) := by decide +kernel
theorem dX6_flush_30 : decode cX6_flush 30 = .ok (.iload_n 1, 1) := by decide +kernel
theorem dX6_flush_31 : decode cX6_flush 31 = .ok (.ireturn, 1) := by decide +kernel
theorem dX6_cancel_0 : decode cX6_cancel 0 = .ok (.iload_n 1, 1) := by decide +kernel
theorem dX6_cancel_1 : decode cX6_cancel 1 = .ok (.iconst 0, 1) := by decide +kernel
theorem dX6_cancel_2 : decode cX6_cancel 2 = .ok (.aload_n 0, 1) := by decide +kernel
theorem dX6_cancel_3 : decode cX6_cancel 3 = .ok (.getfield 89, 3) := by decide +kernel
theorem dX6_cancel_6 : decode cX6_cancel 6 = .ok (.iconst 1, 1) := by decide +kernel
theorem dX6_cancel_7 : decode cX6_cancel 7 = .ok (.isub, 1) := by decide +kernel
theorem dX6_cancel_8 : decode cX6_cancel 8 = .ok (.invokestatic 78, 3) := by decide +kernel
theorem dX6_cancel_11 : decode cX6_cancel 11 = .ok (.ifCond .ne 5, 3) := by decide +kernel
theorem dX6_cancel_14 : decode cX6_cancel 14 = .ok (.iconst (-1), 1) := by decide +kernel
theorem dX6_cancel_15 : decode cX6_cancel 15 = .ok (.ireturn, 1) := by decide +kernel
theorem dX6_cancel_16 : decode cX6_cancel 16 = .ok (.aload_n 0, 1) := by decide +kernel
theorem dX6_cancel_17 : decode cX6_cancel 17 = .ok (.getfield 38, 3) := by decide +kernel
theorem dX6_cancel_20 : decode cX6_cancel 20 = .ok (.iload_n 1, 1) := by decide +kernel
theorem dX6_cancel_21 : decode cX6_cancel 21 = .ok (.iaload, 1) := by decide +kernel
theorem dX6_cancel_22 : decode cX6_cancel 22 = .ok (.ifCond .gt 12, 3) := by decide +kernel
theorem dX6_cancel_25 : decode cX6_cancel 25 = .ok (.aload_n 0, 1) := by decide +kernel
theorem dX6_cancel_26 : decode cX6_cancel 26 = .ok (.getfield 35, 3) := by decide +kernel
theorem dX6_cancel_29 : decode cX6_cancel 29 = .ok (.iload_n 1, 1) := by decide +kernel
theorem dX6_cancel_30 : decode cX6_cancel 30 = .ok (.baload, 1) := by decide +kernel
theorem dX6_cancel_31 : decode cX6_cancel 31 = .ok (.ifCond .eq 6, 3) := by decide +kernel
theorem dX6_cancel_34 : decode cX6_cancel 34 = .ok (.bipush (-3), 2) := by decide +kernel
theorem dX6_cancel_36 : decode cX6_cancel 36 = .ok (.ireturn, 1) := by decide +kernel
theorem dX6_cancel_37 : decode cX6_cancel 37 = .ok (.aload_n 0, 1) := by decide +kernel
theorem dX6_cancel_38 : decode cX6_cancel 38 = .ok (.getfield 35, 3) := by decide +kernel
theorem dX6_cancel_41 : decode cX6_cancel 41 = .ok (.iload_n 1, 1) := by decide +kernel
theorem dX6_cancel_42 : decode cX6_cancel 42 = .ok (.iconst 1, 1) := by decide +kernel
theorem dX6_cancel_43 : decode cX6_cancel 43 = .ok (.bastore, 1) := by decide +kernel
theorem dX6_cancel_44 : decode cX6_cancel 44 = .ok (.aload_n 0, 1) := by decide +kernel
theorem dX6_cancel_45 : decode cX6_cancel 45 = .ok (.getfield 26, 3) := by decide +kernel
theorem dX6_cancel_48 : decode cX6_cancel 48 = .ok (.iload_n 1, 1) := by decide +kernel
theorem dX6_cancel_49 : decode cX6_cancel 49 = .ok (.iconst 0, 1) := by decide +kernel
theorem dX6_cancel_50 : decode cX6_cancel 50 = .ok (.iastore, 1) := by decide +kernel
theorem dX6_cancel_51 : decode cX6_cancel 51 = .ok (.iconst 1, 1) := by decide +kernel
theorem dX6_cancel_52 : decode cX6_cancel 52 = .ok (.ireturn, 1) := by decide +kernel
theorem dX6_partAt_0 : decode cX6_partAt 0 = .ok (.iload_n 2, 1) := by decide +kernel
theorem dX6_partAt_1 : decode cX6_partAt 1 = .ok (.istore_n 3, 1) := by decide +kernel
theorem dX6_partAt_2 : decode cX6_partAt 2 = .ok (.iconst 0, 1) := by decide +kernel
theorem dX6_partAt_3 : decode cX6_partAt 3 = .ok (.istore 4, 2) := by decide +kernel
theorem dX6_partAt_5 : decode cX6_partAt 5 = .ok (.iload 4, 2) := by decide +kernel
theorem dX6_partAt_7 : decode cX6_partAt 7 = .ok (.aload_n 0, 1) := by decide +kernel
theorem dX6_partAt_8 : decode cX6_partAt 8 = .ok (.getfield 95, 3) := by decide +kernel
theorem dX6_partAt_11 : decode cX6_partAt 11 = .ok (.if_icmp .ge 34, 3) := by decide +kernel
theorem dX6_partAt_14 : decode cX6_partAt 14 = .ok (.iload_n 2, 1) := by decide +kernel
theorem dX6_partAt_15 : decode cX6_partAt 15 = .ok (.ifCond .lt 30, 3) := by decide +kernel
theorem dX6_partAt_18 : decode cX6_partAt 18 = .ok (.aload_n 0, 1) := by decide +kernel
theorem dX6_partAt_19 : decode cX6_partAt 19 = .ok (.getfield 50, 3) := by decide +kernel
theorem dX6_partAt_22 : decode cX6_partAt 22 = .ok (.iload 4, 2) := by decide +kernel
theorem dX6_partAt_24 : decode cX6_partAt 24 = .ok (.iaload, 1) := by decide +kernel
theorem dX6_partAt_25 : decode cX6_partAt 25 = .ok (.iload_n 1, 1) := by decide +kernel
theorem dX6_partAt_26 : decode cX6_partAt 26 = .ok (.if_icmp .ne 13, 3) := by decide +kernel
theorem dX6_partAt_29 : decode cX6_partAt 29 = .ok (.iload_n 3, 1) := by decide +kernel
theorem dX6_partAt_30 : decode cX6_partAt 30 = .ok (.ifCond .ne 6, 3) := by decide +kernel
theorem dX6_partAt_33 : decode cX6_partAt 33 = .ok (.iload 4, 2) := by decide +kernel
theorem dX6_partAt_35 : decode cX6_partAt 35 = .ok (.ireturn, 1) := by decide +kernel
theorem dX6_partAt_36 : decode cX6_partAt 36 = .ok (.iinc 3 (-1), 3) := by decide +kernel
theorem dX6_partAt_39 : decode cX6_partAt 39 = .ok (.iinc 4 1, 3) := by decide +kernel
theorem dX6_partAt_42 : decode cX6_partAt 42 = .ok (.goto (-37), 3) := by decide +kernel
theorem dX6_partAt_45 : decode cX6_partAt 45 = .ok (.iconst (-1), 1) := by decide +kernel
theorem dX6_partAt_46 : decode cX6_partAt 46 = .ok (.ireturn, 1) := by decide +kernel
theorem dX6_placed_0 : decode cX6_placed 0 = .ok (.aload_n 0, 1) := by decide +kernel
theorem dX6_placed_1 : decode cX6_placed 1 = .ok (.iload_n 1, 1) := by decide +kernel
theorem dX6_placed_2 : decode cX6_placed 2 = .ok (.iload_n 2, 1) := by decide +kernel
theorem dX6_placed_3 : decode cX6_placed 3 = .ok (.invokevirtual 131, 3) := by decide +kernel
theorem dX6_placed_6 : decode cX6_placed 6 = .ok (.istore 4, 2) := by decide +kernel
theorem dX6_placed_8 : decode cX6_placed 8 = .ok (.iload 4, 2) := by decide +kernel
theorem dX6_placed_10 : decode cX6_placed 10 = .ok (.ifCond .lt 12, 3) := by decide +kernel
theorem dX6_placed_13 : decode cX6_placed 13 = .ok (.iload_n 3, 1) := by decide +kernel
theorem dX6_placed_14 : decode cX6_placed 14 = .ok (.iconst 0, 1) := by decide +kernel
theorem dX6_placed_15 : decode cX6_placed 15 = .ok (.iconst 3, 1) := by decide +kernel
theorem dX6_placed_16 : decode cX6_placed 16 = .ok (.invokestatic 78, 3) := by decide +kernel
theorem dX6_placed_19 : decode cX6_placed 19 = .ok (.ifCond .ne 5, 3) := by decide +kernel
theorem dX6_placed_22 : decode cX6_placed 22 = .ok (.iconst (-1), 1) := by decide +kernel
theorem dX6_placed_23 : decode cX6_placed 23 = .ok (.ireturn, 1) := by decide +kernel
theorem dX6_placed_24 : decode cX6_placed 24 = .ok (.iload_n 3, 1) := by decide +kernel
theorem dX6_placed_25 : decode cX6_placed 25 = .ok (.ifCond .ne 13, 3) := by decide +kernel
theorem dX6_placed_28 : decode cX6_placed 28 = .ok (.aload_n 0, 1) := by decide +kernel
theorem dX6_placed_29 : decode cX6_placed 29 = .ok (.getfield 53, 3) := by decide +kernel
theorem dX6_placed_32 : decode cX6_placed 32 = .ok (.iload 4, 2) := by decide +kernel
theorem dX6_placed_34 : decode cX6_placed 34 = .ok (.iaload, 1) := by decide +kernel
theorem dX6_placed_35 : decode cX6_placed 35 = .ok (.goto 53, 3) := by decide +kernel
theorem dX6_placed_38 : decode cX6_placed 38 = .ok (.iload_n 3, 1) := by decide +kernel
theorem dX6_placed_39 : decode cX6_placed 39 = .ok (.iconst 1, 1) := by decide +kernel
theorem dX6_placed_40 : decode cX6_placed 40 = .ok (.if_icmp .ne 13, 3) := by decide +kernel
theorem dX6_placed_43 : decode cX6_placed 43 = .ok (.aload_n 0, 1) := by decide +kernel
theorem dX6_placed_44 : decode cX6_placed 44 = .ok (.getfield 56, 3) := by decide +kernel
theorem dX6_placed_47 : decode cX6_placed 47 = .ok (.iload 4, 2) := by decide +kernel
theorem dX6_placed_49 : decode cX6_placed 49 = .ok (.iaload, 1) := by decide +kernel
theorem dX6_placed_50 : decode cX6_placed 50 = .ok (.goto 38, 3) := by decide +kernel
theorem dX6_placed_53 : decode cX6_placed 53 = .ok (.iload_n 3, 1) := by decide +kernel
theorem dX6_placed_54 : decode cX6_placed 54 = .ok (.iconst 2, 1) := by decide +kernel
theorem dX6_placed_55 : decode cX6_placed 55 = .ok (.if_icmp .ne 18, 3) := by decide +kernel
theorem dX6_placed_58 : decode cX6_placed 58 = .ok (.aload_n 0, 1) := by decide +kernel
theorem dX6_placed_59 : decode cX6_placed 59 = .ok (.getfield 32, 3) := by decide +kernel
theorem dX6_placed_62 : decode cX6_placed 62 = .ok (.aload_n 0, 1) := by decide +kernel
theorem dX6_placed_63 : decode cX6_placed 63 = .ok (.getfield 53, 3) := by decide +kernel
theorem dX6_placed_66 : decode cX6_placed 66 = .ok (.iload 4, 2) := by decide +kernel
theorem dX6_placed_68 : decode cX6_placed 68 = .ok (.iaload, 1) := by decide +kernel
theorem dX6_placed_69 : decode cX6_placed 69 = .ok (.iaload, 1) := by decide +kernel
theorem dX6_placed_70 : decode cX6_placed 70 = .ok (.goto 18, 3) := by decide +kernel
theorem dX6_placed_73 : decode cX6_placed 73 = .ok (.aload_n 0, 1) := by decide +kernel
theorem dX6_placed_74 : decode cX6_placed 74 = .ok (.getfield 59, 3) := by decide +kernel
theorem dX6_placed_77 : decode cX6_placed 77 = .ok (.iload 4, 2) := by decide +kernel
theorem dX6_placed_79 : decode cX6_placed 79 = .ok (.baload, 1) := by decide +kernel
theorem dX6_placed_80 : decode cX6_placed 80 = .ok (.ifCond .eq 7, 3) := by decide +kernel
theorem dX6_placed_83 : decode cX6_placed 83 = .ok (.iconst 1, 1) := by decide +kernel
theorem dX6_placed_84 : decode cX6_placed 84 = .ok (.goto 4, 3) := by decide +kernel
theorem dX6_placed_87 : decode cX6_placed 87 = .ok (.iconst 0, 1) := by decide +kernel
theorem dX6_placed_88 : decode cX6_placed 88 = .ok (.ireturn, 1) := by decide +kernel
theorem dX6_about_0 : decode cX6_about 0 = .ok (.iload_n 1, 1) := by decide +kernel
theorem dX6_about_1 : decode cX6_about 1 = .ok (.iconst 0, 1) := by decide +kernel
theorem dX6_about_2 : decode cX6_about 2 = .ok (.aload_n 0, 1) := by decide +kernel
theorem dX6_about_3 : decode cX6_about 3 = .ok (.getfield 89, 3) := by decide +kernel
theorem dX6_about_6 : decode cX6_about 6 = .ok (.iconst 1, 1) := by decide +kernel
theorem dX6_about_7 : decode cX6_about 7 = .ok (.isub, 1) := by decide +kernel
theorem dX6_about_8 : decode cX6_about 8 = .ok (.invokestatic 78, 3) := by decide +kernel
theorem dX6_about_11 : decode cX6_about 11 = .ok (.ifCond .ne 5, 3) := by decide +kernel
theorem dX6_about_14 : decode cX6_about 14 = .ok (.iconst (-1), 1) := by decide +kernel
theorem dX6_about_15 : decode cX6_about 15 = .ok (.ireturn, 1) := by decide +kernel
theorem dX6_about_16 : decode cX6_about 16 = .ok (.iconst (-1), 1) := by decide +kernel
theorem dX6_about_17 : decode cX6_about 17 = .ok (.istore_n 3, 1) := by decide +kernel
theorem dX6_about_18 : decode cX6_about 18 = .ok (.iconst (-1), 1) := by decide +kernel
theorem dX6_about_19 : decode cX6_about 19 = .ok (.istore 4, 2) := by decide +kernel
theorem dX6_about_21 : decode cX6_about 21 = .ok (.iconst 0, 1) := by decide +kernel
theorem dX6_about_22 : decode cX6_about 22 = .ok (.istore 5, 2) := by decide +kernel
theorem dX6_about_24 : decode cX6_about 24 = .ok (.iload 5, 2) := by decide +kernel
theorem dX6_about_26 : decode cX6_about 26 = .ok (.aload_n 0, 1) := by decide +kernel
theorem dX6_about_27 : decode cX6_about 27 = .ok (.getfield 95, 3) := by decide +kernel
theorem dX6_about_30 : decode cX6_about 30 = .ok (.if_icmp .ge 45, 3) := by decide +kernel
theorem dX6_about_33 : decode cX6_about 33 = .ok (.aload_n 0, 1) := by decide +kernel
theorem dX6_about_34 : decode cX6_about 34 = .ok (.getfield 53, 3) := by decide +kernel
theorem dX6_about_37 : decode cX6_about 37 = .ok (.iload 5, 2) := by decide +kernel
theorem dX6_about_39 : decode cX6_about 39 = .ok (.iaload, 1) := by decide +kernel
theorem dX6_about_40 : decode cX6_about 40 = .ok (.iload_n 1, 1) := by decide +kernel
theorem dX6_about_41 : decode cX6_about 41 = .ok (.if_icmp .ne 28, 3) := by decide +kernel
theorem dX6_about_44 : decode cX6_about 44 = .ok (.iload_n 3, 1) := by decide +kernel
theorem dX6_about_45 : decode cX6_about 45 = .ok (.ifCond .ge 13, 3) := by decide +kernel
theorem dX6_about_48 : decode cX6_about 48 = .ok (.aload_n 0, 1) := by decide +kernel
theorem dX6_about_49 : decode cX6_about 49 = .ok (.getfield 50, 3) := by decide +kernel
theorem dX6_about_52 : decode cX6_about 52 = .ok (.iload 5, 2) := by decide +kernel
theorem dX6_about_54 : decode cX6_about 54 = .ok (.iaload, 1) := by decide +kernel
theorem dX6_about_55 : decode cX6_about 55 = .ok (.goto 4, 3) := by decide +kernel
theorem dX6_about_58 : decode cX6_about 58 = .ok (.iload_n 3, 1) := by decide +kernel
theorem dX6_about_59 : decode cX6_about 59 = .ok (.istore_n 3, 1) := by decide +kernel
theorem dX6_about_60 : decode cX6_about 60 = .ok (.aload_n 0, 1) := by decide +kernel
theorem dX6_about_61 : decode cX6_about 61 = .ok (.getfield 50, 3) := by decide +kernel
theorem dX6_about_64 : decode cX6_about 64 = .ok (.iload 5, 2) := by decide +kernel
theorem dX6_about_66 : decode cX6_about 66 = .ok (.iaload, 1) := by decide +kernel
theorem dX6_about_67 : decode cX6_about 67 = .ok (.istore 4, 2) := by decide +kernel
theorem dX6_about_69 : decode cX6_about 69 = .ok (.iinc 5 1, 3) := by decide +kernel
theorem dX6_about_72 : decode cX6_about 72 = .ok (.goto (-48), 3) := by decide +kernel
theorem dX6_about_75 : decode cX6_about 75 = .ok (.iload_n 2, 1) := by decide +kernel
theorem dX6_about_76 : decode cX6_about 76 = .ok (.tableswitch 75 0 4 #[36, 43, 45, 48, 68], 36) := by decide +kernel
theorem dX6_about_112 : decode cX6_about 112 = .ok (.aload_n 0, 1) := by decide +kernel
theorem dX6_about_113 : decode cX6_about 113 = .ok (.getfield 26, 3) := by decide +kernel
theorem dX6_about_116 : decode cX6_about 116 = .ok (.iload_n 1, 1) := by decide +kernel
theorem dX6_about_117 : decode cX6_about 117 = .ok (.iaload, 1) := by decide +kernel
theorem dX6_about_118 : decode cX6_about 118 = .ok (.ireturn, 1) := by decide +kernel
theorem dX6_about_119 : decode cX6_about 119 = .ok (.iload_n 3, 1) := by decide +kernel
theorem dX6_about_120 : decode cX6_about 120 = .ok (.ireturn, 1) := by decide +kernel
theorem dX6_about_121 : decode cX6_about 121 = .ok (.iload 4, 2) := by decide +kernel
theorem dX6_about_123 : decode cX6_about 123 = .ok (.ireturn, 1) := by decide +kernel
theorem dX6_about_124 : decode cX6_about 124 = .ok (.aload_n 0, 1) := by decide +kernel
theorem dX6_about_125 : decode cX6_about 125 = .ok (.getfield 38, 3) := by decide +kernel
theorem dX6_about_128 : decode cX6_about 128 = .ok (.iload_n 1, 1) := by decide +kernel
theorem dX6_about_129 : decode cX6_about 129 = .ok (.iaload, 1) := by decide +kernel
theorem dX6_about_130 : decode cX6_about 130 = .ok (.ifCond .le 12, 3) := by decide +kernel
theorem dX6_about_133 : decode cX6_about 133 = .ok (.aload_n 0, 1) := by decide +kernel
theorem dX6_about_134 : decode cX6_about 134 = .ok (.getfield 32, 3) := by decide +kernel
theorem dX6_about_137 : decode cX6_about 137 = .ok (.iload_n 1, 1) := by decide +kernel
theorem dX6_about_138 : decode cX6_about 138 = .ok (.iaload, 1) := by decide +kernel
theorem dX6_about_139 : decode cX6_about 139 = .ok (.goto 4, 3) := by decide +kernel
theorem dX6_about_142 : decode cX6_about 142 = .ok (.iconst (-1), 1) := by decide +kernel
theorem dX6_about_143 : decode cX6_about 143 = .ok (.ireturn, 1) := by decide +kernel
theorem dX6_about_144 : decode cX6_about 144 = .ok (.aload_n 0, 1) := by decide +kernel
theorem dX6_about_145 : decode cX6_about 145 = .ok (.getfield 38, 3) := by decide +kernel
theorem dX6_about_148 : decode cX6_about 148 = .ok (.iload_n 1, 1) := by decide +kernel
theorem dX6_about_149 : decode cX6_about 149 = .ok (.iaload, 1) := by decide +kernel
theorem dX6_about_150 : decode cX6_about 150 = .ok (.ireturn, 1) := by decide +kernel
theorem dX6_about_151 : decode cX6_about 151 = .ok (.bipush (-2), 2) := by decide +kernel
theorem dX6_about_153 : decode cX6_about 153 = .ok (.ireturn, 1) := by decide +kernel
theorem dX6_held_0 : decode cX6_held 0 = .ok (.aload_n 0, 1) := by decide +kernel
theorem dX6_held_1 : decode cX6_held 1 = .ok (.iload_n 1, 1) := by decide +kernel
theorem dX6_held_2 : decode cX6_held 2 = .ok (.invokevirtual 123, 3) := by decide +kernel
theorem dX6_held_5 : decode cX6_held 5 = .ok (.ireturn, 1) := by decide +kernel
theorem dX6_used_0 : decode cX6_used 0 = .ok (.iload_n 1, 1) := by decide +kernel
theorem dX6_used_1 : decode cX6_used 1 = .ok (.iconst 0, 1) := by decide +kernel
theorem dX6_used_2 : decode cX6_used 2 = .ok (.bipush 39, 2) := by decide +kernel
theorem dX6_used_4 : decode cX6_used 4 = .ok (.invokestatic 78, 3) := by decide +kernel
theorem dX6_used_7 : decode cX6_used 7 = .ok (.ifCond .eq 16, 3) := by decide +kernel
theorem dX6_used_10 : decode cX6_used 10 = .ok (.iload_n 2, 1) := by decide +kernel
theorem dX6_used_11 : decode cX6_used 11 = .ok (.iconst (-1), 1) := by decide +kernel
theorem dX6_used_12 : decode cX6_used 12 = .ok (.if_icmp .eq 15, 3) := by decide +kernel
theorem dX6_used_15 : decode cX6_used 15 = .ok (.aload_n 0, 1) := by decide +kernel
theorem dX6_used_16 : decode cX6_used 16 = .ok (.iload_n 2, 1) := by decide +kernel
theorem dX6_used_17 : decode cX6_used 17 = .ok (.invokevirtual 82, 3) := by decide +kernel
theorem dX6_used_20 : decode cX6_used 20 = .ok (.ifCond .ne 7, 3) := by decide +kernel
theorem dX6_used_23 : decode cX6_used 23 = .ok (.iconst (-1), 1) := by decide +kernel
theorem dX6_used_24 : decode cX6_used 24 = .ok (.goto 9, 3) := by decide +kernel
theorem dX6_used_27 : decode cX6_used 27 = .ok (.aload_n 0, 1) := by decide +kernel
theorem dX6_used_28 : decode cX6_used 28 = .ok (.iload_n 1, 1) := by decide +kernel
theorem dX6_used_29 : decode cX6_used 29 = .ok (.iload_n 2, 1) := by decide +kernel
theorem dX6_used_30 : decode cX6_used 30 = .ok (.invokevirtual 101, 3) := by decide +kernel
theorem dX6_used_33 : decode cX6_used 33 = .ok (.ireturn, 1) := by decide +kernel
theorem dX6_markOn_0 : decode cX6_markOn 0 = .ok (.iconst (-1), 1) := by decide +kernel
theorem dX6_markOn_1 : decode cX6_markOn 1 = .ok (.istore 4, 2) := by decide +kernel
theorem dX6_markOn_3 : decode cX6_markOn 3 = .ok (.iconst 0, 1) := by decide +kernel
theorem dX6_markOn_4 : decode cX6_markOn 4 = .ok (.istore 5, 2) := by decide +kernel
theorem dX6_markOn_6 : decode cX6_markOn 6 = .ok (.iload 5, 2) := by decide +kernel
theorem dX6_markOn_8 : decode cX6_markOn 8 = .ok (.aload_n 0, 1) := by decide +kernel
theorem dX6_markOn_9 : decode cX6_markOn 9 = .ok (.getfield 92, 3) := by decide +kernel
theorem dX6_markOn_12 : decode cX6_markOn 12 = .ok (.if_icmp .ge 44, 3) := by decide +kernel
theorem dX6_markOn_15 : decode cX6_markOn 15 = .ok (.aload_n 0, 1) := by decide +kernel
theorem dX6_markOn_16 : decode cX6_markOn 16 = .ok (.getfield 41, 3) := by decide +kernel
theorem dX6_markOn_19 : decode cX6_markOn 19 = .ok (.iload 5, 2) := by decide +kernel
theorem dX6_markOn_21 : decode cX6_markOn 21 = .ok (.iaload, 1) := by decide +kernel
theorem dX6_markOn_22 : decode cX6_markOn 22 = .ok (.iload_n 1, 1) := by decide +kernel
theorem dX6_markOn_23 : decode cX6_markOn 23 = .ok (.if_icmp .ne 27, 3) := by decide +kernel
theorem dX6_markOn_26 : decode cX6_markOn 26 = .ok (.aload_n 0, 1) := by decide +kernel
theorem dX6_markOn_27 : decode cX6_markOn 27 = .ok (.getfield 44, 3) := by decide +kernel
theorem dX6_markOn_30 : decode cX6_markOn 30 = .ok (.iload 5, 2) := by decide +kernel
theorem dX6_markOn_32 : decode cX6_markOn 32 = .ok (.iaload, 1) := by decide +kernel
theorem dX6_markOn_33 : decode cX6_markOn 33 = .ok (.iload_n 2, 1) := by decide +kernel
theorem dX6_markOn_34 : decode cX6_markOn 34 = .ok (.if_icmp .ne 16, 3) := by decide +kernel
theorem dX6_markOn_37 : decode cX6_markOn 37 = .ok (.iload 4, 2) := by decide +kernel
theorem dX6_markOn_39 : decode cX6_markOn 39 = .ok (.ifCond .lt 7, 3) := by decide +kernel
theorem dX6_markOn_42 : decode cX6_markOn 42 = .ok (.iload_n 3, 1) := by decide +kernel
theorem dX6_markOn_43 : decode cX6_markOn 43 = .ok (.ifCond .ne 7, 3) := by decide +kernel
theorem dX6_markOn_46 : decode cX6_markOn 46 = .ok (.iload 5, 2) := by decide +kernel
theorem dX6_markOn_48 : decode cX6_markOn 48 = .ok (.istore 4, 2) := by decide +kernel
theorem dX6_markOn_50 : decode cX6_markOn 50 = .ok (.iinc 5 1, 3) := by decide +kernel
theorem dX6_markOn_53 : decode cX6_markOn 53 = .ok (.goto (-47), 3) := by decide +kernel
theorem dX6_markOn_56 : decode cX6_markOn 56 = .ok (.iload 4, 2) := by decide +kernel
theorem dX6_markOn_58 : decode cX6_markOn 58 = .ok (.ireturn, 1) := by decide +kernel
theorem dX6_lastBefore_0 : decode cX6_lastBefore 0 = .ok (.iload_n 2, 1) := by decide +kernel
theorem dX6_lastBefore_1 : decode cX6_lastBefore 1 = .ok (.iconst 1, 1) := by decide +kernel
theorem dX6_lastBefore_2 : decode cX6_lastBefore 2 = .ok (.isub, 1) := by decide +kernel
theorem dX6_lastBefore_3 : decode cX6_lastBefore 3 = .ok (.istore_n 3, 1) := by decide +kernel
theorem dX6_lastBefore_4 : decode cX6_lastBefore 4 = .ok (.iload_n 3, 1) := by decide +kernel
theorem dX6_lastBefore_5 : decode cX6_lastBefore 5 = .ok (.ifCond .lt 31, 3) := by decide +kernel
theorem dX6_lastBefore_8 : decode cX6_lastBefore 8 = .ok (.aload_n 0, 1) := by decide +kernel
theorem dX6_lastBefore_9 : decode cX6_lastBefore 9 = .ok (.iload_n 1, 1) := by decide +kernel
theorem dX6_lastBefore_10 : decode cX6_lastBefore 10 = .ok (.iload_n 3, 1) := by decide +kernel
theorem dX6_lastBefore_11 : decode cX6_lastBefore 11 = .ok (.iconst 0, 1) := by decide +kernel
theorem dX6_lastBefore_12 : decode cX6_lastBefore 12 = .ok (.invokevirtual 134, 3) := by decide +kernel
theorem dX6_lastBefore_15 : decode cX6_lastBefore 15 = .ok (.istore 4, 2) := by decide +kernel
theorem dX6_lastBefore_17 : decode cX6_lastBefore 17 = .ok (.iload 4, 2) := by decide +kernel
theorem dX6_lastBefore_19 : decode cX6_lastBefore 19 = .ok (.ifCond .lt 11, 3) := by decide +kernel
theorem dX6_lastBefore_22 : decode cX6_lastBefore 22 = .ok (.aload_n 0, 1) := by decide +kernel
theorem dX6_lastBefore_23 : decode cX6_lastBefore 23 = .ok (.getfield 47, 3) := by decide +kernel
theorem dX6_lastBefore_26 : decode cX6_lastBefore 26 = .ok (.iload 4, 2) := by decide +kernel
theorem dX6_lastBefore_28 : decode cX6_lastBefore 28 = .ok (.iaload, 1) := by decide +kernel
theorem dX6_lastBefore_29 : decode cX6_lastBefore 29 = .ok (.ireturn, 1) := by decide +kernel
theorem dX6_lastBefore_30 : decode cX6_lastBefore 30 = .ok (.iinc 3 (-1), 3) := by decide +kernel
theorem dX6_lastBefore_33 : decode cX6_lastBefore 33 = .ok (.goto (-29), 3) := by decide +kernel
theorem dX6_lastBefore_36 : decode cX6_lastBefore 36 = .ok (.iconst 0, 1) := by decide +kernel
theorem dX6_lastBefore_37 : decode cX6_lastBefore 37 = .ok (.ireturn, 1) := by decide +kernel
theorem dX6_seen_0 : decode cX6_seen 0 = .ok (.aload_n 0, 1) := by decide +kernel
theorem dX6_seen_1 : decode cX6_seen 1 = .ok (.iload_n 1, 1) := by decide +kernel
theorem dX6_seen_2 : decode cX6_seen 2 = .ok (.invokevirtual 82, 3) := by decide +kernel
theorem dX6_seen_5 : decode cX6_seen 5 = .ok (.ifCond .eq 22, 3) := by decide +kernel
theorem dX6_seen_8 : decode cX6_seen 8 = .ok (.iload_n 2, 1) := by decide +kernel
theorem dX6_seen_9 : decode cX6_seen 9 = .ok (.iconst 0, 1) := by decide +kernel
theorem dX6_seen_10 : decode cX6_seen 10 = .ok (.bipush 39, 2) := by decide +kernel
theorem dX6_seen_12 : decode cX6_seen 12 = .ok (.invokestatic 78, 3) := by decide +kernel
theorem dX6_seen_15 : decode cX6_seen 15 = .ok (.ifCond .eq 12, 3) := by decide +kernel
theorem dX6_seen_18 : decode cX6_seen 18 = .ok (.iload_n 3, 1) := by decide +kernel
theorem dX6_seen_19 : decode cX6_seen 19 = .ok (.iconst 0, 1) := by decide +kernel
theorem dX6_seen_20 : decode cX6_seen 20 = .ok (.iconst 2, 1) := by decide +kernel
theorem dX6_seen_21 : decode cX6_seen 21 = .ok (.invokestatic 78, 3) := by decide +kernel
theorem dX6_seen_24 : decode cX6_seen 24 = .ok (.ifCond .ne 5, 3) := by decide +kernel
theorem dX6_seen_27 : decode cX6_seen 27 = .ok (.iconst 0, 1) := by decide +kernel
theorem dX6_seen_28 : decode cX6_seen 28 = .ok (.ireturn, 1) := by decide +kernel
theorem dX6_seen_29 : decode cX6_seen 29 = .ok (.iload_n 3, 1) := by decide +kernel
theorem dX6_seen_30 : decode cX6_seen 30 = .ok (.ifCond .ne 7, 3) := by decide +kernel
theorem dX6_seen_33 : decode cX6_seen 33 = .ok (.iconst (-1), 1) := by decide +kernel
theorem dX6_seen_34 : decode cX6_seen 34 = .ok (.goto 19, 3) := by decide +kernel
theorem dX6_seen_37 : decode cX6_seen 37 = .ok (.aload_n 0, 1) := by decide +kernel
theorem dX6_seen_38 : decode cX6_seen 38 = .ok (.iload_n 1, 1) := by decide +kernel
theorem dX6_seen_39 : decode cX6_seen 39 = .ok (.iload_n 2, 1) := by decide +kernel
theorem dX6_seen_40 : decode cX6_seen 40 = .ok (.iload_n 3, 1) := by decide +kernel
theorem dX6_seen_41 : decode cX6_seen 41 = .ok (.iconst 1, 1) := by decide +kernel
theorem dX6_seen_42 : decode cX6_seen 42 = .ok (.if_icmp .ne 7, 3) := by decide +kernel
theorem dX6_seen_45 : decode cX6_seen 45 = .ok (.iconst 1, 1) := by decide +kernel
theorem dX6_seen_46 : decode cX6_seen 46 = .ok (.goto 4, 3) := by decide +kernel
theorem dX6_seen_49 : decode cX6_seen 49 = .ok (.iconst 0, 1) := by decide +kernel
theorem dX6_seen_50 : decode cX6_seen 50 = .ok (.invokevirtual 134, 3) := by decide +kernel
theorem dX6_seen_53 : decode cX6_seen 53 = .ok (.istore 4, 2) := by decide +kernel
theorem dX6_seen_55 : decode cX6_seen 55 = .ok (.iload 4, 2) := by decide +kernel
theorem dX6_seen_57 : decode cX6_seen 57 = .ok (.ifCond .ge 12, 3) := by decide +kernel
theorem dX6_seen_60 : decode cX6_seen 60 = .ok (.aload_n 0, 1) := by decide +kernel
theorem dX6_seen_61 : decode cX6_seen 61 = .ok (.iload_n 1, 1) := by decide +kernel
theorem dX6_seen_62 : decode cX6_seen 62 = .ok (.iload_n 2, 1) := by decide +kernel
theorem dX6_seen_63 : decode cX6_seen 63 = .ok (.invokevirtual 138, 3) := by decide +kernel
theorem dX6_seen_66 : decode cX6_seen 66 = .ok (.goto 10, 3) := by decide +kernel
theorem dX6_seen_69 : decode cX6_seen 69 = .ok (.aload_n 0, 1) := by decide +kernel
theorem dX6_seen_70 : decode cX6_seen 70 = .ok (.getfield 47, 3) := by decide +kernel
theorem dX6_seen_73 : decode cX6_seen 73 = .ok (.iload 4, 2) := by decide +kernel
theorem dX6_seen_75 : decode cX6_seen 75 = .ok (.iaload, 1) := by decide +kernel
theorem dX6_seen_76 : decode cX6_seen 76 = .ok (.ireturn, 1) := by decide +kernel
theorem dX6_count_0 : decode cX6_count 0 = .ok (.iconst 0, 1) := by decide +kernel
theorem dX6_count_1 : decode cX6_count 1 = .ok (.istore_n 2, 1) := by decide +kernel
theorem dX6_count_2 : decode cX6_count 2 = .ok (.iload_n 1, 1) := by decide +kernel
theorem dX6_count_3 : decode cX6_count 3 = .ok (.tableswitch 69 0 4 #[33, 38, 43, 48, 53], 33) := by decide +kernel
theorem dX6_count_36 : decode cX6_count 36 = .ok (.aload_n 0, 1) := by decide +kernel
theorem dX6_count_37 : decode cX6_count 37 = .ok (.getfield 75, 3) := by decide +kernel
theorem dX6_count_40 : decode cX6_count 40 = .ok (.ireturn, 1) := by decide +kernel
theorem dX6_count_41 : decode cX6_count 41 = .ok (.aload_n 0, 1) := by decide +kernel
theorem dX6_count_42 : decode cX6_count 42 = .ok (.getfield 89, 3) := by decide +kernel
theorem dX6_count_45 : decode cX6_count 45 = .ok (.ireturn, 1) := by decide +kernel
theorem dX6_count_46 : decode cX6_count 46 = .ok (.aload_n 0, 1) := by decide +kernel
theorem dX6_count_47 : decode cX6_count 47 = .ok (.getfield 92, 3) := by decide +kernel
theorem dX6_count_50 : decode cX6_count 50 = .ok (.ireturn, 1) := by decide +kernel
theorem dX6_count_51 : decode cX6_count 51 = .ok (.aload_n 0, 1) := by decide +kernel
theorem dX6_count_52 : decode cX6_count 52 = .ok (.getfield 86, 3) := by decide +kernel
theorem dX6_count_55 : decode cX6_count 55 = .ok (.ireturn, 1) := by decide +kernel
theorem dX6_count_56 : decode cX6_count 56 = .ok (.aload_n 0, 1) := by decide +kernel
theorem dX6_count_57 : decode cX6_count 57 = .ok (.iload_n 2, 1) := by decide +kernel
theorem dX6_count_58 : decode cX6_count 58 = .ok (.invokevirtual 123, 3) := by decide +kernel
theorem dX6_count_61 : decode cX6_count 61 = .ok (.ifCond .lt 9, 3) := by decide +kernel
theorem dX6_count_64 : decode cX6_count 64 = .ok (.iinc 2 1, 3) := by decide +kernel
theorem dX6_count_67 : decode cX6_count 67 = .ok (.goto (-11), 3) := by decide +kernel
theorem dX6_count_70 : decode cX6_count 70 = .ok (.iload_n 2, 1) := by decide +kernel
theorem dX6_count_71 : decode cX6_count 71 = .ok (.ireturn, 1) := by decide +kernel
theorem dX6_count_72 : decode cX6_count 72 = .ok (.bipush (-2), 2) := by decide +kernel
theorem dX6_count_74 : decode cX6_count 74 = .ok (.ireturn, 1) := by decide +kernel

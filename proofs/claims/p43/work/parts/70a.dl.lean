theorem dL_cell_0 : decode cL_cell 0 = .ok (.ldc 7, 2) := by decide +kernel
theorem dL_cell_2 : decode cL_cell 2 = .ok (.iload_n 1, 1) := by decide +kernel
theorem dL_cell_3 : decode cL_cell 3 = .ok (.aload_n 0, 1) := by decide +kernel
theorem dL_cell_4 : decode cL_cell 4 = .ok (.arraylength, 1) := by decide +kernel
theorem dL_cell_5 : decode cL_cell 5 = .ok (.if_icmp .ge 9, 3) := by decide +kernel
theorem dL_cell_8 : decode cL_cell 8 = .ok (.aload_n 0, 1) := by decide +kernel
theorem dL_cell_9 : decode cL_cell 9 = .ok (.iload_n 1, 1) := by decide +kernel
theorem dL_cell_10 : decode cL_cell 10 = .ok (.iaload, 1) := by decide +kernel
theorem dL_cell_11 : decode cL_cell 11 = .ok (.goto 4, 3) := by decide +kernel
theorem dL_cell_14 : decode cL_cell 14 = .ok (.iconst 0, 1) := by decide +kernel
theorem dL_cell_15 : decode cL_cell 15 = .ok (.sipush 1009, 3) := by decide +kernel
theorem dL_cell_18 : decode cL_cell 18 = .ok (.iload_n 1, 1) := by decide +kernel
theorem dL_cell_19 : decode cL_cell 19 = .ok (.imul, 1) := by decide +kernel
theorem dL_cell_20 : decode cL_cell 20 = .ok (.iadd, 1) := by decide +kernel
theorem dL_cell_21 : decode cL_cell 21 = .ok (.imul, 1) := by decide +kernel
theorem dL_cell_22 : decode cL_cell 22 = .ok (.sipush 12345, 3) := by decide +kernel
theorem dL_cell_25 : decode cL_cell 25 = .ok (.iadd, 1) := by decide +kernel
theorem dL_cell_26 : decode cL_cell 26 = .ok (.istore_n 2, 1) := by decide +kernel
theorem dL_cell_27 : decode cL_cell 27 = .ok (.iload_n 2, 1) := by decide +kernel
theorem dL_cell_28 : decode cL_cell 28 = .ok (.iload_n 2, 1) := by decide +kernel
theorem dL_cell_29 : decode cL_cell 29 = .ok (.bipush 13, 2) := by decide +kernel
theorem dL_cell_31 : decode cL_cell 31 = .ok (.iushr, 1) := by decide +kernel
theorem dL_cell_32 : decode cL_cell 32 = .ok (.ixor, 1) := by decide +kernel
theorem dL_cell_33 : decode cL_cell 33 = .ok (.ldc 8, 2) := by decide +kernel
theorem dL_cell_35 : decode cL_cell 35 = .ok (.imul, 1) := by decide +kernel
theorem dL_cell_36 : decode cL_cell 36 = .ok (.istore_n 2, 1) := by decide +kernel
theorem dL_cell_37 : decode cL_cell 37 = .ok (.iload_n 2, 1) := by decide +kernel
theorem dL_cell_38 : decode cL_cell 38 = .ok (.iload_n 2, 1) := by decide +kernel
theorem dL_cell_39 : decode cL_cell 39 = .ok (.bipush 16, 2) := by decide +kernel
theorem dL_cell_41 : decode cL_cell 41 = .ok (.iushr, 1) := by decide +kernel
theorem dL_cell_42 : decode cL_cell 42 = .ok (.ixor, 1) := by decide +kernel
theorem dL_cell_43 : decode cL_cell 43 = .ok (.ireturn, 1) := by decide +kernel
theorem dL_pick_0 : decode cL_pick 0 = .ok (.aload_n 0, 1) := by decide +kernel
theorem dL_pick_1 : decode cL_pick 1 = .ok (.iload_n 1, 1) := by decide +kernel
theorem dL_pick_2 : decode cL_pick 2 = .ok (.invokestatic 9, 3) := by decide +kernel
theorem dL_pick_5 : decode cL_pick 5 = .ok (.bipush 8, 2) := by decide +kernel
theorem dL_pick_7 : decode cL_pick 7 = .ok (.iushr, 1) := by decide +kernel
theorem dL_pick_8 : decode cL_pick 8 = .ok (.iload_n 2, 1) := by decide +kernel
theorem dL_pick_9 : decode cL_pick 9 = .ok (.irem, 1) := by decide +kernel
theorem dL_pick_10 : decode cL_pick 10 = .ok (.ireturn, 1) := by decide +kernel
theorem dL_told_0 : decode cL_told 0 = .ok (.iload_n 0, 1) := by decide +kernel
theorem dL_told_1 : decode cL_told 1 = .ok (.ifCond .eq 7, 3) := by decide +kernel
theorem dL_told_4 : decode cL_told 4 = .ok (.iconst 1, 1) := by decide +kernel
theorem dL_told_5 : decode cL_told 5 = .ok (.goto 4, 3) := by decide +kernel
theorem dL_told_8 : decode cL_told 8 = .ok (.iconst 0, 1) := by decide +kernel
theorem dL_told_9 : decode cL_told 9 = .ok (.ireturn, 1) := by decide +kernel
theorem dL_plain_0 : decode cL_plain 0 = .ok (.iload_n 1, 1) := by decide +kernel
theorem dL_plain_1 : decode cL_plain 1 = .ok (.tableswitch 211 0 15 #[79, 90, 97, 102, 111, 117, 126, 135, 144, 150, 156, 162, 167, 176, 185, 204], 79) := by decide +kernel
theorem dL_plain_80 : decode cL_plain 80 = .ok (.aload_n 0, 1) := by decide +kernel
theorem dL_plain_81 : decode cL_plain 81 = .ok (.iload_n 2, 1) := by decide +kernel
theorem dL_plain_82 : decode cL_plain 82 = .ok (.iload_n 3, 1) := by decide +kernel
theorem dL_plain_83 : decode cL_plain 83 = .ok (.iload 4, 2) := by decide +kernel
theorem dL_plain_85 : decode cL_plain 85 = .ok (.iload 5, 2) := by decide +kernel
theorem dL_plain_87 : decode cL_plain 87 = .ok (.invokevirtual 15, 3) := by decide +kernel
theorem dL_plain_90 : decode cL_plain 90 = .ok (.ireturn, 1) := by decide +kernel
theorem dL_plain_91 : decode cL_plain 91 = .ok (.aload_n 0, 1) := by decide +kernel
theorem dL_plain_92 : decode cL_plain 92 = .ok (.iload_n 2, 1) := by decide +kernel
theorem dL_plain_93 : decode cL_plain 93 = .ok (.iload_n 3, 1) := by decide +kernel
theorem dL_plain_94 : decode cL_plain 94 = .ok (.invokevirtual 21, 3) := by decide +kernel
theorem dL_plain_97 : decode cL_plain 97 = .ok (.ireturn, 1) := by decide +kernel
theorem dL_plain_98 : decode cL_plain 98 = .ok (.aload_n 0, 1) := by decide +kernel
theorem dL_plain_99 : decode cL_plain 99 = .ok (.invokevirtual 25, 3) := by decide +kernel
theorem dL_plain_102 : decode cL_plain 102 = .ok (.ireturn, 1) := by decide +kernel
theorem dL_plain_103 : decode cL_plain 103 = .ok (.aload_n 0, 1) := by decide +kernel
theorem dL_plain_104 : decode cL_plain 104 = .ok (.iload_n 2, 1) := by decide +kernel
theorem dL_plain_105 : decode cL_plain 105 = .ok (.iload_n 3, 1) := by decide +kernel
theorem dL_plain_106 : decode cL_plain 106 = .ok (.iload 4, 2) := by decide +kernel
theorem dL_plain_108 : decode cL_plain 108 = .ok (.invokevirtual 29, 3) := by decide +kernel
theorem dL_plain_111 : decode cL_plain 111 = .ok (.ireturn, 1) := by decide +kernel
theorem dL_plain_112 : decode cL_plain 112 = .ok (.aload_n 0, 1) := by decide +kernel
theorem dL_plain_113 : decode cL_plain 113 = .ok (.iload_n 2, 1) := by decide +kernel
theorem dL_plain_114 : decode cL_plain 114 = .ok (.invokevirtual 33, 3) := by decide +kernel
theorem dL_plain_117 : decode cL_plain 117 = .ok (.ireturn, 1) := by decide +kernel
theorem dL_plain_118 : decode cL_plain 118 = .ok (.aload_n 0, 1) := by decide +kernel
theorem dL_plain_119 : decode cL_plain 119 = .ok (.iload_n 2, 1) := by decide +kernel
theorem dL_plain_120 : decode cL_plain 120 = .ok (.iload_n 3, 1) := by decide +kernel
theorem dL_plain_121 : decode cL_plain 121 = .ok (.iload 4, 2) := by decide +kernel
theorem dL_plain_123 : decode cL_plain 123 = .ok (.invokevirtual 37, 3) := by decide +kernel
theorem dL_plain_126 : decode cL_plain 126 = .ok (.ireturn, 1) := by decide +kernel
theorem dL_plain_127 : decode cL_plain 127 = .ok (.aload_n 0, 1) := by decide +kernel
theorem dL_plain_128 : decode cL_plain 128 = .ok (.iload_n 2, 1) := by decide +kernel
theorem dL_plain_129 : decode cL_plain 129 = .ok (.iload_n 3, 1) := by decide +kernel
theorem dL_plain_130 : decode cL_plain 130 = .ok (.iload 4, 2) := by decide +kernel
theorem dL_plain_132 : decode cL_plain 132 = .ok (.invokevirtual 40, 3) := by decide +kernel
theorem dL_plain_135 : decode cL_plain 135 = .ok (.ireturn, 1) := by decide +kernel
theorem dL_plain_136 : decode cL_plain 136 = .ok (.aload_n 0, 1) := by decide +kernel
theorem dL_plain_137 : decode cL_plain 137 = .ok (.iload_n 2, 1) := by decide +kernel
theorem dL_plain_138 : decode cL_plain 138 = .ok (.iload_n 3, 1) := by decide +kernel
theorem dL_plain_139 : decode cL_plain 139 = .ok (.iload 4, 2) := by decide +kernel
theorem dL_plain_141 : decode cL_plain 141 = .ok (.invokevirtual 43, 3) := by decide +kernel
theorem dL_plain_144 : decode cL_plain 144 = .ok (.ireturn, 1) := by decide +kernel
theorem dL_plain_145 : decode cL_plain 145 = .ok (.aload_n 0, 1) := by decide +kernel
theorem dL_plain_146 : decode cL_plain 146 = .ok (.iload_n 2, 1) := by decide +kernel
theorem dL_plain_147 : decode cL_plain 147 = .ok (.invokevirtual 46, 3) := by decide +kernel
theorem dL_plain_150 : decode cL_plain 150 = .ok (.ireturn, 1) := by decide +kernel
theorem dL_plain_151 : decode cL_plain 151 = .ok (.aload_n 0, 1) := by decide +kernel
theorem dL_plain_152 : decode cL_plain 152 = .ok (.iload_n 2, 1) := by decide +kernel
theorem dL_plain_153 : decode cL_plain 153 = .ok (.invokevirtual 49, 3) := by decide +kernel
theorem dL_plain_156 : decode cL_plain 156 = .ok (.ireturn, 1) := by decide +kernel
theorem dL_plain_157 : decode cL_plain 157 = .ok (.aload_n 0, 1) := by decide +kernel
theorem dL_plain_158 : decode cL_plain 158 = .ok (.iload_n 2, 1) := by decide +kernel
theorem dL_plain_159 : decode cL_plain 159 = .ok (.invokevirtual 52, 3) := by decide +kernel
theorem dL_plain_162 : decode cL_plain 162 = .ok (.ireturn, 1) := by decide +kernel
theorem dL_plain_163 : decode cL_plain 163 = .ok (.aload_n 0, 1) := by decide +kernel
theorem dL_plain_164 : decode cL_plain 164 = .ok (.invokevirtual 55, 3) := by decide +kernel
theorem dL_plain_167 : decode cL_plain 167 = .ok (.ireturn, 1) := by decide +kernel
theorem dL_plain_168 : decode cL_plain 168 = .ok (.aload_n 0, 1) := by decide +kernel
theorem dL_plain_169 : decode cL_plain 169 = .ok (.iload_n 2, 1) := by decide +kernel
theorem dL_plain_170 : decode cL_plain 170 = .ok (.iload_n 3, 1) := by decide +kernel
theorem dL_plain_171 : decode cL_plain 171 = .ok (.iload 4, 2) := by decide +kernel
theorem dL_plain_173 : decode cL_plain 173 = .ok (.invokevirtual 58, 3) := by decide +kernel
theorem dL_plain_176 : decode cL_plain 176 = .ok (.ireturn, 1) := by decide +kernel
theorem dL_plain_177 : decode cL_plain 177 = .ok (.aload_n 0, 1) := by decide +kernel
theorem dL_plain_178 : decode cL_plain 178 = .ok (.iload_n 2, 1) := by decide +kernel
theorem dL_plain_179 : decode cL_plain 179 = .ok (.iload_n 3, 1) := by decide +kernel
theorem dL_plain_180 : decode cL_plain 180 = .ok (.iload 4, 2) := by decide +kernel
theorem dL_plain_182 : decode cL_plain 182 = .ok (.invokevirtual 61, 3) := by decide +kernel
theorem dL_plain_185 : decode cL_plain 185 = .ok (.ireturn, 1) := by decide +kernel
theorem dL_plain_186 : decode cL_plain 186 = .ok (.aload_n 0, 1) := by decide +kernel
theorem dL_plain_187 : decode cL_plain 187 = .ok (.iload_n 2, 1) := by decide +kernel
theorem dL_plain_188 : decode cL_plain 188 = .ok (.iload_n 3, 1) := by decide +kernel
theorem dL_plain_189 : decode cL_plain 189 = .ok (.iconst 1, 1) := by decide +kernel
theorem dL_plain_190 : decode cL_plain 190 = .ok (.if_icmp .ne 7, 3) := by decide +kernel
theorem dL_plain_193 : decode cL_plain 193 = .ok (.iconst 1, 1) := by decide +kernel
theorem dL_plain_194 : decode cL_plain 194 = .ok (.goto 4, 3) := by decide +kernel
theorem dL_plain_197 : decode cL_plain 197 = .ok (.iconst 0, 1) := by decide +kernel
theorem dL_plain_198 : decode cL_plain 198 = .ok (.invokevirtual 64, 3) := by decide +kernel
theorem dL_plain_201 : decode cL_plain 201 = .ok (.invokestatic 68, 3) := by decide +kernel
theorem dL_plain_204 : decode cL_plain 204 = .ok (.ireturn, 1) := by decide +kernel
theorem dL_plain_205 : decode cL_plain 205 = .ok (.aload_n 0, 1) := by decide +kernel
theorem dL_plain_206 : decode cL_plain 206 = .ok (.iload_n 2, 1) := by decide +kernel
theorem dL_plain_207 : decode cL_plain 207 = .ok (.iload_n 3, 1) := by decide +kernel
theorem dL_plain_208 : decode cL_plain 208 = .ok (.invokevirtual 72, 3) := by decide +kernel
theorem dL_plain_211 : decode cL_plain 211 = .ok (.ireturn, 1) := by decide +kernel
theorem dL_plain_212 : decode cL_plain 212 = .ok (.aload_n 0, 1) := by decide +kernel
theorem dL_plain_213 : decode cL_plain 213 = .ok (.iload_n 2, 1) := by decide +kernel
theorem dL_plain_214 : decode cL_plain 214 = .ok (.iload_n 3, 1) := by decide +kernel
theorem dL_plain_215 : decode cL_plain 215 = .ok (.invokevirtual 75, 3) := by decide +kernel
theorem dL_plain_218 : decode cL_plain 218 = .ok (.ireturn, 1) := by decide +kernel
theorem dL_deed_0 : decode cL_deed 0 = .ok (.aload_n 0, 1) := by decide +kernel
theorem dL_deed_1 : decode cL_deed 1 = .ok (.iload_n 1, 1) := by decide +kernel
theorem dL_deed_2 : decode cL_deed 2 = .ok (.iload_n 2, 1) := by decide +kernel
theorem dL_deed_3 : decode cL_deed 3 = .ok (.iload_n 3, 1) := by decide +kernel
theorem dL_deed_4 : decode cL_deed 4 = .ok (.iload 4, 2) := by decide +kernel
theorem dL_deed_6 : decode cL_deed 6 = .ok (.iload 5, 2) := by decide +kernel
theorem dL_deed_8 : decode cL_deed 8 = .ok (.invokestatic 78, 3) := by decide +kernel
theorem dL_deed_11 : decode cL_deed 11 = .ok (.ireturn, 1) := by decide +kernel
theorem dL_deed_12 : decode cL_deed 12 = .ok (.astore 6, 2) := by decide +kernel
theorem dL_deed_14 : decode cL_deed 14 = .ok (.sipush (-2001), 3) := by decide +kernel
theorem dL_deed_17 : decode cL_deed 17 = .ok (.ireturn, 1) := by decide +kernel
theorem dL_deed_18 : decode cL_deed 18 = .ok (.astore 6, 2) := by decide +kernel
theorem dL_deed_20 : decode cL_deed 20 = .ok (.sipush (-2002), 3) := by decide +kernel
theorem dL_deed_23 : decode cL_deed 23 = .ok (.ireturn, 1) := by decide +kernel
theorem dL_deed_24 : decode cL_deed 24 = .ok (.astore 6, 2) := by decide +kernel
theorem dL_deed_26 : decode cL_deed 26 = .ok (.sipush (-2003), 3) := by decide +kernel
theorem dL_deed_29 : decode cL_deed 29 = .ok (.ireturn, 1) := by decide +kernel
theorem dL_deed_30 : decode cL_deed 30 = .ok (.astore 6, 2) := by decide +kernel
theorem dL_deed_32 : decode cL_deed 32 = .ok (.sipush (-2004), 3) := by decide +kernel
theorem dL_deed_35 : decode cL_deed 35 = .ok (.ireturn, 1) := by decide +kernel
theorem dL_deed_36 : decode cL_deed 36 = .ok (.astore 6, 2) := by decide +kernel
theorem dL_deed_38 : decode cL_deed 38 = .ok (.sipush (-2006), 3) := by decide +kernel
theorem dL_deed_41 : decode cL_deed 41 = .ok (.ireturn, 1) := by decide +kernel
theorem dL_row_0 : decode cL_row 0 = .ok (.aload_n 0, 1) := by decide +kernel
theorem dL_row_1 : decode cL_row 1 = .ok (.iload_n 1, 1) := by decide +kernel
theorem dL_row_2 : decode cL_row 2 = .ok (.iload_n 2, 1) := by decide +kernel
theorem dL_row_3 : decode cL_row 3 = .ok (.iload_n 3, 1) := by decide +kernel
theorem dL_row_4 : decode cL_row 4 = .ok (.iload 4, 2) := by decide +kernel
theorem dL_row_6 : decode cL_row 6 = .ok (.iload 5, 2) := by decide +kernel
theorem dL_row_8 : decode cL_row 8 = .ok (.iload 6, 2) := by decide +kernel
theorem dL_row_10 : decode cL_row 10 = .ok (.invokevirtual 92, 3) := by decide +kernel
theorem dL_row_13 : decode cL_row 13 = .ok (.ireturn, 1) := by decide +kernel
theorem dL_row_14 : decode cL_row 14 = .ok (.astore 7, 2) := by decide +kernel
theorem dL_row_16 : decode cL_row 16 = .ok (.sipush (-2001), 3) := by decide +kernel
theorem dL_row_19 : decode cL_row 19 = .ok (.ireturn, 1) := by decide +kernel
theorem dL_row_20 : decode cL_row 20 = .ok (.astore 7, 2) := by decide +kernel
theorem dL_row_22 : decode cL_row 22 = .ok (.sipush (-2002), 3) := by decide +kernel
theorem dL_row_25 : decode cL_row 25 = .ok (.ireturn, 1) := by decide +kernel
theorem dL_row_26 : decode cL_row 26 = .ok (.astore 7, 2) := by decide +kernel
theorem dL_row_28 : decode cL_row 28 = .ok (.sipush (-2003), 3) := by decide +kernel
theorem dL_row_31 : decode cL_row 31 = .ok (.ireturn, 1) := by decide +kernel
theorem dL_row_32 : decode cL_row 32 = .ok (.astore 7, 2) := by decide +kernel
theorem dL_row_34 : decode cL_row 34 = .ok (.sipush (-2006), 3) := by decide +kernel
theorem dL_row_37 : decode cL_row 37 = .ok (.ireturn, 1) := by decide +kernel
theorem dL_asked_0 : decode cL_asked 0 = .ok (.iload_n 1, 1) := by decide +kernel
theorem dL_asked_1 : decode cL_asked 1 = .ok (.tableswitch 149 0 12 #[67, 74, 80, 87, 94, 101, 107, 113, 119, 125, 131, 137, 143], 67) := by decide +kernel
theorem dL_asked_68 : decode cL_asked 68 = .ok (.aload_n 0, 1) := by decide +kernel
theorem dL_asked_69 : decode cL_asked 69 = .ok (.iload_n 2, 1) := by decide +kernel
theorem dL_asked_70 : decode cL_asked 70 = .ok (.invokevirtual 96, 3) := by decide +kernel
theorem dL_asked_73 : decode cL_asked 73 = .ok (.i2l, 1) := by decide +kernel
theorem dL_asked_74 : decode cL_asked 74 = .ok (.lreturn, 1) := by decide +kernel
theorem dL_asked_75 : decode cL_asked 75 = .ok (.aload_n 0, 1) := by decide +kernel
theorem dL_asked_76 : decode cL_asked 76 = .ok (.iload_n 2, 1) := by decide +kernel
theorem dL_asked_77 : decode cL_asked 77 = .ok (.invokevirtual 99, 3) := by decide +kernel
theorem dL_asked_80 : decode cL_asked 80 = .ok (.lreturn, 1) := by decide +kernel
theorem dL_asked_81 : decode cL_asked 81 = .ok (.aload_n 0, 1) := by decide +kernel
theorem dL_asked_82 : decode cL_asked 82 = .ok (.iload_n 2, 1) := by decide +kernel
theorem dL_asked_83 : decode cL_asked 83 = .ok (.iload_n 3, 1) := by decide +kernel
theorem dL_asked_84 : decode cL_asked 84 = .ok (.invokevirtual 103, 3) := by decide +kernel
theorem dL_asked_87 : decode cL_asked 87 = .ok (.lreturn, 1) := by decide +kernel
theorem dL_asked_88 : decode cL_asked 88 = .ok (.aload_n 0, 1) := by decide +kernel
theorem dL_asked_89 : decode cL_asked 89 = .ok (.iload_n 2, 1) := by decide +kernel
theorem dL_asked_90 : decode cL_asked 90 = .ok (.invokevirtual 107, 3) := by decide +kernel
theorem dL_asked_93 : decode cL_asked 93 = .ok (.i2l, 1) := by decide +kernel
theorem dL_asked_94 : decode cL_asked 94 = .ok (.lreturn, 1) := by decide +kernel
theorem dL_asked_95 : decode cL_asked 95 = .ok (.aload_n 0, 1) := by decide +kernel
theorem dL_asked_96 : decode cL_asked 96 = .ok (.iload_n 2, 1) := by decide +kernel
theorem dL_asked_97 : decode cL_asked 97 = .ok (.invokevirtual 110, 3) := by decide +kernel
theorem dL_asked_100 : decode cL_asked 100 = .ok (.i2l, 1) := by decide +kernel
theorem dL_asked_101 : decode cL_asked 101 = .ok (.lreturn, 1) := by decide +kernel
theorem dL_asked_102 : decode cL_asked 102 = .ok (.aload_n 0, 1) := by decide +kernel
theorem dL_asked_103 : decode cL_asked 103 = .ok (.iload_n 2, 1) := by decide +kernel
theorem dL_asked_104 : decode cL_asked 104 = .ok (.invokevirtual 113, 3) := by decide +kernel
theorem dL_asked_107 : decode cL_asked 107 = .ok (.lreturn, 1) := by decide +kernel
theorem dL_asked_108 : decode cL_asked 108 = .ok (.aload_n 0, 1) := by decide +kernel
theorem dL_asked_109 : decode cL_asked 109 = .ok (.iload_n 2, 1) := by decide +kernel
theorem dL_asked_110 : decode cL_asked 110 = .ok (.invokevirtual 116, 3) := by decide +kernel
theorem dL_asked_113 : decode cL_asked 113 = .ok (.lreturn, 1) := by decide +kernel
theorem dL_asked_114 : decode cL_asked 114 = .ok (.aload_n 0, 1) := by decide +kernel
theorem dL_asked_115 : decode cL_asked 115 = .ok (.iload_n 2, 1) := by decide +kernel
theorem dL_asked_116 : decode cL_asked 116 = .ok (.invokevirtual 119, 3) := by decide +kernel
theorem dL_asked_119 : decode cL_asked 119 = .ok (.lreturn, 1) := by decide +kernel
theorem dL_asked_120 : decode cL_asked 120 = .ok (.aload_n 0, 1) := by decide +kernel
theorem dL_asked_121 : decode cL_asked 121 = .ok (.iload_n 2, 1) := by decide +kernel
theorem dL_asked_122 : decode cL_asked 122 = .ok (.invokevirtual 122, 3) := by decide +kernel
theorem dL_asked_125 : decode cL_asked 125 = .ok (.lreturn, 1) := by decide +kernel
theorem dL_asked_126 : decode cL_asked 126 = .ok (.aload_n 0, 1) := by decide +kernel
theorem dL_asked_127 : decode cL_asked 127 = .ok (.iload_n 2, 1) := by decide +kernel
theorem dL_asked_128 : decode cL_asked 128 = .ok (.invokevirtual 125, 3) := by decide +kernel
theorem dL_asked_131 : decode cL_asked 131 = .ok (.lreturn, 1) := by decide +kernel
theorem dL_asked_132 : decode cL_asked 132 = .ok (.aload_n 0, 1) := by decide +kernel
theorem dL_asked_133 : decode cL_asked 133 = .ok (.iload_n 2, 1) := by decide +kernel
theorem dL_asked_134 : decode cL_asked 134 = .ok (.invokevirtual 128, 3) := by decide +kernel
theorem dL_asked_137 : decode cL_asked 137 = .ok (.lreturn, 1) := by decide +kernel
theorem dL_asked_138 : decode cL_asked 138 = .ok (.aload_n 0, 1) := by decide +kernel
theorem dL_asked_139 : decode cL_asked 139 = .ok (.iload_n 2, 1) := by decide +kernel
theorem dL_asked_140 : decode cL_asked 140 = .ok (.invokevirtual 131, 3) := by decide +kernel
theorem dL_asked_143 : decode cL_asked 143 = .ok (.lreturn, 1) := by decide +kernel
theorem dL_asked_144 : decode cL_asked 144 = .ok (.aload_n 0, 1) := by decide +kernel
theorem dL_asked_145 : decode cL_asked 145 = .ok (.iload_n 2, 1) := by decide +kernel
theorem dL_asked_146 : decode cL_asked 146 = .ok (.invokevirtual 134, 3) := by decide +kernel
theorem dL_asked_149 : decode cL_asked 149 = .ok (.lreturn, 1) := by decide +kernel
theorem dL_asked_150 : decode cL_asked 150 = .ok (.aload_n 0, 1) := by decide +kernel
theorem dL_asked_151 : decode cL_asked 151 = .ok (.iload_n 2, 1) := by decide +kernel
theorem dL_asked_152 : decode cL_asked 152 = .ok (.invokevirtual 137, 3) := by decide +kernel
theorem dL_asked_155 : decode cL_asked 155 = .ok (.i2l, 1) := by decide +kernel
theorem dL_asked_156 : decode cL_asked 156 = .ok (.lreturn, 1) := by decide +kernel
theorem dL_ask_0 : decode cL_ask 0 = .ok (.aload_n 0, 1) := by decide +kernel
theorem dL_ask_1 : decode cL_ask 1 = .ok (.iload_n 1, 1) := by decide +kernel
theorem dL_ask_2 : decode cL_ask 2 = .ok (.iload_n 2, 1) := by decide +kernel
theorem dL_ask_3 : decode cL_ask 3 = .ok (.iload_n 3, 1) := by decide +kernel
theorem dL_ask_4 : decode cL_ask 4 = .ok (.invokestatic 140, 3) := by decide +kernel
theorem dL_ask_7 : decode cL_ask 7 = .ok (.lreturn, 1) := by decide +kernel
theorem dL_ask_8 : decode cL_ask 8 = .ok (.astore 4, 2) := by decide +kernel
theorem dL_ask_10 : decode cL_ask 10 = .ok (.ldc2_w 144, 3) := by decide +kernel
theorem dL_ask_13 : decode cL_ask 13 = .ok (.lreturn, 1) := by decide +kernel
theorem dL_ask_14 : decode cL_ask 14 = .ok (.astore 4, 2) := by decide +kernel
theorem dL_ask_16 : decode cL_ask 16 = .ok (.ldc2_w 146, 3) := by decide +kernel
theorem dL_ask_19 : decode cL_ask 19 = .ok (.lreturn, 1) := by decide +kernel
theorem dL_ask_20 : decode cL_ask 20 = .ok (.astore 4, 2) := by decide +kernel
theorem dL_ask_22 : decode cL_ask 22 = .ok (.ldc2_w 148, 3) := by decide +kernel
theorem dL_ask_25 : decode cL_ask 25 = .ok (.lreturn, 1) := by decide +kernel
theorem dL_ask_26 : decode cL_ask 26 = .ok (.astore 4, 2) := by decide +kernel
theorem dL_ask_28 : decode cL_ask 28 = .ok (.ldc2_w 152, 3) := by decide +kernel
theorem dL_ask_31 : decode cL_ask 31 = .ok (.lreturn, 1) := by decide +kernel
theorem dL_shape_0 : decode cL_shape 0 = .ok (.iload_n 0, 1) := by decide +kernel
theorem dL_shape_1 : decode cL_shape 1 = .ok (.ifCond .ne 8, 3) := by decide +kernel
theorem dL_shape_4 : decode cL_shape 4 = .ok (.bipush 110, 2) := by decide +kernel
theorem dL_shape_6 : decode cL_shape 6 = .ok (.goto 45, 3) := by decide +kernel
theorem dL_shape_9 : decode cL_shape 9 = .ok (.iload_n 0, 1) := by decide +kernel
theorem dL_shape_10 : decode cL_shape 10 = .ok (.iconst 1, 1) := by decide +kernel
theorem dL_shape_11 : decode cL_shape 11 = .ok (.if_icmp .ne 8, 3) := by decide +kernel
theorem dL_shape_14 : decode cL_shape 14 = .ok (.bipush 108, 2) := by decide +kernel
theorem dL_shape_16 : decode cL_shape 16 = .ok (.goto 35, 3) := by decide +kernel
theorem dL_shape_19 : decode cL_shape 19 = .ok (.iload_n 0, 1) := by decide +kernel
theorem dL_shape_20 : decode cL_shape 20 = .ok (.iconst 2, 1) := by decide +kernel
theorem dL_shape_21 : decode cL_shape 21 = .ok (.if_icmp .ne 8, 3) := by decide +kernel
theorem dL_shape_24 : decode cL_shape 24 = .ok (.bipush 114, 2) := by decide +kernel
theorem dL_shape_26 : decode cL_shape 26 = .ok (.goto 25, 3) := by decide +kernel
theorem dL_shape_29 : decode cL_shape 29 = .ok (.iload_n 0, 1) := by decide +kernel
theorem dL_shape_30 : decode cL_shape 30 = .ok (.iconst 3, 1) := by decide +kernel
theorem dL_shape_31 : decode cL_shape 31 = .ok (.if_icmp .ne 8, 3) := by decide +kernel
theorem dL_shape_34 : decode cL_shape 34 = .ok (.bipush 116, 2) := by decide +kernel
theorem dL_shape_36 : decode cL_shape 36 = .ok (.goto 15, 3) := by decide +kernel
theorem dL_shape_39 : decode cL_shape 39 = .ok (.iload_n 0, 1) := by decide +kernel
theorem dL_shape_40 : decode cL_shape 40 = .ok (.iconst 4, 1) := by decide +kernel
theorem dL_shape_41 : decode cL_shape 41 = .ok (.if_icmp .ne 8, 3) := by decide +kernel
theorem dL_shape_44 : decode cL_shape 44 = .ok (.bipush 112, 2) := by decide +kernel
theorem dL_shape_46 : decode cL_shape 46 = .ok (.goto 5, 3) := by decide +kernel
theorem dL_shape_49 : decode cL_shape 49 = .ok (.bipush 118, 2) := by decide +kernel
theorem dL_shape_51 : decode cL_shape 51 = .ok (.ireturn, 1) := by decide +kernel
theorem dL_lay_0 : decode cL_lay 0 = .ok (.iconst 0, 1) := by decide +kernel
theorem dL_lay_1 : decode cL_lay 1 = .ok (.istore_n 3, 1) := by decide +kernel
theorem dL_lay_2 : decode cL_lay 2 = .ok (.iconst 0, 1) := by decide +kernel
theorem dL_lay_3 : decode cL_lay 3 = .ok (.istore 4, 2) := by decide +kernel
theorem dL_lay_5 : decode cL_lay 5 = .ok (.iload 4, 2) := by decide +kernel
theorem dL_lay_7 : decode cL_lay 7 = .ok (.iconst 2, 1) := by decide +kernel
theorem dL_lay_8 : decode cL_lay 8 = .ok (.aload_n 2, 1) := by decide +kernel
theorem dL_lay_9 : decode cL_lay 9 = .ok (.iconst 0, 1) := by decide +kernel
theorem dL_lay_10 : decode cL_lay 10 = .ok (.bipush 6, 2) := by decide +kernel
theorem dL_lay_12 : decode cL_lay 12 = .ok (.invokestatic 154, 3) := by decide +kernel
theorem dL_lay_15 : decode cL_lay 15 = .ok (.iadd, 1) := by decide +kernel
theorem dL_lay_16 : decode cL_lay 16 = .ok (.if_icmp .ge 170, 3) := by decide +kernel
theorem dL_lay_19 : decode cL_lay 19 = .ok (.aload_n 2, 1) := by decide +kernel
theorem dL_lay_20 : decode cL_lay 20 = .ok (.bipush 10, 2) := by decide +kernel
theorem dL_lay_22 : decode cL_lay 22 = .ok (.iload 4, 2) := by decide +kernel
theorem dL_lay_24 : decode cL_lay 24 = .ok (.iadd, 1) := by decide +kernel
theorem dL_lay_25 : decode cL_lay 25 = .ok (.iconst 5, 1) := by decide +kernel
theorem dL_lay_26 : decode cL_lay 26 = .ok (.invokestatic 154, 3) := by decide +kernel
theorem dL_lay_29 : decode cL_lay 29 = .ok (.ifCond .ne 7, 3) := by decide +kernel
theorem dL_lay_32 : decode cL_lay 32 = .ok (.iconst 0, 1) := by decide +kernel
theorem dL_lay_33 : decode cL_lay 33 = .ok (.goto 15, 3) := by decide +kernel
theorem dL_lay_36 : decode cL_lay 36 = .ok (.aload_n 2, 1) := by decide +kernel
theorem dL_lay_37 : decode cL_lay 37 = .ok (.bipush 10, 2) := by decide +kernel
theorem dL_lay_39 : decode cL_lay 39 = .ok (.iload 4, 2) := by decide +kernel
theorem dL_lay_41 : decode cL_lay 41 = .ok (.iadd, 1) := by decide +kernel
theorem dL_lay_42 : decode cL_lay 42 = .ok (.sipush 300, 3) := by decide +kernel
theorem dL_lay_45 : decode cL_lay 45 = .ok (.invokestatic 154, 3) := by decide +kernel
theorem dL_lay_48 : decode cL_lay 48 = .ok (.istore 5, 2) := by decide +kernel
theorem dL_lay_50 : decode cL_lay 50 = .ok (.aload_n 2, 1) := by decide +kernel
theorem dL_lay_51 : decode cL_lay 51 = .ok (.bipush 20, 2) := by decide +kernel
theorem dL_lay_53 : decode cL_lay 53 = .ok (.iload 4, 2) := by decide +kernel
theorem dL_lay_55 : decode cL_lay 55 = .ok (.iadd, 1) := by decide +kernel
theorem dL_lay_56 : decode cL_lay 56 = .ok (.iconst 3, 1) := by decide +kernel
theorem dL_lay_57 : decode cL_lay 57 = .ok (.invokestatic 154, 3) := by decide +kernel
theorem dL_lay_60 : decode cL_lay 60 = .ok (.ifCond .ne 17, 3) := by decide +kernel
theorem dL_lay_63 : decode cL_lay 63 = .ok (.aload_n 2, 1) := by decide +kernel
theorem dL_lay_64 : decode cL_lay 64 = .ok (.bipush 20, 2) := by decide +kernel
theorem dL_lay_66 : decode cL_lay 66 = .ok (.iload 4, 2) := by decide +kernel
theorem dL_lay_68 : decode cL_lay 68 = .ok (.iadd, 1) := by decide +kernel
theorem dL_lay_69 : decode cL_lay 69 = .ok (.bipush 51, 2) := by decide +kernel
theorem dL_lay_71 : decode cL_lay 71 = .ok (.invokestatic 154, 3) := by decide +kernel
theorem dL_lay_74 : decode cL_lay 74 = .ok (.goto 4, 3) := by decide +kernel
theorem dL_lay_77 : decode cL_lay 77 = .ok (.iconst 0, 1) := by decide +kernel
theorem dL_lay_78 : decode cL_lay 78 = .ok (.istore 6, 2) := by decide +kernel
theorem dL_lay_80 : decode cL_lay 80 = .ok (.iconst 1, 1) := by decide +kernel
theorem dL_lay_81 : decode cL_lay 81 = .ok (.aload_n 2, 1) := by decide +kernel
theorem dL_lay_82 : decode cL_lay 82 = .ok (.bipush 30, 2) := by decide +kernel
theorem dL_lay_84 : decode cL_lay 84 = .ok (.iload 4, 2) := by decide +kernel
theorem dL_lay_86 : decode cL_lay 86 = .ok (.iadd, 1) := by decide +kernel
theorem dL_lay_87 : decode cL_lay 87 = .ok (.aload_n 2, 1) := by decide +kernel
theorem dL_lay_88 : decode cL_lay 88 = .ok (.bipush 40, 2) := by decide +kernel
theorem dL_lay_90 : decode cL_lay 90 = .ok (.iload 4, 2) := by decide +kernel
theorem dL_lay_92 : decode cL_lay 92 = .ok (.iadd, 1) := by decide +kernel
theorem dL_lay_93 : decode cL_lay 93 = .ok (.iconst 2, 1) := by decide +kernel
theorem dL_lay_94 : decode cL_lay 94 = .ok (.invokestatic 154, 3) := by decide +kernel
theorem dL_lay_97 : decode cL_lay 97 = .ok (.ifCond .ne 8, 3) := by decide +kernel
theorem dL_lay_100 : decode cL_lay 100 = .ok (.bipush 99, 2) := by decide +kernel
theorem dL_lay_102 : decode cL_lay 102 = .ok (.goto 5, 3) := by decide +kernel
theorem dL_lay_105 : decode cL_lay 105 = .ok (.bipush 9, 2) := by decide +kernel
theorem dL_lay_107 : decode cL_lay 107 = .ok (.invokestatic 154, 3) := by decide +kernel
theorem dL_lay_110 : decode cL_lay 110 = .ok (.iadd, 1) := by decide +kernel
theorem dL_lay_111 : decode cL_lay 111 = .ok (.istore 7, 2) := by decide +kernel
theorem dL_lay_113 : decode cL_lay 113 = .ok (.aload_n 0, 1) := by decide +kernel
theorem dL_lay_114 : decode cL_lay 114 = .ok (.iconst 0, 1) := by decide +kernel
theorem dL_lay_115 : decode cL_lay 115 = .ok (.aload_n 2, 1) := by decide +kernel
theorem dL_lay_116 : decode cL_lay 116 = .ok (.bipush 50, 2) := by decide +kernel
theorem dL_lay_118 : decode cL_lay 118 = .ok (.iload 4, 2) := by decide +kernel
theorem dL_lay_120 : decode cL_lay 120 = .ok (.iadd, 1) := by decide +kernel
theorem dL_lay_121 : decode cL_lay 121 = .ok (.iconst 3, 1) := by decide +kernel
theorem dL_lay_122 : decode cL_lay 122 = .ok (.invokestatic 154, 3) := by decide +kernel
theorem dL_lay_125 : decode cL_lay 125 = .ok (.iload 5, 2) := by decide +kernel
theorem dL_lay_127 : decode cL_lay 127 = .ok (.iload 6, 2) := by decide +kernel
theorem dL_lay_129 : decode cL_lay 129 = .ok (.iload 7, 2) := by decide +kernel
theorem dL_lay_131 : decode cL_lay 131 = .ok (.invokestatic 158, 3) := by decide +kernel
theorem dL_lay_134 : decode cL_lay 134 = .ok (.ifCond .lt 46, 3) := by decide +kernel
theorem dL_lay_137 : decode cL_lay 137 = .ok (.aload_n 1, 1) := by decide +kernel
theorem dL_lay_138 : decode cL_lay 138 = .ok (.bipush 10, 2) := by decide +kernel
theorem dL_lay_140 : decode cL_lay 140 = .ok (.iconst 3, 1) := by decide +kernel
theorem dL_lay_141 : decode cL_lay 141 = .ok (.aload_n 1, 1) := by decide +kernel
theorem dL_lay_142 : decode cL_lay 142 = .ok (.iconst 0, 1) := by decide +kernel
theorem dL_lay_143 : decode cL_lay 143 = .ok (.iaload, 1) := by decide +kernel
theorem dL_lay_144 : decode cL_lay 144 = .ok (.imul, 1) := by decide +kernel
theorem dL_lay_145 : decode cL_lay 145 = .ok (.iadd, 1) := by decide +kernel
theorem dL_lay_146 : decode cL_lay 146 = .ok (.iload 5, 2) := by decide +kernel
theorem dL_lay_148 : decode cL_lay 148 = .ok (.iastore, 1) := by decide +kernel
theorem dL_lay_149 : decode cL_lay 149 = .ok (.aload_n 1, 1) := by decide +kernel
theorem dL_lay_150 : decode cL_lay 150 = .ok (.bipush 11, 2) := by decide +kernel
theorem dL_lay_152 : decode cL_lay 152 = .ok (.iconst 3, 1) := by decide +kernel
theorem dL_lay_153 : decode cL_lay 153 = .ok (.aload_n 1, 1) := by decide +kernel
theorem dL_lay_154 : decode cL_lay 154 = .ok (.iconst 0, 1) := by decide +kernel
theorem dL_lay_155 : decode cL_lay 155 = .ok (.iaload, 1) := by decide +kernel
theorem dL_lay_156 : decode cL_lay 156 = .ok (.imul, 1) := by decide +kernel
theorem dL_lay_157 : decode cL_lay 157 = .ok (.iadd, 1) := by decide +kernel
theorem dL_lay_158 : decode cL_lay 158 = .ok (.iload 6, 2) := by decide +kernel
theorem dL_lay_160 : decode cL_lay 160 = .ok (.iastore, 1) := by decide +kernel
theorem dL_lay_161 : decode cL_lay 161 = .ok (.aload_n 1, 1) := by decide +kernel
theorem dL_lay_162 : decode cL_lay 162 = .ok (.bipush 12, 2) := by decide +kernel
theorem dL_lay_164 : decode cL_lay 164 = .ok (.iconst 3, 1) := by decide +kernel
theorem dL_lay_165 : decode cL_lay 165 = .ok (.aload_n 1, 1) := by decide +kernel
theorem dL_lay_166 : decode cL_lay 166 = .ok (.iconst 0, 1) := by decide +kernel
theorem dL_lay_167 : decode cL_lay 167 = .ok (.iaload, 1) := by decide +kernel
theorem dL_lay_168 : decode cL_lay 168 = .ok (.imul, 1) := by decide +kernel
theorem dL_lay_169 : decode cL_lay 169 = .ok (.iadd, 1) := by decide +kernel
theorem dL_lay_170 : decode cL_lay 170 = .ok (.iload 7, 2) := by decide +kernel
theorem dL_lay_172 : decode cL_lay 172 = .ok (.iastore, 1) := by decide +kernel
theorem dL_lay_173 : decode cL_lay 173 = .ok (.aload_n 1, 1) := by decide +kernel
theorem dL_lay_174 : decode cL_lay 174 = .ok (.iconst 0, 1) := by decide +kernel
theorem dL_lay_175 : decode cL_lay 175 = .ok (.dup2, 1) := by decide +kernel
theorem dL_lay_176 : decode cL_lay 176 = .ok (.iaload, 1) := by decide +kernel
theorem dL_lay_177 : decode cL_lay 177 = .ok (.iconst 1, 1) := by decide +kernel
theorem dL_lay_178 : decode cL_lay 178 = .ok (.iadd, 1) := by decide +kernel
theorem dL_lay_179 : decode cL_lay 179 = .ok (.iastore, 1) := by decide +kernel
theorem dL_lay_180 : decode cL_lay 180 = .ok (.iinc 4 1, 3) := by decide +kernel
theorem dL_lay_183 : decode cL_lay 183 = .ok (.goto (-178), 3) := by decide +kernel
theorem dL_lay_186 : decode cL_lay 186 = .ok (.iconst 0, 1) := by decide +kernel
theorem dL_lay_187 : decode cL_lay 187 = .ok (.istore 4, 2) := by decide +kernel
theorem dL_lay_189 : decode cL_lay 189 = .ok (.iload 4, 2) := by decide +kernel
theorem dL_lay_191 : decode cL_lay 191 = .ok (.aload_n 2, 1) := by decide +kernel
theorem dL_lay_192 : decode cL_lay 192 = .ok (.iconst 1, 1) := by decide +kernel
theorem dL_lay_193 : decode cL_lay 193 = .ok (.iconst 3, 1) := by decide +kernel
theorem dL_lay_194 : decode cL_lay 194 = .ok (.invokestatic 154, 3) := by decide +kernel
theorem dL_lay_197 : decode cL_lay 197 = .ok (.if_icmp .ge 93, 3) := by decide +kernel

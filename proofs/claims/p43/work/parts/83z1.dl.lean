theorem dL_plain_0 : decode cL_plain 0 = .ok (.iload_n 1, 1) := by decide +kernel
theorem dL_plain_1 : decode cL_plain 1 = .ok (.tableswitch 211 0 15 #[79, 90, 97, 102, 111, 117, 126, 135, 144, 150, 156, 162, 167, 176, 185, 204], 79) := by decide +kernel
theorem dL_plain_80 : decode cL_plain 80 = .ok (.aload_n 0, 1) := by decide +kernel
theorem dL_plain_81 : decode cL_plain 81 = .ok (.iload_n 2, 1) := by decide +kernel
theorem dL_plain_82 : decode cL_plain 82 = .ok (.iload_n 3, 1) := by decide +kernel
theorem dL_plain_83 : decode cL_plain 83 = .ok (.iload 4, 2) := by decide +kernel
theorem dL_plain_85 : decode cL_plain 85 = .ok (.iload 5, 2) := by decide +kernel
theorem dL_plain_87 : decode cL_plain 87 = .ok (.invokevirtual 15, 3) := by decide +kernel
theorem dL_plain_90 : decode cL_plain 90 = .ok (.ireturn, 1) := by decide +kernel
theorem dL_plain_91 : decode cL_plain 91 = .ok (.aload_n 0, 1) := by decide +kernel
theorem dL_plain_92 : decode cL_plain 92 = .ok (.iload_n 2, 1) := by decide +kernel
theorem dL_plain_93 : decode cL_plain 93 = .ok (.iload_n 3, 1) := by decide +kernel
theorem dL_plain_94 : decode cL_plain 94 = .ok (.invokevirtual 21, 3) := by decide +kernel
theorem dL_plain_97 : decode cL_plain 97 = .ok (.ireturn, 1) := by decide +kernel
theorem dL_plain_98 : decode cL_plain 98 = .ok (.aload_n 0, 1) := by decide +kernel
theorem dL_plain_99 : decode cL_plain 99 = .ok (.invokevirtual 25, 3) := by decide +kernel
theorem dL_plain_102 : decode cL_plain 102 = .ok (.ireturn, 1) := by decide +kernel
theorem dL_plain_103 : decode cL_plain 103 = .ok (.aload_n 0, 1) := by decide +kernel
theorem dL_plain_104 : decode cL_plain 104 = .ok (.iload_n 2, 1) := by decide +kernel
theorem dL_plain_105 : decode cL_plain 105 = .ok (.iload_n 3, 1) := by decide +kernel
theorem dL_plain_106 : decode cL_plain 106 = .ok (.iload 4, 2) := by decide +kernel
theorem dL_plain_108 : decode cL_plain 108 = .ok (.invokevirtual 29, 3) := by decide +kernel
theorem dL_plain_111 : decode cL_plain 111 = .ok (.ireturn, 1) := by decide +kernel
theorem dL_plain_112 : decode cL_plain 112 = .ok (.aload_n 0, 1) := by decide +kernel
theorem dL_plain_113 : decode cL_plain 113 = .ok (.iload_n 2, 1) := by decide +kernel
theorem dL_plain_114 : decode cL_plain 114 = .ok (.invokevirtual 33, 3) := by decide +kernel
theorem dL_plain_117 : decode cL_plain 117 = .ok (.ireturn, 1) := by decide +kernel
theorem dL_plain_118 : decode cL_plain 118 = .ok (.aload_n 0, 1) := by decide +kernel
theorem dL_plain_119 : decode cL_plain 119 = .ok (.iload_n 2, 1) := by decide +kernel
theorem dL_plain_120 : decode cL_plain 120 = .ok (.iload_n 3, 1) := by decide +kernel
theorem dL_plain_121 : decode cL_plain 121 = .ok (.iload 4, 2) := by decide +kernel
theorem dL_plain_123 : decode cL_plain 123 = .ok (.invokevirtual 37, 3) := by decide +kernel
theorem dL_plain_126 : decode cL_plain 126 = .ok (.ireturn, 1) := by decide +kernel
theorem dL_plain_127 : decode cL_plain 127 = .ok (.aload_n 0, 1) := by decide +kernel
theorem dL_plain_128 : decode cL_plain 128 = .ok (.iload_n 2, 1) := by decide +kernel
theorem dL_plain_129 : decode cL_plain 129 = .ok (.iload_n 3, 1) := by decide +kernel
theorem dL_plain_130 : decode cL_plain 130 = .ok (.iload 4, 2) := by decide +kernel
theorem dL_plain_132 : decode cL_plain 132 = .ok (.invokevirtual 40, 3) := by decide +kernel
theorem dL_plain_135 : decode cL_plain 135 = .ok (.ireturn, 1) := by decide +kernel
theorem dL_plain_136 : decode cL_plain 136 = .ok (.aload_n 0, 1) := by decide +kernel
theorem dL_plain_137 : decode cL_plain 137 = .ok (.iload_n 2, 1) := by decide +kernel
theorem dL_plain_138 : decode cL_plain 138 = .ok (.iload_n 3, 1) := by decide +kernel
theorem dL_plain_139 : decode cL_plain 139 = .ok (.iload 4, 2) := by decide +kernel
theorem dL_plain_141 : decode cL_plain 141 = .ok (.invokevirtual 43, 3) := by decide +kernel
theorem dL_plain_144 : decode cL_plain 144 = .ok (.ireturn, 1) := by decide +kernel
theorem dL_plain_145 : decode cL_plain 145 = .ok (.aload_n 0, 1) := by decide +kernel
theorem dL_plain_146 : decode cL_plain 146 = .ok (.iload_n 2, 1) := by decide +kernel
theorem dL_plain_147 : decode cL_plain 147 = .ok (.invokevirtual 46, 3) := by decide +kernel
theorem dL_plain_150 : decode cL_plain 150 = .ok (.ireturn, 1) := by decide +kernel
theorem dL_plain_151 : decode cL_plain 151 = .ok (.aload_n 0, 1) := by decide +kernel
theorem dL_plain_152 : decode cL_plain 152 = .ok (.iload_n 2, 1) := by decide +kernel
theorem dL_plain_153 : decode cL_plain 153 = .ok (.invokevirtual 49, 3) := by decide +kernel
theorem dL_plain_156 : decode cL_plain 156 = .ok (.ireturn, 1) := by decide +kernel
theorem dL_plain_157 : decode cL_plain 157 = .ok (.aload_n 0, 1) := by decide +kernel
theorem dL_plain_158 : decode cL_plain 158 = .ok (.iload_n 2, 1) := by decide +kernel
theorem dL_plain_159 : decode cL_plain 159 = .ok (.invokevirtual 52, 3) := by decide +kernel
theorem dL_plain_162 : decode cL_plain 162 = .ok (.ireturn, 1) := by decide +kernel
theorem dL_plain_163 : decode cL_plain 163 = .ok (.aload_n 0, 1) := by decide +kernel
theorem dL_plain_164 : decode cL_plain 164 = .ok (.invokevirtual 55, 3) := by decide +kernel
theorem dL_plain_167 : decode cL_plain 167 = .ok (.ireturn, 1) := by decide +kernel
theorem dL_plain_168 : decode cL_plain 168 = .ok (.aload_n 0, 1) := by decide +kernel
theorem dL_plain_169 : decode cL_plain 169 = .ok (.iload_n 2, 1) := by decide +kernel
theorem dL_plain_170 : decode cL_plain 170 = .ok (.iload_n 3, 1) := by decide +kernel
theorem dL_plain_171 : decode cL_plain 171 = .ok (.iload 4, 2) := by decide +kernel
theorem dL_plain_173 : decode cL_plain 173 = .ok (.invokevirtual 58, 3) := by decide +kernel
theorem dL_plain_176 : decode cL_plain 176 = .ok (.ireturn, 1) := by decide +kernel
theorem dL_plain_177 : decode cL_plain 177 = .ok (.aload_n 0, 1) := by decide +kernel
theorem dL_plain_178 : decode cL_plain 178 = .ok (.iload_n 2, 1) := by decide +kernel
theorem dL_plain_179 : decode cL_plain 179 = .ok (.iload_n 3, 1) := by decide +kernel
theorem dL_plain_180 : decode cL_plain 180 = .ok (.iload 4, 2) := by decide +kernel
theorem dL_plain_182 : decode cL_plain 182 = .ok (.invokevirtual 61, 3) := by decide +kernel
theorem dL_plain_185 : decode cL_plain 185 = .ok (.ireturn, 1) := by decide +kernel
theorem dL_plain_186 : decode cL_plain 186 = .ok (.aload_n 0, 1) := by decide +kernel
theorem dL_plain_187 : decode cL_plain 187 = .ok (.iload_n 2, 1) := by decide +kernel
theorem dL_plain_188 : decode cL_plain 188 = .ok (.iload_n 3, 1) := by decide +kernel
theorem dL_plain_189 : decode cL_plain 189 = .ok (.iconst 1, 1) := by decide +kernel
theorem dL_plain_190 : decode cL_plain 190 = .ok (.if_icmp .ne 7, 3) := by decide +kernel
theorem dL_plain_193 : decode cL_plain 193 = .ok (.iconst 1, 1) := by decide +kernel
theorem dL_plain_194 : decode cL_plain 194 = .ok (.goto 4, 3) := by decide +kernel
theorem dL_plain_197 : decode cL_plain 197 = .ok (.iconst 0, 1) := by decide +kernel
theorem dL_plain_198 : decode cL_plain 198 = .ok (.invokevirtual 64, 3) := by decide +kernel
theorem dL_plain_201 : decode cL_plain 201 = .ok (.invokestatic 68, 3) := by decide +kernel
theorem dL_plain_204 : decode cL_plain 204 = .ok (.ireturn, 1) := by decide +kernel
theorem dL_plain_205 : decode cL_plain 205 = .ok (.aload_n 0, 1) := by decide +kernel
theorem dL_plain_206 : decode cL_plain 206 = .ok (.iload_n 2, 1) := by decide +kernel
theorem dL_plain_207 : decode cL_plain 207 = .ok (.iload_n 3, 1) := by decide +kernel
theorem dL_plain_208 : decode cL_plain 208 = .ok (.invokevirtual 72, 3) := by decide +kernel
theorem dL_plain_211 : decode cL_plain 211 = .ok (.ireturn, 1) := by decide +kernel
theorem dL_plain_212 : decode cL_plain 212 = .ok (.aload_n 0, 1) := by decide +kernel
theorem dL_plain_213 : decode cL_plain 213 = .ok (.iload_n 2, 1) := by decide +kernel
theorem dL_plain_214 : decode cL_plain 214 = .ok (.iload_n 3, 1) := by decide +kernel
theorem dL_plain_215 : decode cL_plain 215 = .ok (.invokevirtual 75, 3) := by decide +kernel
theorem dL_plain_218 : decode cL_plain 218 = .ok (.ireturn, 1) := by decide +kernel
theorem dL_deed_0 : decode cL_deed 0 = .ok (.aload_n 0, 1) := by decide +kernel
theorem dL_deed_1 : decode cL_deed 1 = .ok (.iload_n 1, 1) := by decide +kernel
theorem dL_deed_2 : decode cL_deed 2 = .ok (.iload_n 2, 1) := by decide +kernel
theorem dL_deed_3 : decode cL_deed 3 = .ok (.iload_n 3, 1) := by decide +kernel
theorem dL_deed_4 : decode cL_deed 4 = .ok (.iload 4, 2) := by decide +kernel
theorem dL_deed_6 : decode cL_deed 6 = .ok (.iload 5, 2) := by decide +kernel
theorem dL_deed_8 : decode cL_deed 8 = .ok (.invokestatic 78, 3) := by decide +kernel
theorem dL_deed_11 : decode cL_deed 11 = .ok (.ireturn, 1) := by decide +kernel
theorem dL_deed_12 : decode cL_deed 12 = .ok (.astore 6, 2) := by decide +kernel
theorem dL_deed_14 : decode cL_deed 14 = .ok (.sipush (-2001), 3) := by decide +kernel
theorem dL_deed_17 : decode cL_deed 17 = .ok (.ireturn, 1) := by decide +kernel
theorem dL_deed_18 : decode cL_deed 18 = .ok (.astore 6, 2) := by decide +kernel
theorem dL_deed_20 : decode cL_deed 20 = .ok (.sipush (-2002), 3) := by decide +kernel
theorem dL_deed_23 : decode cL_deed 23 = .ok (.ireturn, 1) := by decide +kernel
theorem dL_deed_24 : decode cL_deed 24 = .ok (.astore 6, 2) := by decide +kernel
theorem dL_deed_26 : decode cL_deed 26 = .ok (.sipush (-2003), 3) := by decide +kernel
theorem dL_deed_29 : decode cL_deed 29 = .ok (.ireturn, 1) := by decide +kernel
theorem dL_deed_30 : decode cL_deed 30 = .ok (.astore 6, 2) := by decide +kernel
theorem dL_deed_32 : decode cL_deed 32 = .ok (.sipush (-2004), 3) := by decide +kernel
theorem dL_deed_35 : decode cL_deed 35 = .ok (.ireturn, 1) := by decide +kernel
theorem dL_deed_36 : decode cL_deed 36 = .ok (.astore 6, 2) := by decide +kernel
theorem dL_deed_38 : decode cL_deed 38 = .ok (.sipush (-2006), 3) := by decide +kernel
theorem dL_deed_41 : decode cL_deed 41 = .ok (.ireturn, 1) := by decide +kernel
theorem dL_row_0 : decode cL_row 0 = .ok (.aload_n 0, 1) := by decide +kernel
theorem dL_row_1 : decode cL_row 1 = .ok (.iload_n 1, 1) := by decide +kernel
theorem dL_row_2 : decode cL_row 2 = .ok (.iload_n 2, 1) := by decide +kernel
theorem dL_row_3 : decode cL_row 3 = .ok (.iload_n 3, 1) := by decide +kernel
theorem dL_row_4 : decode cL_row 4 = .ok (.iload 4, 2) := by decide +kernel
theorem dL_row_6 : decode cL_row 6 = .ok (.iload 5, 2) := by decide +kernel
theorem dL_row_8 : decode cL_row 8 = .ok (.iload 6, 2) := by decide +kernel
theorem dL_row_10 : decode cL_row 10 = .ok (.invokevirtual 92, 3) := by decide +kernel
theorem dL_row_13 : decode cL_row 13 = .ok (.ireturn, 1) := by decide +kernel
theorem dL_row_14 : decode cL_row 14 = .ok (.astore 7, 2) := by decide +kernel
theorem dL_row_16 : decode cL_row 16 = .ok (.sipush (-2001), 3) := by decide +kernel
theorem dL_row_19 : decode cL_row 19 = .ok (.ireturn, 1) := by decide +kernel
theorem dL_row_20 : decode cL_row 20 = .ok (.astore 7, 2) := by decide +kernel
theorem dL_row_22 : decode cL_row 22 = .ok (.sipush (-2002), 3) := by decide +kernel
theorem dL_row_25 : decode cL_row 25 = .ok (.ireturn, 1) := by decide +kernel
theorem dL_row_26 : decode cL_row 26 = .ok (.astore 7, 2) := by decide +kernel
theorem dL_row_28 : decode cL_row 28 = .ok (.sipush (-2003), 3) := by decide +kernel
theorem dL_row_31 : decode cL_row 31 = .ok (.ireturn, 1) := by decide +kernel
theorem dL_row_32 : decode cL_row 32 = .ok (.astore 7, 2) := by decide +kernel
theorem dL_row_34 : decode cL_row 34 = .ok (.sipush (-2006), 3) := by decide +kernel
theorem dL_row_37 : decode cL_row 37 = .ok (.ireturn, 1) := by decide +kernel

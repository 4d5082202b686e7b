theorem dL_isTurned_0 : decode cL_isTurned 0 = .ok (.aload_n 0, 1) := by decide +kernel
theorem dL_isTurned_1 : decode cL_isTurned 1 = .ok (.invokevirtual 183, 3) := by decide +kernel
theorem dL_isTurned_4 : decode cL_isTurned 4 = .ok (.lstore 4, 2) := by decide +kernel
theorem dL_isTurned_6 : decode cL_isTurned 6 = .ok (.aload_n 0, 1) := by decide +kernel
theorem dL_isTurned_7 : decode cL_isTurned 7 = .ok (.iconst 5, 1) := by decide +kernel
theorem dL_isTurned_8 : decode cL_isTurned 8 = .ok (.iload_n 2, 1) := by decide +kernel
theorem dL_isTurned_9 : decode cL_isTurned 9 = .ok (.iconst 0, 1) := by decide +kernel
theorem dL_isTurned_10 : decode cL_isTurned 10 = .ok (.invokestatic 169, 3) := by decide +kernel
theorem dL_isTurned_13 : decode cL_isTurned 13 = .ok (.lstore 6, 2) := by decide +kernel
theorem dL_isTurned_15 : decode cL_isTurned 15 = .ok (.aload_n 0, 1) := by decide +kernel
theorem dL_isTurned_16 : decode cL_isTurned 16 = .ok (.bipush 14, 2) := by decide +kernel
theorem dL_isTurned_18 : decode cL_isTurned 18 = .ok (.iload_n 2, 1) := by decide +kernel
theorem dL_isTurned_19 : decode cL_isTurned 19 = .ok (.iconst 1, 1) := by decide +kernel
theorem dL_isTurned_20 : decode cL_isTurned 20 = .ok (.iload_n 3, 1) := by decide +kernel
theorem dL_isTurned_21 : decode cL_isTurned 21 = .ok (.isub, 1) := by decide +kernel
theorem dL_isTurned_22 : decode cL_isTurned 22 = .ok (.iconst 0, 1) := by decide +kernel
theorem dL_isTurned_23 : decode cL_isTurned 23 = .ok (.iconst 0, 1) := by decide +kernel
theorem dL_isTurned_24 : decode cL_isTurned 24 = .ok (.invokestatic 158, 3) := by decide +kernel
theorem dL_isTurned_27 : decode cL_isTurned 27 = .ok (.istore 8, 2) := by decide +kernel
theorem dL_isTurned_29 : decode cL_isTurned 29 = .ok (.iload 8, 2) := by decide +kernel
theorem dL_isTurned_31 : decode cL_isTurned 31 = .ok (.sipush (-2004), 3) := by decide +kernel
theorem dL_isTurned_34 : decode cL_isTurned 34 = .ok (.if_icmp .ne 42, 3) := by decide +kernel
theorem dL_isTurned_37 : decode cL_isTurned 37 = .ok (.lload 6, 2) := by decide +kernel
theorem dL_isTurned_39 : decode cL_isTurned 39 = .ok (.ldc2_w 148, 3) := by decide +kernel
theorem dL_isTurned_42 : decode cL_isTurned 42 = .ok (.lcmp, 1) := by decide +kernel
theorem dL_isTurned_43 : decode cL_isTurned 43 = .ok (.ifCond .ne 31, 3) := by decide +kernel
theorem dL_isTurned_46 : decode cL_isTurned 46 = .ok (.aload_n 0, 1) := by decide +kernel
theorem dL_isTurned_47 : decode cL_isTurned 47 = .ok (.invokevirtual 183, 3) := by decide +kernel
theorem dL_isTurned_50 : decode cL_isTurned 50 = .ok (.lload 4, 2) := by decide +kernel
theorem dL_isTurned_52 : decode cL_isTurned 52 = .ok (.lcmp, 1) := by decide +kernel
theorem dL_isTurned_53 : decode cL_isTurned 53 = .ok (.ifCond .ne 21, 3) := by decide +kernel
theorem dL_isTurned_56 : decode cL_isTurned 56 = .ok (.aload_n 0, 1) := by decide +kernel
theorem dL_isTurned_57 : decode cL_isTurned 57 = .ok (.bipush 14, 2) := by decide +kernel
theorem dL_isTurned_59 : decode cL_isTurned 59 = .ok (.iload_n 2, 1) := by decide +kernel
theorem dL_isTurned_60 : decode cL_isTurned 60 = .ok (.iload_n 3, 1) := by decide +kernel
theorem dL_isTurned_61 : decode cL_isTurned 61 = .ok (.iconst 0, 1) := by decide +kernel
theorem dL_isTurned_62 : decode cL_isTurned 62 = .ok (.iconst 0, 1) := by decide +kernel
theorem dL_isTurned_63 : decode cL_isTurned 63 = .ok (.invokestatic 158, 3) := by decide +kernel
theorem dL_isTurned_66 : decode cL_isTurned 66 = .ok (.iload_n 3, 1) := by decide +kernel
theorem dL_isTurned_67 : decode cL_isTurned 67 = .ok (.if_icmp .ne 7, 3) := by decide +kernel
theorem dL_isTurned_70 : decode cL_isTurned 70 = .ok (.iconst 1, 1) := by decide +kernel
theorem dL_isTurned_71 : decode cL_isTurned 71 = .ok (.goto 4, 3) := by decide +kernel
theorem dL_isTurned_74 : decode cL_isTurned 74 = .ok (.iconst 0, 1) := by decide +kernel
theorem dL_isTurned_75 : decode cL_isTurned 75 = .ok (.ireturn, 1) := by decide +kernel
theorem dL_isTurned_76 : decode cL_isTurned 76 = .ok (.iload 8, 2) := by decide +kernel
theorem dL_isTurned_78 : decode cL_isTurned 78 = .ok (.iload_n 3, 1) := by decide +kernel
theorem dL_isTurned_79 : decode cL_isTurned 79 = .ok (.if_icmp .ne 28, 3) := by decide +kernel
theorem dL_isTurned_82 : decode cL_isTurned 82 = .ok (.aload_n 0, 1) := by decide +kernel
theorem dL_isTurned_83 : decode cL_isTurned 83 = .ok (.invokevirtual 183, 3) := by decide +kernel
theorem dL_isTurned_86 : decode cL_isTurned 86 = .ok (.lload 4, 2) := by decide +kernel
theorem dL_isTurned_88 : decode cL_isTurned 88 = .ok (.lsub, 1) := by decide +kernel
theorem dL_isTurned_89 : decode cL_isTurned 89 = .ok (.lload 6, 2) := by decide +kernel
theorem dL_isTurned_91 : decode cL_isTurned 91 = .ok (.lcmp, 1) := by decide +kernel
theorem dL_isTurned_92 : decode cL_isTurned 92 = .ok (.ifCond .ne 15, 3) := by decide +kernel
theorem dL_isTurned_95 : decode cL_isTurned 95 = .ok (.aload_n 0, 1) := by decide +kernel
theorem dL_isTurned_96 : decode cL_isTurned 96 = .ok (.aload_n 1, 1) := by decide +kernel
theorem dL_isTurned_97 : decode cL_isTurned 97 = .ok (.invokestatic 204, 3) := by decide +kernel
theorem dL_isTurned_100 : decode cL_isTurned 100 = .ok (.ifCond .eq 7, 3) := by decide +kernel
theorem dL_isTurned_103 : decode cL_isTurned 103 = .ok (.iconst 1, 1) := by decide +kernel
theorem dL_isTurned_104 : decode cL_isTurned 104 = .ok (.goto 4, 3) := by decide +kernel
theorem dL_isTurned_107 : decode cL_isTurned 107 = .ok (.iconst 0, 1) := by decide +kernel
theorem dL_isTurned_108 : decode cL_isTurned 108 = .ok (.istore 9, 2) := by decide +kernel
theorem dL_isTurned_110 : decode cL_isTurned 110 = .ok (.iload 9, 2) := by decide +kernel
theorem dL_isTurned_112 : decode cL_isTurned 112 = .ok (.ifCond .eq 47, 3) := by decide +kernel
theorem dL_isTurned_115 : decode cL_isTurned 115 = .ok (.aload_n 0, 1) := by decide +kernel
theorem dL_isTurned_116 : decode cL_isTurned 116 = .ok (.iconst 5, 1) := by decide +kernel
theorem dL_isTurned_117 : decode cL_isTurned 117 = .ok (.iload_n 2, 1) := by decide +kernel
theorem dL_isTurned_118 : decode cL_isTurned 118 = .ok (.iconst 0, 1) := by decide +kernel
theorem dL_isTurned_119 : decode cL_isTurned 119 = .ok (.invokestatic 169, 3) := by decide +kernel
theorem dL_isTurned_122 : decode cL_isTurned 122 = .ok (.lload 6, 2) := by decide +kernel
theorem dL_isTurned_124 : decode cL_isTurned 124 = .ok (.lneg, 1) := by decide +kernel
theorem dL_isTurned_125 : decode cL_isTurned 125 = .ok (.lcmp, 1) := by decide +kernel
theorem dL_isTurned_126 : decode cL_isTurned 126 = .ok (.ifCond .ne 33, 3) := by decide +kernel
theorem dL_isTurned_129 : decode cL_isTurned 129 = .ok (.aload_n 0, 1) := by decide +kernel
theorem dL_isTurned_130 : decode cL_isTurned 130 = .ok (.bipush 14, 2) := by decide +kernel
theorem dL_isTurned_132 : decode cL_isTurned 132 = .ok (.iload_n 2, 1) := by decide +kernel
theorem dL_isTurned_133 : decode cL_isTurned 133 = .ok (.iload_n 3, 1) := by decide +kernel
theorem dL_isTurned_134 : decode cL_isTurned 134 = .ok (.iconst 0, 1) := by decide +kernel
theorem dL_isTurned_135 : decode cL_isTurned 135 = .ok (.iconst 0, 1) := by decide +kernel
theorem dL_isTurned_136 : decode cL_isTurned 136 = .ok (.invokestatic 158, 3) := by decide +kernel
theorem dL_isTurned_139 : decode cL_isTurned 139 = .ok (.iconst 1, 1) := by decide +kernel
theorem dL_isTurned_140 : decode cL_isTurned 140 = .ok (.iload_n 3, 1) := by decide +kernel
theorem dL_isTurned_141 : decode cL_isTurned 141 = .ok (.isub, 1) := by decide +kernel
theorem dL_isTurned_142 : decode cL_isTurned 142 = .ok (.if_icmp .ne 17, 3) := by decide +kernel
theorem dL_isTurned_145 : decode cL_isTurned 145 = .ok (.aload_n 0, 1) := by decide +kernel
theorem dL_isTurned_146 : decode cL_isTurned 146 = .ok (.invokevirtual 183, 3) := by decide +kernel
theorem dL_isTurned_149 : decode cL_isTurned 149 = .ok (.lload 4, 2) := by decide +kernel
theorem dL_isTurned_151 : decode cL_isTurned 151 = .ok (.lcmp, 1) := by decide +kernel
theorem dL_isTurned_152 : decode cL_isTurned 152 = .ok (.ifCond .ne 7, 3) := by decide +kernel
theorem dL_isTurned_155 : decode cL_isTurned 155 = .ok (.iconst 1, 1) := by decide +kernel
theorem dL_isTurned_156 : decode cL_isTurned 156 = .ok (.goto 4, 3) := by decide +kernel
theorem dL_isTurned_159 : decode cL_isTurned 159 = .ok (.iconst 0, 1) := by decide +kernel
theorem dL_isTurned_160 : decode cL_isTurned 160 = .ok (.ireturn, 1) := by decide +kernel
theorem dL_isCheapest_0 : decode cL_isCheapest 0 = .ok (.aload_n 0, 1) := by decide +kernel
theorem dL_isCheapest_1 : decode cL_isCheapest 1 = .ok (.invokevirtual 208, 3) := by decide +kernel
theorem dL_isCheapest_4 : decode cL_isCheapest 4 = .ok (.istore_n 2, 1) := by decide +kernel
theorem dL_isCheapest_5 : decode cL_isCheapest 5 = .ok (.iload_n 2, 1) := by decide +kernel
theorem dL_isCheapest_6 : decode cL_isCheapest 6 = .ok (.ifCond .lt 16, 3) := by decide +kernel
theorem dL_isCheapest_9 : decode cL_isCheapest 9 = .ok (.iload_n 2, 1) := by decide +kernel
theorem dL_isCheapest_10 : decode cL_isCheapest 10 = .ok (.iconst 1, 1) := by decide +kernel
theorem dL_isCheapest_11 : decode cL_isCheapest 11 = .ok (.aload_n 1, 1) := by decide +kernel
theorem dL_isCheapest_12 : decode cL_isCheapest 12 = .ok (.iconst 3, 1) := by decide +kernel
theorem dL_isCheapest_13 : decode cL_isCheapest 13 = .ok (.iaload, 1) := by decide +kernel
theorem dL_isCheapest_14 : decode cL_isCheapest 14 = .ok (.ishl, 1) := by decide +kernel
theorem dL_isCheapest_15 : decode cL_isCheapest 15 = .ok (.if_icmp .ge 7, 3) := by decide +kernel
theorem dL_isCheapest_18 : decode cL_isCheapest 18 = .ok (.iconst 1, 1) := by decide +kernel
theorem dL_isCheapest_19 : decode cL_isCheapest 19 = .ok (.goto 4, 3) := by decide +kernel
theorem dL_isCheapest_22 : decode cL_isCheapest 22 = .ok (.iconst 0, 1) := by decide +kernel
theorem dL_isCheapest_23 : decode cL_isCheapest 23 = .ok (.istore_n 3, 1) := by decide +kernel
theorem dL_isCheapest_24 : decode cL_isCheapest 24 = .ok (.ldc2_w 200, 3) := by decide +kernel
theorem dL_isCheapest_27 : decode cL_isCheapest 27 = .ok (.lstore 4, 2) := by decide +kernel
theorem dL_isCheapest_29 : decode cL_isCheapest 29 = .ok (.iconst (-1), 1) := by decide +kernel
theorem dL_isCheapest_30 : decode cL_isCheapest 30 = .ok (.istore 6, 2) := by decide +kernel
theorem dL_isCheapest_32 : decode cL_isCheapest 32 = .ok (.iconst 0, 1) := by decide +kernel
theorem dL_isCheapest_33 : decode cL_isCheapest 33 = .ok (.istore 7, 2) := by decide +kernel
theorem dL_isCheapest_35 : decode cL_isCheapest 35 = .ok (.iconst 0, 1) := by decide +kernel
theorem dL_isCheapest_36 : decode cL_isCheapest 36 = .ok (.istore 8, 2) := by decide +kernel
theorem dL_isCheapest_38 : decode cL_isCheapest 38 = .ok (.iload 8, 2) := by decide +kernel
theorem dL_isCheapest_40 : decode cL_isCheapest 40 = .ok (.iconst 1, 1) := by decide +kernel
theorem dL_isCheapest_41 : decode cL_isCheapest 41 = .ok (.aload_n 1, 1) := by decide +kernel
theorem dL_isCheapest_42 : decode cL_isCheapest 42 = .ok (.iconst 3, 1) := by decide +kernel
theorem dL_isCheapest_43 : decode cL_isCheapest 43 = .ok (.iaload, 1) := by decide +kernel
theorem dL_isCheapest_44 : decode cL_isCheapest 44 = .ok (.ishl, 1) := by decide +kernel
theorem dL_isCheapest_45 : decode cL_isCheapest 45 = .ok (.if_icmp .ge 127, 3) := by decide +kernel
theorem dL_isCheapest_48 : decode cL_isCheapest 48 = .ok (.iconst 1, 1) := by decide +kernel
theorem dL_isCheapest_49 : decode cL_isCheapest 49 = .ok (.istore 9, 2) := by decide +kernel
theorem dL_isCheapest_51 : decode cL_isCheapest 51 = .ok (.iconst 0, 1) := by decide +kernel
theorem dL_isCheapest_52 : decode cL_isCheapest 52 = .ok (.istore 10, 2) := by decide +kernel
theorem dL_isCheapest_54 : decode cL_isCheapest 54 = .ok (.iload 10, 2) := by decide +kernel
theorem dL_isCheapest_56 : decode cL_isCheapest 56 = .ok (.aload_n 1, 1) := by decide +kernel
theorem dL_isCheapest_57 : decode cL_isCheapest 57 = .ok (.iconst 3, 1) := by decide +kernel
theorem dL_isCheapest_58 : decode cL_isCheapest 58 = .ok (.iaload, 1) := by decide +kernel
theorem dL_isCheapest_59 : decode cL_isCheapest 59 = .ok (.if_icmp .ge 41, 3) := by decide +kernel
theorem dL_isCheapest_62 : decode cL_isCheapest 62 = .ok (.aload_n 0, 1) := by decide +kernel
theorem dL_isCheapest_63 : decode cL_isCheapest 63 = .ok (.bipush 14, 2) := by decide +kernel
theorem dL_isCheapest_65 : decode cL_isCheapest 65 = .ok (.iload 10, 2) := by decide +kernel
theorem dL_isCheapest_67 : decode cL_isCheapest 67 = .ok (.iload 8, 2) := by decide +kernel
theorem dL_isCheapest_69 : decode cL_isCheapest 69 = .ok (.iload 10, 2) := by decide +kernel
theorem dL_isCheapest_71 : decode cL_isCheapest 71 = .ok (.ishr, 1) := by decide +kernel
theorem dL_isCheapest_72 : decode cL_isCheapest 72 = .ok (.iconst 1, 1) := by decide +kernel
theorem dL_isCheapest_73 : decode cL_isCheapest 73 = .ok (.iand, 1) := by decide +kernel
theorem dL_isCheapest_74 : decode cL_isCheapest 74 = .ok (.iconst 0, 1) := by decide +kernel
theorem dL_isCheapest_75 : decode cL_isCheapest 75 = .ok (.iconst 0, 1) := by decide +kernel
theorem dL_isCheapest_76 : decode cL_isCheapest 76 = .ok (.invokestatic 158, 3) := by decide +kernel
theorem dL_isCheapest_79 : decode cL_isCheapest 79 = .ok (.ifCond .lt 12, 3) := by decide +kernel
theorem dL_isCheapest_82 : decode cL_isCheapest 82 = .ok (.iload 9, 2) := by decide +kernel
theorem dL_isCheapest_84 : decode cL_isCheapest 84 = .ok (.ifCond .eq 7, 3) := by decide +kernel
theorem dL_isCheapest_87 : decode cL_isCheapest 87 = .ok (.iconst 1, 1) := by decide +kernel
theorem dL_isCheapest_88 : decode cL_isCheapest 88 = .ok (.goto 4, 3) := by decide +kernel
theorem dL_isCheapest_91 : decode cL_isCheapest 91 = .ok (.iconst 0, 1) := by decide +kernel
theorem dL_isCheapest_92 : decode cL_isCheapest 92 = .ok (.istore 9, 2) := by decide +kernel
theorem dL_isCheapest_94 : decode cL_isCheapest 94 = .ok (.iinc 10 1, 3) := by decide +kernel
theorem dL_isCheapest_97 : decode cL_isCheapest 97 = .ok (.goto (-43), 3) := by decide +kernel
theorem dL_isCheapest_100 : decode cL_isCheapest 100 = .ok (.iload 9, 2) := by decide +kernel
theorem dL_isCheapest_102 : decode cL_isCheapest 102 = .ok (.ifCond .eq 23, 3) := by decide +kernel
theorem dL_isCheapest_105 : decode cL_isCheapest 105 = .ok (.aload_n 0, 1) := by decide +kernel
theorem dL_isCheapest_106 : decode cL_isCheapest 106 = .ok (.invokevirtual 183, 3) := by decide +kernel
theorem dL_isCheapest_109 : decode cL_isCheapest 109 = .ok (.lload 4, 2) := by decide +kernel
theorem dL_isCheapest_111 : decode cL_isCheapest 111 = .ok (.lcmp, 1) := by decide +kernel
theorem dL_isCheapest_112 : decode cL_isCheapest 112 = .ok (.ifCond .ge 13, 3) := by decide +kernel
theorem dL_isCheapest_115 : decode cL_isCheapest 115 = .ok (.aload_n 0, 1) := by decide +kernel
theorem dL_isCheapest_116 : decode cL_isCheapest 116 = .ok (.invokevirtual 183, 3) := by decide +kernel
theorem dL_isCheapest_119 : decode cL_isCheapest 119 = .ok (.lstore 4, 2) := by decide +kernel
theorem dL_isCheapest_121 : decode cL_isCheapest 121 = .ok (.iload 8, 2) := by decide +kernel
theorem dL_isCheapest_123 : decode cL_isCheapest 123 = .ok (.istore 6, 2) := by decide +kernel
theorem dL_isCheapest_125 : decode cL_isCheapest 125 = .ok (.iload 7, 2) := by decide +kernel
theorem dL_isCheapest_127 : decode cL_isCheapest 127 = .ok (.ifCond .ne 14, 3) := by decide +kernel
theorem dL_isCheapest_130 : decode cL_isCheapest 130 = .ok (.iload 9, 2) := by decide +kernel
theorem dL_isCheapest_132 : decode cL_isCheapest 132 = .ok (.ifCond .eq 13, 3) := by decide +kernel
theorem dL_isCheapest_135 : decode cL_isCheapest 135 = .ok (.iload 8, 2) := by decide +kernel
theorem dL_isCheapest_137 : decode cL_isCheapest 137 = .ok (.iload_n 2, 1) := by decide +kernel
theorem dL_isCheapest_138 : decode cL_isCheapest 138 = .ok (.if_icmp .ne 7, 3) := by decide +kernel
theorem dL_isCheapest_141 : decode cL_isCheapest 141 = .ok (.iconst 1, 1) := by decide +kernel
theorem dL_isCheapest_142 : decode cL_isCheapest 142 = .ok (.goto 4, 3) := by decide +kernel
theorem dL_isCheapest_145 : decode cL_isCheapest 145 = .ok (.iconst 0, 1) := by decide +kernel
theorem dL_isCheapest_146 : decode cL_isCheapest 146 = .ok (.istore 7, 2) := by decide +kernel
theorem dL_isCheapest_148 : decode cL_isCheapest 148 = .ok (.iload_n 3, 1) := by decide +kernel
theorem dL_isCheapest_149 : decode cL_isCheapest 149 = .ok (.ifCond .eq 15, 3) := by decide +kernel
theorem dL_isCheapest_152 : decode cL_isCheapest 152 = .ok (.aload_n 0, 1) := by decide +kernel
theorem dL_isCheapest_153 : decode cL_isCheapest 153 = .ok (.invokevirtual 208, 3) := by decide +kernel
theorem dL_isCheapest_156 : decode cL_isCheapest 156 = .ok (.iload_n 2, 1) := by decide +kernel
theorem dL_isCheapest_157 : decode cL_isCheapest 157 = .ok (.if_icmp .ne 7, 3) := by decide +kernel
theorem dL_isCheapest_160 : decode cL_isCheapest 160 = .ok (.iconst 1, 1) := by decide +kernel
theorem dL_isCheapest_161 : decode cL_isCheapest 161 = .ok (.goto 4, 3) := by decide +kernel
theorem dL_isCheapest_164 : decode cL_isCheapest 164 = .ok (.iconst 0, 1) := by decide +kernel
theorem dL_isCheapest_165 : decode cL_isCheapest 165 = .ok (.istore_n 3, 1) := by decide +kernel
theorem dL_isCheapest_166 : decode cL_isCheapest 166 = .ok (.iinc 8 1, 3) := by decide +kernel
theorem dL_isCheapest_169 : decode cL_isCheapest 169 = .ok (.goto (-131), 3) := by decide +kernel
theorem dL_isCheapest_172 : decode cL_isCheapest 172 = .ok (.iload_n 3, 1) := by decide +kernel
theorem dL_isCheapest_173 : decode cL_isCheapest 173 = .ok (.ifCond .eq 18, 3) := by decide +kernel
theorem dL_isCheapest_176 : decode cL_isCheapest 176 = .ok (.iload 7, 2) := by decide +kernel
theorem dL_isCheapest_178 : decode cL_isCheapest 178 = .ok (.ifCond .eq 9, 3) := by decide +kernel
theorem dL_isCheapest_181 : decode cL_isCheapest 181 = .ok (.iload 6, 2) := by decide +kernel
theorem dL_isCheapest_183 : decode cL_isCheapest 183 = .ok (.iload_n 2, 1) := by decide +kernel
theorem dL_isCheapest_184 : decode cL_isCheapest 184 = .ok (.if_icmp .ne 7, 3) := by decide +kernel
theorem dL_isCheapest_187 : decode cL_isCheapest 187 = .ok (.iconst 1, 1) := by decide +kernel
theorem dL_isCheapest_188 : decode cL_isCheapest 188 = .ok (.goto 4, 3) := by decide +kernel
theorem dL_isCheapest_191 : decode cL_isCheapest 191 = .ok (.iconst 0, 1) := by decide +kernel
theorem dL_isCheapest_192 : decode cL_isCheapest 192 = .ok (.ireturn, 1) := by decide +kernel

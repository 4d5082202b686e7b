theorem dL_told_0 : decode cL_told 0 = .ok (.iload_n 0, 1) := by decide +kernel
theorem dL_told_1 : decode cL_told 1 = .ok (.ifCond .eq 7, 3) := by decide +kernel
theorem dL_told_4 : decode cL_told 4 = .ok (.iconst 1, 1) := by decide +kernel
theorem dL_told_5 : decode cL_told 5 = .ok (.goto 4, 3) := by decide +kernel
theorem dL_told_8 : decode cL_told 8 = .ok (.iconst 0, 1) := by decide +kernel
theorem dL_told_9 : decode cL_told 9 = .ok (.ireturn, 1) := by decide +kernel
theorem dL_asked_0 : decode cL_asked 0 = .ok (.iload_n 1, 1) := by decide +kernel
theorem dL_asked_1 : decode cL_asked 1 = .ok (.tableswitch 149 0 12 #[67, 74, 80, 87, 94, 101, 107, 113, 119, 125, 131, 137, 143], 67) := by decide +kernel
theorem dL_asked_68 : decode cL_asked 68 = .ok (.aload_n 0, 1) := by decide +kernel
theorem dL_asked_69 : decode cL_asked 69 = .ok (.iload_n 2, 1) := by decide +kernel
theorem dL_asked_70 : decode cL_asked 70 = .ok (.invokevirtual 96, 3) := by decide +kernel
theorem dL_asked_73 : decode cL_asked 73 = .ok (.i2l, 1) := by decide +kernel
theorem dL_asked_74 : decode cL_asked 74 = .ok (.lreturn, 1) := by decide +kernel
theorem dL_asked_75 : decode cL_asked 75 = .ok (.aload_n 0, 1) := by decide +kernel
theorem dL_asked_76 : decode cL_asked 76 = .ok (.iload_n 2, 1) := by decide +kernel
theorem dL_asked_77 : decode cL_asked 77 = .ok (.invokevirtual 99, 3) := by decide +kernel
theorem dL_asked_80 : decode cL_asked 80 = .ok (.lreturn, 1) := by decide +kernel
theorem dL_asked_81 : decode cL_asked 81 = .ok (.aload_n 0, 1) := by decide +kernel
theorem dL_asked_82 : decode cL_asked 82 = .ok (.iload_n 2, 1) := by decide +kernel
theorem dL_asked_83 : decode cL_asked 83 = .ok (.iload_n 3, 1) := by decide +kernel
theorem dL_asked_84 : decode cL_asked 84 = .ok (.invokevirtual 103, 3) := by decide +kernel
theorem dL_asked_87 : decode cL_asked 87 = .ok (.lreturn, 1) := by decide +kernel
theorem dL_asked_88 : decode cL_asked 88 = .ok (.aload_n 0, 1) := by decide +kernel
theorem dL_asked_89 : decode cL_asked 89 = .ok (.iload_n 2, 1) := by decide +kernel
theorem dL_asked_90 : decode cL_asked 90 = .ok (.invokevirtual 107, 3) := by decide +kernel
theorem dL_asked_93 : decode cL_asked 93 = .ok (.i2l, 1) := by decide +kernel
theorem dL_asked_94 : decode cL_asked 94 = .ok (.lreturn, 1) := by decide +kernel
theorem dL_asked_95 : decode cL_asked 95 = .ok (.aload_n 0, 1) := by decide +kernel
theorem dL_asked_96 : decode cL_asked 96 = .ok (.iload_n 2, 1) := by decide +kernel
theorem dL_asked_97 : decode cL_asked 97 = .ok (.invokevirtual 110, 3) := by decide +kernel
theorem dL_asked_100 : decode cL_asked 100 = .ok (.i2l, 1) := by decide +kernel
theorem dL_asked_101 : decode cL_asked 101 = .ok (.lreturn, 1) := by decide +kernel
theorem dL_asked_102 : decode cL_asked 102 = .ok (.aload_n 0, 1) := by decide +kernel
theorem dL_asked_103 : decode cL_asked 103 = .ok (.iload_n 2, 1) := by decide +kernel
theorem dL_asked_104 : decode cL_asked 104 = .ok (.invokevirtual 113, 3) := by decide +kernel
theorem dL_asked_107 : decode cL_asked 107 = .ok (.lreturn, 1) := by decide +kernel
theorem dL_asked_108 : decode cL_asked 108 = .ok (.aload_n 0, 1) := by decide +kernel
theorem dL_asked_109 : decode cL_asked 109 = .ok (.iload_n 2, 1) := by decide +kernel
theorem dL_asked_110 : decode cL_asked 110 = .ok (.invokevirtual 116, 3) := by decide +kernel
theorem dL_asked_113 : decode cL_asked 113 = .ok (.lreturn, 1) := by decide +kernel
theorem dL_asked_114 : decode cL_asked 114 = .ok (.aload_n 0, 1) := by decide +kernel
theorem dL_asked_115 : decode cL_asked 115 = .ok (.iload_n 2, 1) := by decide +kernel
theorem dL_asked_116 : decode cL_asked 116 = .ok (.invokevirtual 119, 3) := by decide +kernel
theorem dL_asked_119 : decode cL_asked 119 = .ok (.lreturn, 1) := by decide +kernel
theorem dL_asked_120 : decode cL_asked 120 = .ok (.aload_n 0, 1) := by decide +kernel
theorem dL_asked_121 : decode cL_asked 121 = .ok (.iload_n 2, 1) := by decide +kernel
theorem dL_asked_122 : decode cL_asked 122 = .ok (.invokevirtual 122, 3) := by decide +kernel
theorem dL_asked_125 : decode cL_asked 125 = .ok (.lreturn, 1) := by decide +kernel
theorem dL_asked_126 : decode cL_asked 126 = .ok (.aload_n 0, 1) := by decide +kernel
theorem dL_asked_127 : decode cL_asked 127 = .ok (.iload_n 2, 1) := by decide +kernel
theorem dL_asked_128 : decode cL_asked 128 = .ok (.invokevirtual 125, 3) := by decide +kernel
theorem dL_asked_131 : decode cL_asked 131 = .ok (.lreturn, 1) := by decide +kernel
theorem dL_asked_132 : decode cL_asked 132 = .ok (.aload_n 0, 1) := by decide +kernel
theorem dL_asked_133 : decode cL_asked 133 = .ok (.iload_n 2, 1) := by decide +kernel
theorem dL_asked_134 : decode cL_asked 134 = .ok (.invokevirtual 128, 3) := by decide +kernel
theorem dL_asked_137 : decode cL_asked 137 = .ok (.lreturn, 1) := by decide +kernel
theorem dL_asked_138 : decode cL_asked 138 = .ok (.aload_n 0, 1) := by decide +kernel
theorem dL_asked_139 : decode cL_asked 139 = .ok (.iload_n 2, 1) := by decide +kernel
theorem dL_asked_140 : decode cL_asked 140 = .ok (.invokevirtual 131, 3) := by decide +kernel
theorem dL_asked_143 : decode cL_asked 143 = .ok (.lreturn, 1) := by decide +kernel
theorem dL_asked_144 : decode cL_asked 144 = .ok (.aload_n 0, 1) := by decide +kernel
theorem dL_asked_145 : decode cL_asked 145 = .ok (.iload_n 2, 1) := by decide +kernel
theorem dL_asked_146 : decode cL_asked 146 = .ok (.invokevirtual 134, 3) := by decide +kernel
theorem dL_asked_149 : decode cL_asked 149 = .ok (.lreturn, 1) := by decide +kernel
theorem dL_asked_150 : decode cL_asked 150 = .ok (.aload_n 0, 1) := by decide +kernel
theorem dL_asked_151 : decode cL_asked 151 = .ok (.iload_n 2, 1) := by decide +kernel
theorem dL_asked_152 : decode cL_asked 152 = .ok (.invokevirtual 137, 3) := by decide +kernel
theorem dL_asked_155 : decode cL_asked 155 = .ok (.i2l, 1) := by decide +kernel
theorem dL_asked_156 : decode cL_asked 156 = .ok (.lreturn, 1) := by decide +kernel
theorem dL_ask_0 : decode cL_ask 0 = .ok (.aload_n 0, 1) := by decide +kernel
theorem dL_ask_1 : decode cL_ask 1 = .ok (.iload_n 1, 1) := by decide +kernel
theorem dL_ask_2 : decode cL_ask 2 = .ok (.iload_n 2, 1) := by decide +kernel
theorem dL_ask_3 : decode cL_ask 3 = .ok (.iload_n 3, 1) := by decide +kernel
theorem dL_ask_4 : decode cL_ask 4 = .ok (.invokestatic 140, 3) := by decide +kernel
theorem dL_ask_7 : decode cL_ask 7 = .ok (.lreturn, 1) := by decide +kernel
theorem dL_ask_8 : decode cL_ask 8 = .ok (.astore 4, 2) := by decide +kernel
theorem dL_ask_10 : decode cL_ask 10 = .ok (.ldc2_w 144, 3) := by decide +kernel
theorem dL_ask_13 : decode cL_ask 13 = .ok (.lreturn, 1) := by decide +kernel
theorem dL_ask_14 : decode cL_ask 14 = .ok (.astore 4, 2) := by decide +kernel
theorem dL_ask_16 : decode cL_ask 16 = .ok (.ldc2_w 146, 3) := by decide +kernel
theorem dL_ask_19 : decode cL_ask 19 = .ok (.lreturn, 1) := by decide +kernel
theorem dL_ask_20 : decode cL_ask 20 = .ok (.astore 4, 2) := by decide +kernel
theorem dL_ask_22 : decode cL_ask 22 = .ok (.ldc2_w 148, 3) := by decide +kernel
theorem dL_ask_25 : decode cL_ask 25 = .ok (.lreturn, 1) := by decide +kernel
theorem dL_ask_26 : decode cL_ask 26 = .ok (.astore 4, 2) := by decide +kernel
theorem dL_ask_28 : decode cL_ask 28 = .ok (.ldc2_w 152, 3) := by decide +kernel
theorem dL_ask_31 : decode cL_ask 31 = .ok (.lreturn, 1) := by decide +kernel

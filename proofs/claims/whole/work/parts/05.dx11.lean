theorem dX11_init_0 : decode cX11_init 0 = .ok (.aload_n 0, 1) := by decide +kernel
theorem dX11_init_1 : decode cX11_init 1 = .ok (.invokespecial 1, 3) := by decide +kernel
theorem dX11_init_4 : decode cX11_init 4 = .ok (.aload_n 0, 1) := by decide +kernel
theorem dX11_init_5 : decode cX11_init 5 = .ok (.bipush 12, 2) := by decide +kernel
theorem dX11_init_7 : decode cX11_init 7 = .ok (.newarray .int, 2) := by decide +kernel
theorem dX11_init_9 : decode cX11_init 9 = .ok (.putfield 7, 3) := by decide +kernel
theorem dX11_init_12 : decode cX11_init 12 = .ok (.aload_n 0, 1) := by decide +kernel
theorem dX11_init_13 : decode cX11_init 13 = .ok (.bipush 12, 2) := by decide +kernel
theorem dX11_init_15 : decode cX11_init 15 = .ok (.newarray .int, 2) := by decide +kernel
theorem dX11_init_17 : decode cX11_init 17 = .ok (.putfield 13, 3) := by decide +kernel
theorem dX11_init_20 : decode cX11_init 20 = .ok (.aload_n 0, 1) := by decide +kernel
theorem dX11_init_21 : decode cX11_init 21 = .ok (.bipush 12, 2) := by decide +kernel
theorem dX11_init_23 : decode cX11_init 23 = .ok (.newarray .int, 2) := by decide +kernel
theorem dX11_init_25 : decode cX11_init 25 = .ok (.putfield 16, 3) := by decide +kernel
theorem dX11_init_28 : decode cX11_init 28 = .ok (.aload_n 0, 1) := by decide +kernel
theorem dX11_init_29 : decode cX11_init 29 = .ok (.bipush 12, 2) := by decide +kernel
theorem dX11_init_31 : decode cX11_init 31 = .ok (.newarray .int, 2) := by decide +kernel
theorem dX11_init_33 : decode cX11_init 33 = .ok (.putfield 19, 3) := by decide +kernel
theorem dX11_init_36 : decode cX11_init 36 = .ok (.aload_n 0, 1) := by decide +kernel
theorem dX11_init_37 : decode cX11_init 37 = .ok (.iconst 4, 1) := by decide +kernel
theorem dX11_init_38 : decode cX11_init 38 = .ok (.newarray .int, 2) := by decide +kernel
theorem dX11_init_40 : decode cX11_init 40 = .ok (.putfield 22, 3) := by decide +kernel
theorem dX11_init_43 : decode cX11_init 43 = .ok (.aload_n 0, 1) := by decide +kernel
theorem dX11_init_44 : decode cX11_init 44 = .ok (.bipush 12, 2) := by decide +kernel
theorem dX11_init_46 : decode cX11_init 46 = .ok (.newarray .int, 2) := by decide +kernel
theorem dX11_init_48 : decode cX11_init 48 = .ok (.putfield 25, 3) := by decide +kernel
theorem dX11_init_51 : decode cX11_init 51 = .ok (.aload_n 0, 1) := by decide +kernel
theorem dX11_init_52 : decode cX11_init 52 = .ok (.bipush 12, 2) := by decide +kernel
theorem dX11_init_54 : decode cX11_init 54 = .ok (.newarray .int, 2) := by decide +kernel
theorem dX11_init_56 : decode cX11_init 56 = .ok (.putfield 28, 3) := by decide +kernel
theorem dX11_init_59 : decode cX11_init 59 = .ok (.aload_n 0, 1) := by decide +kernel
theorem dX11_init_60 : decode cX11_init 60 = .ok (.bipush 12, 2) := by decide +kernel
theorem dX11_init_62 : decode cX11_init 62 = .ok (.newarray .int, 2) := by decide +kernel
theorem dX11_init_64 : decode cX11_init 64 = .ok (.putfield 31, 3) := by decide +kernel
theorem dX11_init_67 : decode cX11_init 67 = .ok (.aload_n 0, 1) := by decide +kernel
theorem dX11_init_68 : decode cX11_init 68 = .ok (.bipush 12, 2) := by decide +kernel
theorem dX11_init_70 : decode cX11_init 70 = .ok (.newarray .int, 2) := by decide +kernel
theorem dX11_init_72 : decode cX11_init 72 = .ok (.putfield 34, 3) := by decide +kernel
theorem dX11_init_75 : decode cX11_init 75 = .ok (.aload_n 0, 1) := by decide +kernel
theorem dX11_init_76 : decode cX11_init 76 = .ok (.bipush 48, 2) := by decide +kernel
theorem dX11_init_78 : decode cX11_init 78 = .ok (.newarray .int, 2) := by decide +kernel
theorem dX11_init_80 : decode cX11_init 80 = .ok (.putfield 37, 3) := by decide +kernel
theorem dX11_init_83 : decode cX11_init 83 = .ok (.aload_n 0, 1) := by decide +kernel
theorem dX11_init_84 : decode cX11_init 84 = .ok (.bipush 48, 2) := by decide +kernel
theorem dX11_init_86 : decode cX11_init 86 = .ok (.newarray .int, 2) := by decide +kernel
theorem dX11_init_88 : decode cX11_init 88 = .ok (.putfield 40, 3) := by decide +kernel
theorem dX11_init_91 : decode cX11_init 91 = .ok (.aload_n 0, 1) := by decide +kernel
theorem dX11_init_92 : decode cX11_init 92 = .ok (.bipush 48, 2) := by decide +kernel
theorem dX11_init_94 : decode cX11_init 94 = .ok (.newarray .int, 2) := by decide +kernel
theorem dX11_init_96 : decode cX11_init 96 = .ok (.putfield 43, 3) := by decide +kernel
theorem dX11_init_99 : decode cX11_init 99 = .ok (.aload_n 0, 1) := by decide +kernel
theorem dX11_init_100 : decode cX11_init 100 = .ok (.bipush 10, 2) := by decide +kernel
theorem dX11_init_102 : decode cX11_init 102 = .ok (.newarray .int, 2) := by decide +kernel
theorem dX11_init_104 : decode cX11_init 104 = .ok (.putfield 46, 3) := by decide +kernel
theorem dX11_init_107 : decode cX11_init 107 = .ok (.aload_n 0, 1) := by decide +kernel
theorem dX11_init_108 : decode cX11_init 108 = .ok (.bipush 40, 2) := by decide +kernel
theorem dX11_init_110 : decode cX11_init 110 = .ok (.newarray .int, 2) := by decide +kernel
theorem dX11_init_112 : decode cX11_init 112 = .ok (.putfield 49, 3) := by decide +kernel
theorem dX11_init_115 : decode cX11_init 115 = .ok (.aload_n 0, 1) := by decide +kernel
theorem dX11_init_116 : decode cX11_init 116 = .ok (.bipush 40, 2) := by decide +kernel
theorem dX11_init_118 : decode cX11_init 118 = .ok (.newarray .int, 2) := by decide +kernel
theorem dX11_init_120 : decode cX11_init 120 = .ok (.putfield 52, 3) := by decide +kernel
theorem dX11_init_123 : decode cX11_init 123 = .ok (.aload_n 0, 1) := by decide +kernel
theorem dX11_init_124 : decode cX11_init 124 = .ok (.bipush 48, 2) := by decide +kernel
theorem dX11_init_126 : decode cX11_init 126 = .ok (.newarray .int, 2) := by decide +kernel
theorem dX11_init_128 : decode cX11_init 128 = .ok (.putfield 55, 3) := by decide +kernel
theorem dX11_init_131 : decode cX11_init 131 = .ok (.aload_n 0, 1) := by decide +kernel
theorem dX11_init_132 : decode cX11_init 132 = .ok (.bipush 48, 2) := by decide +kernel
theorem dX11_init_134 : decode cX11_init 134 = .ok (.newarray .int, 2) := by decide +kernel
theorem dX11_init_136 : decode cX11_init 136 = .ok (.putfield 58, 3) := by decide +kernel
theorem dX11_init_139 : decode cX11_init 139 = .ok (.aload_n 0, 1) := by decide +kernel
theorem dX11_init_140 : decode cX11_init 140 = .ok (.iconst 4, 1) := by decide +kernel
theorem dX11_init_141 : decode cX11_init 141 = .ok (.newarray .int, 2) := by decide +kernel
theorem dX11_init_143 : decode cX11_init 143 = .ok (.putfield 61, 3) := by decide +kernel
theorem dX11_init_146 : decode cX11_init 146 = .ok (.aload_n 0, 1) := by decide +kernel
theorem dX11_init_147 : decode cX11_init 147 = .ok (.iconst 4, 1) := by decide +kernel
theorem dX11_init_148 : decode cX11_init 148 = .ok (.newarray .int, 2) := by decide +kernel
theorem dX11_init_150 : decode cX11_init 150 = .ok (.putfield 64, 3) := by decide +kernel
theorem dX11_init_153 : decode cX11_init 153 = .ok (.aload_n 0, 1) := by decide +kernel
theorem dX11_init_154 : decode cX11_init 154 = .ok (.bipush 12, 2) := by decide +kernel
theorem dX11_init_156 : decode cX11_init 156 = .ok (.newarray .long, 2) := by decide +kernel
theorem dX11_init_158 : decode cX11_init 158 = .ok (.putfield 67, 3) := by decide +kernel
theorem dX11_init_161 : decode cX11_init 161 = .ok (.aload_n 0, 1) := by decide +kernel
theorem dX11_init_162 : decode cX11_init 162 = .ok (.iconst 4, 1) := by decide +kernel
theorem dX11_init_163 : decode cX11_init 163 = .ok (.newarray .long, 2) := by decide +kernel
theorem dX11_init_165 : decode cX11_init 165 = .ok (.putfield 71, 3) := by decide +kernel
theorem dX11_init_168 : decode cX11_init 168 = .ok (.aload_n 0, 1) := by decide +kernel
theorem dX11_init_169 : decode cX11_init 169 = .ok (.bipush 12, 2) := by decide +kernel
theorem dX11_init_171 : decode cX11_init 171 = .ok (.newarray .int, 2) := by decide +kernel
theorem dX11_init_173 : decode cX11_init 173 = .ok (.putfield 74, 3) := by decide +kernel
theorem dX11_init_176 : decode cX11_init 176 = .ok (.aload_n 0, 1) := by decide +kernel
theorem dX11_init_177 : decode cX11_init 177 = .ok (.bipush 12, 2) := by decide +kernel
theorem dX11_init_179 : decode cX11_init 179 = .ok (.newarray .long, 2) := by decide +kernel
theorem dX11_init_181 : decode cX11_init 181 = .ok (.putfield 77, 3) := by decide +kernel
theorem dX11_init_184 : decode cX11_init 184 = .ok (.aload_n 0, 1) := by decide +kernel
theorem dX11_init_185 : decode cX11_init 185 = .ok (.bipush 12, 2) := by decide +kernel
theorem dX11_init_187 : decode cX11_init 187 = .ok (.newarray .long, 2) := by decide +kernel
theorem dX11_init_189 : decode cX11_init 189 = .ok (.putfield 80, 3) := by decide +kernel
theorem dX11_init_192 : decode cX11_init 192 = .ok (.aload_n 0, 1) := by decide +kernel
theorem dX11_init_193 : decode cX11_init 193 = .ok (.bipush 12, 2) := by decide +kernel
theorem dX11_init_195 : decode cX11_init 195 = .ok (.newarray .long, 2) := by decide +kernel
theorem dX11_init_197 : decode cX11_init 197 = .ok (.putfield 83, 3) := by decide +kernel
theorem dX11_init_200 : decode cX11_init 200 = .ok (.return_, 1) := by decide +kernel
theorem dX11_thrown_0 : decode cX11_thrown 0 = .ok (.aload_n 0, 1) := by decide +kernel
theorem dX11_thrown_1 : decode cX11_thrown 1 = .ok (.getfield 86, 3) := by decide +kernel
theorem dX11_thrown_4 : decode cX11_thrown 4 = .ok (.ireturn, 1) := by decide +kernel
theorem dX11_in_0 : decode cX11_in 0 = .ok (.iload_n 0, 1) := by decide +kernel
theorem dX11_in_1 : decode cX11_in 1 = .ok (.iload_n 1, 1) := by decide +kernel
theorem dX11_in_2 : decode cX11_in 2 = .ok (.if_icmp .lt 12, 3) := by decide +kernel
theorem dX11_in_5 : decode cX11_in 5 = .ok (.iload_n 0, 1) := by decide +kernel
theorem dX11_in_6 : decode cX11_in 6 = .ok (.iload_n 2, 1) := by decide +kernel
theorem dX11_in_7 : decode cX11_in 7 = .ok (.if_icmp .gt 7, 3) := by decide +kernel
theorem dX11_in_10 : decode cX11_in 10 = .ok (.iconst 1, 1) := by decide +kernel
theorem dX11_in_11 : decode cX11_in 11 = .ok (.goto 4, 3) := by decide +kernel
theorem dX11_in_14 : decode cX11_in 14 = .ok (.iconst 0, 1) := by decide +kernel
theorem dX11_in_15 : decode cX11_in 15 = .ok (.ireturn, 1) := by decide +kernel
theorem dX11_fails_0 : decode cX11_fails 0 = .ok (.iload_n 1, 1) := by decide +kernel
theorem dX11_fails_1 : decode cX11_fails 1 = .ok (.ifCond .eq 15, 3) := by decide +kernel
theorem dX11_fails_4 : decode cX11_fails 4 = .ok (.aload_n 0, 1) := by decide +kernel
theorem dX11_fails_5 : decode cX11_fails 5 = .ok (.getfield 86, 3) := by decide +kernel
theorem dX11_fails_8 : decode cX11_fails 8 = .ok (.ifCond .ne 8, 3) := by decide +kernel
theorem dX11_fails_11 : decode cX11_fails 11 = .ok (.aload_n 0, 1) := by decide +kernel
theorem dX11_fails_12 : decode cX11_fails 12 = .ok (.iload_n 2, 1) := by decide +kernel
theorem dX11_fails_13 : decode cX11_fails 13 = .ok (.putfield 86, 3) := by decide +kernel
theorem dX11_fails_16 : decode cX11_fails 16 = .ok (.aload_n 0, 1) := by decide +kernel
theorem dX11_fails_17 : decode cX11_fails 17 = .ok (.getfield 86, 3) := by decide +kernel
theorem dX11_fails_20 : decode cX11_fails 20 = .ok (.ifCond .eq 7, 3) := by decide +kernel
theorem dX11_fails_23 : decode cX11_fails 23 = .ok (.iconst 1, 1) := by decide +kernel
theorem dX11_fails_24 : decode cX11_fails 24 = .ok (.goto 4, 3) := by decide +kernel
theorem dX11_fails_27 : decode cX11_fails 27 = .ok (.iconst 0, 1) := by decide +kernel
theorem dX11_fails_28 : decode cX11_fails 28 = .ok (.ireturn, 1) := by decide +kernel
set_option maxRecDepth 20000 in
theorem ggX11_noResource_X11_in : GoodIn wsX11_noResource wsX11_in := goodIn_r _ [5] (by decide +kernel) (by decide +kernel)
set_option maxRecDepth 20000 in
theorem gX11_noResource_X11_in : GoodIn wsX11_noResource (va_wsS RX11 93 yX11_in wsX11_in) := goodIn_app (goodIn_of _ (by decide +kernel)) ggX11_noResource_X11_in
theorem dX11_noResource_0 : decode cX11_noResource 0 = .ok (.iload_n 1, 1) := by decide +kernel
theorem dX11_noResource_1 : decode cX11_noResource 1 = .ok (.iconst 0, 1) := by decide +kernel
theorem dX11_noResource_2 : decode cX11_noResource 2 = .ok (.aload_n 0, 1) := by decide +kernel
theorem dX11_noResource_3 : decode cX11_noResource 3 = .ok (.getfield 90, 3) := by decide +kernel
theorem dX11_noResource_6 : decode cX11_noResource 6 = .ok (.iconst 1, 1) := by decide +kernel
theorem dX11_noResource_7 : decode cX11_noResource 7 = .ok (.isub, 1) := by decide +kernel
theorem dX11_noResource_8 : decode cX11_noResource 8 = .ok (.invokestatic 93, 3) := by decide +kernel
theorem dX11_noResource_11 : decode cX11_noResource 11 = .ok (.ifCond .ne 7, 3) := by decide +kernel
theorem dX11_noResource_14 : decode cX11_noResource 14 = .ok (.iconst 1, 1) := by decide +kernel
theorem dX11_noResource_15 : decode cX11_noResource 15 = .ok (.goto 4, 3) := by decide +kernel
theorem dX11_noResource_18 : decode cX11_noResource 18 = .ok (.iconst 0, 1) := by decide +kernel
theorem dX11_noResource_19 : decode cX11_noResource 19 = .ok (.ireturn, 1) := by decide +kernel
set_option maxRecDepth 20000 in
theorem ggX11_noItem_X11_in : GoodIn wsX11_noItem wsX11_in := goodIn_r _ [5] (by decide +kernel) (by decide +kernel)
set_option maxRecDepth 20000 in
theorem gX11_noItem_X11_in : GoodIn wsX11_noItem (va_wsS RX11 93 yX11_in wsX11_in) := goodIn_app (goodIn_of _ (by decide +kernel)) ggX11_noItem_X11_in
theorem dX11_noItem_0 : decode cX11_noItem 0 = .ok (.iload_n 1, 1) := by decide +kernel
theorem dX11_noItem_1 : decode cX11_noItem 1 = .ok (.iconst 0, 1) := by decide +kernel
theorem dX11_noItem_2 : decode cX11_noItem 2 = .ok (.aload_n 0, 1) := by decide +kernel
theorem dX11_noItem_3 : decode cX11_noItem 3 = .ok (.getfield 97, 3) := by decide +kernel
theorem dX11_noItem_6 : decode cX11_noItem 6 = .ok (.iconst 1, 1) := by decide +kernel
theorem dX11_noItem_7 : decode cX11_noItem 7 = .ok (.isub, 1) := by decide +kernel
theorem dX11_noItem_8 : decode cX11_noItem 8 = .ok (.invokestatic 93, 3) := by decide +kernel
theorem dX11_noItem_11 : decode cX11_noItem 11 = .ok (.ifCond .ne 7, 3) := by decide +kernel
theorem dX11_noItem_14 : decode cX11_noItem 14 = .ok (.iconst 1, 1) := by decide +kernel
theorem dX11_noItem_15 : decode cX11_noItem 15 = .ok (.goto 4, 3) := by decide +kernel
theorem dX11_noItem_18 : decode cX11_noItem 18 = .ok (.iconst 0, 1) := by decide +kernel
theorem dX11_noItem_19 : decode cX11_noItem 19 = .ok (.ireturn, 1) := by decide +kernel
set_option maxRecDepth 20000 in
theorem ggX11_noLine_X11_in : GoodIn wsX11_noLine wsX11_in := goodIn_r _ [5] (by decide +kernel) (by decide +kernel)
set_option maxRecDepth 20000 in
theorem gX11_noLine_X11_in : GoodIn wsX11_noLine (va_wsS RX11 93 yX11_in wsX11_in) := goodIn_app (goodIn_of _ (by decide +kernel)) ggX11_noLine_X11_in
theorem dX11_noLine_0 : decode cX11_noLine 0 = .ok (.iload_n 1, 1) := by decide +kernel
theorem dX11_noLine_1 : decode cX11_noLine 1 = .ok (.iconst 0, 1) := by decide +kernel
theorem dX11_noLine_2 : decode cX11_noLine 2 = .ok (.aload_n 0, 1) := by decide +kernel
theorem dX11_noLine_3 : decode cX11_noLine 3 = .ok (.getfield 100, 3) := by decide +kernel
theorem dX11_noLine_6 : decode cX11_noLine 6 = .ok (.iconst 1, 1) := by decide +kernel
theorem dX11_noLine_7 : decode cX11_noLine 7 = .ok (.isub, 1) := by decide +kernel
theorem dX11_noLine_8 : decode cX11_noLine 8 = .ok (.invokestatic 93, 3) := by decide +kernel
theorem dX11_noLine_11 : decode cX11_noLine 11 = .ok (.ifCond .ne 7, 3) := by decide +kernel
theorem dX11_noLine_14 : decode cX11_noLine 14 = .ok (.iconst 1, 1) := by decide +kernel
theorem dX11_noLine_15 : decode cX11_noLine 15 = .ok (.goto 4, 3) := by decide +kernel
theorem dX11_noLine_18 : decode cX11_noLine 18 = .ok (.iconst 0, 1) := by decide +kernel
theorem dX11_noLine_19 : decode cX11_noLine 19 = .ok (.ireturn, 1) := by decide +kernel
set_option maxRecDepth 20000 in
theorem ggX11_noVariant_X11_in : GoodIn wsX11_noVariant wsX11_in := goodIn_r _ [5] (by decide +kernel) (by decide +kernel)
set_option maxRecDepth 20000 in
theorem gX11_noVariant_X11_in : GoodIn wsX11_noVariant (va_wsS RX11 93 yX11_in wsX11_in) := goodIn_app (goodIn_of _ (by decide +kernel)) ggX11_noVariant_X11_in
theorem dX11_noVariant_0 : decode cX11_noVariant 0 = .ok (.iload_n 1, 1) := by decide +kernel
theorem dX11_noVariant_1 : decode cX11_noVariant 1 = .ok (.iconst 0, 1) := by decide +kernel
theorem dX11_noVariant_2 : decode cX11_noVariant 2 = .ok (.aload_n 0, 1) := by decide +kernel
theorem dX11_noVariant_3 : decode cX11_noVariant 3 = .ok (.getfield 103, 3) := by decide +kernel
theorem dX11_noVariant_6 : decode cX11_noVariant 6 = .ok (.iconst 1, 1) := by decide +kernel
theorem dX11_noVariant_7 : decode cX11_noVariant 7 = .ok (.isub, 1) := by decide +kernel
theorem dX11_noVariant_8 : decode cX11_noVariant 8 = .ok (.invokestatic 93, 3) := by decide +kernel
theorem dX11_noVariant_11 : decode cX11_noVariant 11 = .ok (.ifCond .ne 7, 3) := by decide +kernel
theorem dX11_noVariant_14 : decode cX11_noVariant 14 = .ok (.iconst 1, 1) := by decide +kernel
theorem dX11_noVariant_15 : decode cX11_noVariant 15 = .ok (.goto 4, 3) := by decide +kernel
theorem dX11_noVariant_18 : decode cX11_noVariant 18 = .ok (.iconst 0, 1) := by decide +kernel
theorem dX11_noVariant_19 : decode cX11_noVariant 19 = .ok (.ireturn, 1) := by decide +kernel
set_option maxRecDepth 20000 in
theorem ggX11_addResource_X11_in : GoodIn wsX11_addResource wsX11_in := goodIn_r _ [10] (by decide +kernel) (by decide +kernel)
set_option maxRecDepth 20000 in
theorem gX11_addResource_X11_in : GoodIn wsX11_addResource (va_wsS RX11 93 yX11_in wsX11_in) := goodIn_app (goodIn_of _ (by decide +kernel)) ggX11_addResource_X11_in
set_option maxRecDepth 20000 in
theorem ggX11_addResource_X11_fails : GoodIn wsX11_addResource wsX11_fails := goodIn_r _ [14, 1, 15, 16, 17, 18, 19, 20, 21, 22, 23, 24, 25, 26, 27, 28, 29, 30, 31, 32, 33, 34, 35, 36, 37, 38, 39, 40, 41, 42, 43, 44, 45, 46, 47, 48] (by decide +kernel) (by decide +kernel)
set_option maxRecDepth 20000 in
theorem gX11_addResource_X11_fails : GoodIn wsX11_addResource (wsV RX11 106 RX11 yX11_fails wsX11_fails) := goodIn_app (goodIn_of _ (by decide +kernel)) ggX11_addResource_X11_fails
theorem dX11_addResource_0 : decode cX11_addResource 0 = .ok (.aload_n 0, 1) := by decide +kernel
theorem dX11_addResource_1 : decode cX11_addResource 1 = .ok (.iconst 0, 1) := by decide +kernel
theorem dX11_addResource_2 : decode cX11_addResource 2 = .ok (.putfield 86, 3) := by decide +kernel
theorem dX11_addResource_5 : decode cX11_addResource 5 = .ok (.iload_n 1, 1) := by decide +kernel
theorem dX11_addResource_6 : decode cX11_addResource 6 = .ok (.iconst 0, 1) := by decide +kernel
theorem dX11_addResource_7 : decode cX11_addResource 7 = .ok (.iconst 2, 1) := by decide +kernel
theorem dX11_addResource_8 : decode cX11_addResource 8 = .ok (.invokestatic 93, 3) := by decide +kernel
theorem dX11_addResource_11 : decode cX11_addResource 11 = .ok (.ifCond .eq 39, 3) := by decide +kernel
theorem dX11_addResource_14 : decode cX11_addResource 14 = .ok (.iload_n 2, 1) := by decide +kernel
theorem dX11_addResource_15 : decode cX11_addResource 15 = .ok (.iconst 0, 1) := by decide +kernel
theorem dX11_addResource_16 : decode cX11_addResource 16 = .ok (.sipush 9999, 3) := by decide +kernel
theorem dX11_addResource_19 : decode cX11_addResource 19 = .ok (.invokestatic 93, 3) := by decide +kernel
theorem dX11_addResource_22 : decode cX11_addResource 22 = .ok (.ifCond .eq 28, 3) := by decide +kernel
theorem dX11_addResource_25 : decode cX11_addResource 25 = .ok (.iload_n 3, 1) := by decide +kernel
theorem dX11_addResource_26 : decode cX11_addResource 26 = .ok (.iconst 0, 1) := by decide +kernel
theorem dX11_addResource_27 : decode cX11_addResource 27 = .ok (.bipush 50, 2) := by decide +kernel
theorem dX11_addResource_29 : decode cX11_addResource 29 = .ok (.invokestatic 93, 3) := by decide +kernel
theorem dX11_addResource_32 : decode cX11_addResource 32 = .ok (.ifCond .eq 18, 3) := by decide +kernel
theorem dX11_addResource_35 : decode cX11_addResource 35 = .ok (.iload 4, 2) := by decide +kernel
theorem dX11_addResource_37 : decode cX11_addResource 37 = .ok (.iconst 1, 1) := by decide +kernel
theorem dX11_addResource_38 : decode cX11_addResource 38 = .ok (.bipush 99, 2) := by decide +kernel
theorem dX11_addResource_40 : decode cX11_addResource 40 = .ok (.invokestatic 93, 3) := by decide +kernel
theorem dX11_addResource_43 : decode cX11_addResource 43 = .ok (.ifCond .eq 7, 3) := by decide +kernel
theorem dX11_addResource_46 : decode cX11_addResource 46 = .ok (.iconst 1, 1) := by decide +kernel
theorem dX11_addResource_47 : decode cX11_addResource 47 = .ok (.goto 4, 3) := by decide +kernel
theorem dX11_addResource_50 : decode cX11_addResource 50 = .ok (.iconst 0, 1) := by decide +kernel
theorem dX11_addResource_51 : decode cX11_addResource 51 = .ok (.istore 5, 2) := by decide +kernel
theorem dX11_addResource_53 : decode cX11_addResource 53 = .ok (.aload_n 0, 1) := by decide +kernel
theorem dX11_addResource_54 : decode cX11_addResource 54 = .ok (.iload 5, 2) := by decide +kernel
theorem dX11_addResource_56 : decode cX11_addResource 56 = .ok (.ifCond .ne 7, 3) := by decide +kernel
theorem dX11_addResource_59 : decode cX11_addResource 59 = .ok (.iconst 1, 1) := by decide +kernel
theorem dX11_addResource_60 : decode cX11_addResource 60 = .ok (.goto 4, 3) := by decide +kernel
theorem dX11_addResource_63 : decode cX11_addResource 63 = .ok (.iconst 0, 1) := by decide +kernel
theorem dX11_addResource_64 : decode cX11_addResource 64 = .ok (.iconst 1, 1) := by decide +kernel
theorem dX11_addResource_65 : decode cX11_addResource 65 = .ok (.invokevirtual 106, 3) := by decide +kernel
theorem dX11_addResource_68 : decode cX11_addResource 68 = .ok (.ifCond .ne 25, 3) := by decide +kernel
theorem dX11_addResource_71 : decode cX11_addResource 71 = .ok (.aload_n 0, 1) := by decide +kernel
theorem dX11_addResource_72 : decode cX11_addResource 72 = .ok (.aload_n 0, 1) := by decide +kernel
theorem dX11_addResource_73 : decode cX11_addResource 73 = .ok (.getfield 90, 3) := by decide +kernel
theorem dX11_addResource_76 : decode cX11_addResource 76 = .ok (.bipush 12, 2) := by decide +kernel
theorem dX11_addResource_78 : decode cX11_addResource 78 = .ok (.if_icmp .ne 7, 3) := by decide +kernel
theorem dX11_addResource_81 : decode cX11_addResource 81 = .ok (.iconst 1, 1) := by decide +kernel
theorem dX11_addResource_82 : decode cX11_addResource 82 = .ok (.goto 4, 3) := by decide +kernel
theorem dX11_addResource_85 : decode cX11_addResource 85 = .ok (.iconst 0, 1) := by decide +kernel
theorem dX11_addResource_86 : decode cX11_addResource 86 = .ok (.iconst 2, 1) := by decide +kernel
theorem dX11_addResource_87 : decode cX11_addResource 87 = .ok (.invokevirtual 106, 3) := by decide +kernel
theorem dX11_addResource_90 : decode cX11_addResource 90 = .ok (.ifCond .eq 5, 3) := by decide +kernel
theorem dX11_addResource_93 : decode cX11_addResource 93 = .ok (.iconst 0, 1) := by decide +kernel
theorem dX11_addResource_94 : decode cX11_addResource 94 = .ok (.ireturn, 1) := by decide +kernel
theorem dX11_addResource_95 : decode cX11_addResource 95 = .ok (.aload_n 0, 1) := by decide +kernel
theorem dX11_addResource_96 : decode cX11_addResource 96 = .ok (.getfield 7, 3) := by decide +kernel
theorem dX11_addResource_99 : decode cX11_addResource 99 = .ok (.aload_n 0, 1) := by decide +kernel
theorem dX11_addResource_100 : decode cX11_addResource 100 = .ok (.getfield 90, 3) := by decide +kernel
theorem dX11_addResource_103 : decode cX11_addResource 103 = .ok (.iload_n 1, 1) := by decide +kernel
theorem dX11_addResource_104 : decode cX11_addResource 104 = .ok (.iastore, 1) := by decide +kernel
theorem dX11_addResource_105 : decode cX11_addResource 105 = .ok (.aload_n 0, 1) := by decide +kernel
theorem dX11_addResource_106 : decode cX11_addResource 106 = .ok (.getfield 13, 3) := by decide +kernel
theorem dX11_addResource_109 : decode cX11_addResource 109 = .ok (.aload_n 0, 1) := by decide +kernel
theorem dX11_addResource_110 : decode cX11_addResource 110 = .ok (.getfield 90, 3) := by decide +kernel
theorem dX11_addResource_113 : decode cX11_addResource 113 = .ok (.iload_n 2, 1) := by decide +kernel
theorem dX11_addResource_114 : decode cX11_addResource 114 = .ok (.iastore, 1) := by decide +kernel
theorem dX11_addResource_115 : decode cX11_addResource 115 = .ok (.aload_n 0, 1) := by decide +kernel
theorem dX11_addResource_116 : decode cX11_addResource 116 = .ok (.getfield 16, 3) := by decide +kernel
theorem dX11_addResource_119 : decode cX11_addResource 119 = .ok (.aload_n 0, 1) := by decide +kernel
theorem dX11_addResource_120 : decode cX11_addResource 120 = .ok (.getfield 90, 3) := by decide +kernel
theorem dX11_addResource_123 : decode cX11_addResource 123 = .ok (.iload_n 3, 1) := by decide +kernel
theorem dX11_addResource_124 : decode cX11_addResource 124 = .ok (.iastore, 1) := by decide +kernel
theorem dX11_addResource_125 : decode cX11_addResource 125 = .ok (.aload_n 0, 1) := by decide +kernel
theorem dX11_addResource_126 : decode cX11_addResource 126 = .ok (.getfield 19, 3) := by decide +kernel
theorem dX11_addResource_129 : decode cX11_addResource 129 = .ok (.aload_n 0, 1) := by decide +kernel
theorem dX11_addResource_130 : decode cX11_addResource 130 = .ok (.getfield 90, 3) := by decide +kernel
theorem dX11_addResource_133 : decode cX11_addResource 133 = .ok (.iload 4, 2) := by decide +kernel
theorem dX11_addResource_135 : decode cX11_addResource 135 = .ok (.iastore, 1) := by decide +kernel
theorem dX11_addResource_136 : decode cX11_addResource 136 = .ok (.aload_n 0, 1) := by decide +kernel
theorem dX11_addResource_137 : decode cX11_addResource 137 = .ok (.dup, 1) := by decide +kernel
theorem dX11_addResource_138 : decode cX11_addResource 138 = .ok (.getfield 90, 3) := by decide +kernel
theorem dX11_addResource_141 : decode cX11_addResource 141 = .ok (.iconst 1, 1) := by decide +kernel
theorem dX11_addResource_142 : decode cX11_addResource 142 = .ok (.iadd, 1) := by decide +kernel
theorem dX11_addResource_143 : decode cX11_addResource 143 = .ok (.putfield 90, 3) := by decide +kernel
theorem dX11_addResource_146 : decode cX11_addResource 146 = .ok (.aload_n 0, 1) := by decide +kernel
theorem dX11_addResource_147 : decode cX11_addResource 147 = .ok (.getfield 90, 3) := by decide +kernel
theorem dX11_addResource_150 : decode cX11_addResource 150 = .ok (.iconst 1, 1) := by decide +kernel
theorem dX11_addResource_151 : decode cX11_addResource 151 = .ok (.isub, 1) := by decide +kernel
theorem dX11_addResource_152 : decode cX11_addResource 152 = .ok (.ireturn, 1) := by decide +kernel
set_option maxRecDepth 20000 in
theorem ggX11_setPrice_X11_noResource : GoodIn wsX11_setPrice wsX11_noResource := goodIn_r _ [7, 8, 9, 10, 6, 11, 16, 17, 18, 19, 20, 21, 22, 23, 24, 25, 26, 27, 28, 29, 30, 31, 32, 33, 34, 35, 36, 37, 38, 39, 40, 41, 42, 43, 44, 45, 46, 47, 48, 49] (by decide +kernel) (by decide +kernel)
set_option maxRecDepth 20000 in
theorem gX11_setPrice_X11_noResource : GoodIn wsX11_setPrice (wsV RX11 110 RX11 yX11_noResource wsX11_noResource) := goodIn_app (goodIn_of _ (by decide +kernel)) ggX11_setPrice_X11_noResource
set_option maxRecDepth 20000 in
theorem ggX11_setPrice_X11_fails : GoodIn wsX11_setPrice wsX11_fails := goodIn_r _ [15, 1, 16, 17, 18, 19, 20, 21, 22, 23, 24, 25, 26, 27, 28, 29, 30, 31, 32, 33, 34, 35, 36, 37, 38, 39, 40, 41, 42, 43, 44, 45, 46, 47, 48, 49] (by decide +kernel) (by decide +kernel)
set_option maxRecDepth 20000 in
theorem gX11_setPrice_X11_fails : GoodIn wsX11_setPrice (wsV RX11 106 RX11 yX11_fails wsX11_fails) := goodIn_app (goodIn_of _ (by decide +kernel)) ggX11_setPrice_X11_fails
set_option maxRecDepth 20000 in
theorem ggX11_setPrice_X11_in : GoodIn wsX11_setPrice wsX11_in := goodIn_r _ [11] (by decide +kernel) (by decide +kernel)
set_option maxRecDepth 20000 in
theorem gX11_setPrice_X11_in : GoodIn wsX11_setPrice (va_wsS RX11 93 yX11_in wsX11_in) := goodIn_app (goodIn_of _ (by decide +kernel)) ggX11_setPrice_X11_in
theorem dX11_setPrice_0 : decode cX11_setPrice 0 = .ok (.aload_n 0, 1) := by decide +kernel
theorem dX11_setPrice_1 : decode cX11_setPrice 1 = .ok (.iconst 0, 1) := by decide +kernel
theorem dX11_setPrice_2 : decode cX11_setPrice 2 = .ok (.putfield 86, 3) := by decide +kernel
theorem dX11_setPrice_5 : decode cX11_setPrice 5 = .ok (.aload_n 0, 1) := by decide +kernel
theorem dX11_setPrice_6 : decode cX11_setPrice 6 = .ok (.aload_n 0, 1) := by decide +kernel
theorem dX11_setPrice_7 : decode cX11_setPrice 7 = .ok (.iload_n 1, 1) := by decide +kernel
theorem dX11_setPrice_8 : decode cX11_setPrice 8 = .ok (.invokevirtual 110, 3) := by decide +kernel
theorem dX11_setPrice_11 : decode cX11_setPrice 11 = .ok (.iconst 1, 1) := by decide +kernel
theorem dX11_setPrice_12 : decode cX11_setPrice 12 = .ok (.invokevirtual 106, 3) := by decide +kernel
theorem dX11_setPrice_15 : decode cX11_setPrice 15 = .ok (.ifCond .ne 27, 3) := by decide +kernel
theorem dX11_setPrice_18 : decode cX11_setPrice 18 = .ok (.aload_n 0, 1) := by decide +kernel
theorem dX11_setPrice_19 : decode cX11_setPrice 19 = .ok (.iload_n 2, 1) := by decide +kernel
theorem dX11_setPrice_20 : decode cX11_setPrice 20 = .ok (.iconst 0, 1) := by decide +kernel
theorem dX11_setPrice_21 : decode cX11_setPrice 21 = .ok (.sipush 9999, 3) := by decide +kernel
theorem dX11_setPrice_24 : decode cX11_setPrice 24 = .ok (.invokestatic 93, 3) := by decide +kernel
theorem dX11_setPrice_27 : decode cX11_setPrice 27 = .ok (.ifCond .ne 7, 3) := by decide +kernel
theorem dX11_setPrice_30 : decode cX11_setPrice 30 = .ok (.iconst 1, 1) := by decide +kernel
theorem dX11_setPrice_31 : decode cX11_setPrice 31 = .ok (.goto 4, 3) := by decide +kernel
theorem dX11_setPrice_34 : decode cX11_setPrice 34 = .ok (.iconst 0, 1) := by decide +kernel
theorem dX11_setPrice_35 : decode cX11_setPrice 35 = .ok (.iconst 2, 1) := by decide +kernel
theorem dX11_setPrice_36 : decode cX11_setPrice 36 = .ok (.invokevirtual 106, 3) := by decide +kernel
theorem dX11_setPrice_39 : decode cX11_setPrice 39 = .ok (.ifCond .eq 5, 3) := by decide +kernel
theorem dX11_setPrice_42 : decode cX11_setPrice 42 = .ok (.iconst 0, 1) := by decide +kernel
theorem dX11_setPrice_43 : decode cX11_setPrice 43 = .ok (.ireturn, 1) := by decide +kernel
theorem dX11_setPrice_44 : decode cX11_setPrice 44 = .ok (.aload_n 0, 1) := by decide +kernel
theorem dX11_setPrice_45 : decode cX11_setPrice 45 = .ok (.getfield 13, 3) := by decide +kernel
theorem dX11_setPrice_48 : decode cX11_setPrice 48 = .ok (.iload_n 1, 1) := by decide +kernel
theorem dX11_setPrice_49 : decode cX11_setPrice 49 = .ok (.iaload, 1) := by decide +kernel
theorem dX11_setPrice_50 : decode cX11_setPrice 50 = .ok (.istore_n 3, 1) := by decide +kernel
theorem dX11_setPrice_51 : decode cX11_setPrice 51 = .ok (.aload_n 0, 1) := by decide +kernel
theorem dX11_setPrice_52 : decode cX11_setPrice 52 = .ok (.getfield 13, 3) := by decide +kernel
theorem dX11_setPrice_55 : decode cX11_setPrice 55 = .ok (.iload_n 1, 1) := by decide +kernel
theorem dX11_setPrice_56 : decode cX11_setPrice 56 = .ok (.iload_n 2, 1) := by decide +kernel
theorem dX11_setPrice_57 : decode cX11_setPrice 57 = .ok (.iastore, 1) := by decide +kernel
theorem dX11_setPrice_58 : decode cX11_setPrice 58 = .ok (.iload_n 3, 1) := by decide +kernel
theorem dX11_setPrice_59 : decode cX11_setPrice 59 = .ok (.ireturn, 1) := by decide +kernel
set_option maxRecDepth 20000 in
theorem ggX11_addCrew_X11_fails : GoodIn wsX11_addCrew wsX11_fails := goodIn_r _ [7, 1, 8, 9, 10, 11, 12, 13, 14, 15, 16, 17, 18, 19, 20, 21, 22, 23, 24, 25, 26, 27, 28, 29, 30, 31, 32, 33, 34, 35, 36, 37, 38, 39, 40, 41] (by decide +kernel) (by decide +kernel)
set_option maxRecDepth 20000 in
theorem gX11_addCrew_X11_fails : GoodIn wsX11_addCrew (wsV RX11 106 RX11 yX11_fails wsX11_fails) := goodIn_app (goodIn_of _ (by decide +kernel)) ggX11_addCrew_X11_fails
theorem dX11_addCrew_0 : decode cX11_addCrew 0 = .ok (.aload_n 0, 1) := by decide +kernel
theorem dX11_addCrew_1 : decode cX11_addCrew 1 = .ok (.iconst 0, 1) := by decide +kernel
theorem dX11_addCrew_2 : decode cX11_addCrew 2 = .ok (.putfield 86, 3) := by decide +kernel
theorem dX11_addCrew_5 : decode cX11_addCrew 5 = .ok (.aload_n 0, 1) := by decide +kernel
theorem dX11_addCrew_6 : decode cX11_addCrew 6 = .ok (.aload_n 0, 1) := by decide +kernel
theorem dX11_addCrew_7 : decode cX11_addCrew 7 = .ok (.getfield 114, 3) := by decide +kernel
theorem dX11_addCrew_10 : decode cX11_addCrew 10 = .ok (.iconst 4, 1) := by decide +kernel
theorem dX11_addCrew_11 : decode cX11_addCrew 11 = .ok (.if_icmp .ne 7, 3) := by decide +kernel
theorem dX11_addCrew_14 : decode cX11_addCrew 14 = .ok (.iconst 1, 1) := by decide +kernel
theorem dX11_addCrew_15 : decode cX11_addCrew 15 = .ok (.goto 4, 3) := by decide +kernel
theorem dX11_addCrew_18 : decode cX11_addCrew 18 = .ok (.iconst 0, 1) := by decide +kernel
theorem dX11_addCrew_19 : decode cX11_addCrew 19 = .ok (.iconst 1, 1) := by decide +kernel
theorem dX11_addCrew_20 : decode cX11_addCrew 20 = .ok (.invokevirtual 106, 3) := by decide +kernel
theorem dX11_addCrew_23 : decode cX11_addCrew 23 = .ok (.ifCond .eq 5, 3) := by decide +kernel
theorem dX11_addCrew_26 : decode cX11_addCrew 26 = .ok (.iconst 0, 1) := by decide +kernel
theorem dX11_addCrew_27 : decode cX11_addCrew 27 = .ok (.ireturn, 1) := by decide +kernel
theorem dX11_addCrew_28 : decode cX11_addCrew 28 = .ok (.aload_n 0, 1) := by decide +kernel
theorem dX11_addCrew_29 : decode cX11_addCrew 29 = .ok (.dup, 1) := by decide +kernel
theorem dX11_addCrew_30 : decode cX11_addCrew 30 = .ok (.getfield 114, 3) := by decide +kernel
theorem dX11_addCrew_33 : decode cX11_addCrew 33 = .ok (.iconst 1, 1) := by decide +kernel
theorem dX11_addCrew_34 : decode cX11_addCrew 34 = .ok (.iadd, 1) := by decide +kernel
theorem dX11_addCrew_35 : decode cX11_addCrew 35 = .ok (.putfield 114, 3) := by decide +kernel
theorem dX11_addCrew_38 : decode cX11_addCrew 38 = .ok (.aload_n 0, 1) := by decide +kernel
theorem dX11_addCrew_39 : decode cX11_addCrew 39 = .ok (.getfield 114, 3) := by decide +kernel
theorem dX11_addCrew_42 : decode cX11_addCrew 42 = .ok (.iconst 1, 1) := by decide +kernel
theorem dX11_addCrew_43 : decode cX11_addCrew 43 = .ok (.isub, 1) := by decide +kernel
theorem dX11_addCrew_44 : decode cX11_addCrew 44 = .ok (.ireturn, 1) := by decide +kernel
set_option maxRecDepth 20000 in
theorem ggX11_addMember_X11_in : GoodIn wsX11_addMember wsX11_in := goodIn_r _ [10] (by decide +kernel) (by decide +kernel)
set_option maxRecDepth 20000 in
theorem gX11_addMember_X11_in : GoodIn wsX11_addMember (va_wsS RX11 93 yX11_in wsX11_in) := goodIn_app (goodIn_of _ (by decide +kernel)) ggX11_addMember_X11_in
set_option maxRecDepth 20000 in
theorem ggX11_addMember_X11_noResource : GoodIn wsX11_addMember wsX11_noResource := goodIn_r _ [14, 15, 7, 8, 9, 10, 20, 21, 22, 23, 24, 25, 26, 27, 28, 29, 30, 31, 32, 33, 34, 35, 36, 37, 38, 39, 40, 41, 42, 43, 44, 45, 46, 47, 48, 49, 50, 51, 52, 53] (by decide +kernel) (by decide +kernel)
set_option maxRecDepth 20000 in
theorem gX11_addMember_X11_noResource : GoodIn wsX11_addMember (wsV RX11 110 RX11 yX11_noResource wsX11_noResource) := goodIn_app (goodIn_of _ (by decide +kernel)) ggX11_addMember_X11_noResource
set_option maxRecDepth 20000 in
theorem ggX11_addMember_X11_fails : GoodIn wsX11_addMember wsX11_fails := goodIn_r _ [19, 1, 20, 21, 22, 23, 24, 25, 26, 27, 28, 29, 30, 31, 32, 33, 34, 35, 36, 37, 38, 39, 40, 41, 42, 43, 44, 45, 46, 47, 48, 49, 50, 51, 52, 53] (by decide +kernel) (by decide +kernel)
set_option maxRecDepth 20000 in
theorem gX11_addMember_X11_fails : GoodIn wsX11_addMember (wsV RX11 106 RX11 yX11_fails wsX11_fails) := goodIn_app (goodIn_of _ (by decide +kernel)) ggX11_addMember_X11_fails
theorem dX11_addMember_0 : decode cX11_addMember 0 = .ok (.aload_n 0, 1) := by decide +kernel
theorem dX11_addMember_1 : decode cX11_addMember 1 = .ok (.iconst 0, 1) := by decide +kernel
theorem dX11_addMember_2 : decode cX11_addMember 2 = .ok (.putfield 86, 3) := by decide +kernel
theorem dX11_addMember_5 : decode cX11_addMember 5 = .ok (.aload_n 0, 1) := by decide +kernel
theorem dX11_addMember_6 : decode cX11_addMember 6 = .ok (.iload_n 1, 1) := by decide +kernel
theorem dX11_addMember_7 : decode cX11_addMember 7 = .ok (.iconst 0, 1) := by decide +kernel
theorem dX11_addMember_8 : decode cX11_addMember 8 = .ok (.aload_n 0, 1) := by decide +kernel
theorem dX11_addMember_9 : decode cX11_addMember 9 = .ok (.getfield 114, 3) := by decide +kernel
theorem dX11_addMember_12 : decode cX11_addMember 12 = .ok (.iconst 1, 1) := by decide +kernel
theorem dX11_addMember_13 : decode cX11_addMember 13 = .ok (.isub, 1) := by decide +kernel
theorem dX11_addMember_14 : decode cX11_addMember 14 = .ok (.invokestatic 93, 3) := by decide +kernel
theorem dX11_addMember_17 : decode cX11_addMember 17 = .ok (.ifCond .eq 11, 3) := by decide +kernel
theorem dX11_addMember_20 : decode cX11_addMember 20 = .ok (.aload_n 0, 1) := by decide +kernel
theorem dX11_addMember_21 : decode cX11_addMember 21 = .ok (.iload_n 2, 1) := by decide +kernel
theorem dX11_addMember_22 : decode cX11_addMember 22 = .ok (.invokevirtual 110, 3) := by decide +kernel
theorem dX11_addMember_25 : decode cX11_addMember 25 = .ok (.ifCond .eq 7, 3) := by decide +kernel
theorem dX11_addMember_28 : decode cX11_addMember 28 = .ok (.iconst 1, 1) := by decide +kernel
theorem dX11_addMember_29 : decode cX11_addMember 29 = .ok (.goto 4, 3) := by decide +kernel
theorem dX11_addMember_32 : decode cX11_addMember 32 = .ok (.iconst 0, 1) := by decide +kernel
theorem dX11_addMember_33 : decode cX11_addMember 33 = .ok (.iconst 1, 1) := by decide +kernel
theorem dX11_addMember_34 : decode cX11_addMember 34 = .ok (.invokevirtual 106, 3) := by decide +kernel
theorem dX11_addMember_37 : decode cX11_addMember 37 = .ok (.ifCond .ne 48, 3) := by decide +kernel
theorem dX11_addMember_40 : decode cX11_addMember 40 = .ok (.aload_n 0, 1) := by decide +kernel
theorem dX11_addMember_41 : decode cX11_addMember 41 = .ok (.iload_n 3, 1) := by decide +kernel
theorem dX11_addMember_42 : decode cX11_addMember 42 = .ok (.iconst 1, 1) := by decide +kernel
theorem dX11_addMember_43 : decode cX11_addMember 43 = .ok (.bipush 9, 2) := by decide +kernel
theorem dX11_addMember_45 : decode cX11_addMember 45 = .ok (.invokestatic 93, 3) := by decide +kernel
theorem dX11_addMember_48 : decode cX11_addMember 48 = .ok (.ifCond .ne 7, 3) := by decide +kernel
theorem dX11_addMember_51 : decode cX11_addMember 51 = .ok (.iconst 1, 1) := by decide +kernel
theorem dX11_addMember_52 : decode cX11_addMember 52 = .ok (.goto 4, 3) := by decide +kernel
theorem dX11_addMember_55 : decode cX11_addMember 55 = .ok (.iconst 0, 1) := by decide +kernel
theorem dX11_addMember_56 : decode cX11_addMember 56 = .ok (.iconst 2, 1) := by decide +kernel
theorem dX11_addMember_57 : decode cX11_addMember 57 = .ok (.invokevirtual 106, 3) := by decide +kernel
theorem dX11_addMember_60 : decode cX11_addMember 60 = .ok (.ifCond .ne 25, 3) := by decide +kernel
theorem dX11_addMember_63 : decode cX11_addMember 63 = .ok (.aload_n 0, 1) := by decide +kernel
theorem dX11_addMember_64 : decode cX11_addMember 64 = .ok (.aload_n 0, 1) := by decide +kernel
theorem dX11_addMember_65 : decode cX11_addMember 65 = .ok (.getfield 7, 3) := by decide +kernel
theorem dX11_addMember_68 : decode cX11_addMember 68 = .ok (.iload_n 2, 1) := by decide +kernel
theorem dX11_addMember_69 : decode cX11_addMember 69 = .ok (.iaload, 1) := by decide +kernel
theorem dX11_addMember_70 : decode cX11_addMember 70 = .ok (.ifCond .ne 7, 3) := by decide +kernel
theorem dX11_addMember_73 : decode cX11_addMember 73 = .ok (.iconst 1, 1) := by decide +kernel
theorem dX11_addMember_74 : decode cX11_addMember 74 = .ok (.goto 4, 3) := by decide +kernel
theorem dX11_addMember_77 : decode cX11_addMember 77 = .ok (.iconst 0, 1) := by decide +kernel
theorem dX11_addMember_78 : decode cX11_addMember 78 = .ok (.iconst 3, 1) := by decide +kernel
theorem dX11_addMember_79 : decode cX11_addMember 79 = .ok (.invokevirtual 106, 3) := by decide +kernel
theorem dX11_addMember_82 : decode cX11_addMember 82 = .ok (.ifCond .eq 5, 3) := by decide +kernel
theorem dX11_addMember_85 : decode cX11_addMember 85 = .ok (.iconst 0, 1) := by decide +kernel
theorem dX11_addMember_86 : decode cX11_addMember 86 = .ok (.ireturn, 1) := by decide +kernel
theorem dX11_addMember_87 : decode cX11_addMember 87 = .ok (.iconst 0, 1) := by decide +kernel
theorem dX11_addMember_88 : decode cX11_addMember 88 = .ok (.istore 4, 2) := by decide +kernel
theorem dX11_addMember_90 : decode cX11_addMember 90 = .ok (.iconst 0, 1) := by decide +kernel
theorem dX11_addMember_91 : decode cX11_addMember 91 = .ok (.istore 5, 2) := by decide +kernel
theorem dX11_addMember_93 : decode cX11_addMember 93 = .ok (.iload 5, 2) := by decide +kernel
theorem dX11_addMember_95 : decode cX11_addMember 95 = .ok (.aload_n 0, 1) := by decide +kernel
theorem dX11_addMember_96 : decode cX11_addMember 96 = .ok (.getfield 22, 3) := by decide +kernel
theorem dX11_addMember_99 : decode cX11_addMember 99 = .ok (.iload_n 1, 1) := by decide +kernel
theorem dX11_addMember_100 : decode cX11_addMember 100 = .ok (.iaload, 1) := by decide +kernel
theorem dX11_addMember_101 : decode cX11_addMember 101 = .ok (.if_icmp .ge 36, 3) := by decide +kernel
theorem dX11_addMember_104 : decode cX11_addMember 104 = .ok (.iload 4, 2) := by decide +kernel
theorem dX11_addMember_106 : decode cX11_addMember 106 = .ok (.ifCond .ne 18, 3) := by decide +kernel
theorem dX11_addMember_109 : decode cX11_addMember 109 = .ok (.aload_n 0, 1) := by decide +kernel
theorem dX11_addMember_110 : decode cX11_addMember 110 = .ok (.getfield 25, 3) := by decide +kernel
theorem dX11_addMember_113 : decode cX11_addMember 113 = .ok (.iconst 3, 1) := by decide +kernel
theorem dX11_addMember_114 : decode cX11_addMember 114 = .ok (.iload_n 1, 1) := by decide +kernel
theorem dX11_addMember_115 : decode cX11_addMember 115 = .ok (.imul, 1) := by decide +kernel
theorem dX11_addMember_116 : decode cX11_addMember 116 = .ok (.iload 5, 2) := by decide +kernel
theorem dX11_addMember_118 : decode cX11_addMember 118 = .ok (.iadd, 1) := by decide +kernel
theorem dX11_addMember_119 : decode cX11_addMember 119 = .ok (.iaload, 1) := by decide +kernel
theorem dX11_addMember_120 : decode cX11_addMember 120 = .ok (.iload_n 2, 1) := by decide +kernel
theorem dX11_addMember_121 : decode cX11_addMember 121 = .ok (.if_icmp .ne 7, 3) := by decide +kernel
theorem dX11_addMember_124 : decode cX11_addMember 124 = .ok (.iconst 1, 1) := by decide +kernel
theorem dX11_addMember_125 : decode cX11_addMember 125 = .ok (.goto 4, 3) := by decide +kernel
theorem dX11_addMember_128 : decode cX11_addMember 128 = .ok (.iconst 0, 1) := by decide +kernel
theorem dX11_addMember_129 : decode cX11_addMember 129 = .ok (.istore 4, 2) := by decide +kernel
theorem dX11_addMember_131 : decode cX11_addMember 131 = .ok (.iinc 5 1, 3) := by decide +kernel
theorem dX11_addMember_134 : decode cX11_addMember 134 = .ok (.goto (-41), 3) := by decide +kernel
theorem dX11_addMember_137 : decode cX11_addMember 137 = .ok (.aload_n 0, 1) := by decide +kernel
theorem dX11_addMember_138 : decode cX11_addMember 138 = .ok (.iload 4, 2) := by decide +kernel
theorem dX11_addMember_140 : decode cX11_addMember 140 = .ok (.ifCond .ne 13, 3) := by decide +kernel
theorem dX11_addMember_143 : decode cX11_addMember 143 = .ok (.aload_n 0, 1) := by decide +kernel
theorem dX11_addMember_144 : decode cX11_addMember 144 = .ok (.getfield 22, 3) := by decide +kernel
theorem dX11_addMember_147 : decode cX11_addMember 147 = .ok (.iload_n 1, 1) := by decide +kernel
theorem dX11_addMember_148 : decode cX11_addMember 148 = .ok (.iaload, 1) := by decide +kernel
theorem dX11_addMember_149 : decode cX11_addMember 149 = .ok (.iconst 3, 1) := by decide +kernel
theorem dX11_addMember_150 : decode cX11_addMember 150 = .ok (.if_icmp .ne 7, 3) := by decide +kernel
theorem dX11_addMember_153 : decode cX11_addMember 153 = .ok (.iconst 1, 1) := by decide +kernel
theorem dX11_addMember_154 : decode cX11_addMember 154 = .ok (.goto 4, 3) := by decide +kernel
theorem dX11_addMember_157 : decode cX11_addMember 157 = .ok (.iconst 0, 1) := by decide +kernel
theorem dX11_addMember_158 : decode cX11_addMember 158 = .ok (.iconst 4, 1) := by decide +kernel
theorem dX11_addMember_159 : decode cX11_addMember 159 = .ok (.invokevirtual 106, 3) := by decide +kernel
theorem dX11_addMember_162 : decode cX11_addMember 162 = .ok (.ifCond .eq 5, 3) := by decide +kernel
theorem dX11_addMember_165 : decode cX11_addMember 165 = .ok (.iconst 0, 1) := by decide +kernel
theorem dX11_addMember_166 : decode cX11_addMember 166 = .ok (.ireturn, 1) := by decide +kernel
theorem dX11_addMember_167 : decode cX11_addMember 167 = .ok (.aload_n 0, 1) := by decide +kernel
theorem dX11_addMember_168 : decode cX11_addMember 168 = .ok (.getfield 25, 3) := by decide +kernel
theorem dX11_addMember_171 : decode cX11_addMember 171 = .ok (.iconst 3, 1) := by decide +kernel
theorem dX11_addMember_172 : decode cX11_addMember 172 = .ok (.iload_n 1, 1) := by decide +kernel
theorem dX11_addMember_173 : decode cX11_addMember 173 = .ok (.imul, 1) := by decide +kernel
theorem dX11_addMember_174 : decode cX11_addMember 174 = .ok (.aload_n 0, 1) := by decide +kernel
theorem dX11_addMember_175 : decode cX11_addMember 175 = .ok (.getfield 22, 3) := by decide +kernel
theorem dX11_addMember_178 : decode cX11_addMember 178 = .ok (.iload_n 1, 1) := by decide +kernel
theorem dX11_addMember_179 : decode cX11_addMember 179 = .ok (.iaload, 1) := by decide +kernel
theorem dX11_addMember_180 : decode cX11_addMember 180 = .ok (.iadd, 1) := by decide +kernel
theorem dX11_addMember_181 : decode cX11_addMember 181 = .ok (.iload_n 2, 1) := by decide +kernel
theorem dX11_addMember_182 : decode cX11_addMember 182 = .ok (.iastore, 1) := by decide +kernel
theorem dX11_addMember_183 : decode cX11_addMember 183 = .ok (.aload_n 0, 1) := by decide +kernel
theorem dX11_addMember_184 : decode cX11_addMember 184 = .ok (.getfield 28, 3) := by decide +kernel
theorem dX11_addMember_187 : decode cX11_addMember 187 = .ok (.iconst 3, 1) := by decide +kernel
theorem dX11_addMember_188 : decode cX11_addMember 188 = .ok (.iload_n 1, 1) := by decide +kernel
theorem dX11_addMember_189 : decode cX11_addMember 189 = .ok (.imul, 1) := by decide +kernel
theorem dX11_addMember_190 : decode cX11_addMember 190 = .ok (.aload_n 0, 1) := by decide +kernel
theorem dX11_addMember_191 : decode cX11_addMember 191 = .ok (.getfield 22, 3) := by decide +kernel
theorem dX11_addMember_194 : decode cX11_addMember 194 = .ok (.iload_n 1, 1) := by decide +kernel
theorem dX11_addMember_195 : decode cX11_addMember 195 = .ok (.iaload, 1) := by decide +kernel
theorem dX11_addMember_196 : decode cX11_addMember 196 = .ok (.iadd, 1) := by decide +kernel
theorem dX11_addMember_197 : decode cX11_addMember 197 = .ok (.iload_n 3, 1) := by decide +kernel
theorem dX11_addMember_198 : decode cX11_addMember 198 = .ok (.iastore, 1) := by decide +kernel
theorem dX11_addMember_199 : decode cX11_addMember 199 = .ok (.aload_n 0, 1) := by decide +kernel
theorem dX11_addMember_200 : decode cX11_addMember 200 = .ok (.getfield 22, 3) := by decide +kernel
theorem dX11_addMember_203 : decode cX11_addMember 203 = .ok (.iload_n 1, 1) := by decide +kernel
theorem dX11_addMember_204 : decode cX11_addMember 204 = .ok (.dup2, 1) := by decide +kernel
theorem dX11_addMember_205 : decode cX11_addMember 205 = .ok (.iaload, 1) := by decide +kernel
theorem dX11_addMember_206 : decode cX11_addMember 206 = .ok (.iconst 1, 1) := by decide +kernel
theorem dX11_addMember_207 : decode cX11_addMember 207 = .ok (.iadd, 1) := by decide +kernel
theorem dX11_addMember_208 : decode cX11_addMember 208 = .ok (.iastore, 1) := by decide +kernel
theorem dX11_addMember_209 : decode cX11_addMember 209 = .ok (.aload_n 0, 1) := by decide +kernel
theorem dX11_addMember_210 : decode cX11_addMember 210 = .ok (.getfield 22, 3) := by decide +kernel
theorem dX11_addMember_213 : decode cX11_addMember 213 = .ok (.iload_n 1, 1) := by decide +kernel
theorem dX11_addMember_214 : decode cX11_addMember 214 = .ok (.iaload, 1) := by decide +kernel
theorem dX11_addMember_215 : decode cX11_addMember 215 = .ok (.ireturn, 1) := by decide +kernel
theorem dX11_meantItem_0 : decode cX11_meantItem 0 = .ok (.iconst 0, 1) := by decide +kernel
theorem dX11_meantItem_1 : decode cX11_meantItem 1 = .ok (.istore_n 2, 1) := by decide +kernel
theorem dX11_meantItem_2 : decode cX11_meantItem 2 = .ok (.iload_n 2, 1) := by decide +kernel
theorem dX11_meantItem_3 : decode cX11_meantItem 3 = .ok (.aload_n 0, 1) := by decide +kernel
theorem dX11_meantItem_4 : decode cX11_meantItem 4 = .ok (.getfield 103, 3) := by decide +kernel
theorem dX11_meantItem_7 : decode cX11_meantItem 7 = .ok (.if_icmp .ge 48, 3) := by decide +kernel
theorem dX11_meantItem_10 : decode cX11_meantItem 10 = .ok (.aload_n 0, 1) := by decide +kernel
theorem dX11_meantItem_11 : decode cX11_meantItem 11 = .ok (.getfield 117, 3) := by decide +kernel
theorem dX11_meantItem_14 : decode cX11_meantItem 14 = .ok (.iload_n 2, 1) := by decide +kernel
theorem dX11_meantItem_15 : decode cX11_meantItem 15 = .ok (.ishr, 1) := by decide +kernel
theorem dX11_meantItem_16 : decode cX11_meantItem 16 = .ok (.iconst 1, 1) := by decide +kernel
theorem dX11_meantItem_17 : decode cX11_meantItem 17 = .ok (.iand, 1) := by decide +kernel
theorem dX11_meantItem_18 : decode cX11_meantItem 18 = .ok (.iconst 1, 1) := by decide +kernel
theorem dX11_meantItem_19 : decode cX11_meantItem 19 = .ok (.if_icmp .ne 30, 3) := by decide +kernel
theorem dX11_meantItem_22 : decode cX11_meantItem 22 = .ok (.aload_n 0, 1) := by decide +kernel
theorem dX11_meantItem_23 : decode cX11_meantItem 23 = .ok (.getfield 55, 3) := by decide +kernel
theorem dX11_meantItem_26 : decode cX11_meantItem 26 = .ok (.bipush 12, 2) := by decide +kernel
theorem dX11_meantItem_28 : decode cX11_meantItem 28 = .ok (.iload_n 2, 1) := by decide +kernel
theorem dX11_meantItem_29 : decode cX11_meantItem 29 = .ok (.imul, 1) := by decide +kernel
theorem dX11_meantItem_30 : decode cX11_meantItem 30 = .ok (.iload_n 1, 1) := by decide +kernel
theorem dX11_meantItem_31 : decode cX11_meantItem 31 = .ok (.iadd, 1) := by decide +kernel
theorem dX11_meantItem_32 : decode cX11_meantItem 32 = .ok (.iaload, 1) := by decide +kernel
theorem dX11_meantItem_33 : decode cX11_meantItem 33 = .ok (.iconst (-1), 1) := by decide +kernel
theorem dX11_meantItem_34 : decode cX11_meantItem 34 = .ok (.if_icmp .eq 15, 3) := by decide +kernel
theorem dX11_meantItem_37 : decode cX11_meantItem 37 = .ok (.aload_n 0, 1) := by decide +kernel
theorem dX11_meantItem_38 : decode cX11_meantItem 38 = .ok (.getfield 55, 3) := by decide +kernel
theorem dX11_meantItem_41 : decode cX11_meantItem 41 = .ok (.bipush 12, 2) := by decide +kernel
theorem dX11_meantItem_43 : decode cX11_meantItem 43 = .ok (.iload_n 2, 1) := by decide +kernel
theorem dX11_meantItem_44 : decode cX11_meantItem 44 = .ok (.imul, 1) := by decide +kernel
theorem dX11_meantItem_45 : decode cX11_meantItem 45 = .ok (.iload_n 1, 1) := by decide +kernel
theorem dX11_meantItem_46 : decode cX11_meantItem 46 = .ok (.iadd, 1) := by decide +kernel
theorem dX11_meantItem_47 : decode cX11_meantItem 47 = .ok (.iaload, 1) := by decide +kernel
theorem dX11_meantItem_48 : decode cX11_meantItem 48 = .ok (.ireturn, 1) := by decide +kernel
theorem dX11_meantItem_49 : decode cX11_meantItem 49 = .ok (.iinc 2 1, 3) := by decide +kernel
theorem dX11_meantItem_52 : decode cX11_meantItem 52 = .ok (.goto (-50), 3) := by decide +kernel
theorem dX11_meantItem_55 : decode cX11_meantItem 55 = .ok (.iload_n 1, 1) := by decide +kernel
theorem dX11_meantItem_56 : decode cX11_meantItem 56 = .ok (.ireturn, 1) := by decide +kernel
theorem dX11_meantResource_0 : decode cX11_meantResource 0 = .ok (.iconst 0, 1) := by decide +kernel
theorem dX11_meantResource_1 : decode cX11_meantResource 1 = .ok (.istore_n 2, 1) := by decide +kernel
theorem dX11_meantResource_2 : decode cX11_meantResource 2 = .ok (.iload_n 2, 1) := by decide +kernel
theorem dX11_meantResource_3 : decode cX11_meantResource 3 = .ok (.aload_n 0, 1) := by decide +kernel
theorem dX11_meantResource_4 : decode cX11_meantResource 4 = .ok (.getfield 103, 3) := by decide +kernel
theorem dX11_meantResource_7 : decode cX11_meantResource 7 = .ok (.if_icmp .ge 48, 3) := by decide +kernel
theorem dX11_meantResource_10 : decode cX11_meantResource 10 = .ok (.aload_n 0, 1) := by decide +kernel
theorem dX11_meantResource_11 : decode cX11_meantResource 11 = .ok (.getfield 117, 3) := by decide +kernel
theorem dX11_meantResource_14 : decode cX11_meantResource 14 = .ok (.iload_n 2, 1) := by decide +kernel
theorem dX11_meantResource_15 : decode cX11_meantResource 15 = .ok (.ishr, 1) := by decide +kernel
theorem dX11_meantResource_16 : decode cX11_meantResource 16 = .ok (.iconst 1, 1) := by decide +kernel
theorem dX11_meantResource_17 : decode cX11_meantResource 17 = .ok (.iand, 1) := by decide +kernel
theorem dX11_meantResource_18 : decode cX11_meantResource 18 = .ok (.iconst 1, 1) := by decide +kernel
theorem dX11_meantResource_19 : decode cX11_meantResource 19 = .ok (.if_icmp .ne 30, 3) := by decide +kernel
theorem dX11_meantResource_22 : decode cX11_meantResource 22 = .ok (.aload_n 0, 1) := by decide +kernel
theorem dX11_meantResource_23 : decode cX11_meantResource 23 = .ok (.getfield 58, 3) := by decide +kernel
theorem dX11_meantResource_26 : decode cX11_meantResource 26 = .ok (.bipush 12, 2) := by decide +kernel
theorem dX11_meantResource_28 : decode cX11_meantResource 28 = .ok (.iload_n 2, 1) := by decide +kernel
theorem dX11_meantResource_29 : decode cX11_meantResource 29 = .ok (.imul, 1) := by decide +kernel
theorem dX11_meantResource_30 : decode cX11_meantResource 30 = .ok (.iload_n 1, 1) := by decide +kernel
theorem dX11_meantResource_31 : decode cX11_meantResource 31 = .ok (.iadd, 1) := by decide +kernel
theorem dX11_meantResource_32 : decode cX11_meantResource 32 = .ok (.iaload, 1) := by decide +kernel
theorem dX11_meantResource_33 : decode cX11_meantResource 33 = .ok (.iconst (-1), 1) := by decide +kernel
theorem dX11_meantResource_34 : decode cX11_meantResource 34 = .ok (.if_icmp .eq 15, 3) := by decide +kernel
theorem dX11_meantResource_37 : decode cX11_meantResource 37 = .ok (.aload_n 0, 1) := by decide +kernel
theorem dX11_meantResource_38 : decode cX11_meantResource 38 = .ok (.getfield 58, 3) := by decide +kernel
theorem dX11_meantResource_41 : decode cX11_meantResource 41 = .ok (.bipush 12, 2) := by decide +kernel
theorem dX11_meantResource_43 : decode cX11_meantResource 43 = .ok (.iload_n 2, 1) := by decide +kernel
theorem dX11_meantResource_44 : decode cX11_meantResource 44 = .ok (.imul, 1) := by decide +kernel
theorem dX11_meantResource_45 : decode cX11_meantResource 45 = .ok (.iload_n 1, 1) := by decide +kernel
theorem dX11_meantResource_46 : decode cX11_meantResource 46 = .ok (.iadd, 1) := by decide +kernel
theorem dX11_meantResource_47 : decode cX11_meantResource 47 = .ok (.iaload, 1) := by decide +kernel
theorem dX11_meantResource_48 : decode cX11_meantResource 48 = .ok (.ireturn, 1) := by decide +kernel
theorem dX11_meantResource_49 : decode cX11_meantResource 49 = .ok (.iinc 2 1, 3) := by decide +kernel
theorem dX11_meantResource_52 : decode cX11_meantResource 52 = .ok (.goto (-50), 3) := by decide +kernel
theorem dX11_meantResource_55 : decode cX11_meantResource 55 = .ok (.iload_n 1, 1) := by decide +kernel
theorem dX11_meantResource_56 : decode cX11_meantResource 56 = .ok (.ireturn, 1) := by decide +kernel
set_option maxRecDepth 20000 in
theorem ggX11_findDepths_X11_meantItem : GoodIn wsX11_findDepths wsX11_meantItem := goodIn_ca (goodIn_r _ [11, 12, 13, 14, 15, 16, 17, 18, 19, 20, 21, 22, 23, 24, 25, 26, 27, 28, 29, 30, 31, 32, 33, 34, 35, 36, 37, 38, 39, 40, 41, 42, 43, 44, 45, 46, 47, 48] (by decide +kernel) (by decide +kernel)) (goodIn_sub (fun _ h => List.mem_cons_of_mem _ (List.mem_append_right _ h)) (by decide +kernel))
set_option maxRecDepth 20000 in
theorem gX11_findDepths_X11_meantItem : GoodIn wsX11_findDepths (wsV RX11 120 RX11 yX11_meantItem wsX11_meantItem) := goodIn_app (goodIn_of _ (by decide +kernel)) ggX11_findDepths_X11_meantItem
theorem dX11_findDepths_0 : decode cX11_findDepths 0 = .ok (.iconst 0, 1) := by decide +kernel
theorem dX11_findDepths_1 : decode cX11_findDepths 1 = .ok (.istore_n 1, 1) := by decide +kernel
theorem dX11_findDepths_2 : decode cX11_findDepths 2 = .ok (.iload_n 1, 1) := by decide +kernel
theorem dX11_findDepths_3 : decode cX11_findDepths 3 = .ok (.aload_n 0, 1) := by decide +kernel
theorem dX11_findDepths_4 : decode cX11_findDepths 4 = .ok (.getfield 97, 3) := by decide +kernel
theorem dX11_findDepths_7 : decode cX11_findDepths 7 = .ok (.if_icmp .ge 16, 3) := by decide +kernel
theorem dX11_findDepths_10 : decode cX11_findDepths 10 = .ok (.aload_n 0, 1) := by decide +kernel
theorem dX11_findDepths_11 : decode cX11_findDepths 11 = .ok (.getfield 74, 3) := by decide +kernel
theorem dX11_findDepths_14 : decode cX11_findDepths 14 = .ok (.iload_n 1, 1) := by decide +kernel
theorem dX11_findDepths_15 : decode cX11_findDepths 15 = .ok (.iconst 1, 1) := by decide +kernel
theorem dX11_findDepths_16 : decode cX11_findDepths 16 = .ok (.iastore, 1) := by decide +kernel
theorem dX11_findDepths_17 : decode cX11_findDepths 17 = .ok (.iinc 1 1, 3) := by decide +kernel
theorem dX11_findDepths_20 : decode cX11_findDepths 20 = .ok (.goto (-18), 3) := by decide +kernel
theorem dX11_findDepths_23 : decode cX11_findDepths 23 = .ok (.iconst 0, 1) := by decide +kernel
theorem dX11_findDepths_24 : decode cX11_findDepths 24 = .ok (.istore_n 1, 1) := by decide +kernel
theorem dX11_findDepths_25 : decode cX11_findDepths 25 = .ok (.iload_n 1, 1) := by decide +kernel
theorem dX11_findDepths_26 : decode cX11_findDepths 26 = .ok (.iconst 3, 1) := by decide +kernel
theorem dX11_findDepths_27 : decode cX11_findDepths 27 = .ok (.if_icmp .ge 148, 3) := by decide +kernel
theorem dX11_findDepths_30 : decode cX11_findDepths 30 = .ok (.iconst 0, 1) := by decide +kernel
theorem dX11_findDepths_31 : decode cX11_findDepths 31 = .ok (.istore_n 2, 1) := by decide +kernel
theorem dX11_findDepths_32 : decode cX11_findDepths 32 = .ok (.iload_n 2, 1) := by decide +kernel
theorem dX11_findDepths_33 : decode cX11_findDepths 33 = .ok (.aload_n 0, 1) := by decide +kernel
theorem dX11_findDepths_34 : decode cX11_findDepths 34 = .ok (.getfield 97, 3) := by decide +kernel
theorem dX11_findDepths_37 : decode cX11_findDepths 37 = .ok (.if_icmp .ge 103, 3) := by decide +kernel
theorem dX11_findDepths_40 : decode cX11_findDepths 40 = .ok (.aload_n 0, 1) := by decide +kernel
theorem dX11_findDepths_41 : decode cX11_findDepths 41 = .ok (.getfield 83, 3) := by decide +kernel
theorem dX11_findDepths_44 : decode cX11_findDepths 44 = .ok (.iload_n 2, 1) := by decide +kernel
theorem dX11_findDepths_45 : decode cX11_findDepths 45 = .ok (.lconst 1, 1) := by decide +kernel
theorem dX11_findDepths_46 : decode cX11_findDepths 46 = .ok (.lastore, 1) := by decide +kernel
theorem dX11_findDepths_47 : decode cX11_findDepths 47 = .ok (.iconst 4, 1) := by decide +kernel
theorem dX11_findDepths_48 : decode cX11_findDepths 48 = .ok (.iload_n 2, 1) := by decide +kernel
theorem dX11_findDepths_49 : decode cX11_findDepths 49 = .ok (.imul, 1) := by decide +kernel
theorem dX11_findDepths_50 : decode cX11_findDepths 50 = .ok (.istore_n 3, 1) := by decide +kernel
theorem dX11_findDepths_51 : decode cX11_findDepths 51 = .ok (.iload_n 3, 1) := by decide +kernel
theorem dX11_findDepths_52 : decode cX11_findDepths 52 = .ok (.iconst 4, 1) := by decide +kernel
theorem dX11_findDepths_53 : decode cX11_findDepths 53 = .ok (.iload_n 2, 1) := by decide +kernel
theorem dX11_findDepths_54 : decode cX11_findDepths 54 = .ok (.imul, 1) := by decide +kernel
theorem dX11_findDepths_55 : decode cX11_findDepths 55 = .ok (.aload_n 0, 1) := by decide +kernel
theorem dX11_findDepths_56 : decode cX11_findDepths 56 = .ok (.getfield 34, 3) := by decide +kernel
theorem dX11_findDepths_59 : decode cX11_findDepths 59 = .ok (.iload_n 2, 1) := by decide +kernel
theorem dX11_findDepths_60 : decode cX11_findDepths 60 = .ok (.iaload, 1) := by decide +kernel
theorem dX11_findDepths_61 : decode cX11_findDepths 61 = .ok (.iadd, 1) := by decide +kernel
theorem dX11_findDepths_62 : decode cX11_findDepths 62 = .ok (.if_icmp .ge 72, 3) := by decide +kernel
theorem dX11_findDepths_65 : decode cX11_findDepths 65 = .ok (.aload_n 0, 1) := by decide +kernel
theorem dX11_findDepths_66 : decode cX11_findDepths 66 = .ok (.getfield 37, 3) := by decide +kernel
theorem dX11_findDepths_69 : decode cX11_findDepths 69 = .ok (.iload_n 3, 1) := by decide +kernel
theorem dX11_findDepths_70 : decode cX11_findDepths 70 = .ok (.iaload, 1) := by decide +kernel
theorem dX11_findDepths_71 : decode cX11_findDepths 71 = .ok (.ifCond .ne 23, 3) := by decide +kernel
theorem dX11_findDepths_74 : decode cX11_findDepths 74 = .ok (.iconst 1, 1) := by decide +kernel
theorem dX11_findDepths_75 : decode cX11_findDepths 75 = .ok (.aload_n 0, 1) := by decide +kernel
theorem dX11_findDepths_76 : decode cX11_findDepths 76 = .ok (.getfield 74, 3) := by decide +kernel
theorem dX11_findDepths_79 : decode cX11_findDepths 79 = .ok (.aload_n 0, 1) := by decide +kernel
theorem dX11_findDepths_80 : decode cX11_findDepths 80 = .ok (.aload_n 0, 1) := by decide +kernel
theorem dX11_findDepths_81 : decode cX11_findDepths 81 = .ok (.getfield 40, 3) := by decide +kernel
theorem dX11_findDepths_84 : decode cX11_findDepths 84 = .ok (.iload_n 3, 1) := by decide +kernel
theorem dX11_findDepths_85 : decode cX11_findDepths 85 = .ok (.iaload, 1) := by decide +kernel
theorem dX11_findDepths_86 : decode cX11_findDepths 86 = .ok (.invokevirtual 120, 3) := by decide +kernel
theorem dX11_findDepths_89 : decode cX11_findDepths 89 = .ok (.iaload, 1) := by decide +kernel
theorem dX11_findDepths_90 : decode cX11_findDepths 90 = .ok (.iadd, 1) := by decide +kernel
theorem dX11_findDepths_91 : decode cX11_findDepths 91 = .ok (.goto 4, 3) := by decide +kernel
theorem dX11_findDepths_94 : decode cX11_findDepths 94 = .ok (.iconst 1, 1) := by decide +kernel
theorem dX11_findDepths_95 : decode cX11_findDepths 95 = .ok (.istore 4, 2) := by decide +kernel
theorem dX11_findDepths_97 : decode cX11_findDepths 97 = .ok (.aload_n 0, 1) := by decide +kernel
theorem dX11_findDepths_98 : decode cX11_findDepths 98 = .ok (.getfield 83, 3) := by decide +kernel
theorem dX11_findDepths_101 : decode cX11_findDepths 101 = .ok (.iload_n 2, 1) := by decide +kernel
theorem dX11_findDepths_102 : decode cX11_findDepths 102 = .ok (.iload 4, 2) := by decide +kernel
theorem dX11_findDepths_104 : decode cX11_findDepths 104 = .ok (.i2l, 1) := by decide +kernel
theorem dX11_findDepths_105 : decode cX11_findDepths 105 = .ok (.aload_n 0, 1) := by decide +kernel
theorem dX11_findDepths_106 : decode cX11_findDepths 106 = .ok (.getfield 83, 3) := by decide +kernel
theorem dX11_findDepths_109 : decode cX11_findDepths 109 = .ok (.iload_n 2, 1) := by decide +kernel
theorem dX11_findDepths_110 : decode cX11_findDepths 110 = .ok (.laload, 1) := by decide +kernel
theorem dX11_findDepths_111 : decode cX11_findDepths 111 = .ok (.lcmp, 1) := by decide +kernel
theorem dX11_findDepths_112 : decode cX11_findDepths 112 = .ok (.ifCond .le 9, 3) := by decide +kernel
theorem dX11_findDepths_115 : decode cX11_findDepths 115 = .ok (.iload 4, 2) := by decide +kernel
theorem dX11_findDepths_117 : decode cX11_findDepths 117 = .ok (.i2l, 1) := by decide +kernel
theorem dX11_findDepths_118 : decode cX11_findDepths 118 = .ok (.goto 9, 3) := by decide +kernel
theorem dX11_findDepths_121 : decode cX11_findDepths 121 = .ok (.aload_n 0, 1) := by decide +kernel
theorem dX11_findDepths_122 : decode cX11_findDepths 122 = .ok (.getfield 83, 3) := by decide +kernel
theorem dX11_findDepths_125 : decode cX11_findDepths 125 = .ok (.iload_n 2, 1) := by decide +kernel
theorem dX11_findDepths_126 : decode cX11_findDepths 126 = .ok (.laload, 1) := by decide +kernel
theorem dX11_findDepths_127 : decode cX11_findDepths 127 = .ok (.lastore, 1) := by decide +kernel
theorem dX11_findDepths_128 : decode cX11_findDepths 128 = .ok (.iinc 3 1, 3) := by decide +kernel
theorem dX11_findDepths_131 : decode cX11_findDepths 131 = .ok (.goto (-80), 3) := by decide +kernel
theorem dX11_findDepths_134 : decode cX11_findDepths 134 = .ok (.iinc 2 1, 3) := by decide +kernel
theorem dX11_findDepths_137 : decode cX11_findDepths 137 = .ok (.goto (-105), 3) := by decide +kernel
theorem dX11_findDepths_140 : decode cX11_findDepths 140 = .ok (.iconst 0, 1) := by decide +kernel
theorem dX11_findDepths_141 : decode cX11_findDepths 141 = .ok (.istore_n 2, 1) := by decide +kernel
theorem dX11_findDepths_142 : decode cX11_findDepths 142 = .ok (.iload_n 2, 1) := by decide +kernel
theorem dX11_findDepths_143 : decode cX11_findDepths 143 = .ok (.aload_n 0, 1) := by decide +kernel
theorem dX11_findDepths_144 : decode cX11_findDepths 144 = .ok (.getfield 97, 3) := by decide +kernel
theorem dX11_findDepths_147 : decode cX11_findDepths 147 = .ok (.if_icmp .ge 22, 3) := by decide +kernel
theorem dX11_findDepths_150 : decode cX11_findDepths 150 = .ok (.aload_n 0, 1) := by decide +kernel
theorem dX11_findDepths_151 : decode cX11_findDepths 151 = .ok (.getfield 74, 3) := by decide +kernel
theorem dX11_findDepths_154 : decode cX11_findDepths 154 = .ok (.iload_n 2, 1) := by decide +kernel
theorem dX11_findDepths_155 : decode cX11_findDepths 155 = .ok (.aload_n 0, 1) := by decide +kernel
theorem dX11_findDepths_156 : decode cX11_findDepths 156 = .ok (.getfield 83, 3) := by decide +kernel
theorem dX11_findDepths_159 : decode cX11_findDepths 159 = .ok (.iload_n 2, 1) := by decide +kernel
theorem dX11_findDepths_160 : decode cX11_findDepths 160 = .ok (.laload, 1) := by decide +kernel
theorem dX11_findDepths_161 : decode cX11_findDepths 161 = .ok (.l2i, 1) := by decide +kernel
theorem dX11_findDepths_162 : decode cX11_findDepths 162 = .ok (.iastore, 1) := by decide +kernel
theorem dX11_findDepths_163 : decode cX11_findDepths 163 = .ok (.iinc 2 1, 3) := by decide +kernel
theorem dX11_findDepths_166 : decode cX11_findDepths 166 = .ok (.goto (-24), 3) := by decide +kernel
theorem dX11_findDepths_169 : decode cX11_findDepths 169 = .ok (.iinc 1 1, 3) := by decide +kernel
theorem dX11_findDepths_172 : decode cX11_findDepths 172 = .ok (.goto (-147), 3) := by decide +kernel
theorem dX11_findDepths_175 : decode cX11_findDepths 175 = .ok (.return_, 1) := by decide +kernel
set_option maxRecDepth 20000 in
theorem ggX11_isAllowed_X11_findDepths : GoodIn wsX11_isAllowed wsX11_findDepths := goodIn_ca (goodIn_r _ [7, 1, 2, 8, 9, 10, 11, 12, 13, 14, 6, 15, 16, 17, 18, 19, 20, 21, 22, 23, 24, 25, 26, 27, 28, 29, 30, 31, 32, 33, 34, 35, 36, 37, 38, 39, 40, 41, 42, 43, 44, 45, 46, 47, 48, 49, 50, 51, 52] (by decide +kernel) (by decide +kernel)) (goodIn_sub (fun _ h => List.mem_cons_of_mem _ (List.mem_append_right _ h)) (by decide +kernel))
set_option maxRecDepth 20000 in
theorem gX11_isAllowed_X11_findDepths : GoodIn wsX11_isAllowed (wsV RX11 124 RX11 yX11_findDepths wsX11_findDepths) := goodIn_app (goodIn_of _ (by decide +kernel)) ggX11_isAllowed_X11_findDepths
theorem dX11_isAllowed_0 : decode cX11_isAllowed 0 = .ok (.iconst 1, 1) := by decide +kernel
theorem dX11_isAllowed_1 : decode cX11_isAllowed 1 = .ok (.istore_n 1, 1) := by decide +kernel
theorem dX11_isAllowed_2 : decode cX11_isAllowed 2 = .ok (.aload_n 0, 1) := by decide +kernel
theorem dX11_isAllowed_3 : decode cX11_isAllowed 3 = .ok (.invokevirtual 124, 3) := by decide +kernel
theorem dX11_isAllowed_6 : decode cX11_isAllowed 6 = .ok (.iconst 0, 1) := by decide +kernel
theorem dX11_isAllowed_7 : decode cX11_isAllowed 7 = .ok (.istore_n 2, 1) := by decide +kernel
theorem dX11_isAllowed_8 : decode cX11_isAllowed 8 = .ok (.iload_n 2, 1) := by decide +kernel
theorem dX11_isAllowed_9 : decode cX11_isAllowed 9 = .ok (.aload_n 0, 1) := by decide +kernel
theorem dX11_isAllowed_10 : decode cX11_isAllowed 10 = .ok (.getfield 97, 3) := by decide +kernel
theorem dX11_isAllowed_13 : decode cX11_isAllowed 13 = .ok (.if_icmp .ge 29, 3) := by decide +kernel
theorem dX11_isAllowed_16 : decode cX11_isAllowed 16 = .ok (.iload_n 1, 1) := by decide +kernel
theorem dX11_isAllowed_17 : decode cX11_isAllowed 17 = .ok (.ifCond .eq 25, 3) := by decide +kernel
theorem dX11_isAllowed_20 : decode cX11_isAllowed 20 = .ok (.aload_n 0, 1) := by decide +kernel
theorem dX11_isAllowed_21 : decode cX11_isAllowed 21 = .ok (.getfield 74, 3) := by decide +kernel
theorem dX11_isAllowed_24 : decode cX11_isAllowed 24 = .ok (.iload_n 2, 1) := by decide +kernel
theorem dX11_isAllowed_25 : decode cX11_isAllowed 25 = .ok (.iaload, 1) := by decide +kernel
theorem dX11_isAllowed_26 : decode cX11_isAllowed 26 = .ok (.iconst 3, 1) := by decide +kernel
theorem dX11_isAllowed_27 : decode cX11_isAllowed 27 = .ok (.if_icmp .gt 7, 3) := by decide +kernel
theorem dX11_isAllowed_30 : decode cX11_isAllowed 30 = .ok (.iconst 1, 1) := by decide +kernel
theorem dX11_isAllowed_31 : decode cX11_isAllowed 31 = .ok (.goto 4, 3) := by decide +kernel
theorem dX11_isAllowed_34 : decode cX11_isAllowed 34 = .ok (.iconst 0, 1) := by decide +kernel
theorem dX11_isAllowed_35 : decode cX11_isAllowed 35 = .ok (.istore_n 1, 1) := by decide +kernel
theorem dX11_isAllowed_36 : decode cX11_isAllowed 36 = .ok (.iinc 2 1, 3) := by decide +kernel
theorem dX11_isAllowed_39 : decode cX11_isAllowed 39 = .ok (.goto (-31), 3) := by decide +kernel
theorem dX11_isAllowed_42 : decode cX11_isAllowed 42 = .ok (.iload_n 1, 1) := by decide +kernel
theorem dX11_isAllowed_43 : decode cX11_isAllowed 43 = .ok (.ireturn, 1) := by decide +kernel
set_option maxRecDepth 20000 in
theorem ggX11_addItem_X11_in : GoodIn wsX11_addItem wsX11_in := goodIn_r _ [8] (by decide +kernel) (by decide +kernel)
set_option maxRecDepth 20000 in
theorem gX11_addItem_X11_in : GoodIn wsX11_addItem (va_wsS RX11 93 yX11_in wsX11_in) := goodIn_app (goodIn_of _ (by decide +kernel)) ggX11_addItem_X11_in
set_option maxRecDepth 20000 in
theorem ggX11_addItem_X11_fails : GoodIn wsX11_addItem wsX11_fails := goodIn_r _ [12, 1, 13, 14, 15, 16, 17, 18, 19, 20, 21, 22, 23, 24, 25, 26, 27, 28, 29, 30, 31, 32, 33, 34, 35, 36, 37, 38, 39, 40, 41, 42, 43, 44, 45, 46] (by decide +kernel) (by decide +kernel)
set_option maxRecDepth 20000 in
theorem gX11_addItem_X11_fails : GoodIn wsX11_addItem (wsV RX11 106 RX11 yX11_fails wsX11_fails) := goodIn_app (goodIn_of _ (by decide +kernel)) ggX11_addItem_X11_fails
theorem dX11_addItem_0 : decode cX11_addItem 0 = .ok (.aload_n 0, 1) := by decide +kernel
theorem dX11_addItem_1 : decode cX11_addItem 1 = .ok (.iconst 0, 1) := by decide +kernel
theorem dX11_addItem_2 : decode cX11_addItem 2 = .ok (.putfield 86, 3) := by decide +kernel
theorem dX11_addItem_5 : decode cX11_addItem 5 = .ok (.aload_n 0, 1) := by decide +kernel
theorem dX11_addItem_6 : decode cX11_addItem 6 = .ok (.iload_n 1, 1) := by decide +kernel
theorem dX11_addItem_7 : decode cX11_addItem 7 = .ok (.iconst 0, 1) := by decide +kernel
theorem dX11_addItem_8 : decode cX11_addItem 8 = .ok (.iconst 5, 1) := by decide +kernel
theorem dX11_addItem_9 : decode cX11_addItem 9 = .ok (.invokestatic 93, 3) := by decide +kernel
theorem dX11_addItem_12 : decode cX11_addItem 12 = .ok (.ifCond .ne 7, 3) := by decide +kernel
theorem dX11_addItem_15 : decode cX11_addItem 15 = .ok (.iconst 1, 1) := by decide +kernel
theorem dX11_addItem_16 : decode cX11_addItem 16 = .ok (.goto 4, 3) := by decide +kernel
theorem dX11_addItem_19 : decode cX11_addItem 19 = .ok (.iconst 0, 1) := by decide +kernel
theorem dX11_addItem_20 : decode cX11_addItem 20 = .ok (.iconst 1, 1) := by decide +kernel
theorem dX11_addItem_21 : decode cX11_addItem 21 = .ok (.invokevirtual 106, 3) := by decide +kernel
theorem dX11_addItem_24 : decode cX11_addItem 24 = .ok (.ifCond .ne 25, 3) := by decide +kernel
theorem dX11_addItem_27 : decode cX11_addItem 27 = .ok (.aload_n 0, 1) := by decide +kernel
theorem dX11_addItem_28 : decode cX11_addItem 28 = .ok (.aload_n 0, 1) := by decide +kernel
theorem dX11_addItem_29 : decode cX11_addItem 29 = .ok (.getfield 97, 3) := by decide +kernel
theorem dX11_addItem_32 : decode cX11_addItem 32 = .ok (.bipush 12, 2) := by decide +kernel
theorem dX11_addItem_34 : decode cX11_addItem 34 = .ok (.if_icmp .ne 7, 3) := by decide +kernel
theorem dX11_addItem_37 : decode cX11_addItem 37 = .ok (.iconst 1, 1) := by decide +kernel
theorem dX11_addItem_38 : decode cX11_addItem 38 = .ok (.goto 4, 3) := by decide +kernel
theorem dX11_addItem_41 : decode cX11_addItem 41 = .ok (.iconst 0, 1) := by decide +kernel
theorem dX11_addItem_42 : decode cX11_addItem 42 = .ok (.iconst 2, 1) := by decide +kernel
theorem dX11_addItem_43 : decode cX11_addItem 43 = .ok (.invokevirtual 106, 3) := by decide +kernel
theorem dX11_addItem_46 : decode cX11_addItem 46 = .ok (.ifCond .eq 5, 3) := by decide +kernel
theorem dX11_addItem_49 : decode cX11_addItem 49 = .ok (.iconst 0, 1) := by decide +kernel
theorem dX11_addItem_50 : decode cX11_addItem 50 = .ok (.ireturn, 1) := by decide +kernel
theorem dX11_addItem_51 : decode cX11_addItem 51 = .ok (.aload_n 0, 1) := by decide +kernel
theorem dX11_addItem_52 : decode cX11_addItem 52 = .ok (.getfield 31, 3) := by decide +kernel
theorem dX11_addItem_55 : decode cX11_addItem 55 = .ok (.aload_n 0, 1) := by decide +kernel
theorem dX11_addItem_56 : decode cX11_addItem 56 = .ok (.getfield 97, 3) := by decide +kernel
theorem dX11_addItem_59 : decode cX11_addItem 59 = .ok (.iload_n 1, 1) := by decide +kernel
theorem dX11_addItem_60 : decode cX11_addItem 60 = .ok (.iastore, 1) := by decide +kernel
theorem dX11_addItem_61 : decode cX11_addItem 61 = .ok (.aload_n 0, 1) := by decide +kernel
theorem dX11_addItem_62 : decode cX11_addItem 62 = .ok (.getfield 34, 3) := by decide +kernel
theorem dX11_addItem_65 : decode cX11_addItem 65 = .ok (.aload_n 0, 1) := by decide +kernel
theorem dX11_addItem_66 : decode cX11_addItem 66 = .ok (.getfield 97, 3) := by decide +kernel
theorem dX11_addItem_69 : decode cX11_addItem 69 = .ok (.iconst 0, 1) := by decide +kernel
theorem dX11_addItem_70 : decode cX11_addItem 70 = .ok (.iastore, 1) := by decide +kernel
theorem dX11_addItem_71 : decode cX11_addItem 71 = .ok (.aload_n 0, 1) := by decide +kernel
theorem dX11_addItem_72 : decode cX11_addItem 72 = .ok (.dup, 1) := by decide +kernel
theorem dX11_addItem_73 : decode cX11_addItem 73 = .ok (.getfield 97, 3) := by decide +kernel
theorem dX11_addItem_76 : decode cX11_addItem 76 = .ok (.iconst 1, 1) := by decide +kernel
theorem dX11_addItem_77 : decode cX11_addItem 77 = .ok (.iadd, 1) := by decide +kernel
theorem dX11_addItem_78 : decode cX11_addItem 78 = .ok (.putfield 97, 3) := by decide +kernel
theorem dX11_addItem_81 : decode cX11_addItem 81 = .ok (.aload_n 0, 1) := by decide +kernel
theorem dX11_addItem_82 : decode cX11_addItem 82 = .ok (.getfield 97, 3) := by decide +kernel
theorem dX11_addItem_85 : decode cX11_addItem 85 = .ok (.iconst 1, 1) := by decide +kernel
theorem dX11_addItem_86 : decode cX11_addItem 86 = .ok (.isub, 1) := by decide +kernel
theorem dX11_addItem_87 : decode cX11_addItem 87 = .ok (.ireturn, 1) := by decide +kernel
theorem dX11_add_0 : decode cX11_add 0 = .ok (.iconst 4, 1) := by decide +kernel
theorem dX11_add_1 : decode cX11_add 1 = .ok (.iload_n 1, 1) := by decide +kernel
theorem dX11_add_2 : decode cX11_add 2 = .ok (.imul, 1) := by decide +kernel
theorem dX11_add_3 : decode cX11_add 3 = .ok (.aload_n 0, 1) := by decide +kernel
theorem dX11_add_4 : decode cX11_add 4 = .ok (.getfield 34, 3) := by decide +kernel
theorem dX11_add_7 : decode cX11_add 7 = .ok (.iload_n 1, 1) := by decide +kernel
theorem dX11_add_8 : decode cX11_add 8 = .ok (.iaload, 1) := by decide +kernel
theorem dX11_add_9 : decode cX11_add 9 = .ok (.iadd, 1) := by decide +kernel
theorem dX11_add_10 : decode cX11_add 10 = .ok (.istore 5, 2) := by decide +kernel
theorem dX11_add_12 : decode cX11_add 12 = .ok (.aload_n 0, 1) := by decide +kernel
theorem dX11_add_13 : decode cX11_add 13 = .ok (.getfield 37, 3) := by decide +kernel
theorem dX11_add_16 : decode cX11_add 16 = .ok (.iload 5, 2) := by decide +kernel
theorem dX11_add_18 : decode cX11_add 18 = .ok (.iload_n 2, 1) := by decide +kernel
theorem dX11_add_19 : decode cX11_add 19 = .ok (.iastore, 1) := by decide +kernel
theorem dX11_add_20 : decode cX11_add 20 = .ok (.aload_n 0, 1) := by decide +kernel
theorem dX11_add_21 : decode cX11_add 21 = .ok (.getfield 40, 3) := by decide +kernel
theorem dX11_add_24 : decode cX11_add 24 = .ok (.iload 5, 2) := by decide +kernel
theorem dX11_add_26 : decode cX11_add 26 = .ok (.iload_n 3, 1) := by decide +kernel
theorem dX11_add_27 : decode cX11_add 27 = .ok (.iastore, 1) := by decide +kernel
theorem dX11_add_28 : decode cX11_add 28 = .ok (.aload_n 0, 1) := by decide +kernel
theorem dX11_add_29 : decode cX11_add 29 = .ok (.getfield 43, 3) := by decide +kernel
theorem dX11_add_32 : decode cX11_add 32 = .ok (.iload 5, 2) := by decide +kernel
theorem dX11_add_34 : decode cX11_add 34 = .ok (.iload 4, 2) := by decide +kernel
theorem dX11_add_36 : decode cX11_add 36 = .ok (.iastore, 1) := by decide +kernel
theorem dX11_add_37 : decode cX11_add 37 = .ok (.aload_n 0, 1) := by decide +kernel
theorem dX11_add_38 : decode cX11_add 38 = .ok (.getfield 34, 3) := by decide +kernel
theorem dX11_add_41 : decode cX11_add 41 = .ok (.iload_n 1, 1) := by decide +kernel
theorem dX11_add_42 : decode cX11_add 42 = .ok (.dup2, 1) := by decide +kernel
theorem dX11_add_43 : decode cX11_add 43 = .ok (.iaload, 1) := by decide +kernel
theorem dX11_add_44 : decode cX11_add 44 = .ok (.iconst 1, 1) := by decide +kernel
theorem dX11_add_45 : decode cX11_add 45 = .ok (.iadd, 1) := by decide +kernel
theorem dX11_add_46 : decode cX11_add 46 = .ok (.iastore, 1) := by decide +kernel
theorem dX11_add_47 : decode cX11_add 47 = .ok (.return_, 1) := by decide +kernel
set_option maxRecDepth 20000 in
theorem ggX11_addPart_X11_noItem : GoodIn wsX11_addPart wsX11_noItem := goodIn_r _ [8, 9, 10, 11, 7, 12, 40, 41, 42, 43, 44, 45, 46, 47, 48, 49, 50, 51, 52, 53, 54, 55, 56, 57, 58, 59, 60, 61, 62, 63, 64, 65, 66, 67, 68, 69, 70, 71, 72, 73] (by decide +kernel) (by decide +kernel)
set_option maxRecDepth 20000 in
theorem gX11_addPart_X11_noItem : GoodIn wsX11_addPart (wsV RX11 127 RX11 yX11_noItem wsX11_noItem) := goodIn_app (goodIn_of _ (by decide +kernel)) ggX11_addPart_X11_noItem
set_option maxRecDepth 20000 in
theorem ggX11_addPart_X11_fails : GoodIn wsX11_addPart wsX11_fails := goodIn_r _ [16, 1, 40, 41, 42, 43, 44, 45, 46, 47, 48, 49, 50, 51, 52, 53, 54, 55, 56, 57, 58, 59, 60, 61, 62, 63, 64, 65, 66, 67, 68, 69, 70, 71, 72, 73] (by decide +kernel) (by decide +kernel)
set_option maxRecDepth 20000 in
theorem gX11_addPart_X11_fails : GoodIn wsX11_addPart (wsV RX11 106 RX11 yX11_fails wsX11_fails) := goodIn_app (goodIn_of _ (by decide +kernel)) ggX11_addPart_X11_fails
set_option maxRecDepth 20000 in
theorem ggX11_addPart_X11_in : GoodIn wsX11_addPart wsX11_in := goodIn_r _ [12] (by decide +kernel) (by decide +kernel)
set_option maxRecDepth 20000 in
theorem gX11_addPart_X11_in : GoodIn wsX11_addPart (va_wsS RX11 93 yX11_in wsX11_in) := goodIn_app (goodIn_of _ (by decide +kernel)) ggX11_addPart_X11_in
set_option maxRecDepth 20000 in
theorem ggX11_addPart_X11_add : GoodIn wsX11_addPart wsX11_add := goodIn_ca (goodIn_r _ [20, 2, 21, 22, 23, 40, 41, 42, 43, 44, 45, 46, 47, 48, 49, 50, 51, 52, 53, 54, 55, 56, 57, 58, 59, 60, 61, 62, 63, 64, 65, 66, 67, 68, 69, 70, 71, 72, 73] (by decide +kernel) (by decide +kernel)) (goodIn_sub (fun _ h => List.mem_cons_of_mem _ (List.mem_append_right _ h)) (by decide +kernel))
set_option maxRecDepth 20000 in
theorem gX11_addPart_X11_add : GoodIn wsX11_addPart (wsV RX11 130 RX11 yX11_add wsX11_add) := goodIn_app (goodIn_of _ (by decide +kernel)) ggX11_addPart_X11_add
set_option maxRecDepth 20000 in
theorem ggX11_addPart_X11_isAllowed : GoodIn wsX11_addPart wsX11_isAllowed := goodIn_ca (goodIn_r _ [27, 9, 3, 28, 29, 30, 7, 31, 32, 2, 21, 22, 33, 34, 35, 36, 37, 38, 39, 40, 41, 42, 43, 44, 45, 46, 47, 48, 49, 50, 51, 52, 53, 54, 55, 56, 57, 58, 59, 60, 61, 62, 63, 64, 65, 66, 67, 68, 69, 70, 71, 72, 73] (by decide +kernel) (by decide +kernel)) (goodIn_sub (fun _ h => List.mem_cons_of_mem _ (List.mem_append_right _ h)) (by decide +kernel))
set_option maxRecDepth 20000 in
theorem gX11_addPart_X11_isAllowed : GoodIn wsX11_addPart (wsV RX11 134 RX11 yX11_isAllowed wsX11_isAllowed) := goodIn_app (goodIn_of _ (by decide +kernel)) ggX11_addPart_X11_isAllowed
theorem dX11_addPart_0 : decode cX11_addPart 0 = .ok (.aload_n 0, 1) := by decide +kernel
theorem dX11_addPart_1 : decode cX11_addPart 1 = .ok (.iconst 0, 1) := by decide +kernel
theorem dX11_addPart_2 : decode cX11_addPart 2 = .ok (.putfield 86, 3) := by decide +kernel
theorem dX11_addPart_5 : decode cX11_addPart 5 = .ok (.aload_n 0, 1) := by decide +kernel
theorem dX11_addPart_6 : decode cX11_addPart 6 = .ok (.aload_n 0, 1) := by decide +kernel
theorem dX11_addPart_7 : decode cX11_addPart 7 = .ok (.iload_n 1, 1) := by decide +kernel
theorem dX11_addPart_8 : decode cX11_addPart 8 = .ok (.invokevirtual 127, 3) := by decide +kernel
theorem dX11_addPart_11 : decode cX11_addPart 11 = .ok (.ifCond .ne 11, 3) := by decide +kernel
theorem dX11_addPart_14 : decode cX11_addPart 14 = .ok (.aload_n 0, 1) := by decide +kernel
theorem dX11_addPart_15 : decode cX11_addPart 15 = .ok (.iload_n 2, 1) := by decide +kernel
theorem dX11_addPart_16 : decode cX11_addPart 16 = .ok (.invokevirtual 127, 3) := by decide +kernel
theorem dX11_addPart_19 : decode cX11_addPart 19 = .ok (.ifCond .eq 7, 3) := by decide +kernel
theorem dX11_addPart_22 : decode cX11_addPart 22 = .ok (.iconst 1, 1) := by decide +kernel
theorem dX11_addPart_23 : decode cX11_addPart 23 = .ok (.goto 4, 3) := by decide +kernel
theorem dX11_addPart_26 : decode cX11_addPart 26 = .ok (.iconst 0, 1) := by decide +kernel
theorem dX11_addPart_27 : decode cX11_addPart 27 = .ok (.iconst 1, 1) := by decide +kernel
theorem dX11_addPart_28 : decode cX11_addPart 28 = .ok (.invokevirtual 106, 3) := by decide +kernel
theorem dX11_addPart_31 : decode cX11_addPart 31 = .ok (.ifCond .ne 49, 3) := by decide +kernel
theorem dX11_addPart_34 : decode cX11_addPart 34 = .ok (.aload_n 0, 1) := by decide +kernel
theorem dX11_addPart_35 : decode cX11_addPart 35 = .ok (.iload_n 3, 1) := by decide +kernel
theorem dX11_addPart_36 : decode cX11_addPart 36 = .ok (.iconst 1, 1) := by decide +kernel
theorem dX11_addPart_37 : decode cX11_addPart 37 = .ok (.bipush 9, 2) := by decide +kernel
theorem dX11_addPart_39 : decode cX11_addPart 39 = .ok (.invokestatic 93, 3) := by decide +kernel
theorem dX11_addPart_42 : decode cX11_addPart 42 = .ok (.ifCond .ne 7, 3) := by decide +kernel
theorem dX11_addPart_45 : decode cX11_addPart 45 = .ok (.iconst 1, 1) := by decide +kernel
theorem dX11_addPart_46 : decode cX11_addPart 46 = .ok (.goto 4, 3) := by decide +kernel
theorem dX11_addPart_49 : decode cX11_addPart 49 = .ok (.iconst 0, 1) := by decide +kernel
theorem dX11_addPart_50 : decode cX11_addPart 50 = .ok (.iconst 2, 1) := by decide +kernel
theorem dX11_addPart_51 : decode cX11_addPart 51 = .ok (.invokevirtual 106, 3) := by decide +kernel
theorem dX11_addPart_54 : decode cX11_addPart 54 = .ok (.ifCond .ne 26, 3) := by decide +kernel
theorem dX11_addPart_57 : decode cX11_addPart 57 = .ok (.aload_n 0, 1) := by decide +kernel
theorem dX11_addPart_58 : decode cX11_addPart 58 = .ok (.aload_n 0, 1) := by decide +kernel
theorem dX11_addPart_59 : decode cX11_addPart 59 = .ok (.getfield 34, 3) := by decide +kernel
theorem dX11_addPart_62 : decode cX11_addPart 62 = .ok (.iload_n 1, 1) := by decide +kernel
theorem dX11_addPart_63 : decode cX11_addPart 63 = .ok (.iaload, 1) := by decide +kernel
theorem dX11_addPart_64 : decode cX11_addPart 64 = .ok (.iconst 4, 1) := by decide +kernel
theorem dX11_addPart_65 : decode cX11_addPart 65 = .ok (.if_icmp .ne 7, 3) := by decide +kernel
theorem dX11_addPart_68 : decode cX11_addPart 68 = .ok (.iconst 1, 1) := by decide +kernel
theorem dX11_addPart_69 : decode cX11_addPart 69 = .ok (.goto 4, 3) := by decide +kernel
theorem dX11_addPart_72 : decode cX11_addPart 72 = .ok (.iconst 0, 1) := by decide +kernel
theorem dX11_addPart_73 : decode cX11_addPart 73 = .ok (.iconst 3, 1) := by decide +kernel
theorem dX11_addPart_74 : decode cX11_addPart 74 = .ok (.invokevirtual 106, 3) := by decide +kernel
theorem dX11_addPart_77 : decode cX11_addPart 77 = .ok (.ifCond .eq 5, 3) := by decide +kernel
theorem dX11_addPart_80 : decode cX11_addPart 80 = .ok (.iconst 0, 1) := by decide +kernel
theorem dX11_addPart_81 : decode cX11_addPart 81 = .ok (.ireturn, 1) := by decide +kernel
theorem dX11_addPart_82 : decode cX11_addPart 82 = .ok (.aload_n 0, 1) := by decide +kernel
theorem dX11_addPart_83 : decode cX11_addPart 83 = .ok (.iload_n 1, 1) := by decide +kernel
theorem dX11_addPart_84 : decode cX11_addPart 84 = .ok (.iconst 0, 1) := by decide +kernel
theorem dX11_addPart_85 : decode cX11_addPart 85 = .ok (.iload_n 2, 1) := by decide +kernel
theorem dX11_addPart_86 : decode cX11_addPart 86 = .ok (.iload_n 3, 1) := by decide +kernel
theorem dX11_addPart_87 : decode cX11_addPart 87 = .ok (.invokevirtual 130, 3) := by decide +kernel
theorem dX11_addPart_90 : decode cX11_addPart 90 = .ok (.aload_n 0, 1) := by decide +kernel
theorem dX11_addPart_91 : decode cX11_addPart 91 = .ok (.aload_n 0, 1) := by decide +kernel
theorem dX11_addPart_92 : decode cX11_addPart 92 = .ok (.invokevirtual 134, 3) := by decide +kernel
theorem dX11_addPart_95 : decode cX11_addPart 95 = .ok (.ifCond .ne 7, 3) := by decide +kernel
theorem dX11_addPart_98 : decode cX11_addPart 98 = .ok (.iconst 1, 1) := by decide +kernel
theorem dX11_addPart_99 : decode cX11_addPart 99 = .ok (.goto 4, 3) := by decide +kernel
theorem dX11_addPart_102 : decode cX11_addPart 102 = .ok (.iconst 0, 1) := by decide +kernel
theorem dX11_addPart_103 : decode cX11_addPart 103 = .ok (.iconst 4, 1) := by decide +kernel
theorem dX11_addPart_104 : decode cX11_addPart 104 = .ok (.invokevirtual 106, 3) := by decide +kernel
theorem dX11_addPart_107 : decode cX11_addPart 107 = .ok (.ifCond .eq 15, 3) := by decide +kernel
theorem dX11_addPart_110 : decode cX11_addPart 110 = .ok (.aload_n 0, 1) := by decide +kernel
theorem dX11_addPart_111 : decode cX11_addPart 111 = .ok (.getfield 34, 3) := by decide +kernel
theorem dX11_addPart_114 : decode cX11_addPart 114 = .ok (.iload_n 1, 1) := by decide +kernel
theorem dX11_addPart_115 : decode cX11_addPart 115 = .ok (.dup2, 1) := by decide +kernel
theorem dX11_addPart_116 : decode cX11_addPart 116 = .ok (.iaload, 1) := by decide +kernel
theorem dX11_addPart_117 : decode cX11_addPart 117 = .ok (.iconst 1, 1) := by decide +kernel
theorem dX11_addPart_118 : decode cX11_addPart 118 = .ok (.isub, 1) := by decide +kernel
theorem dX11_addPart_119 : decode cX11_addPart 119 = .ok (.iastore, 1) := by decide +kernel
theorem dX11_addPart_120 : decode cX11_addPart 120 = .ok (.iconst 0, 1) := by decide +kernel
theorem dX11_addPart_121 : decode cX11_addPart 121 = .ok (.ireturn, 1) := by decide +kernel
theorem dX11_addPart_122 : decode cX11_addPart 122 = .ok (.aload_n 0, 1) := by decide +kernel
theorem dX11_addPart_123 : decode cX11_addPart 123 = .ok (.getfield 74, 3) := by decide +kernel
theorem dX11_addPart_126 : decode cX11_addPart 126 = .ok (.iload_n 1, 1) := by decide +kernel
theorem dX11_addPart_127 : decode cX11_addPart 127 = .ok (.iaload, 1) := by decide +kernel
theorem dX11_addPart_128 : decode cX11_addPart 128 = .ok (.ireturn, 1) := by decide +kernel
set_option maxRecDepth 20000 in
theorem ggX11_addUse_X11_noItem : GoodIn wsX11_addUse wsX11_noItem := goodIn_r _ [7, 8, 9, 10, 6, 11, 28, 29, 30, 31, 32, 33, 34, 35, 36, 37, 38, 39, 40, 41, 42, 43, 44, 45, 46, 47, 48, 49, 50, 51, 52, 53, 54, 55, 56, 57, 58, 59, 60, 61] (by decide +kernel) (by decide +kernel)
set_option maxRecDepth 20000 in
theorem gX11_addUse_X11_noItem : GoodIn wsX11_addUse (wsV RX11 127 RX11 yX11_noItem wsX11_noItem) := goodIn_app (goodIn_of _ (by decide +kernel)) ggX11_addUse_X11_noItem
set_option maxRecDepth 20000 in
theorem ggX11_addUse_X11_noResource : GoodIn wsX11_addUse wsX11_noResource := goodIn_r _ [15, 16, 9, 10, 6, 11, 28, 29, 30, 31, 32, 33, 34, 35, 36, 37, 38, 39, 40, 41, 42, 43, 44, 45, 46, 47, 48, 49, 50, 51, 52, 53, 54, 55, 56, 57, 58, 59, 60, 61] (by decide +kernel) (by decide +kernel)
set_option maxRecDepth 20000 in
theorem gX11_addUse_X11_noResource : GoodIn wsX11_addUse (wsV RX11 110 RX11 yX11_noResource wsX11_noResource) := goodIn_app (goodIn_of _ (by decide +kernel)) ggX11_addUse_X11_noResource
set_option maxRecDepth 20000 in
theorem ggX11_addUse_X11_fails : GoodIn wsX11_addUse wsX11_fails := goodIn_r _ [20, 1, 28, 29, 30, 31, 32, 33, 34, 35, 36, 37, 38, 39, 40, 41, 42, 43, 44, 45, 46, 47, 48, 49, 50, 51, 52, 53, 54, 55, 56, 57, 58, 59, 60, 61] (by decide +kernel) (by decide +kernel)
set_option maxRecDepth 20000 in
theorem gX11_addUse_X11_fails : GoodIn wsX11_addUse (wsV RX11 106 RX11 yX11_fails wsX11_fails) := goodIn_app (goodIn_of _ (by decide +kernel)) ggX11_addUse_X11_fails
set_option maxRecDepth 20000 in
theorem ggX11_addUse_X11_in : GoodIn wsX11_addUse wsX11_in := goodIn_r _ [11] (by decide +kernel) (by decide +kernel)
set_option maxRecDepth 20000 in
theorem gX11_addUse_X11_in : GoodIn wsX11_addUse (va_wsS RX11 93 yX11_in wsX11_in) := goodIn_app (goodIn_of _ (by decide +kernel)) ggX11_addUse_X11_in
set_option maxRecDepth 20000 in
theorem ggX11_addUse_X11_add : GoodIn wsX11_addUse wsX11_add := goodIn_ca (goodIn_r _ [24, 2, 25, 26, 27, 28, 29, 30, 31, 32, 33, 34, 35, 36, 37, 38, 39, 40, 41, 42, 43, 44, 45, 46, 47, 48, 49, 50, 51, 52, 53, 54, 55, 56, 57, 58, 59, 60, 61] (by decide +kernel) (by decide +kernel)) (goodIn_sub (fun _ h => List.mem_cons_of_mem _ (List.mem_append_right _ h)) (by decide +kernel))
set_option maxRecDepth 20000 in
theorem gX11_addUse_X11_add : GoodIn wsX11_addUse (wsV RX11 130 RX11 yX11_add wsX11_add) := goodIn_app (goodIn_of _ (by decide +kernel)) ggX11_addUse_X11_add
theorem dX11_addUse_0 : decode cX11_addUse 0 = .ok (.aload_n 0, 1) := by decide +kernel
theorem dX11_addUse_1 : decode cX11_addUse 1 = .ok (.iconst 0, 1) := by decide +kernel
theorem dX11_addUse_2 : decode cX11_addUse 2 = .ok (.putfield 86, 3) := by decide +kernel
theorem dX11_addUse_5 : decode cX11_addUse 5 = .ok (.aload_n 0, 1) := by decide +kernel
theorem dX11_addUse_6 : decode cX11_addUse 6 = .ok (.aload_n 0, 1) := by decide +kernel
theorem dX11_addUse_7 : decode cX11_addUse 7 = .ok (.iload_n 1, 1) := by decide +kernel
theorem dX11_addUse_8 : decode cX11_addUse 8 = .ok (.invokevirtual 127, 3) := by decide +kernel
theorem dX11_addUse_11 : decode cX11_addUse 11 = .ok (.ifCond .ne 11, 3) := by decide +kernel
theorem dX11_addUse_14 : decode cX11_addUse 14 = .ok (.aload_n 0, 1) := by decide +kernel
theorem dX11_addUse_15 : decode cX11_addUse 15 = .ok (.iload_n 2, 1) := by decide +kernel
theorem dX11_addUse_16 : decode cX11_addUse 16 = .ok (.invokevirtual 110, 3) := by decide +kernel
theorem dX11_addUse_19 : decode cX11_addUse 19 = .ok (.ifCond .eq 7, 3) := by decide +kernel
theorem dX11_addUse_22 : decode cX11_addUse 22 = .ok (.iconst 1, 1) := by decide +kernel
theorem dX11_addUse_23 : decode cX11_addUse 23 = .ok (.goto 4, 3) := by decide +kernel
theorem dX11_addUse_26 : decode cX11_addUse 26 = .ok (.iconst 0, 1) := by decide +kernel
theorem dX11_addUse_27 : decode cX11_addUse 27 = .ok (.iconst 1, 1) := by decide +kernel
theorem dX11_addUse_28 : decode cX11_addUse 28 = .ok (.invokevirtual 106, 3) := by decide +kernel
theorem dX11_addUse_31 : decode cX11_addUse 31 = .ok (.ifCond .ne 49, 3) := by decide +kernel
theorem dX11_addUse_34 : decode cX11_addUse 34 = .ok (.aload_n 0, 1) := by decide +kernel
theorem dX11_addUse_35 : decode cX11_addUse 35 = .ok (.iload_n 3, 1) := by decide +kernel
theorem dX11_addUse_36 : decode cX11_addUse 36 = .ok (.iconst 1, 1) := by decide +kernel
theorem dX11_addUse_37 : decode cX11_addUse 37 = .ok (.bipush 99, 2) := by decide +kernel
theorem dX11_addUse_39 : decode cX11_addUse 39 = .ok (.invokestatic 93, 3) := by decide +kernel
theorem dX11_addUse_42 : decode cX11_addUse 42 = .ok (.ifCond .ne 7, 3) := by decide +kernel
theorem dX11_addUse_45 : decode cX11_addUse 45 = .ok (.iconst 1, 1) := by decide +kernel
theorem dX11_addUse_46 : decode cX11_addUse 46 = .ok (.goto 4, 3) := by decide +kernel
theorem dX11_addUse_49 : decode cX11_addUse 49 = .ok (.iconst 0, 1) := by decide +kernel
theorem dX11_addUse_50 : decode cX11_addUse 50 = .ok (.iconst 2, 1) := by decide +kernel
theorem dX11_addUse_51 : decode cX11_addUse 51 = .ok (.invokevirtual 106, 3) := by decide +kernel
theorem dX11_addUse_54 : decode cX11_addUse 54 = .ok (.ifCond .ne 26, 3) := by decide +kernel
theorem dX11_addUse_57 : decode cX11_addUse 57 = .ok (.aload_n 0, 1) := by decide +kernel
theorem dX11_addUse_58 : decode cX11_addUse 58 = .ok (.aload_n 0, 1) := by decide +kernel
theorem dX11_addUse_59 : decode cX11_addUse 59 = .ok (.getfield 34, 3) := by decide +kernel
theorem dX11_addUse_62 : decode cX11_addUse 62 = .ok (.iload_n 1, 1) := by decide +kernel
theorem dX11_addUse_63 : decode cX11_addUse 63 = .ok (.iaload, 1) := by decide +kernel
theorem dX11_addUse_64 : decode cX11_addUse 64 = .ok (.iconst 4, 1) := by decide +kernel
theorem dX11_addUse_65 : decode cX11_addUse 65 = .ok (.if_icmp .ne 7, 3) := by decide +kernel
theorem dX11_addUse_68 : decode cX11_addUse 68 = .ok (.iconst 1, 1) := by decide +kernel
theorem dX11_addUse_69 : decode cX11_addUse 69 = .ok (.goto 4, 3) := by decide +kernel
theorem dX11_addUse_72 : decode cX11_addUse 72 = .ok (.iconst 0, 1) := by decide +kernel
theorem dX11_addUse_73 : decode cX11_addUse 73 = .ok (.iconst 3, 1) := by decide +kernel
theorem dX11_addUse_74 : decode cX11_addUse 74 = .ok (.invokevirtual 106, 3) := by decide +kernel
theorem dX11_addUse_77 : decode cX11_addUse 77 = .ok (.ifCond .eq 5, 3) := by decide +kernel
theorem dX11_addUse_80 : decode cX11_addUse 80 = .ok (.iconst 0, 1) := by decide +kernel
theorem dX11_addUse_81 : decode cX11_addUse 81 = .ok (.ireturn, 1) := by decide +kernel
theorem dX11_addUse_82 : decode cX11_addUse 82 = .ok (.aload_n 0, 1) := by decide +kernel
theorem dX11_addUse_83 : decode cX11_addUse 83 = .ok (.iload_n 1, 1) := by decide +kernel
theorem dX11_addUse_84 : decode cX11_addUse 84 = .ok (.iconst 1, 1) := by decide +kernel
theorem dX11_addUse_85 : decode cX11_addUse 85 = .ok (.iload_n 2, 1) := by decide +kernel
theorem dX11_addUse_86 : decode cX11_addUse 86 = .ok (.iload_n 3, 1) := by decide +kernel
theorem dX11_addUse_87 : decode cX11_addUse 87 = .ok (.invokevirtual 130, 3) := by decide +kernel
theorem dX11_addUse_90 : decode cX11_addUse 90 = .ok (.aload_n 0, 1) := by decide +kernel
theorem dX11_addUse_91 : decode cX11_addUse 91 = .ok (.getfield 34, 3) := by decide +kernel
theorem dX11_addUse_94 : decode cX11_addUse 94 = .ok (.iload_n 1, 1) := by decide +kernel
theorem dX11_addUse_95 : decode cX11_addUse 95 = .ok (.iaload, 1) := by decide +kernel
theorem dX11_addUse_96 : decode cX11_addUse 96 = .ok (.ireturn, 1) := by decide +kernel
set_option maxRecDepth 20000 in
theorem ggX11_addWork_X11_noItem : GoodIn wsX11_addWork wsX11_noItem := goodIn_r _ [8, 9, 10, 11, 7, 12, 24, 25, 26, 27, 28, 29, 30, 31, 32, 33, 34, 35, 36, 37, 38, 39, 40, 41, 42, 43, 44, 45, 46, 47, 48, 49, 50, 51, 52, 53, 54, 55, 56, 57] (by decide +kernel) (by decide +kernel)
set_option maxRecDepth 20000 in
theorem gX11_addWork_X11_noItem : GoodIn wsX11_addWork (wsV RX11 127 RX11 yX11_noItem wsX11_noItem) := goodIn_app (goodIn_of _ (by decide +kernel)) ggX11_addWork_X11_noItem
set_option maxRecDepth 20000 in
theorem ggX11_addWork_X11_in : GoodIn wsX11_addWork wsX11_in := goodIn_r _ [12] (by decide +kernel) (by decide +kernel)
set_option maxRecDepth 20000 in
theorem gX11_addWork_X11_in : GoodIn wsX11_addWork (va_wsS RX11 93 yX11_in wsX11_in) := goodIn_app (goodIn_of _ (by decide +kernel)) ggX11_addWork_X11_in
set_option maxRecDepth 20000 in
theorem ggX11_addWork_X11_fails : GoodIn wsX11_addWork wsX11_fails := goodIn_r _ [16, 1, 24, 25, 26, 27, 28, 29, 30, 31, 32, 33, 34, 35, 36, 37, 38, 39, 40, 41, 42, 43, 44, 45, 46, 47, 48, 49, 50, 51, 52, 53, 54, 55, 56, 57] (by decide +kernel) (by decide +kernel)
set_option maxRecDepth 20000 in
theorem gX11_addWork_X11_fails : GoodIn wsX11_addWork (wsV RX11 106 RX11 yX11_fails wsX11_fails) := goodIn_app (goodIn_of _ (by decide +kernel)) ggX11_addWork_X11_fails
set_option maxRecDepth 20000 in
theorem ggX11_addWork_X11_add : GoodIn wsX11_addWork wsX11_add := goodIn_ca (goodIn_r _ [20, 3, 21, 22, 23, 24, 25, 26, 27, 28, 29, 30, 31, 32, 33, 34, 35, 36, 37, 38, 39, 40, 41, 42, 43, 44, 45, 46, 47, 48, 49, 50, 51, 52, 53, 54, 55, 56, 57] (by decide +kernel) (by decide +kernel)) (goodIn_sub (fun _ h => List.mem_cons_of_mem _ (List.mem_append_right _ h)) (by decide +kernel))
set_option maxRecDepth 20000 in
theorem gX11_addWork_X11_add : GoodIn wsX11_addWork (wsV RX11 130 RX11 yX11_add wsX11_add) := goodIn_app (goodIn_of _ (by decide +kernel)) ggX11_addWork_X11_add
theorem dX11_addWork_0 : decode cX11_addWork 0 = .ok (.aload_n 0, 1) := by decide +kernel
theorem dX11_addWork_1 : decode cX11_addWork 1 = .ok (.iconst 0, 1) := by decide +kernel
theorem dX11_addWork_2 : decode cX11_addWork 2 = .ok (.putfield 86, 3) := by decide +kernel
theorem dX11_addWork_5 : decode cX11_addWork 5 = .ok (.aload_n 0, 1) := by decide +kernel
theorem dX11_addWork_6 : decode cX11_addWork 6 = .ok (.aload_n 0, 1) := by decide +kernel
theorem dX11_addWork_7 : decode cX11_addWork 7 = .ok (.iload_n 1, 1) := by decide +kernel
theorem dX11_addWork_8 : decode cX11_addWork 8 = .ok (.invokevirtual 127, 3) := by decide +kernel
theorem dX11_addWork_11 : decode cX11_addWork 11 = .ok (.ifCond .ne 17, 3) := by decide +kernel
theorem dX11_addWork_14 : decode cX11_addWork 14 = .ok (.iload_n 2, 1) := by decide +kernel
theorem dX11_addWork_15 : decode cX11_addWork 15 = .ok (.iconst 0, 1) := by decide +kernel
theorem dX11_addWork_16 : decode cX11_addWork 16 = .ok (.aload_n 0, 1) := by decide +kernel
theorem dX11_addWork_17 : decode cX11_addWork 17 = .ok (.getfield 114, 3) := by decide +kernel
theorem dX11_addWork_20 : decode cX11_addWork 20 = .ok (.iconst 1, 1) := by decide +kernel
theorem dX11_addWork_21 : decode cX11_addWork 21 = .ok (.isub, 1) := by decide +kernel
theorem dX11_addWork_22 : decode cX11_addWork 22 = .ok (.invokestatic 93, 3) := by decide +kernel
theorem dX11_addWork_25 : decode cX11_addWork 25 = .ok (.ifCond .ne 7, 3) := by decide +kernel
theorem dX11_addWork_28 : decode cX11_addWork 28 = .ok (.iconst 1, 1) := by decide +kernel
theorem dX11_addWork_29 : decode cX11_addWork 29 = .ok (.goto 4, 3) := by decide +kernel
theorem dX11_addWork_32 : decode cX11_addWork 32 = .ok (.iconst 0, 1) := by decide +kernel
theorem dX11_addWork_33 : decode cX11_addWork 33 = .ok (.iconst 1, 1) := by decide +kernel
theorem dX11_addWork_34 : decode cX11_addWork 34 = .ok (.invokevirtual 106, 3) := by decide +kernel
theorem dX11_addWork_37 : decode cX11_addWork 37 = .ok (.ifCond .ne 49, 3) := by decide +kernel
theorem dX11_addWork_40 : decode cX11_addWork 40 = .ok (.aload_n 0, 1) := by decide +kernel
theorem dX11_addWork_41 : decode cX11_addWork 41 = .ok (.iload_n 3, 1) := by decide +kernel
theorem dX11_addWork_42 : decode cX11_addWork 42 = .ok (.iconst 1, 1) := by decide +kernel
theorem dX11_addWork_43 : decode cX11_addWork 43 = .ok (.bipush 99, 2) := by decide +kernel
theorem dX11_addWork_45 : decode cX11_addWork 45 = .ok (.invokestatic 93, 3) := by decide +kernel
theorem dX11_addWork_48 : decode cX11_addWork 48 = .ok (.ifCond .ne 7, 3) := by decide +kernel
theorem dX11_addWork_51 : decode cX11_addWork 51 = .ok (.iconst 1, 1) := by decide +kernel
theorem dX11_addWork_52 : decode cX11_addWork 52 = .ok (.goto 4, 3) := by decide +kernel
theorem dX11_addWork_55 : decode cX11_addWork 55 = .ok (.iconst 0, 1) := by decide +kernel
theorem dX11_addWork_56 : decode cX11_addWork 56 = .ok (.iconst 2, 1) := by decide +kernel
theorem dX11_addWork_57 : decode cX11_addWork 57 = .ok (.invokevirtual 106, 3) := by decide +kernel
theorem dX11_addWork_60 : decode cX11_addWork 60 = .ok (.ifCond .ne 26, 3) := by decide +kernel
theorem dX11_addWork_63 : decode cX11_addWork 63 = .ok (.aload_n 0, 1) := by decide +kernel
theorem dX11_addWork_64 : decode cX11_addWork 64 = .ok (.aload_n 0, 1) := by decide +kernel
theorem dX11_addWork_65 : decode cX11_addWork 65 = .ok (.getfield 34, 3) := by decide +kernel
theorem dX11_addWork_68 : decode cX11_addWork 68 = .ok (.iload_n 1, 1) := by decide +kernel
theorem dX11_addWork_69 : decode cX11_addWork 69 = .ok (.iaload, 1) := by decide +kernel
theorem dX11_addWork_70 : decode cX11_addWork 70 = .ok (.iconst 4, 1) := by decide +kernel
theorem dX11_addWork_71 : decode cX11_addWork 71 = .ok (.if_icmp .ne 7, 3) := by decide +kernel
theorem dX11_addWork_74 : decode cX11_addWork 74 = .ok (.iconst 1, 1) := by decide +kernel
theorem dX11_addWork_75 : decode cX11_addWork 75 = .ok (.goto 4, 3) := by decide +kernel
theorem dX11_addWork_78 : decode cX11_addWork 78 = .ok (.iconst 0, 1) := by decide +kernel
theorem dX11_addWork_79 : decode cX11_addWork 79 = .ok (.iconst 3, 1) := by decide +kernel
theorem dX11_addWork_80 : decode cX11_addWork 80 = .ok (.invokevirtual 106, 3) := by decide +kernel
theorem dX11_addWork_83 : decode cX11_addWork 83 = .ok (.ifCond .eq 5, 3) := by decide +kernel
theorem dX11_addWork_86 : decode cX11_addWork 86 = .ok (.iconst 0, 1) := by decide +kernel
theorem dX11_addWork_87 : decode cX11_addWork 87 = .ok (.ireturn, 1) := by decide +kernel
theorem dX11_addWork_88 : decode cX11_addWork 88 = .ok (.aload_n 0, 1) := by decide +kernel
theorem dX11_addWork_89 : decode cX11_addWork 89 = .ok (.iload_n 1, 1) := by decide +kernel
theorem dX11_addWork_90 : decode cX11_addWork 90 = .ok (.iconst 2, 1) := by decide +kernel
theorem dX11_addWork_91 : decode cX11_addWork 91 = .ok (.iload_n 2, 1) := by decide +kernel
theorem dX11_addWork_92 : decode cX11_addWork 92 = .ok (.iload_n 3, 1) := by decide +kernel
theorem dX11_addWork_93 : decode cX11_addWork 93 = .ok (.invokevirtual 130, 3) := by decide +kernel
theorem dX11_addWork_96 : decode cX11_addWork 96 = .ok (.aload_n 0, 1) := by decide +kernel
theorem dX11_addWork_97 : decode cX11_addWork 97 = .ok (.getfield 34, 3) := by decide +kernel
theorem dX11_addWork_100 : decode cX11_addWork 100 = .ok (.iload_n 1, 1) := by decide +kernel
theorem dX11_addWork_101 : decode cX11_addWork 101 = .ok (.iaload, 1) := by decide +kernel
theorem dX11_addWork_102 : decode cX11_addWork 102 = .ok (.ireturn, 1) := by decide +kernel
set_option maxRecDepth 20000 in
theorem ggX11_dropLast_X11_noItem : GoodIn wsX11_dropLast wsX11_noItem := goodIn_r _ [7, 8, 9, 10, 6, 11, 16, 17, 18, 19, 20, 21, 22, 23, 24, 25, 26, 27, 28, 29, 30, 31, 32, 33, 34, 35, 36, 37, 38, 39, 40, 41, 42, 43, 44, 45, 46, 47, 48, 49] (by decide +kernel) (by decide +kernel)
set_option maxRecDepth 20000 in
theorem gX11_dropLast_X11_noItem : GoodIn wsX11_dropLast (wsV RX11 127 RX11 yX11_noItem wsX11_noItem) := goodIn_app (goodIn_of _ (by decide +kernel)) ggX11_dropLast_X11_noItem
set_option maxRecDepth 20000 in
theorem ggX11_dropLast_X11_fails : GoodIn wsX11_dropLast wsX11_fails := goodIn_r _ [15, 1, 16, 17, 18, 19, 20, 21, 22, 23, 24, 25, 26, 27, 28, 29, 30, 31, 32, 33, 34, 35, 36, 37, 38, 39, 40, 41, 42, 43, 44, 45, 46, 47, 48, 49] (by decide +kernel) (by decide +kernel)
set_option maxRecDepth 20000 in
theorem gX11_dropLast_X11_fails : GoodIn wsX11_dropLast (wsV RX11 106 RX11 yX11_fails wsX11_fails) := goodIn_app (goodIn_of _ (by decide +kernel)) ggX11_dropLast_X11_fails
theorem dX11_dropLast_0 : decode cX11_dropLast 0 = .ok (.aload_n 0, 1) := by decide +kernel
theorem dX11_dropLast_1 : decode cX11_dropLast 1 = .ok (.iconst 0, 1) := by decide +kernel
theorem dX11_dropLast_2 : decode cX11_dropLast 2 = .ok (.putfield 86, 3) := by decide +kernel
theorem dX11_dropLast_5 : decode cX11_dropLast 5 = .ok (.aload_n 0, 1) := by decide +kernel
theorem dX11_dropLast_6 : decode cX11_dropLast 6 = .ok (.aload_n 0, 1) := by decide +kernel
theorem dX11_dropLast_7 : decode cX11_dropLast 7 = .ok (.iload_n 1, 1) := by decide +kernel
theorem dX11_dropLast_8 : decode cX11_dropLast 8 = .ok (.invokevirtual 127, 3) := by decide +kernel
theorem dX11_dropLast_11 : decode cX11_dropLast 11 = .ok (.iconst 1, 1) := by decide +kernel
theorem dX11_dropLast_12 : decode cX11_dropLast 12 = .ok (.invokevirtual 106, 3) := by decide +kernel
theorem dX11_dropLast_15 : decode cX11_dropLast 15 = .ok (.ifCond .ne 25, 3) := by decide +kernel
theorem dX11_dropLast_18 : decode cX11_dropLast 18 = .ok (.aload_n 0, 1) := by decide +kernel
theorem dX11_dropLast_19 : decode cX11_dropLast 19 = .ok (.aload_n 0, 1) := by decide +kernel
theorem dX11_dropLast_20 : decode cX11_dropLast 20 = .ok (.getfield 34, 3) := by decide +kernel
theorem dX11_dropLast_23 : decode cX11_dropLast 23 = .ok (.iload_n 1, 1) := by decide +kernel
theorem dX11_dropLast_24 : decode cX11_dropLast 24 = .ok (.iaload, 1) := by decide +kernel
theorem dX11_dropLast_25 : decode cX11_dropLast 25 = .ok (.ifCond .ne 7, 3) := by decide +kernel
theorem dX11_dropLast_28 : decode cX11_dropLast 28 = .ok (.iconst 1, 1) := by decide +kernel
theorem dX11_dropLast_29 : decode cX11_dropLast 29 = .ok (.goto 4, 3) := by decide +kernel
theorem dX11_dropLast_32 : decode cX11_dropLast 32 = .ok (.iconst 0, 1) := by decide +kernel
theorem dX11_dropLast_33 : decode cX11_dropLast 33 = .ok (.iconst 2, 1) := by decide +kernel
theorem dX11_dropLast_34 : decode cX11_dropLast 34 = .ok (.invokevirtual 106, 3) := by decide +kernel
theorem dX11_dropLast_37 : decode cX11_dropLast 37 = .ok (.ifCond .eq 5, 3) := by decide +kernel
theorem dX11_dropLast_40 : decode cX11_dropLast 40 = .ok (.iconst 0, 1) := by decide +kernel
theorem dX11_dropLast_41 : decode cX11_dropLast 41 = .ok (.ireturn, 1) := by decide +kernel
theorem dX11_dropLast_42 : decode cX11_dropLast 42 = .ok (.aload_n 0, 1) := by decide +kernel
theorem dX11_dropLast_43 : decode cX11_dropLast 43 = .ok (.getfield 34, 3) := by decide +kernel
theorem dX11_dropLast_46 : decode cX11_dropLast 46 = .ok (.iload_n 1, 1) := by decide +kernel
theorem dX11_dropLast_47 : decode cX11_dropLast 47 = .ok (.dup2, 1) := by decide +kernel
theorem dX11_dropLast_48 : decode cX11_dropLast 48 = .ok (.iaload, 1) := by decide +kernel
theorem dX11_dropLast_49 : decode cX11_dropLast 49 = .ok (.iconst 1, 1) := by decide +kernel
theorem dX11_dropLast_50 : decode cX11_dropLast 50 = .ok (.isub, 1) := by decide +kernel
theorem dX11_dropLast_51 : decode cX11_dropLast 51 = .ok (.iastore, 1) := by decide +kernel
theorem dX11_dropLast_52 : decode cX11_dropLast 52 = .ok (.aload_n 0, 1) := by decide +kernel
theorem dX11_dropLast_53 : decode cX11_dropLast 53 = .ok (.getfield 34, 3) := by decide +kernel
theorem dX11_dropLast_56 : decode cX11_dropLast 56 = .ok (.iload_n 1, 1) := by decide +kernel
theorem dX11_dropLast_57 : decode cX11_dropLast 57 = .ok (.iaload, 1) := by decide +kernel
theorem dX11_dropLast_58 : decode cX11_dropLast 58 = .ok (.ireturn, 1) := by decide +kernel
set_option maxRecDepth 20000 in
theorem ggX11_depthOf_X11_findDepths : GoodIn wsX11_depthOf wsX11_findDepths := goodIn_ca (goodIn_r _ [7, 8, 2, 9, 10, 11, 12, 13, 14, 15, 6, 16, 17, 18, 19, 31, 32, 33, 34, 35, 36, 37, 38, 39, 40, 41, 42, 43, 44, 45, 46, 47, 48, 49, 50, 51, 52, 53, 54, 55, 56, 57, 58, 59, 60, 61, 62, 63, 64] (by decide +kernel) (by decide +kernel)) (goodIn_sub (fun _ h => List.mem_cons_of_mem _ (List.mem_append_right _ h)) (by decide +kernel))
set_option maxRecDepth 20000 in
theorem gX11_depthOf_X11_findDepths : GoodIn wsX11_depthOf (wsV RX11 124 RX11 yX11_findDepths wsX11_findDepths) := goodIn_app (goodIn_of _ (by decide +kernel)) ggX11_depthOf_X11_findDepths
set_option maxRecDepth 20000 in
theorem ggX11_depthOf_X11_noItem : GoodIn wsX11_depthOf wsX11_noItem := goodIn_r _ [23, 8, 24, 25, 6, 26, 31, 32, 33, 34, 35, 36, 37, 38, 39, 40, 41, 42, 43, 44, 45, 46, 47, 48, 49, 50, 51, 52, 53, 54, 55, 56, 57, 58, 59, 60, 61, 62, 63, 64] (by decide +kernel) (by decide +kernel)
set_option maxRecDepth 20000 in
theorem gX11_depthOf_X11_noItem : GoodIn wsX11_depthOf (wsV RX11 127 RX11 yX11_noItem wsX11_noItem) := goodIn_app (goodIn_of _ (by decide +kernel)) ggX11_depthOf_X11_noItem
set_option maxRecDepth 20000 in
theorem ggX11_depthOf_X11_fails : GoodIn wsX11_depthOf wsX11_fails := goodIn_r _ [30, 1, 31, 32, 33, 34, 35, 36, 37, 38, 39, 40, 41, 42, 43, 44, 45, 46, 47, 48, 49, 50, 51, 52, 53, 54, 55, 56, 57, 58, 59, 60, 61, 62, 63, 64] (by decide +kernel) (by decide +kernel)
set_option maxRecDepth 20000 in
theorem gX11_depthOf_X11_fails : GoodIn wsX11_depthOf (wsV RX11 106 RX11 yX11_fails wsX11_fails) := goodIn_app (goodIn_of _ (by decide +kernel)) ggX11_depthOf_X11_fails
theorem dX11_depthOf_0 : decode cX11_depthOf 0 = .ok (.aload_n 0, 1) := by decide +kernel
theorem dX11_depthOf_1 : decode cX11_depthOf 1 = .ok (.iconst 0, 1) := by decide +kernel
theorem dX11_depthOf_2 : decode cX11_depthOf 2 = .ok (.putfield 86, 3) := by decide +kernel
theorem dX11_depthOf_5 : decode cX11_depthOf 5 = .ok (.aload_n 0, 1) := by decide +kernel
theorem dX11_depthOf_6 : decode cX11_depthOf 6 = .ok (.invokevirtual 124, 3) := by decide +kernel
theorem dX11_depthOf_9 : decode cX11_depthOf 9 = .ok (.aload_n 0, 1) := by decide +kernel
theorem dX11_depthOf_10 : decode cX11_depthOf 10 = .ok (.aload_n 0, 1) := by decide +kernel
theorem dX11_depthOf_11 : decode cX11_depthOf 11 = .ok (.iload_n 1, 1) := by decide +kernel
theorem dX11_depthOf_12 : decode cX11_depthOf 12 = .ok (.invokevirtual 127, 3) := by decide +kernel
theorem dX11_depthOf_15 : decode cX11_depthOf 15 = .ok (.iconst 1, 1) := by decide +kernel
theorem dX11_depthOf_16 : decode cX11_depthOf 16 = .ok (.invokevirtual 106, 3) := by decide +kernel
theorem dX11_depthOf_19 : decode cX11_depthOf 19 = .ok (.ifCond .eq 7, 3) := by decide +kernel
theorem dX11_depthOf_22 : decode cX11_depthOf 22 = .ok (.iconst 0, 1) := by decide +kernel
theorem dX11_depthOf_23 : decode cX11_depthOf 23 = .ok (.goto 9, 3) := by decide +kernel
theorem dX11_depthOf_26 : decode cX11_depthOf 26 = .ok (.aload_n 0, 1) := by decide +kernel
theorem dX11_depthOf_27 : decode cX11_depthOf 27 = .ok (.getfield 74, 3) := by decide +kernel
theorem dX11_depthOf_30 : decode cX11_depthOf 30 = .ok (.iload_n 1, 1) := by decide +kernel
theorem dX11_depthOf_31 : decode cX11_depthOf 31 = .ok (.iaload, 1) := by decide +kernel
theorem dX11_depthOf_32 : decode cX11_depthOf 32 = .ok (.ireturn, 1) := by decide +kernel
set_option maxRecDepth 20000 in
theorem ggX11_own_X11_meantResource : GoodIn wsX11_own wsX11_meantResource := goodIn_ca (goodIn_r _ [12, 13, 14, 15, 21, 22, 23, 24, 25, 26, 27, 28, 29, 30, 31, 32, 33, 34, 35, 36, 37, 38, 39, 40, 41, 42, 43, 44, 45, 46, 47, 48, 49, 50, 51, 52, 53, 54] (by decide +kernel) (by decide +kernel)) (goodIn_sub (fun _ h => List.mem_cons_of_mem _ (List.mem_append_right _ h)) (by decide +kernel))
set_option maxRecDepth 20000 in
theorem gX11_own_X11_meantResource : GoodIn wsX11_own (wsV RX11 138 RX11 yX11_meantResource wsX11_meantResource) := goodIn_app (goodIn_of _ (by decide +kernel)) ggX11_own_X11_meantResource
set_option maxRecDepth 20000 in
theorem ggX11_own_X11_unit : GoodIn wsX11_own wsX11_unit := goodIn_ca (goodIn_r _ [19, 20, 21, 22, 23, 24, 25, 26, 27, 28, 29, 30, 31, 32, 33, 34, 35, 36, 37, 38, 39, 40, 41, 42, 43, 44, 45, 46, 47, 48, 49, 50, 51, 52, 53, 54] (by decide +kernel) (by decide +kernel)) (goodIn_sub (fun _ h => List.mem_cons_of_mem _ (List.mem_append_right _ h)) (by decide +kernel))
set_option maxRecDepth 20000 in
theorem gX11_own_X11_unit : GoodIn wsX11_own (wsV RX11 141 RX11 yX11_unit wsX11_unit) := goodIn_app (goodIn_of _ (by decide +kernel)) ggX11_own_X11_unit
theorem dX11_own_0 : decode cX11_own 0 = .ok (.lconst 0, 1) := by decide +kernel
theorem dX11_own_1 : decode cX11_own 1 = .ok (.lstore_n 3, 1) := by decide +kernel
theorem dX11_own_2 : decode cX11_own 2 = .ok (.iconst 4, 1) := by decide +kernel
theorem dX11_own_3 : decode cX11_own 3 = .ok (.iload_n 1, 1) := by decide +kernel
theorem dX11_own_4 : decode cX11_own 4 = .ok (.imul, 1) := by decide +kernel
theorem dX11_own_5 : decode cX11_own 5 = .ok (.istore 5, 2) := by decide +kernel
theorem dX11_own_7 : decode cX11_own 7 = .ok (.iload 5, 2) := by decide +kernel
theorem dX11_own_9 : decode cX11_own 9 = .ok (.iconst 4, 1) := by decide +kernel
theorem dX11_own_10 : decode cX11_own 10 = .ok (.iload_n 1, 1) := by decide +kernel
theorem dX11_own_11 : decode cX11_own 11 = .ok (.imul, 1) := by decide +kernel
theorem dX11_own_12 : decode cX11_own 12 = .ok (.aload_n 0, 1) := by decide +kernel
theorem dX11_own_13 : decode cX11_own 13 = .ok (.getfield 34, 3) := by decide +kernel
theorem dX11_own_16 : decode cX11_own 16 = .ok (.iload_n 1, 1) := by decide +kernel
theorem dX11_own_17 : decode cX11_own 17 = .ok (.iaload, 1) := by decide +kernel
theorem dX11_own_18 : decode cX11_own 18 = .ok (.iadd, 1) := by decide +kernel
theorem dX11_own_19 : decode cX11_own 19 = .ok (.if_icmp .ge 139, 3) := by decide +kernel
theorem dX11_own_22 : decode cX11_own 22 = .ok (.aload_n 0, 1) := by decide +kernel
theorem dX11_own_23 : decode cX11_own 23 = .ok (.getfield 37, 3) := by decide +kernel
theorem dX11_own_26 : decode cX11_own 26 = .ok (.iload 5, 2) := by decide +kernel
theorem dX11_own_28 : decode cX11_own 28 = .ok (.iaload, 1) := by decide +kernel
theorem dX11_own_29 : decode cX11_own 29 = .ok (.iconst 1, 1) := by decide +kernel
theorem dX11_own_30 : decode cX11_own 30 = .ok (.if_icmp .ne 31, 3) := by decide +kernel
theorem dX11_own_33 : decode cX11_own 33 = .ok (.lload_n 3, 1) := by decide +kernel
theorem dX11_own_34 : decode cX11_own 34 = .ok (.aload_n 0, 1) := by decide +kernel
theorem dX11_own_35 : decode cX11_own 35 = .ok (.getfield 43, 3) := by decide +kernel
theorem dX11_own_38 : decode cX11_own 38 = .ok (.iload 5, 2) := by decide +kernel
theorem dX11_own_40 : decode cX11_own 40 = .ok (.iaload, 1) := by decide +kernel
theorem dX11_own_41 : decode cX11_own 41 = .ok (.i2l, 1) := by decide +kernel
theorem dX11_own_42 : decode cX11_own 42 = .ok (.aload_n 0, 1) := by decide +kernel
theorem dX11_own_43 : decode cX11_own 43 = .ok (.aload_n 0, 1) := by decide +kernel
theorem dX11_own_44 : decode cX11_own 44 = .ok (.aload_n 0, 1) := by decide +kernel
theorem dX11_own_45 : decode cX11_own 45 = .ok (.getfield 40, 3) := by decide +kernel
theorem dX11_own_48 : decode cX11_own 48 = .ok (.iload 5, 2) := by decide +kernel
theorem dX11_own_50 : decode cX11_own 50 = .ok (.iaload, 1) := by decide +kernel
theorem dX11_own_51 : decode cX11_own 51 = .ok (.invokevirtual 138, 3) := by decide +kernel
theorem dX11_own_54 : decode cX11_own 54 = .ok (.iload_n 2, 1) := by decide +kernel
theorem dX11_own_55 : decode cX11_own 55 = .ok (.invokevirtual 141, 3) := by decide +kernel
theorem dX11_own_58 : decode cX11_own 58 = .ok (.lmul, 1) := by decide +kernel
theorem dX11_own_59 : decode cX11_own 59 = .ok (.ladd, 1) := by decide +kernel
theorem dX11_own_60 : decode cX11_own 60 = .ok (.lstore_n 3, 1) := by decide +kernel
theorem dX11_own_61 : decode cX11_own 61 = .ok (.iconst 3, 1) := by decide +kernel
theorem dX11_own_62 : decode cX11_own 62 = .ok (.aload_n 0, 1) := by decide +kernel
theorem dX11_own_63 : decode cX11_own 63 = .ok (.getfield 40, 3) := by decide +kernel
theorem dX11_own_66 : decode cX11_own 66 = .ok (.iload 5, 2) := by decide +kernel
theorem dX11_own_68 : decode cX11_own 68 = .ok (.iaload, 1) := by decide +kernel
theorem dX11_own_69 : decode cX11_own 69 = .ok (.imul, 1) := by decide +kernel
theorem dX11_own_70 : decode cX11_own 70 = .ok (.istore 6, 2) := by decide +kernel
theorem dX11_own_72 : decode cX11_own 72 = .ok (.aload_n 0, 1) := by decide +kernel
theorem dX11_own_73 : decode cX11_own 73 = .ok (.getfield 37, 3) := by decide +kernel
theorem dX11_own_76 : decode cX11_own 76 = .ok (.iload 5, 2) := by decide +kernel
theorem dX11_own_78 : decode cX11_own 78 = .ok (.iaload, 1) := by decide +kernel
theorem dX11_own_79 : decode cX11_own 79 = .ok (.iconst 2, 1) := by decide +kernel
theorem dX11_own_80 : decode cX11_own 80 = .ok (.if_icmp .ne 72, 3) := by decide +kernel
theorem dX11_own_83 : decode cX11_own 83 = .ok (.iload 6, 2) := by decide +kernel
theorem dX11_own_85 : decode cX11_own 85 = .ok (.iconst 3, 1) := by decide +kernel
theorem dX11_own_86 : decode cX11_own 86 = .ok (.aload_n 0, 1) := by decide +kernel
theorem dX11_own_87 : decode cX11_own 87 = .ok (.getfield 40, 3) := by decide +kernel
theorem dX11_own_90 : decode cX11_own 90 = .ok (.iload 5, 2) := by decide +kernel
theorem dX11_own_92 : decode cX11_own 92 = .ok (.iaload, 1) := by decide +kernel
theorem dX11_own_93 : decode cX11_own 93 = .ok (.imul, 1) := by decide +kernel
theorem dX11_own_94 : decode cX11_own 94 = .ok (.aload_n 0, 1) := by decide +kernel
theorem dX11_own_95 : decode cX11_own 95 = .ok (.getfield 22, 3) := by decide +kernel
theorem dX11_own_98 : decode cX11_own 98 = .ok (.aload_n 0, 1) := by decide +kernel
theorem dX11_own_99 : decode cX11_own 99 = .ok (.getfield 40, 3) := by decide +kernel
theorem dX11_own_102 : decode cX11_own 102 = .ok (.iload 5, 2) := by decide +kernel
theorem dX11_own_104 : decode cX11_own 104 = .ok (.iaload, 1) := by decide +kernel
theorem dX11_own_105 : decode cX11_own 105 = .ok (.iaload, 1) := by decide +kernel
theorem dX11_own_106 : decode cX11_own 106 = .ok (.iadd, 1) := by decide +kernel
theorem dX11_own_107 : decode cX11_own 107 = .ok (.if_icmp .ge 45, 3) := by decide +kernel
theorem dX11_own_110 : decode cX11_own 110 = .ok (.lload_n 3, 1) := by decide +kernel
theorem dX11_own_111 : decode cX11_own 111 = .ok (.aload_n 0, 1) := by decide +kernel
theorem dX11_own_112 : decode cX11_own 112 = .ok (.getfield 43, 3) := by decide +kernel
theorem dX11_own_115 : decode cX11_own 115 = .ok (.iload 5, 2) := by decide +kernel
theorem dX11_own_117 : decode cX11_own 117 = .ok (.iaload, 1) := by decide +kernel
theorem dX11_own_118 : decode cX11_own 118 = .ok (.aload_n 0, 1) := by decide +kernel
theorem dX11_own_119 : decode cX11_own 119 = .ok (.getfield 28, 3) := by decide +kernel
theorem dX11_own_122 : decode cX11_own 122 = .ok (.iload 6, 2) := by decide +kernel
theorem dX11_own_124 : decode cX11_own 124 = .ok (.iaload, 1) := by decide +kernel
theorem dX11_own_125 : decode cX11_own 125 = .ok (.imul, 1) := by decide +kernel
theorem dX11_own_126 : decode cX11_own 126 = .ok (.i2l, 1) := by decide +kernel
theorem dX11_own_127 : decode cX11_own 127 = .ok (.aload_n 0, 1) := by decide +kernel
theorem dX11_own_128 : decode cX11_own 128 = .ok (.aload_n 0, 1) := by decide +kernel
theorem dX11_own_129 : decode cX11_own 129 = .ok (.aload_n 0, 1) := by decide +kernel
theorem dX11_own_130 : decode cX11_own 130 = .ok (.getfield 25, 3) := by decide +kernel
theorem dX11_own_133 : decode cX11_own 133 = .ok (.iload 6, 2) := by decide +kernel
theorem dX11_own_135 : decode cX11_own 135 = .ok (.iaload, 1) := by decide +kernel
theorem dX11_own_136 : decode cX11_own 136 = .ok (.invokevirtual 138, 3) := by decide +kernel
theorem dX11_own_139 : decode cX11_own 139 = .ok (.iload_n 2, 1) := by decide +kernel
theorem dX11_own_140 : decode cX11_own 140 = .ok (.invokevirtual 141, 3) := by decide +kernel
theorem dX11_own_143 : decode cX11_own 143 = .ok (.lmul, 1) := by decide +kernel
theorem dX11_own_144 : decode cX11_own 144 = .ok (.ladd, 1) := by decide +kernel
theorem dX11_own_145 : decode cX11_own 145 = .ok (.lstore_n 3, 1) := by decide +kernel
theorem dX11_own_146 : decode cX11_own 146 = .ok (.iinc 6 1, 3) := by decide +kernel
theorem dX11_own_149 : decode cX11_own 149 = .ok (.goto (-77), 3) := by decide +kernel
theorem dX11_own_152 : decode cX11_own 152 = .ok (.iinc 5 1, 3) := by decide +kernel
theorem dX11_own_155 : decode cX11_own 155 = .ok (.goto (-148), 3) := by decide +kernel
theorem dX11_own_158 : decode cX11_own 158 = .ok (.lload_n 3, 1) := by decide +kernel
theorem dX11_own_159 : decode cX11_own 159 = .ok (.lreturn, 1) := by decide +kernel
set_option maxRecDepth 20000 in
theorem ggX11_needs_X11_own : GoodIn wsX11_needs wsX11_own := goodIn_ca (goodIn_r _ [14, 6, 7, 8, 9, 15, 16, 17, 18, 19, 20, 13, 21, 22, 23, 24, 25, 26, 27, 28, 29, 35, 36, 37, 38, 39, 40, 41, 42, 43, 44, 45, 46, 47, 48, 49, 50, 51, 52, 53, 54, 55, 56, 57, 58, 59, 60, 61, 62, 63, 64, 65, 66, 67, 68] (by decide +kernel) (by decide +kernel)) (goodIn_sub (fun _ h => List.mem_cons_of_mem _ (List.mem_append_right _ h)) (by decide +kernel))
set_option maxRecDepth 20000 in
theorem gX11_needs_X11_own : GoodIn wsX11_needs (wsV RX11 145 RX11 yX11_own wsX11_own) := goodIn_app (goodIn_of _ (by decide +kernel)) ggX11_needs_X11_own
set_option maxRecDepth 20000 in
theorem ggX11_needs_X11_meantItem : GoodIn wsX11_needs wsX11_meantItem := goodIn_ca (goodIn_r _ [33, 22, 23, 34, 35, 36, 37, 38, 39, 40, 41, 42, 43, 44, 45, 46, 47, 48, 49, 50, 51, 52, 53, 54, 55, 56, 57, 58, 59, 60, 61, 62, 63, 64, 65, 66, 67, 68] (by decide +kernel) (by decide +kernel)) (goodIn_sub (fun _ h => List.mem_cons_of_mem _ (List.mem_append_right _ h)) (by decide +kernel))
set_option maxRecDepth 20000 in
theorem gX11_needs_X11_meantItem : GoodIn wsX11_needs (wsV RX11 120 RX11 yX11_meantItem wsX11_meantItem) := goodIn_app (goodIn_of _ (by decide +kernel)) ggX11_needs_X11_meantItem
theorem dX11_needs_0 : decode cX11_needs 0 = .ok (.iconst 0, 1) := by decide +kernel
theorem dX11_needs_1 : decode cX11_needs 1 = .ok (.istore 4, 2) := by decide +kernel
theorem dX11_needs_3 : decode cX11_needs 3 = .ok (.iload 4, 2) := by decide +kernel
theorem dX11_needs_5 : decode cX11_needs 5 = .ok (.aload_n 0, 1) := by decide +kernel
theorem dX11_needs_6 : decode cX11_needs 6 = .ok (.getfield 97, 3) := by decide +kernel
theorem dX11_needs_9 : decode cX11_needs 9 = .ok (.if_icmp .ge 57, 3) := by decide +kernel
theorem dX11_needs_12 : decode cX11_needs 12 = .ok (.aload_n 0, 1) := by decide +kernel
theorem dX11_needs_13 : decode cX11_needs 13 = .ok (.getfield 77, 3) := by decide +kernel
theorem dX11_needs_16 : decode cX11_needs 16 = .ok (.iload 4, 2) := by decide +kernel
theorem dX11_needs_18 : decode cX11_needs 18 = .ok (.iload_n 3, 1) := by decide +kernel
theorem dX11_needs_19 : decode cX11_needs 19 = .ok (.iconst (-1), 1) := by decide +kernel
theorem dX11_needs_20 : decode cX11_needs 20 = .ok (.if_icmp .eq 14, 3) := by decide +kernel
theorem dX11_needs_23 : decode cX11_needs 23 = .ok (.aload_n 0, 1) := by decide +kernel
theorem dX11_needs_24 : decode cX11_needs 24 = .ok (.getfield 31, 3) := by decide +kernel
theorem dX11_needs_27 : decode cX11_needs 27 = .ok (.iload 4, 2) := by decide +kernel
theorem dX11_needs_29 : decode cX11_needs 29 = .ok (.iaload, 1) := by decide +kernel
theorem dX11_needs_30 : decode cX11_needs 30 = .ok (.iload_n 3, 1) := by decide +kernel
theorem dX11_needs_31 : decode cX11_needs 31 = .ok (.if_icmp .ne 13, 3) := by decide +kernel
theorem dX11_needs_34 : decode cX11_needs 34 = .ok (.aload_n 0, 1) := by decide +kernel
theorem dX11_needs_35 : decode cX11_needs 35 = .ok (.iload 4, 2) := by decide +kernel
theorem dX11_needs_37 : decode cX11_needs 37 = .ok (.iload_n 2, 1) := by decide +kernel
theorem dX11_needs_38 : decode cX11_needs 38 = .ok (.invokevirtual 145, 3) := by decide +kernel
theorem dX11_needs_41 : decode cX11_needs 41 = .ok (.goto 4, 3) := by decide +kernel
theorem dX11_needs_44 : decode cX11_needs 44 = .ok (.lconst 0, 1) := by decide +kernel
theorem dX11_needs_45 : decode cX11_needs 45 = .ok (.lastore, 1) := by decide +kernel
theorem dX11_needs_46 : decode cX11_needs 46 = .ok (.aload_n 0, 1) := by decide +kernel
theorem dX11_needs_47 : decode cX11_needs 47 = .ok (.getfield 80, 3) := by decide +kernel
theorem dX11_needs_50 : decode cX11_needs 50 = .ok (.iload 4, 2) := by decide +kernel
theorem dX11_needs_52 : decode cX11_needs 52 = .ok (.aload_n 0, 1) := by decide +kernel
theorem dX11_needs_53 : decode cX11_needs 53 = .ok (.getfield 77, 3) := by decide +kernel
theorem dX11_needs_56 : decode cX11_needs 56 = .ok (.iload 4, 2) := by decide +kernel
theorem dX11_needs_58 : decode cX11_needs 58 = .ok (.laload, 1) := by decide +kernel
theorem dX11_needs_59 : decode cX11_needs 59 = .ok (.lastore, 1) := by decide +kernel
theorem dX11_needs_60 : decode cX11_needs 60 = .ok (.iinc 4 1, 3) := by decide +kernel
theorem dX11_needs_63 : decode cX11_needs 63 = .ok (.goto (-60), 3) := by decide +kernel
theorem dX11_needs_66 : decode cX11_needs 66 = .ok (.iconst 1, 1) := by decide +kernel
theorem dX11_needs_67 : decode cX11_needs 67 = .ok (.istore 4, 2) := by decide +kernel
theorem dX11_needs_69 : decode cX11_needs 69 = .ok (.iload 4, 2) := by decide +kernel
theorem dX11_needs_71 : decode cX11_needs 71 = .ok (.iconst 3, 1) := by decide +kernel
theorem dX11_needs_72 : decode cX11_needs 72 = .ok (.if_icmp .ge 151, 3) := by decide +kernel
theorem dX11_needs_75 : decode cX11_needs 75 = .ok (.iconst 0, 1) := by decide +kernel
theorem dX11_needs_76 : decode cX11_needs 76 = .ok (.istore 5, 2) := by decide +kernel
theorem dX11_needs_78 : decode cX11_needs 78 = .ok (.iload 5, 2) := by decide +kernel
theorem dX11_needs_80 : decode cX11_needs 80 = .ok (.aload_n 0, 1) := by decide +kernel
theorem dX11_needs_81 : decode cX11_needs 81 = .ok (.getfield 97, 3) := by decide +kernel
theorem dX11_needs_84 : decode cX11_needs 84 = .ok (.if_icmp .ge 101, 3) := by decide +kernel
theorem dX11_needs_87 : decode cX11_needs 87 = .ok (.aload_n 0, 1) := by decide +kernel
theorem dX11_needs_88 : decode cX11_needs 88 = .ok (.getfield 83, 3) := by decide +kernel
theorem dX11_needs_91 : decode cX11_needs 91 = .ok (.iload 5, 2) := by decide +kernel
theorem dX11_needs_93 : decode cX11_needs 93 = .ok (.aload_n 0, 1) := by decide +kernel
theorem dX11_needs_94 : decode cX11_needs 94 = .ok (.getfield 77, 3) := by decide +kernel
theorem dX11_needs_97 : decode cX11_needs 97 = .ok (.iload 5, 2) := by decide +kernel
theorem dX11_needs_99 : decode cX11_needs 99 = .ok (.laload, 1) := by decide +kernel
theorem dX11_needs_100 : decode cX11_needs 100 = .ok (.lastore, 1) := by decide +kernel
theorem dX11_needs_101 : decode cX11_needs 101 = .ok (.iconst 4, 1) := by decide +kernel
theorem dX11_needs_102 : decode cX11_needs 102 = .ok (.iload 5, 2) := by decide +kernel
theorem dX11_needs_104 : decode cX11_needs 104 = .ok (.imul, 1) := by decide +kernel
theorem dX11_needs_105 : decode cX11_needs 105 = .ok (.istore 6, 2) := by decide +kernel
theorem dX11_needs_107 : decode cX11_needs 107 = .ok (.iload 6, 2) := by decide +kernel
theorem dX11_needs_109 : decode cX11_needs 109 = .ok (.iconst 4, 1) := by decide +kernel
theorem dX11_needs_110 : decode cX11_needs 110 = .ok (.iload 5, 2) := by decide +kernel
theorem dX11_needs_112 : decode cX11_needs 112 = .ok (.imul, 1) := by decide +kernel
theorem dX11_needs_113 : decode cX11_needs 113 = .ok (.aload_n 0, 1) := by decide +kernel
theorem dX11_needs_114 : decode cX11_needs 114 = .ok (.getfield 34, 3) := by decide +kernel
theorem dX11_needs_117 : decode cX11_needs 117 = .ok (.iload 5, 2) := by decide +kernel
theorem dX11_needs_119 : decode cX11_needs 119 = .ok (.iaload, 1) := by decide +kernel
theorem dX11_needs_120 : decode cX11_needs 120 = .ok (.iadd, 1) := by decide +kernel
theorem dX11_needs_121 : decode cX11_needs 121 = .ok (.if_icmp .ge 58, 3) := by decide +kernel
theorem dX11_needs_124 : decode cX11_needs 124 = .ok (.aload_n 0, 1) := by decide +kernel
theorem dX11_needs_125 : decode cX11_needs 125 = .ok (.getfield 83, 3) := by decide +kernel
theorem dX11_needs_128 : decode cX11_needs 128 = .ok (.iload 5, 2) := by decide +kernel
theorem dX11_needs_130 : decode cX11_needs 130 = .ok (.dup2, 1) := by decide +kernel
theorem dX11_needs_131 : decode cX11_needs 131 = .ok (.laload, 1) := by decide +kernel
theorem dX11_needs_132 : decode cX11_needs 132 = .ok (.aload_n 0, 1) := by decide +kernel
theorem dX11_needs_133 : decode cX11_needs 133 = .ok (.getfield 37, 3) := by decide +kernel
theorem dX11_needs_136 : decode cX11_needs 136 = .ok (.iload 6, 2) := by decide +kernel
theorem dX11_needs_138 : decode cX11_needs 138 = .ok (.iaload, 1) := by decide +kernel
theorem dX11_needs_139 : decode cX11_needs 139 = .ok (.ifCond .ne 31, 3) := by decide +kernel
theorem dX11_needs_142 : decode cX11_needs 142 = .ok (.aload_n 0, 1) := by decide +kernel
theorem dX11_needs_143 : decode cX11_needs 143 = .ok (.getfield 43, 3) := by decide +kernel
theorem dX11_needs_146 : decode cX11_needs 146 = .ok (.iload 6, 2) := by decide +kernel
theorem dX11_needs_148 : decode cX11_needs 148 = .ok (.iaload, 1) := by decide +kernel
theorem dX11_needs_149 : decode cX11_needs 149 = .ok (.i2l, 1) := by decide +kernel
theorem dX11_needs_150 : decode cX11_needs 150 = .ok (.aload_n 0, 1) := by decide +kernel
theorem dX11_needs_151 : decode cX11_needs 151 = .ok (.getfield 80, 3) := by decide +kernel
theorem dX11_needs_154 : decode cX11_needs 154 = .ok (.aload_n 0, 1) := by decide +kernel
theorem dX11_needs_155 : decode cX11_needs 155 = .ok (.aload_n 0, 1) := by decide +kernel
theorem dX11_needs_156 : decode cX11_needs 156 = .ok (.getfield 40, 3) := by decide +kernel
theorem dX11_needs_159 : decode cX11_needs 159 = .ok (.iload 6, 2) := by decide +kernel
theorem dX11_needs_161 : decode cX11_needs 161 = .ok (.iaload, 1) := by decide +kernel
theorem dX11_needs_162 : decode cX11_needs 162 = .ok (.invokevirtual 120, 3) := by decide +kernel
theorem dX11_needs_165 : decode cX11_needs 165 = .ok (.laload, 1) := by decide +kernel
theorem dX11_needs_166 : decode cX11_needs 166 = .ok (.lmul, 1) := by decide +kernel
theorem dX11_needs_167 : decode cX11_needs 167 = .ok (.goto 4, 3) := by decide +kernel
theorem dX11_needs_170 : decode cX11_needs 170 = .ok (.lconst 0, 1) := by decide +kernel
theorem dX11_needs_171 : decode cX11_needs 171 = .ok (.ladd, 1) := by decide +kernel
theorem dX11_needs_172 : decode cX11_needs 172 = .ok (.lastore, 1) := by decide +kernel
theorem dX11_needs_173 : decode cX11_needs 173 = .ok (.iinc 6 1, 3) := by decide +kernel
theorem dX11_needs_176 : decode cX11_needs 176 = .ok (.goto (-69), 3) := by decide +kernel
theorem dX11_needs_179 : decode cX11_needs 179 = .ok (.iinc 5 1, 3) := by decide +kernel
theorem dX11_needs_182 : decode cX11_needs 182 = .ok (.goto (-104), 3) := by decide +kernel
theorem dX11_needs_185 : decode cX11_needs 185 = .ok (.iconst 0, 1) := by decide +kernel
theorem dX11_needs_186 : decode cX11_needs 186 = .ok (.istore 5, 2) := by decide +kernel
theorem dX11_needs_188 : decode cX11_needs 188 = .ok (.iload 5, 2) := by decide +kernel
theorem dX11_needs_190 : decode cX11_needs 190 = .ok (.aload_n 0, 1) := by decide +kernel
theorem dX11_needs_191 : decode cX11_needs 191 = .ok (.getfield 97, 3) := by decide +kernel
theorem dX11_needs_194 : decode cX11_needs 194 = .ok (.if_icmp .ge 23, 3) := by decide +kernel
theorem dX11_needs_197 : decode cX11_needs 197 = .ok (.aload_n 0, 1) := by decide +kernel
theorem dX11_needs_198 : decode cX11_needs 198 = .ok (.getfield 80, 3) := by decide +kernel
theorem dX11_needs_201 : decode cX11_needs 201 = .ok (.iload 5, 2) := by decide +kernel
theorem dX11_needs_203 : decode cX11_needs 203 = .ok (.aload_n 0, 1) := by decide +kernel
theorem dX11_needs_204 : decode cX11_needs 204 = .ok (.getfield 83, 3) := by decide +kernel
theorem dX11_needs_207 : decode cX11_needs 207 = .ok (.iload 5, 2) := by decide +kernel
theorem dX11_needs_209 : decode cX11_needs 209 = .ok (.laload, 1) := by decide +kernel
theorem dX11_needs_210 : decode cX11_needs 210 = .ok (.lastore, 1) := by decide +kernel
theorem dX11_needs_211 : decode cX11_needs 211 = .ok (.iinc 5 1, 3) := by decide +kernel
theorem dX11_needs_214 : decode cX11_needs 214 = .ok (.goto (-26), 3) := by decide +kernel
theorem dX11_needs_217 : decode cX11_needs 217 = .ok (.iinc 4 1, 3) := by decide +kernel
theorem dX11_needs_220 : decode cX11_needs 220 = .ok (.goto (-151), 3) := by decide +kernel
theorem dX11_needs_223 : decode cX11_needs 223 = .ok (.aload_n 0, 1) := by decide +kernel
theorem dX11_needs_224 : decode cX11_needs 224 = .ok (.getfield 80, 3) := by decide +kernel
theorem dX11_needs_227 : decode cX11_needs 227 = .ok (.iload_n 1, 1) := by decide +kernel
theorem dX11_needs_228 : decode cX11_needs 228 = .ok (.laload, 1) := by decide +kernel
theorem dX11_needs_229 : decode cX11_needs 229 = .ok (.lreturn, 1) := by decide +kernel
theorem dX11_unit_0 : decode cX11_unit 0 = .ok (.iload_n 2, 1) := by decide +kernel
theorem dX11_unit_1 : decode cX11_unit 1 = .ok (.iconst (-1), 1) := by decide +kernel
theorem dX11_unit_2 : decode cX11_unit 2 = .ok (.if_icmp .ne 13, 3) := by decide +kernel
theorem dX11_unit_5 : decode cX11_unit 5 = .ok (.aload_n 0, 1) := by decide +kernel
theorem dX11_unit_6 : decode cX11_unit 6 = .ok (.getfield 13, 3) := by decide +kernel
theorem dX11_unit_9 : decode cX11_unit 9 = .ok (.iload_n 1, 1) := by decide +kernel
theorem dX11_unit_10 : decode cX11_unit 10 = .ok (.iaload, 1) := by decide +kernel
theorem dX11_unit_11 : decode cX11_unit 11 = .ok (.i2l, 1) := by decide +kernel
theorem dX11_unit_12 : decode cX11_unit 12 = .ok (.goto 13, 3) := by decide +kernel
theorem dX11_unit_15 : decode cX11_unit 15 = .ok (.iload_n 1, 1) := by decide +kernel
theorem dX11_unit_16 : decode cX11_unit 16 = .ok (.iload_n 2, 1) := by decide +kernel
theorem dX11_unit_17 : decode cX11_unit 17 = .ok (.if_icmp .ne 7, 3) := by decide +kernel
theorem dX11_unit_20 : decode cX11_unit 20 = .ok (.lconst 1, 1) := by decide +kernel
theorem dX11_unit_21 : decode cX11_unit 21 = .ok (.goto 4, 3) := by decide +kernel
theorem dX11_unit_24 : decode cX11_unit 24 = .ok (.lconst 0, 1) := by decide +kernel
theorem dX11_unit_25 : decode cX11_unit 25 = .ok (.lreturn, 1) := by decide +kernel
set_option maxRecDepth 20000 in
theorem ggX11_unitCost_X11_noItem : GoodIn wsX11_unitCost wsX11_noItem := goodIn_r _ [6, 7, 8, 9, 5, 10, 51, 52, 53, 54, 55, 56, 57, 58, 59, 60, 61, 62, 63, 64, 65, 66, 67, 68, 69, 70, 71, 72, 73, 74, 75, 76, 77, 78, 79, 80, 81, 82, 83, 84] (by decide +kernel) (by decide +kernel)
set_option maxRecDepth 20000 in
theorem gX11_unitCost_X11_noItem : GoodIn wsX11_unitCost (wsV RX11 127 RX11 yX11_noItem wsX11_noItem) := goodIn_app (goodIn_of _ (by decide +kernel)) ggX11_unitCost_X11_noItem
set_option maxRecDepth 20000 in
theorem ggX11_unitCost_X11_fails : GoodIn wsX11_unitCost wsX11_fails := goodIn_r _ [14, 1, 51, 52, 53, 54, 55, 56, 57, 58, 59, 60, 61, 62, 63, 64, 65, 66, 67, 68, 69, 70, 71, 72, 73, 74, 75, 76, 77, 78, 79, 80, 81, 82, 83, 84] (by decide +kernel) (by decide +kernel)
set_option maxRecDepth 20000 in
theorem gX11_unitCost_X11_fails : GoodIn wsX11_unitCost (wsV RX11 106 RX11 yX11_fails wsX11_fails) := goodIn_app (goodIn_of _ (by decide +kernel)) ggX11_unitCost_X11_fails
set_option maxRecDepth 20000 in
theorem ggX11_unitCost_X11_needs : GoodIn wsX11_unitCost wsX11_needs := goodIn_ca (goodIn_r _ [18, 7, 19, 20, 21, 22, 23, 24, 25, 26, 27, 28, 29, 5, 30, 31, 32, 33, 34, 35, 36, 37, 38, 39, 40, 41, 42, 43, 44, 45, 46, 47, 48, 49, 50, 51, 52, 53, 54, 55, 56, 57, 58, 59, 60, 61, 62, 63, 64, 65, 66, 67, 68, 69, 70, 71, 72, 73, 74, 75, 76, 77, 78, 79, 80, 81, 82, 83, 84] (by decide +kernel) (by decide +kernel)) (goodIn_sub (fun _ h => List.mem_cons_of_mem _ (List.mem_append_right _ h)) (by decide +kernel))
set_option maxRecDepth 20000 in
theorem gX11_unitCost_X11_needs : GoodIn wsX11_unitCost (wsV RX11 148 RX11 yX11_needs wsX11_needs) := goodIn_app (goodIn_of _ (by decide +kernel)) ggX11_unitCost_X11_needs
theorem dX11_unitCost_0 : decode cX11_unitCost 0 = .ok (.aload_n 0, 1) := by decide +kernel
theorem dX11_unitCost_1 : decode cX11_unitCost 1 = .ok (.iconst 0, 1) := by decide +kernel
theorem dX11_unitCost_2 : decode cX11_unitCost 2 = .ok (.putfield 86, 3) := by decide +kernel
theorem dX11_unitCost_5 : decode cX11_unitCost 5 = .ok (.aload_n 0, 1) := by decide +kernel
theorem dX11_unitCost_6 : decode cX11_unitCost 6 = .ok (.aload_n 0, 1) := by decide +kernel
theorem dX11_unitCost_7 : decode cX11_unitCost 7 = .ok (.iload_n 1, 1) := by decide +kernel
theorem dX11_unitCost_8 : decode cX11_unitCost 8 = .ok (.invokevirtual 127, 3) := by decide +kernel
theorem dX11_unitCost_11 : decode cX11_unitCost 11 = .ok (.iconst 1, 1) := by decide +kernel
theorem dX11_unitCost_12 : decode cX11_unitCost 12 = .ok (.invokevirtual 106, 3) := by decide +kernel
theorem dX11_unitCost_15 : decode cX11_unitCost 15 = .ok (.ifCond .eq 7, 3) := by decide +kernel
theorem dX11_unitCost_18 : decode cX11_unitCost 18 = .ok (.lconst 0, 1) := by decide +kernel
theorem dX11_unitCost_19 : decode cX11_unitCost 19 = .ok (.goto 10, 3) := by decide +kernel
theorem dX11_unitCost_22 : decode cX11_unitCost 22 = .ok (.aload_n 0, 1) := by decide +kernel
theorem dX11_unitCost_23 : decode cX11_unitCost 23 = .ok (.iload_n 1, 1) := by decide +kernel
theorem dX11_unitCost_24 : decode cX11_unitCost 24 = .ok (.iconst (-1), 1) := by decide +kernel
theorem dX11_unitCost_25 : decode cX11_unitCost 25 = .ok (.iconst (-1), 1) := by decide +kernel
theorem dX11_unitCost_26 : decode cX11_unitCost 26 = .ok (.invokevirtual 148, 3) := by decide +kernel
theorem dX11_unitCost_29 : decode cX11_unitCost 29 = .ok (.lreturn, 1) := by decide +kernel
set_option maxRecDepth 20000 in
theorem ggX11_needed_X11_noItem : GoodIn wsX11_needed wsX11_noItem := goodIn_r _ [6, 7, 8, 9, 5, 10, 56, 57, 58, 59, 60, 61, 62, 63, 64, 65, 66, 67, 68, 69, 70, 71, 72, 73, 74, 75, 76, 77, 78, 79, 80, 81, 82, 83, 84, 85, 86, 87, 88, 89] (by decide +kernel) (by decide +kernel)
set_option maxRecDepth 20000 in
theorem gX11_needed_X11_noItem : GoodIn wsX11_needed (wsV RX11 127 RX11 yX11_noItem wsX11_noItem) := goodIn_app (goodIn_of _ (by decide +kernel)) ggX11_needed_X11_noItem
set_option maxRecDepth 20000 in
theorem ggX11_needed_X11_noResource : GoodIn wsX11_needed wsX11_noResource := goodIn_r _ [14, 15, 8, 9, 5, 10, 56, 57, 58, 59, 60, 61, 62, 63, 64, 65, 66, 67, 68, 69, 70, 71, 72, 73, 74, 75, 76, 77, 78, 79, 80, 81, 82, 83, 84, 85, 86, 87, 88, 89] (by decide +kernel) (by decide +kernel)
set_option maxRecDepth 20000 in
theorem gX11_needed_X11_noResource : GoodIn wsX11_needed (wsV RX11 110 RX11 yX11_noResource wsX11_noResource) := goodIn_app (goodIn_of _ (by decide +kernel)) ggX11_needed_X11_noResource
set_option maxRecDepth 20000 in
theorem ggX11_needed_X11_fails : GoodIn wsX11_needed wsX11_fails := goodIn_r _ [19, 1, 56, 57, 58, 59, 60, 61, 62, 63, 64, 65, 66, 67, 68, 69, 70, 71, 72, 73, 74, 75, 76, 77, 78, 79, 80, 81, 82, 83, 84, 85, 86, 87, 88, 89] (by decide +kernel) (by decide +kernel)
set_option maxRecDepth 20000 in
theorem gX11_needed_X11_fails : GoodIn wsX11_needed (wsV RX11 106 RX11 yX11_fails wsX11_fails) := goodIn_app (goodIn_of _ (by decide +kernel)) ggX11_needed_X11_fails
set_option maxRecDepth 20000 in
theorem ggX11_needed_X11_needs : GoodIn wsX11_needed wsX11_needs := goodIn_ca (goodIn_r _ [23, 7, 24, 25, 26, 27, 28, 29, 30, 31, 32, 33, 34, 5, 35, 36, 37, 38, 39, 40, 41, 42, 43, 44, 45, 46, 47, 48, 49, 50, 51, 52, 53, 54, 55, 56, 57, 58, 59, 60, 61, 62, 63, 64, 65, 66, 67, 68, 69, 70, 71, 72, 73, 74, 75, 76, 77, 78, 79, 80, 81, 82, 83, 84, 85, 86, 87, 88, 89] (by decide +kernel) (by decide +kernel)) (goodIn_sub (fun _ h => List.mem_cons_of_mem _ (List.mem_append_right _ h)) (by decide +kernel))
set_option maxRecDepth 20000 in
theorem gX11_needed_X11_needs : GoodIn wsX11_needed (wsV RX11 148 RX11 yX11_needs wsX11_needs) := goodIn_app (goodIn_of _ (by decide +kernel)) ggX11_needed_X11_needs
theorem dX11_needed_0 : decode cX11_needed 0 = .ok (.aload_n 0, 1) := by decide +kernel
theorem dX11_needed_1 : decode cX11_needed 1 = .ok (.iconst 0, 1) := by decide +kernel
theorem dX11_needed_2 : decode cX11_needed 2 = .ok (.putfield 86, 3) := by decide +kernel
theorem dX11_needed_5 : decode cX11_needed 5 = .ok (.aload_n 0, 1) := by decide +kernel
theorem dX11_needed_6 : decode cX11_needed 6 = .ok (.aload_n 0, 1) := by decide +kernel
theorem dX11_needed_7 : decode cX11_needed 7 = .ok (.iload_n 1, 1) := by decide +kernel
theorem dX11_needed_8 : decode cX11_needed 8 = .ok (.invokevirtual 127, 3) := by decide +kernel
theorem dX11_needed_11 : decode cX11_needed 11 = .ok (.ifCond .ne 11, 3) := by decide +kernel
theorem dX11_needed_14 : decode cX11_needed 14 = .ok (.aload_n 0, 1) := by decide +kernel
theorem dX11_needed_15 : decode cX11_needed 15 = .ok (.iload_n 2, 1) := by decide +kernel
theorem dX11_needed_16 : decode cX11_needed 16 = .ok (.invokevirtual 110, 3) := by decide +kernel
theorem dX11_needed_19 : decode cX11_needed 19 = .ok (.ifCond .eq 7, 3) := by decide +kernel
theorem dX11_needed_22 : decode cX11_needed 22 = .ok (.iconst 1, 1) := by decide +kernel
theorem dX11_needed_23 : decode cX11_needed 23 = .ok (.goto 4, 3) := by decide +kernel
theorem dX11_needed_26 : decode cX11_needed 26 = .ok (.iconst 0, 1) := by decide +kernel
theorem dX11_needed_27 : decode cX11_needed 27 = .ok (.iconst 1, 1) := by decide +kernel
theorem dX11_needed_28 : decode cX11_needed 28 = .ok (.invokevirtual 106, 3) := by decide +kernel
theorem dX11_needed_31 : decode cX11_needed 31 = .ok (.ifCond .eq 7, 3) := by decide +kernel
theorem dX11_needed_34 : decode cX11_needed 34 = .ok (.lconst 0, 1) := by decide +kernel
theorem dX11_needed_35 : decode cX11_needed 35 = .ok (.goto 10, 3) := by decide +kernel
theorem dX11_needed_38 : decode cX11_needed 38 = .ok (.aload_n 0, 1) := by decide +kernel
theorem dX11_needed_39 : decode cX11_needed 39 = .ok (.iload_n 1, 1) := by decide +kernel
theorem dX11_needed_40 : decode cX11_needed 40 = .ok (.iload_n 2, 1) := by decide +kernel
theorem dX11_needed_41 : decode cX11_needed 41 = .ok (.iconst (-1), 1) := by decide +kernel
theorem dX11_needed_42 : decode cX11_needed 42 = .ok (.invokevirtual 148, 3) := by decide +kernel
theorem dX11_needed_45 : decode cX11_needed 45 = .ok (.lreturn, 1) := by decide +kernel
set_option maxRecDepth 20000 in
theorem ggX11_addLine_X11_noItem : GoodIn wsX11_addLine wsX11_noItem := goodIn_r _ [8, 9, 10, 11, 7, 12, 17, 18, 19, 20, 21, 22, 23, 24, 25, 26, 27, 28, 29, 30, 31, 32, 33, 34, 35, 36, 37, 38, 39, 40, 41, 42, 43, 44, 45, 46, 47, 48, 49, 50] (by decide +kernel) (by decide +kernel)
set_option maxRecDepth 20000 in
theorem gX11_addLine_X11_noItem : GoodIn wsX11_addLine (wsV RX11 127 RX11 yX11_noItem wsX11_noItem) := goodIn_app (goodIn_of _ (by decide +kernel)) ggX11_addLine_X11_noItem
set_option maxRecDepth 20000 in
theorem ggX11_addLine_X11_fails : GoodIn wsX11_addLine wsX11_fails := goodIn_r _ [16, 1, 17, 18, 19, 20, 21, 22, 23, 24, 25, 26, 27, 28, 29, 30, 31, 32, 33, 34, 35, 36, 37, 38, 39, 40, 41, 42, 43, 44, 45, 46, 47, 48, 49, 50] (by decide +kernel) (by decide +kernel)
set_option maxRecDepth 20000 in
theorem gX11_addLine_X11_fails : GoodIn wsX11_addLine (wsV RX11 106 RX11 yX11_fails wsX11_fails) := goodIn_app (goodIn_of _ (by decide +kernel)) ggX11_addLine_X11_fails
theorem dX11_addLine_0 : decode cX11_addLine 0 = .ok (.aload_n 0, 1) := by decide +kernel
theorem dX11_addLine_1 : decode cX11_addLine 1 = .ok (.iconst 0, 1) := by decide +kernel
theorem dX11_addLine_2 : decode cX11_addLine 2 = .ok (.putfield 86, 3) := by decide +kernel
theorem dX11_addLine_5 : decode cX11_addLine 5 = .ok (.aload_n 0, 1) := by decide +kernel
theorem dX11_addLine_6 : decode cX11_addLine 6 = .ok (.aload_n 0, 1) := by decide +kernel
theorem dX11_addLine_7 : decode cX11_addLine 7 = .ok (.iload_n 1, 1) := by decide +kernel
theorem dX11_addLine_8 : decode cX11_addLine 8 = .ok (.invokevirtual 127, 3) := by decide +kernel
theorem dX11_addLine_11 : decode cX11_addLine 11 = .ok (.iconst 1, 1) := by decide +kernel
theorem dX11_addLine_12 : decode cX11_addLine 12 = .ok (.invokevirtual 106, 3) := by decide +kernel
theorem dX11_addLine_15 : decode cX11_addLine 15 = .ok (.ifCond .ne 25, 3) := by decide +kernel
theorem dX11_addLine_18 : decode cX11_addLine 18 = .ok (.aload_n 0, 1) := by decide +kernel
theorem dX11_addLine_19 : decode cX11_addLine 19 = .ok (.aload_n 0, 1) := by decide +kernel
theorem dX11_addLine_20 : decode cX11_addLine 20 = .ok (.getfield 100, 3) := by decide +kernel
theorem dX11_addLine_23 : decode cX11_addLine 23 = .ok (.bipush 10, 2) := by decide +kernel
theorem dX11_addLine_25 : decode cX11_addLine 25 = .ok (.if_icmp .ne 7, 3) := by decide +kernel
theorem dX11_addLine_28 : decode cX11_addLine 28 = .ok (.iconst 1, 1) := by decide +kernel
theorem dX11_addLine_29 : decode cX11_addLine 29 = .ok (.goto 4, 3) := by decide +kernel
theorem dX11_addLine_32 : decode cX11_addLine 32 = .ok (.iconst 0, 1) := by decide +kernel
theorem dX11_addLine_33 : decode cX11_addLine 33 = .ok (.iconst 2, 1) := by decide +kernel
theorem dX11_addLine_34 : decode cX11_addLine 34 = .ok (.invokevirtual 106, 3) := by decide +kernel
theorem dX11_addLine_37 : decode cX11_addLine 37 = .ok (.ifCond .eq 5, 3) := by decide +kernel
theorem dX11_addLine_40 : decode cX11_addLine 40 = .ok (.iconst 0, 1) := by decide +kernel
theorem dX11_addLine_41 : decode cX11_addLine 41 = .ok (.ireturn, 1) := by decide +kernel
theorem dX11_addLine_42 : decode cX11_addLine 42 = .ok (.aload_n 0, 1) := by decide +kernel
theorem dX11_addLine_43 : decode cX11_addLine 43 = .ok (.getfield 46, 3) := by decide +kernel
theorem dX11_addLine_46 : decode cX11_addLine 46 = .ok (.aload_n 0, 1) := by decide +kernel
theorem dX11_addLine_47 : decode cX11_addLine 47 = .ok (.getfield 100, 3) := by decide +kernel
theorem dX11_addLine_50 : decode cX11_addLine 50 = .ok (.iload_n 1, 1) := by decide +kernel
theorem dX11_addLine_51 : decode cX11_addLine 51 = .ok (.iastore, 1) := by decide +kernel
theorem dX11_addLine_52 : decode cX11_addLine 52 = .ok (.aload_n 0, 1) := by decide +kernel
theorem dX11_addLine_53 : decode cX11_addLine 53 = .ok (.dup, 1) := by decide +kernel
theorem dX11_addLine_54 : decode cX11_addLine 54 = .ok (.getfield 100, 3) := by decide +kernel
theorem dX11_addLine_57 : decode cX11_addLine 57 = .ok (.iconst 1, 1) := by decide +kernel
theorem dX11_addLine_58 : decode cX11_addLine 58 = .ok (.iadd, 1) := by decide +kernel
theorem dX11_addLine_59 : decode cX11_addLine 59 = .ok (.putfield 100, 3) := by decide +kernel
theorem dX11_addLine_62 : decode cX11_addLine 62 = .ok (.aload_n 0, 1) := by decide +kernel
theorem dX11_addLine_63 : decode cX11_addLine 63 = .ok (.getfield 100, 3) := by decide +kernel
theorem dX11_addLine_66 : decode cX11_addLine 66 = .ok (.iconst 1, 1) := by decide +kernel
theorem dX11_addLine_67 : decode cX11_addLine 67 = .ok (.isub, 1) := by decide +kernel
theorem dX11_addLine_68 : decode cX11_addLine 68 = .ok (.ireturn, 1) := by decide +kernel
theorem dX11_quantityOf_0 : decode cX11_quantityOf 0 = .ok (.iconst 0, 1) := by decide +kernel
theorem dX11_quantityOf_1 : decode cX11_quantityOf 1 = .ok (.istore_n 2, 1) := by decide +kernel
theorem dX11_quantityOf_2 : decode cX11_quantityOf 2 = .ok (.iconst 0, 1) := by decide +kernel
theorem dX11_quantityOf_3 : decode cX11_quantityOf 3 = .ok (.istore_n 3, 1) := by decide +kernel
theorem dX11_quantityOf_4 : decode cX11_quantityOf 4 = .ok (.iload_n 3, 1) := by decide +kernel
theorem dX11_quantityOf_5 : decode cX11_quantityOf 5 = .ok (.aload_n 0, 1) := by decide +kernel
theorem dX11_quantityOf_6 : decode cX11_quantityOf 6 = .ok (.getfield 152, 3) := by decide +kernel
theorem dX11_quantityOf_9 : decode cX11_quantityOf 9 = .ok (.if_icmp .ge 32, 3) := by decide +kernel
theorem dX11_quantityOf_12 : decode cX11_quantityOf 12 = .ok (.iload_n 2, 1) := by decide +kernel
theorem dX11_quantityOf_13 : decode cX11_quantityOf 13 = .ok (.aload_n 0, 1) := by decide +kernel
theorem dX11_quantityOf_14 : decode cX11_quantityOf 14 = .ok (.getfield 49, 3) := by decide +kernel
theorem dX11_quantityOf_17 : decode cX11_quantityOf 17 = .ok (.iload_n 3, 1) := by decide +kernel
theorem dX11_quantityOf_18 : decode cX11_quantityOf 18 = .ok (.iaload, 1) := by decide +kernel
theorem dX11_quantityOf_19 : decode cX11_quantityOf 19 = .ok (.iload_n 1, 1) := by decide +kernel
theorem dX11_quantityOf_20 : decode cX11_quantityOf 20 = .ok (.if_icmp .ne 12, 3) := by decide +kernel
theorem dX11_quantityOf_23 : decode cX11_quantityOf 23 = .ok (.aload_n 0, 1) := by decide +kernel
theorem dX11_quantityOf_24 : decode cX11_quantityOf 24 = .ok (.getfield 52, 3) := by decide +kernel
theorem dX11_quantityOf_27 : decode cX11_quantityOf 27 = .ok (.iload_n 3, 1) := by decide +kernel
theorem dX11_quantityOf_28 : decode cX11_quantityOf 28 = .ok (.iaload, 1) := by decide +kernel
theorem dX11_quantityOf_29 : decode cX11_quantityOf 29 = .ok (.goto 4, 3) := by decide +kernel
theorem dX11_quantityOf_32 : decode cX11_quantityOf 32 = .ok (.iconst 0, 1) := by decide +kernel
theorem dX11_quantityOf_33 : decode cX11_quantityOf 33 = .ok (.iadd, 1) := by decide +kernel
theorem dX11_quantityOf_34 : decode cX11_quantityOf 34 = .ok (.istore_n 2, 1) := by decide +kernel
theorem dX11_quantityOf_35 : decode cX11_quantityOf 35 = .ok (.iinc 3 1, 3) := by decide +kernel
theorem dX11_quantityOf_38 : decode cX11_quantityOf 38 = .ok (.goto (-34), 3) := by decide +kernel
theorem dX11_quantityOf_41 : decode cX11_quantityOf 41 = .ok (.iload_n 2, 1) := by decide +kernel
theorem dX11_quantityOf_42 : decode cX11_quantityOf 42 = .ok (.ireturn, 1) := by decide +kernel
set_option maxRecDepth 20000 in
theorem ggX11_addRow_X11_in : GoodIn wsX11_addRow wsX11_in := goodIn_r _ [8] (by decide +kernel) (by decide +kernel)
set_option maxRecDepth 20000 in
theorem gX11_addRow_X11_in : GoodIn wsX11_addRow (va_wsS RX11 93 yX11_in wsX11_in) := goodIn_app (goodIn_of _ (by decide +kernel)) ggX11_addRow_X11_in
set_option maxRecDepth 20000 in
theorem ggX11_addRow_X11_noLine : GoodIn wsX11_addRow wsX11_noLine := goodIn_r _ [12, 13, 5, 6, 7, 8, 22, 23, 24, 25, 26, 27, 28, 29, 30, 31, 32, 33, 34, 35, 36, 37, 38, 39, 40, 41, 42, 43, 44, 45, 46, 47, 48, 49, 50, 51, 52, 53, 54, 55] (by decide +kernel) (by decide +kernel)
set_option maxRecDepth 20000 in
theorem gX11_addRow_X11_noLine : GoodIn wsX11_addRow (wsV RX11 155 RX11 yX11_noLine wsX11_noLine) := goodIn_app (goodIn_of _ (by decide +kernel)) ggX11_addRow_X11_noLine
set_option maxRecDepth 20000 in
theorem ggX11_addRow_X11_fails : GoodIn wsX11_addRow wsX11_fails := goodIn_r _ [17, 1, 22, 23, 24, 25, 26, 27, 28, 29, 30, 31, 32, 33, 34, 35, 36, 37, 38, 39, 40, 41, 42, 43, 44, 45, 46, 47, 48, 49, 50, 51, 52, 53, 54, 55] (by decide +kernel) (by decide +kernel)
set_option maxRecDepth 20000 in
theorem gX11_addRow_X11_fails : GoodIn wsX11_addRow (wsV RX11 106 RX11 yX11_fails wsX11_fails) := goodIn_app (goodIn_of _ (by decide +kernel)) ggX11_addRow_X11_fails
set_option maxRecDepth 20000 in
theorem ggX11_addRow_X11_quantityOf : GoodIn wsX11_addRow wsX11_quantityOf := goodIn_ca (goodIn_r _ [21, 2, 3, 4, 22, 23, 24, 25, 26, 27, 28, 29, 30, 31, 32, 33, 34, 35, 36, 37, 38, 39, 40, 41, 42, 43, 44, 45, 46, 47, 48, 49, 50, 51, 52, 53, 54, 55] (by decide +kernel) (by decide +kernel)) (goodIn_sub (fun _ h => List.mem_cons_of_mem _ (List.mem_append_right _ h)) (by decide +kernel))
set_option maxRecDepth 20000 in
theorem gX11_addRow_X11_quantityOf : GoodIn wsX11_addRow (wsV RX11 158 RX11 yX11_quantityOf wsX11_quantityOf) := goodIn_app (goodIn_of _ (by decide +kernel)) ggX11_addRow_X11_quantityOf
theorem dX11_addRow_0 : decode cX11_addRow 0 = .ok (.aload_n 0, 1) := by decide +kernel
theorem dX11_addRow_1 : decode cX11_addRow 1 = .ok (.iconst 0, 1) := by decide +kernel
theorem dX11_addRow_2 : decode cX11_addRow 2 = .ok (.putfield 86, 3) := by decide +kernel
theorem dX11_addRow_5 : decode cX11_addRow 5 = .ok (.iload_n 2, 1) := by decide +kernel
theorem dX11_addRow_6 : decode cX11_addRow 6 = .ok (.bipush 110, 2) := by decide +kernel
theorem dX11_addRow_8 : decode cX11_addRow 8 = .ok (.if_icmp .eq 33, 3) := by decide +kernel
theorem dX11_addRow_11 : decode cX11_addRow 11 = .ok (.iload_n 2, 1) := by decide +kernel
theorem dX11_addRow_12 : decode cX11_addRow 12 = .ok (.bipush 108, 2) := by decide +kernel
theorem dX11_addRow_14 : decode cX11_addRow 14 = .ok (.if_icmp .eq 27, 3) := by decide +kernel
theorem dX11_addRow_17 : decode cX11_addRow 17 = .ok (.iload_n 2, 1) := by decide +kernel
theorem dX11_addRow_18 : decode cX11_addRow 18 = .ok (.bipush 114, 2) := by decide +kernel
theorem dX11_addRow_20 : decode cX11_addRow 20 = .ok (.if_icmp .eq 21, 3) := by decide +kernel
theorem dX11_addRow_23 : decode cX11_addRow 23 = .ok (.iload_n 2, 1) := by decide +kernel
theorem dX11_addRow_24 : decode cX11_addRow 24 = .ok (.bipush 116, 2) := by decide +kernel
theorem dX11_addRow_26 : decode cX11_addRow 26 = .ok (.if_icmp .eq 15, 3) := by decide +kernel
theorem dX11_addRow_29 : decode cX11_addRow 29 = .ok (.iload_n 2, 1) := by decide +kernel
theorem dX11_addRow_30 : decode cX11_addRow 30 = .ok (.bipush 112, 2) := by decide +kernel
theorem dX11_addRow_32 : decode cX11_addRow 32 = .ok (.if_icmp .eq 9, 3) := by decide +kernel
theorem dX11_addRow_35 : decode cX11_addRow 35 = .ok (.iload_n 2, 1) := by decide +kernel
theorem dX11_addRow_36 : decode cX11_addRow 36 = .ok (.bipush 118, 2) := by decide +kernel
theorem dX11_addRow_38 : decode cX11_addRow 38 = .ok (.if_icmp .ne 7, 3) := by decide +kernel
theorem dX11_addRow_41 : decode cX11_addRow 41 = .ok (.iconst 1, 1) := by decide +kernel
theorem dX11_addRow_42 : decode cX11_addRow 42 = .ok (.goto 4, 3) := by decide +kernel
theorem dX11_addRow_45 : decode cX11_addRow 45 = .ok (.iconst 0, 1) := by decide +kernel
theorem dX11_addRow_46 : decode cX11_addRow 46 = .ok (.istore 7, 2) := by decide +kernel
theorem dX11_addRow_48 : decode cX11_addRow 48 = .ok (.iload 7, 2) := by decide +kernel
theorem dX11_addRow_50 : decode cX11_addRow 50 = .ok (.ifCond .eq 55, 3) := by decide +kernel
theorem dX11_addRow_53 : decode cX11_addRow 53 = .ok (.iload_n 3, 1) := by decide +kernel
theorem dX11_addRow_54 : decode cX11_addRow 54 = .ok (.bipush (-9), 2) := by decide +kernel
theorem dX11_addRow_56 : decode cX11_addRow 56 = .ok (.bipush 99, 2) := by decide +kernel
theorem dX11_addRow_58 : decode cX11_addRow 58 = .ok (.invokestatic 93, 3) := by decide +kernel
theorem dX11_addRow_61 : decode cX11_addRow 61 = .ok (.ifCond .eq 44, 3) := by decide +kernel
theorem dX11_addRow_64 : decode cX11_addRow 64 = .ok (.iload_n 3, 1) := by decide +kernel
theorem dX11_addRow_65 : decode cX11_addRow 65 = .ok (.ifCond .eq 40, 3) := by decide +kernel
theorem dX11_addRow_68 : decode cX11_addRow 68 = .ok (.iload 4, 2) := by decide +kernel
theorem dX11_addRow_70 : decode cX11_addRow 70 = .ok (.iconst 0, 1) := by decide +kernel
theorem dX11_addRow_71 : decode cX11_addRow 71 = .ok (.bipush 99, 2) := by decide +kernel
theorem dX11_addRow_73 : decode cX11_addRow 73 = .ok (.invokestatic 93, 3) := by decide +kernel
theorem dX11_addRow_76 : decode cX11_addRow 76 = .ok (.ifCond .eq 29, 3) := by decide +kernel
theorem dX11_addRow_79 : decode cX11_addRow 79 = .ok (.iload 5, 2) := by decide +kernel
theorem dX11_addRow_81 : decode cX11_addRow 81 = .ok (.iconst 0, 1) := by decide +kernel
theorem dX11_addRow_82 : decode cX11_addRow 82 = .ok (.bipush 99, 2) := by decide +kernel
theorem dX11_addRow_84 : decode cX11_addRow 84 = .ok (.invokestatic 93, 3) := by decide +kernel
theorem dX11_addRow_87 : decode cX11_addRow 87 = .ok (.ifCond .eq 18, 3) := by decide +kernel
theorem dX11_addRow_90 : decode cX11_addRow 90 = .ok (.iload 6, 2) := by decide +kernel
theorem dX11_addRow_92 : decode cX11_addRow 92 = .ok (.iconst 0, 1) := by decide +kernel
theorem dX11_addRow_93 : decode cX11_addRow 93 = .ok (.bipush 99, 2) := by decide +kernel
theorem dX11_addRow_95 : decode cX11_addRow 95 = .ok (.invokestatic 93, 3) := by decide +kernel
theorem dX11_addRow_98 : decode cX11_addRow 98 = .ok (.ifCond .eq 7, 3) := by decide +kernel
theorem dX11_addRow_101 : decode cX11_addRow 101 = .ok (.iconst 1, 1) := by decide +kernel
theorem dX11_addRow_102 : decode cX11_addRow 102 = .ok (.goto 4, 3) := by decide +kernel
theorem dX11_addRow_105 : decode cX11_addRow 105 = .ok (.iconst 0, 1) := by decide +kernel
theorem dX11_addRow_106 : decode cX11_addRow 106 = .ok (.istore 8, 2) := by decide +kernel
theorem dX11_addRow_108 : decode cX11_addRow 108 = .ok (.aload_n 0, 1) := by decide +kernel
theorem dX11_addRow_109 : decode cX11_addRow 109 = .ok (.aload_n 0, 1) := by decide +kernel
theorem dX11_addRow_110 : decode cX11_addRow 110 = .ok (.iload_n 1, 1) := by decide +kernel
theorem dX11_addRow_111 : decode cX11_addRow 111 = .ok (.invokevirtual 155, 3) := by decide +kernel
theorem dX11_addRow_114 : decode cX11_addRow 114 = .ok (.iconst 1, 1) := by decide +kernel
theorem dX11_addRow_115 : decode cX11_addRow 115 = .ok (.invokevirtual 106, 3) := by decide +kernel
theorem dX11_addRow_118 : decode cX11_addRow 118 = .ok (.ifCond .ne 43, 3) := by decide +kernel
theorem dX11_addRow_121 : decode cX11_addRow 121 = .ok (.aload_n 0, 1) := by decide +kernel
theorem dX11_addRow_122 : decode cX11_addRow 122 = .ok (.iload 8, 2) := by decide +kernel
theorem dX11_addRow_124 : decode cX11_addRow 124 = .ok (.ifCond .ne 7, 3) := by decide +kernel
theorem dX11_addRow_127 : decode cX11_addRow 127 = .ok (.iconst 1, 1) := by decide +kernel
theorem dX11_addRow_128 : decode cX11_addRow 128 = .ok (.goto 4, 3) := by decide +kernel
theorem dX11_addRow_131 : decode cX11_addRow 131 = .ok (.iconst 0, 1) := by decide +kernel
theorem dX11_addRow_132 : decode cX11_addRow 132 = .ok (.iconst 2, 1) := by decide +kernel
theorem dX11_addRow_133 : decode cX11_addRow 133 = .ok (.invokevirtual 106, 3) := by decide +kernel
theorem dX11_addRow_136 : decode cX11_addRow 136 = .ok (.ifCond .ne 25, 3) := by decide +kernel
theorem dX11_addRow_139 : decode cX11_addRow 139 = .ok (.aload_n 0, 1) := by decide +kernel
theorem dX11_addRow_140 : decode cX11_addRow 140 = .ok (.aload_n 0, 1) := by decide +kernel
theorem dX11_addRow_141 : decode cX11_addRow 141 = .ok (.getfield 152, 3) := by decide +kernel
theorem dX11_addRow_144 : decode cX11_addRow 144 = .ok (.bipush 40, 2) := by decide +kernel
theorem dX11_addRow_146 : decode cX11_addRow 146 = .ok (.if_icmp .ne 7, 3) := by decide +kernel
theorem dX11_addRow_149 : decode cX11_addRow 149 = .ok (.iconst 1, 1) := by decide +kernel
theorem dX11_addRow_150 : decode cX11_addRow 150 = .ok (.goto 4, 3) := by decide +kernel
theorem dX11_addRow_153 : decode cX11_addRow 153 = .ok (.iconst 0, 1) := by decide +kernel
theorem dX11_addRow_154 : decode cX11_addRow 154 = .ok (.iconst 3, 1) := by decide +kernel
theorem dX11_addRow_155 : decode cX11_addRow 155 = .ok (.invokevirtual 106, 3) := by decide +kernel
theorem dX11_addRow_158 : decode cX11_addRow 158 = .ok (.ifCond .eq 5, 3) := by decide +kernel
theorem dX11_addRow_161 : decode cX11_addRow 161 = .ok (.iconst 0, 1) := by decide +kernel
theorem dX11_addRow_162 : decode cX11_addRow 162 = .ok (.ireturn, 1) := by decide +kernel
theorem dX11_addRow_163 : decode cX11_addRow 163 = .ok (.iload_n 2, 1) := by decide +kernel
theorem dX11_addRow_164 : decode cX11_addRow 164 = .ok (.bipush 110, 2) := by decide +kernel
theorem dX11_addRow_166 : decode cX11_addRow 166 = .ok (.if_icmp .ne 7, 3) := by decide +kernel
theorem dX11_addRow_169 : decode cX11_addRow 169 = .ok (.iconst 1, 1) := by decide +kernel
theorem dX11_addRow_170 : decode cX11_addRow 170 = .ok (.goto 68, 3) := by decide +kernel
theorem dX11_addRow_173 : decode cX11_addRow 173 = .ok (.iload_n 2, 1) := by decide +kernel
theorem dX11_addRow_174 : decode cX11_addRow 174 = .ok (.bipush 108, 2) := by decide +kernel
theorem dX11_addRow_176 : decode cX11_addRow 176 = .ok (.if_icmp .ne 8, 3) := by decide +kernel
theorem dX11_addRow_179 : decode cX11_addRow 179 = .ok (.iload 4, 2) := by decide +kernel
theorem dX11_addRow_181 : decode cX11_addRow 181 = .ok (.goto 57, 3) := by decide +kernel
theorem dX11_addRow_184 : decode cX11_addRow 184 = .ok (.iload_n 2, 1) := by decide +kernel
theorem dX11_addRow_185 : decode cX11_addRow 185 = .ok (.bipush 114, 2) := by decide +kernel
theorem dX11_addRow_187 : decode cX11_addRow 187 = .ok (.if_icmp .ne 11, 3) := by decide +kernel
theorem dX11_addRow_190 : decode cX11_addRow 190 = .ok (.iload 4, 2) := by decide +kernel
theorem dX11_addRow_192 : decode cX11_addRow 192 = .ok (.iload 5, 2) := by decide +kernel
theorem dX11_addRow_194 : decode cX11_addRow 194 = .ok (.imul, 1) := by decide +kernel
theorem dX11_addRow_195 : decode cX11_addRow 195 = .ok (.goto 43, 3) := by decide +kernel
theorem dX11_addRow_198 : decode cX11_addRow 198 = .ok (.iload_n 2, 1) := by decide +kernel
theorem dX11_addRow_199 : decode cX11_addRow 199 = .ok (.bipush 116, 2) := by decide +kernel
theorem dX11_addRow_201 : decode cX11_addRow 201 = .ok (.if_icmp .ne 13, 3) := by decide +kernel
theorem dX11_addRow_204 : decode cX11_addRow 204 = .ok (.iload 4, 2) := by decide +kernel
theorem dX11_addRow_206 : decode cX11_addRow 206 = .ok (.iload 5, 2) := by decide +kernel
theorem dX11_addRow_208 : decode cX11_addRow 208 = .ok (.imul, 1) := by decide +kernel
theorem dX11_addRow_209 : decode cX11_addRow 209 = .ok (.iconst 2, 1) := by decide +kernel
theorem dX11_addRow_210 : decode cX11_addRow 210 = .ok (.idiv, 1) := by decide +kernel
theorem dX11_addRow_211 : decode cX11_addRow 211 = .ok (.goto 27, 3) := by decide +kernel
theorem dX11_addRow_214 : decode cX11_addRow 214 = .ok (.iload_n 2, 1) := by decide +kernel
theorem dX11_addRow_215 : decode cX11_addRow 215 = .ok (.bipush 112, 2) := by decide +kernel
theorem dX11_addRow_217 : decode cX11_addRow 217 = .ok (.if_icmp .ne 13, 3) := by decide +kernel
theorem dX11_addRow_220 : decode cX11_addRow 220 = .ok (.iconst 2, 1) := by decide +kernel
theorem dX11_addRow_221 : decode cX11_addRow 221 = .ok (.iload 4, 2) := by decide +kernel
theorem dX11_addRow_223 : decode cX11_addRow 223 = .ok (.iload 5, 2) := by decide +kernel
theorem dX11_addRow_225 : decode cX11_addRow 225 = .ok (.iadd, 1) := by decide +kernel
theorem dX11_addRow_226 : decode cX11_addRow 226 = .ok (.imul, 1) := by decide +kernel
theorem dX11_addRow_227 : decode cX11_addRow 227 = .ok (.goto 11, 3) := by decide +kernel
theorem dX11_addRow_230 : decode cX11_addRow 230 = .ok (.iload 4, 2) := by decide +kernel
theorem dX11_addRow_232 : decode cX11_addRow 232 = .ok (.iload 5, 2) := by decide +kernel
theorem dX11_addRow_234 : decode cX11_addRow 234 = .ok (.imul, 1) := by decide +kernel
theorem dX11_addRow_235 : decode cX11_addRow 235 = .ok (.iload 6, 2) := by decide +kernel
theorem dX11_addRow_237 : decode cX11_addRow 237 = .ok (.imul, 1) := by decide +kernel
theorem dX11_addRow_238 : decode cX11_addRow 238 = .ok (.istore 9, 2) := by decide +kernel
theorem dX11_addRow_240 : decode cX11_addRow 240 = .ok (.aload_n 0, 1) := by decide +kernel
theorem dX11_addRow_241 : decode cX11_addRow 241 = .ok (.aload_n 0, 1) := by decide +kernel
theorem dX11_addRow_242 : decode cX11_addRow 242 = .ok (.iload_n 1, 1) := by decide +kernel
theorem dX11_addRow_243 : decode cX11_addRow 243 = .ok (.invokevirtual 158, 3) := by decide +kernel
theorem dX11_addRow_246 : decode cX11_addRow 246 = .ok (.iload_n 3, 1) := by decide +kernel
theorem dX11_addRow_247 : decode cX11_addRow 247 = .ok (.iload 9, 2) := by decide +kernel
theorem dX11_addRow_249 : decode cX11_addRow 249 = .ok (.imul, 1) := by decide +kernel
theorem dX11_addRow_250 : decode cX11_addRow 250 = .ok (.iadd, 1) := by decide +kernel
theorem dX11_addRow_251 : decode cX11_addRow 251 = .ok (.iconst 0, 1) := by decide +kernel
theorem dX11_addRow_252 : decode cX11_addRow 252 = .ok (.sipush 10000, 3) := by decide +kernel
theorem dX11_addRow_255 : decode cX11_addRow 255 = .ok (.invokestatic 93, 3) := by decide +kernel
theorem dX11_addRow_258 : decode cX11_addRow 258 = .ok (.ifCond .ne 7, 3) := by decide +kernel
theorem dX11_addRow_261 : decode cX11_addRow 261 = .ok (.iconst 1, 1) := by decide +kernel
theorem dX11_addRow_262 : decode cX11_addRow 262 = .ok (.goto 4, 3) := by decide +kernel
theorem dX11_addRow_265 : decode cX11_addRow 265 = .ok (.iconst 0, 1) := by decide +kernel
theorem dX11_addRow_266 : decode cX11_addRow 266 = .ok (.iconst 4, 1) := by decide +kernel
theorem dX11_addRow_267 : decode cX11_addRow 267 = .ok (.invokevirtual 106, 3) := by decide +kernel
theorem dX11_addRow_270 : decode cX11_addRow 270 = .ok (.ifCond .eq 5, 3) := by decide +kernel
theorem dX11_addRow_273 : decode cX11_addRow 273 = .ok (.iconst 0, 1) := by decide +kernel
theorem dX11_addRow_274 : decode cX11_addRow 274 = .ok (.ireturn, 1) := by decide +kernel
theorem dX11_addRow_275 : decode cX11_addRow 275 = .ok (.aload_n 0, 1) := by decide +kernel
theorem dX11_addRow_276 : decode cX11_addRow 276 = .ok (.getfield 49, 3) := by decide +kernel
theorem dX11_addRow_279 : decode cX11_addRow 279 = .ok (.aload_n 0, 1) := by decide +kernel
theorem dX11_addRow_280 : decode cX11_addRow 280 = .ok (.getfield 152, 3) := by decide +kernel
theorem dX11_addRow_283 : decode cX11_addRow 283 = .ok (.iload_n 1, 1) := by decide +kernel
theorem dX11_addRow_284 : decode cX11_addRow 284 = .ok (.iastore, 1) := by decide +kernel
theorem dX11_addRow_285 : decode cX11_addRow 285 = .ok (.aload_n 0, 1) := by decide +kernel
theorem dX11_addRow_286 : decode cX11_addRow 286 = .ok (.getfield 52, 3) := by decide +kernel
theorem dX11_addRow_289 : decode cX11_addRow 289 = .ok (.aload_n 0, 1) := by decide +kernel
theorem dX11_addRow_290 : decode cX11_addRow 290 = .ok (.getfield 152, 3) := by decide +kernel
theorem dX11_addRow_293 : decode cX11_addRow 293 = .ok (.iload_n 3, 1) := by decide +kernel
theorem dX11_addRow_294 : decode cX11_addRow 294 = .ok (.iload 9, 2) := by decide +kernel
theorem dX11_addRow_296 : decode cX11_addRow 296 = .ok (.imul, 1) := by decide +kernel
theorem dX11_addRow_297 : decode cX11_addRow 297 = .ok (.iastore, 1) := by decide +kernel
theorem dX11_addRow_298 : decode cX11_addRow 298 = .ok (.aload_n 0, 1) := by decide +kernel
theorem dX11_addRow_299 : decode cX11_addRow 299 = .ok (.dup, 1) := by decide +kernel
theorem dX11_addRow_300 : decode cX11_addRow 300 = .ok (.getfield 152, 3) := by decide +kernel
theorem dX11_addRow_303 : decode cX11_addRow 303 = .ok (.iconst 1, 1) := by decide +kernel
theorem dX11_addRow_304 : decode cX11_addRow 304 = .ok (.iadd, 1) := by decide +kernel
theorem dX11_addRow_305 : decode cX11_addRow 305 = .ok (.putfield 152, 3) := by decide +kernel
theorem dX11_addRow_308 : decode cX11_addRow 308 = .ok (.aload_n 0, 1) := by decide +kernel
theorem dX11_addRow_309 : decode cX11_addRow 309 = .ok (.iload_n 1, 1) := by decide +kernel
theorem dX11_addRow_310 : decode cX11_addRow 310 = .ok (.invokevirtual 158, 3) := by decide +kernel
theorem dX11_addRow_313 : decode cX11_addRow 313 = .ok (.ireturn, 1) := by decide +kernel
set_option maxRecDepth 20000 in
theorem ggX11_noRow_X11_in : GoodIn wsX11_noRow wsX11_in := goodIn_r _ [5] (by decide +kernel) (by decide +kernel)
set_option maxRecDepth 20000 in
theorem gX11_noRow_X11_in : GoodIn wsX11_noRow (va_wsS RX11 93 yX11_in wsX11_in) := goodIn_app (goodIn_of _ (by decide +kernel)) ggX11_noRow_X11_in
theorem dX11_noRow_0 : decode cX11_noRow 0 = .ok (.iload_n 1, 1) := by decide +kernel
theorem dX11_noRow_1 : decode cX11_noRow 1 = .ok (.iconst 0, 1) := by decide +kernel
theorem dX11_noRow_2 : decode cX11_noRow 2 = .ok (.aload_n 0, 1) := by decide +kernel
theorem dX11_noRow_3 : decode cX11_noRow 3 = .ok (.getfield 152, 3) := by decide +kernel
theorem dX11_noRow_6 : decode cX11_noRow 6 = .ok (.iconst 1, 1) := by decide +kernel
theorem dX11_noRow_7 : decode cX11_noRow 7 = .ok (.isub, 1) := by decide +kernel
theorem dX11_noRow_8 : decode cX11_noRow 8 = .ok (.invokestatic 93, 3) := by decide +kernel
theorem dX11_noRow_11 : decode cX11_noRow 11 = .ok (.ifCond .ne 7, 3) := by decide +kernel
theorem dX11_noRow_14 : decode cX11_noRow 14 = .ok (.iconst 1, 1) := by decide +kernel
theorem dX11_noRow_15 : decode cX11_noRow 15 = .ok (.goto 4, 3) := by decide +kernel
theorem dX11_noRow_18 : decode cX11_noRow 18 = .ok (.iconst 0, 1) := by decide +kernel
theorem dX11_noRow_19 : decode cX11_noRow 19 = .ok (.ireturn, 1) := by decide +kernel
set_option maxRecDepth 20000 in
theorem ggX11_dropRow_X11_noRow : GoodIn wsX11_dropRow wsX11_noRow := goodIn_r _ [9, 4, 10, 11, 8, 12, 21, 22, 23, 24, 25, 26, 27, 28, 29, 30, 31, 32, 33, 34, 35, 36, 37, 38, 39, 40, 41, 42, 43, 44, 45, 46, 47, 48, 49, 50, 51, 52, 53, 54] (by decide +kernel) (by decide +kernel)
set_option maxRecDepth 20000 in
theorem gX11_dropRow_X11_noRow : GoodIn wsX11_dropRow (wsV RX11 161 RX11 yX11_noRow wsX11_noRow) := goodIn_app (goodIn_of _ (by decide +kernel)) ggX11_dropRow_X11_noRow
set_option maxRecDepth 20000 in
theorem ggX11_dropRow_X11_fails : GoodIn wsX11_dropRow wsX11_fails := goodIn_r _ [16, 1, 21, 22, 23, 24, 25, 26, 27, 28, 29, 30, 31, 32, 33, 34, 35, 36, 37, 38, 39, 40, 41, 42, 43, 44, 45, 46, 47, 48, 49, 50, 51, 52, 53, 54] (by decide +kernel) (by decide +kernel)
set_option maxRecDepth 20000 in
theorem gX11_dropRow_X11_fails : GoodIn wsX11_dropRow (wsV RX11 106 RX11 yX11_fails wsX11_fails) := goodIn_app (goodIn_of _ (by decide +kernel)) ggX11_dropRow_X11_fails
set_option maxRecDepth 20000 in
theorem ggX11_dropRow_X11_quantityOf : GoodIn wsX11_dropRow wsX11_quantityOf := goodIn_ca (goodIn_r _ [20, 4, 2, 3, 21, 22, 23, 24, 25, 26, 27, 28, 29, 30, 31, 32, 33, 34, 35, 36, 37, 38, 39, 40, 41, 42, 43, 44, 45, 46, 47, 48, 49, 50, 51, 52, 53, 54] (by decide +kernel) (by decide +kernel)) (goodIn_sub (fun _ h => List.mem_cons_of_mem _ (List.mem_append_right _ h)) (by decide +kernel))
set_option maxRecDepth 20000 in
theorem gX11_dropRow_X11_quantityOf : GoodIn wsX11_dropRow (wsV RX11 158 RX11 yX11_quantityOf wsX11_quantityOf) := goodIn_app (goodIn_of _ (by decide +kernel)) ggX11_dropRow_X11_quantityOf
set_option maxRecDepth 20000 in
theorem ggX11_dropRow_X11_in : GoodIn wsX11_dropRow wsX11_in := goodIn_r _ [12] (by decide +kernel) (by decide +kernel)
set_option maxRecDepth 20000 in
theorem gX11_dropRow_X11_in : GoodIn wsX11_dropRow (va_wsS RX11 93 yX11_in wsX11_in) := goodIn_app (goodIn_of _ (by decide +kernel)) ggX11_dropRow_X11_in
theorem dX11_dropRow_0 : decode cX11_dropRow 0 = .ok (.aload_n 0, 1) := by decide +kernel
theorem dX11_dropRow_1 : decode cX11_dropRow 1 = .ok (.iconst 0, 1) := by decide +kernel
theorem dX11_dropRow_2 : decode cX11_dropRow 2 = .ok (.putfield 86, 3) := by decide +kernel
theorem dX11_dropRow_5 : decode cX11_dropRow 5 = .ok (.aload_n 0, 1) := by decide +kernel
theorem dX11_dropRow_6 : decode cX11_dropRow 6 = .ok (.aload_n 0, 1) := by decide +kernel
theorem dX11_dropRow_7 : decode cX11_dropRow 7 = .ok (.iload_n 1, 1) := by decide +kernel
theorem dX11_dropRow_8 : decode cX11_dropRow 8 = .ok (.invokevirtual 161, 3) := by decide +kernel
theorem dX11_dropRow_11 : decode cX11_dropRow 11 = .ok (.iconst 1, 1) := by decide +kernel
theorem dX11_dropRow_12 : decode cX11_dropRow 12 = .ok (.invokevirtual 106, 3) := by decide +kernel
theorem dX11_dropRow_15 : decode cX11_dropRow 15 = .ok (.ifCond .ne 43, 3) := by decide +kernel
theorem dX11_dropRow_18 : decode cX11_dropRow 18 = .ok (.aload_n 0, 1) := by decide +kernel
theorem dX11_dropRow_19 : decode cX11_dropRow 19 = .ok (.aload_n 0, 1) := by decide +kernel
theorem dX11_dropRow_20 : decode cX11_dropRow 20 = .ok (.aload_n 0, 1) := by decide +kernel
theorem dX11_dropRow_21 : decode cX11_dropRow 21 = .ok (.getfield 49, 3) := by decide +kernel
theorem dX11_dropRow_24 : decode cX11_dropRow 24 = .ok (.iload_n 1, 1) := by decide +kernel
theorem dX11_dropRow_25 : decode cX11_dropRow 25 = .ok (.iaload, 1) := by decide +kernel
theorem dX11_dropRow_26 : decode cX11_dropRow 26 = .ok (.invokevirtual 158, 3) := by decide +kernel
theorem dX11_dropRow_29 : decode cX11_dropRow 29 = .ok (.aload_n 0, 1) := by decide +kernel
theorem dX11_dropRow_30 : decode cX11_dropRow 30 = .ok (.getfield 52, 3) := by decide +kernel
theorem dX11_dropRow_33 : decode cX11_dropRow 33 = .ok (.iload_n 1, 1) := by decide +kernel
theorem dX11_dropRow_34 : decode cX11_dropRow 34 = .ok (.iaload, 1) := by decide +kernel
theorem dX11_dropRow_35 : decode cX11_dropRow 35 = .ok (.isub, 1) := by decide +kernel
theorem dX11_dropRow_36 : decode cX11_dropRow 36 = .ok (.iconst 0, 1) := by decide +kernel
theorem dX11_dropRow_37 : decode cX11_dropRow 37 = .ok (.sipush 10000, 3) := by decide +kernel
theorem dX11_dropRow_40 : decode cX11_dropRow 40 = .ok (.invokestatic 93, 3) := by decide +kernel
theorem dX11_dropRow_43 : decode cX11_dropRow 43 = .ok (.ifCond .ne 7, 3) := by decide +kernel
theorem dX11_dropRow_46 : decode cX11_dropRow 46 = .ok (.iconst 1, 1) := by decide +kernel
theorem dX11_dropRow_47 : decode cX11_dropRow 47 = .ok (.goto 4, 3) := by decide +kernel
theorem dX11_dropRow_50 : decode cX11_dropRow 50 = .ok (.iconst 0, 1) := by decide +kernel
theorem dX11_dropRow_51 : decode cX11_dropRow 51 = .ok (.iconst 2, 1) := by decide +kernel
theorem dX11_dropRow_52 : decode cX11_dropRow 52 = .ok (.invokevirtual 106, 3) := by decide +kernel
theorem dX11_dropRow_55 : decode cX11_dropRow 55 = .ok (.ifCond .eq 5, 3) := by decide +kernel
theorem dX11_dropRow_58 : decode cX11_dropRow 58 = .ok (.iconst 0, 1) := by decide +kernel
theorem dX11_dropRow_59 : decode cX11_dropRow 59 = .ok (.ireturn, 1) := by decide +kernel
theorem dX11_dropRow_60 : decode cX11_dropRow 60 = .ok (.aload_n 0, 1) := by decide +kernel
theorem dX11_dropRow_61 : decode cX11_dropRow 61 = .ok (.getfield 49, 3) := by decide +kernel
theorem dX11_dropRow_64 : decode cX11_dropRow 64 = .ok (.iload_n 1, 1) := by decide +kernel
theorem dX11_dropRow_65 : decode cX11_dropRow 65 = .ok (.iaload, 1) := by decide +kernel
theorem dX11_dropRow_66 : decode cX11_dropRow 66 = .ok (.istore_n 2, 1) := by decide +kernel
theorem dX11_dropRow_67 : decode cX11_dropRow 67 = .ok (.aload_n 0, 1) := by decide +kernel
theorem dX11_dropRow_68 : decode cX11_dropRow 68 = .ok (.dup, 1) := by decide +kernel
theorem dX11_dropRow_69 : decode cX11_dropRow 69 = .ok (.getfield 152, 3) := by decide +kernel
theorem dX11_dropRow_72 : decode cX11_dropRow 72 = .ok (.iconst 1, 1) := by decide +kernel
theorem dX11_dropRow_73 : decode cX11_dropRow 73 = .ok (.isub, 1) := by decide +kernel
theorem dX11_dropRow_74 : decode cX11_dropRow 74 = .ok (.putfield 152, 3) := by decide +kernel
theorem dX11_dropRow_77 : decode cX11_dropRow 77 = .ok (.iload_n 1, 1) := by decide +kernel
theorem dX11_dropRow_78 : decode cX11_dropRow 78 = .ok (.istore_n 3, 1) := by decide +kernel
theorem dX11_dropRow_79 : decode cX11_dropRow 79 = .ok (.iload_n 3, 1) := by decide +kernel
theorem dX11_dropRow_80 : decode cX11_dropRow 80 = .ok (.aload_n 0, 1) := by decide +kernel
theorem dX11_dropRow_81 : decode cX11_dropRow 81 = .ok (.getfield 152, 3) := by decide +kernel
theorem dX11_dropRow_84 : decode cX11_dropRow 84 = .ok (.if_icmp .ge 37, 3) := by decide +kernel
theorem dX11_dropRow_87 : decode cX11_dropRow 87 = .ok (.aload_n 0, 1) := by decide +kernel
theorem dX11_dropRow_88 : decode cX11_dropRow 88 = .ok (.getfield 49, 3) := by decide +kernel
theorem dX11_dropRow_91 : decode cX11_dropRow 91 = .ok (.iload_n 3, 1) := by decide +kernel
theorem dX11_dropRow_92 : decode cX11_dropRow 92 = .ok (.aload_n 0, 1) := by decide +kernel
theorem dX11_dropRow_93 : decode cX11_dropRow 93 = .ok (.getfield 49, 3) := by decide +kernel
theorem dX11_dropRow_96 : decode cX11_dropRow 96 = .ok (.iload_n 3, 1) := by decide +kernel
theorem dX11_dropRow_97 : decode cX11_dropRow 97 = .ok (.iconst 1, 1) := by decide +kernel
theorem dX11_dropRow_98 : decode cX11_dropRow 98 = .ok (.iadd, 1) := by decide +kernel
theorem dX11_dropRow_99 : decode cX11_dropRow 99 = .ok (.iaload, 1) := by decide +kernel
theorem dX11_dropRow_100 : decode cX11_dropRow 100 = .ok (.iastore, 1) := by decide +kernel
theorem dX11_dropRow_101 : decode cX11_dropRow 101 = .ok (.aload_n 0, 1) := by decide +kernel
theorem dX11_dropRow_102 : decode cX11_dropRow 102 = .ok (.getfield 52, 3) := by decide +kernel
theorem dX11_dropRow_105 : decode cX11_dropRow 105 = .ok (.iload_n 3, 1) := by decide +kernel
theorem dX11_dropRow_106 : decode cX11_dropRow 106 = .ok (.aload_n 0, 1) := by decide +kernel
theorem dX11_dropRow_107 : decode cX11_dropRow 107 = .ok (.getfield 52, 3) := by decide +kernel
theorem dX11_dropRow_110 : decode cX11_dropRow 110 = .ok (.iload_n 3, 1) := by decide +kernel
theorem dX11_dropRow_111 : decode cX11_dropRow 111 = .ok (.iconst 1, 1) := by decide +kernel
theorem dX11_dropRow_112 : decode cX11_dropRow 112 = .ok (.iadd, 1) := by decide +kernel
theorem dX11_dropRow_113 : decode cX11_dropRow 113 = .ok (.iaload, 1) := by decide +kernel
theorem dX11_dropRow_114 : decode cX11_dropRow 114 = .ok (.iastore, 1) := by decide +kernel
theorem dX11_dropRow_115 : decode cX11_dropRow 115 = .ok (.iinc 3 1, 3) := by decide +kernel
theorem dX11_dropRow_118 : decode cX11_dropRow 118 = .ok (.goto (-39), 3) := by decide +kernel
theorem dX11_dropRow_121 : decode cX11_dropRow 121 = .ok (.aload_n 0, 1) := by decide +kernel
theorem dX11_dropRow_122 : decode cX11_dropRow 122 = .ok (.iload_n 2, 1) := by decide +kernel
theorem dX11_dropRow_123 : decode cX11_dropRow 123 = .ok (.invokevirtual 158, 3) := by decide +kernel
theorem dX11_dropRow_126 : decode cX11_dropRow 126 = .ok (.ireturn, 1) := by decide +kernel
set_option maxRecDepth 20000 in
theorem ggX11_measure_X11_noRow : GoodIn wsX11_measure wsX11_noRow := goodIn_r _ [7, 8, 9, 10, 6, 11, 16, 17, 18, 19, 20, 21, 22, 23, 24, 25, 26, 27, 28, 29, 30, 31, 32, 33, 34, 35, 36, 37, 38, 39, 40, 41, 42, 43, 44, 45, 46, 47, 48, 49] (by decide +kernel) (by decide +kernel)
set_option maxRecDepth 20000 in
theorem gX11_measure_X11_noRow : GoodIn wsX11_measure (wsV RX11 161 RX11 yX11_noRow wsX11_noRow) := goodIn_app (goodIn_of _ (by decide +kernel)) ggX11_measure_X11_noRow
set_option maxRecDepth 20000 in
theorem ggX11_measure_X11_fails : GoodIn wsX11_measure wsX11_fails := goodIn_r _ [15, 1, 16, 17, 18, 19, 20, 21, 22, 23, 24, 25, 26, 27, 28, 29, 30, 31, 32, 33, 34, 35, 36, 37, 38, 39, 40, 41, 42, 43, 44, 45, 46, 47, 48, 49] (by decide +kernel) (by decide +kernel)
set_option maxRecDepth 20000 in
theorem gX11_measure_X11_fails : GoodIn wsX11_measure (wsV RX11 106 RX11 yX11_fails wsX11_fails) := goodIn_app (goodIn_of _ (by decide +kernel)) ggX11_measure_X11_fails
theorem dX11_measure_0 : decode cX11_measure 0 = .ok (.aload_n 0, 1) := by decide +kernel
theorem dX11_measure_1 : decode cX11_measure 1 = .ok (.iconst 0, 1) := by decide +kernel
theorem dX11_measure_2 : decode cX11_measure 2 = .ok (.putfield 86, 3) := by decide +kernel
theorem dX11_measure_5 : decode cX11_measure 5 = .ok (.aload_n 0, 1) := by decide +kernel
theorem dX11_measure_6 : decode cX11_measure 6 = .ok (.aload_n 0, 1) := by decide +kernel
theorem dX11_measure_7 : decode cX11_measure 7 = .ok (.iload_n 1, 1) := by decide +kernel
theorem dX11_measure_8 : decode cX11_measure 8 = .ok (.invokevirtual 161, 3) := by decide +kernel
theorem dX11_measure_11 : decode cX11_measure 11 = .ok (.iconst 1, 1) := by decide +kernel
theorem dX11_measure_12 : decode cX11_measure 12 = .ok (.invokevirtual 106, 3) := by decide +kernel
theorem dX11_measure_15 : decode cX11_measure 15 = .ok (.ifCond .eq 7, 3) := by decide +kernel
theorem dX11_measure_18 : decode cX11_measure 18 = .ok (.iconst 0, 1) := by decide +kernel
theorem dX11_measure_19 : decode cX11_measure 19 = .ok (.goto 9, 3) := by decide +kernel
theorem dX11_measure_22 : decode cX11_measure 22 = .ok (.aload_n 0, 1) := by decide +kernel
theorem dX11_measure_23 : decode cX11_measure 23 = .ok (.getfield 52, 3) := by decide +kernel
theorem dX11_measure_26 : decode cX11_measure 26 = .ok (.iload_n 1, 1) := by decide +kernel
theorem dX11_measure_27 : decode cX11_measure 27 = .ok (.iaload, 1) := by decide +kernel
theorem dX11_measure_28 : decode cX11_measure 28 = .ok (.ireturn, 1) := by decide +kernel
set_option maxRecDepth 20000 in
theorem ggX11_quantity_X11_noLine : GoodIn wsX11_quantity wsX11_noLine := goodIn_r _ [6, 7, 8, 9, 5, 10, 22, 23, 24, 25, 26, 27, 28, 29, 30, 31, 32, 33, 34, 35, 36, 37, 38, 39, 40, 41, 42, 43, 44, 45, 46, 47, 48, 49, 50, 51, 52, 53, 54, 55] (by decide +kernel) (by decide +kernel)
set_option maxRecDepth 20000 in
theorem gX11_quantity_X11_noLine : GoodIn wsX11_quantity (wsV RX11 155 RX11 yX11_noLine wsX11_noLine) := goodIn_app (goodIn_of _ (by decide +kernel)) ggX11_quantity_X11_noLine
set_option maxRecDepth 20000 in
theorem ggX11_quantity_X11_fails : GoodIn wsX11_quantity wsX11_fails := goodIn_r _ [14, 1, 22, 23, 24, 25, 26, 27, 28, 29, 30, 31, 32, 33, 34, 35, 36, 37, 38, 39, 40, 41, 42, 43, 44, 45, 46, 47, 48, 49, 50, 51, 52, 53, 54, 55] (by decide +kernel) (by decide +kernel)
set_option maxRecDepth 20000 in
theorem gX11_quantity_X11_fails : GoodIn wsX11_quantity (wsV RX11 106 RX11 yX11_fails wsX11_fails) := goodIn_app (goodIn_of _ (by decide +kernel)) ggX11_quantity_X11_fails
set_option maxRecDepth 20000 in
theorem ggX11_quantity_X11_quantityOf : GoodIn wsX11_quantity wsX11_quantityOf := goodIn_ca (goodIn_r _ [18, 19, 20, 21, 22, 23, 24, 25, 26, 27, 28, 29, 30, 31, 32, 33, 34, 35, 36, 37, 38, 39, 40, 41, 42, 43, 44, 45, 46, 47, 48, 49, 50, 51, 52, 53, 54, 55] (by decide +kernel) (by decide +kernel)) (goodIn_sub (fun _ h => List.mem_cons_of_mem _ (List.mem_append_right _ h)) (by decide +kernel))
set_option maxRecDepth 20000 in
theorem gX11_quantity_X11_quantityOf : GoodIn wsX11_quantity (wsV RX11 158 RX11 yX11_quantityOf wsX11_quantityOf) := goodIn_app (goodIn_of _ (by decide +kernel)) ggX11_quantity_X11_quantityOf
theorem dX11_quantity_0 : decode cX11_quantity 0 = .ok (.aload_n 0, 1) := by decide +kernel
theorem dX11_quantity_1 : decode cX11_quantity 1 = .ok (.iconst 0, 1) := by decide +kernel
theorem dX11_quantity_2 : decode cX11_quantity 2 = .ok (.putfield 86, 3) := by decide +kernel
theorem dX11_quantity_5 : decode cX11_quantity 5 = .ok (.aload_n 0, 1) := by decide +kernel
theorem dX11_quantity_6 : decode cX11_quantity 6 = .ok (.aload_n 0, 1) := by decide +kernel
theorem dX11_quantity_7 : decode cX11_quantity 7 = .ok (.iload_n 1, 1) := by decide +kernel
theorem dX11_quantity_8 : decode cX11_quantity 8 = .ok (.invokevirtual 155, 3) := by decide +kernel
theorem dX11_quantity_11 : decode cX11_quantity 11 = .ok (.iconst 1, 1) := by decide +kernel
theorem dX11_quantity_12 : decode cX11_quantity 12 = .ok (.invokevirtual 106, 3) := by decide +kernel
theorem dX11_quantity_15 : decode cX11_quantity 15 = .ok (.ifCond .eq 7, 3) := by decide +kernel
theorem dX11_quantity_18 : decode cX11_quantity 18 = .ok (.iconst 0, 1) := by decide +kernel
theorem dX11_quantity_19 : decode cX11_quantity 19 = .ok (.goto 8, 3) := by decide +kernel
theorem dX11_quantity_22 : decode cX11_quantity 22 = .ok (.aload_n 0, 1) := by decide +kernel
theorem dX11_quantity_23 : decode cX11_quantity 23 = .ok (.iload_n 1, 1) := by decide +kernel
theorem dX11_quantity_24 : decode cX11_quantity 24 = .ok (.invokevirtual 158, 3) := by decide +kernel
theorem dX11_quantity_27 : decode cX11_quantity 27 = .ok (.ireturn, 1) := by decide +kernel
theorem dX11_rows_0 : decode cX11_rows 0 = .ok (.aload_n 0, 1) := by decide +kernel
theorem dX11_rows_1 : decode cX11_rows 1 = .ok (.iconst 0, 1) := by decide +kernel
theorem dX11_rows_2 : decode cX11_rows 2 = .ok (.putfield 86, 3) := by decide +kernel
theorem dX11_rows_5 : decode cX11_rows 5 = .ok (.aload_n 0, 1) := by decide +kernel
theorem dX11_rows_6 : decode cX11_rows 6 = .ok (.getfield 152, 3) := by decide +kernel
theorem dX11_rows_9 : decode cX11_rows 9 = .ok (.ireturn, 1) := by decide +kernel
set_option maxRecDepth 20000 in
theorem ggX11_addVariant_X11_fails : GoodIn wsX11_addVariant wsX11_fails := goodIn_r _ [9, 1, 10, 11, 12, 13, 14, 15, 16, 17, 18, 19, 20, 21, 22, 23, 24, 25, 26, 27, 28, 29, 30, 31, 32, 33, 34, 35, 36, 37, 38, 39, 40, 41, 42, 43] (by decide +kernel) (by decide +kernel)
set_option maxRecDepth 20000 in
theorem gX11_addVariant_X11_fails : GoodIn wsX11_addVariant (wsV RX11 106 RX11 yX11_fails wsX11_fails) := goodIn_app (goodIn_of _ (by decide +kernel)) ggX11_addVariant_X11_fails
theorem dX11_addVariant_0 : decode cX11_addVariant 0 = .ok (.aload_n 0, 1) := by decide +kernel
theorem dX11_addVariant_1 : decode cX11_addVariant 1 = .ok (.iconst 0, 1) := by decide +kernel
theorem dX11_addVariant_2 : decode cX11_addVariant 2 = .ok (.putfield 86, 3) := by decide +kernel
theorem dX11_addVariant_5 : decode cX11_addVariant 5 = .ok (.aload_n 0, 1) := by decide +kernel
theorem dX11_addVariant_6 : decode cX11_addVariant 6 = .ok (.aload_n 0, 1) := by decide +kernel
theorem dX11_addVariant_7 : decode cX11_addVariant 7 = .ok (.getfield 103, 3) := by decide +kernel
theorem dX11_addVariant_10 : decode cX11_addVariant 10 = .ok (.iconst 4, 1) := by decide +kernel
theorem dX11_addVariant_11 : decode cX11_addVariant 11 = .ok (.if_icmp .ne 7, 3) := by decide +kernel
theorem dX11_addVariant_14 : decode cX11_addVariant 14 = .ok (.iconst 1, 1) := by decide +kernel
theorem dX11_addVariant_15 : decode cX11_addVariant 15 = .ok (.goto 4, 3) := by decide +kernel
theorem dX11_addVariant_18 : decode cX11_addVariant 18 = .ok (.iconst 0, 1) := by decide +kernel
theorem dX11_addVariant_19 : decode cX11_addVariant 19 = .ok (.iconst 1, 1) := by decide +kernel
theorem dX11_addVariant_20 : decode cX11_addVariant 20 = .ok (.invokevirtual 106, 3) := by decide +kernel
theorem dX11_addVariant_23 : decode cX11_addVariant 23 = .ok (.ifCond .eq 5, 3) := by decide +kernel
theorem dX11_addVariant_26 : decode cX11_addVariant 26 = .ok (.iconst 0, 1) := by decide +kernel
theorem dX11_addVariant_27 : decode cX11_addVariant 27 = .ok (.ireturn, 1) := by decide +kernel
theorem dX11_addVariant_28 : decode cX11_addVariant 28 = .ok (.iconst 0, 1) := by decide +kernel
theorem dX11_addVariant_29 : decode cX11_addVariant 29 = .ok (.istore_n 1, 1) := by decide +kernel
theorem dX11_addVariant_30 : decode cX11_addVariant 30 = .ok (.iload_n 1, 1) := by decide +kernel
theorem dX11_addVariant_31 : decode cX11_addVariant 31 = .ok (.bipush 12, 2) := by decide +kernel
theorem dX11_addVariant_33 : decode cX11_addVariant 33 = .ok (.if_icmp .ge 39, 3) := by decide +kernel
theorem dX11_addVariant_36 : decode cX11_addVariant 36 = .ok (.aload_n 0, 1) := by decide +kernel
theorem dX11_addVariant_37 : decode cX11_addVariant 37 = .ok (.getfield 55, 3) := by decide +kernel
theorem dX11_addVariant_40 : decode cX11_addVariant 40 = .ok (.bipush 12, 2) := by decide +kernel
theorem dX11_addVariant_42 : decode cX11_addVariant 42 = .ok (.aload_n 0, 1) := by decide +kernel
theorem dX11_addVariant_43 : decode cX11_addVariant 43 = .ok (.getfield 103, 3) := by decide +kernel
theorem dX11_addVariant_46 : decode cX11_addVariant 46 = .ok (.imul, 1) := by decide +kernel
theorem dX11_addVariant_47 : decode cX11_addVariant 47 = .ok (.iload_n 1, 1) := by decide +kernel
theorem dX11_addVariant_48 : decode cX11_addVariant 48 = .ok (.iadd, 1) := by decide +kernel
theorem dX11_addVariant_49 : decode cX11_addVariant 49 = .ok (.iconst (-1), 1) := by decide +kernel
theorem dX11_addVariant_50 : decode cX11_addVariant 50 = .ok (.iastore, 1) := by decide +kernel
theorem dX11_addVariant_51 : decode cX11_addVariant 51 = .ok (.aload_n 0, 1) := by decide +kernel
theorem dX11_addVariant_52 : decode cX11_addVariant 52 = .ok (.getfield 58, 3) := by decide +kernel
theorem dX11_addVariant_55 : decode cX11_addVariant 55 = .ok (.bipush 12, 2) := by decide +kernel
theorem dX11_addVariant_57 : decode cX11_addVariant 57 = .ok (.aload_n 0, 1) := by decide +kernel
theorem dX11_addVariant_58 : decode cX11_addVariant 58 = .ok (.getfield 103, 3) := by decide +kernel
theorem dX11_addVariant_61 : decode cX11_addVariant 61 = .ok (.imul, 1) := by decide +kernel
theorem dX11_addVariant_62 : decode cX11_addVariant 62 = .ok (.iload_n 1, 1) := by decide +kernel
theorem dX11_addVariant_63 : decode cX11_addVariant 63 = .ok (.iadd, 1) := by decide +kernel
theorem dX11_addVariant_64 : decode cX11_addVariant 64 = .ok (.iconst (-1), 1) := by decide +kernel
theorem dX11_addVariant_65 : decode cX11_addVariant 65 = .ok (.iastore, 1) := by decide +kernel
theorem dX11_addVariant_66 : decode cX11_addVariant 66 = .ok (.iinc 1 1, 3) := by decide +kernel
theorem dX11_addVariant_69 : decode cX11_addVariant 69 = .ok (.goto (-39), 3) := by decide +kernel
theorem dX11_addVariant_72 : decode cX11_addVariant 72 = .ok (.aload_n 0, 1) := by decide +kernel
theorem dX11_addVariant_73 : decode cX11_addVariant 73 = .ok (.dup, 1) := by decide +kernel
theorem dX11_addVariant_74 : decode cX11_addVariant 74 = .ok (.getfield 103, 3) := by decide +kernel
theorem dX11_addVariant_77 : decode cX11_addVariant 77 = .ok (.iconst 1, 1) := by decide +kernel
theorem dX11_addVariant_78 : decode cX11_addVariant 78 = .ok (.iadd, 1) := by decide +kernel
theorem dX11_addVariant_79 : decode cX11_addVariant 79 = .ok (.putfield 103, 3) := by decide +kernel
theorem dX11_addVariant_82 : decode cX11_addVariant 82 = .ok (.aload_n 0, 1) := by decide +kernel
theorem dX11_addVariant_83 : decode cX11_addVariant 83 = .ok (.getfield 103, 3) := by decide +kernel
theorem dX11_addVariant_86 : decode cX11_addVariant 86 = .ok (.iconst 1, 1) := by decide +kernel
theorem dX11_addVariant_87 : decode cX11_addVariant 87 = .ok (.isub, 1) := by decide +kernel
theorem dX11_addVariant_88 : decode cX11_addVariant 88 = .ok (.ireturn, 1) := by decide +kernel
theorem dX11_told_0 : decode cX11_told 0 = .ok (.iconst 0, 1) := by decide +kernel
theorem dX11_told_1 : decode cX11_told 1 = .ok (.istore_n 2, 1) := by decide +kernel
theorem dX11_told_2 : decode cX11_told 2 = .ok (.iconst 0, 1) := by decide +kernel
theorem dX11_told_3 : decode cX11_told 3 = .ok (.istore_n 3, 1) := by decide +kernel
theorem dX11_told_4 : decode cX11_told 4 = .ok (.iload_n 3, 1) := by decide +kernel
theorem dX11_told_5 : decode cX11_told 5 = .ok (.bipush 12, 2) := by decide +kernel
theorem dX11_told_7 : decode cX11_told 7 = .ok (.if_icmp .ge 26, 3) := by decide +kernel
theorem dX11_told_10 : decode cX11_told 10 = .ok (.iload_n 2, 1) := by decide +kernel
theorem dX11_told_11 : decode cX11_told 11 = .ok (.aload_n 0, 1) := by decide +kernel
theorem dX11_told_12 : decode cX11_told 12 = .ok (.iload_n 1, 1) := by decide +kernel
theorem dX11_told_13 : decode cX11_told 13 = .ok (.iload_n 3, 1) := by decide +kernel
theorem dX11_told_14 : decode cX11_told 14 = .ok (.iadd, 1) := by decide +kernel
theorem dX11_told_15 : decode cX11_told 15 = .ok (.iaload, 1) := by decide +kernel
theorem dX11_told_16 : decode cX11_told 16 = .ok (.iconst (-1), 1) := by decide +kernel
theorem dX11_told_17 : decode cX11_told 17 = .ok (.if_icmp .ne 7, 3) := by decide +kernel
theorem dX11_told_20 : decode cX11_told 20 = .ok (.iconst 0, 1) := by decide +kernel
theorem dX11_told_21 : decode cX11_told 21 = .ok (.goto 4, 3) := by decide +kernel
theorem dX11_told_24 : decode cX11_told 24 = .ok (.iconst 1, 1) := by decide +kernel
theorem dX11_told_25 : decode cX11_told 25 = .ok (.iadd, 1) := by decide +kernel
theorem dX11_told_26 : decode cX11_told 26 = .ok (.istore_n 2, 1) := by decide +kernel
theorem dX11_told_27 : decode cX11_told 27 = .ok (.iinc 3 1, 3) := by decide +kernel
theorem dX11_told_30 : decode cX11_told 30 = .ok (.goto (-26), 3) := by decide +kernel
theorem dX11_told_33 : decode cX11_told 33 = .ok (.iload_n 2, 1) := by decide +kernel
theorem dX11_told_34 : decode cX11_told 34 = .ok (.ireturn, 1) := by decide +kernel
set_option maxRecDepth 20000 in
theorem ggX11_replaceItem_X11_noVariant : GoodIn wsX11_replaceItem wsX11_noVariant := goodIn_r _ [8, 9, 10, 11, 7, 12, 25, 26, 27, 28, 29, 30, 31, 32, 33, 34, 35, 36, 37, 38, 39, 40, 41, 42, 43, 44, 45, 46, 47, 48, 49, 50, 51, 52, 53, 54, 55, 56, 57, 58] (by decide +kernel) (by decide +kernel)
set_option maxRecDepth 20000 in
theorem gX11_replaceItem_X11_noVariant : GoodIn wsX11_replaceItem (wsV RX11 164 RX11 yX11_noVariant wsX11_noVariant) := goodIn_app (goodIn_of _ (by decide +kernel)) ggX11_replaceItem_X11_noVariant
set_option maxRecDepth 20000 in
theorem ggX11_replaceItem_X11_noItem : GoodIn wsX11_replaceItem wsX11_noItem := goodIn_r _ [16, 17, 10, 11, 7, 12, 25, 26, 27, 28, 29, 30, 31, 32, 33, 34, 35, 36, 37, 38, 39, 40, 41, 42, 43, 44, 45, 46, 47, 48, 49, 50, 51, 52, 53, 54, 55, 56, 57, 58] (by decide +kernel) (by decide +kernel)
set_option maxRecDepth 20000 in
theorem gX11_replaceItem_X11_noItem : GoodIn wsX11_replaceItem (wsV RX11 127 RX11 yX11_noItem wsX11_noItem) := goodIn_app (goodIn_of _ (by decide +kernel)) ggX11_replaceItem_X11_noItem
set_option maxRecDepth 20000 in
theorem ggX11_replaceItem_X11_fails : GoodIn wsX11_replaceItem wsX11_fails := goodIn_r _ [21, 1, 25, 26, 27, 28, 29, 30, 31, 32, 33, 34, 35, 36, 37, 38, 39, 40, 41, 42, 43, 44, 45, 46, 47, 48, 49, 50, 51, 52, 53, 54, 55, 56, 57, 58] (by decide +kernel) (by decide +kernel)
set_option maxRecDepth 20000 in
theorem gX11_replaceItem_X11_fails : GoodIn wsX11_replaceItem (wsV RX11 106 RX11 yX11_fails wsX11_fails) := goodIn_app (goodIn_of _ (by decide +kernel)) ggX11_replaceItem_X11_fails
set_option maxRecDepth 20000 in
theorem ggX11_replaceItem_X11_told : GoodIn wsX11_replaceItem wsX11_told := goodIn_ca (goodIn_r _ [24] (by decide +kernel) (by decide +kernel)) (goodIn_sub (fun _ h => List.mem_cons_of_mem _ (List.mem_append_right _ h)) (by decide +kernel))
set_option maxRecDepth 20000 in
theorem gX11_replaceItem_X11_told : GoodIn wsX11_replaceItem (va_wsS RX11 167 yX11_told wsX11_told) := goodIn_app (goodIn_of _ (by decide +kernel)) ggX11_replaceItem_X11_told
theorem dX11_replaceItem_0 : decode cX11_replaceItem 0 = .ok (.aload_n 0, 1) := by decide +kernel
theorem dX11_replaceItem_1 : decode cX11_replaceItem 1 = .ok (.iconst 0, 1) := by decide +kernel
theorem dX11_replaceItem_2 : decode cX11_replaceItem 2 = .ok (.putfield 86, 3) := by decide +kernel
theorem dX11_replaceItem_5 : decode cX11_replaceItem 5 = .ok (.aload_n 0, 1) := by decide +kernel
theorem dX11_replaceItem_6 : decode cX11_replaceItem 6 = .ok (.aload_n 0, 1) := by decide +kernel
theorem dX11_replaceItem_7 : decode cX11_replaceItem 7 = .ok (.iload_n 1, 1) := by decide +kernel
theorem dX11_replaceItem_8 : decode cX11_replaceItem 8 = .ok (.invokevirtual 164, 3) := by decide +kernel
theorem dX11_replaceItem_11 : decode cX11_replaceItem 11 = .ok (.ifCond .ne 19, 3) := by decide +kernel
theorem dX11_replaceItem_14 : decode cX11_replaceItem 14 = .ok (.aload_n 0, 1) := by decide +kernel
theorem dX11_replaceItem_15 : decode cX11_replaceItem 15 = .ok (.iload_n 2, 1) := by decide +kernel
theorem dX11_replaceItem_16 : decode cX11_replaceItem 16 = .ok (.invokevirtual 127, 3) := by decide +kernel
theorem dX11_replaceItem_19 : decode cX11_replaceItem 19 = .ok (.ifCond .ne 11, 3) := by decide +kernel
theorem dX11_replaceItem_22 : decode cX11_replaceItem 22 = .ok (.aload_n 0, 1) := by decide +kernel
theorem dX11_replaceItem_23 : decode cX11_replaceItem 23 = .ok (.iload_n 3, 1) := by decide +kernel
theorem dX11_replaceItem_24 : decode cX11_replaceItem 24 = .ok (.invokevirtual 127, 3) := by decide +kernel
theorem dX11_replaceItem_27 : decode cX11_replaceItem 27 = .ok (.ifCond .eq 7, 3) := by decide +kernel
theorem dX11_replaceItem_30 : decode cX11_replaceItem 30 = .ok (.iconst 1, 1) := by decide +kernel
theorem dX11_replaceItem_31 : decode cX11_replaceItem 31 = .ok (.goto 4, 3) := by decide +kernel
theorem dX11_replaceItem_34 : decode cX11_replaceItem 34 = .ok (.iconst 0, 1) := by decide +kernel
theorem dX11_replaceItem_35 : decode cX11_replaceItem 35 = .ok (.iconst 1, 1) := by decide +kernel
theorem dX11_replaceItem_36 : decode cX11_replaceItem 36 = .ok (.invokevirtual 106, 3) := by decide +kernel
theorem dX11_replaceItem_39 : decode cX11_replaceItem 39 = .ok (.ifCond .ne 46, 3) := by decide +kernel
theorem dX11_replaceItem_42 : decode cX11_replaceItem 42 = .ok (.aload_n 0, 1) := by decide +kernel
theorem dX11_replaceItem_43 : decode cX11_replaceItem 43 = .ok (.iload_n 2, 1) := by decide +kernel
theorem dX11_replaceItem_44 : decode cX11_replaceItem 44 = .ok (.iload_n 3, 1) := by decide +kernel
theorem dX11_replaceItem_45 : decode cX11_replaceItem 45 = .ok (.if_icmp .ne 7, 3) := by decide +kernel
theorem dX11_replaceItem_48 : decode cX11_replaceItem 48 = .ok (.iconst 1, 1) := by decide +kernel
theorem dX11_replaceItem_49 : decode cX11_replaceItem 49 = .ok (.goto 4, 3) := by decide +kernel
theorem dX11_replaceItem_52 : decode cX11_replaceItem 52 = .ok (.iconst 0, 1) := by decide +kernel
theorem dX11_replaceItem_53 : decode cX11_replaceItem 53 = .ok (.iconst 2, 1) := by decide +kernel
theorem dX11_replaceItem_54 : decode cX11_replaceItem 54 = .ok (.invokevirtual 106, 3) := by decide +kernel
theorem dX11_replaceItem_57 : decode cX11_replaceItem 57 = .ok (.ifCond .ne 28, 3) := by decide +kernel
theorem dX11_replaceItem_60 : decode cX11_replaceItem 60 = .ok (.aload_n 0, 1) := by decide +kernel
theorem dX11_replaceItem_61 : decode cX11_replaceItem 61 = .ok (.aload_n 0, 1) := by decide +kernel
theorem dX11_replaceItem_62 : decode cX11_replaceItem 62 = .ok (.getfield 117, 3) := by decide +kernel
theorem dX11_replaceItem_65 : decode cX11_replaceItem 65 = .ok (.iload_n 1, 1) := by decide +kernel
theorem dX11_replaceItem_66 : decode cX11_replaceItem 66 = .ok (.ishr, 1) := by decide +kernel
theorem dX11_replaceItem_67 : decode cX11_replaceItem 67 = .ok (.iconst 1, 1) := by decide +kernel
theorem dX11_replaceItem_68 : decode cX11_replaceItem 68 = .ok (.iand, 1) := by decide +kernel
theorem dX11_replaceItem_69 : decode cX11_replaceItem 69 = .ok (.iconst 1, 1) := by decide +kernel
theorem dX11_replaceItem_70 : decode cX11_replaceItem 70 = .ok (.if_icmp .ne 7, 3) := by decide +kernel
theorem dX11_replaceItem_73 : decode cX11_replaceItem 73 = .ok (.iconst 1, 1) := by decide +kernel
theorem dX11_replaceItem_74 : decode cX11_replaceItem 74 = .ok (.goto 4, 3) := by decide +kernel
theorem dX11_replaceItem_77 : decode cX11_replaceItem 77 = .ok (.iconst 0, 1) := by decide +kernel
theorem dX11_replaceItem_78 : decode cX11_replaceItem 78 = .ok (.iconst 3, 1) := by decide +kernel
theorem dX11_replaceItem_79 : decode cX11_replaceItem 79 = .ok (.invokevirtual 106, 3) := by decide +kernel
theorem dX11_replaceItem_82 : decode cX11_replaceItem 82 = .ok (.ifCond .eq 5, 3) := by decide +kernel
theorem dX11_replaceItem_85 : decode cX11_replaceItem 85 = .ok (.iconst 0, 1) := by decide +kernel
theorem dX11_replaceItem_86 : decode cX11_replaceItem 86 = .ok (.ireturn, 1) := by decide +kernel
theorem dX11_replaceItem_87 : decode cX11_replaceItem 87 = .ok (.aload_n 0, 1) := by decide +kernel
theorem dX11_replaceItem_88 : decode cX11_replaceItem 88 = .ok (.getfield 55, 3) := by decide +kernel
theorem dX11_replaceItem_91 : decode cX11_replaceItem 91 = .ok (.bipush 12, 2) := by decide +kernel
theorem dX11_replaceItem_93 : decode cX11_replaceItem 93 = .ok (.iload_n 1, 1) := by decide +kernel
theorem dX11_replaceItem_94 : decode cX11_replaceItem 94 = .ok (.imul, 1) := by decide +kernel
theorem dX11_replaceItem_95 : decode cX11_replaceItem 95 = .ok (.iload_n 2, 1) := by decide +kernel
theorem dX11_replaceItem_96 : decode cX11_replaceItem 96 = .ok (.iadd, 1) := by decide +kernel
theorem dX11_replaceItem_97 : decode cX11_replaceItem 97 = .ok (.iload_n 3, 1) := by decide +kernel
theorem dX11_replaceItem_98 : decode cX11_replaceItem 98 = .ok (.iastore, 1) := by decide +kernel
theorem dX11_replaceItem_99 : decode cX11_replaceItem 99 = .ok (.aload_n 0, 1) := by decide +kernel
theorem dX11_replaceItem_100 : decode cX11_replaceItem 100 = .ok (.getfield 55, 3) := by decide +kernel
theorem dX11_replaceItem_103 : decode cX11_replaceItem 103 = .ok (.bipush 12, 2) := by decide +kernel
theorem dX11_replaceItem_105 : decode cX11_replaceItem 105 = .ok (.iload_n 1, 1) := by decide +kernel
theorem dX11_replaceItem_106 : decode cX11_replaceItem 106 = .ok (.imul, 1) := by decide +kernel
theorem dX11_replaceItem_107 : decode cX11_replaceItem 107 = .ok (.invokestatic 167, 3) := by decide +kernel
theorem dX11_replaceItem_110 : decode cX11_replaceItem 110 = .ok (.ireturn, 1) := by decide +kernel
set_option maxRecDepth 20000 in
theorem ggX11_replaceResource_X11_noVariant : GoodIn wsX11_replaceResource wsX11_noVariant := goodIn_r _ [9, 10, 11, 12, 8, 13, 26, 27, 28, 29, 30, 31, 32, 33, 34, 35, 36, 37, 38, 39, 40, 41, 42, 43, 44, 45, 46, 47, 48, 49, 50, 51, 52, 53, 54, 55, 56, 57, 58, 59] (by decide +kernel) (by decide +kernel)
set_option maxRecDepth 20000 in
theorem gX11_replaceResource_X11_noVariant : GoodIn wsX11_replaceResource (wsV RX11 164 RX11 yX11_noVariant wsX11_noVariant) := goodIn_app (goodIn_of _ (by decide +kernel)) ggX11_replaceResource_X11_noVariant
set_option maxRecDepth 20000 in
theorem ggX11_replaceResource_X11_noResource : GoodIn wsX11_replaceResource wsX11_noResource := goodIn_r _ [17, 18, 11, 12, 8, 13, 26, 27, 28, 29, 30, 31, 32, 33, 34, 35, 36, 37, 38, 39, 40, 41, 42, 43, 44, 45, 46, 47, 48, 49, 50, 51, 52, 53, 54, 55, 56, 57, 58, 59] (by decide +kernel) (by decide +kernel)
set_option maxRecDepth 20000 in
theorem gX11_replaceResource_X11_noResource : GoodIn wsX11_replaceResource (wsV RX11 110 RX11 yX11_noResource wsX11_noResource) := goodIn_app (goodIn_of _ (by decide +kernel)) ggX11_replaceResource_X11_noResource
set_option maxRecDepth 20000 in
theorem ggX11_replaceResource_X11_fails : GoodIn wsX11_replaceResource wsX11_fails := goodIn_r _ [22, 1, 26, 27, 28, 29, 30, 31, 32, 33, 34, 35, 36, 37, 38, 39, 40, 41, 42, 43, 44, 45, 46, 47, 48, 49, 50, 51, 52, 53, 54, 55, 56, 57, 58, 59] (by decide +kernel) (by decide +kernel)
set_option maxRecDepth 20000 in
theorem gX11_replaceResource_X11_fails : GoodIn wsX11_replaceResource (wsV RX11 106 RX11 yX11_fails wsX11_fails) := goodIn_app (goodIn_of _ (by decide +kernel)) ggX11_replaceResource_X11_fails
set_option maxRecDepth 20000 in
theorem ggX11_replaceResource_X11_told : GoodIn wsX11_replaceResource wsX11_told := goodIn_ca (goodIn_r _ [25] (by decide +kernel) (by decide +kernel)) (goodIn_sub (fun _ h => List.mem_cons_of_mem _ (List.mem_append_right _ h)) (by decide +kernel))
set_option maxRecDepth 20000 in
theorem gX11_replaceResource_X11_told : GoodIn wsX11_replaceResource (va_wsS RX11 167 yX11_told wsX11_told) := goodIn_app (goodIn_of _ (by decide +kernel)) ggX11_replaceResource_X11_told
theorem dX11_replaceResource_0 : decode cX11_replaceResource 0 = .ok (.aload_n 0, 1) := by decide +kernel
theorem dX11_replaceResource_1 : decode cX11_replaceResource 1 = .ok (.iconst 0, 1) := by decide +kernel
theorem dX11_replaceResource_2 : decode cX11_replaceResource 2 = .ok (.putfield 86, 3) := by decide +kernel
theorem dX11_replaceResource_5 : decode cX11_replaceResource 5 = .ok (.aload_n 0, 1) := by decide +kernel
theorem dX11_replaceResource_6 : decode cX11_replaceResource 6 = .ok (.aload_n 0, 1) := by decide +kernel
theorem dX11_replaceResource_7 : decode cX11_replaceResource 7 = .ok (.iload_n 1, 1) := by decide +kernel
theorem dX11_replaceResource_8 : decode cX11_replaceResource 8 = .ok (.invokevirtual 164, 3) := by decide +kernel
theorem dX11_replaceResource_11 : decode cX11_replaceResource 11 = .ok (.ifCond .ne 19, 3) := by decide +kernel
theorem dX11_replaceResource_14 : decode cX11_replaceResource 14 = .ok (.aload_n 0, 1) := by decide +kernel
theorem dX11_replaceResource_15 : decode cX11_replaceResource 15 = .ok (.iload_n 2, 1) := by decide +kernel
theorem dX11_replaceResource_16 : decode cX11_replaceResource 16 = .ok (.invokevirtual 110, 3) := by decide +kernel
theorem dX11_replaceResource_19 : decode cX11_replaceResource 19 = .ok (.ifCond .ne 11, 3) := by decide +kernel
theorem dX11_replaceResource_22 : decode cX11_replaceResource 22 = .ok (.aload_n 0, 1) := by decide +kernel
theorem dX11_replaceResource_23 : decode cX11_replaceResource 23 = .ok (.iload_n 3, 1) := by decide +kernel
theorem dX11_replaceResource_24 : decode cX11_replaceResource 24 = .ok (.invokevirtual 110, 3) := by decide +kernel
theorem dX11_replaceResource_27 : decode cX11_replaceResource 27 = .ok (.ifCond .eq 7, 3) := by decide +kernel
theorem dX11_replaceResource_30 : decode cX11_replaceResource 30 = .ok (.iconst 1, 1) := by decide +kernel
theorem dX11_replaceResource_31 : decode cX11_replaceResource 31 = .ok (.goto 4, 3) := by decide +kernel
theorem dX11_replaceResource_34 : decode cX11_replaceResource 34 = .ok (.iconst 0, 1) := by decide +kernel
theorem dX11_replaceResource_35 : decode cX11_replaceResource 35 = .ok (.iconst 1, 1) := by decide +kernel
theorem dX11_replaceResource_36 : decode cX11_replaceResource 36 = .ok (.invokevirtual 106, 3) := by decide +kernel
theorem dX11_replaceResource_39 : decode cX11_replaceResource 39 = .ok (.ifCond .ne 61, 3) := by decide +kernel
theorem dX11_replaceResource_42 : decode cX11_replaceResource 42 = .ok (.aload_n 0, 1) := by decide +kernel
theorem dX11_replaceResource_43 : decode cX11_replaceResource 43 = .ok (.iload_n 2, 1) := by decide +kernel
theorem dX11_replaceResource_44 : decode cX11_replaceResource 44 = .ok (.iload_n 3, 1) := by decide +kernel
theorem dX11_replaceResource_45 : decode cX11_replaceResource 45 = .ok (.if_icmp .eq 18, 3) := by decide +kernel
theorem dX11_replaceResource_48 : decode cX11_replaceResource 48 = .ok (.aload_n 0, 1) := by decide +kernel
theorem dX11_replaceResource_49 : decode cX11_replaceResource 49 = .ok (.getfield 7, 3) := by decide +kernel
theorem dX11_replaceResource_52 : decode cX11_replaceResource 52 = .ok (.iload_n 2, 1) := by decide +kernel
theorem dX11_replaceResource_53 : decode cX11_replaceResource 53 = .ok (.iaload, 1) := by decide +kernel
theorem dX11_replaceResource_54 : decode cX11_replaceResource 54 = .ok (.aload_n 0, 1) := by decide +kernel
theorem dX11_replaceResource_55 : decode cX11_replaceResource 55 = .ok (.getfield 7, 3) := by decide +kernel
theorem dX11_replaceResource_58 : decode cX11_replaceResource 58 = .ok (.iload_n 3, 1) := by decide +kernel
theorem dX11_replaceResource_59 : decode cX11_replaceResource 59 = .ok (.iaload, 1) := by decide +kernel
theorem dX11_replaceResource_60 : decode cX11_replaceResource 60 = .ok (.if_icmp .eq 7, 3) := by decide +kernel
theorem dX11_replaceResource_63 : decode cX11_replaceResource 63 = .ok (.iconst 1, 1) := by decide +kernel
theorem dX11_replaceResource_64 : decode cX11_replaceResource 64 = .ok (.goto 4, 3) := by decide +kernel
theorem dX11_replaceResource_67 : decode cX11_replaceResource 67 = .ok (.iconst 0, 1) := by decide +kernel
theorem dX11_replaceResource_68 : decode cX11_replaceResource 68 = .ok (.iconst 2, 1) := by decide +kernel
theorem dX11_replaceResource_69 : decode cX11_replaceResource 69 = .ok (.invokevirtual 106, 3) := by decide +kernel
theorem dX11_replaceResource_72 : decode cX11_replaceResource 72 = .ok (.ifCond .ne 28, 3) := by decide +kernel
theorem dX11_replaceResource_75 : decode cX11_replaceResource 75 = .ok (.aload_n 0, 1) := by decide +kernel
theorem dX11_replaceResource_76 : decode cX11_replaceResource 76 = .ok (.aload_n 0, 1) := by decide +kernel
theorem dX11_replaceResource_77 : decode cX11_replaceResource 77 = .ok (.getfield 117, 3) := by decide +kernel
theorem dX11_replaceResource_80 : decode cX11_replaceResource 80 = .ok (.iload_n 1, 1) := by decide +kernel
theorem dX11_replaceResource_81 : decode cX11_replaceResource 81 = .ok (.ishr, 1) := by decide +kernel
theorem dX11_replaceResource_82 : decode cX11_replaceResource 82 = .ok (.iconst 1, 1) := by decide +kernel
theorem dX11_replaceResource_83 : decode cX11_replaceResource 83 = .ok (.iand, 1) := by decide +kernel
theorem dX11_replaceResource_84 : decode cX11_replaceResource 84 = .ok (.iconst 1, 1) := by decide +kernel
theorem dX11_replaceResource_85 : decode cX11_replaceResource 85 = .ok (.if_icmp .ne 7, 3) := by decide +kernel
theorem dX11_replaceResource_88 : decode cX11_replaceResource 88 = .ok (.iconst 1, 1) := by decide +kernel
theorem dX11_replaceResource_89 : decode cX11_replaceResource 89 = .ok (.goto 4, 3) := by decide +kernel
theorem dX11_replaceResource_92 : decode cX11_replaceResource 92 = .ok (.iconst 0, 1) := by decide +kernel
theorem dX11_replaceResource_93 : decode cX11_replaceResource 93 = .ok (.iconst 3, 1) := by decide +kernel
theorem dX11_replaceResource_94 : decode cX11_replaceResource 94 = .ok (.invokevirtual 106, 3) := by decide +kernel
theorem dX11_replaceResource_97 : decode cX11_replaceResource 97 = .ok (.ifCond .eq 5, 3) := by decide +kernel
theorem dX11_replaceResource_100 : decode cX11_replaceResource 100 = .ok (.iconst 0, 1) := by decide +kernel
theorem dX11_replaceResource_101 : decode cX11_replaceResource 101 = .ok (.ireturn, 1) := by decide +kernel
theorem dX11_replaceResource_102 : decode cX11_replaceResource 102 = .ok (.aload_n 0, 1) := by decide +kernel
theorem dX11_replaceResource_103 : decode cX11_replaceResource 103 = .ok (.getfield 58, 3) := by decide +kernel
theorem dX11_replaceResource_106 : decode cX11_replaceResource 106 = .ok (.bipush 12, 2) := by decide +kernel
theorem dX11_replaceResource_108 : decode cX11_replaceResource 108 = .ok (.iload_n 1, 1) := by decide +kernel
theorem dX11_replaceResource_109 : decode cX11_replaceResource 109 = .ok (.imul, 1) := by decide +kernel
theorem dX11_replaceResource_110 : decode cX11_replaceResource 110 = .ok (.iload_n 2, 1) := by decide +kernel
theorem dX11_replaceResource_111 : decode cX11_replaceResource 111 = .ok (.iadd, 1) := by decide +kernel
theorem dX11_replaceResource_112 : decode cX11_replaceResource 112 = .ok (.iload_n 3, 1) := by decide +kernel
theorem dX11_replaceResource_113 : decode cX11_replaceResource 113 = .ok (.iastore, 1) := by decide +kernel
theorem dX11_replaceResource_114 : decode cX11_replaceResource 114 = .ok (.aload_n 0, 1) := by decide +kernel
theorem dX11_replaceResource_115 : decode cX11_replaceResource 115 = .ok (.getfield 58, 3) := by decide +kernel
theorem dX11_replaceResource_118 : decode cX11_replaceResource 118 = .ok (.bipush 12, 2) := by decide +kernel
theorem dX11_replaceResource_120 : decode cX11_replaceResource 120 = .ok (.iload_n 1, 1) := by decide +kernel
theorem dX11_replaceResource_121 : decode cX11_replaceResource 121 = .ok (.imul, 1) := by decide +kernel
theorem dX11_replaceResource_122 : decode cX11_replaceResource 122 = .ok (.invokestatic 167, 3) := by decide +kernel
theorem dX11_replaceResource_125 : decode cX11_replaceResource 125 = .ok (.ireturn, 1) := by decide +kernel
set_option maxRecDepth 20000 in
theorem ggX11_turn_X11_noVariant : GoodIn wsX11_turn wsX11_noVariant := goodIn_r _ [7, 8, 9, 10, 6, 11, 35, 36, 37, 38, 39, 40, 41, 42, 43, 44, 45, 46, 47, 48, 49, 50, 51, 52, 53, 54, 55, 56, 57, 58, 59, 60, 61, 62, 63, 64, 65, 66, 67, 68] (by decide +kernel) (by decide +kernel)
set_option maxRecDepth 20000 in
theorem gX11_turn_X11_noVariant : GoodIn wsX11_turn (wsV RX11 164 RX11 yX11_noVariant wsX11_noVariant) := goodIn_app (goodIn_of _ (by decide +kernel)) ggX11_turn_X11_noVariant
set_option maxRecDepth 20000 in
theorem ggX11_turn_X11_fails : GoodIn wsX11_turn wsX11_fails := goodIn_r _ [15, 1, 35, 36, 37, 38, 39, 40, 41, 42, 43, 44, 45, 46, 47, 48, 49, 50, 51, 52, 53, 54, 55, 56, 57, 58, 59, 60, 61, 62, 63, 64, 65, 66, 67, 68] (by decide +kernel) (by decide +kernel)
set_option maxRecDepth 20000 in
theorem gX11_turn_X11_fails : GoodIn wsX11_turn (wsV RX11 106 RX11 yX11_fails wsX11_fails) := goodIn_app (goodIn_of _ (by decide +kernel)) ggX11_turn_X11_fails
set_option maxRecDepth 20000 in
theorem ggX11_turn_X11_isAllowed : GoodIn wsX11_turn wsX11_isAllowed := goodIn_ca (goodIn_r _ [19, 20, 21, 22, 23, 24, 6, 25, 26, 27, 28, 29, 30, 31, 32, 33, 8, 2, 34, 35, 36, 37, 38, 39, 40, 41, 42, 43, 44, 45, 46, 47, 48, 49, 50, 51, 52, 53, 54, 55, 56, 57, 58, 59, 60, 61, 62, 63, 64, 65, 66, 67, 68] (by decide +kernel) (by decide +kernel)) (goodIn_sub (fun _ h => List.mem_cons_of_mem _ (List.mem_append_right _ h)) (by decide +kernel))
set_option maxRecDepth 20000 in
theorem gX11_turn_X11_isAllowed : GoodIn wsX11_turn (wsV RX11 134 RX11 yX11_isAllowed wsX11_isAllowed) := goodIn_app (goodIn_of _ (by decide +kernel)) ggX11_turn_X11_isAllowed
theorem dX11_turn_0 : decode cX11_turn 0 = .ok (.aload_n 0, 1) := by decide +kernel
theorem dX11_turn_1 : decode cX11_turn 1 = .ok (.iconst 0, 1) := by decide +kernel
theorem dX11_turn_2 : decode cX11_turn 2 = .ok (.putfield 86, 3) := by decide +kernel
theorem dX11_turn_5 : decode cX11_turn 5 = .ok (.aload_n 0, 1) := by decide +kernel
theorem dX11_turn_6 : decode cX11_turn 6 = .ok (.aload_n 0, 1) := by decide +kernel
theorem dX11_turn_7 : decode cX11_turn 7 = .ok (.iload_n 1, 1) := by decide +kernel
theorem dX11_turn_8 : decode cX11_turn 8 = .ok (.invokevirtual 164, 3) := by decide +kernel
theorem dX11_turn_11 : decode cX11_turn 11 = .ok (.iconst 1, 1) := by decide +kernel
theorem dX11_turn_12 : decode cX11_turn 12 = .ok (.invokevirtual 106, 3) := by decide +kernel
theorem dX11_turn_15 : decode cX11_turn 15 = .ok (.ifCond .eq 5, 3) := by decide +kernel
theorem dX11_turn_18 : decode cX11_turn 18 = .ok (.iconst 0, 1) := by decide +kernel
theorem dX11_turn_19 : decode cX11_turn 19 = .ok (.ireturn, 1) := by decide +kernel
theorem dX11_turn_20 : decode cX11_turn 20 = .ok (.aload_n 0, 1) := by decide +kernel
theorem dX11_turn_21 : decode cX11_turn 21 = .ok (.getfield 117, 3) := by decide +kernel
theorem dX11_turn_24 : decode cX11_turn 24 = .ok (.istore_n 3, 1) := by decide +kernel
theorem dX11_turn_25 : decode cX11_turn 25 = .ok (.aload_n 0, 1) := by decide +kernel
theorem dX11_turn_26 : decode cX11_turn 26 = .ok (.iload_n 2, 1) := by decide +kernel
theorem dX11_turn_27 : decode cX11_turn 27 = .ok (.ifCond .eq 14, 3) := by decide +kernel
theorem dX11_turn_30 : decode cX11_turn 30 = .ok (.aload_n 0, 1) := by decide +kernel
theorem dX11_turn_31 : decode cX11_turn 31 = .ok (.getfield 117, 3) := by decide +kernel
theorem dX11_turn_34 : decode cX11_turn 34 = .ok (.iconst 1, 1) := by decide +kernel
theorem dX11_turn_35 : decode cX11_turn 35 = .ok (.iload_n 1, 1) := by decide +kernel
theorem dX11_turn_36 : decode cX11_turn 36 = .ok (.ishl, 1) := by decide +kernel
theorem dX11_turn_37 : decode cX11_turn 37 = .ok (.ior, 1) := by decide +kernel
theorem dX11_turn_38 : decode cX11_turn 38 = .ok (.goto 13, 3) := by decide +kernel
theorem dX11_turn_41 : decode cX11_turn 41 = .ok (.aload_n 0, 1) := by decide +kernel
theorem dX11_turn_42 : decode cX11_turn 42 = .ok (.getfield 117, 3) := by decide +kernel
theorem dX11_turn_45 : decode cX11_turn 45 = .ok (.iconst 1, 1) := by decide +kernel
theorem dX11_turn_46 : decode cX11_turn 46 = .ok (.iload_n 1, 1) := by decide +kernel
theorem dX11_turn_47 : decode cX11_turn 47 = .ok (.ishl, 1) := by decide +kernel
theorem dX11_turn_48 : decode cX11_turn 48 = .ok (.iconst (-1), 1) := by decide +kernel
theorem dX11_turn_49 : decode cX11_turn 49 = .ok (.ixor, 1) := by decide +kernel
theorem dX11_turn_50 : decode cX11_turn 50 = .ok (.iand, 1) := by decide +kernel
theorem dX11_turn_51 : decode cX11_turn 51 = .ok (.putfield 117, 3) := by decide +kernel
theorem dX11_turn_54 : decode cX11_turn 54 = .ok (.aload_n 0, 1) := by decide +kernel
theorem dX11_turn_55 : decode cX11_turn 55 = .ok (.aload_n 0, 1) := by decide +kernel
theorem dX11_turn_56 : decode cX11_turn 56 = .ok (.invokevirtual 134, 3) := by decide +kernel
theorem dX11_turn_59 : decode cX11_turn 59 = .ok (.ifCond .ne 7, 3) := by decide +kernel
theorem dX11_turn_62 : decode cX11_turn 62 = .ok (.iconst 1, 1) := by decide +kernel
theorem dX11_turn_63 : decode cX11_turn 63 = .ok (.goto 4, 3) := by decide +kernel
theorem dX11_turn_66 : decode cX11_turn 66 = .ok (.iconst 0, 1) := by decide +kernel
theorem dX11_turn_67 : decode cX11_turn 67 = .ok (.iconst 2, 1) := by decide +kernel
theorem dX11_turn_68 : decode cX11_turn 68 = .ok (.invokevirtual 106, 3) := by decide +kernel
theorem dX11_turn_71 : decode cX11_turn 71 = .ok (.ifCond .eq 10, 3) := by decide +kernel
theorem dX11_turn_74 : decode cX11_turn 74 = .ok (.aload_n 0, 1) := by decide +kernel
theorem dX11_turn_75 : decode cX11_turn 75 = .ok (.iload_n 3, 1) := by decide +kernel
theorem dX11_turn_76 : decode cX11_turn 76 = .ok (.putfield 117, 3) := by decide +kernel
theorem dX11_turn_79 : decode cX11_turn 79 = .ok (.iconst 0, 1) := by decide +kernel
theorem dX11_turn_80 : decode cX11_turn 80 = .ok (.ireturn, 1) := by decide +kernel
theorem dX11_turn_81 : decode cX11_turn 81 = .ok (.iload_n 3, 1) := by decide +kernel
theorem dX11_turn_82 : decode cX11_turn 82 = .ok (.iload_n 1, 1) := by decide +kernel
theorem dX11_turn_83 : decode cX11_turn 83 = .ok (.ishr, 1) := by decide +kernel
theorem dX11_turn_84 : decode cX11_turn 84 = .ok (.iconst 1, 1) := by decide +kernel
theorem dX11_turn_85 : decode cX11_turn 85 = .ok (.iand, 1) := by decide +kernel
theorem dX11_turn_86 : decode cX11_turn 86 = .ok (.iconst 1, 1) := by decide +kernel
theorem dX11_turn_87 : decode cX11_turn 87 = .ok (.if_icmp .ne 7, 3) := by decide +kernel
theorem dX11_turn_90 : decode cX11_turn 90 = .ok (.iconst 1, 1) := by decide +kernel
theorem dX11_turn_91 : decode cX11_turn 91 = .ok (.goto 4, 3) := by decide +kernel
theorem dX11_turn_94 : decode cX11_turn 94 = .ok (.iconst 0, 1) := by decide +kernel
theorem dX11_turn_95 : decode cX11_turn 95 = .ok (.ireturn, 1) := by decide +kernel
set_option maxRecDepth 20000 in
theorem ggX11_difference_X11_noVariant : GoodIn wsX11_difference wsX11_noVariant := goodIn_r _ [7, 8, 9, 10, 6, 11, 108, 109, 110, 111, 112, 113, 114, 115, 116, 117, 118, 119, 120, 121, 122, 123, 124, 125, 126, 127, 128, 129, 130, 131, 132, 133, 134, 135, 136, 137, 138, 139, 140, 141] (by decide +kernel) (by decide +kernel)
set_option maxRecDepth 20000 in
theorem gX11_difference_X11_noVariant : GoodIn wsX11_difference (wsV RX11 164 RX11 yX11_noVariant wsX11_noVariant) := goodIn_app (goodIn_of _ (by decide +kernel)) ggX11_difference_X11_noVariant
set_option maxRecDepth 20000 in
theorem ggX11_difference_X11_fails : GoodIn wsX11_difference wsX11_fails := goodIn_r _ [15, 1, 108, 109, 110, 111, 112, 113, 114, 115, 116, 117, 118, 119, 120, 121, 122, 123, 124, 125, 126, 127, 128, 129, 130, 131, 132, 133, 134, 135, 136, 137, 138, 139, 140, 141] (by decide +kernel) (by decide +kernel)
set_option maxRecDepth 20000 in
theorem gX11_difference_X11_fails : GoodIn wsX11_difference (wsV RX11 106 RX11 yX11_fails wsX11_fails) := goodIn_app (goodIn_of _ (by decide +kernel)) ggX11_difference_X11_fails
set_option maxRecDepth 20000 in
theorem ggX11_difference_X11_totalNow : GoodIn wsX11_difference wsX11_totalNow := goodIn_ca (goodIn_ca (goodIn_r _ [19, 20, 21, 22, 23, 24, 6, 25, 26, 27, 28, 29, 30, 31, 32, 33, 34, 35, 36, 37, 38, 39, 40, 41, 42, 43, 44, 45, 46, 47, 8, 2, 48, 49, 50, 51, 52, 53, 54, 55, 56, 57, 58, 59, 60, 61, 62, 63, 64, 65, 66, 67, 68, 69, 70, 71, 72, 73, 74, 75, 76, 77, 78, 79, 80, 81, 82, 83, 84, 85, 86, 87, 88, 89, 90, 91, 92, 93, 94, 95, 96, 97, 98, 108, 109, 110, 111, 112, 113, 114, 115, 116, 117, 118, 119, 120, 121, 122, 123, 124, 125, 126, 127, 128, 129, 130, 131, 132, 133, 134, 135, 136, 137, 138, 139, 140, 141] (by decide +kernel) (by decide +kernel)) (goodIn_sub (fun _ h => List.mem_cons_of_mem _ (List.mem_append_left _ (List.mem_append_right _ h))) (by decide +kernel))) (goodIn_sub (fun _ h => List.mem_cons_of_mem _ (List.mem_append_right _ h)) (by decide +kernel))
set_option maxRecDepth 20000 in
theorem gX11_difference_X11_totalNow : GoodIn wsX11_difference (wsV RX11 171 RX11 yX11_totalNow wsX11_totalNow) := goodIn_app (goodIn_of _ (by decide +kernel)) ggX11_difference_X11_totalNow
set_option maxRecDepth 20000 in
theorem ggX11_difference_X11_isAllowed : GoodIn wsX11_difference wsX11_isAllowed := goodIn_ca (goodIn_r _ [102, 53, 103, 104, 105, 106, 6, 107, 57, 58, 59, 61, 44, 45, 46, 47, 8, 2, 48, 108, 109, 110, 111, 112, 113, 114, 115, 116, 117, 118, 119, 120, 121, 122, 123, 124, 125, 126, 127, 128, 129, 130, 131, 132, 133, 134, 135, 136, 137, 138, 139, 140, 141] (by decide +kernel) (by decide +kernel)) (goodIn_sub (fun _ h => List.mem_cons_of_mem _ (List.mem_append_left _ (List.mem_append_right _ h))) (by decide +kernel))
set_option maxRecDepth 20000 in
theorem gX11_difference_X11_isAllowed : GoodIn wsX11_difference (wsV RX11 134 RX11 yX11_isAllowed wsX11_isAllowed) := goodIn_app (goodIn_of _ (by decide +kernel)) ggX11_difference_X11_isAllowed
theorem dX11_difference_0 : decode cX11_difference 0 = .ok (.aload_n 0, 1) := by decide +kernel
theorem dX11_difference_1 : decode cX11_difference 1 = .ok (.iconst 0, 1) := by decide +kernel
theorem dX11_difference_2 : decode cX11_difference 2 = .ok (.putfield 86, 3) := by decide +kernel
theorem dX11_difference_5 : decode cX11_difference 5 = .ok (.aload_n 0, 1) := by decide +kernel
theorem dX11_difference_6 : decode cX11_difference 6 = .ok (.aload_n 0, 1) := by decide +kernel
theorem dX11_difference_7 : decode cX11_difference 7 = .ok (.iload_n 1, 1) := by decide +kernel
theorem dX11_difference_8 : decode cX11_difference 8 = .ok (.invokevirtual 164, 3) := by decide +kernel
theorem dX11_difference_11 : decode cX11_difference 11 = .ok (.iconst 1, 1) := by decide +kernel
theorem dX11_difference_12 : decode cX11_difference 12 = .ok (.invokevirtual 106, 3) := by decide +kernel
theorem dX11_difference_15 : decode cX11_difference 15 = .ok (.ifCond .eq 5, 3) := by decide +kernel
theorem dX11_difference_18 : decode cX11_difference 18 = .ok (.lconst 0, 1) := by decide +kernel
theorem dX11_difference_19 : decode cX11_difference 19 = .ok (.lreturn, 1) := by decide +kernel
theorem dX11_difference_20 : decode cX11_difference 20 = .ok (.aload_n 0, 1) := by decide +kernel
theorem dX11_difference_21 : decode cX11_difference 21 = .ok (.invokevirtual 171, 3) := by decide +kernel
theorem dX11_difference_24 : decode cX11_difference 24 = .ok (.lstore_n 2, 1) := by decide +kernel
theorem dX11_difference_25 : decode cX11_difference 25 = .ok (.aload_n 0, 1) := by decide +kernel
theorem dX11_difference_26 : decode cX11_difference 26 = .ok (.getfield 117, 3) := by decide +kernel
theorem dX11_difference_29 : decode cX11_difference 29 = .ok (.istore 4, 2) := by decide +kernel
theorem dX11_difference_31 : decode cX11_difference 31 = .ok (.aload_n 0, 1) := by decide +kernel
theorem dX11_difference_32 : decode cX11_difference 32 = .ok (.aload_n 0, 1) := by decide +kernel
theorem dX11_difference_33 : decode cX11_difference 33 = .ok (.getfield 117, 3) := by decide +kernel
theorem dX11_difference_36 : decode cX11_difference 36 = .ok (.iconst 1, 1) := by decide +kernel
theorem dX11_difference_37 : decode cX11_difference 37 = .ok (.iload_n 1, 1) := by decide +kernel
theorem dX11_difference_38 : decode cX11_difference 38 = .ok (.ishl, 1) := by decide +kernel
theorem dX11_difference_39 : decode cX11_difference 39 = .ok (.ixor, 1) := by decide +kernel
theorem dX11_difference_40 : decode cX11_difference 40 = .ok (.putfield 117, 3) := by decide +kernel
theorem dX11_difference_43 : decode cX11_difference 43 = .ok (.aload_n 0, 1) := by decide +kernel
theorem dX11_difference_44 : decode cX11_difference 44 = .ok (.invokevirtual 134, 3) := by decide +kernel
theorem dX11_difference_47 : decode cX11_difference 47 = .ok (.istore 5, 2) := by decide +kernel
theorem dX11_difference_49 : decode cX11_difference 49 = .ok (.iload 5, 2) := by decide +kernel
theorem dX11_difference_51 : decode cX11_difference 51 = .ok (.ifCond .eq 10, 3) := by decide +kernel
theorem dX11_difference_54 : decode cX11_difference 54 = .ok (.aload_n 0, 1) := by decide +kernel
theorem dX11_difference_55 : decode cX11_difference 55 = .ok (.invokevirtual 171, 3) := by decide +kernel
theorem dX11_difference_58 : decode cX11_difference 58 = .ok (.goto 4, 3) := by decide +kernel
theorem dX11_difference_61 : decode cX11_difference 61 = .ok (.lconst 0, 1) := by decide +kernel
theorem dX11_difference_62 : decode cX11_difference 62 = .ok (.lstore 6, 2) := by decide +kernel
theorem dX11_difference_64 : decode cX11_difference 64 = .ok (.aload_n 0, 1) := by decide +kernel
theorem dX11_difference_65 : decode cX11_difference 65 = .ok (.iload 4, 2) := by decide +kernel
theorem dX11_difference_67 : decode cX11_difference 67 = .ok (.putfield 117, 3) := by decide +kernel
theorem dX11_difference_70 : decode cX11_difference 70 = .ok (.aload_n 0, 1) := by decide +kernel
theorem dX11_difference_71 : decode cX11_difference 71 = .ok (.iload 5, 2) := by decide +kernel
theorem dX11_difference_73 : decode cX11_difference 73 = .ok (.ifCond .ne 7, 3) := by decide +kernel
theorem dX11_difference_76 : decode cX11_difference 76 = .ok (.iconst 1, 1) := by decide +kernel
theorem dX11_difference_77 : decode cX11_difference 77 = .ok (.goto 4, 3) := by decide +kernel
theorem dX11_difference_80 : decode cX11_difference 80 = .ok (.iconst 0, 1) := by decide +kernel
theorem dX11_difference_81 : decode cX11_difference 81 = .ok (.iconst 2, 1) := by decide +kernel
theorem dX11_difference_82 : decode cX11_difference 82 = .ok (.invokevirtual 106, 3) := by decide +kernel
theorem dX11_difference_85 : decode cX11_difference 85 = .ok (.ifCond .eq 7, 3) := by decide +kernel
theorem dX11_difference_88 : decode cX11_difference 88 = .ok (.lconst 0, 1) := by decide +kernel
theorem dX11_difference_89 : decode cX11_difference 89 = .ok (.goto 7, 3) := by decide +kernel
theorem dX11_difference_92 : decode cX11_difference 92 = .ok (.lload 6, 2) := by decide +kernel
theorem dX11_difference_94 : decode cX11_difference 94 = .ok (.lload_n 2, 1) := by decide +kernel
theorem dX11_difference_95 : decode cX11_difference 95 = .ok (.lsub, 1) := by decide +kernel
theorem dX11_difference_96 : decode cX11_difference 96 = .ok (.lreturn, 1) := by decide +kernel
set_option maxRecDepth 20000 in
theorem ggX11_cheapestVariants_X11_isAllowed : GoodIn wsX11_cheapestVariants wsX11_isAllowed := goodIn_ca (goodIn_r _ [8, 9, 10, 11, 12, 13, 7, 14, 15, 16, 17, 18, 19, 20, 21, 22, 3, 2, 23, 97, 98, 99, 100, 101, 102, 103, 104, 105, 106, 107, 108, 109, 110, 111, 112, 113, 114, 115, 116, 117, 118, 119, 120, 121, 122, 123, 124, 125, 126, 127, 128, 129, 130] (by decide +kernel) (by decide +kernel)) (goodIn_sub (fun _ h => List.mem_cons_of_mem _ (List.mem_append_left _ (List.mem_append_right _ h))) (by decide +kernel))
set_option maxRecDepth 20000 in
theorem gX11_cheapestVariants_X11_isAllowed : GoodIn wsX11_cheapestVariants (wsV RX11 134 RX11 yX11_isAllowed wsX11_isAllowed) := goodIn_app (goodIn_of _ (by decide +kernel)) ggX11_cheapestVariants_X11_isAllowed
set_option maxRecDepth 20000 in
theorem ggX11_cheapestVariants_X11_totalNow : GoodIn wsX11_cheapestVariants wsX11_totalNow := goodIn_ca (goodIn_ca (goodIn_r _ [27, 28, 29, 30, 31, 32, 7, 33, 34, 35, 36, 37, 38, 39, 40, 41, 42, 43, 44, 45, 46, 47, 48, 49, 50, 51, 19, 20, 21, 22, 3, 2, 23, 52, 53, 54, 55, 9, 56, 57, 58, 15, 16, 17, 59, 18, 60, 61, 62, 63, 64, 65, 66, 67, 68, 69, 70, 71, 72, 73, 74, 75, 76, 77, 78, 79, 80, 81, 82, 83, 84, 85, 86, 87, 88, 89, 90, 91, 92, 93, 94, 95, 96, 97, 98, 99, 100, 101, 102, 103, 104, 105, 106, 107, 108, 109, 110, 111, 112, 113, 114, 115, 116, 117, 118, 119, 120, 121, 122, 123, 124, 125, 126, 127, 128, 129, 130] (by decide +kernel) (by decide +kernel)) (goodIn_sub (fun _ h => List.mem_cons_of_mem _ (List.mem_append_left _ (List.mem_append_right _ h))) (by decide +kernel))) (goodIn_sub (fun _ h => List.mem_cons_of_mem _ (List.mem_append_right _ h)) (by decide +kernel))
set_option maxRecDepth 20000 in
theorem gX11_cheapestVariants_X11_totalNow : GoodIn wsX11_cheapestVariants (wsV RX11 171 RX11 yX11_totalNow wsX11_totalNow) := goodIn_app (goodIn_of _ (by decide +kernel)) ggX11_cheapestVariants_X11_totalNow
theorem dX11_cheapestVariants_0 : decode cX11_cheapestVariants 0 = .ok (.aload_n 0, 1) := by decide +kernel
theorem dX11_cheapestVariants_1 : decode cX11_cheapestVariants 1 = .ok (.iconst 0, 1) := by decide +kernel
theorem dX11_cheapestVariants_2 : decode cX11_cheapestVariants 2 = .ok (.putfield 86, 3) := by decide +kernel
theorem dX11_cheapestVariants_5 : decode cX11_cheapestVariants 5 = .ok (.aload_n 0, 1) := by decide +kernel
theorem dX11_cheapestVariants_6 : decode cX11_cheapestVariants 6 = .ok (.getfield 117, 3) := by decide +kernel
theorem dX11_cheapestVariants_9 : decode cX11_cheapestVariants 9 = .ok (.istore_n 1, 1) := by decide +kernel
theorem dX11_cheapestVariants_10 : decode cX11_cheapestVariants 10 = .ok (.iconst (-1), 1) := by decide +kernel
theorem dX11_cheapestVariants_11 : decode cX11_cheapestVariants 11 = .ok (.istore_n 2, 1) := by decide +kernel
theorem dX11_cheapestVariants_12 : decode cX11_cheapestVariants 12 = .ok (.lconst 0, 1) := by decide +kernel
theorem dX11_cheapestVariants_13 : decode cX11_cheapestVariants 13 = .ok (.lstore_n 3, 1) := by decide +kernel
theorem dX11_cheapestVariants_14 : decode cX11_cheapestVariants 14 = .ok (.iconst 0, 1) := by decide +kernel
theorem dX11_cheapestVariants_15 : decode cX11_cheapestVariants 15 = .ok (.istore 5, 2) := by decide +kernel
theorem dX11_cheapestVariants_17 : decode cX11_cheapestVariants 17 = .ok (.iload 5, 2) := by decide +kernel
theorem dX11_cheapestVariants_19 : decode cX11_cheapestVariants 19 = .ok (.iconst 1, 1) := by decide +kernel
theorem dX11_cheapestVariants_20 : decode cX11_cheapestVariants 20 = .ok (.aload_n 0, 1) := by decide +kernel
theorem dX11_cheapestVariants_21 : decode cX11_cheapestVariants 21 = .ok (.getfield 103, 3) := by decide +kernel
theorem dX11_cheapestVariants_24 : decode cX11_cheapestVariants 24 = .ok (.ishl, 1) := by decide +kernel
theorem dX11_cheapestVariants_25 : decode cX11_cheapestVariants 25 = .ok (.if_icmp .ge 46, 3) := by decide +kernel
theorem dX11_cheapestVariants_28 : decode cX11_cheapestVariants 28 = .ok (.aload_n 0, 1) := by decide +kernel
theorem dX11_cheapestVariants_29 : decode cX11_cheapestVariants 29 = .ok (.iload 5, 2) := by decide +kernel
theorem dX11_cheapestVariants_31 : decode cX11_cheapestVariants 31 = .ok (.putfield 117, 3) := by decide +kernel
theorem dX11_cheapestVariants_34 : decode cX11_cheapestVariants 34 = .ok (.aload_n 0, 1) := by decide +kernel
theorem dX11_cheapestVariants_35 : decode cX11_cheapestVariants 35 = .ok (.invokevirtual 134, 3) := by decide +kernel
theorem dX11_cheapestVariants_38 : decode cX11_cheapestVariants 38 = .ok (.ifCond .eq 27, 3) := by decide +kernel
theorem dX11_cheapestVariants_41 : decode cX11_cheapestVariants 41 = .ok (.aload_n 0, 1) := by decide +kernel
theorem dX11_cheapestVariants_42 : decode cX11_cheapestVariants 42 = .ok (.invokevirtual 171, 3) := by decide +kernel
theorem dX11_cheapestVariants_45 : decode cX11_cheapestVariants 45 = .ok (.lstore 6, 2) := by decide +kernel
theorem dX11_cheapestVariants_47 : decode cX11_cheapestVariants 47 = .ok (.iload_n 2, 1) := by decide +kernel
theorem dX11_cheapestVariants_48 : decode cX11_cheapestVariants 48 = .ok (.iconst (-1), 1) := by decide +kernel
theorem dX11_cheapestVariants_49 : decode cX11_cheapestVariants 49 = .ok (.if_icmp .eq 10, 3) := by decide +kernel
theorem dX11_cheapestVariants_52 : decode cX11_cheapestVariants 52 = .ok (.lload 6, 2) := by decide +kernel
theorem dX11_cheapestVariants_54 : decode cX11_cheapestVariants 54 = .ok (.lload_n 3, 1) := by decide +kernel
theorem dX11_cheapestVariants_55 : decode cX11_cheapestVariants 55 = .ok (.lcmp, 1) := by decide +kernel
theorem dX11_cheapestVariants_56 : decode cX11_cheapestVariants 56 = .ok (.ifCond .ge 9, 3) := by decide +kernel
theorem dX11_cheapestVariants_59 : decode cX11_cheapestVariants 59 = .ok (.iload 5, 2) := by decide +kernel
theorem dX11_cheapestVariants_61 : decode cX11_cheapestVariants 61 = .ok (.istore_n 2, 1) := by decide +kernel
theorem dX11_cheapestVariants_62 : decode cX11_cheapestVariants 62 = .ok (.lload 6, 2) := by decide +kernel
theorem dX11_cheapestVariants_64 : decode cX11_cheapestVariants 64 = .ok (.lstore_n 3, 1) := by decide +kernel
theorem dX11_cheapestVariants_65 : decode cX11_cheapestVariants 65 = .ok (.iinc 5 1, 3) := by decide +kernel
theorem dX11_cheapestVariants_68 : decode cX11_cheapestVariants 68 = .ok (.goto (-51), 3) := by decide +kernel
theorem dX11_cheapestVariants_71 : decode cX11_cheapestVariants 71 = .ok (.aload_n 0, 1) := by decide +kernel
theorem dX11_cheapestVariants_72 : decode cX11_cheapestVariants 72 = .ok (.iload_n 1, 1) := by decide +kernel
theorem dX11_cheapestVariants_73 : decode cX11_cheapestVariants 73 = .ok (.putfield 117, 3) := by decide +kernel
theorem dX11_cheapestVariants_76 : decode cX11_cheapestVariants 76 = .ok (.iload_n 2, 1) := by decide +kernel
theorem dX11_cheapestVariants_77 : decode cX11_cheapestVariants 77 = .ok (.ireturn, 1) := by decide +kernel
set_option maxRecDepth 20000 in
theorem ggX11_addMarkup_X11_fails : GoodIn wsX11_addMarkup wsX11_fails := goodIn_r _ [9, 1, 13, 14, 15, 16, 17, 18, 19, 20, 21, 22, 23, 24, 25, 26, 27, 28, 29, 30, 31, 32, 33, 34, 35, 36, 37, 38, 39, 40, 41, 42, 43, 44, 45, 46] (by decide +kernel) (by decide +kernel)
set_option maxRecDepth 20000 in
theorem gX11_addMarkup_X11_fails : GoodIn wsX11_addMarkup (wsV RX11 106 RX11 yX11_fails wsX11_fails) := goodIn_app (goodIn_of _ (by decide +kernel)) ggX11_addMarkup_X11_fails
set_option maxRecDepth 20000 in
theorem ggX11_addMarkup_X11_in : GoodIn wsX11_addMarkup wsX11_in := goodIn_r _ [12] (by decide +kernel) (by decide +kernel)
set_option maxRecDepth 20000 in
theorem gX11_addMarkup_X11_in : GoodIn wsX11_addMarkup (va_wsS RX11 93 yX11_in wsX11_in) := goodIn_app (goodIn_of _ (by decide +kernel)) ggX11_addMarkup_X11_in
theorem dX11_addMarkup_0 : decode cX11_addMarkup 0 = .ok (.aload_n 0, 1) := by decide +kernel
theorem dX11_addMarkup_1 : decode cX11_addMarkup 1 = .ok (.iconst 0, 1) := by decide +kernel
theorem dX11_addMarkup_2 : decode cX11_addMarkup 2 = .ok (.putfield 86, 3) := by decide +kernel
theorem dX11_addMarkup_5 : decode cX11_addMarkup 5 = .ok (.aload_n 0, 1) := by decide +kernel
theorem dX11_addMarkup_6 : decode cX11_addMarkup 6 = .ok (.aload_n 0, 1) := by decide +kernel
theorem dX11_addMarkup_7 : decode cX11_addMarkup 7 = .ok (.getfield 175, 3) := by decide +kernel
theorem dX11_addMarkup_10 : decode cX11_addMarkup 10 = .ok (.iconst 4, 1) := by decide +kernel
theorem dX11_addMarkup_11 : decode cX11_addMarkup 11 = .ok (.if_icmp .ne 7, 3) := by decide +kernel
theorem dX11_addMarkup_14 : decode cX11_addMarkup 14 = .ok (.iconst 1, 1) := by decide +kernel
theorem dX11_addMarkup_15 : decode cX11_addMarkup 15 = .ok (.goto 4, 3) := by decide +kernel
theorem dX11_addMarkup_18 : decode cX11_addMarkup 18 = .ok (.iconst 0, 1) := by decide +kernel
theorem dX11_addMarkup_19 : decode cX11_addMarkup 19 = .ok (.iconst 1, 1) := by decide +kernel
theorem dX11_addMarkup_20 : decode cX11_addMarkup 20 = .ok (.invokevirtual 106, 3) := by decide +kernel
theorem dX11_addMarkup_23 : decode cX11_addMarkup 23 = .ok (.ifCond .ne 44, 3) := by decide +kernel
theorem dX11_addMarkup_26 : decode cX11_addMarkup 26 = .ok (.aload_n 0, 1) := by decide +kernel
theorem dX11_addMarkup_27 : decode cX11_addMarkup 27 = .ok (.iload_n 1, 1) := by decide +kernel
theorem dX11_addMarkup_28 : decode cX11_addMarkup 28 = .ok (.iconst 0, 1) := by decide +kernel
theorem dX11_addMarkup_29 : decode cX11_addMarkup 29 = .ok (.bipush 50, 2) := by decide +kernel
theorem dX11_addMarkup_31 : decode cX11_addMarkup 31 = .ok (.invokestatic 93, 3) := by decide +kernel
theorem dX11_addMarkup_34 : decode cX11_addMarkup 34 = .ok (.ifCond .eq 21, 3) := by decide +kernel
theorem dX11_addMarkup_37 : decode cX11_addMarkup 37 = .ok (.iload_n 2, 1) := by decide +kernel
theorem dX11_addMarkup_38 : decode cX11_addMarkup 38 = .ok (.iconst 0, 1) := by decide +kernel
theorem dX11_addMarkup_39 : decode cX11_addMarkup 39 = .ok (.iconst 1, 1) := by decide +kernel
theorem dX11_addMarkup_40 : decode cX11_addMarkup 40 = .ok (.iconst 4, 1) := by decide +kernel
theorem dX11_addMarkup_41 : decode cX11_addMarkup 41 = .ok (.aload_n 0, 1) := by decide +kernel
theorem dX11_addMarkup_42 : decode cX11_addMarkup 42 = .ok (.getfield 175, 3) := by decide +kernel
theorem dX11_addMarkup_45 : decode cX11_addMarkup 45 = .ok (.iadd, 1) := by decide +kernel
theorem dX11_addMarkup_46 : decode cX11_addMarkup 46 = .ok (.ishl, 1) := by decide +kernel
theorem dX11_addMarkup_47 : decode cX11_addMarkup 47 = .ok (.iconst 1, 1) := by decide +kernel
theorem dX11_addMarkup_48 : decode cX11_addMarkup 48 = .ok (.isub, 1) := by decide +kernel
theorem dX11_addMarkup_49 : decode cX11_addMarkup 49 = .ok (.invokestatic 93, 3) := by decide +kernel
theorem dX11_addMarkup_52 : decode cX11_addMarkup 52 = .ok (.ifCond .ne 7, 3) := by decide +kernel
theorem dX11_addMarkup_55 : decode cX11_addMarkup 55 = .ok (.iconst 1, 1) := by decide +kernel
theorem dX11_addMarkup_56 : decode cX11_addMarkup 56 = .ok (.goto 4, 3) := by decide +kernel
theorem dX11_addMarkup_59 : decode cX11_addMarkup 59 = .ok (.iconst 0, 1) := by decide +kernel
theorem dX11_addMarkup_60 : decode cX11_addMarkup 60 = .ok (.iconst 2, 1) := by decide +kernel
theorem dX11_addMarkup_61 : decode cX11_addMarkup 61 = .ok (.invokevirtual 106, 3) := by decide +kernel
theorem dX11_addMarkup_64 : decode cX11_addMarkup 64 = .ok (.ifCond .eq 5, 3) := by decide +kernel
theorem dX11_addMarkup_67 : decode cX11_addMarkup 67 = .ok (.iconst 0, 1) := by decide +kernel
theorem dX11_addMarkup_68 : decode cX11_addMarkup 68 = .ok (.ireturn, 1) := by decide +kernel
theorem dX11_addMarkup_69 : decode cX11_addMarkup 69 = .ok (.aload_n 0, 1) := by decide +kernel
theorem dX11_addMarkup_70 : decode cX11_addMarkup 70 = .ok (.getfield 61, 3) := by decide +kernel
theorem dX11_addMarkup_73 : decode cX11_addMarkup 73 = .ok (.aload_n 0, 1) := by decide +kernel
theorem dX11_addMarkup_74 : decode cX11_addMarkup 74 = .ok (.getfield 175, 3) := by decide +kernel
theorem dX11_addMarkup_77 : decode cX11_addMarkup 77 = .ok (.iload_n 1, 1) := by decide +kernel
theorem dX11_addMarkup_78 : decode cX11_addMarkup 78 = .ok (.iastore, 1) := by decide +kernel
theorem dX11_addMarkup_79 : decode cX11_addMarkup 79 = .ok (.aload_n 0, 1) := by decide +kernel
theorem dX11_addMarkup_80 : decode cX11_addMarkup 80 = .ok (.getfield 64, 3) := by decide +kernel
theorem dX11_addMarkup_83 : decode cX11_addMarkup 83 = .ok (.aload_n 0, 1) := by decide +kernel
theorem dX11_addMarkup_84 : decode cX11_addMarkup 84 = .ok (.getfield 175, 3) := by decide +kernel
theorem dX11_addMarkup_87 : decode cX11_addMarkup 87 = .ok (.iload_n 2, 1) := by decide +kernel
theorem dX11_addMarkup_88 : decode cX11_addMarkup 88 = .ok (.iastore, 1) := by decide +kernel
theorem dX11_addMarkup_89 : decode cX11_addMarkup 89 = .ok (.aload_n 0, 1) := by decide +kernel
theorem dX11_addMarkup_90 : decode cX11_addMarkup 90 = .ok (.dup, 1) := by decide +kernel
theorem dX11_addMarkup_91 : decode cX11_addMarkup 91 = .ok (.getfield 175, 3) := by decide +kernel
theorem dX11_addMarkup_94 : decode cX11_addMarkup 94 = .ok (.iconst 1, 1) := by decide +kernel
theorem dX11_addMarkup_95 : decode cX11_addMarkup 95 = .ok (.iadd, 1) := by decide +kernel
theorem dX11_addMarkup_96 : decode cX11_addMarkup 96 = .ok (.putfield 175, 3) := by decide +kernel
theorem dX11_addMarkup_99 : decode cX11_addMarkup 99 = .ok (.aload_n 0, 1) := by decide +kernel
theorem dX11_addMarkup_100 : decode cX11_addMarkup 100 = .ok (.getfield 175, 3) := by decide +kernel
theorem dX11_addMarkup_103 : decode cX11_addMarkup 103 = .ok (.iconst 1, 1) := by decide +kernel
theorem dX11_addMarkup_104 : decode cX11_addMarkup 104 = .ok (.isub, 1) := by decide +kernel
theorem dX11_addMarkup_105 : decode cX11_addMarkup 105 = .ok (.ireturn, 1) := by decide +kernel
set_option maxRecDepth 20000 in
theorem ggX11_noMarkup_X11_in : GoodIn wsX11_noMarkup wsX11_in := goodIn_r _ [5] (by decide +kernel) (by decide +kernel)
set_option maxRecDepth 20000 in
theorem gX11_noMarkup_X11_in : GoodIn wsX11_noMarkup (va_wsS RX11 93 yX11_in wsX11_in) := goodIn_app (goodIn_of _ (by decide +kernel)) ggX11_noMarkup_X11_in
theorem dX11_noMarkup_0 : decode cX11_noMarkup 0 = .ok (.iload_n 1, 1) := by decide +kernel
theorem dX11_noMarkup_1 : decode cX11_noMarkup 1 = .ok (.iconst 0, 1) := by decide +kernel
theorem dX11_noMarkup_2 : decode cX11_noMarkup 2 = .ok (.aload_n 0, 1) := by decide +kernel
theorem dX11_noMarkup_3 : decode cX11_noMarkup 3 = .ok (.getfield 175, 3) := by decide +kernel
theorem dX11_noMarkup_6 : decode cX11_noMarkup 6 = .ok (.iconst 1, 1) := by decide +kernel
theorem dX11_noMarkup_7 : decode cX11_noMarkup 7 = .ok (.isub, 1) := by decide +kernel
theorem dX11_noMarkup_8 : decode cX11_noMarkup 8 = .ok (.invokestatic 93, 3) := by decide +kernel
theorem dX11_noMarkup_11 : decode cX11_noMarkup 11 = .ok (.ifCond .ne 7, 3) := by decide +kernel
theorem dX11_noMarkup_14 : decode cX11_noMarkup 14 = .ok (.iconst 1, 1) := by decide +kernel
theorem dX11_noMarkup_15 : decode cX11_noMarkup 15 = .ok (.goto 4, 3) := by decide +kernel
theorem dX11_noMarkup_18 : decode cX11_noMarkup 18 = .ok (.iconst 0, 1) := by decide +kernel
theorem dX11_noMarkup_19 : decode cX11_noMarkup 19 = .ok (.ireturn, 1) := by decide +kernel
set_option maxRecDepth 20000 in
theorem ggX11_setPercent_X11_noMarkup : GoodIn wsX11_setPercent wsX11_noMarkup := goodIn_r _ [7, 8, 9, 10, 6, 11, 16, 17, 18, 19, 20, 21, 22, 23, 24, 25, 26, 27, 28, 29, 30, 31, 32, 33, 34, 35, 36, 37, 38, 39, 40, 41, 42, 43, 44, 45, 46, 47, 48, 49] (by decide +kernel) (by decide +kernel)
set_option maxRecDepth 20000 in
theorem gX11_setPercent_X11_noMarkup : GoodIn wsX11_setPercent (wsV RX11 178 RX11 yX11_noMarkup wsX11_noMarkup) := goodIn_app (goodIn_of _ (by decide +kernel)) ggX11_setPercent_X11_noMarkup
set_option maxRecDepth 20000 in
theorem ggX11_setPercent_X11_fails : GoodIn wsX11_setPercent wsX11_fails := goodIn_r _ [15, 1, 16, 17, 18, 19, 20, 21, 22, 23, 24, 25, 26, 27, 28, 29, 30, 31, 32, 33, 34, 35, 36, 37, 38, 39, 40, 41, 42, 43, 44, 45, 46, 47, 48, 49] (by decide +kernel) (by decide +kernel)
set_option maxRecDepth 20000 in
theorem gX11_setPercent_X11_fails : GoodIn wsX11_setPercent (wsV RX11 106 RX11 yX11_fails wsX11_fails) := goodIn_app (goodIn_of _ (by decide +kernel)) ggX11_setPercent_X11_fails
set_option maxRecDepth 20000 in
theorem ggX11_setPercent_X11_in : GoodIn wsX11_setPercent wsX11_in := goodIn_r _ [11] (by decide +kernel) (by decide +kernel)
set_option maxRecDepth 20000 in
theorem gX11_setPercent_X11_in : GoodIn wsX11_setPercent (va_wsS RX11 93 yX11_in wsX11_in) := goodIn_app (goodIn_of _ (by decide +kernel)) ggX11_setPercent_X11_in
theorem dX11_setPercent_0 : decode cX11_setPercent 0 = .ok (.aload_n 0, 1) := by decide +kernel
theorem dX11_setPercent_1 : decode cX11_setPercent 1 = .ok (.iconst 0, 1) := by decide +kernel
theorem dX11_setPercent_2 : decode cX11_setPercent 2 = .ok (.putfield 86, 3) := by decide +kernel
theorem dX11_setPercent_5 : decode cX11_setPercent 5 = .ok (.aload_n 0, 1) := by decide +kernel
theorem dX11_setPercent_6 : decode cX11_setPercent 6 = .ok (.aload_n 0, 1) := by decide +kernel
theorem dX11_setPercent_7 : decode cX11_setPercent 7 = .ok (.iload_n 1, 1) := by decide +kernel
theorem dX11_setPercent_8 : decode cX11_setPercent 8 = .ok (.invokevirtual 178, 3) := by decide +kernel
theorem dX11_setPercent_11 : decode cX11_setPercent 11 = .ok (.iconst 1, 1) := by decide +kernel
theorem dX11_setPercent_12 : decode cX11_setPercent 12 = .ok (.invokevirtual 106, 3) := by decide +kernel
theorem dX11_setPercent_15 : decode cX11_setPercent 15 = .ok (.ifCond .ne 26, 3) := by decide +kernel
theorem dX11_setPercent_18 : decode cX11_setPercent 18 = .ok (.aload_n 0, 1) := by decide +kernel
theorem dX11_setPercent_19 : decode cX11_setPercent 19 = .ok (.iload_n 2, 1) := by decide +kernel
theorem dX11_setPercent_20 : decode cX11_setPercent 20 = .ok (.iconst 0, 1) := by decide +kernel
theorem dX11_setPercent_21 : decode cX11_setPercent 21 = .ok (.bipush 50, 2) := by decide +kernel
theorem dX11_setPercent_23 : decode cX11_setPercent 23 = .ok (.invokestatic 93, 3) := by decide +kernel
theorem dX11_setPercent_26 : decode cX11_setPercent 26 = .ok (.ifCond .ne 7, 3) := by decide +kernel
theorem dX11_setPercent_29 : decode cX11_setPercent 29 = .ok (.iconst 1, 1) := by decide +kernel
theorem dX11_setPercent_30 : decode cX11_setPercent 30 = .ok (.goto 4, 3) := by decide +kernel
theorem dX11_setPercent_33 : decode cX11_setPercent 33 = .ok (.iconst 0, 1) := by decide +kernel
theorem dX11_setPercent_34 : decode cX11_setPercent 34 = .ok (.iconst 2, 1) := by decide +kernel
theorem dX11_setPercent_35 : decode cX11_setPercent 35 = .ok (.invokevirtual 106, 3) := by decide +kernel
theorem dX11_setPercent_38 : decode cX11_setPercent 38 = .ok (.ifCond .eq 5, 3) := by decide +kernel
theorem dX11_setPercent_41 : decode cX11_setPercent 41 = .ok (.iconst 0, 1) := by decide +kernel
theorem dX11_setPercent_42 : decode cX11_setPercent 42 = .ok (.ireturn, 1) := by decide +kernel
theorem dX11_setPercent_43 : decode cX11_setPercent 43 = .ok (.aload_n 0, 1) := by decide +kernel
theorem dX11_setPercent_44 : decode cX11_setPercent 44 = .ok (.getfield 61, 3) := by decide +kernel
theorem dX11_setPercent_47 : decode cX11_setPercent 47 = .ok (.iload_n 1, 1) := by decide +kernel
theorem dX11_setPercent_48 : decode cX11_setPercent 48 = .ok (.iaload, 1) := by decide +kernel
theorem dX11_setPercent_49 : decode cX11_setPercent 49 = .ok (.istore_n 3, 1) := by decide +kernel
theorem dX11_setPercent_50 : decode cX11_setPercent 50 = .ok (.aload_n 0, 1) := by decide +kernel
theorem dX11_setPercent_51 : decode cX11_setPercent 51 = .ok (.getfield 61, 3) := by decide +kernel
theorem dX11_setPercent_54 : decode cX11_setPercent 54 = .ok (.iload_n 1, 1) := by decide +kernel
theorem dX11_setPercent_55 : decode cX11_setPercent 55 = .ok (.iload_n 2, 1) := by decide +kernel
theorem dX11_setPercent_56 : decode cX11_setPercent 56 = .ok (.iastore, 1) := by decide +kernel
theorem dX11_setPercent_57 : decode cX11_setPercent 57 = .ok (.iload_n 3, 1) := by decide +kernel
theorem dX11_setPercent_58 : decode cX11_setPercent 58 = .ok (.ireturn, 1) := by decide +kernel
set_option maxRecDepth 20000 in
theorem ggX11_look_X11_amountOf : GoodIn wsX11_look wsX11_amountOf := goodIn_ca (goodIn_r _ [12, 13, 14, 15, 16, 17, 11, 18, 19, 20, 21, 22, 23, 24, 25, 26, 27, 28, 29, 30, 31, 32, 33, 34, 35, 36, 37, 38, 39, 40, 41, 42, 43, 44, 45, 46, 47, 48, 49, 50, 51, 52, 53, 54, 55, 56, 57, 58, 75, 76, 77, 78, 79, 80, 81, 82, 83, 84, 85, 86, 87, 88, 89, 90, 91, 92, 93, 94, 95, 96, 97, 98, 99, 100, 101, 102, 103, 104, 105, 106, 107, 108] (by decide +kernel) (by decide +kernel)) (goodIn_sub (fun _ h => List.mem_cons_of_mem _ (List.mem_append_left _ (List.mem_append_right _ h))) (by decide +kernel))
set_option maxRecDepth 20000 in
theorem gX11_look_X11_amountOf : GoodIn wsX11_look (wsV RX11 181 RX11 yX11_amountOf wsX11_amountOf) := goodIn_app (goodIn_of _ (by decide +kernel)) ggX11_look_X11_amountOf
set_option maxRecDepth 20000 in
theorem ggX11_look_X11_kindNow : GoodIn wsX11_look wsX11_kindNow := goodIn_ca (goodIn_r _ [62, 1, 63, 2, 58, 75, 76, 77, 78, 79, 80, 81, 82, 83, 84, 85, 86, 87, 88, 89, 90, 91, 92, 93, 94, 95, 96, 97, 98, 99, 100, 101, 102, 103, 104, 105, 106, 107, 108] (by decide +kernel) (by decide +kernel)) (goodIn_sub (fun _ h => List.mem_cons_of_mem _ (List.mem_append_left _ (List.mem_append_right _ h))) (by decide +kernel))
set_option maxRecDepth 20000 in
theorem gX11_look_X11_kindNow : GoodIn wsX11_look (wsV RX11 185 RX11 yX11_kindNow wsX11_kindNow) := goodIn_app (goodIn_of _ (by decide +kernel)) ggX11_look_X11_kindNow
set_option maxRecDepth 20000 in
theorem ggX11_look_X11_extraNow : GoodIn wsX11_look wsX11_extraNow := goodIn_ca (goodIn_ca (goodIn_r _ [67, 1, 68, 2, 58, 69, 70, 71, 11, 72, 73, 74, 7, 75, 76, 77, 78, 79, 80, 81, 82, 83, 84, 85, 86, 87, 88, 89, 90, 91, 92, 93, 94, 95, 96, 97, 98, 99, 100, 101, 102, 103, 104, 105, 106, 107, 108] (by decide +kernel) (by decide +kernel)) (goodIn_sub (fun _ h => List.mem_cons_of_mem _ (List.mem_append_left _ (List.mem_append_right _ h))) (by decide +kernel))) (goodIn_sub (fun _ h => List.mem_cons_of_mem _ (List.mem_append_right _ h)) (by decide +kernel))
set_option maxRecDepth 20000 in
theorem gX11_look_X11_extraNow : GoodIn wsX11_look (wsV RX11 188 RX11 yX11_extraNow wsX11_extraNow) := goodIn_app (goodIn_of _ (by decide +kernel)) ggX11_look_X11_extraNow
theorem dX11_look_0 : decode cX11_look 0 = .ok (.iconst 0, 1) := by decide +kernel
theorem dX11_look_1 : decode cX11_look 1 = .ok (.istore_n 1, 1) := by decide +kernel
theorem dX11_look_2 : decode cX11_look 2 = .ok (.iload_n 1, 1) := by decide +kernel
theorem dX11_look_3 : decode cX11_look 3 = .ok (.aload_n 0, 1) := by decide +kernel
theorem dX11_look_4 : decode cX11_look 4 = .ok (.getfield 90, 3) := by decide +kernel
theorem dX11_look_7 : decode cX11_look 7 = .ok (.if_icmp .ge 20, 3) := by decide +kernel
theorem dX11_look_10 : decode cX11_look 10 = .ok (.aload_n 0, 1) := by decide +kernel
theorem dX11_look_11 : decode cX11_look 11 = .ok (.getfield 67, 3) := by decide +kernel
theorem dX11_look_14 : decode cX11_look 14 = .ok (.iload_n 1, 1) := by decide +kernel
theorem dX11_look_15 : decode cX11_look 15 = .ok (.aload_n 0, 1) := by decide +kernel
theorem dX11_look_16 : decode cX11_look 16 = .ok (.iload_n 1, 1) := by decide +kernel
theorem dX11_look_17 : decode cX11_look 17 = .ok (.invokevirtual 181, 3) := by decide +kernel
theorem dX11_look_20 : decode cX11_look 20 = .ok (.lastore, 1) := by decide +kernel
theorem dX11_look_21 : decode cX11_look 21 = .ok (.iinc 1 1, 3) := by decide +kernel
theorem dX11_look_24 : decode cX11_look 24 = .ok (.goto (-22), 3) := by decide +kernel
theorem dX11_look_27 : decode cX11_look 27 = .ok (.iconst 0, 1) := by decide +kernel
theorem dX11_look_28 : decode cX11_look 28 = .ok (.istore_n 1, 1) := by decide +kernel
theorem dX11_look_29 : decode cX11_look 29 = .ok (.iload_n 1, 1) := by decide +kernel
theorem dX11_look_30 : decode cX11_look 30 = .ok (.aload_n 0, 1) := by decide +kernel
theorem dX11_look_31 : decode cX11_look 31 = .ok (.getfield 175, 3) := by decide +kernel
theorem dX11_look_34 : decode cX11_look 34 = .ok (.if_icmp .ge 118, 3) := by decide +kernel
theorem dX11_look_37 : decode cX11_look 37 = .ok (.lconst 0, 1) := by decide +kernel
theorem dX11_look_38 : decode cX11_look 38 = .ok (.lstore_n 2, 1) := by decide +kernel
theorem dX11_look_39 : decode cX11_look 39 = .ok (.iconst 0, 1) := by decide +kernel
theorem dX11_look_40 : decode cX11_look 40 = .ok (.istore 4, 2) := by decide +kernel
theorem dX11_look_42 : decode cX11_look 42 = .ok (.iload 4, 2) := by decide +kernel
theorem dX11_look_44 : decode cX11_look 44 = .ok (.iconst 4, 1) := by decide +kernel
theorem dX11_look_45 : decode cX11_look 45 = .ok (.iload_n 1, 1) := by decide +kernel
theorem dX11_look_46 : decode cX11_look 46 = .ok (.iadd, 1) := by decide +kernel
theorem dX11_look_47 : decode cX11_look 47 = .ok (.if_icmp .ge 80, 3) := by decide +kernel
theorem dX11_look_50 : decode cX11_look 50 = .ok (.aload_n 0, 1) := by decide +kernel
theorem dX11_look_51 : decode cX11_look 51 = .ok (.getfield 64, 3) := by decide +kernel
theorem dX11_look_54 : decode cX11_look 54 = .ok (.iload_n 1, 1) := by decide +kernel
theorem dX11_look_55 : decode cX11_look 55 = .ok (.iaload, 1) := by decide +kernel
theorem dX11_look_56 : decode cX11_look 56 = .ok (.iload 4, 2) := by decide +kernel
theorem dX11_look_58 : decode cX11_look 58 = .ok (.ishr, 1) := by decide +kernel
theorem dX11_look_59 : decode cX11_look 59 = .ok (.iconst 1, 1) := by decide +kernel
theorem dX11_look_60 : decode cX11_look 60 = .ok (.iand, 1) := by decide +kernel
theorem dX11_look_61 : decode cX11_look 61 = .ok (.iconst 1, 1) := by decide +kernel
theorem dX11_look_62 : decode cX11_look 62 = .ok (.if_icmp .ne 7, 3) := by decide +kernel
theorem dX11_look_65 : decode cX11_look 65 = .ok (.iconst 1, 1) := by decide +kernel
theorem dX11_look_66 : decode cX11_look 66 = .ok (.goto 4, 3) := by decide +kernel
theorem dX11_look_69 : decode cX11_look 69 = .ok (.iconst 0, 1) := by decide +kernel
theorem dX11_look_70 : decode cX11_look 70 = .ok (.istore 5, 2) := by decide +kernel
theorem dX11_look_72 : decode cX11_look 72 = .ok (.lload_n 2, 1) := by decide +kernel
theorem dX11_look_73 : decode cX11_look 73 = .ok (.iload 5, 2) := by decide +kernel
theorem dX11_look_75 : decode cX11_look 75 = .ok (.ifCond .ne 7, 3) := by decide +kernel
theorem dX11_look_78 : decode cX11_look 78 = .ok (.lconst 0, 1) := by decide +kernel
theorem dX11_look_79 : decode cX11_look 79 = .ok (.goto 40, 3) := by decide +kernel
theorem dX11_look_82 : decode cX11_look 82 = .ok (.iload 4, 2) := by decide +kernel
theorem dX11_look_84 : decode cX11_look 84 = .ok (.iconst 3, 1) := by decide +kernel
theorem dX11_look_85 : decode cX11_look 85 = .ok (.if_icmp .ge 12, 3) := by decide +kernel
theorem dX11_look_88 : decode cX11_look 88 = .ok (.aload_n 0, 1) := by decide +kernel
theorem dX11_look_89 : decode cX11_look 89 = .ok (.iload 4, 2) := by decide +kernel
theorem dX11_look_91 : decode cX11_look 91 = .ok (.invokevirtual 185, 3) := by decide +kernel
theorem dX11_look_94 : decode cX11_look 94 = .ok (.goto 25, 3) := by decide +kernel
theorem dX11_look_97 : decode cX11_look 97 = .ok (.iload 4, 2) := by decide +kernel
theorem dX11_look_99 : decode cX11_look 99 = .ok (.iconst 3, 1) := by decide +kernel
theorem dX11_look_100 : decode cX11_look 100 = .ok (.if_icmp .ne 10, 3) := by decide +kernel
theorem dX11_look_103 : decode cX11_look 103 = .ok (.aload_n 0, 1) := by decide +kernel
theorem dX11_look_104 : decode cX11_look 104 = .ok (.invokevirtual 188, 3) := by decide +kernel
theorem dX11_look_107 : decode cX11_look 107 = .ok (.goto 12, 3) := by decide +kernel
theorem dX11_look_110 : decode cX11_look 110 = .ok (.aload_n 0, 1) := by decide +kernel
theorem dX11_look_111 : decode cX11_look 111 = .ok (.getfield 71, 3) := by decide +kernel
theorem dX11_look_114 : decode cX11_look 114 = .ok (.iload 4, 2) := by decide +kernel
theorem dX11_look_116 : decode cX11_look 116 = .ok (.iconst 4, 1) := by decide +kernel
theorem dX11_look_117 : decode cX11_look 117 = .ok (.isub, 1) := by decide +kernel
theorem dX11_look_118 : decode cX11_look 118 = .ok (.laload, 1) := by decide +kernel
theorem dX11_look_119 : decode cX11_look 119 = .ok (.ladd, 1) := by decide +kernel
theorem dX11_look_120 : decode cX11_look 120 = .ok (.lstore_n 2, 1) := by decide +kernel
theorem dX11_look_121 : decode cX11_look 121 = .ok (.iinc 4 1, 3) := by decide +kernel
theorem dX11_look_124 : decode cX11_look 124 = .ok (.goto (-82), 3) := by decide +kernel
theorem dX11_look_127 : decode cX11_look 127 = .ok (.aload_n 0, 1) := by decide +kernel
theorem dX11_look_128 : decode cX11_look 128 = .ok (.getfield 71, 3) := by decide +kernel
theorem dX11_look_131 : decode cX11_look 131 = .ok (.iload_n 1, 1) := by decide +kernel
theorem dX11_look_132 : decode cX11_look 132 = .ok (.lload_n 2, 1) := by decide +kernel
theorem dX11_look_133 : decode cX11_look 133 = .ok (.aload_n 0, 1) := by decide +kernel
theorem dX11_look_134 : decode cX11_look 134 = .ok (.getfield 61, 3) := by decide +kernel
theorem dX11_look_137 : decode cX11_look 137 = .ok (.iload_n 1, 1) := by decide +kernel
theorem dX11_look_138 : decode cX11_look 138 = .ok (.iaload, 1) := by decide +kernel
theorem dX11_look_139 : decode cX11_look 139 = .ok (.i2l, 1) := by decide +kernel
theorem dX11_look_140 : decode cX11_look 140 = .ok (.lmul, 1) := by decide +kernel
theorem dX11_look_141 : decode cX11_look 141 = .ok (.ldc2_w 191, 3) := by decide +kernel
theorem dX11_look_144 : decode cX11_look 144 = .ok (.ldiv, 1) := by decide +kernel
theorem dX11_look_145 : decode cX11_look 145 = .ok (.lastore, 1) := by decide +kernel
theorem dX11_look_146 : decode cX11_look 146 = .ok (.iinc 1 1, 3) := by decide +kernel
theorem dX11_look_149 : decode cX11_look 149 = .ok (.goto (-120), 3) := by decide +kernel
theorem dX11_look_152 : decode cX11_look 152 = .ok (.return_, 1) := by decide +kernel
set_option maxRecDepth 20000 in
theorem ggX11_markup_X11_noMarkup : GoodIn wsX11_markup wsX11_noMarkup := goodIn_r _ [7, 8, 9, 10, 6, 11, 91, 92, 93, 94, 95, 96, 97, 98, 99, 100, 101, 102, 103, 104, 105, 106, 107, 108, 109, 110, 111, 112, 113, 114, 115, 116, 117, 118, 119, 120, 121, 122, 123, 124] (by decide +kernel) (by decide +kernel)
set_option maxRecDepth 20000 in
theorem gX11_markup_X11_noMarkup : GoodIn wsX11_markup (wsV RX11 178 RX11 yX11_noMarkup wsX11_noMarkup) := goodIn_app (goodIn_of _ (by decide +kernel)) ggX11_markup_X11_noMarkup
set_option maxRecDepth 20000 in
theorem ggX11_markup_X11_fails : GoodIn wsX11_markup wsX11_fails := goodIn_r _ [15, 1, 91, 92, 93, 94, 95, 96, 97, 98, 99, 100, 101, 102, 103, 104, 105, 106, 107, 108, 109, 110, 111, 112, 113, 114, 115, 116, 117, 118, 119, 120, 121, 122, 123, 124] (by decide +kernel) (by decide +kernel)
set_option maxRecDepth 20000 in
theorem gX11_markup_X11_fails : GoodIn wsX11_markup (wsV RX11 106 RX11 yX11_fails wsX11_fails) := goodIn_app (goodIn_of _ (by decide +kernel)) ggX11_markup_X11_fails
set_option maxRecDepth 20000 in
theorem ggX11_markup_X11_look : GoodIn wsX11_markup wsX11_look := goodIn_ca (goodIn_ca (goodIn_r _ [19, 20, 21, 8, 22, 2, 23, 24, 25, 26, 27, 6, 28, 29, 30, 31, 32, 33, 34, 35, 36, 37, 38, 39, 40, 41, 42, 43, 44, 45, 46, 47, 48, 49, 50, 51, 52, 53, 54, 55, 56, 57, 58, 59, 60, 61, 62, 63, 64, 65, 66, 67, 68, 69, 70, 71, 72, 73, 74, 75, 76, 77, 78, 79, 80, 81, 82, 83, 84, 85, 86, 87, 88, 89, 90, 91, 92, 93, 94, 95, 96, 97, 98, 99, 100, 101, 102, 103, 104, 105, 106, 107, 108, 109, 110, 111, 112, 113, 114, 115, 116, 117, 118, 119, 120, 121, 122, 123, 124] (by decide +kernel) (by decide +kernel)) (goodIn_sub (fun _ h => List.mem_cons_of_mem _ (List.mem_append_left _ (List.mem_append_right _ h))) (by decide +kernel))) (goodIn_sub (fun _ h => List.mem_cons_of_mem _ (List.mem_append_right _ h)) (by decide +kernel))
set_option maxRecDepth 20000 in
theorem gX11_markup_X11_look : GoodIn wsX11_markup (wsV RX11 193 RX11 yX11_look wsX11_look) := goodIn_app (goodIn_of _ (by decide +kernel)) ggX11_markup_X11_look
theorem dX11_markup_0 : decode cX11_markup 0 = .ok (.aload_n 0, 1) := by decide +kernel
theorem dX11_markup_1 : decode cX11_markup 1 = .ok (.iconst 0, 1) := by decide +kernel
theorem dX11_markup_2 : decode cX11_markup 2 = .ok (.putfield 86, 3) := by decide +kernel
theorem dX11_markup_5 : decode cX11_markup 5 = .ok (.aload_n 0, 1) := by decide +kernel
theorem dX11_markup_6 : decode cX11_markup 6 = .ok (.aload_n 0, 1) := by decide +kernel
theorem dX11_markup_7 : decode cX11_markup 7 = .ok (.iload_n 1, 1) := by decide +kernel
theorem dX11_markup_8 : decode cX11_markup 8 = .ok (.invokevirtual 178, 3) := by decide +kernel
theorem dX11_markup_11 : decode cX11_markup 11 = .ok (.iconst 1, 1) := by decide +kernel
theorem dX11_markup_12 : decode cX11_markup 12 = .ok (.invokevirtual 106, 3) := by decide +kernel
theorem dX11_markup_15 : decode cX11_markup 15 = .ok (.ifCond .eq 5, 3) := by decide +kernel
theorem dX11_markup_18 : decode cX11_markup 18 = .ok (.lconst 0, 1) := by decide +kernel
theorem dX11_markup_19 : decode cX11_markup 19 = .ok (.lreturn, 1) := by decide +kernel
theorem dX11_markup_20 : decode cX11_markup 20 = .ok (.aload_n 0, 1) := by decide +kernel
theorem dX11_markup_21 : decode cX11_markup 21 = .ok (.invokevirtual 193, 3) := by decide +kernel
theorem dX11_markup_24 : decode cX11_markup 24 = .ok (.aload_n 0, 1) := by decide +kernel
theorem dX11_markup_25 : decode cX11_markup 25 = .ok (.getfield 71, 3) := by decide +kernel
theorem dX11_markup_28 : decode cX11_markup 28 = .ok (.iload_n 1, 1) := by decide +kernel
theorem dX11_markup_29 : decode cX11_markup 29 = .ok (.laload, 1) := by decide +kernel
theorem dX11_markup_30 : decode cX11_markup 30 = .ok (.lreturn, 1) := by decide +kernel
set_option maxRecDepth 20000 in
theorem ggX11_amountOf_X11_quantityOf : GoodIn wsX11_amountOf wsX11_quantityOf := goodIn_ca (goodIn_r _ [7, 8, 9, 10, 48, 49, 50, 51, 52, 53, 54, 55, 56, 57, 58, 59, 60, 61, 62, 63, 64, 65, 66, 67, 68, 69, 70, 71, 72, 73, 74, 75, 76, 77, 78, 79, 80, 81] (by decide +kernel) (by decide +kernel)) (goodIn_sub (fun _ h => List.mem_cons_of_mem _ (List.mem_append_right _ h)) (by decide +kernel))
set_option maxRecDepth 20000 in
theorem gX11_amountOf_X11_quantityOf : GoodIn wsX11_amountOf (wsV RX11 158 RX11 yX11_quantityOf wsX11_quantityOf) := goodIn_app (goodIn_of _ (by decide +kernel)) ggX11_amountOf_X11_quantityOf
set_option maxRecDepth 20000 in
theorem ggX11_amountOf_X11_meantItem : GoodIn wsX11_amountOf wsX11_meantItem := goodIn_ca (goodIn_r _ [14, 15, 16, 17, 48, 49, 50, 51, 52, 53, 54, 55, 56, 57, 58, 59, 60, 61, 62, 63, 64, 65, 66, 67, 68, 69, 70, 71, 72, 73, 74, 75, 76, 77, 78, 79, 80, 81] (by decide +kernel) (by decide +kernel)) (goodIn_sub (fun _ h => List.mem_cons_of_mem _ (List.mem_append_right _ h)) (by decide +kernel))
set_option maxRecDepth 20000 in
theorem gX11_amountOf_X11_meantItem : GoodIn wsX11_amountOf (wsV RX11 120 RX11 yX11_meantItem wsX11_meantItem) := goodIn_app (goodIn_of _ (by decide +kernel)) ggX11_amountOf_X11_meantItem
set_option maxRecDepth 20000 in
theorem ggX11_amountOf_X11_needs : GoodIn wsX11_amountOf wsX11_needs := goodIn_ca (goodIn_r _ [21, 22, 23, 24, 25, 26, 27, 28, 29, 30, 31, 32, 33, 6, 34, 35, 36, 37, 38, 39, 40, 41, 15, 16, 42, 43, 44, 45, 46, 47, 11, 12, 13, 14, 17, 48, 49, 50, 51, 52, 53, 54, 55, 56, 57, 58, 59, 60, 61, 62, 63, 64, 65, 66, 67, 68, 69, 70, 71, 72, 73, 74, 75, 76, 77, 78, 79, 80, 81] (by decide +kernel) (by decide +kernel)) (goodIn_sub (fun _ h => List.mem_cons_of_mem _ (List.mem_append_right _ h)) (by decide +kernel))
set_option maxRecDepth 20000 in
theorem gX11_amountOf_X11_needs : GoodIn wsX11_amountOf (wsV RX11 148 RX11 yX11_needs wsX11_needs) := goodIn_app (goodIn_of _ (by decide +kernel)) ggX11_amountOf_X11_needs
theorem dX11_amountOf_0 : decode cX11_amountOf 0 = .ok (.lconst 0, 1) := by decide +kernel
theorem dX11_amountOf_1 : decode cX11_amountOf 1 = .ok (.lstore_n 2, 1) := by decide +kernel
theorem dX11_amountOf_2 : decode cX11_amountOf 2 = .ok (.iconst 0, 1) := by decide +kernel
theorem dX11_amountOf_3 : decode cX11_amountOf 3 = .ok (.istore 4, 2) := by decide +kernel
theorem dX11_amountOf_5 : decode cX11_amountOf 5 = .ok (.iload 4, 2) := by decide +kernel
theorem dX11_amountOf_7 : decode cX11_amountOf 7 = .ok (.aload_n 0, 1) := by decide +kernel
theorem dX11_amountOf_8 : decode cX11_amountOf 8 = .ok (.getfield 100, 3) := by decide +kernel
theorem dX11_amountOf_11 : decode cX11_amountOf 11 = .ok (.if_icmp .ge 37, 3) := by decide +kernel
theorem dX11_amountOf_14 : decode cX11_amountOf 14 = .ok (.lload_n 2, 1) := by decide +kernel
theorem dX11_amountOf_15 : decode cX11_amountOf 15 = .ok (.aload_n 0, 1) := by decide +kernel
theorem dX11_amountOf_16 : decode cX11_amountOf 16 = .ok (.iload 4, 2) := by decide +kernel
theorem dX11_amountOf_18 : decode cX11_amountOf 18 = .ok (.invokevirtual 158, 3) := by decide +kernel
theorem dX11_amountOf_21 : decode cX11_amountOf 21 = .ok (.i2l, 1) := by decide +kernel
theorem dX11_amountOf_22 : decode cX11_amountOf 22 = .ok (.aload_n 0, 1) := by decide +kernel
theorem dX11_amountOf_23 : decode cX11_amountOf 23 = .ok (.aload_n 0, 1) := by decide +kernel
theorem dX11_amountOf_24 : decode cX11_amountOf 24 = .ok (.aload_n 0, 1) := by decide +kernel
theorem dX11_amountOf_25 : decode cX11_amountOf 25 = .ok (.getfield 46, 3) := by decide +kernel
theorem dX11_amountOf_28 : decode cX11_amountOf 28 = .ok (.iload 4, 2) := by decide +kernel
theorem dX11_amountOf_30 : decode cX11_amountOf 30 = .ok (.iaload, 1) := by decide +kernel
theorem dX11_amountOf_31 : decode cX11_amountOf 31 = .ok (.invokevirtual 120, 3) := by decide +kernel
theorem dX11_amountOf_34 : decode cX11_amountOf 34 = .ok (.iload_n 1, 1) := by decide +kernel
theorem dX11_amountOf_35 : decode cX11_amountOf 35 = .ok (.iconst (-1), 1) := by decide +kernel
theorem dX11_amountOf_36 : decode cX11_amountOf 36 = .ok (.invokevirtual 148, 3) := by decide +kernel
theorem dX11_amountOf_39 : decode cX11_amountOf 39 = .ok (.lmul, 1) := by decide +kernel
theorem dX11_amountOf_40 : decode cX11_amountOf 40 = .ok (.ladd, 1) := by decide +kernel
theorem dX11_amountOf_41 : decode cX11_amountOf 41 = .ok (.lstore_n 2, 1) := by decide +kernel
theorem dX11_amountOf_42 : decode cX11_amountOf 42 = .ok (.iinc 4 1, 3) := by decide +kernel
theorem dX11_amountOf_45 : decode cX11_amountOf 45 = .ok (.goto (-40), 3) := by decide +kernel
theorem dX11_amountOf_48 : decode cX11_amountOf 48 = .ok (.lload_n 2, 1) := by decide +kernel
theorem dX11_amountOf_49 : decode cX11_amountOf 49 = .ok (.lreturn, 1) := by decide +kernel
set_option maxRecDepth 20000 in
theorem ggX11_amount_X11_noResource : GoodIn wsX11_amount wsX11_noResource := goodIn_r _ [6, 7, 8, 9, 5, 10, 65, 66, 67, 68, 69, 70, 71, 72, 73, 74, 75, 76, 77, 78, 79, 80, 81, 82, 83, 84, 85, 86, 87, 88, 89, 90, 91, 92, 93, 94, 95, 96, 97, 98] (by decide +kernel) (by decide +kernel)
set_option maxRecDepth 20000 in
theorem gX11_amount_X11_noResource : GoodIn wsX11_amount (wsV RX11 110 RX11 yX11_noResource wsX11_noResource) := goodIn_app (goodIn_of _ (by decide +kernel)) ggX11_amount_X11_noResource
set_option maxRecDepth 20000 in
theorem ggX11_amount_X11_fails : GoodIn wsX11_amount wsX11_fails := goodIn_r _ [14, 1, 65, 66, 67, 68, 69, 70, 71, 72, 73, 74, 75, 76, 77, 78, 79, 80, 81, 82, 83, 84, 85, 86, 87, 88, 89, 90, 91, 92, 93, 94, 95, 96, 97, 98] (by decide +kernel) (by decide +kernel)
set_option maxRecDepth 20000 in
theorem gX11_amount_X11_fails : GoodIn wsX11_amount (wsV RX11 106 RX11 yX11_fails wsX11_fails) := goodIn_app (goodIn_of _ (by decide +kernel)) ggX11_amount_X11_fails
set_option maxRecDepth 20000 in
theorem ggX11_amount_X11_amountOf : GoodIn wsX11_amount wsX11_amountOf := goodIn_ca (goodIn_r _ [18, 19, 20, 21, 22, 23, 5, 24, 25, 26, 27, 28, 29, 30, 31, 32, 33, 34, 35, 36, 37, 38, 39, 40, 41, 42, 43, 44, 45, 46, 47, 48, 49, 50, 51, 52, 53, 54, 55, 56, 57, 58, 59, 60, 61, 62, 63, 64, 65, 66, 67, 68, 69, 70, 71, 72, 73, 74, 75, 76, 77, 78, 79, 80, 81, 82, 83, 84, 85, 86, 87, 88, 89, 90, 91, 92, 93, 94, 95, 96, 97, 98] (by decide +kernel) (by decide +kernel)) (goodIn_sub (fun _ h => List.mem_cons_of_mem _ (List.mem_append_right _ h)) (by decide +kernel))
set_option maxRecDepth 20000 in
theorem gX11_amount_X11_amountOf : GoodIn wsX11_amount (wsV RX11 181 RX11 yX11_amountOf wsX11_amountOf) := goodIn_app (goodIn_of _ (by decide +kernel)) ggX11_amount_X11_amountOf
theorem dX11_amount_0 : decode cX11_amount 0 = .ok (.aload_n 0, 1) := by decide +kernel
theorem dX11_amount_1 : decode cX11_amount 1 = .ok (.iconst 0, 1) := by decide +kernel
theorem dX11_amount_2 : decode cX11_amount 2 = .ok (.putfield 86, 3) := by decide +kernel
theorem dX11_amount_5 : decode cX11_amount 5 = .ok (.aload_n 0, 1) := by decide +kernel
theorem dX11_amount_6 : decode cX11_amount 6 = .ok (.aload_n 0, 1) := by decide +kernel
theorem dX11_amount_7 : decode cX11_amount 7 = .ok (.iload_n 1, 1) := by decide +kernel
theorem dX11_amount_8 : decode cX11_amount 8 = .ok (.invokevirtual 110, 3) := by decide +kernel
theorem dX11_amount_11 : decode cX11_amount 11 = .ok (.iconst 1, 1) := by decide +kernel
theorem dX11_amount_12 : decode cX11_amount 12 = .ok (.invokevirtual 106, 3) := by decide +kernel
theorem dX11_amount_15 : decode cX11_amount 15 = .ok (.ifCond .eq 7, 3) := by decide +kernel
theorem dX11_amount_18 : decode cX11_amount 18 = .ok (.lconst 0, 1) := by decide +kernel
theorem dX11_amount_19 : decode cX11_amount 19 = .ok (.goto 8, 3) := by decide +kernel
theorem dX11_amount_22 : decode cX11_amount 22 = .ok (.aload_n 0, 1) := by decide +kernel
theorem dX11_amount_23 : decode cX11_amount 23 = .ok (.iload_n 1, 1) := by decide +kernel
theorem dX11_amount_24 : decode cX11_amount 24 = .ok (.invokevirtual 181, 3) := by decide +kernel
theorem dX11_amount_27 : decode cX11_amount 27 = .ok (.lreturn, 1) := by decide +kernel
set_option maxRecDepth 20000 in
theorem ggX11_amountByTree_X11_amount : GoodIn wsX11_amountByTree wsX11_amount := goodIn_ca (goodIn_r _ [5, 6, 7, 8, 9, 4, 10, 11, 12, 13, 14, 15, 16, 17, 18, 19, 20, 21, 22, 23, 24, 25, 26, 27, 28, 29, 30, 31, 32, 33, 34, 35, 36, 37, 38, 39, 40, 41, 42, 43, 44, 45, 46, 47, 48, 49, 50, 51, 52, 53, 54, 55, 56, 57, 58, 59, 60, 61, 62, 63, 64, 65, 66, 67, 68, 69, 70, 71, 72, 73, 74, 75, 76, 77, 78, 79, 80, 81, 82, 83, 84, 85, 86, 87, 88, 89, 90, 91, 92, 93, 94, 95, 96, 97, 98, 99, 100, 101, 102] (by decide +kernel) (by decide +kernel)) (goodIn_sub (fun _ h => List.mem_cons_of_mem _ (List.mem_append_right _ h)) (by decide +kernel))
set_option maxRecDepth 20000 in
theorem gX11_amountByTree_X11_amount : GoodIn wsX11_amountByTree (wsV RX11 196 RX11 yX11_amount wsX11_amount) := goodIn_app (goodIn_of _ (by decide +kernel)) ggX11_amountByTree_X11_amount
theorem dX11_amountByTree_0 : decode cX11_amountByTree 0 = .ok (.aload_n 0, 1) := by decide +kernel
theorem dX11_amountByTree_1 : decode cX11_amountByTree 1 = .ok (.iload_n 1, 1) := by decide +kernel
theorem dX11_amountByTree_2 : decode cX11_amountByTree 2 = .ok (.invokevirtual 196, 3) := by decide +kernel
theorem dX11_amountByTree_5 : decode cX11_amountByTree 5 = .ok (.lreturn, 1) := by decide +kernel
theorem dX11_packsOf_0 : decode cX11_packsOf 0 = .ok (.aload_n 0, 1) := by decide +kernel
theorem dX11_packsOf_1 : decode cX11_packsOf 1 = .ok (.getfield 67, 3) := by decide +kernel
theorem dX11_packsOf_4 : decode cX11_packsOf 4 = .ok (.iload_n 1, 1) := by decide +kernel
theorem dX11_packsOf_5 : decode cX11_packsOf 5 = .ok (.laload, 1) := by decide +kernel
theorem dX11_packsOf_6 : decode cX11_packsOf 6 = .ok (.lstore_n 2, 1) := by decide +kernel
theorem dX11_packsOf_7 : decode cX11_packsOf 7 = .ok (.lload_n 2, 1) := by decide +kernel
theorem dX11_packsOf_8 : decode cX11_packsOf 8 = .ok (.lload_n 2, 1) := by decide +kernel
theorem dX11_packsOf_9 : decode cX11_packsOf 9 = .ok (.aload_n 0, 1) := by decide +kernel
theorem dX11_packsOf_10 : decode cX11_packsOf 10 = .ok (.getfield 16, 3) := by decide +kernel
theorem dX11_packsOf_13 : decode cX11_packsOf 13 = .ok (.iload_n 1, 1) := by decide +kernel
theorem dX11_packsOf_14 : decode cX11_packsOf 14 = .ok (.iaload, 1) := by decide +kernel
theorem dX11_packsOf_15 : decode cX11_packsOf 15 = .ok (.i2l, 1) := by decide +kernel
theorem dX11_packsOf_16 : decode cX11_packsOf 16 = .ok (.lmul, 1) := by decide +kernel
theorem dX11_packsOf_17 : decode cX11_packsOf 17 = .ok (.ldc2_w 199, 3) := by decide +kernel
theorem dX11_packsOf_20 : decode cX11_packsOf 20 = .ok (.ladd, 1) := by decide +kernel
theorem dX11_packsOf_21 : decode cX11_packsOf 21 = .ok (.ldc2_w 191, 3) := by decide +kernel
theorem dX11_packsOf_24 : decode cX11_packsOf 24 = .ok (.ldiv, 1) := by decide +kernel
theorem dX11_packsOf_25 : decode cX11_packsOf 25 = .ok (.ladd, 1) := by decide +kernel
theorem dX11_packsOf_26 : decode cX11_packsOf 26 = .ok (.lstore 4, 2) := by decide +kernel
theorem dX11_packsOf_28 : decode cX11_packsOf 28 = .ok (.lload 4, 2) := by decide +kernel
theorem dX11_packsOf_30 : decode cX11_packsOf 30 = .ok (.aload_n 0, 1) := by decide +kernel
theorem dX11_packsOf_31 : decode cX11_packsOf 31 = .ok (.getfield 19, 3) := by decide +kernel
theorem dX11_packsOf_34 : decode cX11_packsOf 34 = .ok (.iload_n 1, 1) := by decide +kernel
theorem dX11_packsOf_35 : decode cX11_packsOf 35 = .ok (.iaload, 1) := by decide +kernel
theorem dX11_packsOf_36 : decode cX11_packsOf 36 = .ok (.i2l, 1) := by decide +kernel
theorem dX11_packsOf_37 : decode cX11_packsOf 37 = .ok (.ladd, 1) := by decide +kernel
theorem dX11_packsOf_38 : decode cX11_packsOf 38 = .ok (.lconst 1, 1) := by decide +kernel
theorem dX11_packsOf_39 : decode cX11_packsOf 39 = .ok (.lsub, 1) := by decide +kernel
theorem dX11_packsOf_40 : decode cX11_packsOf 40 = .ok (.aload_n 0, 1) := by decide +kernel
theorem dX11_packsOf_41 : decode cX11_packsOf 41 = .ok (.getfield 19, 3) := by decide +kernel
theorem dX11_packsOf_44 : decode cX11_packsOf 44 = .ok (.iload_n 1, 1) := by decide +kernel
theorem dX11_packsOf_45 : decode cX11_packsOf 45 = .ok (.iaload, 1) := by decide +kernel
theorem dX11_packsOf_46 : decode cX11_packsOf 46 = .ok (.i2l, 1) := by decide +kernel
theorem dX11_packsOf_47 : decode cX11_packsOf 47 = .ok (.ldiv, 1) := by decide +kernel
theorem dX11_packsOf_48 : decode cX11_packsOf 48 = .ok (.lreturn, 1) := by decide +kernel
set_option maxRecDepth 20000 in
theorem ggX11_packs_X11_noResource : GoodIn wsX11_packs wsX11_noResource := goodIn_r _ [6, 7, 8, 9, 5, 10, 91, 92, 93, 94, 95, 96, 97, 98, 99, 100, 101, 102, 103, 104, 105, 106, 107, 108, 109, 110, 111, 112, 113, 114, 115, 116, 117, 118, 119, 120, 121, 122, 123, 124] (by decide +kernel) (by decide +kernel)
set_option maxRecDepth 20000 in
theorem gX11_packs_X11_noResource : GoodIn wsX11_packs (wsV RX11 110 RX11 yX11_noResource wsX11_noResource) := goodIn_app (goodIn_of _ (by decide +kernel)) ggX11_packs_X11_noResource
set_option maxRecDepth 20000 in
theorem ggX11_packs_X11_fails : GoodIn wsX11_packs wsX11_fails := goodIn_r _ [14, 1, 91, 92, 93, 94, 95, 96, 97, 98, 99, 100, 101, 102, 103, 104, 105, 106, 107, 108, 109, 110, 111, 112, 113, 114, 115, 116, 117, 118, 119, 120, 121, 122, 123, 124] (by decide +kernel) (by decide +kernel)
set_option maxRecDepth 20000 in
theorem gX11_packs_X11_fails : GoodIn wsX11_packs (wsV RX11 106 RX11 yX11_fails wsX11_fails) := goodIn_app (goodIn_of _ (by decide +kernel)) ggX11_packs_X11_fails
set_option maxRecDepth 20000 in
theorem ggX11_packs_X11_look : GoodIn wsX11_packs wsX11_look := goodIn_ca (goodIn_ca (goodIn_r _ [18, 7, 19, 20, 21, 22, 23, 24, 25, 26, 27, 5, 28, 29, 30, 31, 32, 33, 34, 35, 36, 37, 38, 39, 40, 41, 42, 43, 44, 45, 46, 47, 48, 49, 50, 51, 52, 53, 54, 55, 56, 57, 58, 59, 60, 61, 62, 63, 64, 65, 66, 67, 68, 69, 70, 71, 72, 73, 74, 75, 76, 77, 78, 79, 80, 81, 82, 83, 84, 85, 86, 87, 88, 89, 90, 91, 92, 93, 94, 95, 96, 97, 98, 99, 100, 101, 102, 103, 104, 105, 106, 107, 108, 109, 110, 111, 112, 113, 114, 115, 116, 117, 118, 119, 120, 121, 122, 123, 124] (by decide +kernel) (by decide +kernel)) (goodIn_sub (fun _ h => List.mem_cons_of_mem _ (List.mem_append_left _ (List.mem_append_right _ h))) (by decide +kernel))) (goodIn_sub (fun _ h => List.mem_cons_of_mem _ (List.mem_append_right _ h)) (by decide +kernel))
set_option maxRecDepth 20000 in
theorem gX11_packs_X11_look : GoodIn wsX11_packs (wsV RX11 193 RX11 yX11_look wsX11_look) := goodIn_app (goodIn_of _ (by decide +kernel)) ggX11_packs_X11_look
set_option maxRecDepth 20000 in
theorem ggX11_packs_X11_packsOf : GoodIn wsX11_packs wsX11_packsOf := goodIn_ca (goodIn_ca (goodIn_r _ [88, 19, 89, 90, 24, 84, 91, 92, 93, 94, 95, 96, 97, 98, 99, 100, 101, 102, 103, 104, 105, 106, 107, 108, 109, 110, 111, 112, 113, 114, 115, 116, 117, 118, 119, 120, 121, 122, 123, 124] (by decide +kernel) (by decide +kernel)) (goodIn_sub (fun _ h => List.mem_cons_of_mem _ (List.mem_append_left _ (List.mem_append_right _ h))) (by decide +kernel))) (goodIn_sub (fun _ h => List.mem_cons_of_mem _ (List.mem_append_right _ h)) (by decide +kernel))
set_option maxRecDepth 20000 in
theorem gX11_packs_X11_packsOf : GoodIn wsX11_packs (wsV RX11 201 RX11 yX11_packsOf wsX11_packsOf) := goodIn_app (goodIn_of _ (by decide +kernel)) ggX11_packs_X11_packsOf
theorem dX11_packs_0 : decode cX11_packs 0 = .ok (.aload_n 0, 1) := by decide +kernel
theorem dX11_packs_1 : decode cX11_packs 1 = .ok (.iconst 0, 1) := by decide +kernel
theorem dX11_packs_2 : decode cX11_packs 2 = .ok (.putfield 86, 3) := by decide +kernel
theorem dX11_packs_5 : decode cX11_packs 5 = .ok (.aload_n 0, 1) := by decide +kernel
theorem dX11_packs_6 : decode cX11_packs 6 = .ok (.aload_n 0, 1) := by decide +kernel
theorem dX11_packs_7 : decode cX11_packs 7 = .ok (.iload_n 1, 1) := by decide +kernel
theorem dX11_packs_8 : decode cX11_packs 8 = .ok (.invokevirtual 110, 3) := by decide +kernel
theorem dX11_packs_11 : decode cX11_packs 11 = .ok (.iconst 1, 1) := by decide +kernel
theorem dX11_packs_12 : decode cX11_packs 12 = .ok (.invokevirtual 106, 3) := by decide +kernel
theorem dX11_packs_15 : decode cX11_packs 15 = .ok (.ifCond .eq 5, 3) := by decide +kernel
theorem dX11_packs_18 : decode cX11_packs 18 = .ok (.lconst 0, 1) := by decide +kernel
theorem dX11_packs_19 : decode cX11_packs 19 = .ok (.lreturn, 1) := by decide +kernel
theorem dX11_packs_20 : decode cX11_packs 20 = .ok (.aload_n 0, 1) := by decide +kernel
theorem dX11_packs_21 : decode cX11_packs 21 = .ok (.invokevirtual 193, 3) := by decide +kernel
theorem dX11_packs_24 : decode cX11_packs 24 = .ok (.aload_n 0, 1) := by decide +kernel
theorem dX11_packs_25 : decode cX11_packs 25 = .ok (.iload_n 1, 1) := by decide +kernel
theorem dX11_packs_26 : decode cX11_packs 26 = .ok (.invokevirtual 201, 3) := by decide +kernel
theorem dX11_packs_29 : decode cX11_packs 29 = .ok (.lreturn, 1) := by decide +kernel
set_option maxRecDepth 20000 in
theorem ggX11_costOfLine_X11_noLine : GoodIn wsX11_costOfLine wsX11_noLine := goodIn_r _ [7, 8, 9, 10, 6, 11, 60, 61, 62, 63, 64, 65, 66, 67, 68, 69, 70, 71, 72, 73, 74, 75, 76, 77, 78, 79, 80, 81, 82, 83, 84, 85, 86, 87, 88, 89, 90, 91, 92, 93] (by decide +kernel) (by decide +kernel)
set_option maxRecDepth 20000 in
theorem gX11_costOfLine_X11_noLine : GoodIn wsX11_costOfLine (wsV RX11 155 RX11 yX11_noLine wsX11_noLine) := goodIn_app (goodIn_of _ (by decide +kernel)) ggX11_costOfLine_X11_noLine
set_option maxRecDepth 20000 in
theorem ggX11_costOfLine_X11_fails : GoodIn wsX11_costOfLine wsX11_fails := goodIn_r _ [15, 1, 60, 61, 62, 63, 64, 65, 66, 67, 68, 69, 70, 71, 72, 73, 74, 75, 76, 77, 78, 79, 80, 81, 82, 83, 84, 85, 86, 87, 88, 89, 90, 91, 92, 93] (by decide +kernel) (by decide +kernel)
set_option maxRecDepth 20000 in
theorem gX11_costOfLine_X11_fails : GoodIn wsX11_costOfLine (wsV RX11 106 RX11 yX11_fails wsX11_fails) := goodIn_app (goodIn_of _ (by decide +kernel)) ggX11_costOfLine_X11_fails
set_option maxRecDepth 20000 in
theorem ggX11_costOfLine_X11_quantityOf : GoodIn wsX11_costOfLine wsX11_quantityOf := goodIn_ca (goodIn_r _ [19, 20, 21, 22, 60, 61, 62, 63, 64, 65, 66, 67, 68, 69, 70, 71, 72, 73, 74, 75, 76, 77, 78, 79, 80, 81, 82, 83, 84, 85, 86, 87, 88, 89, 90, 91, 92, 93] (by decide +kernel) (by decide +kernel)) (goodIn_sub (fun _ h => List.mem_cons_of_mem _ (List.mem_append_right _ h)) (by decide +kernel))
set_option maxRecDepth 20000 in
theorem gX11_costOfLine_X11_quantityOf : GoodIn wsX11_costOfLine (wsV RX11 158 RX11 yX11_quantityOf wsX11_quantityOf) := goodIn_app (goodIn_of _ (by decide +kernel)) ggX11_costOfLine_X11_quantityOf
set_option maxRecDepth 20000 in
theorem ggX11_costOfLine_X11_meantItem : GoodIn wsX11_costOfLine wsX11_meantItem := goodIn_ca (goodIn_r _ [26, 27, 28, 29, 60, 61, 62, 63, 64, 65, 66, 67, 68, 69, 70, 71, 72, 73, 74, 75, 76, 77, 78, 79, 80, 81, 82, 83, 84, 85, 86, 87, 88, 89, 90, 91, 92, 93] (by decide +kernel) (by decide +kernel)) (goodIn_sub (fun _ h => List.mem_cons_of_mem _ (List.mem_append_right _ h)) (by decide +kernel))
set_option maxRecDepth 20000 in
theorem gX11_costOfLine_X11_meantItem : GoodIn wsX11_costOfLine (wsV RX11 120 RX11 yX11_meantItem wsX11_meantItem) := goodIn_app (goodIn_of _ (by decide +kernel)) ggX11_costOfLine_X11_meantItem
set_option maxRecDepth 20000 in
theorem ggX11_costOfLine_X11_needs : GoodIn wsX11_costOfLine wsX11_needs := goodIn_ca (goodIn_r _ [33, 34, 35, 36, 37, 38, 39, 40, 41, 42, 43, 44, 45, 6, 46, 47, 48, 49, 50, 51, 52, 53, 27, 28, 54, 55, 56, 57, 58, 59, 23, 24, 25, 26, 29, 60, 61, 62, 63, 64, 65, 66, 67, 68, 69, 70, 71, 72, 73, 74, 75, 76, 77, 78, 79, 80, 81, 82, 83, 84, 85, 86, 87, 88, 89, 90, 91, 92, 93] (by decide +kernel) (by decide +kernel)) (goodIn_sub (fun _ h => List.mem_cons_of_mem _ (List.mem_append_right _ h)) (by decide +kernel))
set_option maxRecDepth 20000 in
theorem gX11_costOfLine_X11_needs : GoodIn wsX11_costOfLine (wsV RX11 148 RX11 yX11_needs wsX11_needs) := goodIn_app (goodIn_of _ (by decide +kernel)) ggX11_costOfLine_X11_needs
theorem dX11_costOfLine_0 : decode cX11_costOfLine 0 = .ok (.aload_n 0, 1) := by decide +kernel
theorem dX11_costOfLine_1 : decode cX11_costOfLine 1 = .ok (.iconst 0, 1) := by decide +kernel
theorem dX11_costOfLine_2 : decode cX11_costOfLine 2 = .ok (.putfield 86, 3) := by decide +kernel
theorem dX11_costOfLine_5 : decode cX11_costOfLine 5 = .ok (.aload_n 0, 1) := by decide +kernel
theorem dX11_costOfLine_6 : decode cX11_costOfLine 6 = .ok (.aload_n 0, 1) := by decide +kernel
theorem dX11_costOfLine_7 : decode cX11_costOfLine 7 = .ok (.iload_n 1, 1) := by decide +kernel
theorem dX11_costOfLine_8 : decode cX11_costOfLine 8 = .ok (.invokevirtual 155, 3) := by decide +kernel
theorem dX11_costOfLine_11 : decode cX11_costOfLine 11 = .ok (.iconst 1, 1) := by decide +kernel
theorem dX11_costOfLine_12 : decode cX11_costOfLine 12 = .ok (.invokevirtual 106, 3) := by decide +kernel
theorem dX11_costOfLine_15 : decode cX11_costOfLine 15 = .ok (.ifCond .eq 7, 3) := by decide +kernel
theorem dX11_costOfLine_18 : decode cX11_costOfLine 18 = .ok (.lconst 0, 1) := by decide +kernel
theorem dX11_costOfLine_19 : decode cX11_costOfLine 19 = .ok (.goto 26, 3) := by decide +kernel
theorem dX11_costOfLine_22 : decode cX11_costOfLine 22 = .ok (.aload_n 0, 1) := by decide +kernel
theorem dX11_costOfLine_23 : decode cX11_costOfLine 23 = .ok (.iload_n 1, 1) := by decide +kernel
theorem dX11_costOfLine_24 : decode cX11_costOfLine 24 = .ok (.invokevirtual 158, 3) := by decide +kernel
theorem dX11_costOfLine_27 : decode cX11_costOfLine 27 = .ok (.i2l, 1) := by decide +kernel
theorem dX11_costOfLine_28 : decode cX11_costOfLine 28 = .ok (.aload_n 0, 1) := by decide +kernel
theorem dX11_costOfLine_29 : decode cX11_costOfLine 29 = .ok (.aload_n 0, 1) := by decide +kernel
theorem dX11_costOfLine_30 : decode cX11_costOfLine 30 = .ok (.aload_n 0, 1) := by decide +kernel
theorem dX11_costOfLine_31 : decode cX11_costOfLine 31 = .ok (.getfield 46, 3) := by decide +kernel
theorem dX11_costOfLine_34 : decode cX11_costOfLine 34 = .ok (.iload_n 1, 1) := by decide +kernel
theorem dX11_costOfLine_35 : decode cX11_costOfLine 35 = .ok (.iaload, 1) := by decide +kernel
theorem dX11_costOfLine_36 : decode cX11_costOfLine 36 = .ok (.invokevirtual 120, 3) := by decide +kernel
theorem dX11_costOfLine_39 : decode cX11_costOfLine 39 = .ok (.iconst (-1), 1) := by decide +kernel
theorem dX11_costOfLine_40 : decode cX11_costOfLine 40 = .ok (.iconst (-1), 1) := by decide +kernel
theorem dX11_costOfLine_41 : decode cX11_costOfLine 41 = .ok (.invokevirtual 148, 3) := by decide +kernel
theorem dX11_costOfLine_44 : decode cX11_costOfLine 44 = .ok (.lmul, 1) := by decide +kernel
theorem dX11_costOfLine_45 : decode cX11_costOfLine 45 = .ok (.lreturn, 1) := by decide +kernel
set_option maxRecDepth 20000 in
theorem ggX11_costOfTrade_X11_in : GoodIn wsX11_costOfTrade wsX11_in := goodIn_r _ [7] (by decide +kernel) (by decide +kernel)
set_option maxRecDepth 20000 in
theorem gX11_costOfTrade_X11_in : GoodIn wsX11_costOfTrade (va_wsS RX11 93 yX11_in wsX11_in) := goodIn_app (goodIn_of _ (by decide +kernel)) ggX11_costOfTrade_X11_in
set_option maxRecDepth 20000 in
theorem ggX11_costOfTrade_X11_fails : GoodIn wsX11_costOfTrade wsX11_fails := goodIn_r _ [11, 1, 56, 57, 58, 59, 60, 61, 62, 63, 64, 65, 66, 67, 68, 69, 70, 71, 72, 73, 74, 75, 76, 77, 78, 79, 80, 81, 82, 83, 84, 85, 86, 87, 88, 89] (by decide +kernel) (by decide +kernel)
set_option maxRecDepth 20000 in
theorem gX11_costOfTrade_X11_fails : GoodIn wsX11_costOfTrade (wsV RX11 106 RX11 yX11_fails wsX11_fails) := goodIn_app (goodIn_of _ (by decide +kernel)) ggX11_costOfTrade_X11_fails
set_option maxRecDepth 20000 in
theorem ggX11_costOfTrade_X11_quantityOf : GoodIn wsX11_costOfTrade wsX11_quantityOf := goodIn_ca (goodIn_r _ [15, 16, 17, 18, 56, 57, 58, 59, 60, 61, 62, 63, 64, 65, 66, 67, 68, 69, 70, 71, 72, 73, 74, 75, 76, 77, 78, 79, 80, 81, 82, 83, 84, 85, 86, 87, 88, 89] (by decide +kernel) (by decide +kernel)) (goodIn_sub (fun _ h => List.mem_cons_of_mem _ (List.mem_append_right _ h)) (by decide +kernel))
set_option maxRecDepth 20000 in
theorem gX11_costOfTrade_X11_quantityOf : GoodIn wsX11_costOfTrade (wsV RX11 158 RX11 yX11_quantityOf wsX11_quantityOf) := goodIn_app (goodIn_of _ (by decide +kernel)) ggX11_costOfTrade_X11_quantityOf
set_option maxRecDepth 20000 in
theorem ggX11_costOfTrade_X11_meantItem : GoodIn wsX11_costOfTrade wsX11_meantItem := goodIn_ca (goodIn_r _ [22, 23, 24, 25, 56, 57, 58, 59, 60, 61, 62, 63, 64, 65, 66, 67, 68, 69, 70, 71, 72, 73, 74, 75, 76, 77, 78, 79, 80, 81, 82, 83, 84, 85, 86, 87, 88, 89] (by decide +kernel) (by decide +kernel)) (goodIn_sub (fun _ h => List.mem_cons_of_mem _ (List.mem_append_right _ h)) (by decide +kernel))
set_option maxRecDepth 20000 in
theorem gX11_costOfTrade_X11_meantItem : GoodIn wsX11_costOfTrade (wsV RX11 120 RX11 yX11_meantItem wsX11_meantItem) := goodIn_app (goodIn_of _ (by decide +kernel)) ggX11_costOfTrade_X11_meantItem
set_option maxRecDepth 20000 in
theorem ggX11_costOfTrade_X11_needs : GoodIn wsX11_costOfTrade wsX11_needs := goodIn_ca (goodIn_r _ [29, 30, 31, 32, 33, 34, 35, 36, 37, 38, 39, 40, 41, 6, 42, 43, 44, 45, 46, 47, 48, 49, 23, 24, 50, 51, 52, 53, 54, 55, 19, 20, 21, 22, 25, 56, 57, 58, 59, 60, 61, 62, 63, 64, 65, 66, 67, 68, 69, 70, 71, 72, 73, 74, 75, 76, 77, 78, 79, 80, 81, 82, 83, 84, 85, 86, 87, 88, 89] (by decide +kernel) (by decide +kernel)) (goodIn_sub (fun _ h => List.mem_cons_of_mem _ (List.mem_append_right _ h)) (by decide +kernel))
set_option maxRecDepth 20000 in
theorem gX11_costOfTrade_X11_needs : GoodIn wsX11_costOfTrade (wsV RX11 148 RX11 yX11_needs wsX11_needs) := goodIn_app (goodIn_of _ (by decide +kernel)) ggX11_costOfTrade_X11_needs
theorem dX11_costOfTrade_0 : decode cX11_costOfTrade 0 = .ok (.aload_n 0, 1) := by decide +kernel
theorem dX11_costOfTrade_1 : decode cX11_costOfTrade 1 = .ok (.iconst 0, 1) := by decide +kernel
theorem dX11_costOfTrade_2 : decode cX11_costOfTrade 2 = .ok (.putfield 86, 3) := by decide +kernel
theorem dX11_costOfTrade_5 : decode cX11_costOfTrade 5 = .ok (.lconst 0, 1) := by decide +kernel
theorem dX11_costOfTrade_6 : decode cX11_costOfTrade 6 = .ok (.lstore_n 2, 1) := by decide +kernel
theorem dX11_costOfTrade_7 : decode cX11_costOfTrade 7 = .ok (.aload_n 0, 1) := by decide +kernel
theorem dX11_costOfTrade_8 : decode cX11_costOfTrade 8 = .ok (.iload_n 1, 1) := by decide +kernel
theorem dX11_costOfTrade_9 : decode cX11_costOfTrade 9 = .ok (.iconst 0, 1) := by decide +kernel
theorem dX11_costOfTrade_10 : decode cX11_costOfTrade 10 = .ok (.iconst 5, 1) := by decide +kernel
theorem dX11_costOfTrade_11 : decode cX11_costOfTrade 11 = .ok (.invokestatic 93, 3) := by decide +kernel
theorem dX11_costOfTrade_14 : decode cX11_costOfTrade 14 = .ok (.ifCond .ne 7, 3) := by decide +kernel
theorem dX11_costOfTrade_17 : decode cX11_costOfTrade 17 = .ok (.iconst 1, 1) := by decide +kernel
theorem dX11_costOfTrade_18 : decode cX11_costOfTrade 18 = .ok (.goto 4, 3) := by decide +kernel
theorem dX11_costOfTrade_21 : decode cX11_costOfTrade 21 = .ok (.iconst 0, 1) := by decide +kernel
theorem dX11_costOfTrade_22 : decode cX11_costOfTrade 22 = .ok (.iconst 1, 1) := by decide +kernel
theorem dX11_costOfTrade_23 : decode cX11_costOfTrade 23 = .ok (.invokevirtual 106, 3) := by decide +kernel
theorem dX11_costOfTrade_26 : decode cX11_costOfTrade 26 = .ok (.ifCond .eq 5, 3) := by decide +kernel
theorem dX11_costOfTrade_29 : decode cX11_costOfTrade 29 = .ok (.lconst 0, 1) := by decide +kernel
theorem dX11_costOfTrade_30 : decode cX11_costOfTrade 30 = .ok (.lreturn, 1) := by decide +kernel
theorem dX11_costOfTrade_31 : decode cX11_costOfTrade 31 = .ok (.iconst 0, 1) := by decide +kernel
theorem dX11_costOfTrade_32 : decode cX11_costOfTrade 32 = .ok (.istore 4, 2) := by decide +kernel
theorem dX11_costOfTrade_34 : decode cX11_costOfTrade 34 = .ok (.iload 4, 2) := by decide +kernel
theorem dX11_costOfTrade_36 : decode cX11_costOfTrade 36 = .ok (.aload_n 0, 1) := by decide +kernel
theorem dX11_costOfTrade_37 : decode cX11_costOfTrade 37 = .ok (.getfield 100, 3) := by decide +kernel
theorem dX11_costOfTrade_40 : decode cX11_costOfTrade 40 = .ok (.if_icmp .ge 37, 3) := by decide +kernel
theorem dX11_costOfTrade_43 : decode cX11_costOfTrade 43 = .ok (.lload_n 2, 1) := by decide +kernel
theorem dX11_costOfTrade_44 : decode cX11_costOfTrade 44 = .ok (.aload_n 0, 1) := by decide +kernel
theorem dX11_costOfTrade_45 : decode cX11_costOfTrade 45 = .ok (.iload 4, 2) := by decide +kernel
theorem dX11_costOfTrade_47 : decode cX11_costOfTrade 47 = .ok (.invokevirtual 158, 3) := by decide +kernel
theorem dX11_costOfTrade_50 : decode cX11_costOfTrade 50 = .ok (.i2l, 1) := by decide +kernel
theorem dX11_costOfTrade_51 : decode cX11_costOfTrade 51 = .ok (.aload_n 0, 1) := by decide +kernel
theorem dX11_costOfTrade_52 : decode cX11_costOfTrade 52 = .ok (.aload_n 0, 1) := by decide +kernel
theorem dX11_costOfTrade_53 : decode cX11_costOfTrade 53 = .ok (.aload_n 0, 1) := by decide +kernel
theorem dX11_costOfTrade_54 : decode cX11_costOfTrade 54 = .ok (.getfield 46, 3) := by decide +kernel
theorem dX11_costOfTrade_57 : decode cX11_costOfTrade 57 = .ok (.iload 4, 2) := by decide +kernel
theorem dX11_costOfTrade_59 : decode cX11_costOfTrade 59 = .ok (.iaload, 1) := by decide +kernel
theorem dX11_costOfTrade_60 : decode cX11_costOfTrade 60 = .ok (.invokevirtual 120, 3) := by decide +kernel
theorem dX11_costOfTrade_63 : decode cX11_costOfTrade 63 = .ok (.iconst (-1), 1) := by decide +kernel
theorem dX11_costOfTrade_64 : decode cX11_costOfTrade 64 = .ok (.iload_n 1, 1) := by decide +kernel
theorem dX11_costOfTrade_65 : decode cX11_costOfTrade 65 = .ok (.invokevirtual 148, 3) := by decide +kernel
theorem dX11_costOfTrade_68 : decode cX11_costOfTrade 68 = .ok (.lmul, 1) := by decide +kernel
theorem dX11_costOfTrade_69 : decode cX11_costOfTrade 69 = .ok (.ladd, 1) := by decide +kernel
theorem dX11_costOfTrade_70 : decode cX11_costOfTrade 70 = .ok (.lstore_n 2, 1) := by decide +kernel
theorem dX11_costOfTrade_71 : decode cX11_costOfTrade 71 = .ok (.iinc 4 1, 3) := by decide +kernel
theorem dX11_costOfTrade_74 : decode cX11_costOfTrade 74 = .ok (.goto (-40), 3) := by decide +kernel
theorem dX11_costOfTrade_77 : decode cX11_costOfTrade 77 = .ok (.lload_n 2, 1) := by decide +kernel
theorem dX11_costOfTrade_78 : decode cX11_costOfTrade 78 = .ok (.lreturn, 1) := by decide +kernel
theorem dX11_kindNow_0 : decode cX11_kindNow 0 = .ok (.lconst 0, 1) := by decide +kernel
theorem dX11_kindNow_1 : decode cX11_kindNow 1 = .ok (.lstore_n 2, 1) := by decide +kernel
theorem dX11_kindNow_2 : decode cX11_kindNow 2 = .ok (.iconst 0, 1) := by decide +kernel
theorem dX11_kindNow_3 : decode cX11_kindNow 3 = .ok (.istore 4, 2) := by decide +kernel
theorem dX11_kindNow_5 : decode cX11_kindNow 5 = .ok (.iload 4, 2) := by decide +kernel
theorem dX11_kindNow_7 : decode cX11_kindNow 7 = .ok (.aload_n 0, 1) := by decide +kernel
theorem dX11_kindNow_8 : decode cX11_kindNow 8 = .ok (.getfield 90, 3) := by decide +kernel
theorem dX11_kindNow_11 : decode cX11_kindNow 11 = .ok (.if_icmp .ge 43, 3) := by decide +kernel
theorem dX11_kindNow_14 : decode cX11_kindNow 14 = .ok (.lload_n 2, 1) := by decide +kernel
theorem dX11_kindNow_15 : decode cX11_kindNow 15 = .ok (.aload_n 0, 1) := by decide +kernel
theorem dX11_kindNow_16 : decode cX11_kindNow 16 = .ok (.getfield 7, 3) := by decide +kernel
theorem dX11_kindNow_19 : decode cX11_kindNow 19 = .ok (.iload 4, 2) := by decide +kernel
theorem dX11_kindNow_21 : decode cX11_kindNow 21 = .ok (.iaload, 1) := by decide +kernel
theorem dX11_kindNow_22 : decode cX11_kindNow 22 = .ok (.iload_n 1, 1) := by decide +kernel
theorem dX11_kindNow_23 : decode cX11_kindNow 23 = .ok (.if_icmp .ne 22, 3) := by decide +kernel
theorem dX11_kindNow_26 : decode cX11_kindNow 26 = .ok (.aload_n 0, 1) := by decide +kernel
theorem dX11_kindNow_27 : decode cX11_kindNow 27 = .ok (.getfield 67, 3) := by decide +kernel
theorem dX11_kindNow_30 : decode cX11_kindNow 30 = .ok (.iload 4, 2) := by decide +kernel
theorem dX11_kindNow_32 : decode cX11_kindNow 32 = .ok (.laload, 1) := by decide +kernel
theorem dX11_kindNow_33 : decode cX11_kindNow 33 = .ok (.aload_n 0, 1) := by decide +kernel
theorem dX11_kindNow_34 : decode cX11_kindNow 34 = .ok (.getfield 13, 3) := by decide +kernel
theorem dX11_kindNow_37 : decode cX11_kindNow 37 = .ok (.iload 4, 2) := by decide +kernel
theorem dX11_kindNow_39 : decode cX11_kindNow 39 = .ok (.iaload, 1) := by decide +kernel
theorem dX11_kindNow_40 : decode cX11_kindNow 40 = .ok (.i2l, 1) := by decide +kernel
theorem dX11_kindNow_41 : decode cX11_kindNow 41 = .ok (.lmul, 1) := by decide +kernel
theorem dX11_kindNow_42 : decode cX11_kindNow 42 = .ok (.goto 4, 3) := by decide +kernel
theorem dX11_kindNow_45 : decode cX11_kindNow 45 = .ok (.lconst 0, 1) := by decide +kernel
theorem dX11_kindNow_46 : decode cX11_kindNow 46 = .ok (.ladd, 1) := by decide +kernel
theorem dX11_kindNow_47 : decode cX11_kindNow 47 = .ok (.lstore_n 2, 1) := by decide +kernel
theorem dX11_kindNow_48 : decode cX11_kindNow 48 = .ok (.iinc 4 1, 3) := by decide +kernel
theorem dX11_kindNow_51 : decode cX11_kindNow 51 = .ok (.goto (-46), 3) := by decide +kernel
theorem dX11_kindNow_54 : decode cX11_kindNow 54 = .ok (.lload_n 2, 1) := by decide +kernel
theorem dX11_kindNow_55 : decode cX11_kindNow 55 = .ok (.lreturn, 1) := by decide +kernel
set_option maxRecDepth 20000 in
theorem ggX11_costOfKind_X11_in : GoodIn wsX11_costOfKind wsX11_in := goodIn_r _ [5] (by decide +kernel) (by decide +kernel)
set_option maxRecDepth 20000 in
theorem gX11_costOfKind_X11_in : GoodIn wsX11_costOfKind (va_wsS RX11 93 yX11_in wsX11_in) := goodIn_app (goodIn_of _ (by decide +kernel)) ggX11_costOfKind_X11_in
set_option maxRecDepth 20000 in
theorem ggX11_costOfKind_X11_fails : GoodIn wsX11_costOfKind wsX11_fails := goodIn_r _ [9, 1, 87, 88, 89, 90, 91, 92, 93, 94, 95, 96, 97, 98, 99, 100, 101, 102, 103, 104, 105, 106, 107, 108, 109, 110, 111, 112, 113, 114, 115, 116, 117, 118, 119, 120] (by decide +kernel) (by decide +kernel)
set_option maxRecDepth 20000 in
theorem gX11_costOfKind_X11_fails : GoodIn wsX11_costOfKind (wsV RX11 106 RX11 yX11_fails wsX11_fails) := goodIn_app (goodIn_of _ (by decide +kernel)) ggX11_costOfKind_X11_fails
set_option maxRecDepth 20000 in
theorem ggX11_costOfKind_X11_look : GoodIn wsX11_costOfKind wsX11_look := goodIn_ca (goodIn_ca (goodIn_r _ [13, 14, 15, 16, 17, 18, 19, 20, 21, 22, 23, 4, 24, 25, 26, 27, 28, 29, 30, 31, 32, 33, 34, 35, 36, 37, 38, 39, 40, 41, 42, 43, 44, 45, 46, 47, 48, 49, 50, 51, 52, 53, 54, 55, 56, 57, 58, 59, 60, 61, 62, 63, 64, 65, 66, 67, 68, 69, 70, 71, 72, 73, 74, 75, 76, 77, 78, 79, 80, 81, 82, 83, 84, 85, 86, 87, 88, 89, 90, 91, 92, 93, 94, 95, 96, 97, 98, 99, 100, 101, 102, 103, 104, 105, 106, 107, 108, 109, 110, 111, 112, 113, 114, 115, 116, 117, 118, 119, 120] (by decide +kernel) (by decide +kernel)) (goodIn_sub (fun _ h => List.mem_cons_of_mem _ (List.mem_append_left _ (List.mem_append_right _ h))) (by decide +kernel))) (goodIn_sub (fun _ h => List.mem_cons_of_mem _ (List.mem_append_right _ h)) (by decide +kernel))
set_option maxRecDepth 20000 in
theorem gX11_costOfKind_X11_look : GoodIn wsX11_costOfKind (wsV RX11 193 RX11 yX11_look wsX11_look) := goodIn_app (goodIn_of _ (by decide +kernel)) ggX11_costOfKind_X11_look
set_option maxRecDepth 20000 in
theorem ggX11_costOfKind_X11_kindNow : GoodIn wsX11_costOfKind wsX11_kindNow := goodIn_ca (goodIn_r _ [74, 14, 75, 15, 70, 87, 88, 89, 90, 91, 92, 93, 94, 95, 96, 97, 98, 99, 100, 101, 102, 103, 104, 105, 106, 107, 108, 109, 110, 111, 112, 113, 114, 115, 116, 117, 118, 119, 120] (by decide +kernel) (by decide +kernel)) (goodIn_sub (fun _ h => List.mem_cons_of_mem _ (List.mem_append_left _ (List.mem_append_right _ h))) (by decide +kernel))
set_option maxRecDepth 20000 in
theorem gX11_costOfKind_X11_kindNow : GoodIn wsX11_costOfKind (wsV RX11 185 RX11 yX11_kindNow wsX11_kindNow) := goodIn_app (goodIn_of _ (by decide +kernel)) ggX11_costOfKind_X11_kindNow
theorem dX11_costOfKind_0 : decode cX11_costOfKind 0 = .ok (.aload_n 0, 1) := by decide +kernel
theorem dX11_costOfKind_1 : decode cX11_costOfKind 1 = .ok (.iconst 0, 1) := by decide +kernel
theorem dX11_costOfKind_2 : decode cX11_costOfKind 2 = .ok (.putfield 86, 3) := by decide +kernel
theorem dX11_costOfKind_5 : decode cX11_costOfKind 5 = .ok (.aload_n 0, 1) := by decide +kernel
theorem dX11_costOfKind_6 : decode cX11_costOfKind 6 = .ok (.iload_n 1, 1) := by decide +kernel
theorem dX11_costOfKind_7 : decode cX11_costOfKind 7 = .ok (.iconst 0, 1) := by decide +kernel
theorem dX11_costOfKind_8 : decode cX11_costOfKind 8 = .ok (.iconst 2, 1) := by decide +kernel
theorem dX11_costOfKind_9 : decode cX11_costOfKind 9 = .ok (.invokestatic 93, 3) := by decide +kernel
theorem dX11_costOfKind_12 : decode cX11_costOfKind 12 = .ok (.ifCond .ne 7, 3) := by decide +kernel
theorem dX11_costOfKind_15 : decode cX11_costOfKind 15 = .ok (.iconst 1, 1) := by decide +kernel
theorem dX11_costOfKind_16 : decode cX11_costOfKind 16 = .ok (.goto 4, 3) := by decide +kernel
theorem dX11_costOfKind_19 : decode cX11_costOfKind 19 = .ok (.iconst 0, 1) := by decide +kernel
theorem dX11_costOfKind_20 : decode cX11_costOfKind 20 = .ok (.iconst 1, 1) := by decide +kernel
theorem dX11_costOfKind_21 : decode cX11_costOfKind 21 = .ok (.invokevirtual 106, 3) := by decide +kernel
theorem dX11_costOfKind_24 : decode cX11_costOfKind 24 = .ok (.ifCond .eq 5, 3) := by decide +kernel
theorem dX11_costOfKind_27 : decode cX11_costOfKind 27 = .ok (.lconst 0, 1) := by decide +kernel
theorem dX11_costOfKind_28 : decode cX11_costOfKind 28 = .ok (.lreturn, 1) := by decide +kernel
theorem dX11_costOfKind_29 : decode cX11_costOfKind 29 = .ok (.aload_n 0, 1) := by decide +kernel
theorem dX11_costOfKind_30 : decode cX11_costOfKind 30 = .ok (.invokevirtual 193, 3) := by decide +kernel
theorem dX11_costOfKind_33 : decode cX11_costOfKind 33 = .ok (.aload_n 0, 1) := by decide +kernel
theorem dX11_costOfKind_34 : decode cX11_costOfKind 34 = .ok (.iload_n 1, 1) := by decide +kernel
theorem dX11_costOfKind_35 : decode cX11_costOfKind 35 = .ok (.invokevirtual 185, 3) := by decide +kernel
theorem dX11_costOfKind_38 : decode cX11_costOfKind 38 = .ok (.lreturn, 1) := by decide +kernel
set_option maxRecDepth 20000 in
theorem ggX11_netNow_X11_kindNow : GoodIn wsX11_netNow wsX11_kindNow := goodIn_ca (goodIn_r _ [5, 6, 7, 8, 9, 10, 11, 12, 13, 14, 15, 16, 17, 18, 19, 20, 21, 22, 23, 24, 25, 26, 27, 28, 29, 30, 31, 32, 33, 34, 35, 36, 37, 38, 39, 40, 41, 42, 43] (by decide +kernel) (by decide +kernel)) (goodIn_sub (fun _ h => List.mem_cons_of_mem _ (List.mem_append_right _ h)) (by decide +kernel))
set_option maxRecDepth 20000 in
theorem gX11_netNow_X11_kindNow : GoodIn wsX11_netNow (wsV RX11 185 RX11 yX11_kindNow wsX11_kindNow) := goodIn_app (goodIn_of _ (by decide +kernel)) ggX11_netNow_X11_kindNow
theorem dX11_netNow_0 : decode cX11_netNow 0 = .ok (.aload_n 0, 1) := by decide +kernel
theorem dX11_netNow_1 : decode cX11_netNow 1 = .ok (.iconst 0, 1) := by decide +kernel
theorem dX11_netNow_2 : decode cX11_netNow 2 = .ok (.invokevirtual 185, 3) := by decide +kernel
theorem dX11_netNow_5 : decode cX11_netNow 5 = .ok (.aload_n 0, 1) := by decide +kernel
theorem dX11_netNow_6 : decode cX11_netNow 6 = .ok (.iconst 1, 1) := by decide +kernel
theorem dX11_netNow_7 : decode cX11_netNow 7 = .ok (.invokevirtual 185, 3) := by decide +kernel
theorem dX11_netNow_10 : decode cX11_netNow 10 = .ok (.ladd, 1) := by decide +kernel
theorem dX11_netNow_11 : decode cX11_netNow 11 = .ok (.aload_n 0, 1) := by decide +kernel
theorem dX11_netNow_12 : decode cX11_netNow 12 = .ok (.iconst 2, 1) := by decide +kernel
theorem dX11_netNow_13 : decode cX11_netNow 13 = .ok (.invokevirtual 185, 3) := by decide +kernel
theorem dX11_netNow_16 : decode cX11_netNow 16 = .ok (.ladd, 1) := by decide +kernel
theorem dX11_netNow_17 : decode cX11_netNow 17 = .ok (.lreturn, 1) := by decide +kernel
set_option maxRecDepth 20000 in
theorem ggX11_net_X11_look : GoodIn wsX11_net wsX11_look := goodIn_ca (goodIn_ca (goodIn_r _ [6, 7, 8, 9, 10, 11, 12, 13, 14, 15, 16, 5, 17, 18, 19, 20, 21, 22, 23, 24, 25, 26, 27, 28, 29, 30, 31, 32, 33, 34, 35, 36, 37, 38, 39, 40, 41, 42, 43, 44, 45, 46, 47, 48, 49, 50, 51, 52, 53, 54, 55, 56, 57, 58, 59, 60, 61, 62, 63, 64, 65, 66, 67, 68, 69, 70, 71, 72, 73, 74, 75, 76, 77, 78, 79, 84, 85, 86, 87, 88, 89, 90, 91, 92, 93, 94, 95, 96, 97, 98, 99, 100, 101, 102, 103, 104, 105, 106, 107, 108, 109, 110, 111, 112, 113, 114, 115, 116, 117] (by decide +kernel) (by decide +kernel)) (goodIn_sub (fun _ h => List.mem_cons_of_mem _ (List.mem_append_left _ (List.mem_append_right _ h))) (by decide +kernel))) (goodIn_sub (fun _ h => List.mem_cons_of_mem _ (List.mem_append_right _ h)) (by decide +kernel))
set_option maxRecDepth 20000 in
theorem gX11_net_X11_look : GoodIn wsX11_net (wsV RX11 193 RX11 yX11_look wsX11_look) := goodIn_app (goodIn_of _ (by decide +kernel)) ggX11_net_X11_look
set_option maxRecDepth 20000 in
theorem ggX11_net_X11_netNow : GoodIn wsX11_net wsX11_netNow := goodIn_ca (goodIn_r _ [83, 64, 65, 66, 5, 67, 7, 68, 8, 63, 84, 85, 86, 87, 88, 89, 90, 91, 92, 93, 94, 95, 96, 97, 98, 99, 100, 101, 102, 103, 104, 105, 106, 107, 108, 109, 110, 111, 112, 113, 114, 115, 116, 117] (by decide +kernel) (by decide +kernel)) (goodIn_sub (fun _ h => List.mem_cons_of_mem _ (List.mem_append_left _ (List.mem_append_right _ h))) (by decide +kernel))
set_option maxRecDepth 20000 in
theorem gX11_net_X11_netNow : GoodIn wsX11_net (wsV RX11 204 RX11 yX11_netNow wsX11_netNow) := goodIn_app (goodIn_of _ (by decide +kernel)) ggX11_net_X11_netNow
theorem dX11_net_0 : decode cX11_net 0 = .ok (.aload_n 0, 1) := by decide +kernel
theorem dX11_net_1 : decode cX11_net 1 = .ok (.iconst 0, 1) := by decide +kernel
theorem dX11_net_2 : decode cX11_net 2 = .ok (.putfield 86, 3) := by decide +kernel
theorem dX11_net_5 : decode cX11_net 5 = .ok (.aload_n 0, 1) := by decide +kernel
theorem dX11_net_6 : decode cX11_net 6 = .ok (.invokevirtual 193, 3) := by decide +kernel
theorem dX11_net_9 : decode cX11_net 9 = .ok (.aload_n 0, 1) := by decide +kernel
theorem dX11_net_10 : decode cX11_net 10 = .ok (.invokevirtual 204, 3) := by decide +kernel
theorem dX11_net_13 : decode cX11_net 13 = .ok (.lreturn, 1) := by decide +kernel
set_option maxRecDepth 20000 in
theorem ggX11_extraNow_X11_packsOf : GoodIn wsX11_extraNow wsX11_packsOf := goodIn_ca (goodIn_ca (goodIn_r _ [9, 3, 10, 11, 12, 2, 13, 14, 15, 16, 17, 18, 19, 20, 21, 22, 23, 24, 25, 26, 27, 28, 29, 30, 31, 32, 33, 34, 35, 36, 37, 38, 39, 40, 41, 42, 43, 44, 45, 46] (by decide +kernel) (by decide +kernel)) (goodIn_sub (fun _ h => List.mem_cons_of_mem _ (List.mem_append_left _ (List.mem_append_right _ h))) (by decide +kernel))) (goodIn_sub (fun _ h => List.mem_cons_of_mem _ (List.mem_append_right _ h)) (by decide +kernel))
set_option maxRecDepth 20000 in
theorem gX11_extraNow_X11_packsOf : GoodIn wsX11_extraNow (wsV RX11 201 RX11 yX11_packsOf wsX11_packsOf) := goodIn_app (goodIn_of _ (by decide +kernel)) ggX11_extraNow_X11_packsOf
theorem dX11_extraNow_0 : decode cX11_extraNow 0 = .ok (.lconst 0, 1) := by decide +kernel
theorem dX11_extraNow_1 : decode cX11_extraNow 1 = .ok (.lstore_n 1, 1) := by decide +kernel
theorem dX11_extraNow_2 : decode cX11_extraNow 2 = .ok (.iconst 0, 1) := by decide +kernel
theorem dX11_extraNow_3 : decode cX11_extraNow 3 = .ok (.istore_n 3, 1) := by decide +kernel
theorem dX11_extraNow_4 : decode cX11_extraNow 4 = .ok (.iload_n 3, 1) := by decide +kernel
theorem dX11_extraNow_5 : decode cX11_extraNow 5 = .ok (.aload_n 0, 1) := by decide +kernel
theorem dX11_extraNow_6 : decode cX11_extraNow 6 = .ok (.getfield 90, 3) := by decide +kernel
theorem dX11_extraNow_9 : decode cX11_extraNow 9 = .ok (.if_icmp .ge 40, 3) := by decide +kernel
theorem dX11_extraNow_12 : decode cX11_extraNow 12 = .ok (.lload_n 1, 1) := by decide +kernel
theorem dX11_extraNow_13 : decode cX11_extraNow 13 = .ok (.aload_n 0, 1) := by decide +kernel
theorem dX11_extraNow_14 : decode cX11_extraNow 14 = .ok (.iload_n 3, 1) := by decide +kernel
theorem dX11_extraNow_15 : decode cX11_extraNow 15 = .ok (.invokevirtual 201, 3) := by decide +kernel
theorem dX11_extraNow_18 : decode cX11_extraNow 18 = .ok (.aload_n 0, 1) := by decide +kernel
theorem dX11_extraNow_19 : decode cX11_extraNow 19 = .ok (.getfield 19, 3) := by decide +kernel
theorem dX11_extraNow_22 : decode cX11_extraNow 22 = .ok (.iload_n 3, 1) := by decide +kernel
theorem dX11_extraNow_23 : decode cX11_extraNow 23 = .ok (.iaload, 1) := by decide +kernel
theorem dX11_extraNow_24 : decode cX11_extraNow 24 = .ok (.i2l, 1) := by decide +kernel
theorem dX11_extraNow_25 : decode cX11_extraNow 25 = .ok (.lmul, 1) := by decide +kernel
theorem dX11_extraNow_26 : decode cX11_extraNow 26 = .ok (.aload_n 0, 1) := by decide +kernel
theorem dX11_extraNow_27 : decode cX11_extraNow 27 = .ok (.getfield 67, 3) := by decide +kernel
theorem dX11_extraNow_30 : decode cX11_extraNow 30 = .ok (.iload_n 3, 1) := by decide +kernel
theorem dX11_extraNow_31 : decode cX11_extraNow 31 = .ok (.laload, 1) := by decide +kernel
theorem dX11_extraNow_32 : decode cX11_extraNow 32 = .ok (.lsub, 1) := by decide +kernel
theorem dX11_extraNow_33 : decode cX11_extraNow 33 = .ok (.aload_n 0, 1) := by decide +kernel
theorem dX11_extraNow_34 : decode cX11_extraNow 34 = .ok (.getfield 13, 3) := by decide +kernel
theorem dX11_extraNow_37 : decode cX11_extraNow 37 = .ok (.iload_n 3, 1) := by decide +kernel
theorem dX11_extraNow_38 : decode cX11_extraNow 38 = .ok (.iaload, 1) := by decide +kernel
theorem dX11_extraNow_39 : decode cX11_extraNow 39 = .ok (.i2l, 1) := by decide +kernel
theorem dX11_extraNow_40 : decode cX11_extraNow 40 = .ok (.lmul, 1) := by decide +kernel
theorem dX11_extraNow_41 : decode cX11_extraNow 41 = .ok (.ladd, 1) := by decide +kernel
theorem dX11_extraNow_42 : decode cX11_extraNow 42 = .ok (.lstore_n 1, 1) := by decide +kernel
theorem dX11_extraNow_43 : decode cX11_extraNow 43 = .ok (.iinc 3 1, 3) := by decide +kernel
theorem dX11_extraNow_46 : decode cX11_extraNow 46 = .ok (.goto (-42), 3) := by decide +kernel
theorem dX11_extraNow_49 : decode cX11_extraNow 49 = .ok (.lload_n 1, 1) := by decide +kernel
theorem dX11_extraNow_50 : decode cX11_extraNow 50 = .ok (.lreturn, 1) := by decide +kernel
set_option maxRecDepth 20000 in
theorem ggX11_extra_X11_look : GoodIn wsX11_extra wsX11_look := goodIn_ca (goodIn_ca (goodIn_r _ [6, 7, 8, 9, 10, 11, 12, 13, 14, 15, 16, 5, 17, 18, 19, 20, 21, 22, 23, 24, 25, 26, 27, 28, 29, 30, 31, 32, 33, 34, 35, 36, 37, 38, 39, 40, 41, 42, 43, 44, 45, 46, 47, 48, 49, 50, 51, 52, 53, 54, 55, 56, 57, 58, 59, 60, 61, 62, 63, 64, 65, 66, 67, 68, 69, 70, 71, 72, 73, 74, 75, 76, 77, 78, 79, 80, 81, 82, 83, 84, 85, 86, 87, 88, 89, 90, 91, 92, 93, 94, 95, 96, 97, 98, 99, 100, 101, 102, 103, 104, 105, 106, 107, 108, 109, 110, 111, 112, 113] (by decide +kernel) (by decide +kernel)) (goodIn_sub (fun _ h => List.mem_cons_of_mem _ (List.mem_append_left _ (List.mem_append_right _ h))) (by decide +kernel))) (goodIn_sub (fun _ h => List.mem_cons_of_mem _ (List.mem_append_right _ h)) (by decide +kernel))
set_option maxRecDepth 20000 in
theorem gX11_extra_X11_look : GoodIn wsX11_extra (wsV RX11 193 RX11 yX11_look wsX11_look) := goodIn_app (goodIn_of _ (by decide +kernel)) ggX11_extra_X11_look
set_option maxRecDepth 20000 in
theorem ggX11_extra_X11_extraNow : GoodIn wsX11_extra wsX11_extraNow := goodIn_ca (goodIn_ca (goodIn_r _ [72, 7, 73, 8, 63, 74, 75, 76, 5, 77, 78, 79, 13, 80, 81, 82, 83, 84, 85, 86, 87, 88, 89, 90, 91, 92, 93, 94, 95, 96, 97, 98, 99, 100, 101, 102, 103, 104, 105, 106, 107, 108, 109, 110, 111, 112, 113] (by decide +kernel) (by decide +kernel)) (goodIn_sub (fun _ h => List.mem_cons_of_mem _ (List.mem_append_left _ (List.mem_append_right _ h))) (by decide +kernel))) (goodIn_sub (fun _ h => List.mem_cons_of_mem _ (List.mem_append_right _ h)) (by decide +kernel))
set_option maxRecDepth 20000 in
theorem gX11_extra_X11_extraNow : GoodIn wsX11_extra (wsV RX11 188 RX11 yX11_extraNow wsX11_extraNow) := goodIn_app (goodIn_of _ (by decide +kernel)) ggX11_extra_X11_extraNow
theorem dX11_extra_0 : decode cX11_extra 0 = .ok (.aload_n 0, 1) := by decide +kernel
theorem dX11_extra_1 : decode cX11_extra 1 = .ok (.iconst 0, 1) := by decide +kernel
theorem dX11_extra_2 : decode cX11_extra 2 = .ok (.putfield 86, 3) := by decide +kernel
theorem dX11_extra_5 : decode cX11_extra 5 = .ok (.aload_n 0, 1) := by decide +kernel
theorem dX11_extra_6 : decode cX11_extra 6 = .ok (.invokevirtual 193, 3) := by decide +kernel
theorem dX11_extra_9 : decode cX11_extra 9 = .ok (.aload_n 0, 1) := by decide +kernel
theorem dX11_extra_10 : decode cX11_extra 10 = .ok (.invokevirtual 188, 3) := by decide +kernel
theorem dX11_extra_13 : decode cX11_extra 13 = .ok (.lreturn, 1) := by decide +kernel
set_option maxRecDepth 20000 in
theorem ggX11_totalNow_X11_look : GoodIn wsX11_totalNow wsX11_look := goodIn_ca (goodIn_ca (goodIn_r _ [7, 8, 9, 1, 10, 2, 11, 12, 13, 14, 15, 6, 16, 17, 18, 19, 20, 21, 22, 23, 24, 25, 26, 27, 28, 29, 30, 31, 32, 33, 34, 35, 36, 37, 38, 39, 40, 41, 42, 43, 44, 45, 46, 47, 48, 49, 50, 51, 52, 53, 54, 55, 56, 57, 58, 59, 60, 61, 62, 63, 64, 65, 66, 67, 68, 69, 70, 71, 72, 73, 74, 75, 76, 77, 78, 83, 84, 85, 86, 87, 88, 89, 90, 91, 92, 93, 94, 95, 96, 97, 98, 99, 100, 101, 102, 103, 104, 105, 106, 107, 108, 109, 110, 111, 112, 113, 114, 115, 116] (by decide +kernel) (by decide +kernel)) (goodIn_sub (fun _ h => List.mem_cons_of_mem _ (List.mem_append_left _ (List.mem_append_right _ h))) (by decide +kernel))) (goodIn_sub (fun _ h => List.mem_cons_of_mem _ (List.mem_append_right _ h)) (by decide +kernel))
set_option maxRecDepth 20000 in
theorem gX11_totalNow_X11_look : GoodIn wsX11_totalNow (wsV RX11 193 RX11 yX11_look wsX11_look) := goodIn_app (goodIn_of _ (by decide +kernel)) ggX11_totalNow_X11_look
set_option maxRecDepth 20000 in
theorem ggX11_totalNow_X11_netNow : GoodIn wsX11_totalNow wsX11_netNow := goodIn_ca (goodIn_r _ [82, 63, 64, 65, 6, 66, 8, 67, 9, 62, 83, 84, 85, 86, 87, 88, 89, 90, 91, 92, 93, 94, 95, 96, 97, 98, 99, 100, 101, 102, 103, 104, 105, 106, 107, 108, 109, 110, 111, 112, 113, 114, 115, 116] (by decide +kernel) (by decide +kernel)) (goodIn_sub (fun _ h => List.mem_cons_of_mem _ (List.mem_append_left _ (List.mem_append_right _ h))) (by decide +kernel))
set_option maxRecDepth 20000 in
theorem gX11_totalNow_X11_netNow : GoodIn wsX11_totalNow (wsV RX11 204 RX11 yX11_netNow wsX11_netNow) := goodIn_app (goodIn_of _ (by decide +kernel)) ggX11_totalNow_X11_netNow
set_option maxRecDepth 20000 in
theorem ggX11_totalNow_X11_extraNow : GoodIn wsX11_totalNow wsX11_extraNow := goodIn_ca (goodIn_ca (goodIn_r _ [71, 8, 72, 9, 62, 73, 74, 75, 6, 76, 77, 78, 12, 83, 84, 85, 86, 87, 88, 89, 90, 91, 92, 93, 94, 95, 96, 97, 98, 99, 100, 101, 102, 103, 104, 105, 106, 107, 108, 109, 110, 111, 112, 113, 114, 115, 116] (by decide +kernel) (by decide +kernel)) (goodIn_sub (fun _ h => List.mem_cons_of_mem _ (List.mem_append_left _ (List.mem_append_right _ h))) (by decide +kernel))) (goodIn_sub (fun _ h => List.mem_cons_of_mem _ (List.mem_append_right _ h)) (by decide +kernel))
set_option maxRecDepth 20000 in
theorem gX11_totalNow_X11_extraNow : GoodIn wsX11_totalNow (wsV RX11 188 RX11 yX11_extraNow wsX11_extraNow) := goodIn_app (goodIn_of _ (by decide +kernel)) ggX11_totalNow_X11_extraNow
theorem dX11_totalNow_0 : decode cX11_totalNow 0 = .ok (.aload_n 0, 1) := by decide +kernel
theorem dX11_totalNow_1 : decode cX11_totalNow 1 = .ok (.invokevirtual 193, 3) := by decide +kernel
theorem dX11_totalNow_4 : decode cX11_totalNow 4 = .ok (.aload_n 0, 1) := by decide +kernel
theorem dX11_totalNow_5 : decode cX11_totalNow 5 = .ok (.invokevirtual 204, 3) := by decide +kernel
theorem dX11_totalNow_8 : decode cX11_totalNow 8 = .ok (.aload_n 0, 1) := by decide +kernel
theorem dX11_totalNow_9 : decode cX11_totalNow 9 = .ok (.invokevirtual 188, 3) := by decide +kernel
theorem dX11_totalNow_12 : decode cX11_totalNow 12 = .ok (.ladd, 1) := by decide +kernel
theorem dX11_totalNow_13 : decode cX11_totalNow 13 = .ok (.lstore_n 1, 1) := by decide +kernel
theorem dX11_totalNow_14 : decode cX11_totalNow 14 = .ok (.iconst 0, 1) := by decide +kernel
theorem dX11_totalNow_15 : decode cX11_totalNow 15 = .ok (.istore_n 3, 1) := by decide +kernel
theorem dX11_totalNow_16 : decode cX11_totalNow 16 = .ok (.iload_n 3, 1) := by decide +kernel
theorem dX11_totalNow_17 : decode cX11_totalNow 17 = .ok (.aload_n 0, 1) := by decide +kernel
theorem dX11_totalNow_18 : decode cX11_totalNow 18 = .ok (.getfield 175, 3) := by decide +kernel
theorem dX11_totalNow_21 : decode cX11_totalNow 21 = .ok (.if_icmp .ge 18, 3) := by decide +kernel
theorem dX11_totalNow_24 : decode cX11_totalNow 24 = .ok (.lload_n 1, 1) := by decide +kernel
theorem dX11_totalNow_25 : decode cX11_totalNow 25 = .ok (.aload_n 0, 1) := by decide +kernel
theorem dX11_totalNow_26 : decode cX11_totalNow 26 = .ok (.getfield 71, 3) := by decide +kernel
theorem dX11_totalNow_29 : decode cX11_totalNow 29 = .ok (.iload_n 3, 1) := by decide +kernel
theorem dX11_totalNow_30 : decode cX11_totalNow 30 = .ok (.laload, 1) := by decide +kernel
theorem dX11_totalNow_31 : decode cX11_totalNow 31 = .ok (.ladd, 1) := by decide +kernel
theorem dX11_totalNow_32 : decode cX11_totalNow 32 = .ok (.lstore_n 1, 1) := by decide +kernel
theorem dX11_totalNow_33 : decode cX11_totalNow 33 = .ok (.iinc 3 1, 3) := by decide +kernel
theorem dX11_totalNow_36 : decode cX11_totalNow 36 = .ok (.goto (-20), 3) := by decide +kernel
theorem dX11_totalNow_39 : decode cX11_totalNow 39 = .ok (.lload_n 1, 1) := by decide +kernel
theorem dX11_totalNow_40 : decode cX11_totalNow 40 = .ok (.lreturn, 1) := by decide +kernel
set_option maxRecDepth 20000 in
theorem ggX11_total_X11_totalNow : GoodIn wsX11_total wsX11_totalNow := goodIn_ca (goodIn_ca (goodIn_r _ [6, 7, 8, 9, 10, 11, 5, 12, 13, 14, 15, 16, 17, 18, 19, 20, 21, 22, 23, 24, 25, 26, 27, 28, 29, 30, 31, 32, 33, 34, 35, 36, 37, 38, 39, 40, 41, 42, 43, 44, 45, 46, 47, 48, 49, 50, 51, 52, 53, 54, 55, 56, 57, 58, 59, 60, 61, 62, 63, 64, 65, 66, 67, 68, 69, 70, 71, 72, 73, 74, 75, 76, 77, 78, 79, 80, 81, 82, 83, 84, 85, 86, 87, 88, 89, 90, 91, 92, 93, 94, 95, 96, 97, 98, 99, 100, 101, 102, 103, 104, 105, 106, 107, 108, 109, 110, 111, 112, 113, 114, 115, 116, 117, 118, 119, 120, 121] (by decide +kernel) (by decide +kernel)) (goodIn_sub (fun _ h => List.mem_cons_of_mem _ (List.mem_append_left _ (List.mem_append_right _ h))) (by decide +kernel))) (goodIn_sub (fun _ h => List.mem_cons_of_mem _ (List.mem_append_right _ h)) (by decide +kernel))
set_option maxRecDepth 20000 in
theorem gX11_total_X11_totalNow : GoodIn wsX11_total (wsV RX11 171 RX11 yX11_totalNow wsX11_totalNow) := goodIn_app (goodIn_of _ (by decide +kernel)) ggX11_total_X11_totalNow
theorem dX11_total_0 : decode cX11_total 0 = .ok (.aload_n 0, 1) := by decide +kernel
theorem dX11_total_1 : decode cX11_total 1 = .ok (.iconst 0, 1) := by decide +kernel
theorem dX11_total_2 : decode cX11_total 2 = .ok (.putfield 86, 3) := by decide +kernel
theorem dX11_total_5 : decode cX11_total 5 = .ok (.aload_n 0, 1) := by decide +kernel
theorem dX11_total_6 : decode cX11_total 6 = .ok (.invokevirtual 171, 3) := by decide +kernel
theorem dX11_total_9 : decode cX11_total 9 = .ok (.lreturn, 1) := by decide +kernel
set_option maxRecDepth 20000 in
theorem ggX11_dearest_X11_look : GoodIn wsX11_dearest wsX11_look := goodIn_ca (goodIn_ca (goodIn_r _ [9, 2, 3, 10, 11, 12, 13, 14, 15, 16, 17, 8, 18, 19, 20, 21, 22, 23, 24, 25, 26, 27, 28, 29, 30, 31, 32, 33, 34, 35, 36, 37, 38, 39, 40, 41, 42, 43, 44, 45, 46, 47, 48, 49, 50, 51, 52, 53, 54, 55, 56, 57, 58, 59, 60, 61, 62, 63, 4, 64, 65, 66, 67, 68, 69, 70, 71, 72, 73, 74, 75, 76, 77, 78, 79, 84, 85, 86, 87, 88, 89, 90, 91, 92, 93, 94, 95, 96, 97, 98, 99, 100, 101, 102, 103, 104, 105, 106, 107, 108, 109, 110, 111, 112, 113, 114, 115, 116, 117] (by decide +kernel) (by decide +kernel)) (goodIn_sub (fun _ h => List.mem_cons_of_mem _ (List.mem_append_left _ (List.mem_append_right _ h))) (by decide +kernel))) (goodIn_sub (fun _ h => List.mem_cons_of_mem _ (List.mem_append_right _ h)) (by decide +kernel))
set_option maxRecDepth 20000 in
theorem gX11_dearest_X11_look : GoodIn wsX11_dearest (wsV RX11 193 RX11 yX11_look wsX11_look) := goodIn_app (goodIn_of _ (by decide +kernel)) ggX11_dearest_X11_look
set_option maxRecDepth 20000 in
theorem ggX11_dearest_X11_fails : GoodIn wsX11_dearest wsX11_fails := goodIn_r _ [83, 1, 84, 85, 86, 87, 88, 89, 90, 91, 92, 93, 94, 95, 96, 97, 98, 99, 100, 101, 102, 103, 104, 105, 106, 107, 108, 109, 110, 111, 112, 113, 114, 115, 116, 117] (by decide +kernel) (by decide +kernel)
set_option maxRecDepth 20000 in
theorem gX11_dearest_X11_fails : GoodIn wsX11_dearest (wsV RX11 106 RX11 yX11_fails wsX11_fails) := goodIn_app (goodIn_of _ (by decide +kernel)) ggX11_dearest_X11_fails
theorem dX11_dearest_0 : decode cX11_dearest 0 = .ok (.aload_n 0, 1) := by decide +kernel
theorem dX11_dearest_1 : decode cX11_dearest 1 = .ok (.iconst 0, 1) := by decide +kernel
theorem dX11_dearest_2 : decode cX11_dearest 2 = .ok (.putfield 86, 3) := by decide +kernel
theorem dX11_dearest_5 : decode cX11_dearest 5 = .ok (.aload_n 0, 1) := by decide +kernel
theorem dX11_dearest_6 : decode cX11_dearest 6 = .ok (.invokevirtual 193, 3) := by decide +kernel
theorem dX11_dearest_9 : decode cX11_dearest 9 = .ok (.iconst 0, 1) := by decide +kernel
theorem dX11_dearest_10 : decode cX11_dearest 10 = .ok (.istore_n 2, 1) := by decide +kernel
theorem dX11_dearest_11 : decode cX11_dearest 11 = .ok (.iload_n 2, 1) := by decide +kernel
theorem dX11_dearest_12 : decode cX11_dearest 12 = .ok (.aload_n 0, 1) := by decide +kernel
theorem dX11_dearest_13 : decode cX11_dearest 13 = .ok (.getfield 90, 3) := by decide +kernel
theorem dX11_dearest_16 : decode cX11_dearest 16 = .ok (.if_icmp .ge 107, 3) := by decide +kernel
theorem dX11_dearest_19 : decode cX11_dearest 19 = .ok (.aload_n 0, 1) := by decide +kernel
theorem dX11_dearest_20 : decode cX11_dearest 20 = .ok (.getfield 67, 3) := by decide +kernel
theorem dX11_dearest_23 : decode cX11_dearest 23 = .ok (.iload_n 2, 1) := by decide +kernel
theorem dX11_dearest_24 : decode cX11_dearest 24 = .ok (.laload, 1) := by decide +kernel
theorem dX11_dearest_25 : decode cX11_dearest 25 = .ok (.aload_n 0, 1) := by decide +kernel
theorem dX11_dearest_26 : decode cX11_dearest 26 = .ok (.getfield 13, 3) := by decide +kernel
theorem dX11_dearest_29 : decode cX11_dearest 29 = .ok (.iload_n 2, 1) := by decide +kernel
theorem dX11_dearest_30 : decode cX11_dearest 30 = .ok (.iaload, 1) := by decide +kernel
theorem dX11_dearest_31 : decode cX11_dearest 31 = .ok (.i2l, 1) := by decide +kernel
theorem dX11_dearest_32 : decode cX11_dearest 32 = .ok (.lmul, 1) := by decide +kernel
theorem dX11_dearest_33 : decode cX11_dearest 33 = .ok (.lstore_n 3, 1) := by decide +kernel
theorem dX11_dearest_34 : decode cX11_dearest 34 = .ok (.iconst 0, 1) := by decide +kernel
theorem dX11_dearest_35 : decode cX11_dearest 35 = .ok (.istore 5, 2) := by decide +kernel
theorem dX11_dearest_37 : decode cX11_dearest 37 = .ok (.iconst 0, 1) := by decide +kernel
theorem dX11_dearest_38 : decode cX11_dearest 38 = .ok (.istore 6, 2) := by decide +kernel
theorem dX11_dearest_40 : decode cX11_dearest 40 = .ok (.iload 6, 2) := by decide +kernel
theorem dX11_dearest_42 : decode cX11_dearest 42 = .ok (.aload_n 0, 1) := by decide +kernel
theorem dX11_dearest_43 : decode cX11_dearest 43 = .ok (.getfield 90, 3) := by decide +kernel
theorem dX11_dearest_46 : decode cX11_dearest 46 = .ok (.if_icmp .ge 57, 3) := by decide +kernel
theorem dX11_dearest_49 : decode cX11_dearest 49 = .ok (.aload_n 0, 1) := by decide +kernel
theorem dX11_dearest_50 : decode cX11_dearest 50 = .ok (.getfield 67, 3) := by decide +kernel
theorem dX11_dearest_53 : decode cX11_dearest 53 = .ok (.iload 6, 2) := by decide +kernel
theorem dX11_dearest_55 : decode cX11_dearest 55 = .ok (.laload, 1) := by decide +kernel
theorem dX11_dearest_56 : decode cX11_dearest 56 = .ok (.aload_n 0, 1) := by decide +kernel
theorem dX11_dearest_57 : decode cX11_dearest 57 = .ok (.getfield 13, 3) := by decide +kernel
theorem dX11_dearest_60 : decode cX11_dearest 60 = .ok (.iload 6, 2) := by decide +kernel
theorem dX11_dearest_62 : decode cX11_dearest 62 = .ok (.iaload, 1) := by decide +kernel
theorem dX11_dearest_63 : decode cX11_dearest 63 = .ok (.i2l, 1) := by decide +kernel
theorem dX11_dearest_64 : decode cX11_dearest 64 = .ok (.lmul, 1) := by decide +kernel
theorem dX11_dearest_65 : decode cX11_dearest 65 = .ok (.lstore 7, 2) := by decide +kernel
theorem dX11_dearest_67 : decode cX11_dearest 67 = .ok (.iload 5, 2) := by decide +kernel
theorem dX11_dearest_69 : decode cX11_dearest 69 = .ok (.lload 7, 2) := by decide +kernel
theorem dX11_dearest_71 : decode cX11_dearest 71 = .ok (.lload_n 3, 1) := by decide +kernel
theorem dX11_dearest_72 : decode cX11_dearest 72 = .ok (.lcmp, 1) := by decide +kernel
theorem dX11_dearest_73 : decode cX11_dearest 73 = .ok (.ifCond .gt 16, 3) := by decide +kernel
theorem dX11_dearest_76 : decode cX11_dearest 76 = .ok (.lload 7, 2) := by decide +kernel
theorem dX11_dearest_78 : decode cX11_dearest 78 = .ok (.lload_n 3, 1) := by decide +kernel
theorem dX11_dearest_79 : decode cX11_dearest 79 = .ok (.lcmp, 1) := by decide +kernel
theorem dX11_dearest_80 : decode cX11_dearest 80 = .ok (.ifCond .ne 13, 3) := by decide +kernel
theorem dX11_dearest_83 : decode cX11_dearest 83 = .ok (.iload 6, 2) := by decide +kernel
theorem dX11_dearest_85 : decode cX11_dearest 85 = .ok (.iload_n 2, 1) := by decide +kernel
theorem dX11_dearest_86 : decode cX11_dearest 86 = .ok (.if_icmp .ge 7, 3) := by decide +kernel
theorem dX11_dearest_89 : decode cX11_dearest 89 = .ok (.iconst 1, 1) := by decide +kernel
theorem dX11_dearest_90 : decode cX11_dearest 90 = .ok (.goto 4, 3) := by decide +kernel
theorem dX11_dearest_93 : decode cX11_dearest 93 = .ok (.iconst 0, 1) := by decide +kernel
theorem dX11_dearest_94 : decode cX11_dearest 94 = .ok (.iadd, 1) := by decide +kernel
theorem dX11_dearest_95 : decode cX11_dearest 95 = .ok (.istore 5, 2) := by decide +kernel
theorem dX11_dearest_97 : decode cX11_dearest 97 = .ok (.iinc 6 1, 3) := by decide +kernel
theorem dX11_dearest_100 : decode cX11_dearest 100 = .ok (.goto (-60), 3) := by decide +kernel
theorem dX11_dearest_103 : decode cX11_dearest 103 = .ok (.lload_n 3, 1) := by decide +kernel
theorem dX11_dearest_104 : decode cX11_dearest 104 = .ok (.lconst 0, 1) := by decide +kernel
theorem dX11_dearest_105 : decode cX11_dearest 105 = .ok (.lcmp, 1) := by decide +kernel
theorem dX11_dearest_106 : decode cX11_dearest 106 = .ok (.ifCond .le 11, 3) := by decide +kernel
theorem dX11_dearest_109 : decode cX11_dearest 109 = .ok (.iload 5, 2) := by decide +kernel
theorem dX11_dearest_111 : decode cX11_dearest 111 = .ok (.iload_n 1, 1) := by decide +kernel
theorem dX11_dearest_112 : decode cX11_dearest 112 = .ok (.if_icmp .ne 5, 3) := by decide +kernel
theorem dX11_dearest_115 : decode cX11_dearest 115 = .ok (.iload_n 2, 1) := by decide +kernel
theorem dX11_dearest_116 : decode cX11_dearest 116 = .ok (.ireturn, 1) := by decide +kernel
theorem dX11_dearest_117 : decode cX11_dearest 117 = .ok (.iinc 2 1, 3) := by decide +kernel
theorem dX11_dearest_120 : decode cX11_dearest 120 = .ok (.goto (-109), 3) := by decide +kernel
theorem dX11_dearest_123 : decode cX11_dearest 123 = .ok (.aload_n 0, 1) := by decide +kernel
theorem dX11_dearest_124 : decode cX11_dearest 124 = .ok (.iconst 1, 1) := by decide +kernel
theorem dX11_dearest_125 : decode cX11_dearest 125 = .ok (.iconst 1, 1) := by decide +kernel
theorem dX11_dearest_126 : decode cX11_dearest 126 = .ok (.invokevirtual 106, 3) := by decide +kernel
theorem dX11_dearest_129 : decode cX11_dearest 129 = .ok (.pop, 1) := by decide +kernel
theorem dX11_dearest_130 : decode cX11_dearest 130 = .ok (.iconst 0, 1) := by decide +kernel
theorem dX11_dearest_131 : decode cX11_dearest 131 = .ok (.ireturn, 1) := by decide +kernel
set_option maxRecDepth 20000 in
theorem ggX11_share_X11_look : GoodIn wsX11_share wsX11_look := goodIn_ca (goodIn_ca (goodIn_r _ [6, 7, 8, 9, 10, 11, 12, 13, 14, 15, 16, 5, 17, 18, 19, 20, 21, 22, 23, 24, 25, 26, 27, 28, 29, 30, 31, 32, 33, 34, 35, 36, 37, 38, 39, 40, 41, 42, 43, 44, 45, 46, 47, 48, 49, 50, 51, 52, 53, 54, 55, 56, 57, 58, 59, 60, 61, 62, 63, 64, 65, 66, 67, 68, 69, 70, 71, 72, 73, 74, 75, 76, 77, 78, 79, 91, 92, 93, 94, 95, 96, 97, 98, 99, 100, 101, 102, 103, 104, 105, 106, 107, 108, 109, 110, 111, 112, 113, 114, 115, 116, 117, 118, 119, 120, 121, 122, 123, 124] (by decide +kernel) (by decide +kernel)) (goodIn_sub (fun _ h => List.mem_cons_of_mem _ (List.mem_append_left _ (List.mem_append_right _ h))) (by decide +kernel))) (goodIn_sub (fun _ h => List.mem_cons_of_mem _ (List.mem_append_right _ h)) (by decide +kernel))
set_option maxRecDepth 20000 in
theorem gX11_share_X11_look : GoodIn wsX11_share (wsV RX11 193 RX11 yX11_look wsX11_look) := goodIn_app (goodIn_of _ (by decide +kernel)) ggX11_share_X11_look
set_option maxRecDepth 20000 in
theorem ggX11_share_X11_in : GoodIn wsX11_share wsX11_in := goodIn_r _ [82] (by decide +kernel) (by decide +kernel)
set_option maxRecDepth 20000 in
theorem gX11_share_X11_in : GoodIn wsX11_share (va_wsS RX11 93 yX11_in wsX11_in) := goodIn_app (goodIn_of _ (by decide +kernel)) ggX11_share_X11_in
set_option maxRecDepth 20000 in
theorem ggX11_share_X11_fails : GoodIn wsX11_share wsX11_fails := goodIn_r _ [86, 1, 91, 92, 93, 94, 95, 96, 97, 98, 99, 100, 101, 102, 103, 104, 105, 106, 107, 108, 109, 110, 111, 112, 113, 114, 115, 116, 117, 118, 119, 120, 121, 122, 123, 124] (by decide +kernel) (by decide +kernel)
set_option maxRecDepth 20000 in
theorem gX11_share_X11_fails : GoodIn wsX11_share (wsV RX11 106 RX11 yX11_fails wsX11_fails) := goodIn_app (goodIn_of _ (by decide +kernel)) ggX11_share_X11_fails
set_option maxRecDepth 20000 in
theorem ggX11_share_X11_netNow : GoodIn wsX11_share wsX11_netNow := goodIn_ca (goodIn_r _ [90, 64, 65, 66, 5, 67, 7, 68, 8, 63, 91, 92, 93, 94, 95, 96, 97, 98, 99, 100, 101, 102, 103, 104, 105, 106, 107, 108, 109, 110, 111, 112, 113, 114, 115, 116, 117, 118, 119, 120, 121, 122, 123, 124] (by decide +kernel) (by decide +kernel)) (goodIn_sub (fun _ h => List.mem_cons_of_mem _ (List.mem_append_left _ (List.mem_append_right _ h))) (by decide +kernel))
set_option maxRecDepth 20000 in
theorem gX11_share_X11_netNow : GoodIn wsX11_share (wsV RX11 204 RX11 yX11_netNow wsX11_netNow) := goodIn_app (goodIn_of _ (by decide +kernel)) ggX11_share_X11_netNow
set_option maxRecDepth 20000 in
theorem ggX11_share_X11_kindNow : GoodIn wsX11_share wsX11_kindNow := goodIn_ca (goodIn_r _ [67, 7, 68, 8, 63, 91, 92, 93, 94, 95, 96, 97, 98, 99, 100, 101, 102, 103, 104, 105, 106, 107, 108, 109, 110, 111, 112, 113, 114, 115, 116, 117, 118, 119, 120, 121, 122, 123, 124] (by decide +kernel) (by decide +kernel)) (goodIn_sub (fun _ h => List.mem_cons_of_mem _ (List.mem_append_left _ (List.mem_append_right _ h))) (by decide +kernel))
set_option maxRecDepth 20000 in
theorem gX11_share_X11_kindNow : GoodIn wsX11_share (wsV RX11 185 RX11 yX11_kindNow wsX11_kindNow) := goodIn_app (goodIn_of _ (by decide +kernel)) ggX11_share_X11_kindNow
theorem dX11_share_0 : decode cX11_share 0 = .ok (.aload_n 0, 1) := by decide +kernel
theorem dX11_share_1 : decode cX11_share 1 = .ok (.iconst 0, 1) := by decide +kernel
theorem dX11_share_2 : decode cX11_share 2 = .ok (.putfield 86, 3) := by decide +kernel
theorem dX11_share_5 : decode cX11_share 5 = .ok (.aload_n 0, 1) := by decide +kernel
theorem dX11_share_6 : decode cX11_share 6 = .ok (.invokevirtual 193, 3) := by decide +kernel
theorem dX11_share_9 : decode cX11_share 9 = .ok (.aload_n 0, 1) := by decide +kernel
theorem dX11_share_10 : decode cX11_share 10 = .ok (.iload_n 1, 1) := by decide +kernel
theorem dX11_share_11 : decode cX11_share 11 = .ok (.iconst 0, 1) := by decide +kernel
theorem dX11_share_12 : decode cX11_share 12 = .ok (.iconst 2, 1) := by decide +kernel
theorem dX11_share_13 : decode cX11_share 13 = .ok (.invokestatic 93, 3) := by decide +kernel
theorem dX11_share_16 : decode cX11_share 16 = .ok (.ifCond .ne 7, 3) := by decide +kernel
theorem dX11_share_19 : decode cX11_share 19 = .ok (.iconst 1, 1) := by decide +kernel
theorem dX11_share_20 : decode cX11_share 20 = .ok (.goto 4, 3) := by decide +kernel
theorem dX11_share_23 : decode cX11_share 23 = .ok (.iconst 0, 1) := by decide +kernel
theorem dX11_share_24 : decode cX11_share 24 = .ok (.iconst 1, 1) := by decide +kernel
theorem dX11_share_25 : decode cX11_share 25 = .ok (.invokevirtual 106, 3) := by decide +kernel
theorem dX11_share_28 : decode cX11_share 28 = .ok (.ifCond .ne 25, 3) := by decide +kernel
theorem dX11_share_31 : decode cX11_share 31 = .ok (.aload_n 0, 1) := by decide +kernel
theorem dX11_share_32 : decode cX11_share 32 = .ok (.aload_n 0, 1) := by decide +kernel
theorem dX11_share_33 : decode cX11_share 33 = .ok (.invokevirtual 204, 3) := by decide +kernel
theorem dX11_share_36 : decode cX11_share 36 = .ok (.lconst 0, 1) := by decide +kernel
theorem dX11_share_37 : decode cX11_share 37 = .ok (.lcmp, 1) := by decide +kernel
theorem dX11_share_38 : decode cX11_share 38 = .ok (.ifCond .ne 7, 3) := by decide +kernel
theorem dX11_share_41 : decode cX11_share 41 = .ok (.iconst 1, 1) := by decide +kernel
theorem dX11_share_42 : decode cX11_share 42 = .ok (.goto 4, 3) := by decide +kernel
theorem dX11_share_45 : decode cX11_share 45 = .ok (.iconst 0, 1) := by decide +kernel
theorem dX11_share_46 : decode cX11_share 46 = .ok (.iconst 2, 1) := by decide +kernel
theorem dX11_share_47 : decode cX11_share 47 = .ok (.invokevirtual 106, 3) := by decide +kernel
theorem dX11_share_50 : decode cX11_share 50 = .ok (.ifCond .eq 5, 3) := by decide +kernel
theorem dX11_share_53 : decode cX11_share 53 = .ok (.fconst 0, 1) := by decide +kernel
theorem dX11_share_54 : decode cX11_share 54 = .ok (.freturn, 1) := by decide +kernel
theorem dX11_share_55 : decode cX11_share 55 = .ok (.aload_n 0, 1) := by decide +kernel
theorem dX11_share_56 : decode cX11_share 56 = .ok (.iload_n 1, 1) := by decide +kernel
theorem dX11_share_57 : decode cX11_share 57 = .ok (.invokevirtual 185, 3) := by decide +kernel
theorem dX11_share_60 : decode cX11_share 60 = .ok (.l2f, 1) := by decide +kernel
theorem dX11_share_61 : decode cX11_share 61 = .ok (.aload_n 0, 1) := by decide +kernel
theorem dX11_share_62 : decode cX11_share 62 = .ok (.invokevirtual 204, 3) := by decide +kernel
theorem dX11_share_65 : decode cX11_share 65 = .ok (.l2f, 1) := by decide +kernel
theorem dX11_share_66 : decode cX11_share 66 = .ok (.fdiv, 1) := by decide +kernel
theorem dX11_share_67 : decode cX11_share 67 = .ok (.freturn, 1) := by decide +kernel
set_option maxRecDepth 20000 in
theorem ggX11_factor_X11_look : GoodIn wsX11_factor wsX11_look := goodIn_ca (goodIn_ca (goodIn_r _ [6, 7, 8, 9, 10, 11, 12, 13, 14, 15, 16, 5, 17, 18, 19, 20, 21, 22, 23, 24, 25, 26, 27, 28, 29, 30, 31, 32, 33, 34, 35, 36, 37, 38, 39, 40, 41, 42, 43, 44, 45, 46, 47, 48, 49, 50, 51, 52, 53, 54, 55, 56, 57, 58, 59, 60, 61, 62, 63, 64, 65, 66, 67, 68, 69, 70, 71, 72, 73, 74, 75, 76, 77, 78, 79, 92, 93, 94, 95, 96, 97, 98, 99, 100, 101, 102, 103, 104, 105, 106, 107, 108, 109, 110, 111, 112, 113, 114, 115, 116, 117, 118, 119, 120, 121, 122, 123, 124, 125] (by decide +kernel) (by decide +kernel)) (goodIn_sub (fun _ h => List.mem_cons_of_mem _ (List.mem_append_left _ (List.mem_append_right _ h))) (by decide +kernel))) (goodIn_sub (fun _ h => List.mem_cons_of_mem _ (List.mem_append_right _ h)) (by decide +kernel))
set_option maxRecDepth 20000 in
theorem gX11_factor_X11_look : GoodIn wsX11_factor (wsV RX11 193 RX11 yX11_look wsX11_look) := goodIn_app (goodIn_of _ (by decide +kernel)) ggX11_factor_X11_look
set_option maxRecDepth 20000 in
theorem ggX11_factor_X11_netNow : GoodIn wsX11_factor wsX11_netNow := goodIn_ca (goodIn_r _ [83, 64, 65, 66, 5, 67, 7, 68, 8, 63, 92, 93, 94, 95, 96, 97, 98, 99, 100, 101, 102, 103, 104, 105, 106, 107, 108, 109, 110, 111, 112, 113, 114, 115, 116, 117, 118, 119, 120, 121, 122, 123, 124, 125] (by decide +kernel) (by decide +kernel)) (goodIn_sub (fun _ h => List.mem_cons_of_mem _ (List.mem_append_left _ (List.mem_append_right _ h))) (by decide +kernel))
set_option maxRecDepth 20000 in
theorem gX11_factor_X11_netNow : GoodIn wsX11_factor (wsV RX11 204 RX11 yX11_netNow wsX11_netNow) := goodIn_app (goodIn_of _ (by decide +kernel)) ggX11_factor_X11_netNow
set_option maxRecDepth 20000 in
theorem ggX11_factor_X11_fails : GoodIn wsX11_factor wsX11_fails := goodIn_r _ [87, 1, 92, 93, 94, 95, 96, 97, 98, 99, 100, 101, 102, 103, 104, 105, 106, 107, 108, 109, 110, 111, 112, 113, 114, 115, 116, 117, 118, 119, 120, 121, 122, 123, 124, 125] (by decide +kernel) (by decide +kernel)
set_option maxRecDepth 20000 in
theorem gX11_factor_X11_fails : GoodIn wsX11_factor (wsV RX11 106 RX11 yX11_fails wsX11_fails) := goodIn_app (goodIn_of _ (by decide +kernel)) ggX11_factor_X11_fails
set_option maxRecDepth 20000 in
theorem ggX11_factor_X11_totalNow : GoodIn wsX11_factor wsX11_totalNow := goodIn_ca (goodIn_ca (goodIn_r _ [91, 9, 11, 2, 3, 4, 5, 6, 7, 8, 10, 12, 13, 14, 15, 16, 17, 18, 19, 20, 21, 22, 23, 24, 25, 26, 27, 28, 29, 30, 31, 32, 33, 34, 35, 36, 37, 38, 39, 40, 41, 42, 43, 44, 45, 46, 47, 48, 49, 50, 51, 52, 53, 54, 55, 56, 57, 58, 59, 60, 61, 62, 63, 64, 65, 66, 67, 68, 69, 70, 71, 72, 73, 74, 75, 76, 77, 78, 79, 80, 81, 82, 83, 92, 93, 94, 95, 96, 97, 98, 99, 100, 101, 102, 103, 104, 105, 106, 107, 108, 109, 110, 111, 112, 113, 114, 115, 116, 117, 118, 119, 120, 121, 122, 123, 124, 125] (by decide +kernel) (by decide +kernel)) (goodIn_sub (fun _ h => List.mem_cons_of_mem _ (List.mem_append_left _ (List.mem_append_right _ h))) (by decide +kernel))) (goodIn_sub (fun _ h => List.mem_cons_of_mem _ (List.mem_append_right _ h)) (by decide +kernel))
set_option maxRecDepth 20000 in
theorem gX11_factor_X11_totalNow : GoodIn wsX11_factor (wsV RX11 171 RX11 yX11_totalNow wsX11_totalNow) := goodIn_app (goodIn_of _ (by decide +kernel)) ggX11_factor_X11_totalNow
theorem dX11_factor_0 : decode cX11_factor 0 = .ok (.aload_n 0, 1) := by decide +kernel
theorem dX11_factor_1 : decode cX11_factor 1 = .ok (.iconst 0, 1) := by decide +kernel
theorem dX11_factor_2 : decode cX11_factor 2 = .ok (.putfield 86, 3) := by decide +kernel
theorem dX11_factor_5 : decode cX11_factor 5 = .ok (.aload_n 0, 1) := by decide +kernel
theorem dX11_factor_6 : decode cX11_factor 6 = .ok (.invokevirtual 193, 3) := by decide +kernel
theorem dX11_factor_9 : decode cX11_factor 9 = .ok (.aload_n 0, 1) := by decide +kernel
theorem dX11_factor_10 : decode cX11_factor 10 = .ok (.aload_n 0, 1) := by decide +kernel
theorem dX11_factor_11 : decode cX11_factor 11 = .ok (.invokevirtual 204, 3) := by decide +kernel
theorem dX11_factor_14 : decode cX11_factor 14 = .ok (.lconst 0, 1) := by decide +kernel
theorem dX11_factor_15 : decode cX11_factor 15 = .ok (.lcmp, 1) := by decide +kernel
theorem dX11_factor_16 : decode cX11_factor 16 = .ok (.ifCond .ne 7, 3) := by decide +kernel
theorem dX11_factor_19 : decode cX11_factor 19 = .ok (.iconst 1, 1) := by decide +kernel
theorem dX11_factor_20 : decode cX11_factor 20 = .ok (.goto 4, 3) := by decide +kernel
theorem dX11_factor_23 : decode cX11_factor 23 = .ok (.iconst 0, 1) := by decide +kernel
theorem dX11_factor_24 : decode cX11_factor 24 = .ok (.iconst 1, 1) := by decide +kernel
theorem dX11_factor_25 : decode cX11_factor 25 = .ok (.invokevirtual 106, 3) := by decide +kernel
theorem dX11_factor_28 : decode cX11_factor 28 = .ok (.ifCond .eq 7, 3) := by decide +kernel
theorem dX11_factor_31 : decode cX11_factor 31 = .ok (.dconst 0, 1) := by decide +kernel
theorem dX11_factor_32 : decode cX11_factor 32 = .ok (.goto 14, 3) := by decide +kernel
theorem dX11_factor_35 : decode cX11_factor 35 = .ok (.aload_n 0, 1) := by decide +kernel
theorem dX11_factor_36 : decode cX11_factor 36 = .ok (.invokevirtual 171, 3) := by decide +kernel
theorem dX11_factor_39 : decode cX11_factor 39 = .ok (.l2d, 1) := by decide +kernel
theorem dX11_factor_40 : decode cX11_factor 40 = .ok (.aload_n 0, 1) := by decide +kernel
theorem dX11_factor_41 : decode cX11_factor 41 = .ok (.invokevirtual 204, 3) := by decide +kernel
theorem dX11_factor_44 : decode cX11_factor 44 = .ok (.l2d, 1) := by decide +kernel
theorem dX11_factor_45 : decode cX11_factor 45 = .ok (.ddiv, 1) := by decide +kernel
theorem dX11_factor_46 : decode cX11_factor 46 = .ok (.dreturn, 1) := by decide +kernel
theorem dX11_isSound_0 : decode cX11_isSound 0 = .ok (.aload_n 0, 1) := by decide +kernel
theorem dX11_isSound_1 : decode cX11_isSound 1 = .ok (.iconst 0, 1) := by decide +kernel
theorem dX11_isSound_2 : decode cX11_isSound 2 = .ok (.putfield 86, 3) := by decide +kernel
theorem dX11_isSound_5 : decode cX11_isSound 5 = .ok (.iconst 1, 1) := by decide +kernel
theorem dX11_isSound_6 : decode cX11_isSound 6 = .ok (.ireturn, 1) := by decide +kernel

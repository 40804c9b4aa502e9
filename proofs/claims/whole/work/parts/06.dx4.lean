theorem dX4_init_0 : decode cX4_init 0 = .ok (.aload_n 0, 1) := by decide +kernel
theorem dX4_init_1 : decode cX4_init 1 = .ok (.invokespecial 1, 3) := by decide +kernel
theorem dX4_init_4 : decode cX4_init 4 = .ok (.aload_n 0, 1) := by decide +kernel
theorem dX4_init_5 : decode cX4_init 5 = .ok (.iconst 1, 1) := by decide +kernel
theorem dX4_init_6 : decode cX4_init 6 = .ok (.putfield 7, 3) := by decide +kernel
theorem dX4_init_9 : decode cX4_init 9 = .ok (.aload_n 0, 1) := by decide +kernel
theorem dX4_init_10 : decode cX4_init 10 = .ok (.bipush 8, 2) := by decide +kernel
theorem dX4_init_12 : decode cX4_init 12 = .ok (.newarray .int, 2) := by decide +kernel
theorem dX4_init_14 : decode cX4_init 14 = .ok (.dup, 1) := by decide +kernel
theorem dX4_init_15 : decode cX4_init 15 = .ok (.iconst 0, 1) := by decide +kernel
theorem dX4_init_16 : decode cX4_init 16 = .ok (.iconst (-1), 1) := by decide +kernel
theorem dX4_init_17 : decode cX4_init 17 = .ok (.iastore, 1) := by decide +kernel
theorem dX4_init_18 : decode cX4_init 18 = .ok (.dup, 1) := by decide +kernel
theorem dX4_init_19 : decode cX4_init 19 = .ok (.iconst 1, 1) := by decide +kernel
theorem dX4_init_20 : decode cX4_init 20 = .ok (.iconst 0, 1) := by decide +kernel
theorem dX4_init_21 : decode cX4_init 21 = .ok (.iastore, 1) := by decide +kernel
theorem dX4_init_22 : decode cX4_init 22 = .ok (.dup, 1) := by decide +kernel
theorem dX4_init_23 : decode cX4_init 23 = .ok (.iconst 2, 1) := by decide +kernel
theorem dX4_init_24 : decode cX4_init 24 = .ok (.iconst 0, 1) := by decide +kernel
theorem dX4_init_25 : decode cX4_init 25 = .ok (.iastore, 1) := by decide +kernel
theorem dX4_init_26 : decode cX4_init 26 = .ok (.dup, 1) := by decide +kernel
theorem dX4_init_27 : decode cX4_init 27 = .ok (.iconst 3, 1) := by decide +kernel
theorem dX4_init_28 : decode cX4_init 28 = .ok (.iconst 0, 1) := by decide +kernel
theorem dX4_init_29 : decode cX4_init 29 = .ok (.iastore, 1) := by decide +kernel
theorem dX4_init_30 : decode cX4_init 30 = .ok (.dup, 1) := by decide +kernel
theorem dX4_init_31 : decode cX4_init 31 = .ok (.iconst 4, 1) := by decide +kernel
theorem dX4_init_32 : decode cX4_init 32 = .ok (.iconst 0, 1) := by decide +kernel
theorem dX4_init_33 : decode cX4_init 33 = .ok (.iastore, 1) := by decide +kernel
theorem dX4_init_34 : decode cX4_init 34 = .ok (.dup, 1) := by decide +kernel
theorem dX4_init_35 : decode cX4_init 35 = .ok (.iconst 5, 1) := by decide +kernel
theorem dX4_init_36 : decode cX4_init 36 = .ok (.iconst 0, 1) := by decide +kernel
theorem dX4_init_37 : decode cX4_init 37 = .ok (.iastore, 1) := by decide +kernel
theorem dX4_init_38 : decode cX4_init 38 = .ok (.dup, 1) := by decide +kernel
theorem dX4_init_39 : decode cX4_init 39 = .ok (.bipush 6, 2) := by decide +kernel
theorem dX4_init_41 : decode cX4_init 41 = .ok (.iconst 0, 1) := by decide +kernel
theorem dX4_init_42 : decode cX4_init 42 = .ok (.iastore, 1) := by decide +kernel
theorem dX4_init_43 : decode cX4_init 43 = .ok (.dup, 1) := by decide +kernel
theorem dX4_init_44 : decode cX4_init 44 = .ok (.bipush 7, 2) := by decide +kernel
theorem dX4_init_46 : decode cX4_init 46 = .ok (.iconst 0, 1) := by decide +kernel
theorem dX4_init_47 : decode cX4_init 47 = .ok (.iastore, 1) := by decide +kernel
theorem dX4_init_48 : decode cX4_init 48 = .ok (.putfield 13, 3) := by decide +kernel
theorem dX4_init_51 : decode cX4_init 51 = .ok (.aload_n 0, 1) := by decide +kernel
theorem dX4_init_52 : decode cX4_init 52 = .ok (.bipush 48, 2) := by decide +kernel
theorem dX4_init_54 : decode cX4_init 54 = .ok (.newarray .int, 2) := by decide +kernel
theorem dX4_init_56 : decode cX4_init 56 = .ok (.putfield 17, 3) := by decide +kernel
theorem dX4_init_59 : decode cX4_init 59 = .ok (.aload_n 0, 1) := by decide +kernel
theorem dX4_init_60 : decode cX4_init 60 = .ok (.bipush 48, 2) := by decide +kernel
theorem dX4_init_62 : decode cX4_init 62 = .ok (.newarray .int, 2) := by decide +kernel
theorem dX4_init_64 : decode cX4_init 64 = .ok (.putfield 20, 3) := by decide +kernel
theorem dX4_init_67 : decode cX4_init 67 = .ok (.aload_n 0, 1) := by decide +kernel
theorem dX4_init_68 : decode cX4_init 68 = .ok (.bipush 48, 2) := by decide +kernel
theorem dX4_init_70 : decode cX4_init 70 = .ok (.newarray .int, 2) := by decide +kernel
theorem dX4_init_72 : decode cX4_init 72 = .ok (.putfield 23, 3) := by decide +kernel
theorem dX4_init_75 : decode cX4_init 75 = .ok (.aload_n 0, 1) := by decide +kernel
theorem dX4_init_76 : decode cX4_init 76 = .ok (.bipush 24, 2) := by decide +kernel
theorem dX4_init_78 : decode cX4_init 78 = .ok (.newarray .int, 2) := by decide +kernel
theorem dX4_init_80 : decode cX4_init 80 = .ok (.putfield 26, 3) := by decide +kernel
theorem dX4_init_83 : decode cX4_init 83 = .ok (.aload_n 0, 1) := by decide +kernel
theorem dX4_init_84 : decode cX4_init 84 = .ok (.bipush 24, 2) := by decide +kernel
theorem dX4_init_86 : decode cX4_init 86 = .ok (.newarray .int, 2) := by decide +kernel
theorem dX4_init_88 : decode cX4_init 88 = .ok (.putfield 29, 3) := by decide +kernel
theorem dX4_init_91 : decode cX4_init 91 = .ok (.aload_n 0, 1) := by decide +kernel
theorem dX4_init_92 : decode cX4_init 92 = .ok (.bipush 24, 2) := by decide +kernel
theorem dX4_init_94 : decode cX4_init 94 = .ok (.newarray .int, 2) := by decide +kernel
theorem dX4_init_96 : decode cX4_init 96 = .ok (.putfield 32, 3) := by decide +kernel
theorem dX4_init_99 : decode cX4_init 99 = .ok (.aload_n 0, 1) := by decide +kernel
theorem dX4_init_100 : decode cX4_init 100 = .ok (.bipush 24, 2) := by decide +kernel
theorem dX4_init_102 : decode cX4_init 102 = .ok (.newarray .int, 2) := by decide +kernel
theorem dX4_init_104 : decode cX4_init 104 = .ok (.putfield 35, 3) := by decide +kernel
theorem dX4_init_107 : decode cX4_init 107 = .ok (.aload_n 0, 1) := by decide +kernel
theorem dX4_init_108 : decode cX4_init 108 = .ok (.iconst (-1), 1) := by decide +kernel
theorem dX4_init_109 : decode cX4_init 109 = .ok (.putfield 38, 3) := by decide +kernel
theorem dX4_init_112 : decode cX4_init 112 = .ok (.aload_n 0, 1) := by decide +kernel
theorem dX4_init_113 : decode cX4_init 113 = .ok (.bipush 8, 2) := by decide +kernel
theorem dX4_init_115 : decode cX4_init 115 = .ok (.newarray .int, 2) := by decide +kernel
theorem dX4_init_117 : decode cX4_init 117 = .ok (.dup, 1) := by decide +kernel
theorem dX4_init_118 : decode cX4_init 118 = .ok (.iconst 0, 1) := by decide +kernel
theorem dX4_init_119 : decode cX4_init 119 = .ok (.iconst 1, 1) := by decide +kernel
theorem dX4_init_120 : decode cX4_init 120 = .ok (.iastore, 1) := by decide +kernel
theorem dX4_init_121 : decode cX4_init 121 = .ok (.dup, 1) := by decide +kernel
theorem dX4_init_122 : decode cX4_init 122 = .ok (.iconst 1, 1) := by decide +kernel
theorem dX4_init_123 : decode cX4_init 123 = .ok (.iconst 0, 1) := by decide +kernel
theorem dX4_init_124 : decode cX4_init 124 = .ok (.iastore, 1) := by decide +kernel
theorem dX4_init_125 : decode cX4_init 125 = .ok (.dup, 1) := by decide +kernel
theorem dX4_init_126 : decode cX4_init 126 = .ok (.iconst 2, 1) := by decide +kernel
theorem dX4_init_127 : decode cX4_init 127 = .ok (.iconst 0, 1) := by decide +kernel
theorem dX4_init_128 : decode cX4_init 128 = .ok (.iastore, 1) := by decide +kernel
theorem dX4_init_129 : decode cX4_init 129 = .ok (.dup, 1) := by decide +kernel
theorem dX4_init_130 : decode cX4_init 130 = .ok (.iconst 3, 1) := by decide +kernel
theorem dX4_init_131 : decode cX4_init 131 = .ok (.iconst 0, 1) := by decide +kernel
theorem dX4_init_132 : decode cX4_init 132 = .ok (.iastore, 1) := by decide +kernel
theorem dX4_init_133 : decode cX4_init 133 = .ok (.dup, 1) := by decide +kernel
theorem dX4_init_134 : decode cX4_init 134 = .ok (.iconst 4, 1) := by decide +kernel
theorem dX4_init_135 : decode cX4_init 135 = .ok (.iconst 0, 1) := by decide +kernel
theorem dX4_init_136 : decode cX4_init 136 = .ok (.iastore, 1) := by decide +kernel
theorem dX4_init_137 : decode cX4_init 137 = .ok (.dup, 1) := by decide +kernel
theorem dX4_init_138 : decode cX4_init 138 = .ok (.iconst 5, 1) := by decide +kernel
theorem dX4_init_139 : decode cX4_init 139 = .ok (.iconst 0, 1) := by decide +kernel
theorem dX4_init_140 : decode cX4_init 140 = .ok (.iastore, 1) := by decide +kernel
theorem dX4_init_141 : decode cX4_init 141 = .ok (.dup, 1) := by decide +kernel
theorem dX4_init_142 : decode cX4_init 142 = .ok (.bipush 6, 2) := by decide +kernel
theorem dX4_init_144 : decode cX4_init 144 = .ok (.iconst 0, 1) := by decide +kernel
theorem dX4_init_145 : decode cX4_init 145 = .ok (.iastore, 1) := by decide +kernel
theorem dX4_init_146 : decode cX4_init 146 = .ok (.dup, 1) := by decide +kernel
theorem dX4_init_147 : decode cX4_init 147 = .ok (.bipush 7, 2) := by decide +kernel
theorem dX4_init_149 : decode cX4_init 149 = .ok (.iconst 0, 1) := by decide +kernel
theorem dX4_init_150 : decode cX4_init 150 = .ok (.iastore, 1) := by decide +kernel
theorem dX4_init_151 : decode cX4_init 151 = .ok (.putfield 41, 3) := by decide +kernel
theorem dX4_init_154 : decode cX4_init 154 = .ok (.aload_n 0, 1) := by decide +kernel
theorem dX4_init_155 : decode cX4_init 155 = .ok (.bipush 48, 2) := by decide +kernel
theorem dX4_init_157 : decode cX4_init 157 = .ok (.newarray .boolean, 2) := by decide +kernel
theorem dX4_init_159 : decode cX4_init 159 = .ok (.putfield 44, 3) := by decide +kernel
theorem dX4_init_162 : decode cX4_init 162 = .ok (.aload_n 0, 1) := by decide +kernel
theorem dX4_init_163 : decode cX4_init 163 = .ok (.sipush 384, 3) := by decide +kernel
theorem dX4_init_166 : decode cX4_init 166 = .ok (.newarray .int, 2) := by decide +kernel
theorem dX4_init_168 : decode cX4_init 168 = .ok (.putfield 48, 3) := by decide +kernel
theorem dX4_init_171 : decode cX4_init 171 = .ok (.aload_n 0, 1) := by decide +kernel
theorem dX4_init_172 : decode cX4_init 172 = .ok (.bipush 96, 2) := by decide +kernel
theorem dX4_init_174 : decode cX4_init 174 = .ok (.newarray .int, 2) := by decide +kernel
theorem dX4_init_176 : decode cX4_init 176 = .ok (.putfield 51, 3) := by decide +kernel
theorem dX4_init_179 : decode cX4_init 179 = .ok (.return_, 1) := by decide +kernel
theorem dX4_thrown_0 : decode cX4_thrown 0 = .ok (.aload_n 0, 1) := by decide +kernel
theorem dX4_thrown_1 : decode cX4_thrown 1 = .ok (.getfield 54, 3) := by decide +kernel
theorem dX4_thrown_4 : decode cX4_thrown 4 = .ok (.ireturn, 1) := by decide +kernel
theorem dX4_no_0 : decode cX4_no 0 = .ok (.aload_n 0, 1) := by decide +kernel
theorem dX4_no_1 : decode cX4_no 1 = .ok (.iload_n 1, 1) := by decide +kernel
theorem dX4_no_2 : decode cX4_no 2 = .ok (.putfield 54, 3) := by decide +kernel
theorem dX4_no_5 : decode cX4_no 5 = .ok (.iconst 0, 1) := by decide +kernel
theorem dX4_no_6 : decode cX4_no 6 = .ok (.ireturn, 1) := by decide +kernel
theorem dX4_isIn_0 : decode cX4_isIn 0 = .ok (.iload_n 0, 1) := by decide +kernel
theorem dX4_isIn_1 : decode cX4_isIn 1 = .ok (.iload_n 1, 1) := by decide +kernel
theorem dX4_isIn_2 : decode cX4_isIn 2 = .ok (.if_icmp .lt 12, 3) := by decide +kernel
theorem dX4_isIn_5 : decode cX4_isIn 5 = .ok (.iload_n 0, 1) := by decide +kernel
theorem dX4_isIn_6 : decode cX4_isIn 6 = .ok (.iload_n 2, 1) := by decide +kernel
theorem dX4_isIn_7 : decode cX4_isIn 7 = .ok (.if_icmp .gt 7, 3) := by decide +kernel
theorem dX4_isIn_10 : decode cX4_isIn 10 = .ok (.iconst 1, 1) := by decide +kernel
theorem dX4_isIn_11 : decode cX4_isIn 11 = .ok (.goto 4, 3) := by decide +kernel
theorem dX4_isIn_14 : decode cX4_isIn 14 = .ok (.iconst 0, 1) := by decide +kernel
theorem dX4_isIn_15 : decode cX4_isIn 15 = .ok (.ireturn, 1) := by decide +kernel
set_option maxRecDepth 20000 in
theorem ggX4_isKind_X4_isIn : GoodIn wsX4_isKind wsX4_isIn := goodIn_r _ [5] (by decide +kernel) (by decide +kernel)
set_option maxRecDepth 20000 in
theorem gX4_isKind_X4_isIn : GoodIn wsX4_isKind (va_wsS RX4 57 yX4_isIn wsX4_isIn) := goodIn_app (goodIn_of _ (by decide +kernel)) ggX4_isKind_X4_isIn
theorem dX4_isKind_0 : decode cX4_isKind 0 = .ok (.iload_n 1, 1) := by decide +kernel
theorem dX4_isKind_1 : decode cX4_isKind 1 = .ok (.iconst 0, 1) := by decide +kernel
theorem dX4_isKind_2 : decode cX4_isKind 2 = .ok (.aload_n 0, 1) := by decide +kernel
theorem dX4_isKind_3 : decode cX4_isKind 3 = .ok (.getfield 7, 3) := by decide +kernel
theorem dX4_isKind_6 : decode cX4_isKind 6 = .ok (.iconst 1, 1) := by decide +kernel
theorem dX4_isKind_7 : decode cX4_isKind 7 = .ok (.isub, 1) := by decide +kernel
theorem dX4_isKind_8 : decode cX4_isKind 8 = .ok (.invokestatic 57, 3) := by decide +kernel
theorem dX4_isKind_11 : decode cX4_isKind 11 = .ok (.ireturn, 1) := by decide +kernel
set_option maxRecDepth 20000 in
theorem ggX4_isInstruction_X4_isIn : GoodIn wsX4_isInstruction wsX4_isIn := goodIn_r _ [5] (by decide +kernel) (by decide +kernel)
set_option maxRecDepth 20000 in
theorem gX4_isInstruction_X4_isIn : GoodIn wsX4_isInstruction (va_wsS RX4 57 yX4_isIn wsX4_isIn) := goodIn_app (goodIn_of _ (by decide +kernel)) ggX4_isInstruction_X4_isIn
theorem dX4_isInstruction_0 : decode cX4_isInstruction 0 = .ok (.iload_n 1, 1) := by decide +kernel
theorem dX4_isInstruction_1 : decode cX4_isInstruction 1 = .ok (.iconst 0, 1) := by decide +kernel
theorem dX4_isInstruction_2 : decode cX4_isInstruction 2 = .ok (.aload_n 0, 1) := by decide +kernel
theorem dX4_isInstruction_3 : decode cX4_isInstruction 3 = .ok (.getfield 61, 3) := by decide +kernel
theorem dX4_isInstruction_6 : decode cX4_isInstruction 6 = .ok (.iconst 1, 1) := by decide +kernel
theorem dX4_isInstruction_7 : decode cX4_isInstruction 7 = .ok (.isub, 1) := by decide +kernel
theorem dX4_isInstruction_8 : decode cX4_isInstruction 8 = .ok (.invokestatic 57, 3) := by decide +kernel
theorem dX4_isInstruction_11 : decode cX4_isInstruction 11 = .ok (.ireturn, 1) := by decide +kernel
set_option maxRecDepth 20000 in
theorem ggX4_isEntry_X4_isIn : GoodIn wsX4_isEntry wsX4_isIn := goodIn_r _ [5] (by decide +kernel) (by decide +kernel)
set_option maxRecDepth 20000 in
theorem gX4_isEntry_X4_isIn : GoodIn wsX4_isEntry (va_wsS RX4 57 yX4_isIn wsX4_isIn) := goodIn_app (goodIn_of _ (by decide +kernel)) ggX4_isEntry_X4_isIn
theorem dX4_isEntry_0 : decode cX4_isEntry 0 = .ok (.iload_n 1, 1) := by decide +kernel
theorem dX4_isEntry_1 : decode cX4_isEntry 1 = .ok (.iconst 0, 1) := by decide +kernel
theorem dX4_isEntry_2 : decode cX4_isEntry 2 = .ok (.aload_n 0, 1) := by decide +kernel
theorem dX4_isEntry_3 : decode cX4_isEntry 3 = .ok (.getfield 64, 3) := by decide +kernel
theorem dX4_isEntry_6 : decode cX4_isEntry 6 = .ok (.iconst 1, 1) := by decide +kernel
theorem dX4_isEntry_7 : decode cX4_isEntry 7 = .ok (.isub, 1) := by decide +kernel
theorem dX4_isEntry_8 : decode cX4_isEntry 8 = .ok (.invokestatic 57, 3) := by decide +kernel
theorem dX4_isEntry_11 : decode cX4_isEntry 11 = .ok (.ireturn, 1) := by decide +kernel
set_option maxRecDepth 20000 in
theorem ggX4_isTarget_X4_isIn : GoodIn wsX4_isTarget wsX4_isIn := goodIn_r _ [4] (by decide +kernel) (by decide +kernel)
set_option maxRecDepth 20000 in
theorem gX4_isTarget_X4_isIn : GoodIn wsX4_isTarget (va_wsS RX4 57 yX4_isIn wsX4_isIn) := goodIn_app (goodIn_of _ (by decide +kernel)) ggX4_isTarget_X4_isIn
theorem dX4_isTarget_0 : decode cX4_isTarget 0 = .ok (.iload_n 0, 1) := by decide +kernel
theorem dX4_isTarget_1 : decode cX4_isTarget 1 = .ok (.iconst 0, 1) := by decide +kernel
theorem dX4_isTarget_2 : decode cX4_isTarget 2 = .ok (.bipush 47, 2) := by decide +kernel
theorem dX4_isTarget_4 : decode cX4_isTarget 4 = .ok (.invokestatic 57, 3) := by decide +kernel
theorem dX4_isTarget_7 : decode cX4_isTarget 7 = .ok (.ireturn, 1) := by decide +kernel
theorem dX4_areKinds_0 : decode cX4_areKinds 0 = .ok (.iload_n 1, 1) := by decide +kernel
theorem dX4_areKinds_1 : decode cX4_areKinds 1 = .ok (.ifCond .lt 16, 3) := by decide +kernel
theorem dX4_areKinds_4 : decode cX4_areKinds 4 = .ok (.iload_n 1, 1) := by decide +kernel
theorem dX4_areKinds_5 : decode cX4_areKinds 5 = .ok (.aload_n 0, 1) := by decide +kernel
theorem dX4_areKinds_6 : decode cX4_areKinds 6 = .ok (.getfield 7, 3) := by decide +kernel
theorem dX4_areKinds_9 : decode cX4_areKinds 9 = .ok (.ishr, 1) := by decide +kernel
theorem dX4_areKinds_10 : decode cX4_areKinds 10 = .ok (.ifCond .ne 7, 3) := by decide +kernel
theorem dX4_areKinds_13 : decode cX4_areKinds 13 = .ok (.iconst 1, 1) := by decide +kernel
theorem dX4_areKinds_14 : decode cX4_areKinds 14 = .ok (.goto 4, 3) := by decide +kernel
theorem dX4_areKinds_17 : decode cX4_areKinds 17 = .ok (.iconst 0, 1) := by decide +kernel
theorem dX4_areKinds_18 : decode cX4_areKinds 18 = .ok (.ireturn, 1) := by decide +kernel
theorem dX4_has_0 : decode cX4_has 0 = .ok (.iload_n 0, 1) := by decide +kernel
theorem dX4_has_1 : decode cX4_has 1 = .ok (.iload_n 1, 1) := by decide +kernel
theorem dX4_has_2 : decode cX4_has 2 = .ok (.ishr, 1) := by decide +kernel
theorem dX4_has_3 : decode cX4_has 3 = .ok (.iconst 1, 1) := by decide +kernel
theorem dX4_has_4 : decode cX4_has 4 = .ok (.iand, 1) := by decide +kernel
theorem dX4_has_5 : decode cX4_has 5 = .ok (.iconst 1, 1) := by decide +kernel
theorem dX4_has_6 : decode cX4_has 6 = .ok (.if_icmp .ne 7, 3) := by decide +kernel
theorem dX4_has_9 : decode cX4_has 9 = .ok (.iconst 1, 1) := by decide +kernel
theorem dX4_has_10 : decode cX4_has 10 = .ok (.goto 4, 3) := by decide +kernel
theorem dX4_has_13 : decode cX4_has 13 = .ok (.iconst 0, 1) := by decide +kernel
theorem dX4_has_14 : decode cX4_has 14 = .ok (.ireturn, 1) := by decide +kernel
set_option maxRecDepth 20000 in
theorem ggX4_addKind_X4_isKind : GoodIn wsX4_addKind wsX4_isKind := goodIn_r _ [9, 2, 10, 11, 8, 12, 17, 18, 19, 20, 21, 22, 23, 24, 25, 26, 27, 28, 29, 30, 31, 32, 33, 34, 35, 36] (by decide +kernel) (by decide +kernel)
set_option maxRecDepth 20000 in
theorem gX4_addKind_X4_isKind : GoodIn wsX4_addKind (wsV RX4 67 RX4 yX4_isKind wsX4_isKind) := goodIn_app (goodIn_of _ (by decide +kernel)) ggX4_addKind_X4_isKind
set_option maxRecDepth 20000 in
theorem ggX4_addKind_X4_no : GoodIn wsX4_addKind wsX4_no := goodIn_r _ [16, 1, 17, 18, 19, 20, 21, 22, 23, 24, 25, 26, 27, 28, 29, 30, 31, 32, 33, 34, 35, 36] (by decide +kernel) (by decide +kernel)
set_option maxRecDepth 20000 in
theorem gX4_addKind_X4_no : GoodIn wsX4_addKind (wsV RX4 71 RX4 yX4_no wsX4_no) := goodIn_app (goodIn_of _ (by decide +kernel)) ggX4_addKind_X4_no
theorem dX4_addKind_0 : decode cX4_addKind 0 = .ok (.aload_n 0, 1) := by decide +kernel
theorem dX4_addKind_1 : decode cX4_addKind 1 = .ok (.iconst 0, 1) := by decide +kernel
theorem dX4_addKind_2 : decode cX4_addKind 2 = .ok (.putfield 54, 3) := by decide +kernel
theorem dX4_addKind_5 : decode cX4_addKind 5 = .ok (.aload_n 0, 1) := by decide +kernel
theorem dX4_addKind_6 : decode cX4_addKind 6 = .ok (.iload_n 1, 1) := by decide +kernel
theorem dX4_addKind_7 : decode cX4_addKind 7 = .ok (.invokevirtual 67, 3) := by decide +kernel
theorem dX4_addKind_10 : decode cX4_addKind 10 = .ok (.ifCond .ne 9, 3) := by decide +kernel
theorem dX4_addKind_13 : decode cX4_addKind 13 = .ok (.aload_n 0, 1) := by decide +kernel
theorem dX4_addKind_14 : decode cX4_addKind 14 = .ok (.iconst 1, 1) := by decide +kernel
theorem dX4_addKind_15 : decode cX4_addKind 15 = .ok (.invokevirtual 71, 3) := by decide +kernel
theorem dX4_addKind_18 : decode cX4_addKind 18 = .ok (.ireturn, 1) := by decide +kernel
theorem dX4_addKind_19 : decode cX4_addKind 19 = .ok (.aload_n 0, 1) := by decide +kernel
theorem dX4_addKind_20 : decode cX4_addKind 20 = .ok (.getfield 7, 3) := by decide +kernel
theorem dX4_addKind_23 : decode cX4_addKind 23 = .ok (.bipush 8, 2) := by decide +kernel
theorem dX4_addKind_25 : decode cX4_addKind 25 = .ok (.if_icmp .ne 9, 3) := by decide +kernel
theorem dX4_addKind_28 : decode cX4_addKind 28 = .ok (.aload_n 0, 1) := by decide +kernel
theorem dX4_addKind_29 : decode cX4_addKind 29 = .ok (.iconst 2, 1) := by decide +kernel
theorem dX4_addKind_30 : decode cX4_addKind 30 = .ok (.invokevirtual 71, 3) := by decide +kernel
theorem dX4_addKind_33 : decode cX4_addKind 33 = .ok (.ireturn, 1) := by decide +kernel
theorem dX4_addKind_34 : decode cX4_addKind 34 = .ok (.aload_n 0, 1) := by decide +kernel
theorem dX4_addKind_35 : decode cX4_addKind 35 = .ok (.getfield 13, 3) := by decide +kernel
theorem dX4_addKind_38 : decode cX4_addKind 38 = .ok (.aload_n 0, 1) := by decide +kernel
theorem dX4_addKind_39 : decode cX4_addKind 39 = .ok (.getfield 7, 3) := by decide +kernel
theorem dX4_addKind_42 : decode cX4_addKind 42 = .ok (.iload_n 1, 1) := by decide +kernel
theorem dX4_addKind_43 : decode cX4_addKind 43 = .ok (.iastore, 1) := by decide +kernel
theorem dX4_addKind_44 : decode cX4_addKind 44 = .ok (.aload_n 0, 1) := by decide +kernel
theorem dX4_addKind_45 : decode cX4_addKind 45 = .ok (.getfield 41, 3) := by decide +kernel
theorem dX4_addKind_48 : decode cX4_addKind 48 = .ok (.aload_n 0, 1) := by decide +kernel
theorem dX4_addKind_49 : decode cX4_addKind 49 = .ok (.getfield 7, 3) := by decide +kernel
theorem dX4_addKind_52 : decode cX4_addKind 52 = .ok (.aload_n 0, 1) := by decide +kernel
theorem dX4_addKind_53 : decode cX4_addKind 53 = .ok (.getfield 41, 3) := by decide +kernel
theorem dX4_addKind_56 : decode cX4_addKind 56 = .ok (.iload_n 1, 1) := by decide +kernel
theorem dX4_addKind_57 : decode cX4_addKind 57 = .ok (.iaload, 1) := by decide +kernel
theorem dX4_addKind_58 : decode cX4_addKind 58 = .ok (.iconst 1, 1) := by decide +kernel
theorem dX4_addKind_59 : decode cX4_addKind 59 = .ok (.aload_n 0, 1) := by decide +kernel
theorem dX4_addKind_60 : decode cX4_addKind 60 = .ok (.getfield 7, 3) := by decide +kernel
theorem dX4_addKind_63 : decode cX4_addKind 63 = .ok (.ishl, 1) := by decide +kernel
theorem dX4_addKind_64 : decode cX4_addKind 64 = .ok (.ior, 1) := by decide +kernel
theorem dX4_addKind_65 : decode cX4_addKind 65 = .ok (.iastore, 1) := by decide +kernel
theorem dX4_addKind_66 : decode cX4_addKind 66 = .ok (.aload_n 0, 1) := by decide +kernel
theorem dX4_addKind_67 : decode cX4_addKind 67 = .ok (.dup, 1) := by decide +kernel
theorem dX4_addKind_68 : decode cX4_addKind 68 = .ok (.getfield 7, 3) := by decide +kernel
theorem dX4_addKind_71 : decode cX4_addKind 71 = .ok (.iconst 1, 1) := by decide +kernel
theorem dX4_addKind_72 : decode cX4_addKind 72 = .ok (.iadd, 1) := by decide +kernel
theorem dX4_addKind_73 : decode cX4_addKind 73 = .ok (.putfield 7, 3) := by decide +kernel
theorem dX4_addKind_76 : decode cX4_addKind 76 = .ok (.aload_n 0, 1) := by decide +kernel
theorem dX4_addKind_77 : decode cX4_addKind 77 = .ok (.getfield 7, 3) := by decide +kernel
theorem dX4_addKind_80 : decode cX4_addKind 80 = .ok (.iconst 1, 1) := by decide +kernel
theorem dX4_addKind_81 : decode cX4_addKind 81 = .ok (.isub, 1) := by decide +kernel
theorem dX4_addKind_82 : decode cX4_addKind 82 = .ok (.ireturn, 1) := by decide +kernel
theorem dX4_kindCount_0 : decode cX4_kindCount 0 = .ok (.aload_n 0, 1) := by decide +kernel
theorem dX4_kindCount_1 : decode cX4_kindCount 1 = .ok (.iconst 0, 1) := by decide +kernel
theorem dX4_kindCount_2 : decode cX4_kindCount 2 = .ok (.putfield 54, 3) := by decide +kernel
theorem dX4_kindCount_5 : decode cX4_kindCount 5 = .ok (.aload_n 0, 1) := by decide +kernel
theorem dX4_kindCount_6 : decode cX4_kindCount 6 = .ok (.getfield 7, 3) := by decide +kernel
theorem dX4_kindCount_9 : decode cX4_kindCount 9 = .ok (.ireturn, 1) := by decide +kernel
set_option maxRecDepth 20000 in
theorem ggX4_isBelow_X4_isKind : GoodIn wsX4_isBelow wsX4_isKind := goodIn_r _ [7, 8, 9, 10, 6, 11, 15, 16, 17, 18, 19, 20, 21, 22, 23, 24, 25, 26, 27, 28, 29, 30, 31, 32, 33, 34] (by decide +kernel) (by decide +kernel)
set_option maxRecDepth 20000 in
theorem gX4_isBelow_X4_isKind : GoodIn wsX4_isBelow (wsV RX4 67 RX4 yX4_isKind wsX4_isKind) := goodIn_app (goodIn_of _ (by decide +kernel)) ggX4_isBelow_X4_isKind
set_option maxRecDepth 20000 in
theorem ggX4_isBelow_X4_has : GoodIn wsX4_isBelow wsX4_has := goodIn_r _ [14] (by decide +kernel) (by decide +kernel)
set_option maxRecDepth 20000 in
theorem gX4_isBelow_X4_has : GoodIn wsX4_isBelow (va_wsS RX4 75 yX4_has wsX4_has) := goodIn_app (goodIn_of _ (by decide +kernel)) ggX4_isBelow_X4_has
theorem dX4_isBelow_0 : decode cX4_isBelow 0 = .ok (.aload_n 0, 1) := by decide +kernel
theorem dX4_isBelow_1 : decode cX4_isBelow 1 = .ok (.aload_n 0, 1) := by decide +kernel
theorem dX4_isBelow_2 : decode cX4_isBelow 2 = .ok (.iload_n 1, 1) := by decide +kernel
theorem dX4_isBelow_3 : decode cX4_isBelow 3 = .ok (.invokevirtual 67, 3) := by decide +kernel
theorem dX4_isBelow_6 : decode cX4_isBelow 6 = .ok (.ifCond .eq 15, 3) := by decide +kernel
theorem dX4_isBelow_9 : decode cX4_isBelow 9 = .ok (.aload_n 0, 1) := by decide +kernel
theorem dX4_isBelow_10 : decode cX4_isBelow 10 = .ok (.iload_n 2, 1) := by decide +kernel
theorem dX4_isBelow_11 : decode cX4_isBelow 11 = .ok (.invokevirtual 67, 3) := by decide +kernel
theorem dX4_isBelow_14 : decode cX4_isBelow 14 = .ok (.ifCond .eq 7, 3) := by decide +kernel
theorem dX4_isBelow_17 : decode cX4_isBelow 17 = .ok (.iconst 0, 1) := by decide +kernel
theorem dX4_isBelow_18 : decode cX4_isBelow 18 = .ok (.goto 4, 3) := by decide +kernel
theorem dX4_isBelow_21 : decode cX4_isBelow 21 = .ok (.iconst 1, 1) := by decide +kernel
theorem dX4_isBelow_22 : decode cX4_isBelow 22 = .ok (.putfield 54, 3) := by decide +kernel
theorem dX4_isBelow_25 : decode cX4_isBelow 25 = .ok (.aload_n 0, 1) := by decide +kernel
theorem dX4_isBelow_26 : decode cX4_isBelow 26 = .ok (.getfield 54, 3) := by decide +kernel
theorem dX4_isBelow_29 : decode cX4_isBelow 29 = .ok (.ifCond .ne 25, 3) := by decide +kernel
theorem dX4_isBelow_32 : decode cX4_isBelow 32 = .ok (.iload_n 1, 1) := by decide +kernel
theorem dX4_isBelow_33 : decode cX4_isBelow 33 = .ok (.iload_n 2, 1) := by decide +kernel
theorem dX4_isBelow_34 : decode cX4_isBelow 34 = .ok (.if_icmp .eq 20, 3) := by decide +kernel
theorem dX4_isBelow_37 : decode cX4_isBelow 37 = .ok (.aload_n 0, 1) := by decide +kernel
theorem dX4_isBelow_38 : decode cX4_isBelow 38 = .ok (.getfield 41, 3) := by decide +kernel
theorem dX4_isBelow_41 : decode cX4_isBelow 41 = .ok (.iload_n 1, 1) := by decide +kernel
theorem dX4_isBelow_42 : decode cX4_isBelow 42 = .ok (.iaload, 1) := by decide +kernel
theorem dX4_isBelow_43 : decode cX4_isBelow 43 = .ok (.iload_n 2, 1) := by decide +kernel
theorem dX4_isBelow_44 : decode cX4_isBelow 44 = .ok (.invokestatic 75, 3) := by decide +kernel
theorem dX4_isBelow_47 : decode cX4_isBelow 47 = .ok (.ifCond .eq 7, 3) := by decide +kernel
theorem dX4_isBelow_50 : decode cX4_isBelow 50 = .ok (.iconst 1, 1) := by decide +kernel
theorem dX4_isBelow_51 : decode cX4_isBelow 51 = .ok (.goto 4, 3) := by decide +kernel
theorem dX4_isBelow_54 : decode cX4_isBelow 54 = .ok (.iconst 0, 1) := by decide +kernel
theorem dX4_isBelow_55 : decode cX4_isBelow 55 = .ok (.ireturn, 1) := by decide +kernel
set_option maxRecDepth 20000 in
theorem ggX4_lowest_X4_has : GoodIn wsX4_lowest wsX4_has := goodIn_r _ [6] (by decide +kernel) (by decide +kernel)
set_option maxRecDepth 20000 in
theorem gX4_lowest_X4_has : GoodIn wsX4_lowest (va_wsS RX4 75 yX4_has wsX4_has) := goodIn_app (goodIn_of _ (by decide +kernel)) ggX4_lowest_X4_has
theorem dX4_lowest_0 : decode cX4_lowest 0 = .ok (.aload_n 0, 1) := by decide +kernel
theorem dX4_lowest_1 : decode cX4_lowest 1 = .ok (.getfield 41, 3) := by decide +kernel
theorem dX4_lowest_4 : decode cX4_lowest 4 = .ok (.iload_n 1, 1) := by decide +kernel
theorem dX4_lowest_5 : decode cX4_lowest 5 = .ok (.iaload, 1) := by decide +kernel
theorem dX4_lowest_6 : decode cX4_lowest 6 = .ok (.aload_n 0, 1) := by decide +kernel
theorem dX4_lowest_7 : decode cX4_lowest 7 = .ok (.getfield 41, 3) := by decide +kernel
theorem dX4_lowest_10 : decode cX4_lowest 10 = .ok (.iload_n 2, 1) := by decide +kernel
theorem dX4_lowest_11 : decode cX4_lowest 11 = .ok (.iaload, 1) := by decide +kernel
theorem dX4_lowest_12 : decode cX4_lowest 12 = .ok (.iand, 1) := by decide +kernel
theorem dX4_lowest_13 : decode cX4_lowest 13 = .ok (.istore_n 3, 1) := by decide +kernel
theorem dX4_lowest_14 : decode cX4_lowest 14 = .ok (.iconst 0, 1) := by decide +kernel
theorem dX4_lowest_15 : decode cX4_lowest 15 = .ok (.istore 4, 2) := by decide +kernel
theorem dX4_lowest_17 : decode cX4_lowest 17 = .ok (.iconst 0, 1) := by decide +kernel
theorem dX4_lowest_18 : decode cX4_lowest 18 = .ok (.istore 5, 2) := by decide +kernel
theorem dX4_lowest_20 : decode cX4_lowest 20 = .ok (.iload 5, 2) := by decide +kernel
theorem dX4_lowest_22 : decode cX4_lowest 22 = .ok (.aload_n 0, 1) := by decide +kernel
theorem dX4_lowest_23 : decode cX4_lowest 23 = .ok (.getfield 7, 3) := by decide +kernel
theorem dX4_lowest_26 : decode cX4_lowest 26 = .ok (.if_icmp .ge 22, 3) := by decide +kernel
theorem dX4_lowest_29 : decode cX4_lowest 29 = .ok (.iload_n 3, 1) := by decide +kernel
theorem dX4_lowest_30 : decode cX4_lowest 30 = .ok (.iload 5, 2) := by decide +kernel
theorem dX4_lowest_32 : decode cX4_lowest 32 = .ok (.invokestatic 75, 3) := by decide +kernel
theorem dX4_lowest_35 : decode cX4_lowest 35 = .ok (.ifCond .eq 7, 3) := by decide +kernel
theorem dX4_lowest_38 : decode cX4_lowest 38 = .ok (.iload 5, 2) := by decide +kernel
theorem dX4_lowest_40 : decode cX4_lowest 40 = .ok (.istore 4, 2) := by decide +kernel
theorem dX4_lowest_42 : decode cX4_lowest 42 = .ok (.iinc 5 1, 3) := by decide +kernel
theorem dX4_lowest_45 : decode cX4_lowest 45 = .ok (.goto (-25), 3) := by decide +kernel
theorem dX4_lowest_48 : decode cX4_lowest 48 = .ok (.iload 4, 2) := by decide +kernel
theorem dX4_lowest_50 : decode cX4_lowest 50 = .ok (.ireturn, 1) := by decide +kernel
set_option maxRecDepth 20000 in
theorem ggX4_common_X4_isKind : GoodIn wsX4_common wsX4_isKind := goodIn_r _ [6, 7, 8, 9, 5, 10, 23, 24, 25, 26, 27, 28, 29, 30, 31, 32, 33, 34, 35, 36, 37, 38, 39, 40, 41, 42] (by decide +kernel) (by decide +kernel)
set_option maxRecDepth 20000 in
theorem gX4_common_X4_isKind : GoodIn wsX4_common (wsV RX4 67 RX4 yX4_isKind wsX4_isKind) := goodIn_app (goodIn_of _ (by decide +kernel)) ggX4_common_X4_isKind
set_option maxRecDepth 20000 in
theorem ggX4_common_X4_lowest : GoodIn wsX4_common wsX4_lowest := goodIn_r _ [14, 15, 7, 16, 17, 5, 18, 23, 24, 25, 26, 27, 28, 29, 30, 31, 32, 33, 34, 35, 36, 37, 38, 39, 40, 41, 42] (by decide +kernel) (by decide +kernel)
set_option maxRecDepth 20000 in
theorem gX4_common_X4_lowest : GoodIn wsX4_common (wsV RX4 79 RX4 yX4_lowest wsX4_lowest) := goodIn_app (goodIn_of _ (by decide +kernel)) ggX4_common_X4_lowest
set_option maxRecDepth 20000 in
theorem ggX4_common_X4_no : GoodIn wsX4_common wsX4_no := goodIn_r _ [22, 1, 23, 24, 25, 26, 27, 28, 29, 30, 31, 32, 33, 34, 35, 36, 37, 38, 39, 40, 41, 42] (by decide +kernel) (by decide +kernel)
set_option maxRecDepth 20000 in
theorem gX4_common_X4_no : GoodIn wsX4_common (wsV RX4 71 RX4 yX4_no wsX4_no) := goodIn_app (goodIn_of _ (by decide +kernel)) ggX4_common_X4_no
theorem dX4_common_0 : decode cX4_common 0 = .ok (.aload_n 0, 1) := by decide +kernel
theorem dX4_common_1 : decode cX4_common 1 = .ok (.iconst 0, 1) := by decide +kernel
theorem dX4_common_2 : decode cX4_common 2 = .ok (.putfield 54, 3) := by decide +kernel
theorem dX4_common_5 : decode cX4_common 5 = .ok (.aload_n 0, 1) := by decide +kernel
theorem dX4_common_6 : decode cX4_common 6 = .ok (.iload_n 1, 1) := by decide +kernel
theorem dX4_common_7 : decode cX4_common 7 = .ok (.invokevirtual 67, 3) := by decide +kernel
theorem dX4_common_10 : decode cX4_common 10 = .ok (.ifCond .eq 20, 3) := by decide +kernel
theorem dX4_common_13 : decode cX4_common 13 = .ok (.aload_n 0, 1) := by decide +kernel
theorem dX4_common_14 : decode cX4_common 14 = .ok (.iload_n 2, 1) := by decide +kernel
theorem dX4_common_15 : decode cX4_common 15 = .ok (.invokevirtual 67, 3) := by decide +kernel
theorem dX4_common_18 : decode cX4_common 18 = .ok (.ifCond .eq 12, 3) := by decide +kernel
theorem dX4_common_21 : decode cX4_common 21 = .ok (.aload_n 0, 1) := by decide +kernel
theorem dX4_common_22 : decode cX4_common 22 = .ok (.iload_n 1, 1) := by decide +kernel
theorem dX4_common_23 : decode cX4_common 23 = .ok (.iload_n 2, 1) := by decide +kernel
theorem dX4_common_24 : decode cX4_common 24 = .ok (.invokevirtual 79, 3) := by decide +kernel
theorem dX4_common_27 : decode cX4_common 27 = .ok (.goto 8, 3) := by decide +kernel
theorem dX4_common_30 : decode cX4_common 30 = .ok (.aload_n 0, 1) := by decide +kernel
theorem dX4_common_31 : decode cX4_common 31 = .ok (.iconst 1, 1) := by decide +kernel
theorem dX4_common_32 : decode cX4_common 32 = .ok (.invokevirtual 71, 3) := by decide +kernel
theorem dX4_common_35 : decode cX4_common 35 = .ok (.ireturn, 1) := by decide +kernel
set_option maxRecDepth 20000 in
theorem ggX4_append_X4_no : GoodIn wsX4_append wsX4_no := goodIn_r _ [9, 10, 11, 12, 13, 14, 15, 16, 17, 18, 19, 20, 21, 22, 23, 24, 25, 26, 27, 28, 29, 30] (by decide +kernel) (by decide +kernel)
set_option maxRecDepth 20000 in
theorem gX4_append_X4_no : GoodIn wsX4_append (wsV RX4 71 RX4 yX4_no wsX4_no) := goodIn_app (goodIn_of _ (by decide +kernel)) ggX4_append_X4_no
theorem dX4_append_0 : decode cX4_append 0 = .ok (.aload_n 0, 1) := by decide +kernel
theorem dX4_append_1 : decode cX4_append 1 = .ok (.getfield 61, 3) := by decide +kernel
theorem dX4_append_4 : decode cX4_append 4 = .ok (.bipush 48, 2) := by decide +kernel
theorem dX4_append_6 : decode cX4_append 6 = .ok (.if_icmp .ne 10, 3) := by decide +kernel
theorem dX4_append_9 : decode cX4_append 9 = .ok (.aload_n 0, 1) := by decide +kernel
theorem dX4_append_10 : decode cX4_append 10 = .ok (.iload 4, 2) := by decide +kernel
theorem dX4_append_12 : decode cX4_append 12 = .ok (.invokevirtual 71, 3) := by decide +kernel
theorem dX4_append_15 : decode cX4_append 15 = .ok (.ireturn, 1) := by decide +kernel
theorem dX4_append_16 : decode cX4_append 16 = .ok (.aload_n 0, 1) := by decide +kernel
theorem dX4_append_17 : decode cX4_append 17 = .ok (.getfield 17, 3) := by decide +kernel
theorem dX4_append_20 : decode cX4_append 20 = .ok (.aload_n 0, 1) := by decide +kernel
theorem dX4_append_21 : decode cX4_append 21 = .ok (.getfield 61, 3) := by decide +kernel
theorem dX4_append_24 : decode cX4_append 24 = .ok (.iload_n 1, 1) := by decide +kernel
theorem dX4_append_25 : decode cX4_append 25 = .ok (.iastore, 1) := by decide +kernel
theorem dX4_append_26 : decode cX4_append 26 = .ok (.aload_n 0, 1) := by decide +kernel
theorem dX4_append_27 : decode cX4_append 27 = .ok (.getfield 20, 3) := by decide +kernel
theorem dX4_append_30 : decode cX4_append 30 = .ok (.aload_n 0, 1) := by decide +kernel
theorem dX4_append_31 : decode cX4_append 31 = .ok (.getfield 61, 3) := by decide +kernel
theorem dX4_append_34 : decode cX4_append 34 = .ok (.iload_n 2, 1) := by decide +kernel
theorem dX4_append_35 : decode cX4_append 35 = .ok (.iastore, 1) := by decide +kernel
theorem dX4_append_36 : decode cX4_append 36 = .ok (.aload_n 0, 1) := by decide +kernel
theorem dX4_append_37 : decode cX4_append 37 = .ok (.getfield 23, 3) := by decide +kernel
theorem dX4_append_40 : decode cX4_append 40 = .ok (.aload_n 0, 1) := by decide +kernel
theorem dX4_append_41 : decode cX4_append 41 = .ok (.getfield 61, 3) := by decide +kernel
theorem dX4_append_44 : decode cX4_append 44 = .ok (.iload_n 3, 1) := by decide +kernel
theorem dX4_append_45 : decode cX4_append 45 = .ok (.iastore, 1) := by decide +kernel
theorem dX4_append_46 : decode cX4_append 46 = .ok (.aload_n 0, 1) := by decide +kernel
theorem dX4_append_47 : decode cX4_append 47 = .ok (.dup, 1) := by decide +kernel
theorem dX4_append_48 : decode cX4_append 48 = .ok (.getfield 61, 3) := by decide +kernel
theorem dX4_append_51 : decode cX4_append 51 = .ok (.iconst 1, 1) := by decide +kernel
theorem dX4_append_52 : decode cX4_append 52 = .ok (.iadd, 1) := by decide +kernel
theorem dX4_append_53 : decode cX4_append 53 = .ok (.putfield 61, 3) := by decide +kernel
theorem dX4_append_56 : decode cX4_append 56 = .ok (.aload_n 0, 1) := by decide +kernel
theorem dX4_append_57 : decode cX4_append 57 = .ok (.getfield 61, 3) := by decide +kernel
theorem dX4_append_60 : decode cX4_append 60 = .ok (.iconst 1, 1) := by decide +kernel
theorem dX4_append_61 : decode cX4_append 61 = .ok (.isub, 1) := by decide +kernel
theorem dX4_append_62 : decode cX4_append 62 = .ok (.ireturn, 1) := by decide +kernel
set_option maxRecDepth 20000 in
theorem ggX4_step_X4_areKinds : GoodIn wsX4_step wsX4_areKinds := goodIn_r _ [6, 7, 20, 21, 22, 23, 24, 25, 26, 27, 28, 29, 30, 31, 32, 33, 34, 35, 36, 37, 38, 39] (by decide +kernel) (by decide +kernel)
set_option maxRecDepth 20000 in
theorem gX4_step_X4_areKinds : GoodIn wsX4_step (wsV RX4 83 RX4 yX4_areKinds wsX4_areKinds) := goodIn_app (goodIn_of _ (by decide +kernel)) ggX4_step_X4_areKinds
set_option maxRecDepth 20000 in
theorem ggX4_step_X4_append : GoodIn wsX4_step wsX4_append := goodIn_r _ [11, 12, 13, 14, 15, 16, 17, 18, 5, 19, 1, 20, 21, 22, 23, 24, 25, 26, 27, 28, 29, 30, 31, 32, 33, 34, 35, 36, 37, 38, 39] (by decide +kernel) (by decide +kernel)
set_option maxRecDepth 20000 in
theorem gX4_step_X4_append : GoodIn wsX4_step (wsV RX4 86 RX4 yX4_append wsX4_append) := goodIn_app (goodIn_of _ (by decide +kernel)) ggX4_step_X4_append
set_option maxRecDepth 20000 in
theorem ggX4_step_X4_no : GoodIn wsX4_step wsX4_no := goodIn_r _ [19, 1, 20, 21, 22, 23, 24, 25, 26, 27, 28, 29, 30, 31, 32, 33, 34, 35, 36, 37, 38, 39] (by decide +kernel) (by decide +kernel)
set_option maxRecDepth 20000 in
theorem gX4_step_X4_no : GoodIn wsX4_step (wsV RX4 71 RX4 yX4_no wsX4_no) := goodIn_app (goodIn_of _ (by decide +kernel)) ggX4_step_X4_no
theorem dX4_step_0 : decode cX4_step 0 = .ok (.aload_n 0, 1) := by decide +kernel
theorem dX4_step_1 : decode cX4_step 1 = .ok (.iconst 0, 1) := by decide +kernel
theorem dX4_step_2 : decode cX4_step 2 = .ok (.putfield 54, 3) := by decide +kernel
theorem dX4_step_5 : decode cX4_step 5 = .ok (.aload_n 0, 1) := by decide +kernel
theorem dX4_step_6 : decode cX4_step 6 = .ok (.iload_n 1, 1) := by decide +kernel
theorem dX4_step_7 : decode cX4_step 7 = .ok (.invokevirtual 83, 3) := by decide +kernel
theorem dX4_step_10 : decode cX4_step 10 = .ok (.ifCond .eq 14, 3) := by decide +kernel
theorem dX4_step_13 : decode cX4_step 13 = .ok (.aload_n 0, 1) := by decide +kernel
theorem dX4_step_14 : decode cX4_step 14 = .ok (.iconst 0, 1) := by decide +kernel
theorem dX4_step_15 : decode cX4_step 15 = .ok (.iload_n 1, 1) := by decide +kernel
theorem dX4_step_16 : decode cX4_step 16 = .ok (.iconst (-1), 1) := by decide +kernel
theorem dX4_step_17 : decode cX4_step 17 = .ok (.iconst 2, 1) := by decide +kernel
theorem dX4_step_18 : decode cX4_step 18 = .ok (.invokevirtual 86, 3) := by decide +kernel
theorem dX4_step_21 : decode cX4_step 21 = .ok (.goto 8, 3) := by decide +kernel
theorem dX4_step_24 : decode cX4_step 24 = .ok (.aload_n 0, 1) := by decide +kernel
theorem dX4_step_25 : decode cX4_step 25 = .ok (.iconst 1, 1) := by decide +kernel
theorem dX4_step_26 : decode cX4_step 26 = .ok (.invokevirtual 71, 3) := by decide +kernel
theorem dX4_step_29 : decode cX4_step 29 = .ok (.ireturn, 1) := by decide +kernel
set_option maxRecDepth 20000 in
theorem ggX4_jump_X4_isTarget : GoodIn wsX4_jump wsX4_isTarget := goodIn_r _ [5, 6, 7, 4, 8] (by decide +kernel) (by decide +kernel)
set_option maxRecDepth 20000 in
theorem gX4_jump_X4_isTarget : GoodIn wsX4_jump (va_wsS RX4 90 yX4_isTarget wsX4_isTarget) := goodIn_app (goodIn_of _ (by decide +kernel)) ggX4_jump_X4_isTarget
set_option maxRecDepth 20000 in
theorem ggX4_jump_X4_append : GoodIn wsX4_jump wsX4_append := goodIn_r _ [12, 13, 14, 15, 16, 17, 18, 19, 4, 20, 1, 21, 22, 23, 24, 25, 26, 27, 28, 29, 30, 31, 32, 33, 34, 35, 36, 37, 38, 39, 40] (by decide +kernel) (by decide +kernel)
set_option maxRecDepth 20000 in
theorem gX4_jump_X4_append : GoodIn wsX4_jump (wsV RX4 86 RX4 yX4_append wsX4_append) := goodIn_app (goodIn_of _ (by decide +kernel)) ggX4_jump_X4_append
set_option maxRecDepth 20000 in
theorem ggX4_jump_X4_no : GoodIn wsX4_jump wsX4_no := goodIn_r _ [20, 1, 21, 22, 23, 24, 25, 26, 27, 28, 29, 30, 31, 32, 33, 34, 35, 36, 37, 38, 39, 40] (by decide +kernel) (by decide +kernel)
set_option maxRecDepth 20000 in
theorem gX4_jump_X4_no : GoodIn wsX4_jump (wsV RX4 71 RX4 yX4_no wsX4_no) := goodIn_app (goodIn_of _ (by decide +kernel)) ggX4_jump_X4_no
theorem dX4_jump_0 : decode cX4_jump 0 = .ok (.aload_n 0, 1) := by decide +kernel
theorem dX4_jump_1 : decode cX4_jump 1 = .ok (.iconst 0, 1) := by decide +kernel
theorem dX4_jump_2 : decode cX4_jump 2 = .ok (.putfield 54, 3) := by decide +kernel
theorem dX4_jump_5 : decode cX4_jump 5 = .ok (.iload_n 1, 1) := by decide +kernel
theorem dX4_jump_6 : decode cX4_jump 6 = .ok (.invokestatic 90, 3) := by decide +kernel
theorem dX4_jump_9 : decode cX4_jump 9 = .ok (.ifCond .eq 14, 3) := by decide +kernel
theorem dX4_jump_12 : decode cX4_jump 12 = .ok (.aload_n 0, 1) := by decide +kernel
theorem dX4_jump_13 : decode cX4_jump 13 = .ok (.iconst 1, 1) := by decide +kernel
theorem dX4_jump_14 : decode cX4_jump 14 = .ok (.iconst 0, 1) := by decide +kernel
theorem dX4_jump_15 : decode cX4_jump 15 = .ok (.iload_n 1, 1) := by decide +kernel
theorem dX4_jump_16 : decode cX4_jump 16 = .ok (.iconst 2, 1) := by decide +kernel
theorem dX4_jump_17 : decode cX4_jump 17 = .ok (.invokevirtual 86, 3) := by decide +kernel
theorem dX4_jump_20 : decode cX4_jump 20 = .ok (.goto 8, 3) := by decide +kernel
theorem dX4_jump_23 : decode cX4_jump 23 = .ok (.aload_n 0, 1) := by decide +kernel
theorem dX4_jump_24 : decode cX4_jump 24 = .ok (.iconst 1, 1) := by decide +kernel
theorem dX4_jump_25 : decode cX4_jump 25 = .ok (.invokevirtual 71, 3) := by decide +kernel
theorem dX4_jump_28 : decode cX4_jump 28 = .ok (.ireturn, 1) := by decide +kernel
set_option maxRecDepth 20000 in
theorem ggX4_branch_X4_areKinds : GoodIn wsX4_branch wsX4_areKinds := goodIn_r _ [6, 7, 26, 27, 28, 29, 30, 31, 32, 33, 34, 35, 36, 37, 38, 39, 40, 41, 42, 43, 44, 45] (by decide +kernel) (by decide +kernel)
set_option maxRecDepth 20000 in
theorem gX4_branch_X4_areKinds : GoodIn wsX4_branch (wsV RX4 83 RX4 yX4_areKinds wsX4_areKinds) := goodIn_app (goodIn_of _ (by decide +kernel)) ggX4_branch_X4_areKinds
set_option maxRecDepth 20000 in
theorem ggX4_branch_X4_isTarget : GoodIn wsX4_branch wsX4_isTarget := goodIn_r _ [10, 11, 12, 5, 13] (by decide +kernel) (by decide +kernel)
set_option maxRecDepth 20000 in
theorem gX4_branch_X4_isTarget : GoodIn wsX4_branch (va_wsS RX4 90 yX4_isTarget wsX4_isTarget) := goodIn_app (goodIn_of _ (by decide +kernel)) ggX4_branch_X4_isTarget
set_option maxRecDepth 20000 in
theorem ggX4_branch_X4_append : GoodIn wsX4_branch wsX4_append := goodIn_r _ [17, 18, 19, 20, 21, 22, 23, 24, 5, 25, 1, 26, 27, 28, 29, 30, 31, 32, 33, 34, 35, 36, 37, 38, 39, 40, 41, 42, 43, 44, 45] (by decide +kernel) (by decide +kernel)
set_option maxRecDepth 20000 in
theorem gX4_branch_X4_append : GoodIn wsX4_branch (wsV RX4 86 RX4 yX4_append wsX4_append) := goodIn_app (goodIn_of _ (by decide +kernel)) ggX4_branch_X4_append
set_option maxRecDepth 20000 in
theorem ggX4_branch_X4_no : GoodIn wsX4_branch wsX4_no := goodIn_r _ [25, 1, 26, 27, 28, 29, 30, 31, 32, 33, 34, 35, 36, 37, 38, 39, 40, 41, 42, 43, 44, 45] (by decide +kernel) (by decide +kernel)
set_option maxRecDepth 20000 in
theorem gX4_branch_X4_no : GoodIn wsX4_branch (wsV RX4 71 RX4 yX4_no wsX4_no) := goodIn_app (goodIn_of _ (by decide +kernel)) ggX4_branch_X4_no
theorem dX4_branch_0 : decode cX4_branch 0 = .ok (.aload_n 0, 1) := by decide +kernel
theorem dX4_branch_1 : decode cX4_branch 1 = .ok (.iconst 0, 1) := by decide +kernel
theorem dX4_branch_2 : decode cX4_branch 2 = .ok (.putfield 54, 3) := by decide +kernel
theorem dX4_branch_5 : decode cX4_branch 5 = .ok (.aload_n 0, 1) := by decide +kernel
theorem dX4_branch_6 : decode cX4_branch 6 = .ok (.iload_n 1, 1) := by decide +kernel
theorem dX4_branch_7 : decode cX4_branch 7 = .ok (.invokevirtual 83, 3) := by decide +kernel
theorem dX4_branch_10 : decode cX4_branch 10 = .ok (.ifCond .eq 21, 3) := by decide +kernel
theorem dX4_branch_13 : decode cX4_branch 13 = .ok (.iload_n 2, 1) := by decide +kernel
theorem dX4_branch_14 : decode cX4_branch 14 = .ok (.invokestatic 90, 3) := by decide +kernel
theorem dX4_branch_17 : decode cX4_branch 17 = .ok (.ifCond .eq 14, 3) := by decide +kernel
theorem dX4_branch_20 : decode cX4_branch 20 = .ok (.aload_n 0, 1) := by decide +kernel
theorem dX4_branch_21 : decode cX4_branch 21 = .ok (.iconst 2, 1) := by decide +kernel
theorem dX4_branch_22 : decode cX4_branch 22 = .ok (.iload_n 1, 1) := by decide +kernel
theorem dX4_branch_23 : decode cX4_branch 23 = .ok (.iload_n 2, 1) := by decide +kernel
theorem dX4_branch_24 : decode cX4_branch 24 = .ok (.iconst 2, 1) := by decide +kernel
theorem dX4_branch_25 : decode cX4_branch 25 = .ok (.invokevirtual 86, 3) := by decide +kernel
theorem dX4_branch_28 : decode cX4_branch 28 = .ok (.goto 8, 3) := by decide +kernel
theorem dX4_branch_31 : decode cX4_branch 31 = .ok (.aload_n 0, 1) := by decide +kernel
theorem dX4_branch_32 : decode cX4_branch 32 = .ok (.iconst 1, 1) := by decide +kernel
theorem dX4_branch_33 : decode cX4_branch 33 = .ok (.invokevirtual 71, 3) := by decide +kernel
theorem dX4_branch_36 : decode cX4_branch 36 = .ok (.ireturn, 1) := by decide +kernel
set_option maxRecDepth 20000 in
theorem ggX4_end_X4_append : GoodIn wsX4_end wsX4_append := goodIn_r _ [6, 7, 8, 9, 10, 11, 12, 13, 5, 14, 1, 15, 16, 17, 18, 19, 20, 21, 22, 23, 24, 25, 26, 27, 28, 29, 30, 31, 32, 33, 34] (by decide +kernel) (by decide +kernel)
set_option maxRecDepth 20000 in
theorem gX4_end_X4_append : GoodIn wsX4_end (wsV RX4 86 RX4 yX4_append wsX4_append) := goodIn_app (goodIn_of _ (by decide +kernel)) ggX4_end_X4_append
theorem dX4_end_0 : decode cX4_end 0 = .ok (.aload_n 0, 1) := by decide +kernel
theorem dX4_end_1 : decode cX4_end 1 = .ok (.iconst 0, 1) := by decide +kernel
theorem dX4_end_2 : decode cX4_end 2 = .ok (.putfield 54, 3) := by decide +kernel
theorem dX4_end_5 : decode cX4_end 5 = .ok (.aload_n 0, 1) := by decide +kernel
theorem dX4_end_6 : decode cX4_end 6 = .ok (.iconst 3, 1) := by decide +kernel
theorem dX4_end_7 : decode cX4_end 7 = .ok (.iconst 0, 1) := by decide +kernel
theorem dX4_end_8 : decode cX4_end 8 = .ok (.iconst (-1), 1) := by decide +kernel
theorem dX4_end_9 : decode cX4_end 9 = .ok (.iconst 1, 1) := by decide +kernel
theorem dX4_end_10 : decode cX4_end 10 = .ok (.invokevirtual 86, 3) := by decide +kernel
theorem dX4_end_13 : decode cX4_end 13 = .ok (.ireturn, 1) := by decide +kernel
set_option maxRecDepth 20000 in
theorem ggX4_raise_X4_isKind : GoodIn wsX4_raise wsX4_isKind := goodIn_r _ [6, 7, 8, 9, 5, 10, 23, 24, 25, 26, 27, 28, 29, 30, 31, 32, 33, 34, 35, 36, 37, 38, 39, 40, 41, 42] (by decide +kernel) (by decide +kernel)
set_option maxRecDepth 20000 in
theorem gX4_raise_X4_isKind : GoodIn wsX4_raise (wsV RX4 67 RX4 yX4_isKind wsX4_isKind) := goodIn_app (goodIn_of _ (by decide +kernel)) ggX4_raise_X4_isKind
set_option maxRecDepth 20000 in
theorem ggX4_raise_X4_append : GoodIn wsX4_raise wsX4_append := goodIn_r _ [14, 15, 16, 17, 18, 19, 20, 21, 5, 22, 1, 23, 24, 25, 26, 27, 28, 29, 30, 31, 32, 33, 34, 35, 36, 37, 38, 39, 40, 41, 42] (by decide +kernel) (by decide +kernel)
set_option maxRecDepth 20000 in
theorem gX4_raise_X4_append : GoodIn wsX4_raise (wsV RX4 86 RX4 yX4_append wsX4_append) := goodIn_app (goodIn_of _ (by decide +kernel)) ggX4_raise_X4_append
set_option maxRecDepth 20000 in
theorem ggX4_raise_X4_no : GoodIn wsX4_raise wsX4_no := goodIn_r _ [22, 1, 23, 24, 25, 26, 27, 28, 29, 30, 31, 32, 33, 34, 35, 36, 37, 38, 39, 40, 41, 42] (by decide +kernel) (by decide +kernel)
set_option maxRecDepth 20000 in
theorem gX4_raise_X4_no : GoodIn wsX4_raise (wsV RX4 71 RX4 yX4_no wsX4_no) := goodIn_app (goodIn_of _ (by decide +kernel)) ggX4_raise_X4_no
theorem dX4_raise_0 : decode cX4_raise 0 = .ok (.aload_n 0, 1) := by decide +kernel
theorem dX4_raise_1 : decode cX4_raise 1 = .ok (.iconst 0, 1) := by decide +kernel
theorem dX4_raise_2 : decode cX4_raise 2 = .ok (.putfield 54, 3) := by decide +kernel
theorem dX4_raise_5 : decode cX4_raise 5 = .ok (.aload_n 0, 1) := by decide +kernel
theorem dX4_raise_6 : decode cX4_raise 6 = .ok (.iload_n 1, 1) := by decide +kernel
theorem dX4_raise_7 : decode cX4_raise 7 = .ok (.invokevirtual 67, 3) := by decide +kernel
theorem dX4_raise_10 : decode cX4_raise 10 = .ok (.ifCond .eq 16, 3) := by decide +kernel
theorem dX4_raise_13 : decode cX4_raise 13 = .ok (.aload_n 0, 1) := by decide +kernel
theorem dX4_raise_14 : decode cX4_raise 14 = .ok (.iconst 4, 1) := by decide +kernel
theorem dX4_raise_15 : decode cX4_raise 15 = .ok (.iconst 1, 1) := by decide +kernel
theorem dX4_raise_16 : decode cX4_raise 16 = .ok (.iload_n 1, 1) := by decide +kernel
theorem dX4_raise_17 : decode cX4_raise 17 = .ok (.ishl, 1) := by decide +kernel
theorem dX4_raise_18 : decode cX4_raise 18 = .ok (.iconst (-1), 1) := by decide +kernel
theorem dX4_raise_19 : decode cX4_raise 19 = .ok (.iconst 2, 1) := by decide +kernel
theorem dX4_raise_20 : decode cX4_raise 20 = .ok (.invokevirtual 86, 3) := by decide +kernel
theorem dX4_raise_23 : decode cX4_raise 23 = .ok (.goto 8, 3) := by decide +kernel
theorem dX4_raise_26 : decode cX4_raise 26 = .ok (.aload_n 0, 1) := by decide +kernel
theorem dX4_raise_27 : decode cX4_raise 27 = .ok (.iconst 1, 1) := by decide +kernel
theorem dX4_raise_28 : decode cX4_raise 28 = .ok (.invokevirtual 71, 3) := by decide +kernel
theorem dX4_raise_31 : decode cX4_raise 31 = .ok (.ireturn, 1) := by decide +kernel
theorem dX4_size_0 : decode cX4_size 0 = .ok (.aload_n 0, 1) := by decide +kernel
theorem dX4_size_1 : decode cX4_size 1 = .ok (.iconst 0, 1) := by decide +kernel
theorem dX4_size_2 : decode cX4_size 2 = .ok (.putfield 54, 3) := by decide +kernel
theorem dX4_size_5 : decode cX4_size 5 = .ok (.aload_n 0, 1) := by decide +kernel
theorem dX4_size_6 : decode cX4_size 6 = .ok (.getfield 61, 3) := by decide +kernel
theorem dX4_size_9 : decode cX4_size 9 = .ok (.ireturn, 1) := by decide +kernel
set_option maxRecDepth 20000 in
theorem ggX4_instruction_X4_isInstruction : GoodIn wsX4_instruction wsX4_isInstruction := goodIn_r _ [9, 10, 11, 12, 8, 13, 18, 19, 20, 21, 22, 23, 24, 25, 26, 27, 28, 29, 30, 31, 32, 33, 34, 35, 36, 37] (by decide +kernel) (by decide +kernel)
set_option maxRecDepth 20000 in
theorem gX4_instruction_X4_isInstruction : GoodIn wsX4_instruction (wsV RX4 93 RX4 yX4_isInstruction wsX4_isInstruction) := goodIn_app (goodIn_of _ (by decide +kernel)) ggX4_instruction_X4_isInstruction
set_option maxRecDepth 20000 in
theorem ggX4_instruction_X4_isIn : GoodIn wsX4_instruction wsX4_isIn := goodIn_r _ [13] (by decide +kernel) (by decide +kernel)
set_option maxRecDepth 20000 in
theorem gX4_instruction_X4_isIn : GoodIn wsX4_instruction (va_wsS RX4 57 yX4_isIn wsX4_isIn) := goodIn_app (goodIn_of _ (by decide +kernel)) ggX4_instruction_X4_isIn
set_option maxRecDepth 20000 in
theorem ggX4_instruction_X4_no : GoodIn wsX4_instruction wsX4_no := goodIn_r _ [17, 1, 18, 19, 20, 21, 22, 23, 24, 25, 26, 27, 28, 29, 30, 31, 32, 33, 34, 35, 36, 37] (by decide +kernel) (by decide +kernel)
set_option maxRecDepth 20000 in
theorem gX4_instruction_X4_no : GoodIn wsX4_instruction (wsV RX4 71 RX4 yX4_no wsX4_no) := goodIn_app (goodIn_of _ (by decide +kernel)) ggX4_instruction_X4_no
theorem dX4_instruction_0 : decode cX4_instruction 0 = .ok (.aload_n 0, 1) := by decide +kernel
theorem dX4_instruction_1 : decode cX4_instruction 1 = .ok (.iconst 0, 1) := by decide +kernel
theorem dX4_instruction_2 : decode cX4_instruction 2 = .ok (.putfield 54, 3) := by decide +kernel
theorem dX4_instruction_5 : decode cX4_instruction 5 = .ok (.aload_n 0, 1) := by decide +kernel
theorem dX4_instruction_6 : decode cX4_instruction 6 = .ok (.iload_n 1, 1) := by decide +kernel
theorem dX4_instruction_7 : decode cX4_instruction 7 = .ok (.invokevirtual 93, 3) := by decide +kernel
theorem dX4_instruction_10 : decode cX4_instruction 10 = .ok (.ifCond .eq 12, 3) := by decide +kernel
theorem dX4_instruction_13 : decode cX4_instruction 13 = .ok (.iload_n 2, 1) := by decide +kernel
theorem dX4_instruction_14 : decode cX4_instruction 14 = .ok (.iconst 0, 1) := by decide +kernel
theorem dX4_instruction_15 : decode cX4_instruction 15 = .ok (.iconst 2, 1) := by decide +kernel
theorem dX4_instruction_16 : decode cX4_instruction 16 = .ok (.invokestatic 57, 3) := by decide +kernel
theorem dX4_instruction_19 : decode cX4_instruction 19 = .ok (.ifCond .ne 9, 3) := by decide +kernel
theorem dX4_instruction_22 : decode cX4_instruction 22 = .ok (.aload_n 0, 1) := by decide +kernel
theorem dX4_instruction_23 : decode cX4_instruction 23 = .ok (.iconst 1, 1) := by decide +kernel
theorem dX4_instruction_24 : decode cX4_instruction 24 = .ok (.invokevirtual 71, 3) := by decide +kernel
theorem dX4_instruction_27 : decode cX4_instruction 27 = .ok (.ireturn, 1) := by decide +kernel
theorem dX4_instruction_28 : decode cX4_instruction 28 = .ok (.iload_n 2, 1) := by decide +kernel
theorem dX4_instruction_29 : decode cX4_instruction 29 = .ok (.ifCond .ne 12, 3) := by decide +kernel
theorem dX4_instruction_32 : decode cX4_instruction 32 = .ok (.aload_n 0, 1) := by decide +kernel
theorem dX4_instruction_33 : decode cX4_instruction 33 = .ok (.getfield 17, 3) := by decide +kernel
theorem dX4_instruction_36 : decode cX4_instruction 36 = .ok (.iload_n 1, 1) := by decide +kernel
theorem dX4_instruction_37 : decode cX4_instruction 37 = .ok (.iaload, 1) := by decide +kernel
theorem dX4_instruction_38 : decode cX4_instruction 38 = .ok (.goto 23, 3) := by decide +kernel
theorem dX4_instruction_41 : decode cX4_instruction 41 = .ok (.iload_n 2, 1) := by decide +kernel
theorem dX4_instruction_42 : decode cX4_instruction 42 = .ok (.iconst 1, 1) := by decide +kernel
theorem dX4_instruction_43 : decode cX4_instruction 43 = .ok (.if_icmp .ne 12, 3) := by decide +kernel
theorem dX4_instruction_46 : decode cX4_instruction 46 = .ok (.aload_n 0, 1) := by decide +kernel
theorem dX4_instruction_47 : decode cX4_instruction 47 = .ok (.getfield 20, 3) := by decide +kernel
theorem dX4_instruction_50 : decode cX4_instruction 50 = .ok (.iload_n 1, 1) := by decide +kernel
theorem dX4_instruction_51 : decode cX4_instruction 51 = .ok (.iaload, 1) := by decide +kernel
theorem dX4_instruction_52 : decode cX4_instruction 52 = .ok (.goto 9, 3) := by decide +kernel
theorem dX4_instruction_55 : decode cX4_instruction 55 = .ok (.aload_n 0, 1) := by decide +kernel
theorem dX4_instruction_56 : decode cX4_instruction 56 = .ok (.getfield 23, 3) := by decide +kernel
theorem dX4_instruction_59 : decode cX4_instruction 59 = .ok (.iload_n 1, 1) := by decide +kernel
theorem dX4_instruction_60 : decode cX4_instruction 60 = .ok (.iaload, 1) := by decide +kernel
theorem dX4_instruction_61 : decode cX4_instruction 61 = .ok (.ireturn, 1) := by decide +kernel
theorem dX4_put_0 : decode cX4_put 0 = .ok (.aload_n 0, 1) := by decide +kernel
theorem dX4_put_1 : decode cX4_put 1 = .ok (.getfield 26, 3) := by decide +kernel
theorem dX4_put_4 : decode cX4_put 4 = .ok (.iload_n 1, 1) := by decide +kernel
theorem dX4_put_5 : decode cX4_put 5 = .ok (.iload_n 2, 1) := by decide +kernel
theorem dX4_put_6 : decode cX4_put 6 = .ok (.iastore, 1) := by decide +kernel
theorem dX4_put_7 : decode cX4_put 7 = .ok (.aload_n 0, 1) := by decide +kernel
theorem dX4_put_8 : decode cX4_put 8 = .ok (.getfield 29, 3) := by decide +kernel
theorem dX4_put_11 : decode cX4_put 11 = .ok (.iload_n 1, 1) := by decide +kernel
theorem dX4_put_12 : decode cX4_put 12 = .ok (.iload_n 3, 1) := by decide +kernel
theorem dX4_put_13 : decode cX4_put 13 = .ok (.iastore, 1) := by decide +kernel
theorem dX4_put_14 : decode cX4_put 14 = .ok (.aload_n 0, 1) := by decide +kernel
theorem dX4_put_15 : decode cX4_put 15 = .ok (.getfield 32, 3) := by decide +kernel
theorem dX4_put_18 : decode cX4_put 18 = .ok (.iload_n 1, 1) := by decide +kernel
theorem dX4_put_19 : decode cX4_put 19 = .ok (.iload 4, 2) := by decide +kernel
theorem dX4_put_21 : decode cX4_put 21 = .ok (.iastore, 1) := by decide +kernel
theorem dX4_put_22 : decode cX4_put 22 = .ok (.aload_n 0, 1) := by decide +kernel
theorem dX4_put_23 : decode cX4_put 23 = .ok (.getfield 35, 3) := by decide +kernel
theorem dX4_put_26 : decode cX4_put 26 = .ok (.iload_n 1, 1) := by decide +kernel
theorem dX4_put_27 : decode cX4_put 27 = .ok (.iload 5, 2) := by decide +kernel
theorem dX4_put_29 : decode cX4_put 29 = .ok (.iastore, 1) := by decide +kernel
theorem dX4_put_30 : decode cX4_put 30 = .ok (.return_, 1) := by decide +kernel
set_option maxRecDepth 20000 in
theorem ggX4_addEntry_X4_isKind : GoodIn wsX4_addEntry wsX4_isKind := goodIn_r _ [7, 8, 9, 10, 6, 11, 27, 28, 29, 30, 31, 32, 33, 34, 35, 36, 37, 38, 39, 40, 41, 42, 43, 44, 45, 46] (by decide +kernel) (by decide +kernel)
set_option maxRecDepth 20000 in
theorem gX4_addEntry_X4_isKind : GoodIn wsX4_addEntry (wsV RX4 67 RX4 yX4_isKind wsX4_isKind) := goodIn_app (goodIn_of _ (by decide +kernel)) ggX4_addEntry_X4_isKind
set_option maxRecDepth 20000 in
theorem ggX4_addEntry_X4_no : GoodIn wsX4_addEntry wsX4_no := goodIn_r _ [15, 1, 27, 28, 29, 30, 31, 32, 33, 34, 35, 36, 37, 38, 39, 40, 41, 42, 43, 44, 45, 46] (by decide +kernel) (by decide +kernel)
set_option maxRecDepth 20000 in
theorem gX4_addEntry_X4_no : GoodIn wsX4_addEntry (wsV RX4 71 RX4 yX4_no wsX4_no) := goodIn_app (goodIn_of _ (by decide +kernel)) ggX4_addEntry_X4_no
set_option maxRecDepth 20000 in
theorem ggX4_addEntry_X4_isTarget : GoodIn wsX4_addEntry wsX4_isTarget := goodIn_r _ [18, 9, 10, 6, 11] (by decide +kernel) (by decide +kernel)
set_option maxRecDepth 20000 in
theorem gX4_addEntry_X4_isTarget : GoodIn wsX4_addEntry (va_wsS RX4 90 yX4_isTarget wsX4_isTarget) := goodIn_app (goodIn_of _ (by decide +kernel)) ggX4_addEntry_X4_isTarget
set_option maxRecDepth 20000 in
theorem ggX4_addEntry_X4_put : GoodIn wsX4_addEntry wsX4_put := goodIn_r _ [22, 23, 24, 25, 26, 27, 28, 29, 30, 31, 32, 33, 34, 35, 36, 37, 38, 39, 40, 41, 42, 43, 44, 45, 46] (by decide +kernel) (by decide +kernel)
set_option maxRecDepth 20000 in
theorem gX4_addEntry_X4_put : GoodIn wsX4_addEntry (wsV RX4 96 RX4 yX4_put wsX4_put) := goodIn_app (goodIn_of _ (by decide +kernel)) ggX4_addEntry_X4_put
theorem dX4_addEntry_0 : decode cX4_addEntry 0 = .ok (.aload_n 0, 1) := by decide +kernel
theorem dX4_addEntry_1 : decode cX4_addEntry 1 = .ok (.iconst 0, 1) := by decide +kernel
theorem dX4_addEntry_2 : decode cX4_addEntry 2 = .ok (.putfield 54, 3) := by decide +kernel
theorem dX4_addEntry_5 : decode cX4_addEntry 5 = .ok (.aload_n 0, 1) := by decide +kernel
theorem dX4_addEntry_6 : decode cX4_addEntry 6 = .ok (.iload_n 3, 1) := by decide +kernel
theorem dX4_addEntry_7 : decode cX4_addEntry 7 = .ok (.invokevirtual 67, 3) := by decide +kernel
theorem dX4_addEntry_10 : decode cX4_addEntry 10 = .ok (.ifCond .ne 9, 3) := by decide +kernel
theorem dX4_addEntry_13 : decode cX4_addEntry 13 = .ok (.aload_n 0, 1) := by decide +kernel
theorem dX4_addEntry_14 : decode cX4_addEntry 14 = .ok (.iconst 1, 1) := by decide +kernel
theorem dX4_addEntry_15 : decode cX4_addEntry 15 = .ok (.invokevirtual 71, 3) := by decide +kernel
theorem dX4_addEntry_18 : decode cX4_addEntry 18 = .ok (.ireturn, 1) := by decide +kernel
theorem dX4_addEntry_19 : decode cX4_addEntry 19 = .ok (.iload_n 1, 1) := by decide +kernel
theorem dX4_addEntry_20 : decode cX4_addEntry 20 = .ok (.ifCond .lt 22, 3) := by decide +kernel
theorem dX4_addEntry_23 : decode cX4_addEntry 23 = .ok (.iload_n 2, 1) := by decide +kernel
theorem dX4_addEntry_24 : decode cX4_addEntry 24 = .ok (.bipush 48, 2) := by decide +kernel
theorem dX4_addEntry_26 : decode cX4_addEntry 26 = .ok (.if_icmp .gt 16, 3) := by decide +kernel
theorem dX4_addEntry_29 : decode cX4_addEntry 29 = .ok (.iload_n 1, 1) := by decide +kernel
theorem dX4_addEntry_30 : decode cX4_addEntry 30 = .ok (.iload_n 2, 1) := by decide +kernel
theorem dX4_addEntry_31 : decode cX4_addEntry 31 = .ok (.if_icmp .ge 11, 3) := by decide +kernel
theorem dX4_addEntry_34 : decode cX4_addEntry 34 = .ok (.iload 4, 2) := by decide +kernel
theorem dX4_addEntry_36 : decode cX4_addEntry 36 = .ok (.invokestatic 90, 3) := by decide +kernel
theorem dX4_addEntry_39 : decode cX4_addEntry 39 = .ok (.ifCond .ne 9, 3) := by decide +kernel
theorem dX4_addEntry_42 : decode cX4_addEntry 42 = .ok (.aload_n 0, 1) := by decide +kernel
theorem dX4_addEntry_43 : decode cX4_addEntry 43 = .ok (.iconst 2, 1) := by decide +kernel
theorem dX4_addEntry_44 : decode cX4_addEntry 44 = .ok (.invokevirtual 71, 3) := by decide +kernel
theorem dX4_addEntry_47 : decode cX4_addEntry 47 = .ok (.ireturn, 1) := by decide +kernel
theorem dX4_addEntry_48 : decode cX4_addEntry 48 = .ok (.aload_n 0, 1) := by decide +kernel
theorem dX4_addEntry_49 : decode cX4_addEntry 49 = .ok (.getfield 64, 3) := by decide +kernel
theorem dX4_addEntry_52 : decode cX4_addEntry 52 = .ok (.bipush 24, 2) := by decide +kernel
theorem dX4_addEntry_54 : decode cX4_addEntry 54 = .ok (.if_icmp .ne 9, 3) := by decide +kernel
theorem dX4_addEntry_57 : decode cX4_addEntry 57 = .ok (.aload_n 0, 1) := by decide +kernel
theorem dX4_addEntry_58 : decode cX4_addEntry 58 = .ok (.iconst 3, 1) := by decide +kernel
theorem dX4_addEntry_59 : decode cX4_addEntry 59 = .ok (.invokevirtual 71, 3) := by decide +kernel
theorem dX4_addEntry_62 : decode cX4_addEntry 62 = .ok (.ireturn, 1) := by decide +kernel
theorem dX4_addEntry_63 : decode cX4_addEntry 63 = .ok (.aload_n 0, 1) := by decide +kernel
theorem dX4_addEntry_64 : decode cX4_addEntry 64 = .ok (.aload_n 0, 1) := by decide +kernel
theorem dX4_addEntry_65 : decode cX4_addEntry 65 = .ok (.getfield 64, 3) := by decide +kernel
theorem dX4_addEntry_68 : decode cX4_addEntry 68 = .ok (.iload_n 1, 1) := by decide +kernel
theorem dX4_addEntry_69 : decode cX4_addEntry 69 = .ok (.iload_n 2, 1) := by decide +kernel
theorem dX4_addEntry_70 : decode cX4_addEntry 70 = .ok (.iload_n 3, 1) := by decide +kernel
theorem dX4_addEntry_71 : decode cX4_addEntry 71 = .ok (.iload 4, 2) := by decide +kernel
theorem dX4_addEntry_73 : decode cX4_addEntry 73 = .ok (.invokevirtual 96, 3) := by decide +kernel
theorem dX4_addEntry_76 : decode cX4_addEntry 76 = .ok (.aload_n 0, 1) := by decide +kernel
theorem dX4_addEntry_77 : decode cX4_addEntry 77 = .ok (.dup, 1) := by decide +kernel
theorem dX4_addEntry_78 : decode cX4_addEntry 78 = .ok (.getfield 64, 3) := by decide +kernel
theorem dX4_addEntry_81 : decode cX4_addEntry 81 = .ok (.iconst 1, 1) := by decide +kernel
theorem dX4_addEntry_82 : decode cX4_addEntry 82 = .ok (.iadd, 1) := by decide +kernel
theorem dX4_addEntry_83 : decode cX4_addEntry 83 = .ok (.putfield 64, 3) := by decide +kernel
theorem dX4_addEntry_86 : decode cX4_addEntry 86 = .ok (.aload_n 0, 1) := by decide +kernel
theorem dX4_addEntry_87 : decode cX4_addEntry 87 = .ok (.getfield 64, 3) := by decide +kernel
theorem dX4_addEntry_90 : decode cX4_addEntry 90 = .ok (.iconst 1, 1) := by decide +kernel
theorem dX4_addEntry_91 : decode cX4_addEntry 91 = .ok (.isub, 1) := by decide +kernel
theorem dX4_addEntry_92 : decode cX4_addEntry 92 = .ok (.ireturn, 1) := by decide +kernel
set_option maxRecDepth 20000 in
theorem ggX4_remove_X4_put : GoodIn wsX4_remove wsX4_put := goodIn_r _ [10, 2, 3, 4, 5, 11, 12, 13, 14, 15, 16, 17, 18, 19, 20, 21, 22, 23, 24, 25, 26, 27, 28, 29, 30] (by decide +kernel) (by decide +kernel)
set_option maxRecDepth 20000 in
theorem gX4_remove_X4_put : GoodIn wsX4_remove (wsV RX4 96 RX4 yX4_put wsX4_put) := goodIn_app (goodIn_of _ (by decide +kernel)) ggX4_remove_X4_put
theorem dX4_remove_0 : decode cX4_remove 0 = .ok (.iload_n 1, 1) := by decide +kernel
theorem dX4_remove_1 : decode cX4_remove 1 = .ok (.iconst 1, 1) := by decide +kernel
theorem dX4_remove_2 : decode cX4_remove 2 = .ok (.iadd, 1) := by decide +kernel
theorem dX4_remove_3 : decode cX4_remove 3 = .ok (.istore_n 2, 1) := by decide +kernel
theorem dX4_remove_4 : decode cX4_remove 4 = .ok (.iload_n 2, 1) := by decide +kernel
theorem dX4_remove_5 : decode cX4_remove 5 = .ok (.aload_n 0, 1) := by decide +kernel
theorem dX4_remove_6 : decode cX4_remove 6 = .ok (.getfield 64, 3) := by decide +kernel
theorem dX4_remove_9 : decode cX4_remove 9 = .ok (.if_icmp .ge 40, 3) := by decide +kernel
theorem dX4_remove_12 : decode cX4_remove 12 = .ok (.aload_n 0, 1) := by decide +kernel
theorem dX4_remove_13 : decode cX4_remove 13 = .ok (.iload_n 2, 1) := by decide +kernel
theorem dX4_remove_14 : decode cX4_remove 14 = .ok (.iconst 1, 1) := by decide +kernel
theorem dX4_remove_15 : decode cX4_remove 15 = .ok (.isub, 1) := by decide +kernel
theorem dX4_remove_16 : decode cX4_remove 16 = .ok (.aload_n 0, 1) := by decide +kernel
theorem dX4_remove_17 : decode cX4_remove 17 = .ok (.getfield 26, 3) := by decide +kernel
theorem dX4_remove_20 : decode cX4_remove 20 = .ok (.iload_n 2, 1) := by decide +kernel
theorem dX4_remove_21 : decode cX4_remove 21 = .ok (.iaload, 1) := by decide +kernel
theorem dX4_remove_22 : decode cX4_remove 22 = .ok (.aload_n 0, 1) := by decide +kernel
theorem dX4_remove_23 : decode cX4_remove 23 = .ok (.getfield 29, 3) := by decide +kernel
theorem dX4_remove_26 : decode cX4_remove 26 = .ok (.iload_n 2, 1) := by decide +kernel
theorem dX4_remove_27 : decode cX4_remove 27 = .ok (.iaload, 1) := by decide +kernel
theorem dX4_remove_28 : decode cX4_remove 28 = .ok (.aload_n 0, 1) := by decide +kernel
theorem dX4_remove_29 : decode cX4_remove 29 = .ok (.getfield 32, 3) := by decide +kernel
theorem dX4_remove_32 : decode cX4_remove 32 = .ok (.iload_n 2, 1) := by decide +kernel
theorem dX4_remove_33 : decode cX4_remove 33 = .ok (.iaload, 1) := by decide +kernel
theorem dX4_remove_34 : decode cX4_remove 34 = .ok (.aload_n 0, 1) := by decide +kernel
theorem dX4_remove_35 : decode cX4_remove 35 = .ok (.getfield 35, 3) := by decide +kernel
theorem dX4_remove_38 : decode cX4_remove 38 = .ok (.iload_n 2, 1) := by decide +kernel
theorem dX4_remove_39 : decode cX4_remove 39 = .ok (.iaload, 1) := by decide +kernel
theorem dX4_remove_40 : decode cX4_remove 40 = .ok (.invokevirtual 96, 3) := by decide +kernel
theorem dX4_remove_43 : decode cX4_remove 43 = .ok (.iinc 2 1, 3) := by decide +kernel
theorem dX4_remove_46 : decode cX4_remove 46 = .ok (.goto (-42), 3) := by decide +kernel
theorem dX4_remove_49 : decode cX4_remove 49 = .ok (.aload_n 0, 1) := by decide +kernel
theorem dX4_remove_50 : decode cX4_remove 50 = .ok (.dup, 1) := by decide +kernel
theorem dX4_remove_51 : decode cX4_remove 51 = .ok (.getfield 64, 3) := by decide +kernel
theorem dX4_remove_54 : decode cX4_remove 54 = .ok (.iconst 1, 1) := by decide +kernel
theorem dX4_remove_55 : decode cX4_remove 55 = .ok (.isub, 1) := by decide +kernel
theorem dX4_remove_56 : decode cX4_remove 56 = .ok (.putfield 64, 3) := by decide +kernel
theorem dX4_remove_59 : decode cX4_remove 59 = .ok (.return_, 1) := by decide +kernel
set_option maxRecDepth 20000 in
theorem ggX4_removeEntry_X4_isEntry : GoodIn wsX4_removeEntry wsX4_isEntry := goodIn_r _ [7, 2, 8, 9, 6, 10, 27, 28, 29, 30, 31, 32, 33, 34, 35, 36, 37, 38, 39, 40, 41, 42, 43, 44, 45, 46] (by decide +kernel) (by decide +kernel)
set_option maxRecDepth 20000 in
theorem gX4_removeEntry_X4_isEntry : GoodIn wsX4_removeEntry (wsV RX4 100 RX4 yX4_isEntry wsX4_isEntry) := goodIn_app (goodIn_of _ (by decide +kernel)) ggX4_removeEntry_X4_isEntry
set_option maxRecDepth 20000 in
theorem ggX4_removeEntry_X4_no : GoodIn wsX4_removeEntry wsX4_no := goodIn_r _ [14, 1, 27, 28, 29, 30, 31, 32, 33, 34, 35, 36, 37, 38, 39, 40, 41, 42, 43, 44, 45, 46] (by decide +kernel) (by decide +kernel)
set_option maxRecDepth 20000 in
theorem gX4_removeEntry_X4_no : GoodIn wsX4_removeEntry (wsV RX4 71 RX4 yX4_no wsX4_no) := goodIn_app (goodIn_of _ (by decide +kernel)) ggX4_removeEntry_X4_no
set_option maxRecDepth 20000 in
theorem ggX4_removeEntry_X4_remove : GoodIn wsX4_removeEntry wsX4_remove := goodIn_r _ [18, 2, 19, 20, 21, 22, 23, 24, 25, 6, 26, 27, 28, 29, 30, 31, 32, 33, 34, 35, 36, 37, 38, 39, 40, 41, 42, 43, 44, 45, 46] (by decide +kernel) (by decide +kernel)
set_option maxRecDepth 20000 in
theorem gX4_removeEntry_X4_remove : GoodIn wsX4_removeEntry (wsV RX4 103 RX4 yX4_remove wsX4_remove) := goodIn_app (goodIn_of _ (by decide +kernel)) ggX4_removeEntry_X4_remove
theorem dX4_removeEntry_0 : decode cX4_removeEntry 0 = .ok (.aload_n 0, 1) := by decide +kernel
theorem dX4_removeEntry_1 : decode cX4_removeEntry 1 = .ok (.iconst 0, 1) := by decide +kernel
theorem dX4_removeEntry_2 : decode cX4_removeEntry 2 = .ok (.putfield 54, 3) := by decide +kernel
theorem dX4_removeEntry_5 : decode cX4_removeEntry 5 = .ok (.aload_n 0, 1) := by decide +kernel
theorem dX4_removeEntry_6 : decode cX4_removeEntry 6 = .ok (.iload_n 1, 1) := by decide +kernel
theorem dX4_removeEntry_7 : decode cX4_removeEntry 7 = .ok (.invokevirtual 100, 3) := by decide +kernel
theorem dX4_removeEntry_10 : decode cX4_removeEntry 10 = .ok (.ifCond .ne 9, 3) := by decide +kernel
theorem dX4_removeEntry_13 : decode cX4_removeEntry 13 = .ok (.aload_n 0, 1) := by decide +kernel
theorem dX4_removeEntry_14 : decode cX4_removeEntry 14 = .ok (.iconst 1, 1) := by decide +kernel
theorem dX4_removeEntry_15 : decode cX4_removeEntry 15 = .ok (.invokevirtual 71, 3) := by decide +kernel
theorem dX4_removeEntry_18 : decode cX4_removeEntry 18 = .ok (.ireturn, 1) := by decide +kernel
theorem dX4_removeEntry_19 : decode cX4_removeEntry 19 = .ok (.aload_n 0, 1) := by decide +kernel
theorem dX4_removeEntry_20 : decode cX4_removeEntry 20 = .ok (.iload_n 1, 1) := by decide +kernel
theorem dX4_removeEntry_21 : decode cX4_removeEntry 21 = .ok (.invokevirtual 103, 3) := by decide +kernel
theorem dX4_removeEntry_24 : decode cX4_removeEntry 24 = .ok (.aload_n 0, 1) := by decide +kernel
theorem dX4_removeEntry_25 : decode cX4_removeEntry 25 = .ok (.getfield 64, 3) := by decide +kernel
theorem dX4_removeEntry_28 : decode cX4_removeEntry 28 = .ok (.ireturn, 1) := by decide +kernel
theorem dX4_entryCount_0 : decode cX4_entryCount 0 = .ok (.aload_n 0, 1) := by decide +kernel
theorem dX4_entryCount_1 : decode cX4_entryCount 1 = .ok (.iconst 0, 1) := by decide +kernel
theorem dX4_entryCount_2 : decode cX4_entryCount 2 = .ok (.putfield 54, 3) := by decide +kernel
theorem dX4_entryCount_5 : decode cX4_entryCount 5 = .ok (.aload_n 0, 1) := by decide +kernel
theorem dX4_entryCount_6 : decode cX4_entryCount 6 = .ok (.getfield 64, 3) := by decide +kernel
theorem dX4_entryCount_9 : decode cX4_entryCount 9 = .ok (.ireturn, 1) := by decide +kernel
set_option maxRecDepth 20000 in
theorem ggX4_entry_X4_isEntry : GoodIn wsX4_entry wsX4_isEntry := goodIn_r _ [10, 11, 12, 13, 9, 14, 19, 20, 21, 22, 23, 24, 25, 26, 27, 28, 29, 30, 31, 32, 33, 34, 35, 36, 37, 38] (by decide +kernel) (by decide +kernel)
set_option maxRecDepth 20000 in
theorem gX4_entry_X4_isEntry : GoodIn wsX4_entry (wsV RX4 100 RX4 yX4_isEntry wsX4_isEntry) := goodIn_app (goodIn_of _ (by decide +kernel)) ggX4_entry_X4_isEntry
set_option maxRecDepth 20000 in
theorem ggX4_entry_X4_isIn : GoodIn wsX4_entry wsX4_isIn := goodIn_r _ [14] (by decide +kernel) (by decide +kernel)
set_option maxRecDepth 20000 in
theorem gX4_entry_X4_isIn : GoodIn wsX4_entry (va_wsS RX4 57 yX4_isIn wsX4_isIn) := goodIn_app (goodIn_of _ (by decide +kernel)) ggX4_entry_X4_isIn
set_option maxRecDepth 20000 in
theorem ggX4_entry_X4_no : GoodIn wsX4_entry wsX4_no := goodIn_r _ [18, 1, 19, 20, 21, 22, 23, 24, 25, 26, 27, 28, 29, 30, 31, 32, 33, 34, 35, 36, 37, 38] (by decide +kernel) (by decide +kernel)
set_option maxRecDepth 20000 in
theorem gX4_entry_X4_no : GoodIn wsX4_entry (wsV RX4 71 RX4 yX4_no wsX4_no) := goodIn_app (goodIn_of _ (by decide +kernel)) ggX4_entry_X4_no
theorem dX4_entry_0 : decode cX4_entry 0 = .ok (.aload_n 0, 1) := by decide +kernel
theorem dX4_entry_1 : decode cX4_entry 1 = .ok (.iconst 0, 1) := by decide +kernel
theorem dX4_entry_2 : decode cX4_entry 2 = .ok (.putfield 54, 3) := by decide +kernel
theorem dX4_entry_5 : decode cX4_entry 5 = .ok (.aload_n 0, 1) := by decide +kernel
theorem dX4_entry_6 : decode cX4_entry 6 = .ok (.iload_n 1, 1) := by decide +kernel
theorem dX4_entry_7 : decode cX4_entry 7 = .ok (.invokevirtual 100, 3) := by decide +kernel
theorem dX4_entry_10 : decode cX4_entry 10 = .ok (.ifCond .eq 12, 3) := by decide +kernel
theorem dX4_entry_13 : decode cX4_entry 13 = .ok (.iload_n 2, 1) := by decide +kernel
theorem dX4_entry_14 : decode cX4_entry 14 = .ok (.iconst 0, 1) := by decide +kernel
theorem dX4_entry_15 : decode cX4_entry 15 = .ok (.iconst 3, 1) := by decide +kernel
theorem dX4_entry_16 : decode cX4_entry 16 = .ok (.invokestatic 57, 3) := by decide +kernel
theorem dX4_entry_19 : decode cX4_entry 19 = .ok (.ifCond .ne 9, 3) := by decide +kernel
theorem dX4_entry_22 : decode cX4_entry 22 = .ok (.aload_n 0, 1) := by decide +kernel
theorem dX4_entry_23 : decode cX4_entry 23 = .ok (.iconst 1, 1) := by decide +kernel
theorem dX4_entry_24 : decode cX4_entry 24 = .ok (.invokevirtual 71, 3) := by decide +kernel
theorem dX4_entry_27 : decode cX4_entry 27 = .ok (.ireturn, 1) := by decide +kernel
theorem dX4_entry_28 : decode cX4_entry 28 = .ok (.iload_n 2, 1) := by decide +kernel
theorem dX4_entry_29 : decode cX4_entry 29 = .ok (.ifCond .ne 12, 3) := by decide +kernel
theorem dX4_entry_32 : decode cX4_entry 32 = .ok (.aload_n 0, 1) := by decide +kernel
theorem dX4_entry_33 : decode cX4_entry 33 = .ok (.getfield 26, 3) := by decide +kernel
theorem dX4_entry_36 : decode cX4_entry 36 = .ok (.iload_n 1, 1) := by decide +kernel
theorem dX4_entry_37 : decode cX4_entry 37 = .ok (.iaload, 1) := by decide +kernel
theorem dX4_entry_38 : decode cX4_entry 38 = .ok (.goto 37, 3) := by decide +kernel
theorem dX4_entry_41 : decode cX4_entry 41 = .ok (.iload_n 2, 1) := by decide +kernel
theorem dX4_entry_42 : decode cX4_entry 42 = .ok (.iconst 1, 1) := by decide +kernel
theorem dX4_entry_43 : decode cX4_entry 43 = .ok (.if_icmp .ne 12, 3) := by decide +kernel
theorem dX4_entry_46 : decode cX4_entry 46 = .ok (.aload_n 0, 1) := by decide +kernel
theorem dX4_entry_47 : decode cX4_entry 47 = .ok (.getfield 29, 3) := by decide +kernel
theorem dX4_entry_50 : decode cX4_entry 50 = .ok (.iload_n 1, 1) := by decide +kernel
theorem dX4_entry_51 : decode cX4_entry 51 = .ok (.iaload, 1) := by decide +kernel
theorem dX4_entry_52 : decode cX4_entry 52 = .ok (.goto 23, 3) := by decide +kernel
theorem dX4_entry_55 : decode cX4_entry 55 = .ok (.iload_n 2, 1) := by decide +kernel
theorem dX4_entry_56 : decode cX4_entry 56 = .ok (.iconst 2, 1) := by decide +kernel
theorem dX4_entry_57 : decode cX4_entry 57 = .ok (.if_icmp .ne 12, 3) := by decide +kernel
theorem dX4_entry_60 : decode cX4_entry 60 = .ok (.aload_n 0, 1) := by decide +kernel
theorem dX4_entry_61 : decode cX4_entry 61 = .ok (.getfield 32, 3) := by decide +kernel
theorem dX4_entry_64 : decode cX4_entry 64 = .ok (.iload_n 1, 1) := by decide +kernel
theorem dX4_entry_65 : decode cX4_entry 65 = .ok (.iaload, 1) := by decide +kernel
theorem dX4_entry_66 : decode cX4_entry 66 = .ok (.goto 9, 3) := by decide +kernel
theorem dX4_entry_69 : decode cX4_entry 69 = .ok (.aload_n 0, 1) := by decide +kernel
theorem dX4_entry_70 : decode cX4_entry 70 = .ok (.getfield 35, 3) := by decide +kernel
theorem dX4_entry_73 : decode cX4_entry 73 = .ok (.iload_n 1, 1) := by decide +kernel
theorem dX4_entry_74 : decode cX4_entry 74 = .ok (.iaload, 1) := by decide +kernel
theorem dX4_entry_75 : decode cX4_entry 75 = .ok (.ireturn, 1) := by decide +kernel
set_option maxRecDepth 20000 in
theorem ggX4_takerOf_X4_has : GoodIn wsX4_takerOf wsX4_has := goodIn_r _ [9] (by decide +kernel) (by decide +kernel)
set_option maxRecDepth 20000 in
theorem gX4_takerOf_X4_has : GoodIn wsX4_takerOf (va_wsS RX4 75 yX4_has wsX4_has) := goodIn_app (goodIn_of _ (by decide +kernel)) ggX4_takerOf_X4_has
theorem dX4_takerOf_0 : decode cX4_takerOf 0 = .ok (.iconst 0, 1) := by decide +kernel
theorem dX4_takerOf_1 : decode cX4_takerOf 1 = .ok (.istore_n 3, 1) := by decide +kernel
theorem dX4_takerOf_2 : decode cX4_takerOf 2 = .ok (.iload_n 3, 1) := by decide +kernel
theorem dX4_takerOf_3 : decode cX4_takerOf 3 = .ok (.aload_n 0, 1) := by decide +kernel
theorem dX4_takerOf_4 : decode cX4_takerOf 4 = .ok (.getfield 64, 3) := by decide +kernel
theorem dX4_takerOf_7 : decode cX4_takerOf 7 = .ok (.if_icmp .ge 49, 3) := by decide +kernel
theorem dX4_takerOf_10 : decode cX4_takerOf 10 = .ok (.aload_n 0, 1) := by decide +kernel
theorem dX4_takerOf_11 : decode cX4_takerOf 11 = .ok (.getfield 26, 3) := by decide +kernel
theorem dX4_takerOf_14 : decode cX4_takerOf 14 = .ok (.iload_n 3, 1) := by decide +kernel
theorem dX4_takerOf_15 : decode cX4_takerOf 15 = .ok (.iaload, 1) := by decide +kernel
theorem dX4_takerOf_16 : decode cX4_takerOf 16 = .ok (.iload_n 1, 1) := by decide +kernel
theorem dX4_takerOf_17 : decode cX4_takerOf 17 = .ok (.if_icmp .gt 33, 3) := by decide +kernel
theorem dX4_takerOf_20 : decode cX4_takerOf 20 = .ok (.iload_n 1, 1) := by decide +kernel
theorem dX4_takerOf_21 : decode cX4_takerOf 21 = .ok (.aload_n 0, 1) := by decide +kernel
theorem dX4_takerOf_22 : decode cX4_takerOf 22 = .ok (.getfield 29, 3) := by decide +kernel
theorem dX4_takerOf_25 : decode cX4_takerOf 25 = .ok (.iload_n 3, 1) := by decide +kernel
theorem dX4_takerOf_26 : decode cX4_takerOf 26 = .ok (.iaload, 1) := by decide +kernel
theorem dX4_takerOf_27 : decode cX4_takerOf 27 = .ok (.if_icmp .ge 23, 3) := by decide +kernel
theorem dX4_takerOf_30 : decode cX4_takerOf 30 = .ok (.aload_n 0, 1) := by decide +kernel
theorem dX4_takerOf_31 : decode cX4_takerOf 31 = .ok (.getfield 41, 3) := by decide +kernel
theorem dX4_takerOf_34 : decode cX4_takerOf 34 = .ok (.iload_n 2, 1) := by decide +kernel
theorem dX4_takerOf_35 : decode cX4_takerOf 35 = .ok (.iaload, 1) := by decide +kernel
theorem dX4_takerOf_36 : decode cX4_takerOf 36 = .ok (.aload_n 0, 1) := by decide +kernel
theorem dX4_takerOf_37 : decode cX4_takerOf 37 = .ok (.getfield 32, 3) := by decide +kernel
theorem dX4_takerOf_40 : decode cX4_takerOf 40 = .ok (.iload_n 3, 1) := by decide +kernel
theorem dX4_takerOf_41 : decode cX4_takerOf 41 = .ok (.iaload, 1) := by decide +kernel
theorem dX4_takerOf_42 : decode cX4_takerOf 42 = .ok (.invokestatic 75, 3) := by decide +kernel
theorem dX4_takerOf_45 : decode cX4_takerOf 45 = .ok (.ifCond .eq 5, 3) := by decide +kernel
theorem dX4_takerOf_48 : decode cX4_takerOf 48 = .ok (.iload_n 3, 1) := by decide +kernel
theorem dX4_takerOf_49 : decode cX4_takerOf 49 = .ok (.ireturn, 1) := by decide +kernel
theorem dX4_takerOf_50 : decode cX4_takerOf 50 = .ok (.iinc 3 1, 3) := by decide +kernel
theorem dX4_takerOf_53 : decode cX4_takerOf 53 = .ok (.goto (-51), 3) := by decide +kernel
theorem dX4_takerOf_56 : decode cX4_takerOf 56 = .ok (.iconst (-1), 1) := by decide +kernel
theorem dX4_takerOf_57 : decode cX4_takerOf 57 = .ok (.ireturn, 1) := by decide +kernel
set_option maxRecDepth 20000 in
theorem ggX4_goal_X4_takerOf : GoodIn wsX4_goal wsX4_takerOf := goodIn_r _ [6, 7, 8, 9, 10, 11, 12, 13, 5, 14, 15, 16, 17, 18, 19, 20, 21, 22, 23, 24, 25, 26, 27, 28, 29, 30, 31, 32, 33, 34] (by decide +kernel) (by decide +kernel)
set_option maxRecDepth 20000 in
theorem gX4_goal_X4_takerOf : GoodIn wsX4_goal (wsV RX4 107 RX4 yX4_takerOf wsX4_takerOf) := goodIn_app (goodIn_of _ (by decide +kernel)) ggX4_goal_X4_takerOf
theorem dX4_goal_0 : decode cX4_goal 0 = .ok (.aload_n 0, 1) := by decide +kernel
theorem dX4_goal_1 : decode cX4_goal 1 = .ok (.iload_n 1, 1) := by decide +kernel
theorem dX4_goal_2 : decode cX4_goal 2 = .ok (.iload_n 2, 1) := by decide +kernel
theorem dX4_goal_3 : decode cX4_goal 3 = .ok (.invokevirtual 107, 3) := by decide +kernel
theorem dX4_goal_6 : decode cX4_goal 6 = .ok (.istore_n 3, 1) := by decide +kernel
theorem dX4_goal_7 : decode cX4_goal 7 = .ok (.iload_n 3, 1) := by decide +kernel
theorem dX4_goal_8 : decode cX4_goal 8 = .ok (.iconst (-1), 1) := by decide +kernel
theorem dX4_goal_9 : decode cX4_goal 9 = .ok (.if_icmp .ne 7, 3) := by decide +kernel
theorem dX4_goal_12 : decode cX4_goal 12 = .ok (.iconst (-1), 1) := by decide +kernel
theorem dX4_goal_13 : decode cX4_goal 13 = .ok (.goto 9, 3) := by decide +kernel
theorem dX4_goal_16 : decode cX4_goal 16 = .ok (.aload_n 0, 1) := by decide +kernel
theorem dX4_goal_17 : decode cX4_goal 17 = .ok (.getfield 35, 3) := by decide +kernel
theorem dX4_goal_20 : decode cX4_goal 20 = .ok (.iload_n 3, 1) := by decide +kernel
theorem dX4_goal_21 : decode cX4_goal 21 = .ok (.iaload, 1) := by decide +kernel
theorem dX4_goal_22 : decode cX4_goal 22 = .ok (.ireturn, 1) := by decide +kernel
set_option maxRecDepth 20000 in
theorem ggX4_taker_X4_isInstruction : GoodIn wsX4_taker wsX4_isInstruction := goodIn_r _ [6, 7, 8, 9, 5, 10, 32, 33, 34, 35, 36, 37, 38, 39, 40, 41, 42, 43, 44, 45, 46, 47, 48, 49, 50, 51] (by decide +kernel) (by decide +kernel)
set_option maxRecDepth 20000 in
theorem gX4_taker_X4_isInstruction : GoodIn wsX4_taker (wsV RX4 93 RX4 yX4_isInstruction wsX4_isInstruction) := goodIn_app (goodIn_of _ (by decide +kernel)) ggX4_taker_X4_isInstruction
set_option maxRecDepth 20000 in
theorem ggX4_taker_X4_isKind : GoodIn wsX4_taker wsX4_isKind := goodIn_r _ [14, 15, 8, 9, 5, 10, 32, 33, 34, 35, 36, 37, 38, 39, 40, 41, 42, 43, 44, 45, 46, 47, 48, 49, 50, 51] (by decide +kernel) (by decide +kernel)
set_option maxRecDepth 20000 in
theorem gX4_taker_X4_isKind : GoodIn wsX4_taker (wsV RX4 67 RX4 yX4_isKind wsX4_isKind) := goodIn_app (goodIn_of _ (by decide +kernel)) ggX4_taker_X4_isKind
set_option maxRecDepth 20000 in
theorem ggX4_taker_X4_takerOf : GoodIn wsX4_taker wsX4_takerOf := goodIn_r _ [19, 20, 21, 22, 23, 24, 25, 26, 5, 27, 32, 33, 34, 35, 36, 37, 38, 39, 40, 41, 42, 43, 44, 45, 46, 47, 48, 49, 50, 51] (by decide +kernel) (by decide +kernel)
set_option maxRecDepth 20000 in
theorem gX4_taker_X4_takerOf : GoodIn wsX4_taker (wsV RX4 107 RX4 yX4_takerOf wsX4_takerOf) := goodIn_app (goodIn_of _ (by decide +kernel)) ggX4_taker_X4_takerOf
set_option maxRecDepth 20000 in
theorem ggX4_taker_X4_no : GoodIn wsX4_taker wsX4_no := goodIn_r _ [31, 1, 32, 33, 34, 35, 36, 37, 38, 39, 40, 41, 42, 43, 44, 45, 46, 47, 48, 49, 50, 51] (by decide +kernel) (by decide +kernel)
set_option maxRecDepth 20000 in
theorem gX4_taker_X4_no : GoodIn wsX4_taker (wsV RX4 71 RX4 yX4_no wsX4_no) := goodIn_app (goodIn_of _ (by decide +kernel)) ggX4_taker_X4_no
theorem dX4_taker_0 : decode cX4_taker 0 = .ok (.aload_n 0, 1) := by decide +kernel
theorem dX4_taker_1 : decode cX4_taker 1 = .ok (.iconst 0, 1) := by decide +kernel
theorem dX4_taker_2 : decode cX4_taker 2 = .ok (.putfield 54, 3) := by decide +kernel
theorem dX4_taker_5 : decode cX4_taker 5 = .ok (.aload_n 0, 1) := by decide +kernel
theorem dX4_taker_6 : decode cX4_taker 6 = .ok (.iload_n 1, 1) := by decide +kernel
theorem dX4_taker_7 : decode cX4_taker 7 = .ok (.invokevirtual 93, 3) := by decide +kernel
theorem dX4_taker_10 : decode cX4_taker 10 = .ok (.ifCond .eq 20, 3) := by decide +kernel
theorem dX4_taker_13 : decode cX4_taker 13 = .ok (.aload_n 0, 1) := by decide +kernel
theorem dX4_taker_14 : decode cX4_taker 14 = .ok (.iload_n 2, 1) := by decide +kernel
theorem dX4_taker_15 : decode cX4_taker 15 = .ok (.invokevirtual 67, 3) := by decide +kernel
theorem dX4_taker_18 : decode cX4_taker 18 = .ok (.ifCond .eq 12, 3) := by decide +kernel
theorem dX4_taker_21 : decode cX4_taker 21 = .ok (.aload_n 0, 1) := by decide +kernel
theorem dX4_taker_22 : decode cX4_taker 22 = .ok (.iload_n 1, 1) := by decide +kernel
theorem dX4_taker_23 : decode cX4_taker 23 = .ok (.iload_n 2, 1) := by decide +kernel
theorem dX4_taker_24 : decode cX4_taker 24 = .ok (.invokevirtual 107, 3) := by decide +kernel
theorem dX4_taker_27 : decode cX4_taker 27 = .ok (.goto 8, 3) := by decide +kernel
theorem dX4_taker_30 : decode cX4_taker 30 = .ok (.aload_n 0, 1) := by decide +kernel
theorem dX4_taker_31 : decode cX4_taker 31 = .ok (.iconst 1, 1) := by decide +kernel
theorem dX4_taker_32 : decode cX4_taker 32 = .ok (.invokevirtual 71, 3) := by decide +kernel
theorem dX4_taker_35 : decode cX4_taker 35 = .ok (.ireturn, 1) := by decide +kernel
set_option maxRecDepth 20000 in
theorem ggX4_mark_X4_isInstruction : GoodIn wsX4_mark wsX4_isInstruction := goodIn_r _ [6, 7, 8, 9, 5, 10, 11, 12, 13, 14, 15, 16, 17, 18, 19, 20, 21, 22, 23, 24, 25, 26, 27, 28, 29, 30] (by decide +kernel) (by decide +kernel)
set_option maxRecDepth 20000 in
theorem gX4_mark_X4_isInstruction : GoodIn wsX4_mark (wsV RX4 93 RX4 yX4_isInstruction wsX4_isInstruction) := goodIn_app (goodIn_of _ (by decide +kernel)) ggX4_mark_X4_isInstruction
theorem dX4_mark_0 : decode cX4_mark 0 = .ok (.aload_n 0, 1) := by decide +kernel
theorem dX4_mark_1 : decode cX4_mark 1 = .ok (.iload_n 1, 1) := by decide +kernel
theorem dX4_mark_2 : decode cX4_mark 2 = .ok (.invokevirtual 93, 3) := by decide +kernel
theorem dX4_mark_5 : decode cX4_mark 5 = .ok (.ifCond .eq 12, 3) := by decide +kernel
theorem dX4_mark_8 : decode cX4_mark 8 = .ok (.aload_n 0, 1) := by decide +kernel
theorem dX4_mark_9 : decode cX4_mark 9 = .ok (.getfield 44, 3) := by decide +kernel
theorem dX4_mark_12 : decode cX4_mark 12 = .ok (.iload_n 1, 1) := by decide +kernel
theorem dX4_mark_13 : decode cX4_mark 13 = .ok (.baload, 1) := by decide +kernel
theorem dX4_mark_14 : decode cX4_mark 14 = .ok (.ifCond .eq 5, 3) := by decide +kernel
theorem dX4_mark_17 : decode cX4_mark 17 = .ok (.iconst 0, 1) := by decide +kernel
theorem dX4_mark_18 : decode cX4_mark 18 = .ok (.ireturn, 1) := by decide +kernel
theorem dX4_mark_19 : decode cX4_mark 19 = .ok (.aload_n 0, 1) := by decide +kernel
theorem dX4_mark_20 : decode cX4_mark 20 = .ok (.getfield 44, 3) := by decide +kernel
theorem dX4_mark_23 : decode cX4_mark 23 = .ok (.iload_n 1, 1) := by decide +kernel
theorem dX4_mark_24 : decode cX4_mark 24 = .ok (.iconst 1, 1) := by decide +kernel
theorem dX4_mark_25 : decode cX4_mark 25 = .ok (.bastore, 1) := by decide +kernel
theorem dX4_mark_26 : decode cX4_mark 26 = .ok (.iconst 1, 1) := by decide +kernel
theorem dX4_mark_27 : decode cX4_mark 27 = .ok (.ireturn, 1) := by decide +kernel
set_option maxRecDepth 20000 in
theorem ggX4_reach_X4_mark : GoodIn wsX4_reach wsX4_mark := goodIn_r _ [11, 1, 12, 13, 14, 10, 15, 2, 16, 17, 18, 36, 37, 38, 39, 40, 41, 42, 43, 44, 45, 46, 47, 48, 49, 50, 51, 52, 53, 54, 55] (by decide +kernel) (by decide +kernel)
set_option maxRecDepth 20000 in
theorem gX4_reach_X4_mark : GoodIn wsX4_reach (wsV RX4 110 RX4 yX4_mark wsX4_mark) := goodIn_app (goodIn_of _ (by decide +kernel)) ggX4_reach_X4_mark
set_option maxRecDepth 20000 in
theorem ggX4_reach_X4_has : GoodIn wsX4_reach wsX4_has := goodIn_r _ [21] (by decide +kernel) (by decide +kernel)
set_option maxRecDepth 20000 in
theorem gX4_reach_X4_has : GoodIn wsX4_reach (va_wsS RX4 75 yX4_has wsX4_has) := goodIn_app (goodIn_of _ (by decide +kernel)) ggX4_reach_X4_has
set_option maxRecDepth 20000 in
theorem ggX4_reach_X4_goal : GoodIn wsX4_reach wsX4_goal := goodIn_r _ [25, 26, 27, 28, 29, 10, 30, 31, 32, 33, 34, 35, 19, 20, 21, 36, 37, 38, 39, 40, 41, 42, 43, 44, 45, 46, 47, 48, 49, 50, 51, 52, 53, 54, 55] (by decide +kernel) (by decide +kernel)
set_option maxRecDepth 20000 in
theorem gX4_reach_X4_goal : GoodIn wsX4_reach (wsV RX4 113 RX4 yX4_goal wsX4_goal) := goodIn_app (goodIn_of _ (by decide +kernel)) ggX4_reach_X4_goal
theorem dX4_reach_0 : decode cX4_reach 0 = .ok (.iconst 0, 1) := by decide +kernel
theorem dX4_reach_1 : decode cX4_reach 1 = .ok (.istore_n 1, 1) := by decide +kernel
theorem dX4_reach_2 : decode cX4_reach 2 = .ok (.iload_n 1, 1) := by decide +kernel
theorem dX4_reach_3 : decode cX4_reach 3 = .ok (.bipush 48, 2) := by decide +kernel
theorem dX4_reach_5 : decode cX4_reach 5 = .ok (.if_icmp .ge 16, 3) := by decide +kernel
theorem dX4_reach_8 : decode cX4_reach 8 = .ok (.aload_n 0, 1) := by decide +kernel
theorem dX4_reach_9 : decode cX4_reach 9 = .ok (.getfield 44, 3) := by decide +kernel
theorem dX4_reach_12 : decode cX4_reach 12 = .ok (.iload_n 1, 1) := by decide +kernel
theorem dX4_reach_13 : decode cX4_reach 13 = .ok (.iconst 0, 1) := by decide +kernel
theorem dX4_reach_14 : decode cX4_reach 14 = .ok (.bastore, 1) := by decide +kernel
theorem dX4_reach_15 : decode cX4_reach 15 = .ok (.iinc 1 1, 3) := by decide +kernel
theorem dX4_reach_18 : decode cX4_reach 18 = .ok (.goto (-16), 3) := by decide +kernel
theorem dX4_reach_21 : decode cX4_reach 21 = .ok (.aload_n 0, 1) := by decide +kernel
theorem dX4_reach_22 : decode cX4_reach 22 = .ok (.iconst 0, 1) := by decide +kernel
theorem dX4_reach_23 : decode cX4_reach 23 = .ok (.invokevirtual 110, 3) := by decide +kernel
theorem dX4_reach_26 : decode cX4_reach 26 = .ok (.istore_n 1, 1) := by decide +kernel
theorem dX4_reach_27 : decode cX4_reach 27 = .ok (.iload_n 1, 1) := by decide +kernel
theorem dX4_reach_28 : decode cX4_reach 28 = .ok (.ifCond .eq 160, 3) := by decide +kernel
theorem dX4_reach_31 : decode cX4_reach 31 = .ok (.iconst 0, 1) := by decide +kernel
theorem dX4_reach_32 : decode cX4_reach 32 = .ok (.istore_n 1, 1) := by decide +kernel
theorem dX4_reach_33 : decode cX4_reach 33 = .ok (.iconst 0, 1) := by decide +kernel
theorem dX4_reach_34 : decode cX4_reach 34 = .ok (.istore_n 2, 1) := by decide +kernel
theorem dX4_reach_35 : decode cX4_reach 35 = .ok (.iload_n 2, 1) := by decide +kernel
theorem dX4_reach_36 : decode cX4_reach 36 = .ok (.aload_n 0, 1) := by decide +kernel
theorem dX4_reach_37 : decode cX4_reach 37 = .ok (.getfield 61, 3) := by decide +kernel
theorem dX4_reach_40 : decode cX4_reach 40 = .ok (.if_icmp .ge 145, 3) := by decide +kernel
theorem dX4_reach_43 : decode cX4_reach 43 = .ok (.aload_n 0, 1) := by decide +kernel
theorem dX4_reach_44 : decode cX4_reach 44 = .ok (.getfield 44, 3) := by decide +kernel
theorem dX4_reach_47 : decode cX4_reach 47 = .ok (.iload_n 2, 1) := by decide +kernel
theorem dX4_reach_48 : decode cX4_reach 48 = .ok (.baload, 1) := by decide +kernel
theorem dX4_reach_49 : decode cX4_reach 49 = .ok (.ifCond .ne 6, 3) := by decide +kernel
theorem dX4_reach_52 : decode cX4_reach 52 = .ok (.goto 127, 3) := by decide +kernel
theorem dX4_reach_55 : decode cX4_reach 55 = .ok (.aload_n 0, 1) := by decide +kernel
theorem dX4_reach_56 : decode cX4_reach 56 = .ok (.getfield 17, 3) := by decide +kernel
theorem dX4_reach_59 : decode cX4_reach 59 = .ok (.iload_n 2, 1) := by decide +kernel
theorem dX4_reach_60 : decode cX4_reach 60 = .ok (.iaload, 1) := by decide +kernel
theorem dX4_reach_61 : decode cX4_reach 61 = .ok (.ifCond .eq 13, 3) := by decide +kernel
theorem dX4_reach_64 : decode cX4_reach 64 = .ok (.aload_n 0, 1) := by decide +kernel
theorem dX4_reach_65 : decode cX4_reach 65 = .ok (.getfield 17, 3) := by decide +kernel
theorem dX4_reach_68 : decode cX4_reach 68 = .ok (.iload_n 2, 1) := by decide +kernel
theorem dX4_reach_69 : decode cX4_reach 69 = .ok (.iaload, 1) := by decide +kernel
theorem dX4_reach_70 : decode cX4_reach 70 = .ok (.iconst 2, 1) := by decide +kernel
theorem dX4_reach_71 : decode cX4_reach 71 = .ok (.if_icmp .ne 23, 3) := by decide +kernel
theorem dX4_reach_74 : decode cX4_reach 74 = .ok (.aload_n 0, 1) := by decide +kernel
theorem dX4_reach_75 : decode cX4_reach 75 = .ok (.iload_n 2, 1) := by decide +kernel
theorem dX4_reach_76 : decode cX4_reach 76 = .ok (.iconst 1, 1) := by decide +kernel
theorem dX4_reach_77 : decode cX4_reach 77 = .ok (.iadd, 1) := by decide +kernel
theorem dX4_reach_78 : decode cX4_reach 78 = .ok (.invokevirtual 110, 3) := by decide +kernel
theorem dX4_reach_81 : decode cX4_reach 81 = .ok (.ifCond .ne 7, 3) := by decide +kernel
theorem dX4_reach_84 : decode cX4_reach 84 = .ok (.iload_n 1, 1) := by decide +kernel
theorem dX4_reach_85 : decode cX4_reach 85 = .ok (.ifCond .eq 7, 3) := by decide +kernel
theorem dX4_reach_88 : decode cX4_reach 88 = .ok (.iconst 1, 1) := by decide +kernel
theorem dX4_reach_89 : decode cX4_reach 89 = .ok (.goto 4, 3) := by decide +kernel
theorem dX4_reach_92 : decode cX4_reach 92 = .ok (.iconst 0, 1) := by decide +kernel
theorem dX4_reach_93 : decode cX4_reach 93 = .ok (.istore_n 1, 1) := by decide +kernel
theorem dX4_reach_94 : decode cX4_reach 94 = .ok (.aload_n 0, 1) := by decide +kernel
theorem dX4_reach_95 : decode cX4_reach 95 = .ok (.getfield 23, 3) := by decide +kernel
theorem dX4_reach_98 : decode cX4_reach 98 = .ok (.iload_n 2, 1) := by decide +kernel
theorem dX4_reach_99 : decode cX4_reach 99 = .ok (.iaload, 1) := by decide +kernel
theorem dX4_reach_100 : decode cX4_reach 100 = .ok (.iconst (-1), 1) := by decide +kernel
theorem dX4_reach_101 : decode cX4_reach 101 = .ok (.if_icmp .eq 26, 3) := by decide +kernel
theorem dX4_reach_104 : decode cX4_reach 104 = .ok (.aload_n 0, 1) := by decide +kernel
theorem dX4_reach_105 : decode cX4_reach 105 = .ok (.aload_n 0, 1) := by decide +kernel
theorem dX4_reach_106 : decode cX4_reach 106 = .ok (.getfield 23, 3) := by decide +kernel
theorem dX4_reach_109 : decode cX4_reach 109 = .ok (.iload_n 2, 1) := by decide +kernel
theorem dX4_reach_110 : decode cX4_reach 110 = .ok (.iaload, 1) := by decide +kernel
theorem dX4_reach_111 : decode cX4_reach 111 = .ok (.invokevirtual 110, 3) := by decide +kernel
theorem dX4_reach_114 : decode cX4_reach 114 = .ok (.ifCond .ne 7, 3) := by decide +kernel
theorem dX4_reach_117 : decode cX4_reach 117 = .ok (.iload_n 1, 1) := by decide +kernel
theorem dX4_reach_118 : decode cX4_reach 118 = .ok (.ifCond .eq 7, 3) := by decide +kernel
theorem dX4_reach_121 : decode cX4_reach 121 = .ok (.iconst 1, 1) := by decide +kernel
theorem dX4_reach_122 : decode cX4_reach 122 = .ok (.goto 4, 3) := by decide +kernel
theorem dX4_reach_125 : decode cX4_reach 125 = .ok (.iconst 0, 1) := by decide +kernel
theorem dX4_reach_126 : decode cX4_reach 126 = .ok (.istore_n 1, 1) := by decide +kernel
theorem dX4_reach_127 : decode cX4_reach 127 = .ok (.iconst 0, 1) := by decide +kernel
theorem dX4_reach_128 : decode cX4_reach 128 = .ok (.istore_n 3, 1) := by decide +kernel
theorem dX4_reach_129 : decode cX4_reach 129 = .ok (.iload_n 3, 1) := by decide +kernel
theorem dX4_reach_130 : decode cX4_reach 130 = .ok (.aload_n 0, 1) := by decide +kernel
theorem dX4_reach_131 : decode cX4_reach 131 = .ok (.getfield 7, 3) := by decide +kernel
theorem dX4_reach_134 : decode cX4_reach 134 = .ok (.if_icmp .ge 45, 3) := by decide +kernel
theorem dX4_reach_137 : decode cX4_reach 137 = .ok (.aload_n 0, 1) := by decide +kernel
theorem dX4_reach_138 : decode cX4_reach 138 = .ok (.getfield 20, 3) := by decide +kernel
theorem dX4_reach_141 : decode cX4_reach 141 = .ok (.iload_n 2, 1) := by decide +kernel
theorem dX4_reach_142 : decode cX4_reach 142 = .ok (.iaload, 1) := by decide +kernel
theorem dX4_reach_143 : decode cX4_reach 143 = .ok (.iload_n 3, 1) := by decide +kernel
theorem dX4_reach_144 : decode cX4_reach 144 = .ok (.invokestatic 75, 3) := by decide +kernel
theorem dX4_reach_147 : decode cX4_reach 147 = .ok (.ifCond .eq 26, 3) := by decide +kernel
theorem dX4_reach_150 : decode cX4_reach 150 = .ok (.aload_n 0, 1) := by decide +kernel
theorem dX4_reach_151 : decode cX4_reach 151 = .ok (.aload_n 0, 1) := by decide +kernel
theorem dX4_reach_152 : decode cX4_reach 152 = .ok (.iload_n 2, 1) := by decide +kernel
theorem dX4_reach_153 : decode cX4_reach 153 = .ok (.iload_n 3, 1) := by decide +kernel
theorem dX4_reach_154 : decode cX4_reach 154 = .ok (.invokevirtual 113, 3) := by decide +kernel
theorem dX4_reach_157 : decode cX4_reach 157 = .ok (.invokevirtual 110, 3) := by decide +kernel
theorem dX4_reach_160 : decode cX4_reach 160 = .ok (.ifCond .ne 7, 3) := by decide +kernel
theorem dX4_reach_163 : decode cX4_reach 163 = .ok (.iload_n 1, 1) := by decide +kernel
theorem dX4_reach_164 : decode cX4_reach 164 = .ok (.ifCond .eq 7, 3) := by decide +kernel
theorem dX4_reach_167 : decode cX4_reach 167 = .ok (.iconst 1, 1) := by decide +kernel
theorem dX4_reach_168 : decode cX4_reach 168 = .ok (.goto 4, 3) := by decide +kernel
theorem dX4_reach_171 : decode cX4_reach 171 = .ok (.iconst 0, 1) := by decide +kernel
theorem dX4_reach_172 : decode cX4_reach 172 = .ok (.istore_n 1, 1) := by decide +kernel
theorem dX4_reach_173 : decode cX4_reach 173 = .ok (.iinc 3 1, 3) := by decide +kernel
theorem dX4_reach_176 : decode cX4_reach 176 = .ok (.goto (-47), 3) := by decide +kernel
theorem dX4_reach_179 : decode cX4_reach 179 = .ok (.iinc 2 1, 3) := by decide +kernel
theorem dX4_reach_182 : decode cX4_reach 182 = .ok (.goto (-147), 3) := by decide +kernel
theorem dX4_reach_185 : decode cX4_reach 185 = .ok (.goto (-158), 3) := by decide +kernel
theorem dX4_reach_188 : decode cX4_reach 188 = .ok (.return_, 1) := by decide +kernel
set_option maxRecDepth 20000 in
theorem ggX4_takes_X4_has : GoodIn wsX4_takes wsX4_has := goodIn_r _ [7] (by decide +kernel) (by decide +kernel)
set_option maxRecDepth 20000 in
theorem gX4_takes_X4_has : GoodIn wsX4_takes (va_wsS RX4 75 yX4_has wsX4_has) := goodIn_app (goodIn_of _ (by decide +kernel)) ggX4_takes_X4_has
set_option maxRecDepth 20000 in
theorem ggX4_takes_X4_takerOf : GoodIn wsX4_takes wsX4_takerOf := goodIn_r _ [11, 12, 13, 14, 15, 16, 4, 5, 6, 7, 17, 18, 19, 20, 21, 22, 23, 24, 25, 26, 27, 28, 29, 30, 31, 32, 33, 34, 35, 36] (by decide +kernel) (by decide +kernel)
set_option maxRecDepth 20000 in
theorem gX4_takes_X4_takerOf : GoodIn wsX4_takes (wsV RX4 107 RX4 yX4_takerOf wsX4_takerOf) := goodIn_app (goodIn_of _ (by decide +kernel)) ggX4_takes_X4_takerOf
theorem dX4_takes_0 : decode cX4_takes 0 = .ok (.iconst 0, 1) := by decide +kernel
theorem dX4_takes_1 : decode cX4_takes 1 = .ok (.istore_n 3, 1) := by decide +kernel
theorem dX4_takes_2 : decode cX4_takes 2 = .ok (.iconst 0, 1) := by decide +kernel
theorem dX4_takes_3 : decode cX4_takes 3 = .ok (.istore 4, 2) := by decide +kernel
theorem dX4_takes_5 : decode cX4_takes 5 = .ok (.iload 4, 2) := by decide +kernel
theorem dX4_takes_7 : decode cX4_takes 7 = .ok (.aload_n 0, 1) := by decide +kernel
theorem dX4_takes_8 : decode cX4_takes 8 = .ok (.getfield 7, 3) := by decide +kernel
theorem dX4_takes_11 : decode cX4_takes 11 = .ok (.if_icmp .ge 53, 3) := by decide +kernel
theorem dX4_takes_14 : decode cX4_takes 14 = .ok (.aload_n 0, 1) := by decide +kernel
theorem dX4_takes_15 : decode cX4_takes 15 = .ok (.getfield 44, 3) := by decide +kernel
theorem dX4_takes_18 : decode cX4_takes 18 = .ok (.iload_n 2, 1) := by decide +kernel
theorem dX4_takes_19 : decode cX4_takes 19 = .ok (.baload, 1) := by decide +kernel
theorem dX4_takes_20 : decode cX4_takes 20 = .ok (.ifCond .eq 44, 3) := by decide +kernel
theorem dX4_takes_23 : decode cX4_takes 23 = .ok (.iload_n 3, 1) := by decide +kernel
theorem dX4_takes_24 : decode cX4_takes 24 = .ok (.ifCond .ne 28, 3) := by decide +kernel
theorem dX4_takes_27 : decode cX4_takes 27 = .ok (.aload_n 0, 1) := by decide +kernel
theorem dX4_takes_28 : decode cX4_takes 28 = .ok (.getfield 20, 3) := by decide +kernel
theorem dX4_takes_31 : decode cX4_takes 31 = .ok (.iload_n 2, 1) := by decide +kernel
theorem dX4_takes_32 : decode cX4_takes 32 = .ok (.iaload, 1) := by decide +kernel
theorem dX4_takes_33 : decode cX4_takes 33 = .ok (.iload 4, 2) := by decide +kernel
theorem dX4_takes_35 : decode cX4_takes 35 = .ok (.invokestatic 75, 3) := by decide +kernel
theorem dX4_takes_38 : decode cX4_takes 38 = .ok (.ifCond .eq 18, 3) := by decide +kernel
theorem dX4_takes_41 : decode cX4_takes 41 = .ok (.aload_n 0, 1) := by decide +kernel
theorem dX4_takes_42 : decode cX4_takes 42 = .ok (.iload_n 2, 1) := by decide +kernel
theorem dX4_takes_43 : decode cX4_takes 43 = .ok (.iload 4, 2) := by decide +kernel
theorem dX4_takes_45 : decode cX4_takes 45 = .ok (.invokevirtual 107, 3) := by decide +kernel
theorem dX4_takes_48 : decode cX4_takes 48 = .ok (.iload_n 1, 1) := by decide +kernel
theorem dX4_takes_49 : decode cX4_takes 49 = .ok (.if_icmp .ne 7, 3) := by decide +kernel
theorem dX4_takes_52 : decode cX4_takes 52 = .ok (.iconst 1, 1) := by decide +kernel
theorem dX4_takes_53 : decode cX4_takes 53 = .ok (.goto 4, 3) := by decide +kernel
theorem dX4_takes_56 : decode cX4_takes 56 = .ok (.iconst 0, 1) := by decide +kernel
theorem dX4_takes_57 : decode cX4_takes 57 = .ok (.istore_n 3, 1) := by decide +kernel
theorem dX4_takes_58 : decode cX4_takes 58 = .ok (.iinc 4 1, 3) := by decide +kernel
theorem dX4_takes_61 : decode cX4_takes 61 = .ok (.goto (-56), 3) := by decide +kernel
theorem dX4_takes_64 : decode cX4_takes 64 = .ok (.iload_n 3, 1) := by decide +kernel
theorem dX4_takes_65 : decode cX4_takes 65 = .ok (.ireturn, 1) := by decide +kernel
set_option maxRecDepth 20000 in
theorem ggX4_isTaking_X4_takes : GoodIn wsX4_isTaking wsX4_takes := goodIn_r _ [6, 7, 8, 9, 10, 11, 5, 12, 13, 14, 15, 16, 17, 18, 19, 20, 21, 22, 23, 24, 25, 26, 27, 28, 29, 30, 31, 32, 33, 34, 35, 36, 37, 38, 39, 40, 41] (by decide +kernel) (by decide +kernel)
set_option maxRecDepth 20000 in
theorem gX4_isTaking_X4_takes : GoodIn wsX4_isTaking (wsV RX4 116 RX4 yX4_takes wsX4_takes) := goodIn_app (goodIn_of _ (by decide +kernel)) ggX4_isTaking_X4_takes
theorem dX4_isTaking_0 : decode cX4_isTaking 0 = .ok (.iconst 0, 1) := by decide +kernel
theorem dX4_isTaking_1 : decode cX4_isTaking 1 = .ok (.istore_n 2, 1) := by decide +kernel
theorem dX4_isTaking_2 : decode cX4_isTaking 2 = .ok (.iconst 0, 1) := by decide +kernel
theorem dX4_isTaking_3 : decode cX4_isTaking 3 = .ok (.istore_n 3, 1) := by decide +kernel
theorem dX4_isTaking_4 : decode cX4_isTaking 4 = .ok (.iload_n 3, 1) := by decide +kernel
theorem dX4_isTaking_5 : decode cX4_isTaking 5 = .ok (.aload_n 0, 1) := by decide +kernel
theorem dX4_isTaking_6 : decode cX4_isTaking 6 = .ok (.getfield 61, 3) := by decide +kernel
theorem dX4_isTaking_9 : decode cX4_isTaking 9 = .ok (.if_icmp .ge 28, 3) := by decide +kernel
theorem dX4_isTaking_12 : decode cX4_isTaking 12 = .ok (.iload_n 2, 1) := by decide +kernel
theorem dX4_isTaking_13 : decode cX4_isTaking 13 = .ok (.ifCond .ne 12, 3) := by decide +kernel
theorem dX4_isTaking_16 : decode cX4_isTaking 16 = .ok (.aload_n 0, 1) := by decide +kernel
theorem dX4_isTaking_17 : decode cX4_isTaking 17 = .ok (.iload_n 1, 1) := by decide +kernel
theorem dX4_isTaking_18 : decode cX4_isTaking 18 = .ok (.iload_n 3, 1) := by decide +kernel
theorem dX4_isTaking_19 : decode cX4_isTaking 19 = .ok (.invokevirtual 116, 3) := by decide +kernel
theorem dX4_isTaking_22 : decode cX4_isTaking 22 = .ok (.ifCond .eq 7, 3) := by decide +kernel
theorem dX4_isTaking_25 : decode cX4_isTaking 25 = .ok (.iconst 1, 1) := by decide +kernel
theorem dX4_isTaking_26 : decode cX4_isTaking 26 = .ok (.goto 4, 3) := by decide +kernel
theorem dX4_isTaking_29 : decode cX4_isTaking 29 = .ok (.iconst 0, 1) := by decide +kernel
theorem dX4_isTaking_30 : decode cX4_isTaking 30 = .ok (.istore_n 2, 1) := by decide +kernel
theorem dX4_isTaking_31 : decode cX4_isTaking 31 = .ok (.iinc 3 1, 3) := by decide +kernel
theorem dX4_isTaking_34 : decode cX4_isTaking 34 = .ok (.goto (-30), 3) := by decide +kernel
theorem dX4_isTaking_37 : decode cX4_isTaking 37 = .ok (.iload_n 2, 1) := by decide +kernel
theorem dX4_isTaking_38 : decode cX4_isTaking 38 = .ok (.ireturn, 1) := by decide +kernel
set_option maxRecDepth 20000 in
theorem ggX4_isReached_X4_isInstruction : GoodIn wsX4_isReached wsX4_isInstruction := goodIn_r _ [7, 8, 9, 10, 6, 11, 41, 42, 43, 44, 45, 46, 47, 48, 49, 50, 51, 52, 53, 54, 55, 56, 57, 58, 59, 60] (by decide +kernel) (by decide +kernel)
set_option maxRecDepth 20000 in
theorem gX4_isReached_X4_isInstruction : GoodIn wsX4_isReached (wsV RX4 93 RX4 yX4_isInstruction wsX4_isInstruction) := goodIn_app (goodIn_of _ (by decide +kernel)) ggX4_isReached_X4_isInstruction
set_option maxRecDepth 20000 in
theorem ggX4_isReached_X4_reach : GoodIn wsX4_isReached wsX4_reach := goodIn_r _ [15, 2, 8, 16, 17, 18, 19, 20, 21, 22, 6, 23, 3, 4, 5, 7, 9, 10, 11, 24, 25, 26, 27, 28, 29, 30, 31, 32, 33, 34, 35, 36, 37, 38, 39, 40, 41, 42, 43, 44, 45, 46, 47, 48, 49, 50, 51, 52, 53, 54, 55, 56, 57, 58, 59, 60] (by decide +kernel) (by decide +kernel)
set_option maxRecDepth 20000 in
theorem gX4_isReached_X4_reach : GoodIn wsX4_isReached (wsV RX4 119 RX4 yX4_reach wsX4_reach) := goodIn_app (goodIn_of _ (by decide +kernel)) ggX4_isReached_X4_reach
theorem dX4_isReached_0 : decode cX4_isReached 0 = .ok (.aload_n 0, 1) := by decide +kernel
theorem dX4_isReached_1 : decode cX4_isReached 1 = .ok (.aload_n 0, 1) := by decide +kernel
theorem dX4_isReached_2 : decode cX4_isReached 2 = .ok (.iload_n 1, 1) := by decide +kernel
theorem dX4_isReached_3 : decode cX4_isReached 3 = .ok (.invokevirtual 93, 3) := by decide +kernel
theorem dX4_isReached_6 : decode cX4_isReached 6 = .ok (.ifCond .eq 7, 3) := by decide +kernel
theorem dX4_isReached_9 : decode cX4_isReached 9 = .ok (.iconst 0, 1) := by decide +kernel
theorem dX4_isReached_10 : decode cX4_isReached 10 = .ok (.goto 4, 3) := by decide +kernel
theorem dX4_isReached_13 : decode cX4_isReached 13 = .ok (.iconst 1, 1) := by decide +kernel
theorem dX4_isReached_14 : decode cX4_isReached 14 = .ok (.putfield 54, 3) := by decide +kernel
theorem dX4_isReached_17 : decode cX4_isReached 17 = .ok (.aload_n 0, 1) := by decide +kernel
theorem dX4_isReached_18 : decode cX4_isReached 18 = .ok (.getfield 54, 3) := by decide +kernel
theorem dX4_isReached_21 : decode cX4_isReached 21 = .ok (.ifCond .eq 5, 3) := by decide +kernel
theorem dX4_isReached_24 : decode cX4_isReached 24 = .ok (.iconst 0, 1) := by decide +kernel
theorem dX4_isReached_25 : decode cX4_isReached 25 = .ok (.ireturn, 1) := by decide +kernel
theorem dX4_isReached_26 : decode cX4_isReached 26 = .ok (.aload_n 0, 1) := by decide +kernel
theorem dX4_isReached_27 : decode cX4_isReached 27 = .ok (.invokevirtual 119, 3) := by decide +kernel
theorem dX4_isReached_30 : decode cX4_isReached 30 = .ok (.aload_n 0, 1) := by decide +kernel
theorem dX4_isReached_31 : decode cX4_isReached 31 = .ok (.getfield 44, 3) := by decide +kernel
theorem dX4_isReached_34 : decode cX4_isReached 34 = .ok (.iload_n 1, 1) := by decide +kernel
theorem dX4_isReached_35 : decode cX4_isReached 35 = .ok (.baload, 1) := by decide +kernel
theorem dX4_isReached_36 : decode cX4_isReached 36 = .ok (.ireturn, 1) := by decide +kernel
set_option maxRecDepth 20000 in
theorem ggX4_isUsed_X4_isEntry : GoodIn wsX4_isUsed wsX4_isEntry := goodIn_r _ [6, 7, 8, 9, 5, 10, 53, 54, 55, 56, 57, 58, 59, 60, 61, 62, 63, 64, 65, 66, 67, 68, 69, 70, 71, 72] (by decide +kernel) (by decide +kernel)
set_option maxRecDepth 20000 in
theorem gX4_isUsed_X4_isEntry : GoodIn wsX4_isUsed (wsV RX4 100 RX4 yX4_isEntry wsX4_isEntry) := goodIn_app (goodIn_of _ (by decide +kernel)) ggX4_isUsed_X4_isEntry
set_option maxRecDepth 20000 in
theorem ggX4_isUsed_X4_reach : GoodIn wsX4_isUsed wsX4_reach := goodIn_r _ [14, 15, 16, 17, 18, 19, 20, 21, 22, 23, 5, 24, 25, 26, 27, 28, 8, 9, 10, 29, 30, 31, 32, 33, 34, 35, 36, 37, 38, 39, 40, 7, 41, 42, 43, 44, 53, 54, 55, 56, 57, 58, 59, 60, 61, 62, 63, 64, 65, 66, 67, 68, 69, 70, 71, 72] (by decide +kernel) (by decide +kernel)
set_option maxRecDepth 20000 in
theorem gX4_isUsed_X4_reach : GoodIn wsX4_isUsed (wsV RX4 119 RX4 yX4_reach wsX4_reach) := goodIn_app (goodIn_of _ (by decide +kernel)) ggX4_isUsed_X4_reach
set_option maxRecDepth 20000 in
theorem ggX4_isUsed_X4_isTaking : GoodIn wsX4_isUsed wsX4_isTaking := goodIn_r _ [48, 16, 49, 50, 51, 5, 52, 19, 15, 20, 29, 30, 31, 37, 38, 39, 40, 7, 41, 42, 43, 44, 53, 54, 55, 56, 57, 58, 59, 60, 61, 62, 63, 64, 65, 66, 67, 68, 69, 70, 71, 72] (by decide +kernel) (by decide +kernel)
set_option maxRecDepth 20000 in
theorem gX4_isUsed_X4_isTaking : GoodIn wsX4_isUsed (wsV RX4 122 RX4 yX4_isTaking wsX4_isTaking) := goodIn_app (goodIn_of _ (by decide +kernel)) ggX4_isUsed_X4_isTaking
theorem dX4_isUsed_0 : decode cX4_isUsed 0 = .ok (.aload_n 0, 1) := by decide +kernel
theorem dX4_isUsed_1 : decode cX4_isUsed 1 = .ok (.aload_n 0, 1) := by decide +kernel
theorem dX4_isUsed_2 : decode cX4_isUsed 2 = .ok (.iload_n 1, 1) := by decide +kernel
theorem dX4_isUsed_3 : decode cX4_isUsed 3 = .ok (.invokevirtual 100, 3) := by decide +kernel
theorem dX4_isUsed_6 : decode cX4_isUsed 6 = .ok (.ifCond .eq 7, 3) := by decide +kernel
theorem dX4_isUsed_9 : decode cX4_isUsed 9 = .ok (.iconst 0, 1) := by decide +kernel
theorem dX4_isUsed_10 : decode cX4_isUsed 10 = .ok (.goto 4, 3) := by decide +kernel
theorem dX4_isUsed_13 : decode cX4_isUsed 13 = .ok (.iconst 1, 1) := by decide +kernel
theorem dX4_isUsed_14 : decode cX4_isUsed 14 = .ok (.putfield 54, 3) := by decide +kernel
theorem dX4_isUsed_17 : decode cX4_isUsed 17 = .ok (.aload_n 0, 1) := by decide +kernel
theorem dX4_isUsed_18 : decode cX4_isUsed 18 = .ok (.getfield 54, 3) := by decide +kernel
theorem dX4_isUsed_21 : decode cX4_isUsed 21 = .ok (.ifCond .eq 5, 3) := by decide +kernel
theorem dX4_isUsed_24 : decode cX4_isUsed 24 = .ok (.iconst 0, 1) := by decide +kernel
theorem dX4_isUsed_25 : decode cX4_isUsed 25 = .ok (.ireturn, 1) := by decide +kernel
theorem dX4_isUsed_26 : decode cX4_isUsed 26 = .ok (.aload_n 0, 1) := by decide +kernel
theorem dX4_isUsed_27 : decode cX4_isUsed 27 = .ok (.invokevirtual 119, 3) := by decide +kernel
theorem dX4_isUsed_30 : decode cX4_isUsed 30 = .ok (.aload_n 0, 1) := by decide +kernel
theorem dX4_isUsed_31 : decode cX4_isUsed 31 = .ok (.iload_n 1, 1) := by decide +kernel
theorem dX4_isUsed_32 : decode cX4_isUsed 32 = .ok (.invokevirtual 122, 3) := by decide +kernel
theorem dX4_isUsed_35 : decode cX4_isUsed 35 = .ok (.ireturn, 1) := by decide +kernel
set_option maxRecDepth 20000 in
theorem ggX4_leaving_X4_reach : GoodIn wsX4_leaving wsX4_reach := goodIn_r _ [10, 4, 2, 11, 12, 3, 5, 13, 14, 15, 9, 16, 17, 18, 19, 20, 21, 22, 23, 24, 25, 26, 27, 28, 29, 30, 31, 32, 33, 34, 35, 36, 37, 38, 39, 40, 41, 42, 43, 44, 45, 46, 47, 48, 49, 50, 51, 52, 53, 54, 55, 56, 57, 58, 59, 60] (by decide +kernel) (by decide +kernel)
set_option maxRecDepth 20000 in
theorem gX4_leaving_X4_reach : GoodIn wsX4_leaving (wsV RX4 119 RX4 yX4_reach wsX4_reach) := goodIn_app (goodIn_of _ (by decide +kernel)) ggX4_leaving_X4_reach
set_option maxRecDepth 20000 in
theorem ggX4_leaving_X4_has : GoodIn wsX4_leaving wsX4_has := goodIn_r _ [26] (by decide +kernel) (by decide +kernel)
set_option maxRecDepth 20000 in
theorem gX4_leaving_X4_has : GoodIn wsX4_leaving (va_wsS RX4 75 yX4_has wsX4_has) := goodIn_app (goodIn_of _ (by decide +kernel)) ggX4_leaving_X4_has
set_option maxRecDepth 20000 in
theorem ggX4_leaving_X4_takerOf : GoodIn wsX4_leaving wsX4_takerOf := goodIn_r _ [35, 36, 37, 38, 39, 40, 24, 25, 9, 26, 41, 42, 43, 44, 45, 46, 47, 48, 49, 50, 51, 52, 53, 54, 55, 56, 57, 58, 59, 60] (by decide +kernel) (by decide +kernel)
set_option maxRecDepth 20000 in
theorem gX4_leaving_X4_takerOf : GoodIn wsX4_leaving (wsV RX4 107 RX4 yX4_takerOf wsX4_takerOf) := goodIn_app (goodIn_of _ (by decide +kernel)) ggX4_leaving_X4_takerOf
theorem dX4_leaving_0 : decode cX4_leaving 0 = .ok (.aload_n 0, 1) := by decide +kernel
theorem dX4_leaving_1 : decode cX4_leaving 1 = .ok (.iconst 0, 1) := by decide +kernel
theorem dX4_leaving_2 : decode cX4_leaving 2 = .ok (.putfield 54, 3) := by decide +kernel
theorem dX4_leaving_5 : decode cX4_leaving 5 = .ok (.aload_n 0, 1) := by decide +kernel
theorem dX4_leaving_6 : decode cX4_leaving 6 = .ok (.invokevirtual 119, 3) := by decide +kernel
theorem dX4_leaving_9 : decode cX4_leaving 9 = .ok (.iconst 0, 1) := by decide +kernel
theorem dX4_leaving_10 : decode cX4_leaving 10 = .ok (.istore_n 1, 1) := by decide +kernel
theorem dX4_leaving_11 : decode cX4_leaving 11 = .ok (.iconst 0, 1) := by decide +kernel
theorem dX4_leaving_12 : decode cX4_leaving 12 = .ok (.istore_n 2, 1) := by decide +kernel
theorem dX4_leaving_13 : decode cX4_leaving 13 = .ok (.iload_n 2, 1) := by decide +kernel
theorem dX4_leaving_14 : decode cX4_leaving 14 = .ok (.aload_n 0, 1) := by decide +kernel
theorem dX4_leaving_15 : decode cX4_leaving 15 = .ok (.getfield 61, 3) := by decide +kernel
theorem dX4_leaving_18 : decode cX4_leaving 18 = .ok (.if_icmp .ge 63, 3) := by decide +kernel
theorem dX4_leaving_21 : decode cX4_leaving 21 = .ok (.iconst 0, 1) := by decide +kernel
theorem dX4_leaving_22 : decode cX4_leaving 22 = .ok (.istore_n 3, 1) := by decide +kernel
theorem dX4_leaving_23 : decode cX4_leaving 23 = .ok (.iload_n 3, 1) := by decide +kernel
theorem dX4_leaving_24 : decode cX4_leaving 24 = .ok (.aload_n 0, 1) := by decide +kernel
theorem dX4_leaving_25 : decode cX4_leaving 25 = .ok (.getfield 7, 3) := by decide +kernel
theorem dX4_leaving_28 : decode cX4_leaving 28 = .ok (.if_icmp .ge 47, 3) := by decide +kernel
theorem dX4_leaving_31 : decode cX4_leaving 31 = .ok (.aload_n 0, 1) := by decide +kernel
theorem dX4_leaving_32 : decode cX4_leaving 32 = .ok (.getfield 44, 3) := by decide +kernel
theorem dX4_leaving_35 : decode cX4_leaving 35 = .ok (.iload_n 2, 1) := by decide +kernel
theorem dX4_leaving_36 : decode cX4_leaving 36 = .ok (.baload, 1) := by decide +kernel
theorem dX4_leaving_37 : decode cX4_leaving 37 = .ok (.ifCond .eq 38, 3) := by decide +kernel
theorem dX4_leaving_40 : decode cX4_leaving 40 = .ok (.aload_n 0, 1) := by decide +kernel
theorem dX4_leaving_41 : decode cX4_leaving 41 = .ok (.getfield 20, 3) := by decide +kernel
theorem dX4_leaving_44 : decode cX4_leaving 44 = .ok (.iload_n 2, 1) := by decide +kernel
theorem dX4_leaving_45 : decode cX4_leaving 45 = .ok (.iaload, 1) := by decide +kernel
theorem dX4_leaving_46 : decode cX4_leaving 46 = .ok (.iload_n 3, 1) := by decide +kernel
theorem dX4_leaving_47 : decode cX4_leaving 47 = .ok (.invokestatic 75, 3) := by decide +kernel
theorem dX4_leaving_50 : decode cX4_leaving 50 = .ok (.ifCond .eq 19, 3) := by decide +kernel
theorem dX4_leaving_53 : decode cX4_leaving 53 = .ok (.aload_n 0, 1) := by decide +kernel
theorem dX4_leaving_54 : decode cX4_leaving 54 = .ok (.iload_n 2, 1) := by decide +kernel
theorem dX4_leaving_55 : decode cX4_leaving 55 = .ok (.iload_n 3, 1) := by decide +kernel
theorem dX4_leaving_56 : decode cX4_leaving 56 = .ok (.invokevirtual 107, 3) := by decide +kernel
theorem dX4_leaving_59 : decode cX4_leaving 59 = .ok (.iconst (-1), 1) := by decide +kernel
theorem dX4_leaving_60 : decode cX4_leaving 60 = .ok (.if_icmp .ne 9, 3) := by decide +kernel
theorem dX4_leaving_63 : decode cX4_leaving 63 = .ok (.iload_n 1, 1) := by decide +kernel
theorem dX4_leaving_64 : decode cX4_leaving 64 = .ok (.iconst 1, 1) := by decide +kernel
theorem dX4_leaving_65 : decode cX4_leaving 65 = .ok (.iload_n 3, 1) := by decide +kernel
theorem dX4_leaving_66 : decode cX4_leaving 66 = .ok (.ishl, 1) := by decide +kernel
theorem dX4_leaving_67 : decode cX4_leaving 67 = .ok (.ior, 1) := by decide +kernel
theorem dX4_leaving_68 : decode cX4_leaving 68 = .ok (.istore_n 1, 1) := by decide +kernel
theorem dX4_leaving_69 : decode cX4_leaving 69 = .ok (.iinc 3 1, 3) := by decide +kernel
theorem dX4_leaving_72 : decode cX4_leaving 72 = .ok (.goto (-49), 3) := by decide +kernel
theorem dX4_leaving_75 : decode cX4_leaving 75 = .ok (.iinc 2 1, 3) := by decide +kernel
theorem dX4_leaving_78 : decode cX4_leaving 78 = .ok (.goto (-65), 3) := by decide +kernel
theorem dX4_leaving_81 : decode cX4_leaving 81 = .ok (.iload_n 1, 1) := by decide +kernel
theorem dX4_leaving_82 : decode cX4_leaving 82 = .ok (.ireturn, 1) := by decide +kernel
set_option maxRecDepth 20000 in
theorem ggX4_share_X4_reach : GoodIn wsX4_share wsX4_reach := goodIn_r _ [10, 4, 2, 11, 12, 3, 5, 13, 14, 15, 9, 16, 17, 18, 19, 20, 21, 22, 23, 24, 25, 26, 27, 28, 29, 30, 31, 32, 33, 34, 35, 36, 37, 38, 39, 40, 41, 42, 43, 44, 45, 46, 47, 48, 49, 50, 51, 52, 53, 54, 55, 56, 57, 58, 59, 60] (by decide +kernel) (by decide +kernel)
set_option maxRecDepth 20000 in
theorem gX4_share_X4_reach : GoodIn wsX4_share (wsV RX4 119 RX4 yX4_reach wsX4_reach) := goodIn_app (goodIn_of _ (by decide +kernel)) ggX4_share_X4_reach
set_option maxRecDepth 20000 in
theorem ggX4_share_X4_has : GoodIn wsX4_share wsX4_has := goodIn_r _ [26] (by decide +kernel) (by decide +kernel)
set_option maxRecDepth 20000 in
theorem gX4_share_X4_has : GoodIn wsX4_share (va_wsS RX4 75 yX4_has wsX4_has) := goodIn_app (goodIn_of _ (by decide +kernel)) ggX4_share_X4_has
set_option maxRecDepth 20000 in
theorem ggX4_share_X4_takerOf : GoodIn wsX4_share wsX4_takerOf := goodIn_r _ [35, 36, 37, 38, 39, 40, 24, 25, 9, 26, 41, 42, 43, 44, 45, 46, 47, 48, 49, 50, 51, 52, 53, 54, 55, 56, 57, 58, 59, 60] (by decide +kernel) (by decide +kernel)
set_option maxRecDepth 20000 in
theorem gX4_share_X4_takerOf : GoodIn wsX4_share (wsV RX4 107 RX4 yX4_takerOf wsX4_takerOf) := goodIn_app (goodIn_of _ (by decide +kernel)) ggX4_share_X4_takerOf
theorem dX4_share_0 : decode cX4_share 0 = .ok (.aload_n 0, 1) := by decide +kernel
theorem dX4_share_1 : decode cX4_share 1 = .ok (.iconst 0, 1) := by decide +kernel
theorem dX4_share_2 : decode cX4_share 2 = .ok (.putfield 54, 3) := by decide +kernel
theorem dX4_share_5 : decode cX4_share 5 = .ok (.aload_n 0, 1) := by decide +kernel
theorem dX4_share_6 : decode cX4_share 6 = .ok (.invokevirtual 119, 3) := by decide +kernel
theorem dX4_share_9 : decode cX4_share 9 = .ok (.iconst 0, 1) := by decide +kernel
theorem dX4_share_10 : decode cX4_share 10 = .ok (.istore_n 1, 1) := by decide +kernel
theorem dX4_share_11 : decode cX4_share 11 = .ok (.iconst 0, 1) := by decide +kernel
theorem dX4_share_12 : decode cX4_share 12 = .ok (.istore_n 2, 1) := by decide +kernel
theorem dX4_share_13 : decode cX4_share 13 = .ok (.iconst 0, 1) := by decide +kernel
theorem dX4_share_14 : decode cX4_share 14 = .ok (.istore_n 3, 1) := by decide +kernel
theorem dX4_share_15 : decode cX4_share 15 = .ok (.iload_n 3, 1) := by decide +kernel
theorem dX4_share_16 : decode cX4_share 16 = .ok (.aload_n 0, 1) := by decide +kernel
theorem dX4_share_17 : decode cX4_share 17 = .ok (.getfield 61, 3) := by decide +kernel
theorem dX4_share_20 : decode cX4_share 20 = .ok (.if_icmp .ge 91, 3) := by decide +kernel
theorem dX4_share_23 : decode cX4_share 23 = .ok (.iconst 0, 1) := by decide +kernel
theorem dX4_share_24 : decode cX4_share 24 = .ok (.istore 4, 2) := by decide +kernel
theorem dX4_share_26 : decode cX4_share 26 = .ok (.iload 4, 2) := by decide +kernel
theorem dX4_share_28 : decode cX4_share 28 = .ok (.aload_n 0, 1) := by decide +kernel
theorem dX4_share_29 : decode cX4_share 29 = .ok (.getfield 7, 3) := by decide +kernel
theorem dX4_share_32 : decode cX4_share 32 = .ok (.if_icmp .ge 73, 3) := by decide +kernel
theorem dX4_share_35 : decode cX4_share 35 = .ok (.aload_n 0, 1) := by decide +kernel
theorem dX4_share_36 : decode cX4_share 36 = .ok (.getfield 44, 3) := by decide +kernel
theorem dX4_share_39 : decode cX4_share 39 = .ok (.iload_n 3, 1) := by decide +kernel
theorem dX4_share_40 : decode cX4_share 40 = .ok (.baload, 1) := by decide +kernel
theorem dX4_share_41 : decode cX4_share 41 = .ok (.ifCond .eq 64, 3) := by decide +kernel
theorem dX4_share_44 : decode cX4_share 44 = .ok (.iload_n 1, 1) := by decide +kernel
theorem dX4_share_45 : decode cX4_share 45 = .ok (.aload_n 0, 1) := by decide +kernel
theorem dX4_share_46 : decode cX4_share 46 = .ok (.getfield 20, 3) := by decide +kernel
theorem dX4_share_49 : decode cX4_share 49 = .ok (.iload_n 3, 1) := by decide +kernel
theorem dX4_share_50 : decode cX4_share 50 = .ok (.iaload, 1) := by decide +kernel
theorem dX4_share_51 : decode cX4_share 51 = .ok (.iload 4, 2) := by decide +kernel
theorem dX4_share_53 : decode cX4_share 53 = .ok (.invokestatic 75, 3) := by decide +kernel
theorem dX4_share_56 : decode cX4_share 56 = .ok (.ifCond .eq 7, 3) := by decide +kernel
theorem dX4_share_59 : decode cX4_share 59 = .ok (.iconst 1, 1) := by decide +kernel
theorem dX4_share_60 : decode cX4_share 60 = .ok (.goto 4, 3) := by decide +kernel
theorem dX4_share_63 : decode cX4_share 63 = .ok (.iconst 0, 1) := by decide +kernel
theorem dX4_share_64 : decode cX4_share 64 = .ok (.iadd, 1) := by decide +kernel
theorem dX4_share_65 : decode cX4_share 65 = .ok (.istore_n 1, 1) := by decide +kernel
theorem dX4_share_66 : decode cX4_share 66 = .ok (.iload_n 2, 1) := by decide +kernel
theorem dX4_share_67 : decode cX4_share 67 = .ok (.aload_n 0, 1) := by decide +kernel
theorem dX4_share_68 : decode cX4_share 68 = .ok (.getfield 20, 3) := by decide +kernel
theorem dX4_share_71 : decode cX4_share 71 = .ok (.iload_n 3, 1) := by decide +kernel
theorem dX4_share_72 : decode cX4_share 72 = .ok (.iaload, 1) := by decide +kernel
theorem dX4_share_73 : decode cX4_share 73 = .ok (.iload 4, 2) := by decide +kernel
theorem dX4_share_75 : decode cX4_share 75 = .ok (.invokestatic 75, 3) := by decide +kernel
theorem dX4_share_78 : decode cX4_share 78 = .ok (.ifCond .eq 18, 3) := by decide +kernel
theorem dX4_share_81 : decode cX4_share 81 = .ok (.aload_n 0, 1) := by decide +kernel
theorem dX4_share_82 : decode cX4_share 82 = .ok (.iload_n 3, 1) := by decide +kernel
theorem dX4_share_83 : decode cX4_share 83 = .ok (.iload 4, 2) := by decide +kernel
theorem dX4_share_85 : decode cX4_share 85 = .ok (.invokevirtual 107, 3) := by decide +kernel
theorem dX4_share_88 : decode cX4_share 88 = .ok (.iconst (-1), 1) := by decide +kernel
theorem dX4_share_89 : decode cX4_share 89 = .ok (.if_icmp .eq 7, 3) := by decide +kernel
theorem dX4_share_92 : decode cX4_share 92 = .ok (.iconst 1, 1) := by decide +kernel
theorem dX4_share_93 : decode cX4_share 93 = .ok (.goto 4, 3) := by decide +kernel
theorem dX4_share_96 : decode cX4_share 96 = .ok (.iconst 0, 1) := by decide +kernel
theorem dX4_share_97 : decode cX4_share 97 = .ok (.iadd, 1) := by decide +kernel
theorem dX4_share_98 : decode cX4_share 98 = .ok (.istore_n 2, 1) := by decide +kernel
theorem dX4_share_99 : decode cX4_share 99 = .ok (.iinc 4 1, 3) := by decide +kernel
theorem dX4_share_102 : decode cX4_share 102 = .ok (.goto (-76), 3) := by decide +kernel
theorem dX4_share_105 : decode cX4_share 105 = .ok (.iinc 3 1, 3) := by decide +kernel
theorem dX4_share_108 : decode cX4_share 108 = .ok (.goto (-93), 3) := by decide +kernel
theorem dX4_share_111 : decode cX4_share 111 = .ok (.iload_n 1, 1) := by decide +kernel
theorem dX4_share_112 : decode cX4_share 112 = .ok (.ifCond .ne 7, 3) := by decide +kernel
theorem dX4_share_115 : decode cX4_share 115 = .ok (.dconst 0, 1) := by decide +kernel
theorem dX4_share_116 : decode cX4_share 116 = .ok (.goto 8, 3) := by decide +kernel
theorem dX4_share_119 : decode cX4_share 119 = .ok (.iload_n 2, 1) := by decide +kernel
theorem dX4_share_120 : decode cX4_share 120 = .ok (.i2d, 1) := by decide +kernel
theorem dX4_share_121 : decode cX4_share 121 = .ok (.iload_n 1, 1) := by decide +kernel
theorem dX4_share_122 : decode cX4_share 122 = .ok (.i2d, 1) := by decide +kernel
theorem dX4_share_123 : decode cX4_share 123 = .ok (.ddiv, 1) := by decide +kernel
theorem dX4_share_124 : decode cX4_share 124 = .ok (.dreturn, 1) := by decide +kernel
set_option maxRecDepth 20000 in
theorem ggX4_parts_X4_goal : GoodIn wsX4_parts wsX4_goal := goodIn_r _ [8, 9, 10, 11, 12, 7, 13, 14, 15, 16, 17, 18, 19, 20, 21, 22, 23, 24, 25, 26, 27, 28, 29, 30, 31, 32, 33, 34, 35, 36, 37, 38, 39, 40, 41] (by decide +kernel) (by decide +kernel)
set_option maxRecDepth 20000 in
theorem gX4_parts_X4_goal : GoodIn wsX4_parts (wsV RX4 113 RX4 yX4_goal wsX4_goal) := goodIn_app (goodIn_of _ (by decide +kernel)) ggX4_parts_X4_goal
theorem dX4_parts_0 : decode cX4_parts 0 = .ok (.aload_n 0, 1) := by decide +kernel
theorem dX4_parts_1 : decode cX4_parts 1 = .ok (.iconst 0, 1) := by decide +kernel
theorem dX4_parts_2 : decode cX4_parts 2 = .ok (.putfield 54, 3) := by decide +kernel
theorem dX4_parts_5 : decode cX4_parts 5 = .ok (.aload_n 0, 1) := by decide +kernel
theorem dX4_parts_6 : decode cX4_parts 6 = .ok (.getfield 61, 3) := by decide +kernel
theorem dX4_parts_9 : decode cX4_parts 9 = .ok (.ifCond .ne 7, 3) := by decide +kernel
theorem dX4_parts_12 : decode cX4_parts 12 = .ok (.iconst 0, 1) := by decide +kernel
theorem dX4_parts_13 : decode cX4_parts 13 = .ok (.goto 4, 3) := by decide +kernel
theorem dX4_parts_16 : decode cX4_parts 16 = .ok (.iconst 1, 1) := by decide +kernel
theorem dX4_parts_17 : decode cX4_parts 17 = .ok (.istore_n 1, 1) := by decide +kernel
theorem dX4_parts_18 : decode cX4_parts 18 = .ok (.iconst 1, 1) := by decide +kernel
theorem dX4_parts_19 : decode cX4_parts 19 = .ok (.istore_n 2, 1) := by decide +kernel
theorem dX4_parts_20 : decode cX4_parts 20 = .ok (.iload_n 2, 1) := by decide +kernel
theorem dX4_parts_21 : decode cX4_parts 21 = .ok (.aload_n 0, 1) := by decide +kernel
theorem dX4_parts_22 : decode cX4_parts 22 = .ok (.getfield 61, 3) := by decide +kernel
theorem dX4_parts_25 : decode cX4_parts 25 = .ok (.if_icmp .ge 70, 3) := by decide +kernel
theorem dX4_parts_28 : decode cX4_parts 28 = .ok (.iconst 1, 1) := by decide +kernel
theorem dX4_parts_29 : decode cX4_parts 29 = .ok (.istore_n 3, 1) := by decide +kernel
theorem dX4_parts_30 : decode cX4_parts 30 = .ok (.iconst 0, 1) := by decide +kernel
theorem dX4_parts_31 : decode cX4_parts 31 = .ok (.istore 4, 2) := by decide +kernel
theorem dX4_parts_33 : decode cX4_parts 33 = .ok (.iload 4, 2) := by decide +kernel
theorem dX4_parts_35 : decode cX4_parts 35 = .ok (.aload_n 0, 1) := by decide +kernel
theorem dX4_parts_36 : decode cX4_parts 36 = .ok (.getfield 7, 3) := by decide +kernel
theorem dX4_parts_39 : decode cX4_parts 39 = .ok (.if_icmp .ge 38, 3) := by decide +kernel
theorem dX4_parts_42 : decode cX4_parts 42 = .ok (.iload_n 3, 1) := by decide +kernel
theorem dX4_parts_43 : decode cX4_parts 43 = .ok (.ifCond .eq 26, 3) := by decide +kernel
theorem dX4_parts_46 : decode cX4_parts 46 = .ok (.aload_n 0, 1) := by decide +kernel
theorem dX4_parts_47 : decode cX4_parts 47 = .ok (.iload_n 2, 1) := by decide +kernel
theorem dX4_parts_48 : decode cX4_parts 48 = .ok (.iconst 1, 1) := by decide +kernel
theorem dX4_parts_49 : decode cX4_parts 49 = .ok (.isub, 1) := by decide +kernel
theorem dX4_parts_50 : decode cX4_parts 50 = .ok (.iload 4, 2) := by decide +kernel
theorem dX4_parts_52 : decode cX4_parts 52 = .ok (.invokevirtual 113, 3) := by decide +kernel
theorem dX4_parts_55 : decode cX4_parts 55 = .ok (.aload_n 0, 1) := by decide +kernel
theorem dX4_parts_56 : decode cX4_parts 56 = .ok (.iload_n 2, 1) := by decide +kernel
theorem dX4_parts_57 : decode cX4_parts 57 = .ok (.iload 4, 2) := by decide +kernel
theorem dX4_parts_59 : decode cX4_parts 59 = .ok (.invokevirtual 113, 3) := by decide +kernel
theorem dX4_parts_62 : decode cX4_parts 62 = .ok (.if_icmp .ne 7, 3) := by decide +kernel
theorem dX4_parts_65 : decode cX4_parts 65 = .ok (.iconst 1, 1) := by decide +kernel
theorem dX4_parts_66 : decode cX4_parts 66 = .ok (.goto 4, 3) := by decide +kernel
theorem dX4_parts_69 : decode cX4_parts 69 = .ok (.iconst 0, 1) := by decide +kernel
theorem dX4_parts_70 : decode cX4_parts 70 = .ok (.istore_n 3, 1) := by decide +kernel
theorem dX4_parts_71 : decode cX4_parts 71 = .ok (.iinc 4 1, 3) := by decide +kernel
theorem dX4_parts_74 : decode cX4_parts 74 = .ok (.goto (-41), 3) := by decide +kernel
theorem dX4_parts_77 : decode cX4_parts 77 = .ok (.iload_n 1, 1) := by decide +kernel
theorem dX4_parts_78 : decode cX4_parts 78 = .ok (.iload_n 3, 1) := by decide +kernel
theorem dX4_parts_79 : decode cX4_parts 79 = .ok (.ifCond .eq 7, 3) := by decide +kernel
theorem dX4_parts_82 : decode cX4_parts 82 = .ok (.iconst 0, 1) := by decide +kernel
theorem dX4_parts_83 : decode cX4_parts 83 = .ok (.goto 4, 3) := by decide +kernel
theorem dX4_parts_86 : decode cX4_parts 86 = .ok (.iconst 1, 1) := by decide +kernel
theorem dX4_parts_87 : decode cX4_parts 87 = .ok (.iadd, 1) := by decide +kernel
theorem dX4_parts_88 : decode cX4_parts 88 = .ok (.istore_n 1, 1) := by decide +kernel
theorem dX4_parts_89 : decode cX4_parts 89 = .ok (.iinc 2 1, 3) := by decide +kernel
theorem dX4_parts_92 : decode cX4_parts 92 = .ok (.goto (-72), 3) := by decide +kernel
theorem dX4_parts_95 : decode cX4_parts 95 = .ok (.iload_n 1, 1) := by decide +kernel
theorem dX4_parts_96 : decode cX4_parts 96 = .ok (.ireturn, 1) := by decide +kernel
set_option maxRecDepth 20000 in
theorem ggX4_dropAll_X4_reach : GoodIn wsX4_dropAll wsX4_reach := goodIn_r _ [7, 8, 9, 10, 11, 12, 13, 14, 15, 16, 6, 17, 18, 19, 20, 21, 22, 23, 24, 25, 26, 27, 28, 29, 30, 31, 32, 33, 34, 35, 36, 2, 37, 38, 39, 40, 57, 58, 59, 60, 61, 62, 63, 64, 65, 66, 67, 68, 69, 70, 71, 72, 73, 74, 75, 76] (by decide +kernel) (by decide +kernel)
set_option maxRecDepth 20000 in
theorem gX4_dropAll_X4_reach : GoodIn wsX4_dropAll (wsV RX4 119 RX4 yX4_reach wsX4_reach) := goodIn_app (goodIn_of _ (by decide +kernel)) ggX4_dropAll_X4_reach
set_option maxRecDepth 20000 in
theorem ggX4_dropAll_X4_isTaking : GoodIn wsX4_dropAll wsX4_isTaking := goodIn_r _ [44, 9, 45, 46, 47, 6, 48, 12, 8, 13, 25, 26, 27, 33, 34, 35, 36, 2, 37, 38, 39, 40, 57, 58, 59, 60, 61, 62, 63, 64, 65, 66, 67, 68, 69, 70, 71, 72, 73, 74, 75, 76] (by decide +kernel) (by decide +kernel)
set_option maxRecDepth 20000 in
theorem gX4_dropAll_X4_isTaking : GoodIn wsX4_dropAll (wsV RX4 122 RX4 yX4_isTaking wsX4_isTaking) := goodIn_app (goodIn_of _ (by decide +kernel)) ggX4_dropAll_X4_isTaking
set_option maxRecDepth 20000 in
theorem ggX4_dropAll_X4_remove : GoodIn wsX4_dropAll wsX4_remove := goodIn_r _ [52, 2, 37, 38, 40, 32, 53, 54, 55, 6, 56, 57, 58, 59, 60, 61, 62, 63, 64, 65, 66, 67, 68, 69, 70, 71, 72, 73, 74, 75, 76] (by decide +kernel) (by decide +kernel)
set_option maxRecDepth 20000 in
theorem gX4_dropAll_X4_remove : GoodIn wsX4_dropAll (wsV RX4 103 RX4 yX4_remove wsX4_remove) := goodIn_app (goodIn_of _ (by decide +kernel)) ggX4_dropAll_X4_remove
theorem dX4_dropAll_0 : decode cX4_dropAll 0 = .ok (.aload_n 0, 1) := by decide +kernel
theorem dX4_dropAll_1 : decode cX4_dropAll 1 = .ok (.invokevirtual 119, 3) := by decide +kernel
theorem dX4_dropAll_4 : decode cX4_dropAll 4 = .ok (.bipush 24, 2) := by decide +kernel
theorem dX4_dropAll_6 : decode cX4_dropAll 6 = .ok (.newarray .boolean, 2) := by decide +kernel
theorem dX4_dropAll_8 : decode cX4_dropAll 8 = .ok (.astore_n 1, 1) := by decide +kernel
theorem dX4_dropAll_9 : decode cX4_dropAll 9 = .ok (.iconst 0, 1) := by decide +kernel
theorem dX4_dropAll_10 : decode cX4_dropAll 10 = .ok (.istore_n 2, 1) := by decide +kernel
theorem dX4_dropAll_11 : decode cX4_dropAll 11 = .ok (.iload_n 2, 1) := by decide +kernel
theorem dX4_dropAll_12 : decode cX4_dropAll 12 = .ok (.aload_n 0, 1) := by decide +kernel
theorem dX4_dropAll_13 : decode cX4_dropAll 13 = .ok (.getfield 64, 3) := by decide +kernel
theorem dX4_dropAll_16 : decode cX4_dropAll 16 = .ok (.if_icmp .ge 17, 3) := by decide +kernel
theorem dX4_dropAll_19 : decode cX4_dropAll 19 = .ok (.aload_n 1, 1) := by decide +kernel
theorem dX4_dropAll_20 : decode cX4_dropAll 20 = .ok (.iload_n 2, 1) := by decide +kernel
theorem dX4_dropAll_21 : decode cX4_dropAll 21 = .ok (.aload_n 0, 1) := by decide +kernel
theorem dX4_dropAll_22 : decode cX4_dropAll 22 = .ok (.iload_n 2, 1) := by decide +kernel
theorem dX4_dropAll_23 : decode cX4_dropAll 23 = .ok (.invokevirtual 122, 3) := by decide +kernel
theorem dX4_dropAll_26 : decode cX4_dropAll 26 = .ok (.bastore, 1) := by decide +kernel
theorem dX4_dropAll_27 : decode cX4_dropAll 27 = .ok (.iinc 2 1, 3) := by decide +kernel
theorem dX4_dropAll_30 : decode cX4_dropAll 30 = .ok (.goto (-19), 3) := by decide +kernel
theorem dX4_dropAll_33 : decode cX4_dropAll 33 = .ok (.iconst 0, 1) := by decide +kernel
theorem dX4_dropAll_34 : decode cX4_dropAll 34 = .ok (.istore_n 2, 1) := by decide +kernel
theorem dX4_dropAll_35 : decode cX4_dropAll 35 = .ok (.aload_n 0, 1) := by decide +kernel
theorem dX4_dropAll_36 : decode cX4_dropAll 36 = .ok (.getfield 64, 3) := by decide +kernel
theorem dX4_dropAll_39 : decode cX4_dropAll 39 = .ok (.iconst 1, 1) := by decide +kernel
theorem dX4_dropAll_40 : decode cX4_dropAll 40 = .ok (.isub, 1) := by decide +kernel
theorem dX4_dropAll_41 : decode cX4_dropAll 41 = .ok (.istore_n 3, 1) := by decide +kernel
theorem dX4_dropAll_42 : decode cX4_dropAll 42 = .ok (.iload_n 3, 1) := by decide +kernel
theorem dX4_dropAll_43 : decode cX4_dropAll 43 = .ok (.ifCond .lt 26, 3) := by decide +kernel
theorem dX4_dropAll_46 : decode cX4_dropAll 46 = .ok (.aload_n 1, 1) := by decide +kernel
theorem dX4_dropAll_47 : decode cX4_dropAll 47 = .ok (.iload_n 3, 1) := by decide +kernel
theorem dX4_dropAll_48 : decode cX4_dropAll 48 = .ok (.baload, 1) := by decide +kernel
theorem dX4_dropAll_49 : decode cX4_dropAll 49 = .ok (.ifCond .eq 6, 3) := by decide +kernel
theorem dX4_dropAll_52 : decode cX4_dropAll 52 = .ok (.goto 11, 3) := by decide +kernel
theorem dX4_dropAll_55 : decode cX4_dropAll 55 = .ok (.aload_n 0, 1) := by decide +kernel
theorem dX4_dropAll_56 : decode cX4_dropAll 56 = .ok (.iload_n 3, 1) := by decide +kernel
theorem dX4_dropAll_57 : decode cX4_dropAll 57 = .ok (.invokevirtual 103, 3) := by decide +kernel
theorem dX4_dropAll_60 : decode cX4_dropAll 60 = .ok (.iinc 2 1, 3) := by decide +kernel
theorem dX4_dropAll_63 : decode cX4_dropAll 63 = .ok (.iinc 3 (-1), 3) := by decide +kernel
theorem dX4_dropAll_66 : decode cX4_dropAll 66 = .ok (.goto (-24), 3) := by decide +kernel
theorem dX4_dropAll_69 : decode cX4_dropAll 69 = .ok (.iload_n 2, 1) := by decide +kernel
theorem dX4_dropAll_70 : decode cX4_dropAll 70 = .ok (.ireturn, 1) := by decide +kernel
set_option maxRecDepth 20000 in
theorem ggX4_shrinkAll_X4_reach : GoodIn wsX4_shrinkAll wsX4_reach := goodIn_r _ [10, 11, 3, 12, 13, 14, 15, 16, 17, 18, 9, 19, 20, 21, 22, 23, 24, 25, 26, 27, 28, 29, 30, 31, 32, 33, 34, 35, 36, 37, 38, 2, 4, 5, 39, 40, 45, 46, 47, 48, 49, 50, 51, 52, 53, 54, 55, 56, 57, 58, 59, 60, 61, 62, 63, 64] (by decide +kernel) (by decide +kernel)
set_option maxRecDepth 20000 in
theorem gX4_shrinkAll_X4_reach : GoodIn wsX4_shrinkAll (wsV RX4 119 RX4 yX4_reach wsX4_reach) := goodIn_app (goodIn_of _ (by decide +kernel)) ggX4_shrinkAll_X4_reach
set_option maxRecDepth 20000 in
theorem ggX4_shrinkAll_X4_takes : GoodIn wsX4_shrinkAll wsX4_takes := goodIn_r _ [44, 14, 11, 15, 27, 28, 9, 29, 35, 36, 37, 38, 2, 4, 5, 39, 40, 45, 46, 47, 48, 49, 50, 51, 52, 53, 54, 55, 56, 57, 58, 59, 60, 61, 62, 63, 64] (by decide +kernel) (by decide +kernel)
set_option maxRecDepth 20000 in
theorem gX4_shrinkAll_X4_takes : GoodIn wsX4_shrinkAll (wsV RX4 116 RX4 yX4_takes wsX4_takes) := goodIn_app (goodIn_of _ (by decide +kernel)) ggX4_shrinkAll_X4_takes
theorem dX4_shrinkAll_0 : decode cX4_shrinkAll 0 = .ok (.aload_n 0, 1) := by decide +kernel
theorem dX4_shrinkAll_1 : decode cX4_shrinkAll 1 = .ok (.invokevirtual 119, 3) := by decide +kernel
theorem dX4_shrinkAll_4 : decode cX4_shrinkAll 4 = .ok (.iconst 0, 1) := by decide +kernel
theorem dX4_shrinkAll_5 : decode cX4_shrinkAll 5 = .ok (.istore_n 1, 1) := by decide +kernel
theorem dX4_shrinkAll_6 : decode cX4_shrinkAll 6 = .ok (.bipush 24, 2) := by decide +kernel
theorem dX4_shrinkAll_8 : decode cX4_shrinkAll 8 = .ok (.newarray .int, 2) := by decide +kernel
theorem dX4_shrinkAll_10 : decode cX4_shrinkAll 10 = .ok (.astore_n 2, 1) := by decide +kernel
theorem dX4_shrinkAll_11 : decode cX4_shrinkAll 11 = .ok (.bipush 24, 2) := by decide +kernel
theorem dX4_shrinkAll_13 : decode cX4_shrinkAll 13 = .ok (.newarray .int, 2) := by decide +kernel
theorem dX4_shrinkAll_15 : decode cX4_shrinkAll 15 = .ok (.astore_n 3, 1) := by decide +kernel
theorem dX4_shrinkAll_16 : decode cX4_shrinkAll 16 = .ok (.iconst 0, 1) := by decide +kernel
theorem dX4_shrinkAll_17 : decode cX4_shrinkAll 17 = .ok (.istore 4, 2) := by decide +kernel
theorem dX4_shrinkAll_19 : decode cX4_shrinkAll 19 = .ok (.iload 4, 2) := by decide +kernel
theorem dX4_shrinkAll_21 : decode cX4_shrinkAll 21 = .ok (.aload_n 0, 1) := by decide +kernel
theorem dX4_shrinkAll_22 : decode cX4_shrinkAll 22 = .ok (.getfield 64, 3) := by decide +kernel
theorem dX4_shrinkAll_25 : decode cX4_shrinkAll 25 = .ok (.if_icmp .ge 68, 3) := by decide +kernel
theorem dX4_shrinkAll_28 : decode cX4_shrinkAll 28 = .ok (.aload_n 2, 1) := by decide +kernel
theorem dX4_shrinkAll_29 : decode cX4_shrinkAll 29 = .ok (.iload 4, 2) := by decide +kernel
theorem dX4_shrinkAll_31 : decode cX4_shrinkAll 31 = .ok (.iconst (-1), 1) := by decide +kernel
theorem dX4_shrinkAll_32 : decode cX4_shrinkAll 32 = .ok (.iastore, 1) := by decide +kernel
theorem dX4_shrinkAll_33 : decode cX4_shrinkAll 33 = .ok (.iconst 0, 1) := by decide +kernel
theorem dX4_shrinkAll_34 : decode cX4_shrinkAll 34 = .ok (.istore 5, 2) := by decide +kernel
theorem dX4_shrinkAll_36 : decode cX4_shrinkAll 36 = .ok (.iload 5, 2) := by decide +kernel
theorem dX4_shrinkAll_38 : decode cX4_shrinkAll 38 = .ok (.aload_n 0, 1) := by decide +kernel
theorem dX4_shrinkAll_39 : decode cX4_shrinkAll 39 = .ok (.getfield 61, 3) := by decide +kernel
theorem dX4_shrinkAll_42 : decode cX4_shrinkAll 42 = .ok (.if_icmp .ge 45, 3) := by decide +kernel
theorem dX4_shrinkAll_45 : decode cX4_shrinkAll 45 = .ok (.aload_n 0, 1) := by decide +kernel
theorem dX4_shrinkAll_46 : decode cX4_shrinkAll 46 = .ok (.iload 4, 2) := by decide +kernel
theorem dX4_shrinkAll_48 : decode cX4_shrinkAll 48 = .ok (.iload 5, 2) := by decide +kernel
theorem dX4_shrinkAll_50 : decode cX4_shrinkAll 50 = .ok (.invokevirtual 116, 3) := by decide +kernel
theorem dX4_shrinkAll_53 : decode cX4_shrinkAll 53 = .ok (.ifCond .ne 6, 3) := by decide +kernel
theorem dX4_shrinkAll_56 : decode cX4_shrinkAll 56 = .ok (.goto 25, 3) := by decide +kernel
theorem dX4_shrinkAll_59 : decode cX4_shrinkAll 59 = .ok (.aload_n 2, 1) := by decide +kernel
theorem dX4_shrinkAll_60 : decode cX4_shrinkAll 60 = .ok (.iload 4, 2) := by decide +kernel
theorem dX4_shrinkAll_62 : decode cX4_shrinkAll 62 = .ok (.iaload, 1) := by decide +kernel
theorem dX4_shrinkAll_63 : decode cX4_shrinkAll 63 = .ok (.iconst (-1), 1) := by decide +kernel
theorem dX4_shrinkAll_64 : decode cX4_shrinkAll 64 = .ok (.if_icmp .ne 9, 3) := by decide +kernel
theorem dX4_shrinkAll_67 : decode cX4_shrinkAll 67 = .ok (.aload_n 2, 1) := by decide +kernel
theorem dX4_shrinkAll_68 : decode cX4_shrinkAll 68 = .ok (.iload 4, 2) := by decide +kernel
theorem dX4_shrinkAll_70 : decode cX4_shrinkAll 70 = .ok (.iload 5, 2) := by decide +kernel
theorem dX4_shrinkAll_72 : decode cX4_shrinkAll 72 = .ok (.iastore, 1) := by decide +kernel
theorem dX4_shrinkAll_73 : decode cX4_shrinkAll 73 = .ok (.aload_n 3, 1) := by decide +kernel
theorem dX4_shrinkAll_74 : decode cX4_shrinkAll 74 = .ok (.iload 4, 2) := by decide +kernel
theorem dX4_shrinkAll_76 : decode cX4_shrinkAll 76 = .ok (.iload 5, 2) := by decide +kernel
theorem dX4_shrinkAll_78 : decode cX4_shrinkAll 78 = .ok (.iconst 1, 1) := by decide +kernel
theorem dX4_shrinkAll_79 : decode cX4_shrinkAll 79 = .ok (.iadd, 1) := by decide +kernel
theorem dX4_shrinkAll_80 : decode cX4_shrinkAll 80 = .ok (.iastore, 1) := by decide +kernel
theorem dX4_shrinkAll_81 : decode cX4_shrinkAll 81 = .ok (.iinc 5 1, 3) := by decide +kernel
theorem dX4_shrinkAll_84 : decode cX4_shrinkAll 84 = .ok (.goto (-48), 3) := by decide +kernel
theorem dX4_shrinkAll_87 : decode cX4_shrinkAll 87 = .ok (.iinc 4 1, 3) := by decide +kernel
theorem dX4_shrinkAll_90 : decode cX4_shrinkAll 90 = .ok (.goto (-71), 3) := by decide +kernel
theorem dX4_shrinkAll_93 : decode cX4_shrinkAll 93 = .ok (.iconst 0, 1) := by decide +kernel
theorem dX4_shrinkAll_94 : decode cX4_shrinkAll 94 = .ok (.istore 4, 2) := by decide +kernel
theorem dX4_shrinkAll_96 : decode cX4_shrinkAll 96 = .ok (.iload 4, 2) := by decide +kernel
theorem dX4_shrinkAll_98 : decode cX4_shrinkAll 98 = .ok (.aload_n 0, 1) := by decide +kernel
theorem dX4_shrinkAll_99 : decode cX4_shrinkAll 99 = .ok (.getfield 64, 3) := by decide +kernel
theorem dX4_shrinkAll_102 : decode cX4_shrinkAll 102 = .ok (.if_icmp .ge 73, 3) := by decide +kernel
theorem dX4_shrinkAll_105 : decode cX4_shrinkAll 105 = .ok (.aload_n 2, 1) := by decide +kernel
theorem dX4_shrinkAll_106 : decode cX4_shrinkAll 106 = .ok (.iload 4, 2) := by decide +kernel
theorem dX4_shrinkAll_108 : decode cX4_shrinkAll 108 = .ok (.iaload, 1) := by decide +kernel
theorem dX4_shrinkAll_109 : decode cX4_shrinkAll 109 = .ok (.iconst (-1), 1) := by decide +kernel
theorem dX4_shrinkAll_110 : decode cX4_shrinkAll 110 = .ok (.if_icmp .eq 59, 3) := by decide +kernel
theorem dX4_shrinkAll_113 : decode cX4_shrinkAll 113 = .ok (.aload_n 2, 1) := by decide +kernel
theorem dX4_shrinkAll_114 : decode cX4_shrinkAll 114 = .ok (.iload 4, 2) := by decide +kernel
theorem dX4_shrinkAll_116 : decode cX4_shrinkAll 116 = .ok (.iaload, 1) := by decide +kernel
theorem dX4_shrinkAll_117 : decode cX4_shrinkAll 117 = .ok (.aload_n 0, 1) := by decide +kernel
theorem dX4_shrinkAll_118 : decode cX4_shrinkAll 118 = .ok (.getfield 26, 3) := by decide +kernel
theorem dX4_shrinkAll_121 : decode cX4_shrinkAll 121 = .ok (.iload 4, 2) := by decide +kernel
theorem dX4_shrinkAll_123 : decode cX4_shrinkAll 123 = .ok (.iaload, 1) := by decide +kernel
theorem dX4_shrinkAll_124 : decode cX4_shrinkAll 124 = .ok (.if_icmp .ne 20, 3) := by decide +kernel
theorem dX4_shrinkAll_127 : decode cX4_shrinkAll 127 = .ok (.aload_n 3, 1) := by decide +kernel
theorem dX4_shrinkAll_128 : decode cX4_shrinkAll 128 = .ok (.iload 4, 2) := by decide +kernel
theorem dX4_shrinkAll_130 : decode cX4_shrinkAll 130 = .ok (.iaload, 1) := by decide +kernel
theorem dX4_shrinkAll_131 : decode cX4_shrinkAll 131 = .ok (.aload_n 0, 1) := by decide +kernel
theorem dX4_shrinkAll_132 : decode cX4_shrinkAll 132 = .ok (.getfield 29, 3) := by decide +kernel
theorem dX4_shrinkAll_135 : decode cX4_shrinkAll 135 = .ok (.iload 4, 2) := by decide +kernel
theorem dX4_shrinkAll_137 : decode cX4_shrinkAll 137 = .ok (.iaload, 1) := by decide +kernel
theorem dX4_shrinkAll_138 : decode cX4_shrinkAll 138 = .ok (.if_icmp .ne 6, 3) := by decide +kernel
theorem dX4_shrinkAll_141 : decode cX4_shrinkAll 141 = .ok (.goto 28, 3) := by decide +kernel
theorem dX4_shrinkAll_144 : decode cX4_shrinkAll 144 = .ok (.aload_n 0, 1) := by decide +kernel
theorem dX4_shrinkAll_145 : decode cX4_shrinkAll 145 = .ok (.getfield 26, 3) := by decide +kernel
theorem dX4_shrinkAll_148 : decode cX4_shrinkAll 148 = .ok (.iload 4, 2) := by decide +kernel
theorem dX4_shrinkAll_150 : decode cX4_shrinkAll 150 = .ok (.aload_n 2, 1) := by decide +kernel
theorem dX4_shrinkAll_151 : decode cX4_shrinkAll 151 = .ok (.iload 4, 2) := by decide +kernel
theorem dX4_shrinkAll_153 : decode cX4_shrinkAll 153 = .ok (.iaload, 1) := by decide +kernel
theorem dX4_shrinkAll_154 : decode cX4_shrinkAll 154 = .ok (.iastore, 1) := by decide +kernel
theorem dX4_shrinkAll_155 : decode cX4_shrinkAll 155 = .ok (.aload_n 0, 1) := by decide +kernel
theorem dX4_shrinkAll_156 : decode cX4_shrinkAll 156 = .ok (.getfield 29, 3) := by decide +kernel
theorem dX4_shrinkAll_159 : decode cX4_shrinkAll 159 = .ok (.iload 4, 2) := by decide +kernel
theorem dX4_shrinkAll_161 : decode cX4_shrinkAll 161 = .ok (.aload_n 3, 1) := by decide +kernel
theorem dX4_shrinkAll_162 : decode cX4_shrinkAll 162 = .ok (.iload 4, 2) := by decide +kernel
theorem dX4_shrinkAll_164 : decode cX4_shrinkAll 164 = .ok (.iaload, 1) := by decide +kernel
theorem dX4_shrinkAll_165 : decode cX4_shrinkAll 165 = .ok (.iastore, 1) := by decide +kernel
theorem dX4_shrinkAll_166 : decode cX4_shrinkAll 166 = .ok (.iinc 1 1, 3) := by decide +kernel
theorem dX4_shrinkAll_169 : decode cX4_shrinkAll 169 = .ok (.iinc 4 1, 3) := by decide +kernel
theorem dX4_shrinkAll_172 : decode cX4_shrinkAll 172 = .ok (.goto (-76), 3) := by decide +kernel
theorem dX4_shrinkAll_175 : decode cX4_shrinkAll 175 = .ok (.iload_n 1, 1) := by decide +kernel
theorem dX4_shrinkAll_176 : decode cX4_shrinkAll 176 = .ok (.ireturn, 1) := by decide +kernel
set_option maxRecDepth 20000 in
theorem ggX4_remember_X4_goal : GoodIn wsX4_remember wsX4_goal := goodIn_r _ [8, 9, 10, 11, 12, 7, 13, 14, 15, 16, 17, 18, 19, 20, 21, 22, 23, 24, 25, 26, 27, 28, 29, 30, 31, 32, 33, 34, 35, 36, 37, 38, 39, 40, 41] (by decide +kernel) (by decide +kernel)
set_option maxRecDepth 20000 in
theorem gX4_remember_X4_goal : GoodIn wsX4_remember (wsV RX4 113 RX4 yX4_goal wsX4_goal) := goodIn_app (goodIn_of _ (by decide +kernel)) ggX4_remember_X4_goal
theorem dX4_remember_0 : decode cX4_remember 0 = .ok (.iconst 0, 1) := by decide +kernel
theorem dX4_remember_1 : decode cX4_remember 1 = .ok (.istore_n 1, 1) := by decide +kernel
theorem dX4_remember_2 : decode cX4_remember 2 = .ok (.iload_n 1, 1) := by decide +kernel
theorem dX4_remember_3 : decode cX4_remember 3 = .ok (.aload_n 0, 1) := by decide +kernel
theorem dX4_remember_4 : decode cX4_remember 4 = .ok (.getfield 61, 3) := by decide +kernel
theorem dX4_remember_7 : decode cX4_remember 7 = .ok (.if_icmp .ge 42, 3) := by decide +kernel
theorem dX4_remember_10 : decode cX4_remember 10 = .ok (.iconst 0, 1) := by decide +kernel
theorem dX4_remember_11 : decode cX4_remember 11 = .ok (.istore_n 2, 1) := by decide +kernel
theorem dX4_remember_12 : decode cX4_remember 12 = .ok (.iload_n 2, 1) := by decide +kernel
theorem dX4_remember_13 : decode cX4_remember 13 = .ok (.aload_n 0, 1) := by decide +kernel
theorem dX4_remember_14 : decode cX4_remember 14 = .ok (.getfield 7, 3) := by decide +kernel
theorem dX4_remember_17 : decode cX4_remember 17 = .ok (.if_icmp .ge 26, 3) := by decide +kernel
theorem dX4_remember_20 : decode cX4_remember 20 = .ok (.aload_n 0, 1) := by decide +kernel
theorem dX4_remember_21 : decode cX4_remember 21 = .ok (.getfield 48, 3) := by decide +kernel
theorem dX4_remember_24 : decode cX4_remember 24 = .ok (.bipush 8, 2) := by decide +kernel
theorem dX4_remember_26 : decode cX4_remember 26 = .ok (.iload_n 1, 1) := by decide +kernel
theorem dX4_remember_27 : decode cX4_remember 27 = .ok (.imul, 1) := by decide +kernel
theorem dX4_remember_28 : decode cX4_remember 28 = .ok (.iload_n 2, 1) := by decide +kernel
theorem dX4_remember_29 : decode cX4_remember 29 = .ok (.iadd, 1) := by decide +kernel
theorem dX4_remember_30 : decode cX4_remember 30 = .ok (.aload_n 0, 1) := by decide +kernel
theorem dX4_remember_31 : decode cX4_remember 31 = .ok (.iload_n 1, 1) := by decide +kernel
theorem dX4_remember_32 : decode cX4_remember 32 = .ok (.iload_n 2, 1) := by decide +kernel
theorem dX4_remember_33 : decode cX4_remember 33 = .ok (.invokevirtual 113, 3) := by decide +kernel
theorem dX4_remember_36 : decode cX4_remember 36 = .ok (.iastore, 1) := by decide +kernel
theorem dX4_remember_37 : decode cX4_remember 37 = .ok (.iinc 2 1, 3) := by decide +kernel
theorem dX4_remember_40 : decode cX4_remember 40 = .ok (.goto (-28), 3) := by decide +kernel
theorem dX4_remember_43 : decode cX4_remember 43 = .ok (.iinc 1 1, 3) := by decide +kernel
theorem dX4_remember_46 : decode cX4_remember 46 = .ok (.goto (-44), 3) := by decide +kernel
theorem dX4_remember_49 : decode cX4_remember 49 = .ok (.return_, 1) := by decide +kernel
set_option maxRecDepth 20000 in
theorem ggX4_isAsBefore_X4_has : GoodIn wsX4_isAsBefore wsX4_has := goodIn_r _ [9] (by decide +kernel) (by decide +kernel)
set_option maxRecDepth 20000 in
theorem gX4_isAsBefore_X4_has : GoodIn wsX4_isAsBefore (va_wsS RX4 75 yX4_has wsX4_has) := goodIn_app (goodIn_of _ (by decide +kernel)) ggX4_isAsBefore_X4_has
set_option maxRecDepth 20000 in
theorem ggX4_isAsBefore_X4_goal : GoodIn wsX4_isAsBefore wsX4_goal := goodIn_r _ [13, 14, 15, 16, 17, 8, 18, 19, 20, 21, 22, 23, 6, 7, 9, 24, 25, 26, 27, 28, 29, 30, 31, 32, 33, 34, 35, 36, 37, 38, 39, 40, 41, 42, 43] (by decide +kernel) (by decide +kernel)
set_option maxRecDepth 20000 in
theorem gX4_isAsBefore_X4_goal : GoodIn wsX4_isAsBefore (wsV RX4 113 RX4 yX4_goal wsX4_goal) := goodIn_app (goodIn_of _ (by decide +kernel)) ggX4_isAsBefore_X4_goal
theorem dX4_isAsBefore_0 : decode cX4_isAsBefore 0 = .ok (.iconst 1, 1) := by decide +kernel
theorem dX4_isAsBefore_1 : decode cX4_isAsBefore 1 = .ok (.istore_n 1, 1) := by decide +kernel
theorem dX4_isAsBefore_2 : decode cX4_isAsBefore 2 = .ok (.iconst 0, 1) := by decide +kernel
theorem dX4_isAsBefore_3 : decode cX4_isAsBefore 3 = .ok (.istore_n 2, 1) := by decide +kernel
theorem dX4_isAsBefore_4 : decode cX4_isAsBefore 4 = .ok (.iload_n 2, 1) := by decide +kernel
theorem dX4_isAsBefore_5 : decode cX4_isAsBefore 5 = .ok (.aload_n 0, 1) := by decide +kernel
theorem dX4_isAsBefore_6 : decode cX4_isAsBefore 6 = .ok (.getfield 61, 3) := by decide +kernel
theorem dX4_isAsBefore_9 : decode cX4_isAsBefore 9 = .ok (.if_icmp .ge 81, 3) := by decide +kernel
theorem dX4_isAsBefore_12 : decode cX4_isAsBefore 12 = .ok (.iload_n 1, 1) := by decide +kernel
theorem dX4_isAsBefore_13 : decode cX4_isAsBefore 13 = .ok (.ifCond .eq 77, 3) := by decide +kernel
theorem dX4_isAsBefore_16 : decode cX4_isAsBefore 16 = .ok (.iconst 0, 1) := by decide +kernel
theorem dX4_isAsBefore_17 : decode cX4_isAsBefore 17 = .ok (.istore_n 3, 1) := by decide +kernel
theorem dX4_isAsBefore_18 : decode cX4_isAsBefore 18 = .ok (.iload_n 3, 1) := by decide +kernel
theorem dX4_isAsBefore_19 : decode cX4_isAsBefore 19 = .ok (.aload_n 0, 1) := by decide +kernel
theorem dX4_isAsBefore_20 : decode cX4_isAsBefore 20 = .ok (.getfield 7, 3) := by decide +kernel
theorem dX4_isAsBefore_23 : decode cX4_isAsBefore 23 = .ok (.if_icmp .ge 61, 3) := by decide +kernel
theorem dX4_isAsBefore_26 : decode cX4_isAsBefore 26 = .ok (.aload_n 0, 1) := by decide +kernel
theorem dX4_isAsBefore_27 : decode cX4_isAsBefore 27 = .ok (.getfield 44, 3) := by decide +kernel
theorem dX4_isAsBefore_30 : decode cX4_isAsBefore 30 = .ok (.iload_n 2, 1) := by decide +kernel
theorem dX4_isAsBefore_31 : decode cX4_isAsBefore 31 = .ok (.baload, 1) := by decide +kernel
theorem dX4_isAsBefore_32 : decode cX4_isAsBefore 32 = .ok (.ifCond .eq 52, 3) := by decide +kernel
theorem dX4_isAsBefore_35 : decode cX4_isAsBefore 35 = .ok (.iload_n 1, 1) := by decide +kernel
theorem dX4_isAsBefore_36 : decode cX4_isAsBefore 36 = .ok (.ifCond .eq 48, 3) := by decide +kernel
theorem dX4_isAsBefore_39 : decode cX4_isAsBefore 39 = .ok (.aload_n 0, 1) := by decide +kernel
theorem dX4_isAsBefore_40 : decode cX4_isAsBefore 40 = .ok (.getfield 20, 3) := by decide +kernel
theorem dX4_isAsBefore_43 : decode cX4_isAsBefore 43 = .ok (.iload_n 2, 1) := by decide +kernel
theorem dX4_isAsBefore_44 : decode cX4_isAsBefore 44 = .ok (.iaload, 1) := by decide +kernel
theorem dX4_isAsBefore_45 : decode cX4_isAsBefore 45 = .ok (.iload_n 3, 1) := by decide +kernel
theorem dX4_isAsBefore_46 : decode cX4_isAsBefore 46 = .ok (.invokestatic 75, 3) := by decide +kernel
theorem dX4_isAsBefore_49 : decode cX4_isAsBefore 49 = .ok (.ifCond .eq 23, 3) := by decide +kernel
theorem dX4_isAsBefore_52 : decode cX4_isAsBefore 52 = .ok (.aload_n 0, 1) := by decide +kernel
theorem dX4_isAsBefore_53 : decode cX4_isAsBefore 53 = .ok (.getfield 48, 3) := by decide +kernel
theorem dX4_isAsBefore_56 : decode cX4_isAsBefore 56 = .ok (.bipush 8, 2) := by decide +kernel
theorem dX4_isAsBefore_58 : decode cX4_isAsBefore 58 = .ok (.iload_n 2, 1) := by decide +kernel
theorem dX4_isAsBefore_59 : decode cX4_isAsBefore 59 = .ok (.imul, 1) := by decide +kernel
theorem dX4_isAsBefore_60 : decode cX4_isAsBefore 60 = .ok (.iload_n 3, 1) := by decide +kernel
theorem dX4_isAsBefore_61 : decode cX4_isAsBefore 61 = .ok (.iadd, 1) := by decide +kernel
theorem dX4_isAsBefore_62 : decode cX4_isAsBefore 62 = .ok (.iaload, 1) := by decide +kernel
theorem dX4_isAsBefore_63 : decode cX4_isAsBefore 63 = .ok (.aload_n 0, 1) := by decide +kernel
theorem dX4_isAsBefore_64 : decode cX4_isAsBefore 64 = .ok (.iload_n 2, 1) := by decide +kernel
theorem dX4_isAsBefore_65 : decode cX4_isAsBefore 65 = .ok (.iload_n 3, 1) := by decide +kernel
theorem dX4_isAsBefore_66 : decode cX4_isAsBefore 66 = .ok (.invokevirtual 113, 3) := by decide +kernel
theorem dX4_isAsBefore_69 : decode cX4_isAsBefore 69 = .ok (.if_icmp .ne 7, 3) := by decide +kernel
theorem dX4_isAsBefore_72 : decode cX4_isAsBefore 72 = .ok (.iconst 1, 1) := by decide +kernel
theorem dX4_isAsBefore_73 : decode cX4_isAsBefore 73 = .ok (.goto 4, 3) := by decide +kernel
theorem dX4_isAsBefore_76 : decode cX4_isAsBefore 76 = .ok (.iconst 0, 1) := by decide +kernel
theorem dX4_isAsBefore_77 : decode cX4_isAsBefore 77 = .ok (.istore_n 1, 1) := by decide +kernel
theorem dX4_isAsBefore_78 : decode cX4_isAsBefore 78 = .ok (.iinc 3 1, 3) := by decide +kernel
theorem dX4_isAsBefore_81 : decode cX4_isAsBefore 81 = .ok (.goto (-63), 3) := by decide +kernel
theorem dX4_isAsBefore_84 : decode cX4_isAsBefore 84 = .ok (.iinc 2 1, 3) := by decide +kernel
theorem dX4_isAsBefore_87 : decode cX4_isAsBefore 87 = .ok (.goto (-83), 3) := by decide +kernel
theorem dX4_isAsBefore_90 : decode cX4_isAsBefore 90 = .ok (.iload_n 1, 1) := by decide +kernel
theorem dX4_isAsBefore_91 : decode cX4_isAsBefore 91 = .ok (.ireturn, 1) := by decide +kernel
set_option maxRecDepth 20000 in
theorem ggX4_tryJoin_X4_lowest : GoodIn wsX4_tryJoin wsX4_lowest := goodIn_r _ [18, 19, 20, 21, 22, 17, 23, 48, 49, 50, 51, 52, 53, 54, 55, 56, 57, 58, 59, 60, 61, 62, 63, 64, 65, 66, 67] (by decide +kernel) (by decide +kernel)
set_option maxRecDepth 20000 in
theorem gX4_tryJoin_X4_lowest : GoodIn wsX4_tryJoin (wsV RX4 79 RX4 yX4_lowest wsX4_lowest) := goodIn_app (goodIn_of _ (by decide +kernel)) ggX4_tryJoin_X4_lowest
set_option maxRecDepth 20000 in
theorem ggX4_tryJoin_X4_put : GoodIn wsX4_tryJoin wsX4_put := goodIn_r _ [27, 3, 4, 5, 6, 48, 49, 50, 51, 52, 53, 54, 55, 56, 57, 58, 59, 60, 61, 62, 63, 64, 65, 66, 67] (by decide +kernel) (by decide +kernel)
set_option maxRecDepth 20000 in
theorem gX4_tryJoin_X4_put : GoodIn wsX4_tryJoin (wsV RX4 96 RX4 yX4_put wsX4_put) := goodIn_app (goodIn_of _ (by decide +kernel)) ggX4_tryJoin_X4_put
set_option maxRecDepth 20000 in
theorem ggX4_tryJoin_X4_remove : GoodIn wsX4_tryJoin wsX4_remove := goodIn_r _ [31, 1, 3, 4, 5, 6, 24, 25, 26, 17, 27, 48, 49, 50, 51, 52, 53, 54, 55, 56, 57, 58, 59, 60, 61, 62, 63, 64, 65, 66, 67] (by decide +kernel) (by decide +kernel)
set_option maxRecDepth 20000 in
theorem gX4_tryJoin_X4_remove : GoodIn wsX4_tryJoin (wsV RX4 103 RX4 yX4_remove wsX4_remove) := goodIn_app (goodIn_of _ (by decide +kernel)) ggX4_tryJoin_X4_remove
set_option maxRecDepth 20000 in
theorem ggX4_tryJoin_X4_isAsBefore : GoodIn wsX4_tryJoin wsX4_isAsBefore := goodIn_r _ [35, 36, 20, 37, 38, 39, 21, 22, 17, 23, 40, 41, 42, 43, 6, 44, 45, 46, 47, 1, 3, 4, 19, 5, 48, 49, 50, 51, 52, 53, 54, 55, 56, 57, 58, 59, 60, 61, 62, 63, 64, 65, 66, 67] (by decide +kernel) (by decide +kernel)
set_option maxRecDepth 20000 in
theorem gX4_tryJoin_X4_isAsBefore : GoodIn wsX4_tryJoin (wsV RX4 133 RX4 yX4_isAsBefore wsX4_isAsBefore) := goodIn_app (goodIn_of _ (by decide +kernel)) ggX4_tryJoin_X4_isAsBefore
theorem dX4_tryJoin_0 : decode cX4_tryJoin 0 = .ok (.iconst 0, 1) := by decide +kernel
theorem dX4_tryJoin_1 : decode cX4_tryJoin 1 = .ok (.istore 4, 2) := by decide +kernel
theorem dX4_tryJoin_3 : decode cX4_tryJoin 3 = .ok (.iload 4, 2) := by decide +kernel
theorem dX4_tryJoin_5 : decode cX4_tryJoin 5 = .ok (.aload_n 0, 1) := by decide +kernel
theorem dX4_tryJoin_6 : decode cX4_tryJoin 6 = .ok (.getfield 64, 3) := by decide +kernel
theorem dX4_tryJoin_9 : decode cX4_tryJoin 9 = .ok (.if_icmp .ge 90, 3) := by decide +kernel
theorem dX4_tryJoin_12 : decode cX4_tryJoin 12 = .ok (.iconst 0, 1) := by decide +kernel
theorem dX4_tryJoin_13 : decode cX4_tryJoin 13 = .ok (.istore 5, 2) := by decide +kernel
theorem dX4_tryJoin_15 : decode cX4_tryJoin 15 = .ok (.iload 5, 2) := by decide +kernel
theorem dX4_tryJoin_17 : decode cX4_tryJoin 17 = .ok (.iconst 4, 1) := by decide +kernel
theorem dX4_tryJoin_18 : decode cX4_tryJoin 18 = .ok (.if_icmp .ge 75, 3) := by decide +kernel
theorem dX4_tryJoin_21 : decode cX4_tryJoin 21 = .ok (.aload_n 0, 1) := by decide +kernel
theorem dX4_tryJoin_22 : decode cX4_tryJoin 22 = .ok (.getfield 51, 3) := by decide +kernel
theorem dX4_tryJoin_25 : decode cX4_tryJoin 25 = .ok (.iconst 4, 1) := by decide +kernel
theorem dX4_tryJoin_26 : decode cX4_tryJoin 26 = .ok (.iload 4, 2) := by decide +kernel
theorem dX4_tryJoin_28 : decode cX4_tryJoin 28 = .ok (.imul, 1) := by decide +kernel
theorem dX4_tryJoin_29 : decode cX4_tryJoin 29 = .ok (.iload 5, 2) := by decide +kernel
theorem dX4_tryJoin_31 : decode cX4_tryJoin 31 = .ok (.iadd, 1) := by decide +kernel
theorem dX4_tryJoin_32 : decode cX4_tryJoin 32 = .ok (.iload 5, 2) := by decide +kernel
theorem dX4_tryJoin_34 : decode cX4_tryJoin 34 = .ok (.ifCond .ne 13, 3) := by decide +kernel
theorem dX4_tryJoin_37 : decode cX4_tryJoin 37 = .ok (.aload_n 0, 1) := by decide +kernel
theorem dX4_tryJoin_38 : decode cX4_tryJoin 38 = .ok (.getfield 26, 3) := by decide +kernel
theorem dX4_tryJoin_41 : decode cX4_tryJoin 41 = .ok (.iload 4, 2) := by decide +kernel
theorem dX4_tryJoin_43 : decode cX4_tryJoin 43 = .ok (.iaload, 1) := by decide +kernel
theorem dX4_tryJoin_44 : decode cX4_tryJoin 44 = .ok (.goto 42, 3) := by decide +kernel
theorem dX4_tryJoin_47 : decode cX4_tryJoin 47 = .ok (.iload 5, 2) := by decide +kernel
theorem dX4_tryJoin_49 : decode cX4_tryJoin 49 = .ok (.iconst 1, 1) := by decide +kernel
theorem dX4_tryJoin_50 : decode cX4_tryJoin 50 = .ok (.if_icmp .ne 13, 3) := by decide +kernel
theorem dX4_tryJoin_53 : decode cX4_tryJoin 53 = .ok (.aload_n 0, 1) := by decide +kernel
theorem dX4_tryJoin_54 : decode cX4_tryJoin 54 = .ok (.getfield 29, 3) := by decide +kernel
theorem dX4_tryJoin_57 : decode cX4_tryJoin 57 = .ok (.iload 4, 2) := by decide +kernel
theorem dX4_tryJoin_59 : decode cX4_tryJoin 59 = .ok (.iaload, 1) := by decide +kernel
theorem dX4_tryJoin_60 : decode cX4_tryJoin 60 = .ok (.goto 26, 3) := by decide +kernel
theorem dX4_tryJoin_63 : decode cX4_tryJoin 63 = .ok (.iload 5, 2) := by decide +kernel
theorem dX4_tryJoin_65 : decode cX4_tryJoin 65 = .ok (.iconst 2, 1) := by decide +kernel
theorem dX4_tryJoin_66 : decode cX4_tryJoin 66 = .ok (.if_icmp .ne 13, 3) := by decide +kernel
theorem dX4_tryJoin_69 : decode cX4_tryJoin 69 = .ok (.aload_n 0, 1) := by decide +kernel
theorem dX4_tryJoin_70 : decode cX4_tryJoin 70 = .ok (.getfield 32, 3) := by decide +kernel
theorem dX4_tryJoin_73 : decode cX4_tryJoin 73 = .ok (.iload 4, 2) := by decide +kernel
theorem dX4_tryJoin_75 : decode cX4_tryJoin 75 = .ok (.iaload, 1) := by decide +kernel
theorem dX4_tryJoin_76 : decode cX4_tryJoin 76 = .ok (.goto 10, 3) := by decide +kernel
theorem dX4_tryJoin_79 : decode cX4_tryJoin 79 = .ok (.aload_n 0, 1) := by decide +kernel
theorem dX4_tryJoin_80 : decode cX4_tryJoin 80 = .ok (.getfield 35, 3) := by decide +kernel
theorem dX4_tryJoin_83 : decode cX4_tryJoin 83 = .ok (.iload 4, 2) := by decide +kernel
theorem dX4_tryJoin_85 : decode cX4_tryJoin 85 = .ok (.iaload, 1) := by decide +kernel
theorem dX4_tryJoin_86 : decode cX4_tryJoin 86 = .ok (.iastore, 1) := by decide +kernel
theorem dX4_tryJoin_87 : decode cX4_tryJoin 87 = .ok (.iinc 5 1, 3) := by decide +kernel
theorem dX4_tryJoin_90 : decode cX4_tryJoin 90 = .ok (.goto (-75), 3) := by decide +kernel
theorem dX4_tryJoin_93 : decode cX4_tryJoin 93 = .ok (.iinc 4 1, 3) := by decide +kernel
theorem dX4_tryJoin_96 : decode cX4_tryJoin 96 = .ok (.goto (-93), 3) := by decide +kernel
theorem dX4_tryJoin_99 : decode cX4_tryJoin 99 = .ok (.aload_n 0, 1) := by decide +kernel
theorem dX4_tryJoin_100 : decode cX4_tryJoin 100 = .ok (.iload_n 3, 1) := by decide +kernel
theorem dX4_tryJoin_101 : decode cX4_tryJoin 101 = .ok (.aload_n 0, 1) := by decide +kernel
theorem dX4_tryJoin_102 : decode cX4_tryJoin 102 = .ok (.getfield 26, 3) := by decide +kernel
theorem dX4_tryJoin_105 : decode cX4_tryJoin 105 = .ok (.iload_n 1, 1) := by decide +kernel
theorem dX4_tryJoin_106 : decode cX4_tryJoin 106 = .ok (.iaload, 1) := by decide +kernel
theorem dX4_tryJoin_107 : decode cX4_tryJoin 107 = .ok (.aload_n 0, 1) := by decide +kernel
theorem dX4_tryJoin_108 : decode cX4_tryJoin 108 = .ok (.getfield 26, 3) := by decide +kernel
theorem dX4_tryJoin_111 : decode cX4_tryJoin 111 = .ok (.iload_n 2, 1) := by decide +kernel
theorem dX4_tryJoin_112 : decode cX4_tryJoin 112 = .ok (.iaload, 1) := by decide +kernel
theorem dX4_tryJoin_113 : decode cX4_tryJoin 113 = .ok (.invokestatic 125, 3) := by decide +kernel
theorem dX4_tryJoin_116 : decode cX4_tryJoin 116 = .ok (.aload_n 0, 1) := by decide +kernel
theorem dX4_tryJoin_117 : decode cX4_tryJoin 117 = .ok (.getfield 29, 3) := by decide +kernel
theorem dX4_tryJoin_120 : decode cX4_tryJoin 120 = .ok (.iload_n 1, 1) := by decide +kernel
theorem dX4_tryJoin_121 : decode cX4_tryJoin 121 = .ok (.iaload, 1) := by decide +kernel
theorem dX4_tryJoin_122 : decode cX4_tryJoin 122 = .ok (.aload_n 0, 1) := by decide +kernel
theorem dX4_tryJoin_123 : decode cX4_tryJoin 123 = .ok (.getfield 29, 3) := by decide +kernel
theorem dX4_tryJoin_126 : decode cX4_tryJoin 126 = .ok (.iload_n 2, 1) := by decide +kernel
theorem dX4_tryJoin_127 : decode cX4_tryJoin 127 = .ok (.iaload, 1) := by decide +kernel
theorem dX4_tryJoin_128 : decode cX4_tryJoin 128 = .ok (.invokestatic 130, 3) := by decide +kernel
theorem dX4_tryJoin_131 : decode cX4_tryJoin 131 = .ok (.aload_n 0, 1) := by decide +kernel
theorem dX4_tryJoin_132 : decode cX4_tryJoin 132 = .ok (.aload_n 0, 1) := by decide +kernel
theorem dX4_tryJoin_133 : decode cX4_tryJoin 133 = .ok (.getfield 32, 3) := by decide +kernel
theorem dX4_tryJoin_136 : decode cX4_tryJoin 136 = .ok (.iload_n 1, 1) := by decide +kernel
theorem dX4_tryJoin_137 : decode cX4_tryJoin 137 = .ok (.iaload, 1) := by decide +kernel
theorem dX4_tryJoin_138 : decode cX4_tryJoin 138 = .ok (.aload_n 0, 1) := by decide +kernel
theorem dX4_tryJoin_139 : decode cX4_tryJoin 139 = .ok (.getfield 32, 3) := by decide +kernel
theorem dX4_tryJoin_142 : decode cX4_tryJoin 142 = .ok (.iload_n 2, 1) := by decide +kernel
theorem dX4_tryJoin_143 : decode cX4_tryJoin 143 = .ok (.iaload, 1) := by decide +kernel
theorem dX4_tryJoin_144 : decode cX4_tryJoin 144 = .ok (.invokevirtual 79, 3) := by decide +kernel
theorem dX4_tryJoin_147 : decode cX4_tryJoin 147 = .ok (.aload_n 0, 1) := by decide +kernel
theorem dX4_tryJoin_148 : decode cX4_tryJoin 148 = .ok (.getfield 35, 3) := by decide +kernel
theorem dX4_tryJoin_151 : decode cX4_tryJoin 151 = .ok (.iload_n 1, 1) := by decide +kernel
theorem dX4_tryJoin_152 : decode cX4_tryJoin 152 = .ok (.iaload, 1) := by decide +kernel
theorem dX4_tryJoin_153 : decode cX4_tryJoin 153 = .ok (.invokevirtual 96, 3) := by decide +kernel
theorem dX4_tryJoin_156 : decode cX4_tryJoin 156 = .ok (.aload_n 0, 1) := by decide +kernel
theorem dX4_tryJoin_157 : decode cX4_tryJoin 157 = .ok (.iload_n 3, 1) := by decide +kernel
theorem dX4_tryJoin_158 : decode cX4_tryJoin 158 = .ok (.iload_n 1, 1) := by decide +kernel
theorem dX4_tryJoin_159 : decode cX4_tryJoin 159 = .ok (.if_icmp .ne 7, 3) := by decide +kernel
theorem dX4_tryJoin_162 : decode cX4_tryJoin 162 = .ok (.iload_n 2, 1) := by decide +kernel
theorem dX4_tryJoin_163 : decode cX4_tryJoin 163 = .ok (.goto 4, 3) := by decide +kernel
theorem dX4_tryJoin_166 : decode cX4_tryJoin 166 = .ok (.iload_n 1, 1) := by decide +kernel
theorem dX4_tryJoin_167 : decode cX4_tryJoin 167 = .ok (.invokevirtual 103, 3) := by decide +kernel
theorem dX4_tryJoin_170 : decode cX4_tryJoin 170 = .ok (.aload_n 0, 1) := by decide +kernel
theorem dX4_tryJoin_171 : decode cX4_tryJoin 171 = .ok (.invokevirtual 133, 3) := by decide +kernel
theorem dX4_tryJoin_174 : decode cX4_tryJoin 174 = .ok (.ifCond .eq 5, 3) := by decide +kernel
theorem dX4_tryJoin_177 : decode cX4_tryJoin 177 = .ok (.iconst 1, 1) := by decide +kernel
theorem dX4_tryJoin_178 : decode cX4_tryJoin 178 = .ok (.ireturn, 1) := by decide +kernel
theorem dX4_tryJoin_179 : decode cX4_tryJoin 179 = .ok (.aload_n 0, 1) := by decide +kernel
theorem dX4_tryJoin_180 : decode cX4_tryJoin 180 = .ok (.dup, 1) := by decide +kernel
theorem dX4_tryJoin_181 : decode cX4_tryJoin 181 = .ok (.getfield 64, 3) := by decide +kernel
theorem dX4_tryJoin_184 : decode cX4_tryJoin 184 = .ok (.iconst 1, 1) := by decide +kernel
theorem dX4_tryJoin_185 : decode cX4_tryJoin 185 = .ok (.iadd, 1) := by decide +kernel
theorem dX4_tryJoin_186 : decode cX4_tryJoin 186 = .ok (.putfield 64, 3) := by decide +kernel
theorem dX4_tryJoin_189 : decode cX4_tryJoin 189 = .ok (.iconst 0, 1) := by decide +kernel
theorem dX4_tryJoin_190 : decode cX4_tryJoin 190 = .ok (.istore 4, 2) := by decide +kernel
theorem dX4_tryJoin_192 : decode cX4_tryJoin 192 = .ok (.iload 4, 2) := by decide +kernel
theorem dX4_tryJoin_194 : decode cX4_tryJoin 194 = .ok (.aload_n 0, 1) := by decide +kernel
theorem dX4_tryJoin_195 : decode cX4_tryJoin 195 = .ok (.getfield 64, 3) := by decide +kernel
theorem dX4_tryJoin_198 : decode cX4_tryJoin 198 = .ok (.if_icmp .ge 57, 3) := by decide +kernel
theorem dX4_tryJoin_201 : decode cX4_tryJoin 201 = .ok (.aload_n 0, 1) := by decide +kernel
theorem dX4_tryJoin_202 : decode cX4_tryJoin 202 = .ok (.iload 4, 2) := by decide +kernel
theorem dX4_tryJoin_204 : decode cX4_tryJoin 204 = .ok (.aload_n 0, 1) := by decide +kernel
theorem dX4_tryJoin_205 : decode cX4_tryJoin 205 = .ok (.getfield 51, 3) := by decide +kernel
theorem dX4_tryJoin_208 : decode cX4_tryJoin 208 = .ok (.iconst 4, 1) := by decide +kernel
theorem dX4_tryJoin_209 : decode cX4_tryJoin 209 = .ok (.iload 4, 2) := by decide +kernel
theorem dX4_tryJoin_211 : decode cX4_tryJoin 211 = .ok (.imul, 1) := by decide +kernel
theorem dX4_tryJoin_212 : decode cX4_tryJoin 212 = .ok (.iaload, 1) := by decide +kernel
theorem dX4_tryJoin_213 : decode cX4_tryJoin 213 = .ok (.aload_n 0, 1) := by decide +kernel
theorem dX4_tryJoin_214 : decode cX4_tryJoin 214 = .ok (.getfield 51, 3) := by decide +kernel
theorem dX4_tryJoin_217 : decode cX4_tryJoin 217 = .ok (.iconst 4, 1) := by decide +kernel
theorem dX4_tryJoin_218 : decode cX4_tryJoin 218 = .ok (.iload 4, 2) := by decide +kernel
theorem dX4_tryJoin_220 : decode cX4_tryJoin 220 = .ok (.imul, 1) := by decide +kernel
theorem dX4_tryJoin_221 : decode cX4_tryJoin 221 = .ok (.iconst 1, 1) := by decide +kernel
theorem dX4_tryJoin_222 : decode cX4_tryJoin 222 = .ok (.iadd, 1) := by decide +kernel
theorem dX4_tryJoin_223 : decode cX4_tryJoin 223 = .ok (.iaload, 1) := by decide +kernel
theorem dX4_tryJoin_224 : decode cX4_tryJoin 224 = .ok (.aload_n 0, 1) := by decide +kernel
theorem dX4_tryJoin_225 : decode cX4_tryJoin 225 = .ok (.getfield 51, 3) := by decide +kernel
theorem dX4_tryJoin_228 : decode cX4_tryJoin 228 = .ok (.iconst 4, 1) := by decide +kernel
theorem dX4_tryJoin_229 : decode cX4_tryJoin 229 = .ok (.iload 4, 2) := by decide +kernel
theorem dX4_tryJoin_231 : decode cX4_tryJoin 231 = .ok (.imul, 1) := by decide +kernel
theorem dX4_tryJoin_232 : decode cX4_tryJoin 232 = .ok (.iconst 2, 1) := by decide +kernel
theorem dX4_tryJoin_233 : decode cX4_tryJoin 233 = .ok (.iadd, 1) := by decide +kernel
theorem dX4_tryJoin_234 : decode cX4_tryJoin 234 = .ok (.iaload, 1) := by decide +kernel
theorem dX4_tryJoin_235 : decode cX4_tryJoin 235 = .ok (.aload_n 0, 1) := by decide +kernel
theorem dX4_tryJoin_236 : decode cX4_tryJoin 236 = .ok (.getfield 51, 3) := by decide +kernel
theorem dX4_tryJoin_239 : decode cX4_tryJoin 239 = .ok (.iconst 4, 1) := by decide +kernel
theorem dX4_tryJoin_240 : decode cX4_tryJoin 240 = .ok (.iload 4, 2) := by decide +kernel
theorem dX4_tryJoin_242 : decode cX4_tryJoin 242 = .ok (.imul, 1) := by decide +kernel
theorem dX4_tryJoin_243 : decode cX4_tryJoin 243 = .ok (.iconst 3, 1) := by decide +kernel
theorem dX4_tryJoin_244 : decode cX4_tryJoin 244 = .ok (.iadd, 1) := by decide +kernel
theorem dX4_tryJoin_245 : decode cX4_tryJoin 245 = .ok (.iaload, 1) := by decide +kernel
theorem dX4_tryJoin_246 : decode cX4_tryJoin 246 = .ok (.invokevirtual 96, 3) := by decide +kernel
theorem dX4_tryJoin_249 : decode cX4_tryJoin 249 = .ok (.iinc 4 1, 3) := by decide +kernel
theorem dX4_tryJoin_252 : decode cX4_tryJoin 252 = .ok (.goto (-60), 3) := by decide +kernel
theorem dX4_tryJoin_255 : decode cX4_tryJoin 255 = .ok (.iconst 0, 1) := by decide +kernel
theorem dX4_tryJoin_256 : decode cX4_tryJoin 256 = .ok (.ireturn, 1) := by decide +kernel
set_option maxRecDepth 20000 in
theorem ggX4_joinOne_X4_tryJoin : GoodIn wsX4_joinOne wsX4_tryJoin := goodIn_r _ [7, 1, 8, 9, 10, 11, 2, 12, 13, 14, 15, 16, 17, 18, 19, 20, 21, 6, 22, 23, 24, 25, 26, 27, 28, 29, 30, 31, 32, 33, 34, 35, 36, 37, 38, 39, 40, 41, 42, 43, 44, 45, 46, 47, 48, 49, 50, 51, 52, 53, 54, 55, 56, 57, 58, 59, 60, 61, 62, 63, 64, 65, 66, 67, 68, 69, 70, 71] (by decide +kernel) (by decide +kernel)
set_option maxRecDepth 20000 in
theorem gX4_joinOne_X4_tryJoin : GoodIn wsX4_joinOne (wsV RX4 137 RX4 yX4_tryJoin wsX4_tryJoin) := goodIn_app (goodIn_of _ (by decide +kernel)) ggX4_joinOne_X4_tryJoin
theorem dX4_joinOne_0 : decode cX4_joinOne 0 = .ok (.iconst 0, 1) := by decide +kernel
theorem dX4_joinOne_1 : decode cX4_joinOne 1 = .ok (.istore_n 1, 1) := by decide +kernel
theorem dX4_joinOne_2 : decode cX4_joinOne 2 = .ok (.iload_n 1, 1) := by decide +kernel
theorem dX4_joinOne_3 : decode cX4_joinOne 3 = .ok (.aload_n 0, 1) := by decide +kernel
theorem dX4_joinOne_4 : decode cX4_joinOne 4 = .ok (.getfield 64, 3) := by decide +kernel
theorem dX4_joinOne_7 : decode cX4_joinOne 7 = .ok (.if_icmp .ge 64, 3) := by decide +kernel
theorem dX4_joinOne_10 : decode cX4_joinOne 10 = .ok (.iload_n 1, 1) := by decide +kernel
theorem dX4_joinOne_11 : decode cX4_joinOne 11 = .ok (.iconst 1, 1) := by decide +kernel
theorem dX4_joinOne_12 : decode cX4_joinOne 12 = .ok (.iadd, 1) := by decide +kernel
theorem dX4_joinOne_13 : decode cX4_joinOne 13 = .ok (.istore_n 2, 1) := by decide +kernel
theorem dX4_joinOne_14 : decode cX4_joinOne 14 = .ok (.iload_n 2, 1) := by decide +kernel
theorem dX4_joinOne_15 : decode cX4_joinOne 15 = .ok (.aload_n 0, 1) := by decide +kernel
theorem dX4_joinOne_16 : decode cX4_joinOne 16 = .ok (.getfield 64, 3) := by decide +kernel
theorem dX4_joinOne_19 : decode cX4_joinOne 19 = .ok (.if_icmp .ge 46, 3) := by decide +kernel
theorem dX4_joinOne_22 : decode cX4_joinOne 22 = .ok (.aload_n 0, 1) := by decide +kernel
theorem dX4_joinOne_23 : decode cX4_joinOne 23 = .ok (.getfield 35, 3) := by decide +kernel
theorem dX4_joinOne_26 : decode cX4_joinOne 26 = .ok (.iload_n 1, 1) := by decide +kernel
theorem dX4_joinOne_27 : decode cX4_joinOne 27 = .ok (.iaload, 1) := by decide +kernel
theorem dX4_joinOne_28 : decode cX4_joinOne 28 = .ok (.aload_n 0, 1) := by decide +kernel
theorem dX4_joinOne_29 : decode cX4_joinOne 29 = .ok (.getfield 35, 3) := by decide +kernel
theorem dX4_joinOne_32 : decode cX4_joinOne 32 = .ok (.iload_n 2, 1) := by decide +kernel
theorem dX4_joinOne_33 : decode cX4_joinOne 33 = .ok (.iaload, 1) := by decide +kernel
theorem dX4_joinOne_34 : decode cX4_joinOne 34 = .ok (.if_icmp .ne 25, 3) := by decide +kernel
theorem dX4_joinOne_37 : decode cX4_joinOne 37 = .ok (.aload_n 0, 1) := by decide +kernel
theorem dX4_joinOne_38 : decode cX4_joinOne 38 = .ok (.iload_n 1, 1) := by decide +kernel
theorem dX4_joinOne_39 : decode cX4_joinOne 39 = .ok (.iload_n 2, 1) := by decide +kernel
theorem dX4_joinOne_40 : decode cX4_joinOne 40 = .ok (.iload_n 1, 1) := by decide +kernel
theorem dX4_joinOne_41 : decode cX4_joinOne 41 = .ok (.invokevirtual 137, 3) := by decide +kernel
theorem dX4_joinOne_44 : decode cX4_joinOne 44 = .ok (.ifCond .ne 13, 3) := by decide +kernel
theorem dX4_joinOne_47 : decode cX4_joinOne 47 = .ok (.aload_n 0, 1) := by decide +kernel
theorem dX4_joinOne_48 : decode cX4_joinOne 48 = .ok (.iload_n 1, 1) := by decide +kernel
theorem dX4_joinOne_49 : decode cX4_joinOne 49 = .ok (.iload_n 2, 1) := by decide +kernel
theorem dX4_joinOne_50 : decode cX4_joinOne 50 = .ok (.iload_n 2, 1) := by decide +kernel
theorem dX4_joinOne_51 : decode cX4_joinOne 51 = .ok (.invokevirtual 137, 3) := by decide +kernel
theorem dX4_joinOne_54 : decode cX4_joinOne 54 = .ok (.ifCond .eq 5, 3) := by decide +kernel
theorem dX4_joinOne_57 : decode cX4_joinOne 57 = .ok (.iconst 1, 1) := by decide +kernel
theorem dX4_joinOne_58 : decode cX4_joinOne 58 = .ok (.ireturn, 1) := by decide +kernel
theorem dX4_joinOne_59 : decode cX4_joinOne 59 = .ok (.iinc 2 1, 3) := by decide +kernel
theorem dX4_joinOne_62 : decode cX4_joinOne 62 = .ok (.goto (-48), 3) := by decide +kernel
theorem dX4_joinOne_65 : decode cX4_joinOne 65 = .ok (.iinc 1 1, 3) := by decide +kernel
theorem dX4_joinOne_68 : decode cX4_joinOne 68 = .ok (.goto (-66), 3) := by decide +kernel
theorem dX4_joinOne_71 : decode cX4_joinOne 71 = .ok (.iconst 0, 1) := by decide +kernel
theorem dX4_joinOne_72 : decode cX4_joinOne 72 = .ok (.ireturn, 1) := by decide +kernel
set_option maxRecDepth 20000 in
theorem ggX4_joinAll_X4_reach : GoodIn wsX4_joinAll wsX4_reach := goodIn_r _ [5, 6, 7, 8, 9, 10, 11, 12, 13, 14, 4, 15, 16, 17, 18, 19, 20, 21, 22, 23, 24, 25, 26, 27, 28, 29, 30, 31, 32, 33, 34, 35, 36, 37, 38, 39, 77, 78, 79, 80, 81, 82, 83, 84, 85, 86, 87, 88, 89, 90, 91, 92, 93, 94, 95, 96] (by decide +kernel) (by decide +kernel)
set_option maxRecDepth 20000 in
theorem gX4_joinAll_X4_reach : GoodIn wsX4_joinAll (wsV RX4 119 RX4 yX4_reach wsX4_reach) := goodIn_app (goodIn_of _ (by decide +kernel)) ggX4_joinAll_X4_reach
set_option maxRecDepth 20000 in
theorem ggX4_joinAll_X4_remember : GoodIn wsX4_joinAll wsX4_remember := goodIn_r _ [43, 7, 10, 44, 26, 27, 28, 4, 29, 30, 31, 32, 33, 34, 35, 36, 37, 38, 39, 23, 24, 25, 77, 78, 79, 80, 81, 82, 83, 84, 85, 86, 87, 88, 89, 90, 91, 92, 93, 94, 95, 96] (by decide +kernel) (by decide +kernel)
set_option maxRecDepth 20000 in
theorem gX4_joinAll_X4_remember : GoodIn wsX4_joinAll (wsV RX4 140 RX4 yX4_remember wsX4_remember) := goodIn_app (goodIn_of _ (by decide +kernel)) ggX4_joinAll_X4_remember
set_option maxRecDepth 20000 in
theorem ggX4_joinAll_X4_joinOne : GoodIn wsX4_joinAll wsX4_joinOne := goodIn_r _ [48, 35, 30, 49, 50, 51, 4, 52, 53, 36, 37, 39, 54, 55, 56, 57, 58, 59, 60, 61, 62, 63, 64, 38, 10, 23, 24, 25, 65, 66, 67, 68, 69, 70, 71, 72, 73, 74, 75, 76, 7, 6, 11, 44, 26, 27, 28, 29, 31, 32, 33, 34, 77, 78, 79, 80, 81, 82, 83, 84, 85, 86, 87, 88, 89, 90, 91, 92, 93, 94, 95, 96] (by decide +kernel) (by decide +kernel)
set_option maxRecDepth 20000 in
theorem gX4_joinAll_X4_joinOne : GoodIn wsX4_joinAll (wsV RX4 143 RX4 yX4_joinOne wsX4_joinOne) := goodIn_app (goodIn_of _ (by decide +kernel)) ggX4_joinAll_X4_joinOne
theorem dX4_joinAll_0 : decode cX4_joinAll 0 = .ok (.aload_n 0, 1) := by decide +kernel
theorem dX4_joinAll_1 : decode cX4_joinAll 1 = .ok (.invokevirtual 119, 3) := by decide +kernel
theorem dX4_joinAll_4 : decode cX4_joinAll 4 = .ok (.aload_n 0, 1) := by decide +kernel
theorem dX4_joinAll_5 : decode cX4_joinAll 5 = .ok (.invokevirtual 140, 3) := by decide +kernel
theorem dX4_joinAll_8 : decode cX4_joinAll 8 = .ok (.iconst 0, 1) := by decide +kernel
theorem dX4_joinAll_9 : decode cX4_joinAll 9 = .ok (.istore_n 1, 1) := by decide +kernel
theorem dX4_joinAll_10 : decode cX4_joinAll 10 = .ok (.aload_n 0, 1) := by decide +kernel
theorem dX4_joinAll_11 : decode cX4_joinAll 11 = .ok (.invokevirtual 143, 3) := by decide +kernel
theorem dX4_joinAll_14 : decode cX4_joinAll 14 = .ok (.ifCond .eq 9, 3) := by decide +kernel
theorem dX4_joinAll_17 : decode cX4_joinAll 17 = .ok (.iinc 1 1, 3) := by decide +kernel
theorem dX4_joinAll_20 : decode cX4_joinAll 20 = .ok (.goto (-10), 3) := by decide +kernel
theorem dX4_joinAll_23 : decode cX4_joinAll 23 = .ok (.iload_n 1, 1) := by decide +kernel
theorem dX4_joinAll_24 : decode cX4_joinAll 24 = .ok (.ireturn, 1) := by decide +kernel
set_option maxRecDepth 20000 in
theorem ggX4_drop_X4_dropAll : GoodIn wsX4_drop wsX4_dropAll := goodIn_r _ [6, 7, 8, 9, 10, 11, 5, 12, 13, 14, 15, 16, 17, 18, 19, 20, 21, 22, 23, 24, 25, 26, 27, 28, 29, 30, 31, 32, 33, 34, 35, 36, 37, 38, 39, 40, 41, 42, 43, 44, 45, 46, 47, 48, 49, 50, 51, 52, 53, 54, 55, 56, 57, 58, 59, 60, 61, 62, 63, 64, 65, 66, 67, 68, 69, 70, 71, 72, 73, 74, 75, 76, 77, 78, 79, 80, 81] (by decide +kernel) (by decide +kernel)
set_option maxRecDepth 20000 in
theorem gX4_drop_X4_dropAll : GoodIn wsX4_drop (wsV RX4 146 RX4 yX4_dropAll wsX4_dropAll) := goodIn_app (goodIn_of _ (by decide +kernel)) ggX4_drop_X4_dropAll
theorem dX4_drop_0 : decode cX4_drop 0 = .ok (.aload_n 0, 1) := by decide +kernel
theorem dX4_drop_1 : decode cX4_drop 1 = .ok (.iconst 0, 1) := by decide +kernel
theorem dX4_drop_2 : decode cX4_drop 2 = .ok (.putfield 54, 3) := by decide +kernel
theorem dX4_drop_5 : decode cX4_drop 5 = .ok (.aload_n 0, 1) := by decide +kernel
theorem dX4_drop_6 : decode cX4_drop 6 = .ok (.invokevirtual 146, 3) := by decide +kernel
theorem dX4_drop_9 : decode cX4_drop 9 = .ok (.ireturn, 1) := by decide +kernel
set_option maxRecDepth 20000 in
theorem ggX4_shrink_X4_shrinkAll : GoodIn wsX4_shrink wsX4_shrinkAll := goodIn_r _ [6, 7, 8, 9, 10, 11, 12, 13, 14, 5, 15, 16, 17, 18, 19, 20, 21, 22, 23, 24, 25, 26, 27, 28, 29, 30, 31, 32, 33, 34, 35, 36, 37, 38, 39, 40, 41, 42, 43, 44, 45, 46, 47, 48, 49, 50, 51, 52, 53, 54, 55, 56, 57, 58, 59, 60, 61, 62, 63, 64, 65, 66, 67, 68, 69] (by decide +kernel) (by decide +kernel)
set_option maxRecDepth 20000 in
theorem gX4_shrink_X4_shrinkAll : GoodIn wsX4_shrink (wsV RX4 150 RX4 yX4_shrinkAll wsX4_shrinkAll) := goodIn_app (goodIn_of _ (by decide +kernel)) ggX4_shrink_X4_shrinkAll
theorem dX4_shrink_0 : decode cX4_shrink 0 = .ok (.aload_n 0, 1) := by decide +kernel
theorem dX4_shrink_1 : decode cX4_shrink 1 = .ok (.iconst 0, 1) := by decide +kernel
theorem dX4_shrink_2 : decode cX4_shrink 2 = .ok (.putfield 54, 3) := by decide +kernel
theorem dX4_shrink_5 : decode cX4_shrink 5 = .ok (.aload_n 0, 1) := by decide +kernel
theorem dX4_shrink_6 : decode cX4_shrink 6 = .ok (.invokevirtual 150, 3) := by decide +kernel
theorem dX4_shrink_9 : decode cX4_shrink 9 = .ok (.ireturn, 1) := by decide +kernel
set_option maxRecDepth 20000 in
theorem ggX4_join_X4_joinAll : GoodIn wsX4_join wsX4_joinAll := goodIn_r _ [6, 7, 8, 9, 5, 10, 11, 12, 13, 14, 15, 16, 17, 18, 19, 20, 21, 22, 23, 24, 25, 26, 27, 28, 29, 30, 31, 32, 33, 34, 35, 36, 37, 38, 39, 40, 41, 42, 43, 44, 45, 46, 47, 48, 49, 50, 51, 52, 53, 54, 55, 56, 57, 58, 59, 60, 61, 62, 63, 64, 65, 66, 67, 68, 69, 70, 71, 72, 73, 74, 75, 76, 77, 78, 79, 80, 81, 82, 83, 84, 85, 86, 87, 88, 89, 90, 91, 92, 93, 94, 95, 96, 97, 98, 99, 100, 101] (by decide +kernel) (by decide +kernel)
set_option maxRecDepth 20000 in
theorem gX4_join_X4_joinAll : GoodIn wsX4_join (wsV RX4 153 RX4 yX4_joinAll wsX4_joinAll) := goodIn_app (goodIn_of _ (by decide +kernel)) ggX4_join_X4_joinAll
theorem dX4_join_0 : decode cX4_join 0 = .ok (.aload_n 0, 1) := by decide +kernel
theorem dX4_join_1 : decode cX4_join 1 = .ok (.iconst 0, 1) := by decide +kernel
theorem dX4_join_2 : decode cX4_join 2 = .ok (.putfield 54, 3) := by decide +kernel
theorem dX4_join_5 : decode cX4_join 5 = .ok (.aload_n 0, 1) := by decide +kernel
theorem dX4_join_6 : decode cX4_join 6 = .ok (.invokevirtual 153, 3) := by decide +kernel
theorem dX4_join_9 : decode cX4_join 9 = .ok (.ireturn, 1) := by decide +kernel
set_option maxRecDepth 20000 in
theorem ggX4_improve_X4_dropAll : GoodIn wsX4_improve wsX4_dropAll := goodIn_r _ [6, 7, 8, 9, 10, 11, 5, 12, 13, 14, 15, 16, 17, 18, 19, 20, 21, 22, 23, 24, 25, 26, 27, 28, 29, 30, 31, 32, 33, 34, 35, 36, 37, 38, 39, 40, 41, 42, 43, 44, 45, 46, 47, 48, 49, 50, 51, 52, 53, 54, 55, 56, 57, 58, 59, 60, 61, 100, 101, 102, 103, 104, 105, 106, 107, 108, 109, 110, 111, 112, 113, 114, 115, 116, 117, 118, 119] (by decide +kernel) (by decide +kernel)
set_option maxRecDepth 20000 in
theorem gX4_improve_X4_dropAll : GoodIn wsX4_improve (wsV RX4 146 RX4 yX4_dropAll wsX4_dropAll) := goodIn_app (goodIn_of _ (by decide +kernel)) ggX4_improve_X4_dropAll
set_option maxRecDepth 20000 in
theorem ggX4_improve_X4_shrinkAll : GoodIn wsX4_improve wsX4_shrinkAll := goodIn_r _ [65, 66, 8, 14, 42, 43, 9, 10, 11, 5, 12, 13, 15, 16, 17, 18, 19, 20, 21, 22, 23, 24, 25, 26, 27, 28, 29, 30, 31, 32, 33, 34, 35, 36, 37, 38, 39, 40, 41, 44, 45, 50, 51, 52, 53, 100, 101, 102, 103, 104, 105, 106, 107, 108, 109, 110, 111, 112, 113, 114, 115, 116, 117, 118, 119] (by decide +kernel) (by decide +kernel)
set_option maxRecDepth 20000 in
theorem gX4_improve_X4_shrinkAll : GoodIn wsX4_improve (wsV RX4 150 RX4 yX4_shrinkAll wsX4_shrinkAll) := goodIn_app (goodIn_of _ (by decide +kernel)) ggX4_improve_X4_shrinkAll
set_option maxRecDepth 20000 in
theorem ggX4_improve_X4_joinAll : GoodIn wsX4_improve wsX4_joinAll := goodIn_r _ [70, 9, 10, 11, 5, 12, 13, 14, 15, 16, 17, 18, 19, 20, 21, 22, 23, 24, 25, 26, 27, 28, 29, 30, 31, 32, 33, 34, 35, 36, 37, 38, 39, 40, 41, 8, 42, 43, 44, 45, 71, 72, 73, 74, 75, 76, 77, 78, 79, 80, 81, 82, 83, 84, 85, 86, 87, 88, 89, 90, 91, 92, 93, 94, 95, 58, 59, 60, 61, 54, 55, 56, 57, 96, 97, 98, 99, 100, 101, 102, 103, 104, 105, 106, 107, 108, 109, 110, 111, 112, 113, 114, 115, 116, 117, 118, 119] (by decide +kernel) (by decide +kernel)
set_option maxRecDepth 20000 in
theorem gX4_improve_X4_joinAll : GoodIn wsX4_improve (wsV RX4 153 RX4 yX4_joinAll wsX4_joinAll) := goodIn_app (goodIn_of _ (by decide +kernel)) ggX4_improve_X4_joinAll
theorem dX4_improve_0 : decode cX4_improve 0 = .ok (.aload_n 0, 1) := by decide +kernel
theorem dX4_improve_1 : decode cX4_improve 1 = .ok (.iconst 0, 1) := by decide +kernel
theorem dX4_improve_2 : decode cX4_improve 2 = .ok (.putfield 54, 3) := by decide +kernel
theorem dX4_improve_5 : decode cX4_improve 5 = .ok (.iconst 0, 1) := by decide +kernel
theorem dX4_improve_6 : decode cX4_improve 6 = .ok (.istore_n 1, 1) := by decide +kernel
theorem dX4_improve_7 : decode cX4_improve 7 = .ok (.aload_n 0, 1) := by decide +kernel
theorem dX4_improve_8 : decode cX4_improve 8 = .ok (.invokevirtual 146, 3) := by decide +kernel
theorem dX4_improve_11 : decode cX4_improve 11 = .ok (.aload_n 0, 1) := by decide +kernel
theorem dX4_improve_12 : decode cX4_improve 12 = .ok (.invokevirtual 150, 3) := by decide +kernel
theorem dX4_improve_15 : decode cX4_improve 15 = .ok (.iadd, 1) := by decide +kernel
theorem dX4_improve_16 : decode cX4_improve 16 = .ok (.aload_n 0, 1) := by decide +kernel
theorem dX4_improve_17 : decode cX4_improve 17 = .ok (.invokevirtual 153, 3) := by decide +kernel
theorem dX4_improve_20 : decode cX4_improve 20 = .ok (.iadd, 1) := by decide +kernel
theorem dX4_improve_21 : decode cX4_improve 21 = .ok (.ifCond .le 9, 3) := by decide +kernel
theorem dX4_improve_24 : decode cX4_improve 24 = .ok (.iinc 1 1, 3) := by decide +kernel
theorem dX4_improve_27 : decode cX4_improve 27 = .ok (.goto (-20), 3) := by decide +kernel
theorem dX4_improve_30 : decode cX4_improve 30 = .ok (.iload_n 1, 1) := by decide +kernel
theorem dX4_improve_31 : decode cX4_improve 31 = .ok (.ireturn, 1) := by decide +kernel
set_option maxRecDepth 20000 in
theorem ggX4_sweep_X4_reach : GoodIn wsX4_sweep wsX4_reach := goodIn_r _ [17, 4, 3, 5, 7, 18, 6, 19, 20, 21, 16, 22, 23, 24, 25, 26, 27, 28, 29, 30, 31, 32, 33, 34, 35, 36, 12, 37, 38, 39, 40, 8, 9, 10, 41, 11, 50, 51, 52, 53, 54, 55, 56, 57, 58, 59, 60, 61, 62, 63, 64, 65, 66, 67, 68, 69] (by decide +kernel) (by decide +kernel)
set_option maxRecDepth 20000 in
theorem gX4_sweep_X4_reach : GoodIn wsX4_sweep (wsV RX4 119 RX4 yX4_reach wsX4_reach) := goodIn_app (goodIn_of _ (by decide +kernel)) ggX4_sweep_X4_reach
set_option maxRecDepth 20000 in
theorem ggX4_sweep_X4_put : GoodIn wsX4_sweep wsX4_put := goodIn_r _ [45, 9, 10, 11, 12, 50, 51, 52, 53, 54, 55, 56, 57, 58, 59, 60, 61, 62, 63, 64, 65, 66, 67, 68, 69] (by decide +kernel) (by decide +kernel)
set_option maxRecDepth 20000 in
theorem gX4_sweep_X4_put : GoodIn wsX4_sweep (wsV RX4 96 RX4 yX4_put wsX4_put) := goodIn_app (goodIn_of _ (by decide +kernel)) ggX4_sweep_X4_put
set_option maxRecDepth 20000 in
theorem ggX4_sweep_X4_remove : GoodIn wsX4_sweep wsX4_remove := goodIn_r _ [49, 8, 9, 10, 11, 12, 42, 43, 44, 16, 45, 50, 51, 52, 53, 54, 55, 56, 57, 58, 59, 60, 61, 62, 63, 64, 65, 66, 67, 68, 69] (by decide +kernel) (by decide +kernel)
set_option maxRecDepth 20000 in
theorem gX4_sweep_X4_remove : GoodIn wsX4_sweep (wsV RX4 103 RX4 yX4_remove wsX4_remove) := goodIn_app (goodIn_of _ (by decide +kernel)) ggX4_sweep_X4_remove
theorem dX4_sweep_0 : decode cX4_sweep 0 = .ok (.aload_n 0, 1) := by decide +kernel
theorem dX4_sweep_1 : decode cX4_sweep 1 = .ok (.iconst 0, 1) := by decide +kernel
theorem dX4_sweep_2 : decode cX4_sweep 2 = .ok (.putfield 54, 3) := by decide +kernel
theorem dX4_sweep_5 : decode cX4_sweep 5 = .ok (.aload_n 0, 1) := by decide +kernel
theorem dX4_sweep_6 : decode cX4_sweep 6 = .ok (.invokevirtual 119, 3) := by decide +kernel
theorem dX4_sweep_9 : decode cX4_sweep 9 = .ok (.bipush 49, 2) := by decide +kernel
theorem dX4_sweep_11 : decode cX4_sweep 11 = .ok (.newarray .int, 2) := by decide +kernel
theorem dX4_sweep_13 : decode cX4_sweep 13 = .ok (.astore_n 1, 1) := by decide +kernel
theorem dX4_sweep_14 : decode cX4_sweep 14 = .ok (.iconst 0, 1) := by decide +kernel
theorem dX4_sweep_15 : decode cX4_sweep 15 = .ok (.istore_n 2, 1) := by decide +kernel
theorem dX4_sweep_16 : decode cX4_sweep 16 = .ok (.iload_n 2, 1) := by decide +kernel
theorem dX4_sweep_17 : decode cX4_sweep 17 = .ok (.bipush 48, 2) := by decide +kernel
theorem dX4_sweep_19 : decode cX4_sweep 19 = .ok (.if_icmp .ge 40, 3) := by decide +kernel
theorem dX4_sweep_22 : decode cX4_sweep 22 = .ok (.aload_n 1, 1) := by decide +kernel
theorem dX4_sweep_23 : decode cX4_sweep 23 = .ok (.iload_n 2, 1) := by decide +kernel
theorem dX4_sweep_24 : decode cX4_sweep 24 = .ok (.iconst 1, 1) := by decide +kernel
theorem dX4_sweep_25 : decode cX4_sweep 25 = .ok (.iadd, 1) := by decide +kernel
theorem dX4_sweep_26 : decode cX4_sweep 26 = .ok (.aload_n 1, 1) := by decide +kernel
theorem dX4_sweep_27 : decode cX4_sweep 27 = .ok (.iload_n 2, 1) := by decide +kernel
theorem dX4_sweep_28 : decode cX4_sweep 28 = .ok (.iaload, 1) := by decide +kernel
theorem dX4_sweep_29 : decode cX4_sweep 29 = .ok (.iload_n 2, 1) := by decide +kernel
theorem dX4_sweep_30 : decode cX4_sweep 30 = .ok (.aload_n 0, 1) := by decide +kernel
theorem dX4_sweep_31 : decode cX4_sweep 31 = .ok (.getfield 61, 3) := by decide +kernel
theorem dX4_sweep_34 : decode cX4_sweep 34 = .ok (.if_icmp .ge 16, 3) := by decide +kernel
theorem dX4_sweep_37 : decode cX4_sweep 37 = .ok (.aload_n 0, 1) := by decide +kernel
theorem dX4_sweep_38 : decode cX4_sweep 38 = .ok (.getfield 44, 3) := by decide +kernel
theorem dX4_sweep_41 : decode cX4_sweep 41 = .ok (.iload_n 2, 1) := by decide +kernel
theorem dX4_sweep_42 : decode cX4_sweep 42 = .ok (.baload, 1) := by decide +kernel
theorem dX4_sweep_43 : decode cX4_sweep 43 = .ok (.ifCond .ne 7, 3) := by decide +kernel
theorem dX4_sweep_46 : decode cX4_sweep 46 = .ok (.iconst 1, 1) := by decide +kernel
theorem dX4_sweep_47 : decode cX4_sweep 47 = .ok (.goto 4, 3) := by decide +kernel
theorem dX4_sweep_50 : decode cX4_sweep 50 = .ok (.iconst 0, 1) := by decide +kernel
theorem dX4_sweep_51 : decode cX4_sweep 51 = .ok (.iadd, 1) := by decide +kernel
theorem dX4_sweep_52 : decode cX4_sweep 52 = .ok (.iastore, 1) := by decide +kernel
theorem dX4_sweep_53 : decode cX4_sweep 53 = .ok (.iinc 2 1, 3) := by decide +kernel
theorem dX4_sweep_56 : decode cX4_sweep 56 = .ok (.goto (-40), 3) := by decide +kernel
theorem dX4_sweep_59 : decode cX4_sweep 59 = .ok (.iconst 0, 1) := by decide +kernel
theorem dX4_sweep_60 : decode cX4_sweep 60 = .ok (.istore_n 2, 1) := by decide +kernel
theorem dX4_sweep_61 : decode cX4_sweep 61 = .ok (.iconst 0, 1) := by decide +kernel
theorem dX4_sweep_62 : decode cX4_sweep 62 = .ok (.istore_n 3, 1) := by decide +kernel
theorem dX4_sweep_63 : decode cX4_sweep 63 = .ok (.iload_n 3, 1) := by decide +kernel
theorem dX4_sweep_64 : decode cX4_sweep 64 = .ok (.aload_n 0, 1) := by decide +kernel
theorem dX4_sweep_65 : decode cX4_sweep 65 = .ok (.getfield 61, 3) := by decide +kernel
theorem dX4_sweep_68 : decode cX4_sweep 68 = .ok (.if_icmp .ge 83, 3) := by decide +kernel
theorem dX4_sweep_71 : decode cX4_sweep 71 = .ok (.aload_n 0, 1) := by decide +kernel
theorem dX4_sweep_72 : decode cX4_sweep 72 = .ok (.getfield 44, 3) := by decide +kernel
theorem dX4_sweep_75 : decode cX4_sweep 75 = .ok (.iload_n 3, 1) := by decide +kernel
theorem dX4_sweep_76 : decode cX4_sweep 76 = .ok (.baload, 1) := by decide +kernel
theorem dX4_sweep_77 : decode cX4_sweep 77 = .ok (.ifCond .ne 6, 3) := by decide +kernel
theorem dX4_sweep_80 : decode cX4_sweep 80 = .ok (.goto 65, 3) := by decide +kernel
theorem dX4_sweep_83 : decode cX4_sweep 83 = .ok (.aload_n 0, 1) := by decide +kernel
theorem dX4_sweep_84 : decode cX4_sweep 84 = .ok (.getfield 17, 3) := by decide +kernel
theorem dX4_sweep_87 : decode cX4_sweep 87 = .ok (.iload_n 2, 1) := by decide +kernel
theorem dX4_sweep_88 : decode cX4_sweep 88 = .ok (.aload_n 0, 1) := by decide +kernel
theorem dX4_sweep_89 : decode cX4_sweep 89 = .ok (.getfield 17, 3) := by decide +kernel
theorem dX4_sweep_92 : decode cX4_sweep 92 = .ok (.iload_n 3, 1) := by decide +kernel
theorem dX4_sweep_93 : decode cX4_sweep 93 = .ok (.iaload, 1) := by decide +kernel
theorem dX4_sweep_94 : decode cX4_sweep 94 = .ok (.iastore, 1) := by decide +kernel
theorem dX4_sweep_95 : decode cX4_sweep 95 = .ok (.aload_n 0, 1) := by decide +kernel
theorem dX4_sweep_96 : decode cX4_sweep 96 = .ok (.getfield 20, 3) := by decide +kernel
theorem dX4_sweep_99 : decode cX4_sweep 99 = .ok (.iload_n 2, 1) := by decide +kernel
theorem dX4_sweep_100 : decode cX4_sweep 100 = .ok (.aload_n 0, 1) := by decide +kernel
theorem dX4_sweep_101 : decode cX4_sweep 101 = .ok (.getfield 20, 3) := by decide +kernel
theorem dX4_sweep_104 : decode cX4_sweep 104 = .ok (.iload_n 3, 1) := by decide +kernel
theorem dX4_sweep_105 : decode cX4_sweep 105 = .ok (.iaload, 1) := by decide +kernel
theorem dX4_sweep_106 : decode cX4_sweep 106 = .ok (.iastore, 1) := by decide +kernel
theorem dX4_sweep_107 : decode cX4_sweep 107 = .ok (.aload_n 0, 1) := by decide +kernel
theorem dX4_sweep_108 : decode cX4_sweep 108 = .ok (.getfield 23, 3) := by decide +kernel
theorem dX4_sweep_111 : decode cX4_sweep 111 = .ok (.iload_n 2, 1) := by decide +kernel
theorem dX4_sweep_112 : decode cX4_sweep 112 = .ok (.aload_n 0, 1) := by decide +kernel
theorem dX4_sweep_113 : decode cX4_sweep 113 = .ok (.getfield 23, 3) := by decide +kernel
theorem dX4_sweep_116 : decode cX4_sweep 116 = .ok (.iload_n 3, 1) := by decide +kernel
theorem dX4_sweep_117 : decode cX4_sweep 117 = .ok (.iaload, 1) := by decide +kernel
theorem dX4_sweep_118 : decode cX4_sweep 118 = .ok (.iconst (-1), 1) := by decide +kernel
theorem dX4_sweep_119 : decode cX4_sweep 119 = .ok (.if_icmp .ne 7, 3) := by decide +kernel
theorem dX4_sweep_122 : decode cX4_sweep 122 = .ok (.iconst (-1), 1) := by decide +kernel
theorem dX4_sweep_123 : decode cX4_sweep 123 = .ok (.goto 18, 3) := by decide +kernel
theorem dX4_sweep_126 : decode cX4_sweep 126 = .ok (.aload_n 0, 1) := by decide +kernel
theorem dX4_sweep_127 : decode cX4_sweep 127 = .ok (.getfield 23, 3) := by decide +kernel
theorem dX4_sweep_130 : decode cX4_sweep 130 = .ok (.iload_n 3, 1) := by decide +kernel
theorem dX4_sweep_131 : decode cX4_sweep 131 = .ok (.iaload, 1) := by decide +kernel
theorem dX4_sweep_132 : decode cX4_sweep 132 = .ok (.aload_n 1, 1) := by decide +kernel
theorem dX4_sweep_133 : decode cX4_sweep 133 = .ok (.aload_n 0, 1) := by decide +kernel
theorem dX4_sweep_134 : decode cX4_sweep 134 = .ok (.getfield 23, 3) := by decide +kernel
theorem dX4_sweep_137 : decode cX4_sweep 137 = .ok (.iload_n 3, 1) := by decide +kernel
theorem dX4_sweep_138 : decode cX4_sweep 138 = .ok (.iaload, 1) := by decide +kernel
theorem dX4_sweep_139 : decode cX4_sweep 139 = .ok (.iaload, 1) := by decide +kernel
theorem dX4_sweep_140 : decode cX4_sweep 140 = .ok (.isub, 1) := by decide +kernel
theorem dX4_sweep_141 : decode cX4_sweep 141 = .ok (.iastore, 1) := by decide +kernel
theorem dX4_sweep_142 : decode cX4_sweep 142 = .ok (.iinc 2 1, 3) := by decide +kernel
theorem dX4_sweep_145 : decode cX4_sweep 145 = .ok (.iinc 3 1, 3) := by decide +kernel
theorem dX4_sweep_148 : decode cX4_sweep 148 = .ok (.goto (-85), 3) := by decide +kernel
theorem dX4_sweep_151 : decode cX4_sweep 151 = .ok (.aload_n 0, 1) := by decide +kernel
theorem dX4_sweep_152 : decode cX4_sweep 152 = .ok (.getfield 61, 3) := by decide +kernel
theorem dX4_sweep_155 : decode cX4_sweep 155 = .ok (.iload_n 2, 1) := by decide +kernel
theorem dX4_sweep_156 : decode cX4_sweep 156 = .ok (.isub, 1) := by decide +kernel
theorem dX4_sweep_157 : decode cX4_sweep 157 = .ok (.istore_n 3, 1) := by decide +kernel
theorem dX4_sweep_158 : decode cX4_sweep 158 = .ok (.aload_n 0, 1) := by decide +kernel
theorem dX4_sweep_159 : decode cX4_sweep 159 = .ok (.iload_n 2, 1) := by decide +kernel
theorem dX4_sweep_160 : decode cX4_sweep 160 = .ok (.putfield 61, 3) := by decide +kernel
theorem dX4_sweep_163 : decode cX4_sweep 163 = .ok (.iconst 0, 1) := by decide +kernel
theorem dX4_sweep_164 : decode cX4_sweep 164 = .ok (.istore 4, 2) := by decide +kernel
theorem dX4_sweep_166 : decode cX4_sweep 166 = .ok (.iload 4, 2) := by decide +kernel
theorem dX4_sweep_168 : decode cX4_sweep 168 = .ok (.aload_n 0, 1) := by decide +kernel
theorem dX4_sweep_169 : decode cX4_sweep 169 = .ok (.getfield 64, 3) := by decide +kernel
theorem dX4_sweep_172 : decode cX4_sweep 172 = .ok (.if_icmp .ge 73, 3) := by decide +kernel
theorem dX4_sweep_175 : decode cX4_sweep 175 = .ok (.aload_n 0, 1) := by decide +kernel
theorem dX4_sweep_176 : decode cX4_sweep 176 = .ok (.iload 4, 2) := by decide +kernel
theorem dX4_sweep_178 : decode cX4_sweep 178 = .ok (.aload_n 0, 1) := by decide +kernel
theorem dX4_sweep_179 : decode cX4_sweep 179 = .ok (.getfield 26, 3) := by decide +kernel
theorem dX4_sweep_182 : decode cX4_sweep 182 = .ok (.iload 4, 2) := by decide +kernel
theorem dX4_sweep_184 : decode cX4_sweep 184 = .ok (.iaload, 1) := by decide +kernel
theorem dX4_sweep_185 : decode cX4_sweep 185 = .ok (.aload_n 1, 1) := by decide +kernel
theorem dX4_sweep_186 : decode cX4_sweep 186 = .ok (.aload_n 0, 1) := by decide +kernel
theorem dX4_sweep_187 : decode cX4_sweep 187 = .ok (.getfield 26, 3) := by decide +kernel
theorem dX4_sweep_190 : decode cX4_sweep 190 = .ok (.iload 4, 2) := by decide +kernel
theorem dX4_sweep_192 : decode cX4_sweep 192 = .ok (.iaload, 1) := by decide +kernel
theorem dX4_sweep_193 : decode cX4_sweep 193 = .ok (.iaload, 1) := by decide +kernel
theorem dX4_sweep_194 : decode cX4_sweep 194 = .ok (.isub, 1) := by decide +kernel
theorem dX4_sweep_195 : decode cX4_sweep 195 = .ok (.aload_n 0, 1) := by decide +kernel
theorem dX4_sweep_196 : decode cX4_sweep 196 = .ok (.getfield 29, 3) := by decide +kernel
theorem dX4_sweep_199 : decode cX4_sweep 199 = .ok (.iload 4, 2) := by decide +kernel
theorem dX4_sweep_201 : decode cX4_sweep 201 = .ok (.iaload, 1) := by decide +kernel
theorem dX4_sweep_202 : decode cX4_sweep 202 = .ok (.aload_n 1, 1) := by decide +kernel
theorem dX4_sweep_203 : decode cX4_sweep 203 = .ok (.aload_n 0, 1) := by decide +kernel
theorem dX4_sweep_204 : decode cX4_sweep 204 = .ok (.getfield 29, 3) := by decide +kernel
theorem dX4_sweep_207 : decode cX4_sweep 207 = .ok (.iload 4, 2) := by decide +kernel
theorem dX4_sweep_209 : decode cX4_sweep 209 = .ok (.iaload, 1) := by decide +kernel
theorem dX4_sweep_210 : decode cX4_sweep 210 = .ok (.iaload, 1) := by decide +kernel
theorem dX4_sweep_211 : decode cX4_sweep 211 = .ok (.isub, 1) := by decide +kernel
theorem dX4_sweep_212 : decode cX4_sweep 212 = .ok (.aload_n 0, 1) := by decide +kernel
theorem dX4_sweep_213 : decode cX4_sweep 213 = .ok (.getfield 32, 3) := by decide +kernel
theorem dX4_sweep_216 : decode cX4_sweep 216 = .ok (.iload 4, 2) := by decide +kernel
theorem dX4_sweep_218 : decode cX4_sweep 218 = .ok (.iaload, 1) := by decide +kernel
theorem dX4_sweep_219 : decode cX4_sweep 219 = .ok (.aload_n 0, 1) := by decide +kernel
theorem dX4_sweep_220 : decode cX4_sweep 220 = .ok (.getfield 35, 3) := by decide +kernel
theorem dX4_sweep_223 : decode cX4_sweep 223 = .ok (.iload 4, 2) := by decide +kernel
theorem dX4_sweep_225 : decode cX4_sweep 225 = .ok (.iaload, 1) := by decide +kernel
theorem dX4_sweep_226 : decode cX4_sweep 226 = .ok (.aload_n 1, 1) := by decide +kernel
theorem dX4_sweep_227 : decode cX4_sweep 227 = .ok (.aload_n 0, 1) := by decide +kernel
theorem dX4_sweep_228 : decode cX4_sweep 228 = .ok (.getfield 35, 3) := by decide +kernel
theorem dX4_sweep_231 : decode cX4_sweep 231 = .ok (.iload 4, 2) := by decide +kernel
theorem dX4_sweep_233 : decode cX4_sweep 233 = .ok (.iaload, 1) := by decide +kernel
theorem dX4_sweep_234 : decode cX4_sweep 234 = .ok (.iaload, 1) := by decide +kernel
theorem dX4_sweep_235 : decode cX4_sweep 235 = .ok (.isub, 1) := by decide +kernel
theorem dX4_sweep_236 : decode cX4_sweep 236 = .ok (.invokevirtual 96, 3) := by decide +kernel
theorem dX4_sweep_239 : decode cX4_sweep 239 = .ok (.iinc 4 1, 3) := by decide +kernel
theorem dX4_sweep_242 : decode cX4_sweep 242 = .ok (.goto (-76), 3) := by decide +kernel
theorem dX4_sweep_245 : decode cX4_sweep 245 = .ok (.aload_n 0, 1) := by decide +kernel
theorem dX4_sweep_246 : decode cX4_sweep 246 = .ok (.getfield 64, 3) := by decide +kernel
theorem dX4_sweep_249 : decode cX4_sweep 249 = .ok (.iconst 1, 1) := by decide +kernel
theorem dX4_sweep_250 : decode cX4_sweep 250 = .ok (.isub, 1) := by decide +kernel
theorem dX4_sweep_251 : decode cX4_sweep 251 = .ok (.istore 4, 2) := by decide +kernel
theorem dX4_sweep_253 : decode cX4_sweep 253 = .ok (.iload 4, 2) := by decide +kernel
theorem dX4_sweep_255 : decode cX4_sweep 255 = .ok (.ifCond .lt 32, 3) := by decide +kernel
theorem dX4_sweep_258 : decode cX4_sweep 258 = .ok (.aload_n 0, 1) := by decide +kernel
theorem dX4_sweep_259 : decode cX4_sweep 259 = .ok (.getfield 26, 3) := by decide +kernel
theorem dX4_sweep_262 : decode cX4_sweep 262 = .ok (.iload 4, 2) := by decide +kernel
theorem dX4_sweep_264 : decode cX4_sweep 264 = .ok (.iaload, 1) := by decide +kernel
theorem dX4_sweep_265 : decode cX4_sweep 265 = .ok (.aload_n 0, 1) := by decide +kernel
theorem dX4_sweep_266 : decode cX4_sweep 266 = .ok (.getfield 29, 3) := by decide +kernel
theorem dX4_sweep_269 : decode cX4_sweep 269 = .ok (.iload 4, 2) := by decide +kernel
theorem dX4_sweep_271 : decode cX4_sweep 271 = .ok (.iaload, 1) := by decide +kernel
theorem dX4_sweep_272 : decode cX4_sweep 272 = .ok (.if_icmp .lt 9, 3) := by decide +kernel
theorem dX4_sweep_275 : decode cX4_sweep 275 = .ok (.aload_n 0, 1) := by decide +kernel
theorem dX4_sweep_276 : decode cX4_sweep 276 = .ok (.iload 4, 2) := by decide +kernel
theorem dX4_sweep_278 : decode cX4_sweep 278 = .ok (.invokevirtual 103, 3) := by decide +kernel
theorem dX4_sweep_281 : decode cX4_sweep 281 = .ok (.iinc 4 (-1), 3) := by decide +kernel
theorem dX4_sweep_284 : decode cX4_sweep 284 = .ok (.goto (-31), 3) := by decide +kernel
theorem dX4_sweep_287 : decode cX4_sweep 287 = .ok (.iload_n 3, 1) := by decide +kernel
theorem dX4_sweep_288 : decode cX4_sweep 288 = .ok (.ireturn, 1) := by decide +kernel
set_option maxRecDepth 20000 in
theorem ggX4_run_X4_isIn : GoodIn wsX4_run wsX4_isIn := goodIn_r _ [16] (by decide +kernel) (by decide +kernel)
set_option maxRecDepth 20000 in
theorem gX4_run_X4_isIn : GoodIn wsX4_run (va_wsS RX4 57 yX4_isIn wsX4_isIn) := goodIn_app (goodIn_of _ (by decide +kernel)) ggX4_run_X4_isIn
set_option maxRecDepth 20000 in
theorem ggX4_run_X4_no : GoodIn wsX4_run wsX4_no := goodIn_r _ [20, 1, 45, 46, 47, 48, 49, 50, 51, 52, 53, 54, 55, 56, 57, 58, 59, 60, 61, 62, 63, 64] (by decide +kernel) (by decide +kernel)
set_option maxRecDepth 20000 in
theorem gX4_run_X4_no : GoodIn wsX4_run (wsV RX4 71 RX4 yX4_no wsX4_no) := goodIn_app (goodIn_of _ (by decide +kernel)) ggX4_run_X4_no
set_option maxRecDepth 20000 in
theorem ggX4_run_X4_isInstruction : GoodIn wsX4_run wsX4_isInstruction := goodIn_r _ [24, 25, 13, 14, 15, 16, 45, 46, 47, 48, 49, 50, 51, 52, 53, 54, 55, 56, 57, 58, 59, 60, 61, 62, 63, 64] (by decide +kernel) (by decide +kernel)
set_option maxRecDepth 20000 in
theorem gX4_run_X4_isInstruction : GoodIn wsX4_run (wsV RX4 93 RX4 yX4_isInstruction wsX4_isInstruction) := goodIn_app (goodIn_of _ (by decide +kernel)) ggX4_run_X4_isInstruction
set_option maxRecDepth 20000 in
theorem ggX4_run_J6_bitCount_0f7a4 : GoodIn wsX4_run wsJ6_bitCount_0f7a4 := goodIn_r _ [29, 30, 31, 32] (by decide +kernel) (by decide +kernel)
set_option maxRecDepth 20000 in
theorem gX4_run_J6_bitCount_0f7a4 : GoodIn wsX4_run (va_wsS RX4 170 yJ6_bitCount_0f7a4 wsJ6_bitCount_0f7a4) := goodIn_app (goodIn_of _ (by decide +kernel)) ggX4_run_J6_bitCount_0f7a4
set_option maxRecDepth 20000 in
theorem ggX4_run_X4_has : GoodIn wsX4_run wsX4_has := goodIn_r _ [35] (by decide +kernel) (by decide +kernel)
set_option maxRecDepth 20000 in
theorem gX4_run_X4_has : GoodIn wsX4_run (va_wsS RX4 75 yX4_has wsX4_has) := goodIn_app (goodIn_of _ (by decide +kernel)) ggX4_run_X4_has
set_option maxRecDepth 20000 in
theorem ggX4_run_X4_takerOf : GoodIn wsX4_run wsX4_takerOf := goodIn_r _ [39, 40, 41, 42, 43, 44, 33, 34, 15, 35, 45, 46, 47, 48, 49, 50, 51, 52, 53, 54, 55, 56, 57, 58, 59, 60, 61, 62, 63, 64] (by decide +kernel) (by decide +kernel)
set_option maxRecDepth 20000 in
theorem gX4_run_X4_takerOf : GoodIn wsX4_run (wsV RX4 107 RX4 yX4_takerOf wsX4_takerOf) := goodIn_app (goodIn_of _ (by decide +kernel)) ggX4_run_X4_takerOf
theorem dX4_run_0 : decode cX4_run 0 = .ok (.aload_n 0, 1) := by decide +kernel
theorem dX4_run_1 : decode cX4_run 1 = .ok (.iconst 0, 1) := by decide +kernel
theorem dX4_run_2 : decode cX4_run 2 = .ok (.putfield 54, 3) := by decide +kernel
theorem dX4_run_5 : decode cX4_run 5 = .ok (.lload_n 1, 1) := by decide +kernel
theorem dX4_run_6 : decode cX4_run 6 = .ok (.lconst 0, 1) := by decide +kernel
theorem dX4_run_7 : decode cX4_run 7 = .ok (.lcmp, 1) := by decide +kernel
theorem dX4_run_8 : decode cX4_run 8 = .ok (.ifCond .lt 14, 3) := by decide +kernel
theorem dX4_run_11 : decode cX4_run 11 = .ok (.iload_n 3, 1) := by decide +kernel
theorem dX4_run_12 : decode cX4_run 12 = .ok (.iconst 0, 1) := by decide +kernel
theorem dX4_run_13 : decode cX4_run 13 = .ok (.sipush 500, 3) := by decide +kernel
theorem dX4_run_16 : decode cX4_run 16 = .ok (.invokestatic 57, 3) := by decide +kernel
theorem dX4_run_19 : decode cX4_run 19 = .ok (.ifCond .ne 9, 3) := by decide +kernel
theorem dX4_run_22 : decode cX4_run 22 = .ok (.aload_n 0, 1) := by decide +kernel
theorem dX4_run_23 : decode cX4_run 23 = .ok (.iconst 1, 1) := by decide +kernel
theorem dX4_run_24 : decode cX4_run 24 = .ok (.invokevirtual 71, 3) := by decide +kernel
theorem dX4_run_27 : decode cX4_run 27 = .ok (.ireturn, 1) := by decide +kernel
theorem dX4_run_28 : decode cX4_run 28 = .ok (.aload_n 0, 1) := by decide +kernel
theorem dX4_run_29 : decode cX4_run 29 = .ok (.iconst 0, 1) := by decide +kernel
theorem dX4_run_30 : decode cX4_run 30 = .ok (.putfield 156, 3) := by decide +kernel
theorem dX4_run_33 : decode cX4_run 33 = .ok (.aload_n 0, 1) := by decide +kernel
theorem dX4_run_34 : decode cX4_run 34 = .ok (.iconst 0, 1) := by decide +kernel
theorem dX4_run_35 : decode cX4_run 35 = .ok (.putfield 159, 3) := by decide +kernel
theorem dX4_run_38 : decode cX4_run 38 = .ok (.aload_n 0, 1) := by decide +kernel
theorem dX4_run_39 : decode cX4_run 39 = .ok (.iconst (-1), 1) := by decide +kernel
theorem dX4_run_40 : decode cX4_run 40 = .ok (.putfield 38, 3) := by decide +kernel
theorem dX4_run_43 : decode cX4_run 43 = .ok (.aload_n 0, 1) := by decide +kernel
theorem dX4_run_44 : decode cX4_run 44 = .ok (.ldc2_w 162, 3) := by decide +kernel
theorem dX4_run_47 : decode cX4_run 47 = .ok (.putfield 164, 3) := by decide +kernel
theorem dX4_run_50 : decode cX4_run 50 = .ok (.lload_n 1, 1) := by decide +kernel
theorem dX4_run_51 : decode cX4_run 51 = .ok (.lstore 4, 2) := by decide +kernel
theorem dX4_run_53 : decode cX4_run 53 = .ok (.iconst 0, 1) := by decide +kernel
theorem dX4_run_54 : decode cX4_run 54 = .ok (.istore 6, 2) := by decide +kernel
theorem dX4_run_56 : decode cX4_run 56 = .ok (.aload_n 0, 1) := by decide +kernel
theorem dX4_run_57 : decode cX4_run 57 = .ok (.iload 6, 2) := by decide +kernel
theorem dX4_run_59 : decode cX4_run 59 = .ok (.invokevirtual 93, 3) := by decide +kernel
theorem dX4_run_62 : decode cX4_run 62 = .ok (.ifCond .eq 276, 3) := by decide +kernel
theorem dX4_run_65 : decode cX4_run 65 = .ok (.aload_n 0, 1) := by decide +kernel
theorem dX4_run_66 : decode cX4_run 66 = .ok (.getfield 156, 3) := by decide +kernel
theorem dX4_run_69 : decode cX4_run 69 = .ok (.iload_n 3, 1) := by decide +kernel
theorem dX4_run_70 : decode cX4_run 70 = .ok (.if_icmp .ne 5, 3) := by decide +kernel
theorem dX4_run_73 : decode cX4_run 73 = .ok (.iconst 2, 1) := by decide +kernel
theorem dX4_run_74 : decode cX4_run 74 = .ok (.ireturn, 1) := by decide +kernel
theorem dX4_run_75 : decode cX4_run 75 = .ok (.aload_n 0, 1) := by decide +kernel
theorem dX4_run_76 : decode cX4_run 76 = .ok (.dup, 1) := by decide +kernel
theorem dX4_run_77 : decode cX4_run 77 = .ok (.getfield 156, 3) := by decide +kernel
theorem dX4_run_80 : decode cX4_run 80 = .ok (.iconst 1, 1) := by decide +kernel
theorem dX4_run_81 : decode cX4_run 81 = .ok (.iadd, 1) := by decide +kernel
theorem dX4_run_82 : decode cX4_run 82 = .ok (.putfield 156, 3) := by decide +kernel
theorem dX4_run_85 : decode cX4_run 85 = .ok (.aload_n 0, 1) := by decide +kernel
theorem dX4_run_86 : decode cX4_run 86 = .ok (.aload_n 0, 1) := by decide +kernel
theorem dX4_run_87 : decode cX4_run 87 = .ok (.getfield 164, 3) := by decide +kernel
theorem dX4_run_90 : decode cX4_run 90 = .ok (.ldc2_w 168, 3) := by decide +kernel
theorem dX4_run_93 : decode cX4_run 93 = .ok (.lmul, 1) := by decide +kernel
theorem dX4_run_94 : decode cX4_run 94 = .ok (.aload_n 0, 1) := by decide +kernel
theorem dX4_run_95 : decode cX4_run 95 = .ok (.getfield 17, 3) := by decide +kernel
theorem dX4_run_98 : decode cX4_run 98 = .ok (.iload 6, 2) := by decide +kernel
theorem dX4_run_100 : decode cX4_run 100 = .ok (.iaload, 1) := by decide +kernel
theorem dX4_run_101 : decode cX4_run 101 = .ok (.i2l, 1) := by decide +kernel
theorem dX4_run_102 : decode cX4_run 102 = .ok (.ladd, 1) := by decide +kernel
theorem dX4_run_103 : decode cX4_run 103 = .ok (.putfield 164, 3) := by decide +kernel
theorem dX4_run_106 : decode cX4_run 106 = .ok (.aload_n 0, 1) := by decide +kernel
theorem dX4_run_107 : decode cX4_run 107 = .ok (.getfield 17, 3) := by decide +kernel
theorem dX4_run_110 : decode cX4_run 110 = .ok (.iload 6, 2) := by decide +kernel
theorem dX4_run_112 : decode cX4_run 112 = .ok (.iaload, 1) := by decide +kernel
theorem dX4_run_113 : decode cX4_run 113 = .ok (.iconst 3, 1) := by decide +kernel
theorem dX4_run_114 : decode cX4_run 114 = .ok (.if_icmp .ne 5, 3) := by decide +kernel
theorem dX4_run_117 : decode cX4_run 117 = .ok (.iconst 0, 1) := by decide +kernel
theorem dX4_run_118 : decode cX4_run 118 = .ok (.ireturn, 1) := by decide +kernel
theorem dX4_run_119 : decode cX4_run 119 = .ok (.aload_n 0, 1) := by decide +kernel
theorem dX4_run_120 : decode cX4_run 120 = .ok (.getfield 17, 3) := by decide +kernel
theorem dX4_run_123 : decode cX4_run 123 = .ok (.iload 6, 2) := by decide +kernel
theorem dX4_run_125 : decode cX4_run 125 = .ok (.iaload, 1) := by decide +kernel
theorem dX4_run_126 : decode cX4_run 126 = .ok (.iconst 4, 1) := by decide +kernel
theorem dX4_run_127 : decode cX4_run 127 = .ok (.if_icmp .ne 7, 3) := by decide +kernel
theorem dX4_run_130 : decode cX4_run 130 = .ok (.iconst 0, 1) := by decide +kernel
theorem dX4_run_131 : decode cX4_run 131 = .ok (.goto 19, 3) := by decide +kernel
theorem dX4_run_134 : decode cX4_run 134 = .ok (.aload_n 0, 1) := by decide +kernel
theorem dX4_run_135 : decode cX4_run 135 = .ok (.getfield 17, 3) := by decide +kernel
theorem dX4_run_138 : decode cX4_run 138 = .ok (.iload 6, 2) := by decide +kernel
theorem dX4_run_140 : decode cX4_run 140 = .ok (.iaload, 1) := by decide +kernel
theorem dX4_run_141 : decode cX4_run 141 = .ok (.iconst 2, 1) := by decide +kernel
theorem dX4_run_142 : decode cX4_run 142 = .ok (.if_icmp .ne 7, 3) := by decide +kernel
theorem dX4_run_145 : decode cX4_run 145 = .ok (.iconst 2, 1) := by decide +kernel
theorem dX4_run_146 : decode cX4_run 146 = .ok (.goto 4, 3) := by decide +kernel
theorem dX4_run_149 : decode cX4_run 149 = .ok (.iconst 1, 1) := by decide +kernel
theorem dX4_run_150 : decode cX4_run 150 = .ok (.istore 7, 2) := by decide +kernel
theorem dX4_run_152 : decode cX4_run 152 = .ok (.iload 7, 2) := by decide +kernel
theorem dX4_run_154 : decode cX4_run 154 = .ok (.aload_n 0, 1) := by decide +kernel
theorem dX4_run_155 : decode cX4_run 155 = .ok (.getfield 20, 3) := by decide +kernel
theorem dX4_run_158 : decode cX4_run 158 = .ok (.iload 6, 2) := by decide +kernel
theorem dX4_run_160 : decode cX4_run 160 = .ok (.iaload, 1) := by decide +kernel
theorem dX4_run_161 : decode cX4_run 161 = .ok (.invokestatic 170, 3) := by decide +kernel
theorem dX4_run_164 : decode cX4_run 164 = .ok (.iadd, 1) := by decide +kernel
theorem dX4_run_165 : decode cX4_run 165 = .ok (.istore 8, 2) := by decide +kernel
theorem dX4_run_167 : decode cX4_run 167 = .ok (.lload 4, 2) := by decide +kernel
theorem dX4_run_169 : decode cX4_run 169 = .ok (.iload 8, 2) := by decide +kernel
theorem dX4_run_171 : decode cX4_run 171 = .ok (.i2l, 1) := by decide +kernel
theorem dX4_run_172 : decode cX4_run 172 = .ok (.lrem, 1) := by decide +kernel
theorem dX4_run_173 : decode cX4_run 173 = .ok (.l2i, 1) := by decide +kernel
theorem dX4_run_174 : decode cX4_run 174 = .ok (.istore 9, 2) := by decide +kernel
theorem dX4_run_176 : decode cX4_run 176 = .ok (.lload 4, 2) := by decide +kernel
theorem dX4_run_178 : decode cX4_run 178 = .ok (.iload 8, 2) := by decide +kernel
theorem dX4_run_180 : decode cX4_run 180 = .ok (.i2l, 1) := by decide +kernel
theorem dX4_run_181 : decode cX4_run 181 = .ok (.ldiv, 1) := by decide +kernel
theorem dX4_run_182 : decode cX4_run 182 = .ok (.lstore 4, 2) := by decide +kernel
theorem dX4_run_184 : decode cX4_run 184 = .ok (.iload 9, 2) := by decide +kernel
theorem dX4_run_186 : decode cX4_run 186 = .ok (.iload 7, 2) := by decide +kernel
theorem dX4_run_188 : decode cX4_run 188 = .ok (.if_icmp .ge 39, 3) := by decide +kernel
theorem dX4_run_191 : decode cX4_run 191 = .ok (.aload_n 0, 1) := by decide +kernel
theorem dX4_run_192 : decode cX4_run 192 = .ok (.getfield 17, 3) := by decide +kernel
theorem dX4_run_195 : decode cX4_run 195 = .ok (.iload 6, 2) := by decide +kernel
theorem dX4_run_197 : decode cX4_run 197 = .ok (.iaload, 1) := by decide +kernel
theorem dX4_run_198 : decode cX4_run 198 = .ok (.iconst 1, 1) := by decide +kernel
theorem dX4_run_199 : decode cX4_run 199 = .ok (.if_icmp .eq 9, 3) := by decide +kernel
theorem dX4_run_202 : decode cX4_run 202 = .ok (.iload 9, 2) := by decide +kernel
theorem dX4_run_204 : decode cX4_run 204 = .ok (.iconst 1, 1) := by decide +kernel
theorem dX4_run_205 : decode cX4_run 205 = .ok (.if_icmp .ne 13, 3) := by decide +kernel
theorem dX4_run_208 : decode cX4_run 208 = .ok (.aload_n 0, 1) := by decide +kernel
theorem dX4_run_209 : decode cX4_run 209 = .ok (.getfield 23, 3) := by decide +kernel
theorem dX4_run_212 : decode cX4_run 212 = .ok (.iload 6, 2) := by decide +kernel
theorem dX4_run_214 : decode cX4_run 214 = .ok (.iaload, 1) := by decide +kernel
theorem dX4_run_215 : decode cX4_run 215 = .ok (.goto 7, 3) := by decide +kernel
theorem dX4_run_218 : decode cX4_run 218 = .ok (.iload 6, 2) := by decide +kernel
theorem dX4_run_220 : decode cX4_run 220 = .ok (.iconst 1, 1) := by decide +kernel
theorem dX4_run_221 : decode cX4_run 221 = .ok (.iadd, 1) := by decide +kernel
theorem dX4_run_222 : decode cX4_run 222 = .ok (.istore 6, 2) := by decide +kernel
theorem dX4_run_224 : decode cX4_run 224 = .ok (.goto (-168), 3) := by decide +kernel
theorem dX4_run_227 : decode cX4_run 227 = .ok (.iconst (-1), 1) := by decide +kernel
theorem dX4_run_228 : decode cX4_run 228 = .ok (.istore 10, 2) := by decide +kernel
theorem dX4_run_230 : decode cX4_run 230 = .ok (.iload 9, 2) := by decide +kernel
theorem dX4_run_232 : decode cX4_run 232 = .ok (.iload 7, 2) := by decide +kernel
theorem dX4_run_234 : decode cX4_run 234 = .ok (.isub, 1) := by decide +kernel
theorem dX4_run_235 : decode cX4_run 235 = .ok (.istore 11, 2) := by decide +kernel
theorem dX4_run_237 : decode cX4_run 237 = .ok (.iload 11, 2) := by decide +kernel
theorem dX4_run_239 : decode cX4_run 239 = .ok (.ifCond .lt 33, 3) := by decide +kernel
theorem dX4_run_242 : decode cX4_run 242 = .ok (.iinc 10 1, 3) := by decide +kernel
theorem dX4_run_245 : decode cX4_run 245 = .ok (.aload_n 0, 1) := by decide +kernel
theorem dX4_run_246 : decode cX4_run 246 = .ok (.getfield 20, 3) := by decide +kernel
theorem dX4_run_249 : decode cX4_run 249 = .ok (.iload 6, 2) := by decide +kernel
theorem dX4_run_251 : decode cX4_run 251 = .ok (.iaload, 1) := by decide +kernel
theorem dX4_run_252 : decode cX4_run 252 = .ok (.iload 10, 2) := by decide +kernel
theorem dX4_run_254 : decode cX4_run 254 = .ok (.invokestatic 75, 3) := by decide +kernel
theorem dX4_run_257 : decode cX4_run 257 = .ok (.ifCond .ne 9, 3) := by decide +kernel
theorem dX4_run_260 : decode cX4_run 260 = .ok (.iinc 10 1, 3) := by decide +kernel
theorem dX4_run_263 : decode cX4_run 263 = .ok (.goto (-18), 3) := by decide +kernel
theorem dX4_run_266 : decode cX4_run 266 = .ok (.iinc 11 (-1), 3) := by decide +kernel
theorem dX4_run_269 : decode cX4_run 269 = .ok (.goto (-32), 3) := by decide +kernel
theorem dX4_run_272 : decode cX4_run 272 = .ok (.aload_n 0, 1) := by decide +kernel
theorem dX4_run_273 : decode cX4_run 273 = .ok (.aload_n 0, 1) := by decide +kernel
theorem dX4_run_274 : decode cX4_run 274 = .ok (.getfield 164, 3) := by decide +kernel
theorem dX4_run_277 : decode cX4_run 277 = .ok (.ldc2_w 168, 3) := by decide +kernel
theorem dX4_run_280 : decode cX4_run 280 = .ok (.lmul, 1) := by decide +kernel
theorem dX4_run_281 : decode cX4_run 281 = .ok (.ldc2_w 175, 3) := by decide +kernel
theorem dX4_run_284 : decode cX4_run 284 = .ok (.ladd, 1) := by decide +kernel
theorem dX4_run_285 : decode cX4_run 285 = .ok (.iload 10, 2) := by decide +kernel
theorem dX4_run_287 : decode cX4_run 287 = .ok (.i2l, 1) := by decide +kernel
theorem dX4_run_288 : decode cX4_run 288 = .ok (.ladd, 1) := by decide +kernel
theorem dX4_run_289 : decode cX4_run 289 = .ok (.putfield 164, 3) := by decide +kernel
theorem dX4_run_292 : decode cX4_run 292 = .ok (.aload_n 0, 1) := by decide +kernel
theorem dX4_run_293 : decode cX4_run 293 = .ok (.iload 6, 2) := by decide +kernel
theorem dX4_run_295 : decode cX4_run 295 = .ok (.iload 10, 2) := by decide +kernel
theorem dX4_run_297 : decode cX4_run 297 = .ok (.invokevirtual 107, 3) := by decide +kernel
theorem dX4_run_300 : decode cX4_run 300 = .ok (.istore 11, 2) := by decide +kernel
theorem dX4_run_302 : decode cX4_run 302 = .ok (.iload 11, 2) := by decide +kernel
theorem dX4_run_304 : decode cX4_run 304 = .ok (.iconst (-1), 1) := by decide +kernel
theorem dX4_run_305 : decode cX4_run 305 = .ok (.if_icmp .ne 11, 3) := by decide +kernel
theorem dX4_run_308 : decode cX4_run 308 = .ok (.aload_n 0, 1) := by decide +kernel
theorem dX4_run_309 : decode cX4_run 309 = .ok (.iload 10, 2) := by decide +kernel
theorem dX4_run_311 : decode cX4_run 311 = .ok (.putfield 38, 3) := by decide +kernel
theorem dX4_run_314 : decode cX4_run 314 = .ok (.iconst 1, 1) := by decide +kernel
theorem dX4_run_315 : decode cX4_run 315 = .ok (.ireturn, 1) := by decide +kernel
theorem dX4_run_316 : decode cX4_run 316 = .ok (.aload_n 0, 1) := by decide +kernel
theorem dX4_run_317 : decode cX4_run 317 = .ok (.dup, 1) := by decide +kernel
theorem dX4_run_318 : decode cX4_run 318 = .ok (.getfield 159, 3) := by decide +kernel
theorem dX4_run_321 : decode cX4_run 321 = .ok (.iconst 1, 1) := by decide +kernel
theorem dX4_run_322 : decode cX4_run 322 = .ok (.iadd, 1) := by decide +kernel
theorem dX4_run_323 : decode cX4_run 323 = .ok (.putfield 159, 3) := by decide +kernel
theorem dX4_run_326 : decode cX4_run 326 = .ok (.aload_n 0, 1) := by decide +kernel
theorem dX4_run_327 : decode cX4_run 327 = .ok (.getfield 35, 3) := by decide +kernel
theorem dX4_run_330 : decode cX4_run 330 = .ok (.iload 11, 2) := by decide +kernel
theorem dX4_run_332 : decode cX4_run 332 = .ok (.iaload, 1) := by decide +kernel
theorem dX4_run_333 : decode cX4_run 333 = .ok (.istore 6, 2) := by decide +kernel
theorem dX4_run_335 : decode cX4_run 335 = .ok (.goto (-279), 3) := by decide +kernel
theorem dX4_run_338 : decode cX4_run 338 = .ok (.iconst 0, 1) := by decide +kernel
theorem dX4_run_339 : decode cX4_run 339 = .ok (.ireturn, 1) := by decide +kernel
theorem dX4_executed_0 : decode cX4_executed 0 = .ok (.aload_n 0, 1) := by decide +kernel
theorem dX4_executed_1 : decode cX4_executed 1 = .ok (.iconst 0, 1) := by decide +kernel
theorem dX4_executed_2 : decode cX4_executed 2 = .ok (.putfield 54, 3) := by decide +kernel
theorem dX4_executed_5 : decode cX4_executed 5 = .ok (.aload_n 0, 1) := by decide +kernel
theorem dX4_executed_6 : decode cX4_executed 6 = .ok (.getfield 156, 3) := by decide +kernel
theorem dX4_executed_9 : decode cX4_executed 9 = .ok (.ireturn, 1) := by decide +kernel
theorem dX4_taken_0 : decode cX4_taken 0 = .ok (.aload_n 0, 1) := by decide +kernel
theorem dX4_taken_1 : decode cX4_taken 1 = .ok (.iconst 0, 1) := by decide +kernel
theorem dX4_taken_2 : decode cX4_taken 2 = .ok (.putfield 54, 3) := by decide +kernel
theorem dX4_taken_5 : decode cX4_taken 5 = .ok (.aload_n 0, 1) := by decide +kernel
theorem dX4_taken_6 : decode cX4_taken 6 = .ok (.getfield 159, 3) := by decide +kernel
theorem dX4_taken_9 : decode cX4_taken 9 = .ok (.ireturn, 1) := by decide +kernel
theorem dX4_escaped_0 : decode cX4_escaped 0 = .ok (.aload_n 0, 1) := by decide +kernel
theorem dX4_escaped_1 : decode cX4_escaped 1 = .ok (.iconst 0, 1) := by decide +kernel
theorem dX4_escaped_2 : decode cX4_escaped 2 = .ok (.putfield 54, 3) := by decide +kernel
theorem dX4_escaped_5 : decode cX4_escaped 5 = .ok (.aload_n 0, 1) := by decide +kernel
theorem dX4_escaped_6 : decode cX4_escaped 6 = .ok (.getfield 38, 3) := by decide +kernel
theorem dX4_escaped_9 : decode cX4_escaped 9 = .ok (.ireturn, 1) := by decide +kernel
theorem dX4_way_0 : decode cX4_way 0 = .ok (.aload_n 0, 1) := by decide +kernel
theorem dX4_way_1 : decode cX4_way 1 = .ok (.iconst 0, 1) := by decide +kernel
theorem dX4_way_2 : decode cX4_way 2 = .ok (.putfield 54, 3) := by decide +kernel
theorem dX4_way_5 : decode cX4_way 5 = .ok (.aload_n 0, 1) := by decide +kernel
theorem dX4_way_6 : decode cX4_way 6 = .ok (.getfield 164, 3) := by decide +kernel
theorem dX4_way_9 : decode cX4_way 9 = .ok (.lreturn, 1) := by decide +kernel
theorem dX4_digest_0 : decode cX4_digest 0 = .ok (.aload_n 0, 1) := by decide +kernel
theorem dX4_digest_1 : decode cX4_digest 1 = .ok (.iconst 0, 1) := by decide +kernel
theorem dX4_digest_2 : decode cX4_digest 2 = .ok (.putfield 54, 3) := by decide +kernel
theorem dX4_digest_5 : decode cX4_digest 5 = .ok (.ldc2_w 177, 3) := by decide +kernel
theorem dX4_digest_8 : decode cX4_digest 8 = .ok (.aload_n 0, 1) := by decide +kernel
theorem dX4_digest_9 : decode cX4_digest 9 = .ok (.getfield 7, 3) := by decide +kernel
theorem dX4_digest_12 : decode cX4_digest 12 = .ok (.i2l, 1) := by decide +kernel
theorem dX4_digest_13 : decode cX4_digest 13 = .ok (.ladd, 1) := by decide +kernel
theorem dX4_digest_14 : decode cX4_digest 14 = .ok (.lstore_n 1, 1) := by decide +kernel
theorem dX4_digest_15 : decode cX4_digest 15 = .ok (.iconst 1, 1) := by decide +kernel
theorem dX4_digest_16 : decode cX4_digest 16 = .ok (.istore_n 3, 1) := by decide +kernel
theorem dX4_digest_17 : decode cX4_digest 17 = .ok (.iload_n 3, 1) := by decide +kernel
theorem dX4_digest_18 : decode cX4_digest 18 = .ok (.aload_n 0, 1) := by decide +kernel
theorem dX4_digest_19 : decode cX4_digest 19 = .ok (.getfield 7, 3) := by decide +kernel
theorem dX4_digest_22 : decode cX4_digest 22 = .ok (.if_icmp .ge 23, 3) := by decide +kernel
theorem dX4_digest_25 : decode cX4_digest 25 = .ok (.lload_n 1, 1) := by decide +kernel
theorem dX4_digest_26 : decode cX4_digest 26 = .ok (.ldc2_w 168, 3) := by decide +kernel
theorem dX4_digest_29 : decode cX4_digest 29 = .ok (.lmul, 1) := by decide +kernel
theorem dX4_digest_30 : decode cX4_digest 30 = .ok (.aload_n 0, 1) := by decide +kernel
theorem dX4_digest_31 : decode cX4_digest 31 = .ok (.getfield 13, 3) := by decide +kernel
theorem dX4_digest_34 : decode cX4_digest 34 = .ok (.iload_n 3, 1) := by decide +kernel
theorem dX4_digest_35 : decode cX4_digest 35 = .ok (.iaload, 1) := by decide +kernel
theorem dX4_digest_36 : decode cX4_digest 36 = .ok (.i2l, 1) := by decide +kernel
theorem dX4_digest_37 : decode cX4_digest 37 = .ok (.ladd, 1) := by decide +kernel
theorem dX4_digest_38 : decode cX4_digest 38 = .ok (.lstore_n 1, 1) := by decide +kernel
theorem dX4_digest_39 : decode cX4_digest 39 = .ok (.iinc 3 1, 3) := by decide +kernel
theorem dX4_digest_42 : decode cX4_digest 42 = .ok (.goto (-25), 3) := by decide +kernel
theorem dX4_digest_45 : decode cX4_digest 45 = .ok (.lload_n 1, 1) := by decide +kernel
theorem dX4_digest_46 : decode cX4_digest 46 = .ok (.ldc2_w 168, 3) := by decide +kernel
theorem dX4_digest_49 : decode cX4_digest 49 = .ok (.lmul, 1) := by decide +kernel
theorem dX4_digest_50 : decode cX4_digest 50 = .ok (.aload_n 0, 1) := by decide +kernel
theorem dX4_digest_51 : decode cX4_digest 51 = .ok (.getfield 61, 3) := by decide +kernel
theorem dX4_digest_54 : decode cX4_digest 54 = .ok (.i2l, 1) := by decide +kernel
theorem dX4_digest_55 : decode cX4_digest 55 = .ok (.ladd, 1) := by decide +kernel
theorem dX4_digest_56 : decode cX4_digest 56 = .ok (.lstore_n 1, 1) := by decide +kernel
theorem dX4_digest_57 : decode cX4_digest 57 = .ok (.iconst 0, 1) := by decide +kernel
theorem dX4_digest_58 : decode cX4_digest 58 = .ok (.istore_n 3, 1) := by decide +kernel
theorem dX4_digest_59 : decode cX4_digest 59 = .ok (.iload_n 3, 1) := by decide +kernel
theorem dX4_digest_60 : decode cX4_digest 60 = .ok (.aload_n 0, 1) := by decide +kernel
theorem dX4_digest_61 : decode cX4_digest 61 = .ok (.getfield 61, 3) := by decide +kernel
theorem dX4_digest_64 : decode cX4_digest 64 = .ok (.if_icmp .ge 47, 3) := by decide +kernel
theorem dX4_digest_67 : decode cX4_digest 67 = .ok (.lload_n 1, 1) := by decide +kernel
theorem dX4_digest_68 : decode cX4_digest 68 = .ok (.ldc2_w 168, 3) := by decide +kernel
theorem dX4_digest_71 : decode cX4_digest 71 = .ok (.lmul, 1) := by decide +kernel
theorem dX4_digest_72 : decode cX4_digest 72 = .ok (.aload_n 0, 1) := by decide +kernel
theorem dX4_digest_73 : decode cX4_digest 73 = .ok (.getfield 17, 3) := by decide +kernel
theorem dX4_digest_76 : decode cX4_digest 76 = .ok (.iload_n 3, 1) := by decide +kernel
theorem dX4_digest_77 : decode cX4_digest 77 = .ok (.iaload, 1) := by decide +kernel
theorem dX4_digest_78 : decode cX4_digest 78 = .ok (.i2l, 1) := by decide +kernel
theorem dX4_digest_79 : decode cX4_digest 79 = .ok (.ladd, 1) := by decide +kernel
theorem dX4_digest_80 : decode cX4_digest 80 = .ok (.ldc2_w 168, 3) := by decide +kernel
theorem dX4_digest_83 : decode cX4_digest 83 = .ok (.lmul, 1) := by decide +kernel
theorem dX4_digest_84 : decode cX4_digest 84 = .ok (.aload_n 0, 1) := by decide +kernel
theorem dX4_digest_85 : decode cX4_digest 85 = .ok (.getfield 20, 3) := by decide +kernel
theorem dX4_digest_88 : decode cX4_digest 88 = .ok (.iload_n 3, 1) := by decide +kernel
theorem dX4_digest_89 : decode cX4_digest 89 = .ok (.iaload, 1) := by decide +kernel
theorem dX4_digest_90 : decode cX4_digest 90 = .ok (.i2l, 1) := by decide +kernel
theorem dX4_digest_91 : decode cX4_digest 91 = .ok (.ladd, 1) := by decide +kernel
theorem dX4_digest_92 : decode cX4_digest 92 = .ok (.ldc2_w 168, 3) := by decide +kernel
theorem dX4_digest_95 : decode cX4_digest 95 = .ok (.lmul, 1) := by decide +kernel
theorem dX4_digest_96 : decode cX4_digest 96 = .ok (.aload_n 0, 1) := by decide +kernel
theorem dX4_digest_97 : decode cX4_digest 97 = .ok (.getfield 23, 3) := by decide +kernel
theorem dX4_digest_100 : decode cX4_digest 100 = .ok (.iload_n 3, 1) := by decide +kernel
theorem dX4_digest_101 : decode cX4_digest 101 = .ok (.iaload, 1) := by decide +kernel
theorem dX4_digest_102 : decode cX4_digest 102 = .ok (.i2l, 1) := by decide +kernel
theorem dX4_digest_103 : decode cX4_digest 103 = .ok (.ladd, 1) := by decide +kernel
theorem dX4_digest_104 : decode cX4_digest 104 = .ok (.lstore_n 1, 1) := by decide +kernel
theorem dX4_digest_105 : decode cX4_digest 105 = .ok (.iinc 3 1, 3) := by decide +kernel
theorem dX4_digest_108 : decode cX4_digest 108 = .ok (.goto (-49), 3) := by decide +kernel
theorem dX4_digest_111 : decode cX4_digest 111 = .ok (.lload_n 1, 1) := by decide +kernel
theorem dX4_digest_112 : decode cX4_digest 112 = .ok (.ldc2_w 168, 3) := by decide +kernel
theorem dX4_digest_115 : decode cX4_digest 115 = .ok (.lmul, 1) := by decide +kernel
theorem dX4_digest_116 : decode cX4_digest 116 = .ok (.aload_n 0, 1) := by decide +kernel
theorem dX4_digest_117 : decode cX4_digest 117 = .ok (.getfield 64, 3) := by decide +kernel
theorem dX4_digest_120 : decode cX4_digest 120 = .ok (.i2l, 1) := by decide +kernel
theorem dX4_digest_121 : decode cX4_digest 121 = .ok (.ladd, 1) := by decide +kernel
theorem dX4_digest_122 : decode cX4_digest 122 = .ok (.lstore_n 1, 1) := by decide +kernel
theorem dX4_digest_123 : decode cX4_digest 123 = .ok (.iconst 0, 1) := by decide +kernel
theorem dX4_digest_124 : decode cX4_digest 124 = .ok (.istore_n 3, 1) := by decide +kernel
theorem dX4_digest_125 : decode cX4_digest 125 = .ok (.iload_n 3, 1) := by decide +kernel
theorem dX4_digest_126 : decode cX4_digest 126 = .ok (.aload_n 0, 1) := by decide +kernel
theorem dX4_digest_127 : decode cX4_digest 127 = .ok (.getfield 64, 3) := by decide +kernel
theorem dX4_digest_130 : decode cX4_digest 130 = .ok (.if_icmp .ge 59, 3) := by decide +kernel
theorem dX4_digest_133 : decode cX4_digest 133 = .ok (.lload_n 1, 1) := by decide +kernel
theorem dX4_digest_134 : decode cX4_digest 134 = .ok (.ldc2_w 168, 3) := by decide +kernel
theorem dX4_digest_137 : decode cX4_digest 137 = .ok (.lmul, 1) := by decide +kernel
theorem dX4_digest_138 : decode cX4_digest 138 = .ok (.aload_n 0, 1) := by decide +kernel
theorem dX4_digest_139 : decode cX4_digest 139 = .ok (.getfield 26, 3) := by decide +kernel
theorem dX4_digest_142 : decode cX4_digest 142 = .ok (.iload_n 3, 1) := by decide +kernel
theorem dX4_digest_143 : decode cX4_digest 143 = .ok (.iaload, 1) := by decide +kernel
theorem dX4_digest_144 : decode cX4_digest 144 = .ok (.i2l, 1) := by decide +kernel
theorem dX4_digest_145 : decode cX4_digest 145 = .ok (.ladd, 1) := by decide +kernel
theorem dX4_digest_146 : decode cX4_digest 146 = .ok (.ldc2_w 168, 3) := by decide +kernel
theorem dX4_digest_149 : decode cX4_digest 149 = .ok (.lmul, 1) := by decide +kernel
theorem dX4_digest_150 : decode cX4_digest 150 = .ok (.aload_n 0, 1) := by decide +kernel
theorem dX4_digest_151 : decode cX4_digest 151 = .ok (.getfield 29, 3) := by decide +kernel
theorem dX4_digest_154 : decode cX4_digest 154 = .ok (.iload_n 3, 1) := by decide +kernel
theorem dX4_digest_155 : decode cX4_digest 155 = .ok (.iaload, 1) := by decide +kernel
theorem dX4_digest_156 : decode cX4_digest 156 = .ok (.i2l, 1) := by decide +kernel
theorem dX4_digest_157 : decode cX4_digest 157 = .ok (.ladd, 1) := by decide +kernel
theorem dX4_digest_158 : decode cX4_digest 158 = .ok (.ldc2_w 168, 3) := by decide +kernel
theorem dX4_digest_161 : decode cX4_digest 161 = .ok (.lmul, 1) := by decide +kernel
theorem dX4_digest_162 : decode cX4_digest 162 = .ok (.aload_n 0, 1) := by decide +kernel
theorem dX4_digest_163 : decode cX4_digest 163 = .ok (.getfield 32, 3) := by decide +kernel
theorem dX4_digest_166 : decode cX4_digest 166 = .ok (.iload_n 3, 1) := by decide +kernel
theorem dX4_digest_167 : decode cX4_digest 167 = .ok (.iaload, 1) := by decide +kernel
theorem dX4_digest_168 : decode cX4_digest 168 = .ok (.i2l, 1) := by decide +kernel
theorem dX4_digest_169 : decode cX4_digest 169 = .ok (.ladd, 1) := by decide +kernel
theorem dX4_digest_170 : decode cX4_digest 170 = .ok (.ldc2_w 168, 3) := by decide +kernel
theorem dX4_digest_173 : decode cX4_digest 173 = .ok (.lmul, 1) := by decide +kernel
theorem dX4_digest_174 : decode cX4_digest 174 = .ok (.aload_n 0, 1) := by decide +kernel
theorem dX4_digest_175 : decode cX4_digest 175 = .ok (.getfield 35, 3) := by decide +kernel
theorem dX4_digest_178 : decode cX4_digest 178 = .ok (.iload_n 3, 1) := by decide +kernel
theorem dX4_digest_179 : decode cX4_digest 179 = .ok (.iaload, 1) := by decide +kernel
theorem dX4_digest_180 : decode cX4_digest 180 = .ok (.i2l, 1) := by decide +kernel
theorem dX4_digest_181 : decode cX4_digest 181 = .ok (.ladd, 1) := by decide +kernel
theorem dX4_digest_182 : decode cX4_digest 182 = .ok (.lstore_n 1, 1) := by decide +kernel
theorem dX4_digest_183 : decode cX4_digest 183 = .ok (.iinc 3 1, 3) := by decide +kernel
theorem dX4_digest_186 : decode cX4_digest 186 = .ok (.goto (-61), 3) := by decide +kernel
theorem dX4_digest_189 : decode cX4_digest 189 = .ok (.lload_n 1, 1) := by decide +kernel
theorem dX4_digest_190 : decode cX4_digest 190 = .ok (.ldc2_w 168, 3) := by decide +kernel
theorem dX4_digest_193 : decode cX4_digest 193 = .ok (.lmul, 1) := by decide +kernel
theorem dX4_digest_194 : decode cX4_digest 194 = .ok (.aload_n 0, 1) := by decide +kernel
theorem dX4_digest_195 : decode cX4_digest 195 = .ok (.getfield 156, 3) := by decide +kernel
theorem dX4_digest_198 : decode cX4_digest 198 = .ok (.i2l, 1) := by decide +kernel
theorem dX4_digest_199 : decode cX4_digest 199 = .ok (.ladd, 1) := by decide +kernel
theorem dX4_digest_200 : decode cX4_digest 200 = .ok (.ldc2_w 168, 3) := by decide +kernel
theorem dX4_digest_203 : decode cX4_digest 203 = .ok (.lmul, 1) := by decide +kernel
theorem dX4_digest_204 : decode cX4_digest 204 = .ok (.aload_n 0, 1) := by decide +kernel
theorem dX4_digest_205 : decode cX4_digest 205 = .ok (.getfield 159, 3) := by decide +kernel
theorem dX4_digest_208 : decode cX4_digest 208 = .ok (.i2l, 1) := by decide +kernel
theorem dX4_digest_209 : decode cX4_digest 209 = .ok (.ladd, 1) := by decide +kernel
theorem dX4_digest_210 : decode cX4_digest 210 = .ok (.ldc2_w 168, 3) := by decide +kernel
theorem dX4_digest_213 : decode cX4_digest 213 = .ok (.lmul, 1) := by decide +kernel
theorem dX4_digest_214 : decode cX4_digest 214 = .ok (.aload_n 0, 1) := by decide +kernel
theorem dX4_digest_215 : decode cX4_digest 215 = .ok (.getfield 38, 3) := by decide +kernel
theorem dX4_digest_218 : decode cX4_digest 218 = .ok (.i2l, 1) := by decide +kernel
theorem dX4_digest_219 : decode cX4_digest 219 = .ok (.ladd, 1) := by decide +kernel
theorem dX4_digest_220 : decode cX4_digest 220 = .ok (.lreturn, 1) := by decide +kernel
theorem dJ6_bitCount_0f7a4_0 : decode cJ6_bitCount_0f7a4 0 = .ok (.iload_n 0, 1) := by decide +kernel
theorem dJ6_bitCount_0f7a4_1 : decode cJ6_bitCount_0f7a4 1 = .ok (.iload_n 0, 1) := by decide +kernel
theorem dJ6_bitCount_0f7a4_2 : decode cJ6_bitCount_0f7a4 2 = .ok (.iconst 1, 1) := by decide +kernel
theorem dJ6_bitCount_0f7a4_3 : decode cJ6_bitCount_0f7a4 3 = .ok (.iushr, 1) := by decide +kernel
theorem dJ6_bitCount_0f7a4_4 : decode cJ6_bitCount_0f7a4 4 = .ok (.ldc_w 265, 3) := by decide +kernel
theorem dJ6_bitCount_0f7a4_7 : decode cJ6_bitCount_0f7a4 7 = .ok (.iand, 1) := by decide +kernel
theorem dJ6_bitCount_0f7a4_8 : decode cJ6_bitCount_0f7a4 8 = .ok (.isub, 1) := by decide +kernel
theorem dJ6_bitCount_0f7a4_9 : decode cJ6_bitCount_0f7a4 9 = .ok (.istore_n 0, 1) := by decide +kernel
theorem dJ6_bitCount_0f7a4_10 : decode cJ6_bitCount_0f7a4 10 = .ok (.iload_n 0, 1) := by decide +kernel
theorem dJ6_bitCount_0f7a4_11 : decode cJ6_bitCount_0f7a4 11 = .ok (.ldc_w 266, 3) := by decide +kernel
theorem dJ6_bitCount_0f7a4_14 : decode cJ6_bitCount_0f7a4 14 = .ok (.iand, 1) := by decide +kernel
theorem dJ6_bitCount_0f7a4_15 : decode cJ6_bitCount_0f7a4 15 = .ok (.iload_n 0, 1) := by decide +kernel
theorem dJ6_bitCount_0f7a4_16 : decode cJ6_bitCount_0f7a4 16 = .ok (.iconst 2, 1) := by decide +kernel
theorem dJ6_bitCount_0f7a4_17 : decode cJ6_bitCount_0f7a4 17 = .ok (.iushr, 1) := by decide +kernel
theorem dJ6_bitCount_0f7a4_18 : decode cJ6_bitCount_0f7a4 18 = .ok (.ldc_w 266, 3) := by decide +kernel
theorem dJ6_bitCount_0f7a4_21 : decode cJ6_bitCount_0f7a4 21 = .ok (.iand, 1) := by decide +kernel
theorem dJ6_bitCount_0f7a4_22 : decode cJ6_bitCount_0f7a4 22 = .ok (.iadd, 1) := by decide +kernel
theorem dJ6_bitCount_0f7a4_23 : decode cJ6_bitCount_0f7a4 23 = .ok (.istore_n 0, 1) := by decide +kernel
theorem dJ6_bitCount_0f7a4_24 : decode cJ6_bitCount_0f7a4 24 = .ok (.iload_n 0, 1) := by decide +kernel
theorem dJ6_bitCount_0f7a4_25 : decode cJ6_bitCount_0f7a4 25 = .ok (.iload_n 0, 1) := by decide +kernel
theorem dJ6_bitCount_0f7a4_26 : decode cJ6_bitCount_0f7a4 26 = .ok (.iconst 4, 1) := by decide +kernel
theorem dJ6_bitCount_0f7a4_27 : decode cJ6_bitCount_0f7a4 27 = .ok (.iushr, 1) := by decide +kernel
theorem dJ6_bitCount_0f7a4_28 : decode cJ6_bitCount_0f7a4 28 = .ok (.iadd, 1) := by decide +kernel
theorem dJ6_bitCount_0f7a4_29 : decode cJ6_bitCount_0f7a4 29 = .ok (.ldc_w 267, 3) := by decide +kernel
theorem dJ6_bitCount_0f7a4_32 : decode cJ6_bitCount_0f7a4 32 = .ok (.iand, 1) := by decide +kernel
theorem dJ6_bitCount_0f7a4_33 : decode cJ6_bitCount_0f7a4 33 = .ok (.istore_n 0, 1) := by decide +kernel
theorem dJ6_bitCount_0f7a4_34 : decode cJ6_bitCount_0f7a4 34 = .ok (.iload_n 0, 1) := by decide +kernel
theorem dJ6_bitCount_0f7a4_35 : decode cJ6_bitCount_0f7a4 35 = .ok (.iload_n 0, 1) := by decide +kernel
theorem dJ6_bitCount_0f7a4_36 : decode cJ6_bitCount_0f7a4 36 = .ok (.bipush 8, 2) := by decide +kernel
theorem dJ6_bitCount_0f7a4_38 : decode cJ6_bitCount_0f7a4 38 = .ok (.iushr, 1) := by decide +kernel
theorem dJ6_bitCount_0f7a4_39 : decode cJ6_bitCount_0f7a4 39 = .ok (.iadd, 1) := by decide +kernel
theorem dJ6_bitCount_0f7a4_40 : decode cJ6_bitCount_0f7a4 40 = .ok (.istore_n 0, 1) := by decide +kernel
theorem dJ6_bitCount_0f7a4_41 : decode cJ6_bitCount_0f7a4 41 = .ok (.iload_n 0, 1) := by decide +kernel
theorem dJ6_bitCount_0f7a4_42 : decode cJ6_bitCount_0f7a4 42 = .ok (.iload_n 0, 1) := by decide +kernel
theorem dJ6_bitCount_0f7a4_43 : decode cJ6_bitCount_0f7a4 43 = .ok (.bipush 16, 2) := by decide +kernel
theorem dJ6_bitCount_0f7a4_45 : decode cJ6_bitCount_0f7a4 45 = .ok (.iushr, 1) := by decide +kernel
theorem dJ6_bitCount_0f7a4_46 : decode cJ6_bitCount_0f7a4 46 = .ok (.iadd, 1) := by decide +kernel
theorem dJ6_bitCount_0f7a4_47 : decode cJ6_bitCount_0f7a4 47 = .ok (.istore_n 0, 1) := by decide +kernel
theorem dJ6_bitCount_0f7a4_48 : decode cJ6_bitCount_0f7a4 48 = .ok (.iload_n 0, 1) := by decide +kernel
theorem dJ6_bitCount_0f7a4_49 : decode cJ6_bitCount_0f7a4 49 = .ok (.bipush 63, 2) := by decide +kernel
theorem dJ6_bitCount_0f7a4_51 : decode cJ6_bitCount_0f7a4 51 = .ok (.iand, 1) := by decide +kernel
theorem dJ6_bitCount_0f7a4_52 : decode cJ6_bitCount_0f7a4 52 = .ok (.ireturn, 1) := by decide +kernel
theorem dJ9_max_7cf53_0 : decode cJ9_max_7cf53 0 = .ok (.iload_n 0, 1) := by decide +kernel
theorem dJ9_max_7cf53_1 : decode cJ9_max_7cf53 1 = .ok (.iload_n 1, 1) := by decide +kernel
theorem dJ9_max_7cf53_2 : decode cJ9_max_7cf53 2 = .ok (.if_icmp .lt 7, 3) := by decide +kernel
theorem dJ9_max_7cf53_5 : decode cJ9_max_7cf53 5 = .ok (.iload_n 0, 1) := by decide +kernel
theorem dJ9_max_7cf53_6 : decode cJ9_max_7cf53 6 = .ok (.goto 4, 3) := by decide +kernel
theorem dJ9_max_7cf53_9 : decode cJ9_max_7cf53 9 = .ok (.iload_n 1, 1) := by decide +kernel
theorem dJ9_max_7cf53_10 : decode cJ9_max_7cf53 10 = .ok (.ireturn, 1) := by decide +kernel
theorem dJ9_min_7cf53_0 : decode cJ9_min_7cf53 0 = .ok (.iload_n 0, 1) := by decide +kernel
theorem dJ9_min_7cf53_1 : decode cJ9_min_7cf53 1 = .ok (.iload_n 1, 1) := by decide +kernel
theorem dJ9_min_7cf53_2 : decode cJ9_min_7cf53 2 = .ok (.if_icmp .gt 7, 3) := by decide +kernel
theorem dJ9_min_7cf53_5 : decode cJ9_min_7cf53 5 = .ok (.iload_n 0, 1) := by decide +kernel
theorem dJ9_min_7cf53_6 : decode cJ9_min_7cf53 6 = .ok (.goto 4, 3) := by decide +kernel
theorem dJ9_min_7cf53_9 : decode cJ9_min_7cf53 9 = .ok (.iload_n 1, 1) := by decide +kernel
theorem dJ9_min_7cf53_10 : decode cJ9_min_7cf53 10 = .ok (.ireturn, 1) := by decide +kernel

theorem dX8_init_0 : decode cX8_init 0 = .ok (.aload_n 0, 1) := by decide +kernel
theorem dX8_init_1 : decode cX8_init 1 = .ok (.invokespecial 1, 3) := by decide +kernel
theorem dX8_init_4 : decode cX8_init 4 = .ok (.aload_n 0, 1) := by decide +kernel
theorem dX8_init_5 : decode cX8_init 5 = .ok (.iconst 1, 1) := by decide +kernel
theorem dX8_init_6 : decode cX8_init 6 = .ok (.putfield 7, 3) := by decide +kernel
theorem dX8_init_9 : decode cX8_init 9 = .ok (.aload_n 0, 1) := by decide +kernel
theorem dX8_init_10 : decode cX8_init 10 = .ok (.bipush 40, 2) := by decide +kernel
theorem dX8_init_12 : decode cX8_init 12 = .ok (.newarray .boolean, 2) := by decide +kernel
theorem dX8_init_14 : decode cX8_init 14 = .ok (.putfield 13, 3) := by decide +kernel
theorem dX8_init_17 : decode cX8_init 17 = .ok (.aload_n 0, 1) := by decide +kernel
theorem dX8_init_18 : decode cX8_init 18 = .ok (.bipush 40, 2) := by decide +kernel
theorem dX8_init_20 : decode cX8_init 20 = .ok (.newarray .int, 2) := by decide +kernel
theorem dX8_init_22 : decode cX8_init 22 = .ok (.putfield 17, 3) := by decide +kernel
theorem dX8_init_25 : decode cX8_init 25 = .ok (.aload_n 0, 1) := by decide +kernel
theorem dX8_init_26 : decode cX8_init 26 = .ok (.bipush 40, 2) := by decide +kernel
theorem dX8_init_28 : decode cX8_init 28 = .ok (.newarray .int, 2) := by decide +kernel
theorem dX8_init_30 : decode cX8_init 30 = .ok (.putfield 21, 3) := by decide +kernel
theorem dX8_init_33 : decode cX8_init 33 = .ok (.aload_n 0, 1) := by decide +kernel
theorem dX8_init_34 : decode cX8_init 34 = .ok (.bipush 40, 2) := by decide +kernel
theorem dX8_init_36 : decode cX8_init 36 = .ok (.newarray .int, 2) := by decide +kernel
theorem dX8_init_38 : decode cX8_init 38 = .ok (.putfield 24, 3) := by decide +kernel
theorem dX8_init_41 : decode cX8_init 41 = .ok (.aload_n 0, 1) := by decide +kernel
theorem dX8_init_42 : decode cX8_init 42 = .ok (.sipush 1600, 3) := by decide +kernel
theorem dX8_init_45 : decode cX8_init 45 = .ok (.newarray .int, 2) := by decide +kernel
theorem dX8_init_47 : decode cX8_init 47 = .ok (.putfield 27, 3) := by decide +kernel
theorem dX8_init_50 : decode cX8_init 50 = .ok (.aload_n 0, 1) := by decide +kernel
theorem dX8_init_51 : decode cX8_init 51 = .ok (.sipush 240, 3) := by decide +kernel
theorem dX8_init_54 : decode cX8_init 54 = .ok (.newarray .int, 2) := by decide +kernel
theorem dX8_init_56 : decode cX8_init 56 = .ok (.putfield 30, 3) := by decide +kernel
theorem dX8_init_59 : decode cX8_init 59 = .ok (.aload_n 0, 1) := by decide +kernel
theorem dX8_init_60 : decode cX8_init 60 = .ok (.bipush 40, 2) := by decide +kernel
theorem dX8_init_62 : decode cX8_init 62 = .ok (.newarray .int, 2) := by decide +kernel
theorem dX8_init_64 : decode cX8_init 64 = .ok (.putfield 33, 3) := by decide +kernel
theorem dX8_init_67 : decode cX8_init 67 = .ok (.aload_n 0, 1) := by decide +kernel
theorem dX8_init_68 : decode cX8_init 68 = .ok (.bipush 40, 2) := by decide +kernel
theorem dX8_init_70 : decode cX8_init 70 = .ok (.newarray .int, 2) := by decide +kernel
theorem dX8_init_72 : decode cX8_init 72 = .ok (.putfield 36, 3) := by decide +kernel
theorem dX8_init_75 : decode cX8_init 75 = .ok (.aload_n 0, 1) := by decide +kernel
theorem dX8_init_76 : decode cX8_init 76 = .ok (.bipush 40, 2) := by decide +kernel
theorem dX8_init_78 : decode cX8_init 78 = .ok (.newarray .int, 2) := by decide +kernel
theorem dX8_init_80 : decode cX8_init 80 = .ok (.putfield 39, 3) := by decide +kernel
theorem dX8_init_83 : decode cX8_init 83 = .ok (.aload_n 0, 1) := by decide +kernel
theorem dX8_init_84 : decode cX8_init 84 = .ok (.bipush 40, 2) := by decide +kernel
theorem dX8_init_86 : decode cX8_init 86 = .ok (.newarray .int, 2) := by decide +kernel
theorem dX8_init_88 : decode cX8_init 88 = .ok (.putfield 42, 3) := by decide +kernel
theorem dX8_init_91 : decode cX8_init 91 = .ok (.aload_n 0, 1) := by decide +kernel
theorem dX8_init_92 : decode cX8_init 92 = .ok (.bipush 40, 2) := by decide +kernel
theorem dX8_init_94 : decode cX8_init 94 = .ok (.newarray .boolean, 2) := by decide +kernel
theorem dX8_init_96 : decode cX8_init 96 = .ok (.putfield 45, 3) := by decide +kernel
theorem dX8_init_99 : decode cX8_init 99 = .ok (.aload_n 0, 1) := by decide +kernel
theorem dX8_init_100 : decode cX8_init 100 = .ok (.bipush 40, 2) := by decide +kernel
theorem dX8_init_102 : decode cX8_init 102 = .ok (.newarray .boolean, 2) := by decide +kernel
theorem dX8_init_104 : decode cX8_init 104 = .ok (.putfield 48, 3) := by decide +kernel
theorem dX8_init_107 : decode cX8_init 107 = .ok (.aload_n 0, 1) := by decide +kernel
theorem dX8_init_108 : decode cX8_init 108 = .ok (.sipush 160, 3) := by decide +kernel
theorem dX8_init_111 : decode cX8_init 111 = .ok (.newarray .int, 2) := by decide +kernel
theorem dX8_init_113 : decode cX8_init 113 = .ok (.putfield 51, 3) := by decide +kernel
theorem dX8_init_116 : decode cX8_init 116 = .ok (.aload_n 0, 1) := by decide +kernel
theorem dX8_init_117 : decode cX8_init 117 = .ok (.sipush 3072, 3) := by decide +kernel
theorem dX8_init_120 : decode cX8_init 120 = .ok (.newarray .int, 2) := by decide +kernel
theorem dX8_init_122 : decode cX8_init 122 = .ok (.putfield 54, 3) := by decide +kernel
theorem dX8_init_125 : decode cX8_init 125 = .ok (.aload_n 0, 1) := by decide +kernel
theorem dX8_init_126 : decode cX8_init 126 = .ok (.bipush 40, 2) := by decide +kernel
theorem dX8_init_128 : decode cX8_init 128 = .ok (.newarray .int, 2) := by decide +kernel
theorem dX8_init_130 : decode cX8_init 130 = .ok (.putfield 57, 3) := by decide +kernel
theorem dX8_init_133 : decode cX8_init 133 = .ok (.aload_n 0, 1) := by decide +kernel
theorem dX8_init_134 : decode cX8_init 134 = .ok (.getfield 13, 3) := by decide +kernel
theorem dX8_init_137 : decode cX8_init 137 = .ok (.iconst 0, 1) := by decide +kernel
theorem dX8_init_138 : decode cX8_init 138 = .ok (.iconst 1, 1) := by decide +kernel
theorem dX8_init_139 : decode cX8_init 139 = .ok (.bastore, 1) := by decide +kernel
theorem dX8_init_140 : decode cX8_init 140 = .ok (.aload_n 0, 1) := by decide +kernel
theorem dX8_init_141 : decode cX8_init 141 = .ok (.getfield 21, 3) := by decide +kernel
theorem dX8_init_144 : decode cX8_init 144 = .ok (.iconst 0, 1) := by decide +kernel
theorem dX8_init_145 : decode cX8_init 145 = .ok (.iconst (-1), 1) := by decide +kernel
theorem dX8_init_146 : decode cX8_init 146 = .ok (.iastore, 1) := by decide +kernel
theorem dX8_init_147 : decode cX8_init 147 = .ok (.aload_n 0, 1) := by decide +kernel
theorem dX8_init_148 : decode cX8_init 148 = .ok (.getfield 39, 3) := by decide +kernel
theorem dX8_init_151 : decode cX8_init 151 = .ok (.iconst 0, 1) := by decide +kernel
theorem dX8_init_152 : decode cX8_init 152 = .ok (.iconst (-1), 1) := by decide +kernel
theorem dX8_init_153 : decode cX8_init 153 = .ok (.iastore, 1) := by decide +kernel
theorem dX8_init_154 : decode cX8_init 154 = .ok (.aload_n 0, 1) := by decide +kernel
theorem dX8_init_155 : decode cX8_init 155 = .ok (.getfield 42, 3) := by decide +kernel
theorem dX8_init_158 : decode cX8_init 158 = .ok (.iconst 0, 1) := by decide +kernel
theorem dX8_init_159 : decode cX8_init 159 = .ok (.bipush 8, 2) := by decide +kernel
theorem dX8_init_161 : decode cX8_init 161 = .ok (.iastore, 1) := by decide +kernel
theorem dX8_init_162 : decode cX8_init 162 = .ok (.return_, 1) := by decide +kernel
theorem dX8_thrown_0 : decode cX8_thrown 0 = .ok (.aload_n 0, 1) := by decide +kernel
theorem dX8_thrown_1 : decode cX8_thrown 1 = .ok (.getfield 60, 3) := by decide +kernel
theorem dX8_thrown_4 : decode cX8_thrown 4 = .ok (.ireturn, 1) := by decide +kernel
theorem dX8_fail_0 : decode cX8_fail 0 = .ok (.aload_n 0, 1) := by decide +kernel
theorem dX8_fail_1 : decode cX8_fail 1 = .ok (.iload_n 1, 1) := by decide +kernel
theorem dX8_fail_2 : decode cX8_fail 2 = .ok (.putfield 60, 3) := by decide +kernel
theorem dX8_fail_5 : decode cX8_fail 5 = .ok (.iconst 0, 1) := by decide +kernel
theorem dX8_fail_6 : decode cX8_fail 6 = .ok (.ireturn, 1) := by decide +kernel
theorem dX8_isIn_0 : decode cX8_isIn 0 = .ok (.iload_n 0, 1) := by decide +kernel
theorem dX8_isIn_1 : decode cX8_isIn 1 = .ok (.iload_n 1, 1) := by decide +kernel
theorem dX8_isIn_2 : decode cX8_isIn 2 = .ok (.if_icmp .lt 12, 3) := by decide +kernel
theorem dX8_isIn_5 : decode cX8_isIn 5 = .ok (.iload_n 0, 1) := by decide +kernel
theorem dX8_isIn_6 : decode cX8_isIn 6 = .ok (.iload_n 2, 1) := by decide +kernel
theorem dX8_isIn_7 : decode cX8_isIn 7 = .ok (.if_icmp .gt 7, 3) := by decide +kernel
theorem dX8_isIn_10 : decode cX8_isIn 10 = .ok (.iconst 1, 1) := by decide +kernel
theorem dX8_isIn_11 : decode cX8_isIn 11 = .ok (.goto 4, 3) := by decide +kernel
theorem dX8_isIn_14 : decode cX8_isIn 14 = .ok (.iconst 0, 1) := by decide +kernel
theorem dX8_isIn_15 : decode cX8_isIn 15 = .ok (.ireturn, 1) := by decide +kernel
set_option maxRecDepth 20000 in
theorem ggX8_isFar_X8_isIn : GoodIn wsX8_isFar wsX8_isIn := goodIn_r _ [4] (by decide +kernel) (by decide +kernel)
set_option maxRecDepth 20000 in
theorem gX8_isFar_X8_isIn : GoodIn wsX8_isFar (va_wsS RX8 63 yX8_isIn wsX8_isIn) := goodIn_app (goodIn_of _ (by decide +kernel)) ggX8_isFar_X8_isIn
theorem dX8_isFar_0 : decode cX8_isFar 0 = .ok (.iload_n 0, 1) := by decide +kernel
theorem dX8_isFar_1 : decode cX8_isFar 1 = .ok (.bipush (-100), 2) := by decide +kernel
theorem dX8_isFar_3 : decode cX8_isFar 3 = .ok (.bipush 100, 2) := by decide +kernel
theorem dX8_isFar_5 : decode cX8_isFar 5 = .ok (.invokestatic 63, 3) := by decide +kernel
theorem dX8_isFar_8 : decode cX8_isFar 8 = .ok (.ifCond .ne 7, 3) := by decide +kernel
theorem dX8_isFar_11 : decode cX8_isFar 11 = .ok (.iconst 1, 1) := by decide +kernel
theorem dX8_isFar_12 : decode cX8_isFar 12 = .ok (.goto 4, 3) := by decide +kernel
theorem dX8_isFar_15 : decode cX8_isFar 15 = .ok (.iconst 0, 1) := by decide +kernel
theorem dX8_isFar_16 : decode cX8_isFar 16 = .ok (.ireturn, 1) := by decide +kernel
set_option maxRecDepth 20000 in
theorem ggX8_isNode_X8_isIn : GoodIn wsX8_isNode wsX8_isIn := goodIn_r _ [6] (by decide +kernel) (by decide +kernel)
set_option maxRecDepth 20000 in
theorem gX8_isNode_X8_isIn : GoodIn wsX8_isNode (va_wsS RX8 63 yX8_isIn wsX8_isIn) := goodIn_app (goodIn_of _ (by decide +kernel)) ggX8_isNode_X8_isIn
theorem dX8_isNode_0 : decode cX8_isNode 0 = .ok (.iload_n 1, 1) := by decide +kernel
theorem dX8_isNode_1 : decode cX8_isNode 1 = .ok (.iconst 0, 1) := by decide +kernel
theorem dX8_isNode_2 : decode cX8_isNode 2 = .ok (.aload_n 0, 1) := by decide +kernel
theorem dX8_isNode_3 : decode cX8_isNode 3 = .ok (.getfield 7, 3) := by decide +kernel
theorem dX8_isNode_6 : decode cX8_isNode 6 = .ok (.iconst 1, 1) := by decide +kernel
theorem dX8_isNode_7 : decode cX8_isNode 7 = .ok (.isub, 1) := by decide +kernel
theorem dX8_isNode_8 : decode cX8_isNode 8 = .ok (.invokestatic 63, 3) := by decide +kernel
theorem dX8_isNode_11 : decode cX8_isNode 11 = .ok (.ifCond .eq 16, 3) := by decide +kernel
theorem dX8_isNode_14 : decode cX8_isNode 14 = .ok (.aload_n 0, 1) := by decide +kernel
theorem dX8_isNode_15 : decode cX8_isNode 15 = .ok (.getfield 13, 3) := by decide +kernel
theorem dX8_isNode_18 : decode cX8_isNode 18 = .ok (.iload_n 1, 1) := by decide +kernel
theorem dX8_isNode_19 : decode cX8_isNode 19 = .ok (.baload, 1) := by decide +kernel
theorem dX8_isNode_20 : decode cX8_isNode 20 = .ok (.ifCond .eq 7, 3) := by decide +kernel
theorem dX8_isNode_23 : decode cX8_isNode 23 = .ok (.iconst 1, 1) := by decide +kernel
theorem dX8_isNode_24 : decode cX8_isNode 24 = .ok (.goto 4, 3) := by decide +kernel
theorem dX8_isNode_27 : decode cX8_isNode 27 = .ok (.iconst 0, 1) := by decide +kernel
theorem dX8_isNode_28 : decode cX8_isNode 28 = .ok (.ireturn, 1) := by decide +kernel
theorem dX8_isGroup_0 : decode cX8_isGroup 0 = .ok (.aload_n 0, 1) := by decide +kernel
theorem dX8_isGroup_1 : decode cX8_isGroup 1 = .ok (.getfield 17, 3) := by decide +kernel
theorem dX8_isGroup_4 : decode cX8_isGroup 4 = .ok (.iload_n 1, 1) := by decide +kernel
theorem dX8_isGroup_5 : decode cX8_isGroup 5 = .ok (.iaload, 1) := by decide +kernel
theorem dX8_isGroup_6 : decode cX8_isGroup 6 = .ok (.ifCond .ne 7, 3) := by decide +kernel
theorem dX8_isGroup_9 : decode cX8_isGroup 9 = .ok (.iconst 1, 1) := by decide +kernel
theorem dX8_isGroup_10 : decode cX8_isGroup 10 = .ok (.goto 4, 3) := by decide +kernel
theorem dX8_isGroup_13 : decode cX8_isGroup 13 = .ok (.iconst 0, 1) := by decide +kernel
theorem dX8_isGroup_14 : decode cX8_isGroup 14 = .ok (.ireturn, 1) := by decide +kernel
set_option maxRecDepth 20000 in
theorem ggX8_isPixel_X8_isIn : GoodIn wsX8_isPixel wsX8_isIn := goodIn_r _ [4] (by decide +kernel) (by decide +kernel)
set_option maxRecDepth 20000 in
theorem gX8_isPixel_X8_isIn : GoodIn wsX8_isPixel (va_wsS RX8 63 yX8_isIn wsX8_isIn) := goodIn_app (goodIn_of _ (by decide +kernel)) ggX8_isPixel_X8_isIn
theorem dX8_isPixel_0 : decode cX8_isPixel 0 = .ok (.iload_n 0, 1) := by decide +kernel
theorem dX8_isPixel_1 : decode cX8_isPixel 1 = .ok (.iconst 0, 1) := by decide +kernel
theorem dX8_isPixel_2 : decode cX8_isPixel 2 = .ok (.bipush 63, 2) := by decide +kernel
theorem dX8_isPixel_4 : decode cX8_isPixel 4 = .ok (.invokestatic 63, 3) := by decide +kernel
theorem dX8_isPixel_7 : decode cX8_isPixel 7 = .ok (.ifCond .eq 17, 3) := by decide +kernel
theorem dX8_isPixel_10 : decode cX8_isPixel 10 = .ok (.iload_n 1, 1) := by decide +kernel
theorem dX8_isPixel_11 : decode cX8_isPixel 11 = .ok (.iconst 0, 1) := by decide +kernel
theorem dX8_isPixel_12 : decode cX8_isPixel 12 = .ok (.bipush 47, 2) := by decide +kernel
theorem dX8_isPixel_14 : decode cX8_isPixel 14 = .ok (.invokestatic 63, 3) := by decide +kernel
theorem dX8_isPixel_17 : decode cX8_isPixel 17 = .ok (.ifCond .eq 7, 3) := by decide +kernel
theorem dX8_isPixel_20 : decode cX8_isPixel 20 = .ok (.iconst 1, 1) := by decide +kernel
theorem dX8_isPixel_21 : decode cX8_isPixel 21 = .ok (.goto 4, 3) := by decide +kernel
theorem dX8_isPixel_24 : decode cX8_isPixel 24 = .ok (.iconst 0, 1) := by decide +kernel
theorem dX8_isPixel_25 : decode cX8_isPixel 25 = .ok (.ireturn, 1) := by decide +kernel
set_option maxRecDepth 20000 in
theorem ggX8_add_X8_isNode : GoodIn wsX8_add wsX8_isNode := goodIn_r _ [17, 2, 3, 18, 19, 16, 20, 35, 36, 37, 38, 39, 40, 41, 42, 43, 44, 45, 46, 47, 48, 49, 50, 51, 52, 53] (by decide +kernel) (by decide +kernel)
set_option maxRecDepth 20000 in
theorem gX8_add_X8_isNode : GoodIn wsX8_add (wsV RX8 67 RX8 yX8_isNode wsX8_isNode) := goodIn_app (goodIn_of _ (by decide +kernel)) ggX8_add_X8_isNode
set_option maxRecDepth 20000 in
theorem ggX8_add_X8_fail : GoodIn wsX8_add wsX8_fail := goodIn_r _ [24, 1, 35, 36, 37, 38, 39, 40, 41, 42, 43, 44, 45, 46, 47, 48, 49, 50, 51, 52, 53] (by decide +kernel) (by decide +kernel)
set_option maxRecDepth 20000 in
theorem gX8_add_X8_fail : GoodIn wsX8_add (wsV RX8 71 RX8 yX8_fail wsX8_fail) := goodIn_app (goodIn_of _ (by decide +kernel)) ggX8_add_X8_fail
set_option maxRecDepth 20000 in
theorem ggX8_add_X8_isGroup : GoodIn wsX8_add wsX8_isGroup := goodIn_r _ [28, 4, 35, 36, 37, 38, 39, 40, 41, 42, 43, 44, 45, 46, 47, 48, 49, 50, 51, 52, 53] (by decide +kernel) (by decide +kernel)
set_option maxRecDepth 20000 in
theorem gX8_add_X8_isGroup : GoodIn wsX8_add (wsV RX8 75 RX8 yX8_isGroup wsX8_isGroup) := goodIn_app (goodIn_of _ (by decide +kernel)) ggX8_add_X8_isGroup
set_option maxRecDepth 20000 in
theorem ggX8_add_X8_insert : GoodIn wsX8_add wsX8_insert := goodIn_r _ [32, 33, 12, 6, 7, 8, 9, 34, 35, 36, 37, 38, 39, 40, 41, 42, 43, 44, 45, 46, 47, 48, 49, 50, 51, 52, 53] (by decide +kernel) (by decide +kernel)
set_option maxRecDepth 20000 in
theorem gX8_add_X8_insert : GoodIn wsX8_add (wsV RX8 84 RX8 yX8_insert wsX8_insert) := goodIn_app (goodIn_of _ (by decide +kernel)) ggX8_add_X8_insert
theorem dX8_add_0 : decode cX8_add 0 = .ok (.aload_n 0, 1) := by decide +kernel
theorem dX8_add_1 : decode cX8_add 1 = .ok (.iconst 0, 1) := by decide +kernel
theorem dX8_add_2 : decode cX8_add 2 = .ok (.putfield 60, 3) := by decide +kernel
theorem dX8_add_5 : decode cX8_add 5 = .ok (.aload_n 0, 1) := by decide +kernel
theorem dX8_add_6 : decode cX8_add 6 = .ok (.iload_n 1, 1) := by decide +kernel
theorem dX8_add_7 : decode cX8_add 7 = .ok (.invokevirtual 67, 3) := by decide +kernel
theorem dX8_add_10 : decode cX8_add 10 = .ok (.ifCond .ne 9, 3) := by decide +kernel
theorem dX8_add_13 : decode cX8_add 13 = .ok (.aload_n 0, 1) := by decide +kernel
theorem dX8_add_14 : decode cX8_add 14 = .ok (.iconst 1, 1) := by decide +kernel
theorem dX8_add_15 : decode cX8_add 15 = .ok (.invokevirtual 71, 3) := by decide +kernel
theorem dX8_add_18 : decode cX8_add 18 = .ok (.ireturn, 1) := by decide +kernel
theorem dX8_add_19 : decode cX8_add 19 = .ok (.iload_n 3, 1) := by decide +kernel
theorem dX8_add_20 : decode cX8_add 20 = .ok (.ifCond .ne 9, 3) := by decide +kernel
theorem dX8_add_23 : decode cX8_add 23 = .ok (.aload_n 0, 1) := by decide +kernel
theorem dX8_add_24 : decode cX8_add 24 = .ok (.iconst 2, 1) := by decide +kernel
theorem dX8_add_25 : decode cX8_add 25 = .ok (.invokevirtual 71, 3) := by decide +kernel
theorem dX8_add_28 : decode cX8_add 28 = .ok (.ireturn, 1) := by decide +kernel
theorem dX8_add_29 : decode cX8_add 29 = .ok (.aload_n 0, 1) := by decide +kernel
theorem dX8_add_30 : decode cX8_add 30 = .ok (.iload_n 1, 1) := by decide +kernel
theorem dX8_add_31 : decode cX8_add 31 = .ok (.invokevirtual 75, 3) := by decide +kernel
theorem dX8_add_34 : decode cX8_add 34 = .ok (.ifCond .eq 12, 3) := by decide +kernel
theorem dX8_add_37 : decode cX8_add 37 = .ok (.aload_n 0, 1) := by decide +kernel
theorem dX8_add_38 : decode cX8_add 38 = .ok (.getfield 7, 3) := by decide +kernel
theorem dX8_add_41 : decode cX8_add 41 = .ok (.bipush 40, 2) := by decide +kernel
theorem dX8_add_43 : decode cX8_add 43 = .ok (.if_icmp .ne 17, 3) := by decide +kernel
theorem dX8_add_46 : decode cX8_add 46 = .ok (.aload_n 0, 1) := by decide +kernel
theorem dX8_add_47 : decode cX8_add 47 = .ok (.iload_n 2, 1) := by decide +kernel
theorem dX8_add_48 : decode cX8_add 48 = .ok (.ifCond .ne 7, 3) := by decide +kernel
theorem dX8_add_51 : decode cX8_add 51 = .ok (.iconst 2, 1) := by decide +kernel
theorem dX8_add_52 : decode cX8_add 52 = .ok (.goto 4, 3) := by decide +kernel
theorem dX8_add_55 : decode cX8_add 55 = .ok (.iconst 3, 1) := by decide +kernel
theorem dX8_add_56 : decode cX8_add 56 = .ok (.invokevirtual 71, 3) := by decide +kernel
theorem dX8_add_59 : decode cX8_add 59 = .ok (.ireturn, 1) := by decide +kernel
theorem dX8_add_60 : decode cX8_add 60 = .ok (.aload_n 0, 1) := by decide +kernel
theorem dX8_add_61 : decode cX8_add 61 = .ok (.getfield 7, 3) := by decide +kernel
theorem dX8_add_64 : decode cX8_add 64 = .ok (.istore 5, 2) := by decide +kernel
theorem dX8_add_66 : decode cX8_add 66 = .ok (.aload_n 0, 1) := by decide +kernel
theorem dX8_add_67 : decode cX8_add 67 = .ok (.dup, 1) := by decide +kernel
theorem dX8_add_68 : decode cX8_add 68 = .ok (.getfield 7, 3) := by decide +kernel
theorem dX8_add_71 : decode cX8_add 71 = .ok (.iconst 1, 1) := by decide +kernel
theorem dX8_add_72 : decode cX8_add 72 = .ok (.iadd, 1) := by decide +kernel
theorem dX8_add_73 : decode cX8_add 73 = .ok (.putfield 7, 3) := by decide +kernel
theorem dX8_add_76 : decode cX8_add 76 = .ok (.aload_n 0, 1) := by decide +kernel
theorem dX8_add_77 : decode cX8_add 77 = .ok (.getfield 13, 3) := by decide +kernel
theorem dX8_add_80 : decode cX8_add 80 = .ok (.iload 5, 2) := by decide +kernel
theorem dX8_add_82 : decode cX8_add 82 = .ok (.iconst 1, 1) := by decide +kernel
theorem dX8_add_83 : decode cX8_add 83 = .ok (.bastore, 1) := by decide +kernel
theorem dX8_add_84 : decode cX8_add 84 = .ok (.aload_n 0, 1) := by decide +kernel
theorem dX8_add_85 : decode cX8_add 85 = .ok (.getfield 17, 3) := by decide +kernel
theorem dX8_add_88 : decode cX8_add 88 = .ok (.iload 5, 2) := by decide +kernel
theorem dX8_add_90 : decode cX8_add 90 = .ok (.iload_n 2, 1) := by decide +kernel
theorem dX8_add_91 : decode cX8_add 91 = .ok (.iastore, 1) := by decide +kernel
theorem dX8_add_92 : decode cX8_add 92 = .ok (.aload 4, 2) := by decide +kernel
theorem dX8_add_94 : decode cX8_add 94 = .ok (.iconst 0, 1) := by decide +kernel
theorem dX8_add_95 : decode cX8_add 95 = .ok (.aload_n 0, 1) := by decide +kernel
theorem dX8_add_96 : decode cX8_add 96 = .ok (.getfield 30, 3) := by decide +kernel
theorem dX8_add_99 : decode cX8_add 99 = .ok (.bipush 6, 2) := by decide +kernel
theorem dX8_add_101 : decode cX8_add 101 = .ok (.iload 5, 2) := by decide +kernel
theorem dX8_add_103 : decode cX8_add 103 = .ok (.imul, 1) := by decide +kernel
theorem dX8_add_104 : decode cX8_add 104 = .ok (.aload 4, 2) := by decide +kernel
theorem dX8_add_106 : decode cX8_add 106 = .ok (.arraylength, 1) := by decide +kernel
theorem dX8_add_107 : decode cX8_add 107 = .ok (.invokestatic 78, 3) := by decide +kernel
theorem dX8_add_110 : decode cX8_add 110 = .ok (.aload_n 0, 1) := by decide +kernel
theorem dX8_add_111 : decode cX8_add 111 = .ok (.getfield 39, 3) := by decide +kernel
theorem dX8_add_114 : decode cX8_add 114 = .ok (.iload 5, 2) := by decide +kernel
theorem dX8_add_116 : decode cX8_add 116 = .ok (.iconst (-1), 1) := by decide +kernel
theorem dX8_add_117 : decode cX8_add 117 = .ok (.iastore, 1) := by decide +kernel
theorem dX8_add_118 : decode cX8_add 118 = .ok (.aload_n 0, 1) := by decide +kernel
theorem dX8_add_119 : decode cX8_add 119 = .ok (.getfield 42, 3) := by decide +kernel
theorem dX8_add_122 : decode cX8_add 122 = .ok (.iload 5, 2) := by decide +kernel
theorem dX8_add_124 : decode cX8_add 124 = .ok (.bipush 8, 2) := by decide +kernel
theorem dX8_add_126 : decode cX8_add 126 = .ok (.iastore, 1) := by decide +kernel
theorem dX8_add_127 : decode cX8_add 127 = .ok (.aload_n 0, 1) := by decide +kernel
theorem dX8_add_128 : decode cX8_add 128 = .ok (.iload 5, 2) := by decide +kernel
theorem dX8_add_130 : decode cX8_add 130 = .ok (.iload_n 1, 1) := by decide +kernel
theorem dX8_add_131 : decode cX8_add 131 = .ok (.aload_n 0, 1) := by decide +kernel
theorem dX8_add_132 : decode cX8_add 132 = .ok (.getfield 24, 3) := by decide +kernel
theorem dX8_add_135 : decode cX8_add 135 = .ok (.iload_n 1, 1) := by decide +kernel
theorem dX8_add_136 : decode cX8_add 136 = .ok (.iaload, 1) := by decide +kernel
theorem dX8_add_137 : decode cX8_add 137 = .ok (.invokevirtual 84, 3) := by decide +kernel
theorem dX8_add_140 : decode cX8_add 140 = .ok (.iload 5, 2) := by decide +kernel
theorem dX8_add_142 : decode cX8_add 142 = .ok (.ireturn, 1) := by decide +kernel
theorem dX8_insert_0 : decode cX8_insert 0 = .ok (.bipush 40, 2) := by decide +kernel
theorem dX8_insert_2 : decode cX8_insert 2 = .ok (.iload_n 2, 1) := by decide +kernel
theorem dX8_insert_3 : decode cX8_insert 3 = .ok (.imul, 1) := by decide +kernel
theorem dX8_insert_4 : decode cX8_insert 4 = .ok (.iload_n 3, 1) := by decide +kernel
theorem dX8_insert_5 : decode cX8_insert 5 = .ok (.iadd, 1) := by decide +kernel
theorem dX8_insert_6 : decode cX8_insert 6 = .ok (.istore 4, 2) := by decide +kernel
theorem dX8_insert_8 : decode cX8_insert 8 = .ok (.aload_n 0, 1) := by decide +kernel
theorem dX8_insert_9 : decode cX8_insert 9 = .ok (.getfield 27, 3) := by decide +kernel
theorem dX8_insert_12 : decode cX8_insert 12 = .ok (.iload 4, 2) := by decide +kernel
theorem dX8_insert_14 : decode cX8_insert 14 = .ok (.aload_n 0, 1) := by decide +kernel
theorem dX8_insert_15 : decode cX8_insert 15 = .ok (.getfield 27, 3) := by decide +kernel
theorem dX8_insert_18 : decode cX8_insert 18 = .ok (.iload 4, 2) := by decide +kernel
theorem dX8_insert_20 : decode cX8_insert 20 = .ok (.iconst 1, 1) := by decide +kernel
theorem dX8_insert_21 : decode cX8_insert 21 = .ok (.iadd, 1) := by decide +kernel
theorem dX8_insert_22 : decode cX8_insert 22 = .ok (.aload_n 0, 1) := by decide +kernel
theorem dX8_insert_23 : decode cX8_insert 23 = .ok (.getfield 24, 3) := by decide +kernel
theorem dX8_insert_26 : decode cX8_insert 26 = .ok (.iload_n 2, 1) := by decide +kernel
theorem dX8_insert_27 : decode cX8_insert 27 = .ok (.iaload, 1) := by decide +kernel
theorem dX8_insert_28 : decode cX8_insert 28 = .ok (.iload_n 3, 1) := by decide +kernel
theorem dX8_insert_29 : decode cX8_insert 29 = .ok (.isub, 1) := by decide +kernel
theorem dX8_insert_30 : decode cX8_insert 30 = .ok (.invokestatic 78, 3) := by decide +kernel
theorem dX8_insert_33 : decode cX8_insert 33 = .ok (.aload_n 0, 1) := by decide +kernel
theorem dX8_insert_34 : decode cX8_insert 34 = .ok (.getfield 27, 3) := by decide +kernel
theorem dX8_insert_37 : decode cX8_insert 37 = .ok (.iload 4, 2) := by decide +kernel
theorem dX8_insert_39 : decode cX8_insert 39 = .ok (.iload_n 1, 1) := by decide +kernel
theorem dX8_insert_40 : decode cX8_insert 40 = .ok (.iastore, 1) := by decide +kernel
theorem dX8_insert_41 : decode cX8_insert 41 = .ok (.aload_n 0, 1) := by decide +kernel
theorem dX8_insert_42 : decode cX8_insert 42 = .ok (.getfield 24, 3) := by decide +kernel
theorem dX8_insert_45 : decode cX8_insert 45 = .ok (.iload_n 2, 1) := by decide +kernel
theorem dX8_insert_46 : decode cX8_insert 46 = .ok (.dup2, 1) := by decide +kernel
theorem dX8_insert_47 : decode cX8_insert 47 = .ok (.iaload, 1) := by decide +kernel
theorem dX8_insert_48 : decode cX8_insert 48 = .ok (.iconst 1, 1) := by decide +kernel
theorem dX8_insert_49 : decode cX8_insert 49 = .ok (.iadd, 1) := by decide +kernel
theorem dX8_insert_50 : decode cX8_insert 50 = .ok (.iastore, 1) := by decide +kernel
theorem dX8_insert_51 : decode cX8_insert 51 = .ok (.aload_n 0, 1) := by decide +kernel
theorem dX8_insert_52 : decode cX8_insert 52 = .ok (.getfield 21, 3) := by decide +kernel
theorem dX8_insert_55 : decode cX8_insert 55 = .ok (.iload_n 1, 1) := by decide +kernel
theorem dX8_insert_56 : decode cX8_insert 56 = .ok (.iload_n 2, 1) := by decide +kernel
theorem dX8_insert_57 : decode cX8_insert 57 = .ok (.iastore, 1) := by decide +kernel
theorem dX8_insert_58 : decode cX8_insert 58 = .ok (.return_, 1) := by decide +kernel
theorem dX8_placeOf_0 : decode cX8_placeOf 0 = .ok (.iload_n 1, 1) := by decide +kernel
theorem dX8_placeOf_1 : decode cX8_placeOf 1 = .ok (.ifCond .ne 5, 3) := by decide +kernel
theorem dX8_placeOf_4 : decode cX8_placeOf 4 = .ok (.iconst 0, 1) := by decide +kernel
theorem dX8_placeOf_5 : decode cX8_placeOf 5 = .ok (.ireturn, 1) := by decide +kernel
theorem dX8_placeOf_6 : decode cX8_placeOf 6 = .ok (.iconst 0, 1) := by decide +kernel
theorem dX8_placeOf_7 : decode cX8_placeOf 7 = .ok (.istore_n 2, 1) := by decide +kernel
theorem dX8_placeOf_8 : decode cX8_placeOf 8 = .ok (.aload_n 0, 1) := by decide +kernel
theorem dX8_placeOf_9 : decode cX8_placeOf 9 = .ok (.getfield 27, 3) := by decide +kernel
theorem dX8_placeOf_12 : decode cX8_placeOf 12 = .ok (.bipush 40, 2) := by decide +kernel
theorem dX8_placeOf_14 : decode cX8_placeOf 14 = .ok (.aload_n 0, 1) := by decide +kernel
theorem dX8_placeOf_15 : decode cX8_placeOf 15 = .ok (.getfield 21, 3) := by decide +kernel
theorem dX8_placeOf_18 : decode cX8_placeOf 18 = .ok (.iload_n 1, 1) := by decide +kernel
theorem dX8_placeOf_19 : decode cX8_placeOf 19 = .ok (.iaload, 1) := by decide +kernel
theorem dX8_placeOf_20 : decode cX8_placeOf 20 = .ok (.imul, 1) := by decide +kernel
theorem dX8_placeOf_21 : decode cX8_placeOf 21 = .ok (.iload_n 2, 1) := by decide +kernel
theorem dX8_placeOf_22 : decode cX8_placeOf 22 = .ok (.iadd, 1) := by decide +kernel
theorem dX8_placeOf_23 : decode cX8_placeOf 23 = .ok (.iaload, 1) := by decide +kernel
theorem dX8_placeOf_24 : decode cX8_placeOf 24 = .ok (.iload_n 1, 1) := by decide +kernel
theorem dX8_placeOf_25 : decode cX8_placeOf 25 = .ok (.if_icmp .eq 9, 3) := by decide +kernel
theorem dX8_placeOf_28 : decode cX8_placeOf 28 = .ok (.iinc 2 1, 3) := by decide +kernel
theorem dX8_placeOf_31 : decode cX8_placeOf 31 = .ok (.goto (-23), 3) := by decide +kernel
theorem dX8_placeOf_34 : decode cX8_placeOf 34 = .ok (.iload_n 2, 1) := by decide +kernel
theorem dX8_placeOf_35 : decode cX8_placeOf 35 = .ok (.ireturn, 1) := by decide +kernel
set_option maxRecDepth 20000 in
theorem ggX8_takeOut_X8_placeOf : GoodIn wsX8_takeOut wsX8_placeOf := goodIn_r _ [12, 3, 1, 13, 14, 15, 16, 17, 18, 19, 20, 21, 22, 23, 24, 25, 26, 27, 28, 29, 30, 31] (by decide +kernel) (by decide +kernel)
set_option maxRecDepth 20000 in
theorem gX8_takeOut_X8_placeOf : GoodIn wsX8_takeOut (wsV RX8 88 RX8 yX8_placeOf wsX8_placeOf) := goodIn_app (goodIn_of _ (by decide +kernel)) ggX8_takeOut_X8_placeOf
theorem dX8_takeOut_0 : decode cX8_takeOut 0 = .ok (.aload_n 0, 1) := by decide +kernel
theorem dX8_takeOut_1 : decode cX8_takeOut 1 = .ok (.getfield 21, 3) := by decide +kernel
theorem dX8_takeOut_4 : decode cX8_takeOut 4 = .ok (.iload_n 1, 1) := by decide +kernel
theorem dX8_takeOut_5 : decode cX8_takeOut 5 = .ok (.iaload, 1) := by decide +kernel
theorem dX8_takeOut_6 : decode cX8_takeOut 6 = .ok (.istore_n 2, 1) := by decide +kernel
theorem dX8_takeOut_7 : decode cX8_takeOut 7 = .ok (.bipush 40, 2) := by decide +kernel
theorem dX8_takeOut_9 : decode cX8_takeOut 9 = .ok (.iload_n 2, 1) := by decide +kernel
theorem dX8_takeOut_10 : decode cX8_takeOut 10 = .ok (.imul, 1) := by decide +kernel
theorem dX8_takeOut_11 : decode cX8_takeOut 11 = .ok (.aload_n 0, 1) := by decide +kernel
theorem dX8_takeOut_12 : decode cX8_takeOut 12 = .ok (.iload_n 1, 1) := by decide +kernel
theorem dX8_takeOut_13 : decode cX8_takeOut 13 = .ok (.invokevirtual 88, 3) := by decide +kernel
theorem dX8_takeOut_16 : decode cX8_takeOut 16 = .ok (.iadd, 1) := by decide +kernel
theorem dX8_takeOut_17 : decode cX8_takeOut 17 = .ok (.istore_n 3, 1) := by decide +kernel
theorem dX8_takeOut_18 : decode cX8_takeOut 18 = .ok (.aload_n 0, 1) := by decide +kernel
theorem dX8_takeOut_19 : decode cX8_takeOut 19 = .ok (.getfield 24, 3) := by decide +kernel
theorem dX8_takeOut_22 : decode cX8_takeOut 22 = .ok (.iload_n 2, 1) := by decide +kernel
theorem dX8_takeOut_23 : decode cX8_takeOut 23 = .ok (.dup2, 1) := by decide +kernel
theorem dX8_takeOut_24 : decode cX8_takeOut 24 = .ok (.iaload, 1) := by decide +kernel
theorem dX8_takeOut_25 : decode cX8_takeOut 25 = .ok (.iconst 1, 1) := by decide +kernel
theorem dX8_takeOut_26 : decode cX8_takeOut 26 = .ok (.isub, 1) := by decide +kernel
theorem dX8_takeOut_27 : decode cX8_takeOut 27 = .ok (.iastore, 1) := by decide +kernel
theorem dX8_takeOut_28 : decode cX8_takeOut 28 = .ok (.aload_n 0, 1) := by decide +kernel
theorem dX8_takeOut_29 : decode cX8_takeOut 29 = .ok (.getfield 27, 3) := by decide +kernel
theorem dX8_takeOut_32 : decode cX8_takeOut 32 = .ok (.iload_n 3, 1) := by decide +kernel
theorem dX8_takeOut_33 : decode cX8_takeOut 33 = .ok (.iconst 1, 1) := by decide +kernel
theorem dX8_takeOut_34 : decode cX8_takeOut 34 = .ok (.iadd, 1) := by decide +kernel
theorem dX8_takeOut_35 : decode cX8_takeOut 35 = .ok (.aload_n 0, 1) := by decide +kernel
theorem dX8_takeOut_36 : decode cX8_takeOut 36 = .ok (.getfield 27, 3) := by decide +kernel
theorem dX8_takeOut_39 : decode cX8_takeOut 39 = .ok (.iload_n 3, 1) := by decide +kernel
theorem dX8_takeOut_40 : decode cX8_takeOut 40 = .ok (.bipush 40, 2) := by decide +kernel
theorem dX8_takeOut_42 : decode cX8_takeOut 42 = .ok (.iload_n 2, 1) := by decide +kernel
theorem dX8_takeOut_43 : decode cX8_takeOut 43 = .ok (.imul, 1) := by decide +kernel
theorem dX8_takeOut_44 : decode cX8_takeOut 44 = .ok (.aload_n 0, 1) := by decide +kernel
theorem dX8_takeOut_45 : decode cX8_takeOut 45 = .ok (.getfield 24, 3) := by decide +kernel
theorem dX8_takeOut_48 : decode cX8_takeOut 48 = .ok (.iload_n 2, 1) := by decide +kernel
theorem dX8_takeOut_49 : decode cX8_takeOut 49 = .ok (.iaload, 1) := by decide +kernel
theorem dX8_takeOut_50 : decode cX8_takeOut 50 = .ok (.iadd, 1) := by decide +kernel
theorem dX8_takeOut_51 : decode cX8_takeOut 51 = .ok (.iload_n 3, 1) := by decide +kernel
theorem dX8_takeOut_52 : decode cX8_takeOut 52 = .ok (.isub, 1) := by decide +kernel
theorem dX8_takeOut_53 : decode cX8_takeOut 53 = .ok (.invokestatic 78, 3) := by decide +kernel
theorem dX8_takeOut_56 : decode cX8_takeOut 56 = .ok (.return_, 1) := by decide +kernel
set_option maxRecDepth 20000 in
theorem ggX8_addGroup_X8_add : GoodIn wsX8_addGroup wsX8_add := goodIn_r _ [6, 7, 8, 9, 10, 11, 12, 13, 14, 15, 16, 17, 18, 19, 20, 21, 5, 22, 23, 24, 25, 26, 27, 28, 29, 30, 31, 32, 33, 34, 35, 36, 37, 38, 39, 40, 41, 42, 43, 44, 45, 46, 47, 48, 49, 50, 51, 52, 53, 54, 55, 56, 57, 58] (by decide +kernel) (by decide +kernel)
set_option maxRecDepth 20000 in
theorem gX8_addGroup_X8_add : GoodIn wsX8_addGroup (wsV RX8 91 RX8 yX8_add wsX8_add) := goodIn_app (goodIn_of _ (by decide +kernel)) ggX8_addGroup_X8_add
theorem dX8_addGroup_0 : decode cX8_addGroup 0 = .ok (.aload_n 0, 1) := by decide +kernel
theorem dX8_addGroup_1 : decode cX8_addGroup 1 = .ok (.iload_n 1, 1) := by decide +kernel
theorem dX8_addGroup_2 : decode cX8_addGroup 2 = .ok (.iconst 0, 1) := by decide +kernel
theorem dX8_addGroup_3 : decode cX8_addGroup 3 = .ok (.iconst 1, 1) := by decide +kernel
theorem dX8_addGroup_4 : decode cX8_addGroup 4 = .ok (.iconst 0, 1) := by decide +kernel
theorem dX8_addGroup_5 : decode cX8_addGroup 5 = .ok (.newarray .int, 2) := by decide +kernel
theorem dX8_addGroup_7 : decode cX8_addGroup 7 = .ok (.invokevirtual 91, 3) := by decide +kernel
theorem dX8_addGroup_10 : decode cX8_addGroup 10 = .ok (.ireturn, 1) := by decide +kernel
set_option maxRecDepth 20000 in
theorem ggX8_addRectangle_X8_isFar : GoodIn wsX8_addRectangle wsX8_isFar := goodIn_r _ [5, 6, 7, 4, 8] (by decide +kernel) (by decide +kernel)
set_option maxRecDepth 20000 in
theorem gX8_addRectangle_X8_isFar : GoodIn wsX8_addRectangle (va_wsS RX8 95 yX8_isFar wsX8_isFar) := goodIn_app (goodIn_of _ (by decide +kernel)) ggX8_addRectangle_X8_isFar
set_option maxRecDepth 20000 in
theorem ggX8_addRectangle_X8_isIn : GoodIn wsX8_addRectangle wsX8_isIn := goodIn_r _ [8] (by decide +kernel) (by decide +kernel)
set_option maxRecDepth 20000 in
theorem gX8_addRectangle_X8_isIn : GoodIn wsX8_addRectangle (va_wsS RX8 63 yX8_isIn wsX8_isIn) := goodIn_app (goodIn_of _ (by decide +kernel)) ggX8_addRectangle_X8_isIn
set_option maxRecDepth 20000 in
theorem ggX8_addRectangle_X8_add : GoodIn wsX8_addRectangle wsX8_add := goodIn_r _ [12, 13, 14, 15, 16, 17, 18, 19, 20, 21, 22, 23, 24, 25, 26, 27, 4, 28, 6, 7, 8, 29, 30, 31, 32, 33, 34, 35, 36, 37, 38, 39, 40, 41, 42, 43, 44, 45, 46, 47, 48, 49, 50, 51, 52, 53, 54, 55, 56, 57, 58, 59, 60, 61] (by decide +kernel) (by decide +kernel)
set_option maxRecDepth 20000 in
theorem gX8_addRectangle_X8_add : GoodIn wsX8_addRectangle (wsV RX8 91 RX8 yX8_add wsX8_add) := goodIn_app (goodIn_of _ (by decide +kernel)) ggX8_addRectangle_X8_add
theorem dX8_addRectangle_0 : decode cX8_addRectangle 0 = .ok (.aload_n 0, 1) := by decide +kernel
theorem dX8_addRectangle_1 : decode cX8_addRectangle 1 = .ok (.iload_n 1, 1) := by decide +kernel
theorem dX8_addRectangle_2 : decode cX8_addRectangle 2 = .ok (.iconst 1, 1) := by decide +kernel
theorem dX8_addRectangle_3 : decode cX8_addRectangle 3 = .ok (.iload_n 2, 1) := by decide +kernel
theorem dX8_addRectangle_4 : decode cX8_addRectangle 4 = .ok (.invokestatic 95, 3) := by decide +kernel
theorem dX8_addRectangle_7 : decode cX8_addRectangle 7 = .ok (.ifCond .ne 36, 3) := by decide +kernel
theorem dX8_addRectangle_10 : decode cX8_addRectangle 10 = .ok (.iload_n 3, 1) := by decide +kernel
theorem dX8_addRectangle_11 : decode cX8_addRectangle 11 = .ok (.invokestatic 95, 3) := by decide +kernel
theorem dX8_addRectangle_14 : decode cX8_addRectangle 14 = .ok (.ifCond .ne 29, 3) := by decide +kernel
theorem dX8_addRectangle_17 : decode cX8_addRectangle 17 = .ok (.iload 4, 2) := by decide +kernel
theorem dX8_addRectangle_19 : decode cX8_addRectangle 19 = .ok (.iconst 1, 1) := by decide +kernel
theorem dX8_addRectangle_20 : decode cX8_addRectangle 20 = .ok (.bipush 100, 2) := by decide +kernel
theorem dX8_addRectangle_22 : decode cX8_addRectangle 22 = .ok (.invokestatic 63, 3) := by decide +kernel
theorem dX8_addRectangle_25 : decode cX8_addRectangle 25 = .ok (.ifCond .eq 18, 3) := by decide +kernel
theorem dX8_addRectangle_28 : decode cX8_addRectangle 28 = .ok (.iload 5, 2) := by decide +kernel
theorem dX8_addRectangle_30 : decode cX8_addRectangle 30 = .ok (.iconst 1, 1) := by decide +kernel
theorem dX8_addRectangle_31 : decode cX8_addRectangle 31 = .ok (.bipush 100, 2) := by decide +kernel
theorem dX8_addRectangle_33 : decode cX8_addRectangle 33 = .ok (.invokestatic 63, 3) := by decide +kernel
theorem dX8_addRectangle_36 : decode cX8_addRectangle 36 = .ok (.ifCond .eq 7, 3) := by decide +kernel
theorem dX8_addRectangle_39 : decode cX8_addRectangle 39 = .ok (.iconst 1, 1) := by decide +kernel
theorem dX8_addRectangle_40 : decode cX8_addRectangle 40 = .ok (.goto 4, 3) := by decide +kernel
theorem dX8_addRectangle_43 : decode cX8_addRectangle 43 = .ok (.iconst 0, 1) := by decide +kernel
theorem dX8_addRectangle_44 : decode cX8_addRectangle 44 = .ok (.iconst 4, 1) := by decide +kernel
theorem dX8_addRectangle_45 : decode cX8_addRectangle 45 = .ok (.newarray .int, 2) := by decide +kernel
theorem dX8_addRectangle_47 : decode cX8_addRectangle 47 = .ok (.dup, 1) := by decide +kernel
theorem dX8_addRectangle_48 : decode cX8_addRectangle 48 = .ok (.iconst 0, 1) := by decide +kernel
theorem dX8_addRectangle_49 : decode cX8_addRectangle 49 = .ok (.iload_n 2, 1) := by decide +kernel
theorem dX8_addRectangle_50 : decode cX8_addRectangle 50 = .ok (.iastore, 1) := by decide +kernel
theorem dX8_addRectangle_51 : decode cX8_addRectangle 51 = .ok (.dup, 1) := by decide +kernel
theorem dX8_addRectangle_52 : decode cX8_addRectangle 52 = .ok (.iconst 1, 1) := by decide +kernel
theorem dX8_addRectangle_53 : decode cX8_addRectangle 53 = .ok (.iload_n 3, 1) := by decide +kernel
theorem dX8_addRectangle_54 : decode cX8_addRectangle 54 = .ok (.iastore, 1) := by decide +kernel
theorem dX8_addRectangle_55 : decode cX8_addRectangle 55 = .ok (.dup, 1) := by decide +kernel
theorem dX8_addRectangle_56 : decode cX8_addRectangle 56 = .ok (.iconst 2, 1) := by decide +kernel
theorem dX8_addRectangle_57 : decode cX8_addRectangle 57 = .ok (.iload 4, 2) := by decide +kernel
theorem dX8_addRectangle_59 : decode cX8_addRectangle 59 = .ok (.iastore, 1) := by decide +kernel
theorem dX8_addRectangle_60 : decode cX8_addRectangle 60 = .ok (.dup, 1) := by decide +kernel
theorem dX8_addRectangle_61 : decode cX8_addRectangle 61 = .ok (.iconst 3, 1) := by decide +kernel
theorem dX8_addRectangle_62 : decode cX8_addRectangle 62 = .ok (.iload 5, 2) := by decide +kernel
theorem dX8_addRectangle_64 : decode cX8_addRectangle 64 = .ok (.iastore, 1) := by decide +kernel
theorem dX8_addRectangle_65 : decode cX8_addRectangle 65 = .ok (.invokevirtual 91, 3) := by decide +kernel
theorem dX8_addRectangle_68 : decode cX8_addRectangle 68 = .ok (.ireturn, 1) := by decide +kernel
set_option maxRecDepth 20000 in
theorem ggX8_addDisc_X8_isFar : GoodIn wsX8_addDisc wsX8_isFar := goodIn_r _ [5, 6, 7, 4, 8] (by decide +kernel) (by decide +kernel)
set_option maxRecDepth 20000 in
theorem gX8_addDisc_X8_isFar : GoodIn wsX8_addDisc (va_wsS RX8 95 yX8_isFar wsX8_isFar) := goodIn_app (goodIn_of _ (by decide +kernel)) ggX8_addDisc_X8_isFar
set_option maxRecDepth 20000 in
theorem ggX8_addDisc_X8_isIn : GoodIn wsX8_addDisc wsX8_isIn := goodIn_r _ [8] (by decide +kernel) (by decide +kernel)
set_option maxRecDepth 20000 in
theorem gX8_addDisc_X8_isIn : GoodIn wsX8_addDisc (va_wsS RX8 63 yX8_isIn wsX8_isIn) := goodIn_app (goodIn_of _ (by decide +kernel)) ggX8_addDisc_X8_isIn
set_option maxRecDepth 20000 in
theorem ggX8_addDisc_X8_add : GoodIn wsX8_addDisc wsX8_add := goodIn_r _ [12, 13, 14, 15, 16, 17, 18, 19, 20, 21, 22, 23, 24, 25, 26, 27, 4, 28, 6, 7, 8, 29, 30, 31, 32, 33, 34, 35, 36, 37, 38, 39, 40, 41, 42, 43, 44, 45, 46, 47, 48, 49, 50, 51, 52, 53, 54, 55, 56, 57, 58, 59, 60, 61] (by decide +kernel) (by decide +kernel)
set_option maxRecDepth 20000 in
theorem gX8_addDisc_X8_add : GoodIn wsX8_addDisc (wsV RX8 91 RX8 yX8_add wsX8_add) := goodIn_app (goodIn_of _ (by decide +kernel)) ggX8_addDisc_X8_add
theorem dX8_addDisc_0 : decode cX8_addDisc 0 = .ok (.aload_n 0, 1) := by decide +kernel
theorem dX8_addDisc_1 : decode cX8_addDisc 1 = .ok (.iload_n 1, 1) := by decide +kernel
theorem dX8_addDisc_2 : decode cX8_addDisc 2 = .ok (.iconst 2, 1) := by decide +kernel
theorem dX8_addDisc_3 : decode cX8_addDisc 3 = .ok (.iload_n 2, 1) := by decide +kernel
theorem dX8_addDisc_4 : decode cX8_addDisc 4 = .ok (.invokestatic 95, 3) := by decide +kernel
theorem dX8_addDisc_7 : decode cX8_addDisc 7 = .ok (.ifCond .ne 25, 3) := by decide +kernel
theorem dX8_addDisc_10 : decode cX8_addDisc 10 = .ok (.iload_n 3, 1) := by decide +kernel
theorem dX8_addDisc_11 : decode cX8_addDisc 11 = .ok (.invokestatic 95, 3) := by decide +kernel
theorem dX8_addDisc_14 : decode cX8_addDisc 14 = .ok (.ifCond .ne 18, 3) := by decide +kernel
theorem dX8_addDisc_17 : decode cX8_addDisc 17 = .ok (.iload 4, 2) := by decide +kernel
theorem dX8_addDisc_19 : decode cX8_addDisc 19 = .ok (.iconst 1, 1) := by decide +kernel
theorem dX8_addDisc_20 : decode cX8_addDisc 20 = .ok (.bipush 60, 2) := by decide +kernel
theorem dX8_addDisc_22 : decode cX8_addDisc 22 = .ok (.invokestatic 63, 3) := by decide +kernel
theorem dX8_addDisc_25 : decode cX8_addDisc 25 = .ok (.ifCond .eq 7, 3) := by decide +kernel
theorem dX8_addDisc_28 : decode cX8_addDisc 28 = .ok (.iconst 1, 1) := by decide +kernel
theorem dX8_addDisc_29 : decode cX8_addDisc 29 = .ok (.goto 4, 3) := by decide +kernel
theorem dX8_addDisc_32 : decode cX8_addDisc 32 = .ok (.iconst 0, 1) := by decide +kernel
theorem dX8_addDisc_33 : decode cX8_addDisc 33 = .ok (.iconst 3, 1) := by decide +kernel
theorem dX8_addDisc_34 : decode cX8_addDisc 34 = .ok (.newarray .int, 2) := by decide +kernel
theorem dX8_addDisc_36 : decode cX8_addDisc 36 = .ok (.dup, 1) := by decide +kernel
theorem dX8_addDisc_37 : decode cX8_addDisc 37 = .ok (.iconst 0, 1) := by decide +kernel
theorem dX8_addDisc_38 : decode cX8_addDisc 38 = .ok (.iload_n 2, 1) := by decide +kernel
theorem dX8_addDisc_39 : decode cX8_addDisc 39 = .ok (.iastore, 1) := by decide +kernel
theorem dX8_addDisc_40 : decode cX8_addDisc 40 = .ok (.dup, 1) := by decide +kernel
theorem dX8_addDisc_41 : decode cX8_addDisc 41 = .ok (.iconst 1, 1) := by decide +kernel
theorem dX8_addDisc_42 : decode cX8_addDisc 42 = .ok (.iload_n 3, 1) := by decide +kernel
theorem dX8_addDisc_43 : decode cX8_addDisc 43 = .ok (.iastore, 1) := by decide +kernel
theorem dX8_addDisc_44 : decode cX8_addDisc 44 = .ok (.dup, 1) := by decide +kernel
theorem dX8_addDisc_45 : decode cX8_addDisc 45 = .ok (.iconst 2, 1) := by decide +kernel
theorem dX8_addDisc_46 : decode cX8_addDisc 46 = .ok (.iload 4, 2) := by decide +kernel
theorem dX8_addDisc_48 : decode cX8_addDisc 48 = .ok (.iastore, 1) := by decide +kernel
theorem dX8_addDisc_49 : decode cX8_addDisc 49 = .ok (.invokevirtual 91, 3) := by decide +kernel
theorem dX8_addDisc_52 : decode cX8_addDisc 52 = .ok (.ireturn, 1) := by decide +kernel
set_option maxRecDepth 20000 in
theorem ggX8_addTriangle_X8_isFar : GoodIn wsX8_addTriangle wsX8_isFar := goodIn_r _ [5, 6, 7, 4, 8] (by decide +kernel) (by decide +kernel)
set_option maxRecDepth 20000 in
theorem gX8_addTriangle_X8_isFar : GoodIn wsX8_addTriangle (va_wsS RX8 95 yX8_isFar wsX8_isFar) := goodIn_app (goodIn_of _ (by decide +kernel)) ggX8_addTriangle_X8_isFar
set_option maxRecDepth 20000 in
theorem ggX8_addTriangle_X8_add : GoodIn wsX8_addTriangle wsX8_add := goodIn_r _ [12, 13, 14, 15, 16, 17, 18, 19, 20, 21, 22, 23, 24, 25, 26, 27, 4, 28, 6, 7, 8, 29, 30, 31, 32, 33, 34, 35, 36, 37, 38, 39, 40, 41, 42, 43, 44, 45, 46, 47, 48, 49, 50, 51, 52, 53, 54, 55, 56, 57, 58, 59, 60, 61] (by decide +kernel) (by decide +kernel)
set_option maxRecDepth 20000 in
theorem gX8_addTriangle_X8_add : GoodIn wsX8_addTriangle (wsV RX8 91 RX8 yX8_add wsX8_add) := goodIn_app (goodIn_of _ (by decide +kernel)) ggX8_addTriangle_X8_add
theorem dX8_addTriangle_0 : decode cX8_addTriangle 0 = .ok (.aload_n 0, 1) := by decide +kernel
theorem dX8_addTriangle_1 : decode cX8_addTriangle 1 = .ok (.iload_n 1, 1) := by decide +kernel
theorem dX8_addTriangle_2 : decode cX8_addTriangle 2 = .ok (.iconst 3, 1) := by decide +kernel
theorem dX8_addTriangle_3 : decode cX8_addTriangle 3 = .ok (.iload_n 2, 1) := by decide +kernel
theorem dX8_addTriangle_4 : decode cX8_addTriangle 4 = .ok (.invokestatic 95, 3) := by decide +kernel
theorem dX8_addTriangle_7 : decode cX8_addTriangle 7 = .ok (.ifCond .ne 46, 3) := by decide +kernel
theorem dX8_addTriangle_10 : decode cX8_addTriangle 10 = .ok (.iload_n 3, 1) := by decide +kernel
theorem dX8_addTriangle_11 : decode cX8_addTriangle 11 = .ok (.invokestatic 95, 3) := by decide +kernel
theorem dX8_addTriangle_14 : decode cX8_addTriangle 14 = .ok (.ifCond .ne 39, 3) := by decide +kernel
theorem dX8_addTriangle_17 : decode cX8_addTriangle 17 = .ok (.iload 4, 2) := by decide +kernel
theorem dX8_addTriangle_19 : decode cX8_addTriangle 19 = .ok (.invokestatic 95, 3) := by decide +kernel
theorem dX8_addTriangle_22 : decode cX8_addTriangle 22 = .ok (.ifCond .ne 31, 3) := by decide +kernel
theorem dX8_addTriangle_25 : decode cX8_addTriangle 25 = .ok (.iload 5, 2) := by decide +kernel
theorem dX8_addTriangle_27 : decode cX8_addTriangle 27 = .ok (.invokestatic 95, 3) := by decide +kernel
theorem dX8_addTriangle_30 : decode cX8_addTriangle 30 = .ok (.ifCond .ne 23, 3) := by decide +kernel
theorem dX8_addTriangle_33 : decode cX8_addTriangle 33 = .ok (.iload 6, 2) := by decide +kernel
theorem dX8_addTriangle_35 : decode cX8_addTriangle 35 = .ok (.invokestatic 95, 3) := by decide +kernel
theorem dX8_addTriangle_38 : decode cX8_addTriangle 38 = .ok (.ifCond .ne 15, 3) := by decide +kernel
theorem dX8_addTriangle_41 : decode cX8_addTriangle 41 = .ok (.iload 7, 2) := by decide +kernel
theorem dX8_addTriangle_43 : decode cX8_addTriangle 43 = .ok (.invokestatic 95, 3) := by decide +kernel
theorem dX8_addTriangle_46 : decode cX8_addTriangle 46 = .ok (.ifCond .ne 7, 3) := by decide +kernel
theorem dX8_addTriangle_49 : decode cX8_addTriangle 49 = .ok (.iconst 1, 1) := by decide +kernel
theorem dX8_addTriangle_50 : decode cX8_addTriangle 50 = .ok (.goto 4, 3) := by decide +kernel
theorem dX8_addTriangle_53 : decode cX8_addTriangle 53 = .ok (.iconst 0, 1) := by decide +kernel
theorem dX8_addTriangle_54 : decode cX8_addTriangle 54 = .ok (.bipush 6, 2) := by decide +kernel
theorem dX8_addTriangle_56 : decode cX8_addTriangle 56 = .ok (.newarray .int, 2) := by decide +kernel
theorem dX8_addTriangle_58 : decode cX8_addTriangle 58 = .ok (.dup, 1) := by decide +kernel
theorem dX8_addTriangle_59 : decode cX8_addTriangle 59 = .ok (.iconst 0, 1) := by decide +kernel
theorem dX8_addTriangle_60 : decode cX8_addTriangle 60 = .ok (.iload_n 2, 1) := by decide +kernel
theorem dX8_addTriangle_61 : decode cX8_addTriangle 61 = .ok (.iastore, 1) := by decide +kernel
theorem dX8_addTriangle_62 : decode cX8_addTriangle 62 = .ok (.dup, 1) := by decide +kernel
theorem dX8_addTriangle_63 : decode cX8_addTriangle 63 = .ok (.iconst 1, 1) := by decide +kernel
theorem dX8_addTriangle_64 : decode cX8_addTriangle 64 = .ok (.iload_n 3, 1) := by decide +kernel
theorem dX8_addTriangle_65 : decode cX8_addTriangle 65 = .ok (.iastore, 1) := by decide +kernel
theorem dX8_addTriangle_66 : decode cX8_addTriangle 66 = .ok (.dup, 1) := by decide +kernel
theorem dX8_addTriangle_67 : decode cX8_addTriangle 67 = .ok (.iconst 2, 1) := by decide +kernel
theorem dX8_addTriangle_68 : decode cX8_addTriangle 68 = .ok (.iload 4, 2) := by decide +kernel
theorem dX8_addTriangle_70 : decode cX8_addTriangle 70 = .ok (.iastore, 1) := by decide +kernel
theorem dX8_addTriangle_71 : decode cX8_addTriangle 71 = .ok (.dup, 1) := by decide +kernel
theorem dX8_addTriangle_72 : decode cX8_addTriangle 72 = .ok (.iconst 3, 1) := by decide +kernel
theorem dX8_addTriangle_73 : decode cX8_addTriangle 73 = .ok (.iload 5, 2) := by decide +kernel
theorem dX8_addTriangle_75 : decode cX8_addTriangle 75 = .ok (.iastore, 1) := by decide +kernel
theorem dX8_addTriangle_76 : decode cX8_addTriangle 76 = .ok (.dup, 1) := by decide +kernel
theorem dX8_addTriangle_77 : decode cX8_addTriangle 77 = .ok (.iconst 4, 1) := by decide +kernel
theorem dX8_addTriangle_78 : decode cX8_addTriangle 78 = .ok (.iload 6, 2) := by decide +kernel
theorem dX8_addTriangle_80 : decode cX8_addTriangle 80 = .ok (.iastore, 1) := by decide +kernel
theorem dX8_addTriangle_81 : decode cX8_addTriangle 81 = .ok (.dup, 1) := by decide +kernel
theorem dX8_addTriangle_82 : decode cX8_addTriangle 82 = .ok (.iconst 5, 1) := by decide +kernel
theorem dX8_addTriangle_83 : decode cX8_addTriangle 83 = .ok (.iload 7, 2) := by decide +kernel
theorem dX8_addTriangle_85 : decode cX8_addTriangle 85 = .ok (.iastore, 1) := by decide +kernel
theorem dX8_addTriangle_86 : decode cX8_addTriangle 86 = .ok (.invokevirtual 91, 3) := by decide +kernel
theorem dX8_addTriangle_89 : decode cX8_addTriangle 89 = .ok (.ireturn, 1) := by decide +kernel
set_option maxRecDepth 20000 in
theorem ggX8_walk_X8_walk : GoodIn wsX8_walk wsX8_walk := goodIn_r _ [0, 1, 2, 3, 4, 5, 6, 7, 8, 9, 10, 11, 12, 13, 14, 15, 16, 17, 18, 19, 20, 21, 22, 23, 24, 25, 26, 27] (by decide +kernel) (by decide +kernel)
set_option maxRecDepth 20000 in
theorem gX8_walk_X8_walk : GoodIn wsX8_walk (wsV RX8 101 RX8 yX8_walk wsX8_walk) := goodIn_app (goodIn_of _ (by decide +kernel)) ggX8_walk_X8_walk
theorem dX8_walk_0 : decode cX8_walk 0 = .ok (.aload_n 0, 1) := by decide +kernel
theorem dX8_walk_1 : decode cX8_walk 1 = .ok (.getfield 57, 3) := by decide +kernel
theorem dX8_walk_4 : decode cX8_walk 4 = .ok (.aload_n 0, 1) := by decide +kernel
theorem dX8_walk_5 : decode cX8_walk 5 = .ok (.getfield 98, 3) := by decide +kernel
theorem dX8_walk_8 : decode cX8_walk 8 = .ok (.iload_n 1, 1) := by decide +kernel
theorem dX8_walk_9 : decode cX8_walk 9 = .ok (.iastore, 1) := by decide +kernel
theorem dX8_walk_10 : decode cX8_walk 10 = .ok (.aload_n 0, 1) := by decide +kernel
theorem dX8_walk_11 : decode cX8_walk 11 = .ok (.dup, 1) := by decide +kernel
theorem dX8_walk_12 : decode cX8_walk 12 = .ok (.getfield 98, 3) := by decide +kernel
theorem dX8_walk_15 : decode cX8_walk 15 = .ok (.iconst 1, 1) := by decide +kernel
theorem dX8_walk_16 : decode cX8_walk 16 = .ok (.iadd, 1) := by decide +kernel
theorem dX8_walk_17 : decode cX8_walk 17 = .ok (.putfield 98, 3) := by decide +kernel
theorem dX8_walk_20 : decode cX8_walk 20 = .ok (.iconst 0, 1) := by decide +kernel
theorem dX8_walk_21 : decode cX8_walk 21 = .ok (.istore_n 2, 1) := by decide +kernel
theorem dX8_walk_22 : decode cX8_walk 22 = .ok (.iload_n 2, 1) := by decide +kernel
theorem dX8_walk_23 : decode cX8_walk 23 = .ok (.aload_n 0, 1) := by decide +kernel
theorem dX8_walk_24 : decode cX8_walk 24 = .ok (.getfield 24, 3) := by decide +kernel
theorem dX8_walk_27 : decode cX8_walk 27 = .ok (.iload_n 1, 1) := by decide +kernel
theorem dX8_walk_28 : decode cX8_walk 28 = .ok (.iaload, 1) := by decide +kernel
theorem dX8_walk_29 : decode cX8_walk 29 = .ok (.if_icmp .ge 24, 3) := by decide +kernel
theorem dX8_walk_32 : decode cX8_walk 32 = .ok (.aload_n 0, 1) := by decide +kernel
theorem dX8_walk_33 : decode cX8_walk 33 = .ok (.aload_n 0, 1) := by decide +kernel
theorem dX8_walk_34 : decode cX8_walk 34 = .ok (.getfield 27, 3) := by decide +kernel
theorem dX8_walk_37 : decode cX8_walk 37 = .ok (.bipush 40, 2) := by decide +kernel
theorem dX8_walk_39 : decode cX8_walk 39 = .ok (.iload_n 1, 1) := by decide +kernel
theorem dX8_walk_40 : decode cX8_walk 40 = .ok (.imul, 1) := by decide +kernel
theorem dX8_walk_41 : decode cX8_walk 41 = .ok (.iload_n 2, 1) := by decide +kernel
theorem dX8_walk_42 : decode cX8_walk 42 = .ok (.iadd, 1) := by decide +kernel
theorem dX8_walk_43 : decode cX8_walk 43 = .ok (.iaload, 1) := by decide +kernel
theorem dX8_walk_44 : decode cX8_walk 44 = .ok (.invokevirtual 101, 3) := by decide +kernel
theorem dX8_walk_47 : decode cX8_walk 47 = .ok (.iinc 2 1, 3) := by decide +kernel
theorem dX8_walk_50 : decode cX8_walk 50 = .ok (.goto (-28), 3) := by decide +kernel
theorem dX8_walk_53 : decode cX8_walk 53 = .ok (.return_, 1) := by decide +kernel
set_option maxRecDepth 20000 in
theorem ggX8_walkAll_X8_walk : GoodIn wsX8_walkAll wsX8_walk := goodIn_r _ [6, 7, 1, 8, 9, 2, 3, 4, 5, 10, 11, 12, 13, 14, 15, 16, 17, 18, 19, 20, 21, 22, 23, 24, 25, 26, 27, 28] (by decide +kernel) (by decide +kernel)
set_option maxRecDepth 20000 in
theorem gX8_walkAll_X8_walk : GoodIn wsX8_walkAll (wsV RX8 101 RX8 yX8_walk wsX8_walk) := goodIn_app (goodIn_of _ (by decide +kernel)) ggX8_walkAll_X8_walk
theorem dX8_walkAll_0 : decode cX8_walkAll 0 = .ok (.aload_n 0, 1) := by decide +kernel
theorem dX8_walkAll_1 : decode cX8_walkAll 1 = .ok (.iconst 0, 1) := by decide +kernel
theorem dX8_walkAll_2 : decode cX8_walkAll 2 = .ok (.putfield 98, 3) := by decide +kernel
theorem dX8_walkAll_5 : decode cX8_walkAll 5 = .ok (.aload_n 0, 1) := by decide +kernel
theorem dX8_walkAll_6 : decode cX8_walkAll 6 = .ok (.iload_n 1, 1) := by decide +kernel
theorem dX8_walkAll_7 : decode cX8_walkAll 7 = .ok (.invokevirtual 101, 3) := by decide +kernel
theorem dX8_walkAll_10 : decode cX8_walkAll 10 = .ok (.return_, 1) := by decide +kernel
set_option maxRecDepth 20000 in
theorem ggX8_remove_X8_isNode : GoodIn wsX8_remove wsX8_isNode := goodIn_r _ [9, 10, 3, 11, 12, 8, 13, 41, 42, 43, 44, 45, 46, 47, 48, 49, 50, 51, 52, 53, 54, 55, 56, 57, 58, 59] (by decide +kernel) (by decide +kernel)
set_option maxRecDepth 20000 in
theorem gX8_remove_X8_isNode : GoodIn wsX8_remove (wsV RX8 67 RX8 yX8_isNode wsX8_isNode) := goodIn_app (goodIn_of _ (by decide +kernel)) ggX8_remove_X8_isNode
set_option maxRecDepth 20000 in
theorem ggX8_remove_X8_fail : GoodIn wsX8_remove wsX8_fail := goodIn_r _ [17, 1, 41, 42, 43, 44, 45, 46, 47, 48, 49, 50, 51, 52, 53, 54, 55, 56, 57, 58, 59] (by decide +kernel) (by decide +kernel)
set_option maxRecDepth 20000 in
theorem gX8_remove_X8_fail : GoodIn wsX8_remove (wsV RX8 71 RX8 yX8_fail wsX8_fail) := goodIn_app (goodIn_of _ (by decide +kernel)) ggX8_remove_X8_fail
set_option maxRecDepth 20000 in
theorem ggX8_remove_X8_takeOut : GoodIn wsX8_remove wsX8_takeOut := goodIn_r _ [21, 22, 23, 24, 25, 26, 27, 28, 29, 30, 31, 8, 32, 41, 42, 43, 44, 45, 46, 47, 48, 49, 50, 51, 52, 53, 54, 55, 56, 57, 58, 59] (by decide +kernel) (by decide +kernel)
set_option maxRecDepth 20000 in
theorem gX8_remove_X8_takeOut : GoodIn wsX8_remove (wsV RX8 105 RX8 yX8_takeOut wsX8_takeOut) := goodIn_app (goodIn_of _ (by decide +kernel)) ggX8_remove_X8_takeOut
set_option maxRecDepth 20000 in
theorem ggX8_remove_X8_walkAll : GoodIn wsX8_remove wsX8_walkAll := goodIn_r _ [36, 2, 37, 38, 39, 8, 40, 4, 23, 24, 41, 42, 43, 44, 45, 46, 47, 48, 49, 50, 51, 52, 53, 54, 55, 56, 57, 58, 59] (by decide +kernel) (by decide +kernel)
set_option maxRecDepth 20000 in
theorem gX8_remove_X8_walkAll : GoodIn wsX8_remove (wsV RX8 108 RX8 yX8_walkAll wsX8_walkAll) := goodIn_app (goodIn_of _ (by decide +kernel)) ggX8_remove_X8_walkAll
theorem dX8_remove_0 : decode cX8_remove 0 = .ok (.aload_n 0, 1) := by decide +kernel
theorem dX8_remove_1 : decode cX8_remove 1 = .ok (.iconst 0, 1) := by decide +kernel
theorem dX8_remove_2 : decode cX8_remove 2 = .ok (.putfield 60, 3) := by decide +kernel
theorem dX8_remove_5 : decode cX8_remove 5 = .ok (.aload_n 0, 1) := by decide +kernel
theorem dX8_remove_6 : decode cX8_remove 6 = .ok (.iload_n 1, 1) := by decide +kernel
theorem dX8_remove_7 : decode cX8_remove 7 = .ok (.invokevirtual 67, 3) := by decide +kernel
theorem dX8_remove_10 : decode cX8_remove 10 = .ok (.ifCond .ne 9, 3) := by decide +kernel
theorem dX8_remove_13 : decode cX8_remove 13 = .ok (.aload_n 0, 1) := by decide +kernel
theorem dX8_remove_14 : decode cX8_remove 14 = .ok (.iconst 1, 1) := by decide +kernel
theorem dX8_remove_15 : decode cX8_remove 15 = .ok (.invokevirtual 71, 3) := by decide +kernel
theorem dX8_remove_18 : decode cX8_remove 18 = .ok (.ireturn, 1) := by decide +kernel
theorem dX8_remove_19 : decode cX8_remove 19 = .ok (.iload_n 1, 1) := by decide +kernel
theorem dX8_remove_20 : decode cX8_remove 20 = .ok (.ifCond .ne 9, 3) := by decide +kernel
theorem dX8_remove_23 : decode cX8_remove 23 = .ok (.aload_n 0, 1) := by decide +kernel
theorem dX8_remove_24 : decode cX8_remove 24 = .ok (.iconst 2, 1) := by decide +kernel
theorem dX8_remove_25 : decode cX8_remove 25 = .ok (.invokevirtual 71, 3) := by decide +kernel
theorem dX8_remove_28 : decode cX8_remove 28 = .ok (.ireturn, 1) := by decide +kernel
theorem dX8_remove_29 : decode cX8_remove 29 = .ok (.aload_n 0, 1) := by decide +kernel
theorem dX8_remove_30 : decode cX8_remove 30 = .ok (.iload_n 1, 1) := by decide +kernel
theorem dX8_remove_31 : decode cX8_remove 31 = .ok (.invokevirtual 105, 3) := by decide +kernel
theorem dX8_remove_34 : decode cX8_remove 34 = .ok (.aload_n 0, 1) := by decide +kernel
theorem dX8_remove_35 : decode cX8_remove 35 = .ok (.iload_n 1, 1) := by decide +kernel
theorem dX8_remove_36 : decode cX8_remove 36 = .ok (.invokevirtual 108, 3) := by decide +kernel
theorem dX8_remove_39 : decode cX8_remove 39 = .ok (.iconst 0, 1) := by decide +kernel
theorem dX8_remove_40 : decode cX8_remove 40 = .ok (.istore_n 2, 1) := by decide +kernel
theorem dX8_remove_41 : decode cX8_remove 41 = .ok (.iload_n 2, 1) := by decide +kernel
theorem dX8_remove_42 : decode cX8_remove 42 = .ok (.aload_n 0, 1) := by decide +kernel
theorem dX8_remove_43 : decode cX8_remove 43 = .ok (.getfield 98, 3) := by decide +kernel
theorem dX8_remove_46 : decode cX8_remove 46 = .ok (.if_icmp .ge 21, 3) := by decide +kernel
theorem dX8_remove_49 : decode cX8_remove 49 = .ok (.aload_n 0, 1) := by decide +kernel
theorem dX8_remove_50 : decode cX8_remove 50 = .ok (.getfield 13, 3) := by decide +kernel
theorem dX8_remove_53 : decode cX8_remove 53 = .ok (.aload_n 0, 1) := by decide +kernel
theorem dX8_remove_54 : decode cX8_remove 54 = .ok (.getfield 57, 3) := by decide +kernel
theorem dX8_remove_57 : decode cX8_remove 57 = .ok (.iload_n 2, 1) := by decide +kernel
theorem dX8_remove_58 : decode cX8_remove 58 = .ok (.iaload, 1) := by decide +kernel
theorem dX8_remove_59 : decode cX8_remove 59 = .ok (.iconst 0, 1) := by decide +kernel
theorem dX8_remove_60 : decode cX8_remove 60 = .ok (.bastore, 1) := by decide +kernel
theorem dX8_remove_61 : decode cX8_remove 61 = .ok (.iinc 2 1, 3) := by decide +kernel
theorem dX8_remove_64 : decode cX8_remove 64 = .ok (.goto (-23), 3) := by decide +kernel
theorem dX8_remove_67 : decode cX8_remove 67 = .ok (.aload_n 0, 1) := by decide +kernel
theorem dX8_remove_68 : decode cX8_remove 68 = .ok (.getfield 98, 3) := by decide +kernel
theorem dX8_remove_71 : decode cX8_remove 71 = .ok (.ireturn, 1) := by decide +kernel
theorem dX8_isWithin_0 : decode cX8_isWithin 0 = .ok (.iload_n 1, 1) := by decide +kernel
theorem dX8_isWithin_1 : decode cX8_isWithin 1 = .ok (.istore_n 3, 1) := by decide +kernel
theorem dX8_isWithin_2 : decode cX8_isWithin 2 = .ok (.iload_n 3, 1) := by decide +kernel
theorem dX8_isWithin_3 : decode cX8_isWithin 3 = .ok (.iconst (-1), 1) := by decide +kernel
theorem dX8_isWithin_4 : decode cX8_isWithin 4 = .ok (.if_icmp .eq 18, 3) := by decide +kernel
theorem dX8_isWithin_7 : decode cX8_isWithin 7 = .ok (.iload_n 3, 1) := by decide +kernel
theorem dX8_isWithin_8 : decode cX8_isWithin 8 = .ok (.iload_n 2, 1) := by decide +kernel
theorem dX8_isWithin_9 : decode cX8_isWithin 9 = .ok (.if_icmp .eq 13, 3) := by decide +kernel
theorem dX8_isWithin_12 : decode cX8_isWithin 12 = .ok (.aload_n 0, 1) := by decide +kernel
theorem dX8_isWithin_13 : decode cX8_isWithin 13 = .ok (.getfield 21, 3) := by decide +kernel
theorem dX8_isWithin_16 : decode cX8_isWithin 16 = .ok (.iload_n 3, 1) := by decide +kernel
theorem dX8_isWithin_17 : decode cX8_isWithin 17 = .ok (.iaload, 1) := by decide +kernel
theorem dX8_isWithin_18 : decode cX8_isWithin 18 = .ok (.istore_n 3, 1) := by decide +kernel
theorem dX8_isWithin_19 : decode cX8_isWithin 19 = .ok (.goto (-17), 3) := by decide +kernel
theorem dX8_isWithin_22 : decode cX8_isWithin 22 = .ok (.iload_n 3, 1) := by decide +kernel
theorem dX8_isWithin_23 : decode cX8_isWithin 23 = .ok (.iload_n 2, 1) := by decide +kernel
theorem dX8_isWithin_24 : decode cX8_isWithin 24 = .ok (.if_icmp .ne 7, 3) := by decide +kernel
theorem dX8_isWithin_27 : decode cX8_isWithin 27 = .ok (.iconst 1, 1) := by decide +kernel
theorem dX8_isWithin_28 : decode cX8_isWithin 28 = .ok (.goto 4, 3) := by decide +kernel
theorem dX8_isWithin_31 : decode cX8_isWithin 31 = .ok (.iconst 0, 1) := by decide +kernel
theorem dX8_isWithin_32 : decode cX8_isWithin 32 = .ok (.ireturn, 1) := by decide +kernel
set_option maxRecDepth 20000 in
theorem ggX8_move_X8_isNode : GoodIn wsX8_move wsX8_isNode := goodIn_r _ [8, 9, 10, 11, 12, 7, 13, 44, 45, 46, 47, 48, 49, 50, 51, 52, 53, 54, 55, 56, 57, 58, 59, 60, 61, 62] (by decide +kernel) (by decide +kernel)
set_option maxRecDepth 20000 in
theorem gX8_move_X8_isNode : GoodIn wsX8_move (wsV RX8 67 RX8 yX8_isNode wsX8_isNode) := goodIn_app (goodIn_of _ (by decide +kernel)) ggX8_move_X8_isNode
set_option maxRecDepth 20000 in
theorem ggX8_move_X8_fail : GoodIn wsX8_move wsX8_fail := goodIn_r _ [17, 1, 44, 45, 46, 47, 48, 49, 50, 51, 52, 53, 54, 55, 56, 57, 58, 59, 60, 61, 62] (by decide +kernel) (by decide +kernel)
set_option maxRecDepth 20000 in
theorem gX8_move_X8_fail : GoodIn wsX8_move (wsV RX8 71 RX8 yX8_fail wsX8_fail) := goodIn_app (goodIn_of _ (by decide +kernel)) ggX8_move_X8_fail
set_option maxRecDepth 20000 in
theorem ggX8_move_X8_isGroup : GoodIn wsX8_move wsX8_isGroup := goodIn_r _ [21, 22, 44, 45, 46, 47, 48, 49, 50, 51, 52, 53, 54, 55, 56, 57, 58, 59, 60, 61, 62] (by decide +kernel) (by decide +kernel)
set_option maxRecDepth 20000 in
theorem gX8_move_X8_isGroup : GoodIn wsX8_move (wsV RX8 75 RX8 yX8_isGroup wsX8_isGroup) := goodIn_app (goodIn_of _ (by decide +kernel)) ggX8_move_X8_isGroup
set_option maxRecDepth 20000 in
theorem ggX8_move_X8_isWithin : GoodIn wsX8_move wsX8_isWithin := goodIn_r _ [26, 3, 44, 45, 46, 47, 48, 49, 50, 51, 52, 53, 54, 55, 56, 57, 58, 59, 60, 61, 62] (by decide +kernel) (by decide +kernel)
set_option maxRecDepth 20000 in
theorem gX8_move_X8_isWithin : GoodIn wsX8_move (wsV RX8 111 RX8 yX8_isWithin wsX8_isWithin) := goodIn_app (goodIn_of _ (by decide +kernel)) ggX8_move_X8_isWithin
set_option maxRecDepth 20000 in
theorem ggX8_move_X8_isIn : GoodIn wsX8_move wsX8_isIn := goodIn_r _ [13] (by decide +kernel) (by decide +kernel)
set_option maxRecDepth 20000 in
theorem gX8_move_X8_isIn : GoodIn wsX8_move (va_wsS RX8 63 yX8_isIn wsX8_isIn) := goodIn_app (goodIn_of _ (by decide +kernel)) ggX8_move_X8_isIn
set_option maxRecDepth 20000 in
theorem ggX8_move_X8_placeOf : GoodIn wsX8_move wsX8_placeOf := goodIn_r _ [30, 31, 3, 44, 45, 46, 47, 48, 49, 50, 51, 52, 53, 54, 55, 56, 57, 58, 59, 60, 61, 62] (by decide +kernel) (by decide +kernel)
set_option maxRecDepth 20000 in
theorem gX8_move_X8_placeOf : GoodIn wsX8_move (wsV RX8 88 RX8 yX8_placeOf wsX8_placeOf) := goodIn_app (goodIn_of _ (by decide +kernel)) ggX8_move_X8_placeOf
set_option maxRecDepth 20000 in
theorem ggX8_move_X8_takeOut : GoodIn wsX8_move wsX8_takeOut := goodIn_r _ [35, 3, 2, 31, 36, 37, 38, 39, 27, 28, 29, 7, 30, 44, 45, 46, 47, 48, 49, 50, 51, 52, 53, 54, 55, 56, 57, 58, 59, 60, 61, 62] (by decide +kernel) (by decide +kernel)
set_option maxRecDepth 20000 in
theorem gX8_move_X8_takeOut : GoodIn wsX8_move (wsV RX8 105 RX8 yX8_takeOut wsX8_takeOut) := goodIn_app (goodIn_of _ (by decide +kernel)) ggX8_move_X8_takeOut
set_option maxRecDepth 20000 in
theorem ggX8_move_X8_insert : GoodIn wsX8_move wsX8_insert := goodIn_r _ [43, 31, 2, 36, 37, 38, 39, 3, 44, 45, 46, 47, 48, 49, 50, 51, 52, 53, 54, 55, 56, 57, 58, 59, 60, 61, 62] (by decide +kernel) (by decide +kernel)
set_option maxRecDepth 20000 in
theorem gX8_move_X8_insert : GoodIn wsX8_move (wsV RX8 84 RX8 yX8_insert wsX8_insert) := goodIn_app (goodIn_of _ (by decide +kernel)) ggX8_move_X8_insert
theorem dX8_move_0 : decode cX8_move 0 = .ok (.aload_n 0, 1) := by decide +kernel
theorem dX8_move_1 : decode cX8_move 1 = .ok (.iconst 0, 1) := by decide +kernel
theorem dX8_move_2 : decode cX8_move 2 = .ok (.putfield 60, 3) := by decide +kernel
theorem dX8_move_5 : decode cX8_move 5 = .ok (.aload_n 0, 1) := by decide +kernel
theorem dX8_move_6 : decode cX8_move 6 = .ok (.iload_n 1, 1) := by decide +kernel
theorem dX8_move_7 : decode cX8_move 7 = .ok (.invokevirtual 67, 3) := by decide +kernel
theorem dX8_move_10 : decode cX8_move 10 = .ok (.ifCond .eq 11, 3) := by decide +kernel
theorem dX8_move_13 : decode cX8_move 13 = .ok (.aload_n 0, 1) := by decide +kernel
theorem dX8_move_14 : decode cX8_move 14 = .ok (.iload_n 2, 1) := by decide +kernel
theorem dX8_move_15 : decode cX8_move 15 = .ok (.invokevirtual 67, 3) := by decide +kernel
theorem dX8_move_18 : decode cX8_move 18 = .ok (.ifCond .ne 9, 3) := by decide +kernel
theorem dX8_move_21 : decode cX8_move 21 = .ok (.aload_n 0, 1) := by decide +kernel
theorem dX8_move_22 : decode cX8_move 22 = .ok (.iconst 1, 1) := by decide +kernel
theorem dX8_move_23 : decode cX8_move 23 = .ok (.invokevirtual 71, 3) := by decide +kernel
theorem dX8_move_26 : decode cX8_move 26 = .ok (.ireturn, 1) := by decide +kernel
theorem dX8_move_27 : decode cX8_move 27 = .ok (.iload_n 1, 1) := by decide +kernel
theorem dX8_move_28 : decode cX8_move 28 = .ok (.ifCond .eq 50, 3) := by decide +kernel
theorem dX8_move_31 : decode cX8_move 31 = .ok (.aload_n 0, 1) := by decide +kernel
theorem dX8_move_32 : decode cX8_move 32 = .ok (.iload_n 2, 1) := by decide +kernel
theorem dX8_move_33 : decode cX8_move 33 = .ok (.invokevirtual 75, 3) := by decide +kernel
theorem dX8_move_36 : decode cX8_move 36 = .ok (.ifCond .eq 42, 3) := by decide +kernel
theorem dX8_move_39 : decode cX8_move 39 = .ok (.aload_n 0, 1) := by decide +kernel
theorem dX8_move_40 : decode cX8_move 40 = .ok (.iload_n 2, 1) := by decide +kernel
theorem dX8_move_41 : decode cX8_move 41 = .ok (.iload_n 1, 1) := by decide +kernel
theorem dX8_move_42 : decode cX8_move 42 = .ok (.invokevirtual 111, 3) := by decide +kernel
theorem dX8_move_45 : decode cX8_move 45 = .ok (.ifCond .ne 33, 3) := by decide +kernel
theorem dX8_move_48 : decode cX8_move 48 = .ok (.iload_n 3, 1) := by decide +kernel
theorem dX8_move_49 : decode cX8_move 49 = .ok (.iconst 0, 1) := by decide +kernel
theorem dX8_move_50 : decode cX8_move 50 = .ok (.aload_n 0, 1) := by decide +kernel
theorem dX8_move_51 : decode cX8_move 51 = .ok (.getfield 24, 3) := by decide +kernel
theorem dX8_move_54 : decode cX8_move 54 = .ok (.iload_n 2, 1) := by decide +kernel
theorem dX8_move_55 : decode cX8_move 55 = .ok (.iaload, 1) := by decide +kernel
theorem dX8_move_56 : decode cX8_move 56 = .ok (.aload_n 0, 1) := by decide +kernel
theorem dX8_move_57 : decode cX8_move 57 = .ok (.getfield 21, 3) := by decide +kernel
theorem dX8_move_60 : decode cX8_move 60 = .ok (.iload_n 1, 1) := by decide +kernel
theorem dX8_move_61 : decode cX8_move 61 = .ok (.iaload, 1) := by decide +kernel
theorem dX8_move_62 : decode cX8_move 62 = .ok (.iload_n 2, 1) := by decide +kernel
theorem dX8_move_63 : decode cX8_move 63 = .ok (.if_icmp .ne 7, 3) := by decide +kernel
theorem dX8_move_66 : decode cX8_move 66 = .ok (.iconst 1, 1) := by decide +kernel
theorem dX8_move_67 : decode cX8_move 67 = .ok (.goto 4, 3) := by decide +kernel
theorem dX8_move_70 : decode cX8_move 70 = .ok (.iconst 0, 1) := by decide +kernel
theorem dX8_move_71 : decode cX8_move 71 = .ok (.isub, 1) := by decide +kernel
theorem dX8_move_72 : decode cX8_move 72 = .ok (.invokestatic 63, 3) := by decide +kernel
theorem dX8_move_75 : decode cX8_move 75 = .ok (.ifCond .ne 9, 3) := by decide +kernel
theorem dX8_move_78 : decode cX8_move 78 = .ok (.aload_n 0, 1) := by decide +kernel
theorem dX8_move_79 : decode cX8_move 79 = .ok (.iconst 2, 1) := by decide +kernel
theorem dX8_move_80 : decode cX8_move 80 = .ok (.invokevirtual 71, 3) := by decide +kernel
theorem dX8_move_83 : decode cX8_move 83 = .ok (.ireturn, 1) := by decide +kernel
theorem dX8_move_84 : decode cX8_move 84 = .ok (.aload_n 0, 1) := by decide +kernel
theorem dX8_move_85 : decode cX8_move 85 = .ok (.iload_n 1, 1) := by decide +kernel
theorem dX8_move_86 : decode cX8_move 86 = .ok (.invokevirtual 88, 3) := by decide +kernel
theorem dX8_move_89 : decode cX8_move 89 = .ok (.istore 4, 2) := by decide +kernel
theorem dX8_move_91 : decode cX8_move 91 = .ok (.aload_n 0, 1) := by decide +kernel
theorem dX8_move_92 : decode cX8_move 92 = .ok (.iload_n 1, 1) := by decide +kernel
theorem dX8_move_93 : decode cX8_move 93 = .ok (.invokevirtual 105, 3) := by decide +kernel
theorem dX8_move_96 : decode cX8_move 96 = .ok (.aload_n 0, 1) := by decide +kernel
theorem dX8_move_97 : decode cX8_move 97 = .ok (.iload_n 1, 1) := by decide +kernel
theorem dX8_move_98 : decode cX8_move 98 = .ok (.iload_n 2, 1) := by decide +kernel
theorem dX8_move_99 : decode cX8_move 99 = .ok (.iload_n 3, 1) := by decide +kernel
theorem dX8_move_100 : decode cX8_move 100 = .ok (.invokevirtual 84, 3) := by decide +kernel
theorem dX8_move_103 : decode cX8_move 103 = .ok (.iload 4, 2) := by decide +kernel
theorem dX8_move_105 : decode cX8_move 105 = .ok (.ireturn, 1) := by decide +kernel
theorem dX8_fillOf_0 : decode cX8_fillOf 0 = .ok (.iload_n 1, 1) := by decide +kernel
theorem dX8_fillOf_1 : decode cX8_fillOf 1 = .ok (.istore_n 2, 1) := by decide +kernel
theorem dX8_fillOf_2 : decode cX8_fillOf 2 = .ok (.iload_n 2, 1) := by decide +kernel
theorem dX8_fillOf_3 : decode cX8_fillOf 3 = .ok (.iconst (-1), 1) := by decide +kernel
theorem dX8_fillOf_4 : decode cX8_fillOf 4 = .ok (.if_icmp .eq 30, 3) := by decide +kernel
theorem dX8_fillOf_7 : decode cX8_fillOf 7 = .ok (.aload_n 0, 1) := by decide +kernel
theorem dX8_fillOf_8 : decode cX8_fillOf 8 = .ok (.getfield 39, 3) := by decide +kernel
theorem dX8_fillOf_11 : decode cX8_fillOf 11 = .ok (.iload_n 2, 1) := by decide +kernel
theorem dX8_fillOf_12 : decode cX8_fillOf 12 = .ok (.iaload, 1) := by decide +kernel
theorem dX8_fillOf_13 : decode cX8_fillOf 13 = .ok (.iconst (-1), 1) := by decide +kernel
theorem dX8_fillOf_14 : decode cX8_fillOf 14 = .ok (.if_icmp .eq 10, 3) := by decide +kernel
theorem dX8_fillOf_17 : decode cX8_fillOf 17 = .ok (.aload_n 0, 1) := by decide +kernel
theorem dX8_fillOf_18 : decode cX8_fillOf 18 = .ok (.getfield 39, 3) := by decide +kernel
theorem dX8_fillOf_21 : decode cX8_fillOf 21 = .ok (.iload_n 2, 1) := by decide +kernel
theorem dX8_fillOf_22 : decode cX8_fillOf 22 = .ok (.iaload, 1) := by decide +kernel
theorem dX8_fillOf_23 : decode cX8_fillOf 23 = .ok (.ireturn, 1) := by decide +kernel
theorem dX8_fillOf_24 : decode cX8_fillOf 24 = .ok (.aload_n 0, 1) := by decide +kernel
theorem dX8_fillOf_25 : decode cX8_fillOf 25 = .ok (.getfield 21, 3) := by decide +kernel
theorem dX8_fillOf_28 : decode cX8_fillOf 28 = .ok (.iload_n 2, 1) := by decide +kernel
theorem dX8_fillOf_29 : decode cX8_fillOf 29 = .ok (.iaload, 1) := by decide +kernel
theorem dX8_fillOf_30 : decode cX8_fillOf 30 = .ok (.istore_n 2, 1) := by decide +kernel
theorem dX8_fillOf_31 : decode cX8_fillOf 31 = .ok (.goto (-29), 3) := by decide +kernel
theorem dX8_fillOf_34 : decode cX8_fillOf 34 = .ok (.sipush 255, 3) := by decide +kernel
theorem dX8_fillOf_37 : decode cX8_fillOf 37 = .ok (.ireturn, 1) := by decide +kernel
set_option maxRecDepth 20000 in
theorem ggX8_strength_X8_strength : GoodIn wsX8_strength wsX8_strength := goodIn_r _ [0, 1, 2, 3, 4, 5, 6, 7, 8, 9, 10, 11, 12, 13, 14, 15, 16, 17, 18, 19, 20, 21, 22, 23, 24, 25] (by decide +kernel) (by decide +kernel)
set_option maxRecDepth 20000 in
theorem gX8_strength_X8_strength : GoodIn wsX8_strength (wsV RX8 115 RX8 yX8_strength wsX8_strength) := goodIn_app (goodIn_of _ (by decide +kernel)) ggX8_strength_X8_strength
theorem dX8_strength_0 : decode cX8_strength 0 = .ok (.iload_n 1, 1) := by decide +kernel
theorem dX8_strength_1 : decode cX8_strength 1 = .ok (.ifCond .ne 8, 3) := by decide +kernel
theorem dX8_strength_4 : decode cX8_strength 4 = .ok (.bipush 8, 2) := by decide +kernel
theorem dX8_strength_6 : decode cX8_strength 6 = .ok (.goto 13, 3) := by decide +kernel
theorem dX8_strength_9 : decode cX8_strength 9 = .ok (.aload_n 0, 1) := by decide +kernel
theorem dX8_strength_10 : decode cX8_strength 10 = .ok (.aload_n 0, 1) := by decide +kernel
theorem dX8_strength_11 : decode cX8_strength 11 = .ok (.getfield 21, 3) := by decide +kernel
theorem dX8_strength_14 : decode cX8_strength 14 = .ok (.iload_n 1, 1) := by decide +kernel
theorem dX8_strength_15 : decode cX8_strength 15 = .ok (.iaload, 1) := by decide +kernel
theorem dX8_strength_16 : decode cX8_strength 16 = .ok (.invokevirtual 115, 3) := by decide +kernel
theorem dX8_strength_19 : decode cX8_strength 19 = .ok (.istore_n 2, 1) := by decide +kernel
theorem dX8_strength_20 : decode cX8_strength 20 = .ok (.iload_n 2, 1) := by decide +kernel
theorem dX8_strength_21 : decode cX8_strength 21 = .ok (.aload_n 0, 1) := by decide +kernel
theorem dX8_strength_22 : decode cX8_strength 22 = .ok (.getfield 42, 3) := by decide +kernel
theorem dX8_strength_25 : decode cX8_strength 25 = .ok (.iload_n 1, 1) := by decide +kernel
theorem dX8_strength_26 : decode cX8_strength 26 = .ok (.iaload, 1) := by decide +kernel
theorem dX8_strength_27 : decode cX8_strength 27 = .ok (.imul, 1) := by decide +kernel
theorem dX8_strength_28 : decode cX8_strength 28 = .ok (.bipush 8, 2) := by decide +kernel
theorem dX8_strength_30 : decode cX8_strength 30 = .ok (.idiv, 1) := by decide +kernel
theorem dX8_strength_31 : decode cX8_strength 31 = .ok (.ireturn, 1) := by decide +kernel
theorem dX8_isHiddenAbove_0 : decode cX8_isHiddenAbove 0 = .ok (.iconst 0, 1) := by decide +kernel
theorem dX8_isHiddenAbove_1 : decode cX8_isHiddenAbove 1 = .ok (.istore_n 2, 1) := by decide +kernel
theorem dX8_isHiddenAbove_2 : decode cX8_isHiddenAbove 2 = .ok (.aload_n 0, 1) := by decide +kernel
theorem dX8_isHiddenAbove_3 : decode cX8_isHiddenAbove 3 = .ok (.getfield 21, 3) := by decide +kernel
theorem dX8_isHiddenAbove_6 : decode cX8_isHiddenAbove 6 = .ok (.iload_n 1, 1) := by decide +kernel
theorem dX8_isHiddenAbove_7 : decode cX8_isHiddenAbove 7 = .ok (.iaload, 1) := by decide +kernel
theorem dX8_isHiddenAbove_8 : decode cX8_isHiddenAbove 8 = .ok (.istore_n 3, 1) := by decide +kernel
theorem dX8_isHiddenAbove_9 : decode cX8_isHiddenAbove 9 = .ok (.iload_n 3, 1) := by decide +kernel
theorem dX8_isHiddenAbove_10 : decode cX8_isHiddenAbove 10 = .ok (.iconst (-1), 1) := by decide +kernel
theorem dX8_isHiddenAbove_11 : decode cX8_isHiddenAbove 11 = .ok (.if_icmp .eq 32, 3) := by decide +kernel
theorem dX8_isHiddenAbove_14 : decode cX8_isHiddenAbove 14 = .ok (.iload_n 2, 1) := by decide +kernel
theorem dX8_isHiddenAbove_15 : decode cX8_isHiddenAbove 15 = .ok (.ifCond .ne 12, 3) := by decide +kernel
theorem dX8_isHiddenAbove_18 : decode cX8_isHiddenAbove 18 = .ok (.aload_n 0, 1) := by decide +kernel
theorem dX8_isHiddenAbove_19 : decode cX8_isHiddenAbove 19 = .ok (.getfield 45, 3) := by decide +kernel
theorem dX8_isHiddenAbove_22 : decode cX8_isHiddenAbove 22 = .ok (.iload_n 3, 1) := by decide +kernel
theorem dX8_isHiddenAbove_23 : decode cX8_isHiddenAbove 23 = .ok (.baload, 1) := by decide +kernel
theorem dX8_isHiddenAbove_24 : decode cX8_isHiddenAbove 24 = .ok (.ifCond .eq 7, 3) := by decide +kernel
theorem dX8_isHiddenAbove_27 : decode cX8_isHiddenAbove 27 = .ok (.iconst 1, 1) := by decide +kernel
theorem dX8_isHiddenAbove_28 : decode cX8_isHiddenAbove 28 = .ok (.goto 4, 3) := by decide +kernel
theorem dX8_isHiddenAbove_31 : decode cX8_isHiddenAbove 31 = .ok (.iconst 0, 1) := by decide +kernel
theorem dX8_isHiddenAbove_32 : decode cX8_isHiddenAbove 32 = .ok (.istore_n 2, 1) := by decide +kernel
theorem dX8_isHiddenAbove_33 : decode cX8_isHiddenAbove 33 = .ok (.aload_n 0, 1) := by decide +kernel
theorem dX8_isHiddenAbove_34 : decode cX8_isHiddenAbove 34 = .ok (.getfield 21, 3) := by decide +kernel
theorem dX8_isHiddenAbove_37 : decode cX8_isHiddenAbove 37 = .ok (.iload_n 3, 1) := by decide +kernel
theorem dX8_isHiddenAbove_38 : decode cX8_isHiddenAbove 38 = .ok (.iaload, 1) := by decide +kernel
theorem dX8_isHiddenAbove_39 : decode cX8_isHiddenAbove 39 = .ok (.istore_n 3, 1) := by decide +kernel
theorem dX8_isHiddenAbove_40 : decode cX8_isHiddenAbove 40 = .ok (.goto (-31), 3) := by decide +kernel
theorem dX8_isHiddenAbove_43 : decode cX8_isHiddenAbove 43 = .ok (.iload_n 2, 1) := by decide +kernel
theorem dX8_isHiddenAbove_44 : decode cX8_isHiddenAbove 44 = .ok (.ireturn, 1) := by decide +kernel
set_option maxRecDepth 20000 in
theorem ggX8_told_X8_placeOf : GoodIn wsX8_told wsX8_placeOf := goodIn_r _ [15, 16, 2, 29, 30, 31, 32, 33, 34, 35, 36, 37, 38, 39, 40, 41, 42, 43, 44, 45, 46, 47] (by decide +kernel) (by decide +kernel)
set_option maxRecDepth 20000 in
theorem gX8_told_X8_placeOf : GoodIn wsX8_told (wsV RX8 88 RX8 yX8_placeOf wsX8_placeOf) := goodIn_app (goodIn_of _ (by decide +kernel)) ggX8_told_X8_placeOf
set_option maxRecDepth 20000 in
theorem ggX8_told_X8_fillOf : GoodIn wsX8_told wsX8_fillOf := goodIn_r _ [20, 6, 2, 29, 30, 31, 32, 33, 34, 35, 36, 37, 38, 39, 40, 41, 42, 43, 44, 45, 46, 47] (by decide +kernel) (by decide +kernel)
set_option maxRecDepth 20000 in
theorem gX8_told_X8_fillOf : GoodIn wsX8_told (wsV RX8 118 RX8 yX8_fillOf wsX8_fillOf) := goodIn_app (goodIn_of _ (by decide +kernel)) ggX8_told_X8_fillOf
set_option maxRecDepth 20000 in
theorem ggX8_told_X8_strength : GoodIn wsX8_told wsX8_strength := goodIn_r _ [24, 2, 7, 21, 22, 23, 14, 29, 30, 31, 32, 33, 34, 35, 36, 37, 38, 39, 40, 41, 42, 43, 44, 45, 46, 47] (by decide +kernel) (by decide +kernel)
set_option maxRecDepth 20000 in
theorem gX8_told_X8_strength : GoodIn wsX8_told (wsV RX8 115 RX8 yX8_strength wsX8_strength) := goodIn_app (goodIn_of _ (by decide +kernel)) ggX8_told_X8_strength
set_option maxRecDepth 20000 in
theorem ggX8_told_X8_isHiddenAbove : GoodIn wsX8_told wsX8_isHiddenAbove := goodIn_r _ [28, 2, 8, 29, 30, 31, 32, 33, 34, 35, 36, 37, 38, 39, 40, 41, 42, 43, 44, 45, 46, 47] (by decide +kernel) (by decide +kernel)
set_option maxRecDepth 20000 in
theorem gX8_told_X8_isHiddenAbove : GoodIn wsX8_told (wsV RX8 121 RX8 yX8_isHiddenAbove wsX8_isHiddenAbove) := goodIn_app (goodIn_of _ (by decide +kernel)) ggX8_told_X8_isHiddenAbove
theorem dX8_told_0 : decode cX8_told 0 = .ok (.iload_n 2, 1) := by decide +kernel
theorem dX8_told_1 : decode cX8_told 1 = .ok (.tableswitch 176 0 11 #[63, 70, 77, 83, 90, 97, 104, 111, 117, 124, 130, 157], 63) := by decide +kernel
theorem dX8_told_64 : decode cX8_told 64 = .ok (.aload_n 0, 1) := by decide +kernel
theorem dX8_told_65 : decode cX8_told 65 = .ok (.getfield 17, 3) := by decide +kernel
theorem dX8_told_68 : decode cX8_told 68 = .ok (.iload_n 1, 1) := by decide +kernel
theorem dX8_told_69 : decode cX8_told 69 = .ok (.iaload, 1) := by decide +kernel
theorem dX8_told_70 : decode cX8_told 70 = .ok (.ireturn, 1) := by decide +kernel
theorem dX8_told_71 : decode cX8_told 71 = .ok (.aload_n 0, 1) := by decide +kernel
theorem dX8_told_72 : decode cX8_told 72 = .ok (.getfield 21, 3) := by decide +kernel
theorem dX8_told_75 : decode cX8_told 75 = .ok (.iload_n 1, 1) := by decide +kernel
theorem dX8_told_76 : decode cX8_told 76 = .ok (.iaload, 1) := by decide +kernel
theorem dX8_told_77 : decode cX8_told 77 = .ok (.ireturn, 1) := by decide +kernel
theorem dX8_told_78 : decode cX8_told 78 = .ok (.aload_n 0, 1) := by decide +kernel
theorem dX8_told_79 : decode cX8_told 79 = .ok (.iload_n 1, 1) := by decide +kernel
theorem dX8_told_80 : decode cX8_told 80 = .ok (.invokevirtual 88, 3) := by decide +kernel
theorem dX8_told_83 : decode cX8_told 83 = .ok (.ireturn, 1) := by decide +kernel
theorem dX8_told_84 : decode cX8_told 84 = .ok (.aload_n 0, 1) := by decide +kernel
theorem dX8_told_85 : decode cX8_told 85 = .ok (.getfield 24, 3) := by decide +kernel
theorem dX8_told_88 : decode cX8_told 88 = .ok (.iload_n 1, 1) := by decide +kernel
theorem dX8_told_89 : decode cX8_told 89 = .ok (.iaload, 1) := by decide +kernel
theorem dX8_told_90 : decode cX8_told 90 = .ok (.ireturn, 1) := by decide +kernel
theorem dX8_told_91 : decode cX8_told 91 = .ok (.aload_n 0, 1) := by decide +kernel
theorem dX8_told_92 : decode cX8_told 92 = .ok (.getfield 33, 3) := by decide +kernel
theorem dX8_told_95 : decode cX8_told 95 = .ok (.iload_n 1, 1) := by decide +kernel
theorem dX8_told_96 : decode cX8_told 96 = .ok (.iaload, 1) := by decide +kernel
theorem dX8_told_97 : decode cX8_told 97 = .ok (.ireturn, 1) := by decide +kernel
theorem dX8_told_98 : decode cX8_told 98 = .ok (.aload_n 0, 1) := by decide +kernel
theorem dX8_told_99 : decode cX8_told 99 = .ok (.getfield 36, 3) := by decide +kernel
theorem dX8_told_102 : decode cX8_told 102 = .ok (.iload_n 1, 1) := by decide +kernel
theorem dX8_told_103 : decode cX8_told 103 = .ok (.iaload, 1) := by decide +kernel
theorem dX8_told_104 : decode cX8_told 104 = .ok (.ireturn, 1) := by decide +kernel
theorem dX8_told_105 : decode cX8_told 105 = .ok (.aload_n 0, 1) := by decide +kernel
theorem dX8_told_106 : decode cX8_told 106 = .ok (.getfield 39, 3) := by decide +kernel
theorem dX8_told_109 : decode cX8_told 109 = .ok (.iload_n 1, 1) := by decide +kernel
theorem dX8_told_110 : decode cX8_told 110 = .ok (.iaload, 1) := by decide +kernel
theorem dX8_told_111 : decode cX8_told 111 = .ok (.ireturn, 1) := by decide +kernel
theorem dX8_told_112 : decode cX8_told 112 = .ok (.aload_n 0, 1) := by decide +kernel
theorem dX8_told_113 : decode cX8_told 113 = .ok (.iload_n 1, 1) := by decide +kernel
theorem dX8_told_114 : decode cX8_told 114 = .ok (.invokevirtual 118, 3) := by decide +kernel
theorem dX8_told_117 : decode cX8_told 117 = .ok (.ireturn, 1) := by decide +kernel
theorem dX8_told_118 : decode cX8_told 118 = .ok (.aload_n 0, 1) := by decide +kernel
theorem dX8_told_119 : decode cX8_told 119 = .ok (.getfield 42, 3) := by decide +kernel
theorem dX8_told_122 : decode cX8_told 122 = .ok (.iload_n 1, 1) := by decide +kernel
theorem dX8_told_123 : decode cX8_told 123 = .ok (.iaload, 1) := by decide +kernel
theorem dX8_told_124 : decode cX8_told 124 = .ok (.ireturn, 1) := by decide +kernel
theorem dX8_told_125 : decode cX8_told 125 = .ok (.aload_n 0, 1) := by decide +kernel
theorem dX8_told_126 : decode cX8_told 126 = .ok (.iload_n 1, 1) := by decide +kernel
theorem dX8_told_127 : decode cX8_told 127 = .ok (.invokevirtual 115, 3) := by decide +kernel
theorem dX8_told_130 : decode cX8_told 130 = .ok (.ireturn, 1) := by decide +kernel
theorem dX8_told_131 : decode cX8_told 131 = .ok (.aload_n 0, 1) := by decide +kernel
theorem dX8_told_132 : decode cX8_told 132 = .ok (.getfield 45, 3) := by decide +kernel
theorem dX8_told_135 : decode cX8_told 135 = .ok (.iload_n 1, 1) := by decide +kernel
theorem dX8_told_136 : decode cX8_told 136 = .ok (.baload, 1) := by decide +kernel
theorem dX8_told_137 : decode cX8_told 137 = .ok (.ifCond .eq 7, 3) := by decide +kernel
theorem dX8_told_140 : decode cX8_told 140 = .ok (.iconst 1, 1) := by decide +kernel
theorem dX8_told_141 : decode cX8_told 141 = .ok (.goto 16, 3) := by decide +kernel
theorem dX8_told_144 : decode cX8_told 144 = .ok (.aload_n 0, 1) := by decide +kernel
theorem dX8_told_145 : decode cX8_told 145 = .ok (.iload_n 1, 1) := by decide +kernel
theorem dX8_told_146 : decode cX8_told 146 = .ok (.invokevirtual 121, 3) := by decide +kernel
theorem dX8_told_149 : decode cX8_told 149 = .ok (.ifCond .eq 7, 3) := by decide +kernel
theorem dX8_told_152 : decode cX8_told 152 = .ok (.iconst 2, 1) := by decide +kernel
theorem dX8_told_153 : decode cX8_told 153 = .ok (.goto 4, 3) := by decide +kernel
theorem dX8_told_156 : decode cX8_told 156 = .ok (.iconst 0, 1) := by decide +kernel
theorem dX8_told_157 : decode cX8_told 157 = .ok (.ireturn, 1) := by decide +kernel
theorem dX8_told_158 : decode cX8_told 158 = .ok (.aload_n 0, 1) := by decide +kernel
theorem dX8_told_159 : decode cX8_told 159 = .ok (.getfield 51, 3) := by decide +kernel
theorem dX8_told_162 : decode cX8_told 162 = .ok (.iconst 4, 1) := by decide +kernel
theorem dX8_told_163 : decode cX8_told 163 = .ok (.iload_n 1, 1) := by decide +kernel
theorem dX8_told_164 : decode cX8_told 164 = .ok (.imul, 1) := by decide +kernel
theorem dX8_told_165 : decode cX8_told 165 = .ok (.iconst 2, 1) := by decide +kernel
theorem dX8_told_166 : decode cX8_told 166 = .ok (.iadd, 1) := by decide +kernel
theorem dX8_told_167 : decode cX8_told 167 = .ok (.iaload, 1) := by decide +kernel
theorem dX8_told_168 : decode cX8_told 168 = .ok (.ifCond .le 7, 3) := by decide +kernel
theorem dX8_told_171 : decode cX8_told 171 = .ok (.iconst 1, 1) := by decide +kernel
theorem dX8_told_172 : decode cX8_told 172 = .ok (.goto 4, 3) := by decide +kernel
theorem dX8_told_175 : decode cX8_told 175 = .ok (.iconst 0, 1) := by decide +kernel
theorem dX8_told_176 : decode cX8_told 176 = .ok (.ireturn, 1) := by decide +kernel
theorem dX8_told_177 : decode cX8_told 177 = .ok (.aload_n 0, 1) := by decide +kernel
theorem dX8_told_178 : decode cX8_told 178 = .ok (.getfield 48, 3) := by decide +kernel
theorem dX8_told_181 : decode cX8_told 181 = .ok (.iload_n 1, 1) := by decide +kernel
theorem dX8_told_182 : decode cX8_told 182 = .ok (.baload, 1) := by decide +kernel
theorem dX8_told_183 : decode cX8_told 183 = .ok (.ifCond .eq 7, 3) := by decide +kernel
theorem dX8_told_186 : decode cX8_told 186 = .ok (.iconst 1, 1) := by decide +kernel
theorem dX8_told_187 : decode cX8_told 187 = .ok (.goto 4, 3) := by decide +kernel
theorem dX8_told_190 : decode cX8_told 190 = .ok (.iconst 0, 1) := by decide +kernel
theorem dX8_told_191 : decode cX8_told 191 = .ok (.ireturn, 1) := by decide +kernel
set_option maxRecDepth 20000 in
theorem ggX8_node_X8_isNode : GoodIn wsX8_node wsX8_isNode := goodIn_r _ [6, 7, 8, 9, 10, 5, 11, 47, 48, 49, 50, 51, 52, 53, 54, 55, 56, 57, 58, 59, 60, 61, 62, 63, 64, 65] (by decide +kernel) (by decide +kernel)
set_option maxRecDepth 20000 in
theorem gX8_node_X8_isNode : GoodIn wsX8_node (wsV RX8 67 RX8 yX8_isNode wsX8_isNode) := goodIn_app (goodIn_of _ (by decide +kernel)) ggX8_node_X8_isNode
set_option maxRecDepth 20000 in
theorem ggX8_node_X8_isIn : GoodIn wsX8_node wsX8_isIn := goodIn_r _ [11] (by decide +kernel) (by decide +kernel)
set_option maxRecDepth 20000 in
theorem gX8_node_X8_isIn : GoodIn wsX8_node (va_wsS RX8 63 yX8_isIn wsX8_isIn) := goodIn_app (goodIn_of _ (by decide +kernel)) ggX8_node_X8_isIn
set_option maxRecDepth 20000 in
theorem ggX8_node_X8_told : GoodIn wsX8_node wsX8_told := goodIn_r _ [15, 16, 17, 18, 19, 20, 21, 22, 23, 24, 25, 26, 27, 28, 5, 29, 30, 31, 32, 33, 34, 35, 36, 37, 38, 39, 40, 41, 42, 47, 48, 49, 50, 51, 52, 53, 54, 55, 56, 57, 58, 59, 60, 61, 62, 63, 64, 65] (by decide +kernel) (by decide +kernel)
set_option maxRecDepth 20000 in
theorem gX8_node_X8_told : GoodIn wsX8_node (wsV RX8 124 RX8 yX8_told wsX8_told) := goodIn_app (goodIn_of _ (by decide +kernel)) ggX8_node_X8_told
set_option maxRecDepth 20000 in
theorem ggX8_node_X8_fail : GoodIn wsX8_node wsX8_fail := goodIn_r _ [46, 1, 47, 48, 49, 50, 51, 52, 53, 54, 55, 56, 57, 58, 59, 60, 61, 62, 63, 64, 65] (by decide +kernel) (by decide +kernel)
set_option maxRecDepth 20000 in
theorem gX8_node_X8_fail : GoodIn wsX8_node (wsV RX8 71 RX8 yX8_fail wsX8_fail) := goodIn_app (goodIn_of _ (by decide +kernel)) ggX8_node_X8_fail
theorem dX8_node_0 : decode cX8_node 0 = .ok (.aload_n 0, 1) := by decide +kernel
theorem dX8_node_1 : decode cX8_node 1 = .ok (.iconst 0, 1) := by decide +kernel
theorem dX8_node_2 : decode cX8_node 2 = .ok (.putfield 60, 3) := by decide +kernel
theorem dX8_node_5 : decode cX8_node 5 = .ok (.aload_n 0, 1) := by decide +kernel
theorem dX8_node_6 : decode cX8_node 6 = .ok (.iload_n 1, 1) := by decide +kernel
theorem dX8_node_7 : decode cX8_node 7 = .ok (.invokevirtual 67, 3) := by decide +kernel
theorem dX8_node_10 : decode cX8_node 10 = .ok (.ifCond .eq 22, 3) := by decide +kernel
theorem dX8_node_13 : decode cX8_node 13 = .ok (.iload_n 2, 1) := by decide +kernel
theorem dX8_node_14 : decode cX8_node 14 = .ok (.iconst 0, 1) := by decide +kernel
theorem dX8_node_15 : decode cX8_node 15 = .ok (.bipush 12, 2) := by decide +kernel
theorem dX8_node_17 : decode cX8_node 17 = .ok (.invokestatic 63, 3) := by decide +kernel
theorem dX8_node_20 : decode cX8_node 20 = .ok (.ifCond .eq 12, 3) := by decide +kernel
theorem dX8_node_23 : decode cX8_node 23 = .ok (.aload_n 0, 1) := by decide +kernel
theorem dX8_node_24 : decode cX8_node 24 = .ok (.iload_n 1, 1) := by decide +kernel
theorem dX8_node_25 : decode cX8_node 25 = .ok (.iload_n 2, 1) := by decide +kernel
theorem dX8_node_26 : decode cX8_node 26 = .ok (.invokevirtual 124, 3) := by decide +kernel
theorem dX8_node_29 : decode cX8_node 29 = .ok (.goto 8, 3) := by decide +kernel
theorem dX8_node_32 : decode cX8_node 32 = .ok (.aload_n 0, 1) := by decide +kernel
theorem dX8_node_33 : decode cX8_node 33 = .ok (.iconst 1, 1) := by decide +kernel
theorem dX8_node_34 : decode cX8_node 34 = .ok (.invokevirtual 71, 3) := by decide +kernel
theorem dX8_node_37 : decode cX8_node 37 = .ok (.ireturn, 1) := by decide +kernel
set_option maxRecDepth 20000 in
theorem ggX8_child_X8_isNode : GoodIn wsX8_child wsX8_isNode := goodIn_r _ [8, 9, 10, 11, 12, 7, 13, 18, 19, 20, 21, 22, 23, 24, 25, 26, 27, 28, 29, 30, 31, 32, 33, 34, 35, 36] (by decide +kernel) (by decide +kernel)
set_option maxRecDepth 20000 in
theorem gX8_child_X8_isNode : GoodIn wsX8_child (wsV RX8 67 RX8 yX8_isNode wsX8_isNode) := goodIn_app (goodIn_of _ (by decide +kernel)) ggX8_child_X8_isNode
set_option maxRecDepth 20000 in
theorem ggX8_child_X8_isIn : GoodIn wsX8_child wsX8_isIn := goodIn_r _ [13] (by decide +kernel) (by decide +kernel)
set_option maxRecDepth 20000 in
theorem gX8_child_X8_isIn : GoodIn wsX8_child (va_wsS RX8 63 yX8_isIn wsX8_isIn) := goodIn_app (goodIn_of _ (by decide +kernel)) ggX8_child_X8_isIn
set_option maxRecDepth 20000 in
theorem ggX8_child_X8_fail : GoodIn wsX8_child wsX8_fail := goodIn_r _ [17, 1, 18, 19, 20, 21, 22, 23, 24, 25, 26, 27, 28, 29, 30, 31, 32, 33, 34, 35, 36] (by decide +kernel) (by decide +kernel)
set_option maxRecDepth 20000 in
theorem gX8_child_X8_fail : GoodIn wsX8_child (wsV RX8 71 RX8 yX8_fail wsX8_fail) := goodIn_app (goodIn_of _ (by decide +kernel)) ggX8_child_X8_fail
theorem dX8_child_0 : decode cX8_child 0 = .ok (.aload_n 0, 1) := by decide +kernel
theorem dX8_child_1 : decode cX8_child 1 = .ok (.iconst 0, 1) := by decide +kernel
theorem dX8_child_2 : decode cX8_child 2 = .ok (.putfield 60, 3) := by decide +kernel
theorem dX8_child_5 : decode cX8_child 5 = .ok (.aload_n 0, 1) := by decide +kernel
theorem dX8_child_6 : decode cX8_child 6 = .ok (.iload_n 1, 1) := by decide +kernel
theorem dX8_child_7 : decode cX8_child 7 = .ok (.invokevirtual 67, 3) := by decide +kernel
theorem dX8_child_10 : decode cX8_child 10 = .ok (.ifCond .eq 33, 3) := by decide +kernel
theorem dX8_child_13 : decode cX8_child 13 = .ok (.iload_n 2, 1) := by decide +kernel
theorem dX8_child_14 : decode cX8_child 14 = .ok (.iconst 0, 1) := by decide +kernel
theorem dX8_child_15 : decode cX8_child 15 = .ok (.aload_n 0, 1) := by decide +kernel
theorem dX8_child_16 : decode cX8_child 16 = .ok (.getfield 24, 3) := by decide +kernel
theorem dX8_child_19 : decode cX8_child 19 = .ok (.iload_n 1, 1) := by decide +kernel
theorem dX8_child_20 : decode cX8_child 20 = .ok (.iaload, 1) := by decide +kernel
theorem dX8_child_21 : decode cX8_child 21 = .ok (.iconst 1, 1) := by decide +kernel
theorem dX8_child_22 : decode cX8_child 22 = .ok (.isub, 1) := by decide +kernel
theorem dX8_child_23 : decode cX8_child 23 = .ok (.invokestatic 63, 3) := by decide +kernel
theorem dX8_child_26 : decode cX8_child 26 = .ok (.ifCond .eq 17, 3) := by decide +kernel
theorem dX8_child_29 : decode cX8_child 29 = .ok (.aload_n 0, 1) := by decide +kernel
theorem dX8_child_30 : decode cX8_child 30 = .ok (.getfield 27, 3) := by decide +kernel
theorem dX8_child_33 : decode cX8_child 33 = .ok (.bipush 40, 2) := by decide +kernel
theorem dX8_child_35 : decode cX8_child 35 = .ok (.iload_n 1, 1) := by decide +kernel
theorem dX8_child_36 : decode cX8_child 36 = .ok (.imul, 1) := by decide +kernel
theorem dX8_child_37 : decode cX8_child 37 = .ok (.iload_n 2, 1) := by decide +kernel
theorem dX8_child_38 : decode cX8_child 38 = .ok (.iadd, 1) := by decide +kernel
theorem dX8_child_39 : decode cX8_child 39 = .ok (.iaload, 1) := by decide +kernel
theorem dX8_child_40 : decode cX8_child 40 = .ok (.goto 8, 3) := by decide +kernel
theorem dX8_child_43 : decode cX8_child 43 = .ok (.aload_n 0, 1) := by decide +kernel
theorem dX8_child_44 : decode cX8_child 44 = .ok (.iconst 1, 1) := by decide +kernel
theorem dX8_child_45 : decode cX8_child 45 = .ok (.invokevirtual 71, 3) := by decide +kernel
theorem dX8_child_48 : decode cX8_child 48 = .ok (.ireturn, 1) := by decide +kernel
theorem dX8_present_0 : decode cX8_present 0 = .ok (.iconst 0, 1) := by decide +kernel
theorem dX8_present_1 : decode cX8_present 1 = .ok (.istore_n 1, 1) := by decide +kernel
theorem dX8_present_2 : decode cX8_present 2 = .ok (.iconst 0, 1) := by decide +kernel
theorem dX8_present_3 : decode cX8_present 3 = .ok (.istore_n 2, 1) := by decide +kernel
theorem dX8_present_4 : decode cX8_present 4 = .ok (.iload_n 2, 1) := by decide +kernel
theorem dX8_present_5 : decode cX8_present 5 = .ok (.aload_n 0, 1) := by decide +kernel
theorem dX8_present_6 : decode cX8_present 6 = .ok (.getfield 7, 3) := by decide +kernel
theorem dX8_present_9 : decode cX8_present 9 = .ok (.if_icmp .ge 26, 3) := by decide +kernel
theorem dX8_present_12 : decode cX8_present 12 = .ok (.iload_n 1, 1) := by decide +kernel
theorem dX8_present_13 : decode cX8_present 13 = .ok (.aload_n 0, 1) := by decide +kernel
theorem dX8_present_14 : decode cX8_present 14 = .ok (.getfield 13, 3) := by decide +kernel
theorem dX8_present_17 : decode cX8_present 17 = .ok (.iload_n 2, 1) := by decide +kernel
theorem dX8_present_18 : decode cX8_present 18 = .ok (.baload, 1) := by decide +kernel
theorem dX8_present_19 : decode cX8_present 19 = .ok (.ifCond .eq 7, 3) := by decide +kernel
theorem dX8_present_22 : decode cX8_present 22 = .ok (.iconst 1, 1) := by decide +kernel
theorem dX8_present_23 : decode cX8_present 23 = .ok (.goto 4, 3) := by decide +kernel
theorem dX8_present_26 : decode cX8_present 26 = .ok (.iconst 0, 1) := by decide +kernel
theorem dX8_present_27 : decode cX8_present 27 = .ok (.iadd, 1) := by decide +kernel
theorem dX8_present_28 : decode cX8_present 28 = .ok (.istore_n 1, 1) := by decide +kernel
theorem dX8_present_29 : decode cX8_present 29 = .ok (.iinc 2 1, 3) := by decide +kernel
theorem dX8_present_32 : decode cX8_present 32 = .ok (.goto (-28), 3) := by decide +kernel
theorem dX8_present_35 : decode cX8_present 35 = .ok (.iload_n 1, 1) := by decide +kernel
theorem dX8_present_36 : decode cX8_present 36 = .ok (.ireturn, 1) := by decide +kernel
set_option maxRecDepth 20000 in
theorem ggX8_count_X8_present : GoodIn wsX8_count wsX8_present := goodIn_r _ [6, 7, 8, 9, 10, 11, 12, 13, 14, 15, 16, 17, 18, 19, 20, 21, 22, 23, 24, 25, 26, 27] (by decide +kernel) (by decide +kernel)
set_option maxRecDepth 20000 in
theorem gX8_count_X8_present : GoodIn wsX8_count (wsV RX8 128 RX8 yX8_present wsX8_present) := goodIn_app (goodIn_of _ (by decide +kernel)) ggX8_count_X8_present
theorem dX8_count_0 : decode cX8_count 0 = .ok (.aload_n 0, 1) := by decide +kernel
theorem dX8_count_1 : decode cX8_count 1 = .ok (.iconst 0, 1) := by decide +kernel
theorem dX8_count_2 : decode cX8_count 2 = .ok (.putfield 60, 3) := by decide +kernel
theorem dX8_count_5 : decode cX8_count 5 = .ok (.aload_n 0, 1) := by decide +kernel
theorem dX8_count_6 : decode cX8_count 6 = .ok (.invokevirtual 128, 3) := by decide +kernel
theorem dX8_count_9 : decode cX8_count 9 = .ok (.ireturn, 1) := by decide +kernel
set_option maxRecDepth 20000 in
theorem ggX8_place_X8_isNode : GoodIn wsX8_place wsX8_isNode := goodIn_r _ [8, 9, 10, 11, 12, 7, 13, 21, 22, 23, 24, 25, 26, 27, 28, 29, 30, 31, 32, 33, 34, 35, 36, 37, 38, 39] (by decide +kernel) (by decide +kernel)
set_option maxRecDepth 20000 in
theorem gX8_place_X8_isNode : GoodIn wsX8_place (wsV RX8 67 RX8 yX8_isNode wsX8_isNode) := goodIn_app (goodIn_of _ (by decide +kernel)) ggX8_place_X8_isNode
set_option maxRecDepth 20000 in
theorem ggX8_place_X8_fail : GoodIn wsX8_place wsX8_fail := goodIn_r _ [17, 1, 21, 22, 23, 24, 25, 26, 27, 28, 29, 30, 31, 32, 33, 34, 35, 36, 37, 38, 39] (by decide +kernel) (by decide +kernel)
set_option maxRecDepth 20000 in
theorem gX8_place_X8_fail : GoodIn wsX8_place (wsV RX8 71 RX8 yX8_fail wsX8_fail) := goodIn_app (goodIn_of _ (by decide +kernel)) ggX8_place_X8_fail
set_option maxRecDepth 20000 in
theorem ggX8_place_X8_isFar : GoodIn wsX8_place wsX8_isFar := goodIn_r _ [20, 11, 12, 7, 13] (by decide +kernel) (by decide +kernel)
set_option maxRecDepth 20000 in
theorem gX8_place_X8_isFar : GoodIn wsX8_place (va_wsS RX8 95 yX8_isFar wsX8_isFar) := goodIn_app (goodIn_of _ (by decide +kernel)) ggX8_place_X8_isFar
theorem dX8_place_0 : decode cX8_place 0 = .ok (.aload_n 0, 1) := by decide +kernel
theorem dX8_place_1 : decode cX8_place 1 = .ok (.iconst 0, 1) := by decide +kernel
theorem dX8_place_2 : decode cX8_place 2 = .ok (.putfield 60, 3) := by decide +kernel
theorem dX8_place_5 : decode cX8_place 5 = .ok (.aload_n 0, 1) := by decide +kernel
theorem dX8_place_6 : decode cX8_place 6 = .ok (.iload_n 1, 1) := by decide +kernel
theorem dX8_place_7 : decode cX8_place 7 = .ok (.invokevirtual 67, 3) := by decide +kernel
theorem dX8_place_10 : decode cX8_place 10 = .ok (.ifCond .ne 9, 3) := by decide +kernel
theorem dX8_place_13 : decode cX8_place 13 = .ok (.aload_n 0, 1) := by decide +kernel
theorem dX8_place_14 : decode cX8_place 14 = .ok (.iconst 1, 1) := by decide +kernel
theorem dX8_place_15 : decode cX8_place 15 = .ok (.invokevirtual 71, 3) := by decide +kernel
theorem dX8_place_18 : decode cX8_place 18 = .ok (.ireturn, 1) := by decide +kernel
theorem dX8_place_19 : decode cX8_place 19 = .ok (.iload_n 2, 1) := by decide +kernel
theorem dX8_place_20 : decode cX8_place 20 = .ok (.invokestatic 95, 3) := by decide +kernel
theorem dX8_place_23 : decode cX8_place 23 = .ok (.ifCond .ne 10, 3) := by decide +kernel
theorem dX8_place_26 : decode cX8_place 26 = .ok (.iload_n 3, 1) := by decide +kernel
theorem dX8_place_27 : decode cX8_place 27 = .ok (.invokestatic 95, 3) := by decide +kernel
theorem dX8_place_30 : decode cX8_place 30 = .ok (.ifCond .eq 9, 3) := by decide +kernel
theorem dX8_place_33 : decode cX8_place 33 = .ok (.aload_n 0, 1) := by decide +kernel
theorem dX8_place_34 : decode cX8_place 34 = .ok (.iconst 2, 1) := by decide +kernel
theorem dX8_place_35 : decode cX8_place 35 = .ok (.invokevirtual 71, 3) := by decide +kernel
theorem dX8_place_38 : decode cX8_place 38 = .ok (.ireturn, 1) := by decide +kernel
theorem dX8_place_39 : decode cX8_place 39 = .ok (.aload_n 0, 1) := by decide +kernel
theorem dX8_place_40 : decode cX8_place 40 = .ok (.getfield 33, 3) := by decide +kernel
theorem dX8_place_43 : decode cX8_place 43 = .ok (.iload_n 1, 1) := by decide +kernel
theorem dX8_place_44 : decode cX8_place 44 = .ok (.iaload, 1) := by decide +kernel
theorem dX8_place_45 : decode cX8_place 45 = .ok (.istore 4, 2) := by decide +kernel
theorem dX8_place_47 : decode cX8_place 47 = .ok (.aload_n 0, 1) := by decide +kernel
theorem dX8_place_48 : decode cX8_place 48 = .ok (.getfield 33, 3) := by decide +kernel
theorem dX8_place_51 : decode cX8_place 51 = .ok (.iload_n 1, 1) := by decide +kernel
theorem dX8_place_52 : decode cX8_place 52 = .ok (.iload_n 2, 1) := by decide +kernel
theorem dX8_place_53 : decode cX8_place 53 = .ok (.iastore, 1) := by decide +kernel
theorem dX8_place_54 : decode cX8_place 54 = .ok (.aload_n 0, 1) := by decide +kernel
theorem dX8_place_55 : decode cX8_place 55 = .ok (.getfield 36, 3) := by decide +kernel
theorem dX8_place_58 : decode cX8_place 58 = .ok (.iload_n 1, 1) := by decide +kernel
theorem dX8_place_59 : decode cX8_place 59 = .ok (.iload_n 3, 1) := by decide +kernel
theorem dX8_place_60 : decode cX8_place 60 = .ok (.iastore, 1) := by decide +kernel
theorem dX8_place_61 : decode cX8_place 61 = .ok (.iload 4, 2) := by decide +kernel
theorem dX8_place_63 : decode cX8_place 63 = .ok (.ireturn, 1) := by decide +kernel
set_option maxRecDepth 20000 in
theorem ggX8_setFill_X8_isNode : GoodIn wsX8_setFill wsX8_isNode := goodIn_r _ [7, 8, 9, 10, 11, 6, 12, 17, 18, 19, 20, 21, 22, 23, 24, 25, 26, 27, 28, 29, 30, 31, 32, 33, 34, 35] (by decide +kernel) (by decide +kernel)
set_option maxRecDepth 20000 in
theorem gX8_setFill_X8_isNode : GoodIn wsX8_setFill (wsV RX8 67 RX8 yX8_isNode wsX8_isNode) := goodIn_app (goodIn_of _ (by decide +kernel)) ggX8_setFill_X8_isNode
set_option maxRecDepth 20000 in
theorem ggX8_setFill_X8_fail : GoodIn wsX8_setFill wsX8_fail := goodIn_r _ [16, 1, 17, 18, 19, 20, 21, 22, 23, 24, 25, 26, 27, 28, 29, 30, 31, 32, 33, 34, 35] (by decide +kernel) (by decide +kernel)
set_option maxRecDepth 20000 in
theorem gX8_setFill_X8_fail : GoodIn wsX8_setFill (wsV RX8 71 RX8 yX8_fail wsX8_fail) := goodIn_app (goodIn_of _ (by decide +kernel)) ggX8_setFill_X8_fail
set_option maxRecDepth 20000 in
theorem ggX8_setFill_X8_isIn : GoodIn wsX8_setFill wsX8_isIn := goodIn_r _ [12] (by decide +kernel) (by decide +kernel)
set_option maxRecDepth 20000 in
theorem gX8_setFill_X8_isIn : GoodIn wsX8_setFill (va_wsS RX8 63 yX8_isIn wsX8_isIn) := goodIn_app (goodIn_of _ (by decide +kernel)) ggX8_setFill_X8_isIn
theorem dX8_setFill_0 : decode cX8_setFill 0 = .ok (.aload_n 0, 1) := by decide +kernel
theorem dX8_setFill_1 : decode cX8_setFill 1 = .ok (.iconst 0, 1) := by decide +kernel
theorem dX8_setFill_2 : decode cX8_setFill 2 = .ok (.putfield 60, 3) := by decide +kernel
theorem dX8_setFill_5 : decode cX8_setFill 5 = .ok (.aload_n 0, 1) := by decide +kernel
theorem dX8_setFill_6 : decode cX8_setFill 6 = .ok (.iload_n 1, 1) := by decide +kernel
theorem dX8_setFill_7 : decode cX8_setFill 7 = .ok (.invokevirtual 67, 3) := by decide +kernel
theorem dX8_setFill_10 : decode cX8_setFill 10 = .ok (.ifCond .ne 9, 3) := by decide +kernel
theorem dX8_setFill_13 : decode cX8_setFill 13 = .ok (.aload_n 0, 1) := by decide +kernel
theorem dX8_setFill_14 : decode cX8_setFill 14 = .ok (.iconst 1, 1) := by decide +kernel
theorem dX8_setFill_15 : decode cX8_setFill 15 = .ok (.invokevirtual 71, 3) := by decide +kernel
theorem dX8_setFill_18 : decode cX8_setFill 18 = .ok (.ireturn, 1) := by decide +kernel
theorem dX8_setFill_19 : decode cX8_setFill 19 = .ok (.iload_n 2, 1) := by decide +kernel
theorem dX8_setFill_20 : decode cX8_setFill 20 = .ok (.iconst (-1), 1) := by decide +kernel
theorem dX8_setFill_21 : decode cX8_setFill 21 = .ok (.sipush 255, 3) := by decide +kernel
theorem dX8_setFill_24 : decode cX8_setFill 24 = .ok (.invokestatic 63, 3) := by decide +kernel
theorem dX8_setFill_27 : decode cX8_setFill 27 = .ok (.ifCond .ne 9, 3) := by decide +kernel
theorem dX8_setFill_30 : decode cX8_setFill 30 = .ok (.aload_n 0, 1) := by decide +kernel
theorem dX8_setFill_31 : decode cX8_setFill 31 = .ok (.iconst 2, 1) := by decide +kernel
theorem dX8_setFill_32 : decode cX8_setFill 32 = .ok (.invokevirtual 71, 3) := by decide +kernel
theorem dX8_setFill_35 : decode cX8_setFill 35 = .ok (.ireturn, 1) := by decide +kernel
theorem dX8_setFill_36 : decode cX8_setFill 36 = .ok (.aload_n 0, 1) := by decide +kernel
theorem dX8_setFill_37 : decode cX8_setFill 37 = .ok (.getfield 39, 3) := by decide +kernel
theorem dX8_setFill_40 : decode cX8_setFill 40 = .ok (.iload_n 1, 1) := by decide +kernel
theorem dX8_setFill_41 : decode cX8_setFill 41 = .ok (.iaload, 1) := by decide +kernel
theorem dX8_setFill_42 : decode cX8_setFill 42 = .ok (.istore_n 3, 1) := by decide +kernel
theorem dX8_setFill_43 : decode cX8_setFill 43 = .ok (.aload_n 0, 1) := by decide +kernel
theorem dX8_setFill_44 : decode cX8_setFill 44 = .ok (.getfield 39, 3) := by decide +kernel
theorem dX8_setFill_47 : decode cX8_setFill 47 = .ok (.iload_n 1, 1) := by decide +kernel
theorem dX8_setFill_48 : decode cX8_setFill 48 = .ok (.iload_n 2, 1) := by decide +kernel
theorem dX8_setFill_49 : decode cX8_setFill 49 = .ok (.iastore, 1) := by decide +kernel
theorem dX8_setFill_50 : decode cX8_setFill 50 = .ok (.iload_n 3, 1) := by decide +kernel
theorem dX8_setFill_51 : decode cX8_setFill 51 = .ok (.ireturn, 1) := by decide +kernel
set_option maxRecDepth 20000 in
theorem ggX8_setOpacity_X8_isNode : GoodIn wsX8_setOpacity wsX8_isNode := goodIn_r _ [8, 9, 10, 11, 12, 7, 13, 18, 19, 20, 21, 22, 23, 24, 25, 26, 27, 28, 29, 30, 31, 32, 33, 34, 35, 36] (by decide +kernel) (by decide +kernel)
set_option maxRecDepth 20000 in
theorem gX8_setOpacity_X8_isNode : GoodIn wsX8_setOpacity (wsV RX8 67 RX8 yX8_isNode wsX8_isNode) := goodIn_app (goodIn_of _ (by decide +kernel)) ggX8_setOpacity_X8_isNode
set_option maxRecDepth 20000 in
theorem ggX8_setOpacity_X8_fail : GoodIn wsX8_setOpacity wsX8_fail := goodIn_r _ [17, 1, 18, 19, 20, 21, 22, 23, 24, 25, 26, 27, 28, 29, 30, 31, 32, 33, 34, 35, 36] (by decide +kernel) (by decide +kernel)
set_option maxRecDepth 20000 in
theorem gX8_setOpacity_X8_fail : GoodIn wsX8_setOpacity (wsV RX8 71 RX8 yX8_fail wsX8_fail) := goodIn_app (goodIn_of _ (by decide +kernel)) ggX8_setOpacity_X8_fail
set_option maxRecDepth 20000 in
theorem ggX8_setOpacity_X8_isIn : GoodIn wsX8_setOpacity wsX8_isIn := goodIn_r _ [13] (by decide +kernel) (by decide +kernel)
set_option maxRecDepth 20000 in
theorem gX8_setOpacity_X8_isIn : GoodIn wsX8_setOpacity (va_wsS RX8 63 yX8_isIn wsX8_isIn) := goodIn_app (goodIn_of _ (by decide +kernel)) ggX8_setOpacity_X8_isIn
theorem dX8_setOpacity_0 : decode cX8_setOpacity 0 = .ok (.aload_n 0, 1) := by decide +kernel
theorem dX8_setOpacity_1 : decode cX8_setOpacity 1 = .ok (.iconst 0, 1) := by decide +kernel
theorem dX8_setOpacity_2 : decode cX8_setOpacity 2 = .ok (.putfield 60, 3) := by decide +kernel
theorem dX8_setOpacity_5 : decode cX8_setOpacity 5 = .ok (.aload_n 0, 1) := by decide +kernel
theorem dX8_setOpacity_6 : decode cX8_setOpacity 6 = .ok (.iload_n 1, 1) := by decide +kernel
theorem dX8_setOpacity_7 : decode cX8_setOpacity 7 = .ok (.invokevirtual 67, 3) := by decide +kernel
theorem dX8_setOpacity_10 : decode cX8_setOpacity 10 = .ok (.ifCond .ne 9, 3) := by decide +kernel
theorem dX8_setOpacity_13 : decode cX8_setOpacity 13 = .ok (.aload_n 0, 1) := by decide +kernel
theorem dX8_setOpacity_14 : decode cX8_setOpacity 14 = .ok (.iconst 1, 1) := by decide +kernel
theorem dX8_setOpacity_15 : decode cX8_setOpacity 15 = .ok (.invokevirtual 71, 3) := by decide +kernel
theorem dX8_setOpacity_18 : decode cX8_setOpacity 18 = .ok (.ireturn, 1) := by decide +kernel
theorem dX8_setOpacity_19 : decode cX8_setOpacity 19 = .ok (.iload_n 2, 1) := by decide +kernel
theorem dX8_setOpacity_20 : decode cX8_setOpacity 20 = .ok (.iconst 0, 1) := by decide +kernel
theorem dX8_setOpacity_21 : decode cX8_setOpacity 21 = .ok (.bipush 8, 2) := by decide +kernel
theorem dX8_setOpacity_23 : decode cX8_setOpacity 23 = .ok (.invokestatic 63, 3) := by decide +kernel
theorem dX8_setOpacity_26 : decode cX8_setOpacity 26 = .ok (.ifCond .ne 9, 3) := by decide +kernel
theorem dX8_setOpacity_29 : decode cX8_setOpacity 29 = .ok (.aload_n 0, 1) := by decide +kernel
theorem dX8_setOpacity_30 : decode cX8_setOpacity 30 = .ok (.iconst 2, 1) := by decide +kernel
theorem dX8_setOpacity_31 : decode cX8_setOpacity 31 = .ok (.invokevirtual 71, 3) := by decide +kernel
theorem dX8_setOpacity_34 : decode cX8_setOpacity 34 = .ok (.ireturn, 1) := by decide +kernel
theorem dX8_setOpacity_35 : decode cX8_setOpacity 35 = .ok (.aload_n 0, 1) := by decide +kernel
theorem dX8_setOpacity_36 : decode cX8_setOpacity 36 = .ok (.getfield 42, 3) := by decide +kernel
theorem dX8_setOpacity_39 : decode cX8_setOpacity 39 = .ok (.iload_n 1, 1) := by decide +kernel
theorem dX8_setOpacity_40 : decode cX8_setOpacity 40 = .ok (.iaload, 1) := by decide +kernel
theorem dX8_setOpacity_41 : decode cX8_setOpacity 41 = .ok (.istore 4, 2) := by decide +kernel
theorem dX8_setOpacity_43 : decode cX8_setOpacity 43 = .ok (.aload_n 0, 1) := by decide +kernel
theorem dX8_setOpacity_44 : decode cX8_setOpacity 44 = .ok (.getfield 42, 3) := by decide +kernel
theorem dX8_setOpacity_47 : decode cX8_setOpacity 47 = .ok (.iload_n 1, 1) := by decide +kernel
theorem dX8_setOpacity_48 : decode cX8_setOpacity 48 = .ok (.iload_n 2, 1) := by decide +kernel
theorem dX8_setOpacity_49 : decode cX8_setOpacity 49 = .ok (.iastore, 1) := by decide +kernel
theorem dX8_setOpacity_50 : decode cX8_setOpacity 50 = .ok (.aload_n 0, 1) := by decide +kernel
theorem dX8_setOpacity_51 : decode cX8_setOpacity 51 = .ok (.getfield 45, 3) := by decide +kernel
theorem dX8_setOpacity_54 : decode cX8_setOpacity 54 = .ok (.iload_n 1, 1) := by decide +kernel
theorem dX8_setOpacity_55 : decode cX8_setOpacity 55 = .ok (.iload_n 3, 1) := by decide +kernel
theorem dX8_setOpacity_56 : decode cX8_setOpacity 56 = .ok (.bastore, 1) := by decide +kernel
theorem dX8_setOpacity_57 : decode cX8_setOpacity 57 = .ok (.iload 4, 2) := by decide +kernel
theorem dX8_setOpacity_59 : decode cX8_setOpacity 59 = .ok (.ireturn, 1) := by decide +kernel
set_option maxRecDepth 20000 in
theorem ggX8_setClip_X8_isNode : GoodIn wsX8_setClip wsX8_isNode := goodIn_r _ [12, 13, 14, 15, 16, 11, 17, 21, 22, 23, 24, 25, 26, 27, 28, 29, 30, 31, 32, 33, 34, 35, 36, 37, 38, 39] (by decide +kernel) (by decide +kernel)
set_option maxRecDepth 20000 in
theorem gX8_setClip_X8_isNode : GoodIn wsX8_setClip (wsV RX8 67 RX8 yX8_isNode wsX8_isNode) := goodIn_app (goodIn_of _ (by decide +kernel)) ggX8_setClip_X8_isNode
set_option maxRecDepth 20000 in
theorem ggX8_setClip_X8_isFar : GoodIn wsX8_setClip wsX8_isFar := goodIn_r _ [20, 15, 16, 11, 17] (by decide +kernel) (by decide +kernel)
set_option maxRecDepth 20000 in
theorem gX8_setClip_X8_isFar : GoodIn wsX8_setClip (va_wsS RX8 95 yX8_isFar wsX8_isFar) := goodIn_app (goodIn_of _ (by decide +kernel)) ggX8_setClip_X8_isFar
set_option maxRecDepth 20000 in
theorem ggX8_setClip_X8_isIn : GoodIn wsX8_setClip wsX8_isIn := goodIn_r _ [17] (by decide +kernel) (by decide +kernel)
set_option maxRecDepth 20000 in
theorem gX8_setClip_X8_isIn : GoodIn wsX8_setClip (va_wsS RX8 63 yX8_isIn wsX8_isIn) := goodIn_app (goodIn_of _ (by decide +kernel)) ggX8_setClip_X8_isIn
theorem dX8_setClip_0 : decode cX8_setClip 0 = .ok (.aload_n 0, 1) := by decide +kernel
theorem dX8_setClip_1 : decode cX8_setClip 1 = .ok (.aload_n 0, 1) := by decide +kernel
theorem dX8_setClip_2 : decode cX8_setClip 2 = .ok (.iload_n 1, 1) := by decide +kernel
theorem dX8_setClip_3 : decode cX8_setClip 3 = .ok (.invokevirtual 67, 3) := by decide +kernel
theorem dX8_setClip_6 : decode cX8_setClip 6 = .ok (.ifCond .ne 7, 3) := by decide +kernel
theorem dX8_setClip_9 : decode cX8_setClip 9 = .ok (.iconst 1, 1) := by decide +kernel
theorem dX8_setClip_10 : decode cX8_setClip 10 = .ok (.goto 44, 3) := by decide +kernel
theorem dX8_setClip_13 : decode cX8_setClip 13 = .ok (.iload_n 2, 1) := by decide +kernel
theorem dX8_setClip_14 : decode cX8_setClip 14 = .ok (.invokestatic 95, 3) := by decide +kernel
theorem dX8_setClip_17 : decode cX8_setClip 17 = .ok (.ifCond .ne 32, 3) := by decide +kernel
theorem dX8_setClip_20 : decode cX8_setClip 20 = .ok (.iload_n 3, 1) := by decide +kernel
theorem dX8_setClip_21 : decode cX8_setClip 21 = .ok (.invokestatic 95, 3) := by decide +kernel
theorem dX8_setClip_24 : decode cX8_setClip 24 = .ok (.ifCond .ne 25, 3) := by decide +kernel
theorem dX8_setClip_27 : decode cX8_setClip 27 = .ok (.iload 4, 2) := by decide +kernel
theorem dX8_setClip_29 : decode cX8_setClip 29 = .ok (.iconst 0, 1) := by decide +kernel
theorem dX8_setClip_30 : decode cX8_setClip 30 = .ok (.bipush 100, 2) := by decide +kernel
theorem dX8_setClip_32 : decode cX8_setClip 32 = .ok (.invokestatic 63, 3) := by decide +kernel
theorem dX8_setClip_35 : decode cX8_setClip 35 = .ok (.ifCond .eq 14, 3) := by decide +kernel
theorem dX8_setClip_38 : decode cX8_setClip 38 = .ok (.iload 5, 2) := by decide +kernel
theorem dX8_setClip_40 : decode cX8_setClip 40 = .ok (.iconst 0, 1) := by decide +kernel
theorem dX8_setClip_41 : decode cX8_setClip 41 = .ok (.bipush 100, 2) := by decide +kernel
theorem dX8_setClip_43 : decode cX8_setClip 43 = .ok (.invokestatic 63, 3) := by decide +kernel
theorem dX8_setClip_46 : decode cX8_setClip 46 = .ok (.ifCond .ne 7, 3) := by decide +kernel
theorem dX8_setClip_49 : decode cX8_setClip 49 = .ok (.iconst 2, 1) := by decide +kernel
theorem dX8_setClip_50 : decode cX8_setClip 50 = .ok (.goto 4, 3) := by decide +kernel
theorem dX8_setClip_53 : decode cX8_setClip 53 = .ok (.iconst 0, 1) := by decide +kernel
theorem dX8_setClip_54 : decode cX8_setClip 54 = .ok (.putfield 60, 3) := by decide +kernel
theorem dX8_setClip_57 : decode cX8_setClip 57 = .ok (.aload_n 0, 1) := by decide +kernel
theorem dX8_setClip_58 : decode cX8_setClip 58 = .ok (.getfield 60, 3) := by decide +kernel
theorem dX8_setClip_61 : decode cX8_setClip 61 = .ok (.ifCond .eq 5, 3) := by decide +kernel
theorem dX8_setClip_64 : decode cX8_setClip 64 = .ok (.iconst 0, 1) := by decide +kernel
theorem dX8_setClip_65 : decode cX8_setClip 65 = .ok (.ireturn, 1) := by decide +kernel
theorem dX8_setClip_66 : decode cX8_setClip 66 = .ok (.aload_n 0, 1) := by decide +kernel
theorem dX8_setClip_67 : decode cX8_setClip 67 = .ok (.getfield 51, 3) := by decide +kernel
theorem dX8_setClip_70 : decode cX8_setClip 70 = .ok (.iconst 4, 1) := by decide +kernel
theorem dX8_setClip_71 : decode cX8_setClip 71 = .ok (.iload_n 1, 1) := by decide +kernel
theorem dX8_setClip_72 : decode cX8_setClip 72 = .ok (.imul, 1) := by decide +kernel
theorem dX8_setClip_73 : decode cX8_setClip 73 = .ok (.iconst 2, 1) := by decide +kernel
theorem dX8_setClip_74 : decode cX8_setClip 74 = .ok (.iadd, 1) := by decide +kernel
theorem dX8_setClip_75 : decode cX8_setClip 75 = .ok (.iaload, 1) := by decide +kernel
theorem dX8_setClip_76 : decode cX8_setClip 76 = .ok (.ifCond .le 7, 3) := by decide +kernel
theorem dX8_setClip_79 : decode cX8_setClip 79 = .ok (.iconst 1, 1) := by decide +kernel
theorem dX8_setClip_80 : decode cX8_setClip 80 = .ok (.goto 4, 3) := by decide +kernel
theorem dX8_setClip_83 : decode cX8_setClip 83 = .ok (.iconst 0, 1) := by decide +kernel
theorem dX8_setClip_84 : decode cX8_setClip 84 = .ok (.istore 6, 2) := by decide +kernel
theorem dX8_setClip_86 : decode cX8_setClip 86 = .ok (.iconst 4, 1) := by decide +kernel
theorem dX8_setClip_87 : decode cX8_setClip 87 = .ok (.newarray .int, 2) := by decide +kernel
theorem dX8_setClip_89 : decode cX8_setClip 89 = .ok (.dup, 1) := by decide +kernel
theorem dX8_setClip_90 : decode cX8_setClip 90 = .ok (.iconst 0, 1) := by decide +kernel
theorem dX8_setClip_91 : decode cX8_setClip 91 = .ok (.iload_n 2, 1) := by decide +kernel
theorem dX8_setClip_92 : decode cX8_setClip 92 = .ok (.iastore, 1) := by decide +kernel
theorem dX8_setClip_93 : decode cX8_setClip 93 = .ok (.dup, 1) := by decide +kernel
theorem dX8_setClip_94 : decode cX8_setClip 94 = .ok (.iconst 1, 1) := by decide +kernel
theorem dX8_setClip_95 : decode cX8_setClip 95 = .ok (.iload_n 3, 1) := by decide +kernel
theorem dX8_setClip_96 : decode cX8_setClip 96 = .ok (.iastore, 1) := by decide +kernel
theorem dX8_setClip_97 : decode cX8_setClip 97 = .ok (.dup, 1) := by decide +kernel
theorem dX8_setClip_98 : decode cX8_setClip 98 = .ok (.iconst 2, 1) := by decide +kernel
theorem dX8_setClip_99 : decode cX8_setClip 99 = .ok (.iload 4, 2) := by decide +kernel
theorem dX8_setClip_101 : decode cX8_setClip 101 = .ok (.iastore, 1) := by decide +kernel
theorem dX8_setClip_102 : decode cX8_setClip 102 = .ok (.dup, 1) := by decide +kernel
theorem dX8_setClip_103 : decode cX8_setClip 103 = .ok (.iconst 3, 1) := by decide +kernel
theorem dX8_setClip_104 : decode cX8_setClip 104 = .ok (.iload 5, 2) := by decide +kernel
theorem dX8_setClip_106 : decode cX8_setClip 106 = .ok (.iastore, 1) := by decide +kernel
theorem dX8_setClip_107 : decode cX8_setClip 107 = .ok (.astore 7, 2) := by decide +kernel
theorem dX8_setClip_109 : decode cX8_setClip 109 = .ok (.aload 7, 2) := by decide +kernel
theorem dX8_setClip_111 : decode cX8_setClip 111 = .ok (.iconst 0, 1) := by decide +kernel
theorem dX8_setClip_112 : decode cX8_setClip 112 = .ok (.aload_n 0, 1) := by decide +kernel
theorem dX8_setClip_113 : decode cX8_setClip 113 = .ok (.getfield 51, 3) := by decide +kernel
theorem dX8_setClip_116 : decode cX8_setClip 116 = .ok (.iconst 4, 1) := by decide +kernel
theorem dX8_setClip_117 : decode cX8_setClip 117 = .ok (.iload_n 1, 1) := by decide +kernel
theorem dX8_setClip_118 : decode cX8_setClip 118 = .ok (.imul, 1) := by decide +kernel
theorem dX8_setClip_119 : decode cX8_setClip 119 = .ok (.iconst 4, 1) := by decide +kernel
theorem dX8_setClip_120 : decode cX8_setClip 120 = .ok (.invokestatic 78, 3) := by decide +kernel
theorem dX8_setClip_123 : decode cX8_setClip 123 = .ok (.iload 6, 2) := by decide +kernel
theorem dX8_setClip_125 : decode cX8_setClip 125 = .ok (.ireturn, 1) := by decide +kernel
set_option maxRecDepth 20000 in
theorem ggX8_setMask_X8_isNode : GoodIn wsX8_setMask wsX8_isNode := goodIn_r _ [7, 8, 9, 10, 11, 6, 12, 18, 19, 20, 21, 22, 23, 24, 25, 26, 27, 28, 29, 30, 31, 32, 33, 34, 35, 36] (by decide +kernel) (by decide +kernel)
set_option maxRecDepth 20000 in
theorem gX8_setMask_X8_isNode : GoodIn wsX8_setMask (wsV RX8 67 RX8 yX8_isNode wsX8_isNode) := goodIn_app (goodIn_of _ (by decide +kernel)) ggX8_setMask_X8_isNode
set_option maxRecDepth 20000 in
theorem ggX8_setMask_X8_isGroup : GoodIn wsX8_setMask wsX8_isGroup := goodIn_r _ [16, 17, 18, 19, 20, 21, 22, 23, 24, 25, 26, 27, 28, 29, 30, 31, 32, 33, 34, 35, 36] (by decide +kernel) (by decide +kernel)
set_option maxRecDepth 20000 in
theorem gX8_setMask_X8_isGroup : GoodIn wsX8_setMask (wsV RX8 75 RX8 yX8_isGroup wsX8_isGroup) := goodIn_app (goodIn_of _ (by decide +kernel)) ggX8_setMask_X8_isGroup
theorem dX8_setMask_0 : decode cX8_setMask 0 = .ok (.aload_n 0, 1) := by decide +kernel
theorem dX8_setMask_1 : decode cX8_setMask 1 = .ok (.aload_n 0, 1) := by decide +kernel
theorem dX8_setMask_2 : decode cX8_setMask 2 = .ok (.iload_n 1, 1) := by decide +kernel
theorem dX8_setMask_3 : decode cX8_setMask 3 = .ok (.invokevirtual 67, 3) := by decide +kernel
theorem dX8_setMask_6 : decode cX8_setMask 6 = .ok (.ifCond .ne 7, 3) := by decide +kernel
theorem dX8_setMask_9 : decode cX8_setMask 9 = .ok (.iconst 1, 1) := by decide +kernel
theorem dX8_setMask_10 : decode cX8_setMask 10 = .ok (.goto 16, 3) := by decide +kernel
theorem dX8_setMask_13 : decode cX8_setMask 13 = .ok (.aload_n 0, 1) := by decide +kernel
theorem dX8_setMask_14 : decode cX8_setMask 14 = .ok (.iload_n 1, 1) := by decide +kernel
theorem dX8_setMask_15 : decode cX8_setMask 15 = .ok (.invokevirtual 75, 3) := by decide +kernel
theorem dX8_setMask_18 : decode cX8_setMask 18 = .ok (.ifCond .ne 7, 3) := by decide +kernel
theorem dX8_setMask_21 : decode cX8_setMask 21 = .ok (.iconst 2, 1) := by decide +kernel
theorem dX8_setMask_22 : decode cX8_setMask 22 = .ok (.goto 4, 3) := by decide +kernel
theorem dX8_setMask_25 : decode cX8_setMask 25 = .ok (.iconst 0, 1) := by decide +kernel
theorem dX8_setMask_26 : decode cX8_setMask 26 = .ok (.putfield 60, 3) := by decide +kernel
theorem dX8_setMask_29 : decode cX8_setMask 29 = .ok (.aload_n 0, 1) := by decide +kernel
theorem dX8_setMask_30 : decode cX8_setMask 30 = .ok (.getfield 60, 3) := by decide +kernel
theorem dX8_setMask_33 : decode cX8_setMask 33 = .ok (.ifCond .eq 5, 3) := by decide +kernel
theorem dX8_setMask_36 : decode cX8_setMask 36 = .ok (.iconst 0, 1) := by decide +kernel
theorem dX8_setMask_37 : decode cX8_setMask 37 = .ok (.ireturn, 1) := by decide +kernel
theorem dX8_setMask_38 : decode cX8_setMask 38 = .ok (.aload_n 0, 1) := by decide +kernel
theorem dX8_setMask_39 : decode cX8_setMask 39 = .ok (.getfield 48, 3) := by decide +kernel
theorem dX8_setMask_42 : decode cX8_setMask 42 = .ok (.iload_n 1, 1) := by decide +kernel
theorem dX8_setMask_43 : decode cX8_setMask 43 = .ok (.baload, 1) := by decide +kernel
theorem dX8_setMask_44 : decode cX8_setMask 44 = .ok (.istore_n 3, 1) := by decide +kernel
theorem dX8_setMask_45 : decode cX8_setMask 45 = .ok (.aload_n 0, 1) := by decide +kernel
theorem dX8_setMask_46 : decode cX8_setMask 46 = .ok (.getfield 48, 3) := by decide +kernel
theorem dX8_setMask_49 : decode cX8_setMask 49 = .ok (.iload_n 1, 1) := by decide +kernel
theorem dX8_setMask_50 : decode cX8_setMask 50 = .ok (.iload_n 2, 1) := by decide +kernel
theorem dX8_setMask_51 : decode cX8_setMask 51 = .ok (.bastore, 1) := by decide +kernel
theorem dX8_setMask_52 : decode cX8_setMask 52 = .ok (.iload_n 3, 1) := by decide +kernel
theorem dX8_setMask_53 : decode cX8_setMask 53 = .ok (.ireturn, 1) := by decide +kernel
set_option maxRecDepth 20000 in
theorem ggX8_setGround_X8_isIn : GoodIn wsX8_setGround wsX8_isIn := goodIn_r _ [6] (by decide +kernel) (by decide +kernel)
set_option maxRecDepth 20000 in
theorem gX8_setGround_X8_isIn : GoodIn wsX8_setGround (va_wsS RX8 63 yX8_isIn wsX8_isIn) := goodIn_app (goodIn_of _ (by decide +kernel)) ggX8_setGround_X8_isIn
set_option maxRecDepth 20000 in
theorem ggX8_setGround_X8_fail : GoodIn wsX8_setGround wsX8_fail := goodIn_r _ [10, 1, 11, 12, 13, 14, 15, 16, 17, 18, 19, 20, 21, 22, 23, 24, 25, 26, 27, 28, 29] (by decide +kernel) (by decide +kernel)
set_option maxRecDepth 20000 in
theorem gX8_setGround_X8_fail : GoodIn wsX8_setGround (wsV RX8 71 RX8 yX8_fail wsX8_fail) := goodIn_app (goodIn_of _ (by decide +kernel)) ggX8_setGround_X8_fail
theorem dX8_setGround_0 : decode cX8_setGround 0 = .ok (.aload_n 0, 1) := by decide +kernel
theorem dX8_setGround_1 : decode cX8_setGround 1 = .ok (.iconst 0, 1) := by decide +kernel
theorem dX8_setGround_2 : decode cX8_setGround 2 = .ok (.putfield 60, 3) := by decide +kernel
theorem dX8_setGround_5 : decode cX8_setGround 5 = .ok (.iload_n 1, 1) := by decide +kernel
theorem dX8_setGround_6 : decode cX8_setGround 6 = .ok (.iconst 0, 1) := by decide +kernel
theorem dX8_setGround_7 : decode cX8_setGround 7 = .ok (.sipush 255, 3) := by decide +kernel
theorem dX8_setGround_10 : decode cX8_setGround 10 = .ok (.invokestatic 63, 3) := by decide +kernel
theorem dX8_setGround_13 : decode cX8_setGround 13 = .ok (.ifCond .ne 9, 3) := by decide +kernel
theorem dX8_setGround_16 : decode cX8_setGround 16 = .ok (.aload_n 0, 1) := by decide +kernel
theorem dX8_setGround_17 : decode cX8_setGround 17 = .ok (.iconst 1, 1) := by decide +kernel
theorem dX8_setGround_18 : decode cX8_setGround 18 = .ok (.invokevirtual 71, 3) := by decide +kernel
theorem dX8_setGround_21 : decode cX8_setGround 21 = .ok (.ireturn, 1) := by decide +kernel
theorem dX8_setGround_22 : decode cX8_setGround 22 = .ok (.aload_n 0, 1) := by decide +kernel
theorem dX8_setGround_23 : decode cX8_setGround 23 = .ok (.getfield 132, 3) := by decide +kernel
theorem dX8_setGround_26 : decode cX8_setGround 26 = .ok (.istore_n 2, 1) := by decide +kernel
theorem dX8_setGround_27 : decode cX8_setGround 27 = .ok (.aload_n 0, 1) := by decide +kernel
theorem dX8_setGround_28 : decode cX8_setGround 28 = .ok (.iload_n 1, 1) := by decide +kernel
theorem dX8_setGround_29 : decode cX8_setGround 29 = .ok (.putfield 132, 3) := by decide +kernel
theorem dX8_setGround_32 : decode cX8_setGround 32 = .ok (.iload_n 2, 1) := by decide +kernel
theorem dX8_setGround_33 : decode cX8_setGround 33 = .ok (.ireturn, 1) := by decide +kernel
theorem dX8_offset_0 : decode cX8_offset 0 = .ok (.iconst 0, 1) := by decide +kernel
theorem dX8_offset_1 : decode cX8_offset 1 = .ok (.istore_n 3, 1) := by decide +kernel
theorem dX8_offset_2 : decode cX8_offset 2 = .ok (.iload_n 1, 1) := by decide +kernel
theorem dX8_offset_3 : decode cX8_offset 3 = .ok (.istore 4, 2) := by decide +kernel
theorem dX8_offset_5 : decode cX8_offset 5 = .ok (.iload 4, 2) := by decide +kernel
theorem dX8_offset_7 : decode cX8_offset 7 = .ok (.iconst (-1), 1) := by decide +kernel
theorem dX8_offset_8 : decode cX8_offset 8 = .ok (.if_icmp .eq 39, 3) := by decide +kernel
theorem dX8_offset_11 : decode cX8_offset 11 = .ok (.iload_n 3, 1) := by decide +kernel
theorem dX8_offset_12 : decode cX8_offset 12 = .ok (.iload_n 2, 1) := by decide +kernel
theorem dX8_offset_13 : decode cX8_offset 13 = .ok (.ifCond .eq 13, 3) := by decide +kernel
theorem dX8_offset_16 : decode cX8_offset 16 = .ok (.aload_n 0, 1) := by decide +kernel
theorem dX8_offset_17 : decode cX8_offset 17 = .ok (.getfield 36, 3) := by decide +kernel
theorem dX8_offset_20 : decode cX8_offset 20 = .ok (.iload 4, 2) := by decide +kernel
theorem dX8_offset_22 : decode cX8_offset 22 = .ok (.iaload, 1) := by decide +kernel
theorem dX8_offset_23 : decode cX8_offset 23 = .ok (.goto 10, 3) := by decide +kernel
theorem dX8_offset_26 : decode cX8_offset 26 = .ok (.aload_n 0, 1) := by decide +kernel
theorem dX8_offset_27 : decode cX8_offset 27 = .ok (.getfield 33, 3) := by decide +kernel
theorem dX8_offset_30 : decode cX8_offset 30 = .ok (.iload 4, 2) := by decide +kernel
theorem dX8_offset_32 : decode cX8_offset 32 = .ok (.iaload, 1) := by decide +kernel
theorem dX8_offset_33 : decode cX8_offset 33 = .ok (.iadd, 1) := by decide +kernel
theorem dX8_offset_34 : decode cX8_offset 34 = .ok (.istore_n 3, 1) := by decide +kernel
theorem dX8_offset_35 : decode cX8_offset 35 = .ok (.aload_n 0, 1) := by decide +kernel
theorem dX8_offset_36 : decode cX8_offset 36 = .ok (.getfield 21, 3) := by decide +kernel
theorem dX8_offset_39 : decode cX8_offset 39 = .ok (.iload 4, 2) := by decide +kernel
theorem dX8_offset_41 : decode cX8_offset 41 = .ok (.iaload, 1) := by decide +kernel
theorem dX8_offset_42 : decode cX8_offset 42 = .ok (.istore 4, 2) := by decide +kernel
theorem dX8_offset_44 : decode cX8_offset 44 = .ok (.goto (-39), 3) := by decide +kernel
theorem dX8_offset_47 : decode cX8_offset 47 = .ok (.iload_n 3, 1) := by decide +kernel
theorem dX8_offset_48 : decode cX8_offset 48 = .ok (.ireturn, 1) := by decide +kernel
set_option maxRecDepth 20000 in
theorem ggX8_isWithin__X8_isIn : GoodIn wsX8_isWithin_ wsX8_isIn := goodIn_r _ [4] (by decide +kernel) (by decide +kernel)
set_option maxRecDepth 20000 in
theorem gX8_isWithin__X8_isIn : GoodIn wsX8_isWithin_ (va_wsS RX8 63 yX8_isIn wsX8_isIn) := goodIn_app (goodIn_of _ (by decide +kernel)) ggX8_isWithin__X8_isIn
theorem dX8_isWithin__0 : decode cX8_isWithin_ 0 = .ok (.iload_n 2, 1) := by decide +kernel
theorem dX8_isWithin__1 : decode cX8_isWithin_ 1 = .ok (.aload_n 0, 1) := by decide +kernel
theorem dX8_isWithin__2 : decode cX8_isWithin_ 2 = .ok (.iload_n 1, 1) := by decide +kernel
theorem dX8_isWithin__3 : decode cX8_isWithin_ 3 = .ok (.iaload, 1) := by decide +kernel
theorem dX8_isWithin__4 : decode cX8_isWithin_ 4 = .ok (.aload_n 0, 1) := by decide +kernel
theorem dX8_isWithin__5 : decode cX8_isWithin_ 5 = .ok (.iload_n 1, 1) := by decide +kernel
theorem dX8_isWithin__6 : decode cX8_isWithin_ 6 = .ok (.iaload, 1) := by decide +kernel
theorem dX8_isWithin__7 : decode cX8_isWithin_ 7 = .ok (.aload_n 0, 1) := by decide +kernel
theorem dX8_isWithin__8 : decode cX8_isWithin_ 8 = .ok (.iload_n 1, 1) := by decide +kernel
theorem dX8_isWithin__9 : decode cX8_isWithin_ 9 = .ok (.iconst 2, 1) := by decide +kernel
theorem dX8_isWithin__10 : decode cX8_isWithin_ 10 = .ok (.iadd, 1) := by decide +kernel
theorem dX8_isWithin__11 : decode cX8_isWithin_ 11 = .ok (.iaload, 1) := by decide +kernel
theorem dX8_isWithin__12 : decode cX8_isWithin_ 12 = .ok (.iadd, 1) := by decide +kernel
theorem dX8_isWithin__13 : decode cX8_isWithin_ 13 = .ok (.iconst 1, 1) := by decide +kernel
theorem dX8_isWithin__14 : decode cX8_isWithin_ 14 = .ok (.isub, 1) := by decide +kernel
theorem dX8_isWithin__15 : decode cX8_isWithin_ 15 = .ok (.invokestatic 63, 3) := by decide +kernel
theorem dX8_isWithin__18 : decode cX8_isWithin_ 18 = .ok (.ifCond .eq 32, 3) := by decide +kernel
theorem dX8_isWithin__21 : decode cX8_isWithin_ 21 = .ok (.iload_n 3, 1) := by decide +kernel
theorem dX8_isWithin__22 : decode cX8_isWithin_ 22 = .ok (.aload_n 0, 1) := by decide +kernel
theorem dX8_isWithin__23 : decode cX8_isWithin_ 23 = .ok (.iload_n 1, 1) := by decide +kernel
theorem dX8_isWithin__24 : decode cX8_isWithin_ 24 = .ok (.iconst 1, 1) := by decide +kernel
theorem dX8_isWithin__25 : decode cX8_isWithin_ 25 = .ok (.iadd, 1) := by decide +kernel
theorem dX8_isWithin__26 : decode cX8_isWithin_ 26 = .ok (.iaload, 1) := by decide +kernel
theorem dX8_isWithin__27 : decode cX8_isWithin_ 27 = .ok (.aload_n 0, 1) := by decide +kernel
theorem dX8_isWithin__28 : decode cX8_isWithin_ 28 = .ok (.iload_n 1, 1) := by decide +kernel
theorem dX8_isWithin__29 : decode cX8_isWithin_ 29 = .ok (.iconst 1, 1) := by decide +kernel
theorem dX8_isWithin__30 : decode cX8_isWithin_ 30 = .ok (.iadd, 1) := by decide +kernel
theorem dX8_isWithin__31 : decode cX8_isWithin_ 31 = .ok (.iaload, 1) := by decide +kernel
theorem dX8_isWithin__32 : decode cX8_isWithin_ 32 = .ok (.aload_n 0, 1) := by decide +kernel
theorem dX8_isWithin__33 : decode cX8_isWithin_ 33 = .ok (.iload_n 1, 1) := by decide +kernel
theorem dX8_isWithin__34 : decode cX8_isWithin_ 34 = .ok (.iconst 3, 1) := by decide +kernel
theorem dX8_isWithin__35 : decode cX8_isWithin_ 35 = .ok (.iadd, 1) := by decide +kernel
theorem dX8_isWithin__36 : decode cX8_isWithin_ 36 = .ok (.iaload, 1) := by decide +kernel
theorem dX8_isWithin__37 : decode cX8_isWithin_ 37 = .ok (.iadd, 1) := by decide +kernel
theorem dX8_isWithin__38 : decode cX8_isWithin_ 38 = .ok (.iconst 1, 1) := by decide +kernel
theorem dX8_isWithin__39 : decode cX8_isWithin_ 39 = .ok (.isub, 1) := by decide +kernel
theorem dX8_isWithin__40 : decode cX8_isWithin_ 40 = .ok (.invokestatic 63, 3) := by decide +kernel
theorem dX8_isWithin__43 : decode cX8_isWithin_ 43 = .ok (.ifCond .eq 7, 3) := by decide +kernel
theorem dX8_isWithin__46 : decode cX8_isWithin_ 46 = .ok (.iconst 1, 1) := by decide +kernel
theorem dX8_isWithin__47 : decode cX8_isWithin_ 47 = .ok (.goto 4, 3) := by decide +kernel
theorem dX8_isWithin__50 : decode cX8_isWithin_ 50 = .ok (.iconst 0, 1) := by decide +kernel
theorem dX8_isWithin__51 : decode cX8_isWithin_ 51 = .ok (.ireturn, 1) := by decide +kernel
theorem dX8_side_0 : decode cX8_side 0 = .ok (.iload_n 2, 1) := by decide +kernel
theorem dX8_side_1 : decode cX8_side 1 = .ok (.iload_n 0, 1) := by decide +kernel
theorem dX8_side_2 : decode cX8_side 2 = .ok (.isub, 1) := by decide +kernel
theorem dX8_side_3 : decode cX8_side 3 = .ok (.i2l, 1) := by decide +kernel
theorem dX8_side_4 : decode cX8_side 4 = .ok (.ldc2_w 135, 3) := by decide +kernel
theorem dX8_side_7 : decode cX8_side 7 = .ok (.lmul, 1) := by decide +kernel
theorem dX8_side_8 : decode cX8_side 8 = .ok (.iload 5, 2) := by decide +kernel
theorem dX8_side_10 : decode cX8_side 10 = .ok (.iconst 2, 1) := by decide +kernel
theorem dX8_side_11 : decode cX8_side 11 = .ok (.iload_n 1, 1) := by decide +kernel
theorem dX8_side_12 : decode cX8_side 12 = .ok (.imul, 1) := by decide +kernel
theorem dX8_side_13 : decode cX8_side 13 = .ok (.isub, 1) := by decide +kernel
theorem dX8_side_14 : decode cX8_side 14 = .ok (.i2l, 1) := by decide +kernel
theorem dX8_side_15 : decode cX8_side 15 = .ok (.lmul, 1) := by decide +kernel
theorem dX8_side_16 : decode cX8_side 16 = .ok (.iload_n 3, 1) := by decide +kernel
theorem dX8_side_17 : decode cX8_side 17 = .ok (.iload_n 1, 1) := by decide +kernel
theorem dX8_side_18 : decode cX8_side 18 = .ok (.isub, 1) := by decide +kernel
theorem dX8_side_19 : decode cX8_side 19 = .ok (.i2l, 1) := by decide +kernel
theorem dX8_side_20 : decode cX8_side 20 = .ok (.ldc2_w 135, 3) := by decide +kernel
theorem dX8_side_23 : decode cX8_side 23 = .ok (.lmul, 1) := by decide +kernel
theorem dX8_side_24 : decode cX8_side 24 = .ok (.iload 4, 2) := by decide +kernel
theorem dX8_side_26 : decode cX8_side 26 = .ok (.iconst 2, 1) := by decide +kernel
theorem dX8_side_27 : decode cX8_side 27 = .ok (.iload_n 0, 1) := by decide +kernel
theorem dX8_side_28 : decode cX8_side 28 = .ok (.imul, 1) := by decide +kernel
theorem dX8_side_29 : decode cX8_side 29 = .ok (.isub, 1) := by decide +kernel
theorem dX8_side_30 : decode cX8_side 30 = .ok (.i2l, 1) := by decide +kernel
theorem dX8_side_31 : decode cX8_side 31 = .ok (.lmul, 1) := by decide +kernel
theorem dX8_side_32 : decode cX8_side 32 = .ok (.lsub, 1) := by decide +kernel
theorem dX8_side_33 : decode cX8_side 33 = .ok (.lreturn, 1) := by decide +kernel
set_option maxRecDepth 20000 in
theorem ggX8_isInShape_X8_offset : GoodIn wsX8_isInShape wsX8_offset := goodIn_r _ [7, 8, 9, 10, 21, 22, 23, 24, 25, 26, 27, 28, 29, 30, 31, 32, 33, 34, 35, 36, 37, 38, 39] (by decide +kernel) (by decide +kernel)
set_option maxRecDepth 20000 in
theorem gX8_isInShape_X8_offset : GoodIn wsX8_isInShape (wsV RX8 137 RX8 yX8_offset wsX8_offset) := goodIn_app (goodIn_of _ (by decide +kernel)) ggX8_isInShape_X8_offset
set_option maxRecDepth 20000 in
theorem ggX8_isInShape_X8_isWithin_ : GoodIn wsX8_isInShape wsX8_isWithin_ := goodIn_r _ [13, 14, 15, 6, 16] (by decide +kernel) (by decide +kernel)
set_option maxRecDepth 20000 in
theorem gX8_isInShape_X8_isWithin_ : GoodIn wsX8_isInShape (va_wsS RX8 141 yX8_isWithin_ wsX8_isWithin_) := goodIn_app (goodIn_of _ (by decide +kernel)) ggX8_isInShape_X8_isWithin_
set_option maxRecDepth 20000 in
theorem ggX8_isInShape_X8_side : GoodIn wsX8_isInShape wsX8_side := goodIn_r _ [19, 20] (by decide +kernel) (by decide +kernel)
set_option maxRecDepth 20000 in
theorem gX8_isInShape_X8_side : GoodIn wsX8_isInShape (va_wsS RX8 144 yX8_side wsX8_side) := goodIn_app (goodIn_of _ (by decide +kernel)) ggX8_isInShape_X8_side
theorem dX8_isInShape_0 : decode cX8_isInShape 0 = .ok (.iload_n 2, 1) := by decide +kernel
theorem dX8_isInShape_1 : decode cX8_isInShape 1 = .ok (.aload_n 0, 1) := by decide +kernel
theorem dX8_isInShape_2 : decode cX8_isInShape 2 = .ok (.iload_n 1, 1) := by decide +kernel
theorem dX8_isInShape_3 : decode cX8_isInShape 3 = .ok (.iconst 0, 1) := by decide +kernel
theorem dX8_isInShape_4 : decode cX8_isInShape 4 = .ok (.invokevirtual 137, 3) := by decide +kernel
theorem dX8_isInShape_7 : decode cX8_isInShape 7 = .ok (.isub, 1) := by decide +kernel
theorem dX8_isInShape_8 : decode cX8_isInShape 8 = .ok (.istore 4, 2) := by decide +kernel
theorem dX8_isInShape_10 : decode cX8_isInShape 10 = .ok (.iload_n 3, 1) := by decide +kernel
theorem dX8_isInShape_11 : decode cX8_isInShape 11 = .ok (.aload_n 0, 1) := by decide +kernel
theorem dX8_isInShape_12 : decode cX8_isInShape 12 = .ok (.iload_n 1, 1) := by decide +kernel
theorem dX8_isInShape_13 : decode cX8_isInShape 13 = .ok (.iconst 1, 1) := by decide +kernel
theorem dX8_isInShape_14 : decode cX8_isInShape 14 = .ok (.invokevirtual 137, 3) := by decide +kernel
theorem dX8_isInShape_17 : decode cX8_isInShape 17 = .ok (.isub, 1) := by decide +kernel
theorem dX8_isInShape_18 : decode cX8_isInShape 18 = .ok (.istore 5, 2) := by decide +kernel
theorem dX8_isInShape_20 : decode cX8_isInShape 20 = .ok (.bipush 6, 2) := by decide +kernel
theorem dX8_isInShape_22 : decode cX8_isInShape 22 = .ok (.iload_n 1, 1) := by decide +kernel
theorem dX8_isInShape_23 : decode cX8_isInShape 23 = .ok (.imul, 1) := by decide +kernel
theorem dX8_isInShape_24 : decode cX8_isInShape 24 = .ok (.istore 6, 2) := by decide +kernel
theorem dX8_isInShape_26 : decode cX8_isInShape 26 = .ok (.aload_n 0, 1) := by decide +kernel
theorem dX8_isInShape_27 : decode cX8_isInShape 27 = .ok (.getfield 17, 3) := by decide +kernel
theorem dX8_isInShape_30 : decode cX8_isInShape 30 = .ok (.iload_n 1, 1) := by decide +kernel
theorem dX8_isInShape_31 : decode cX8_isInShape 31 = .ok (.iaload, 1) := by decide +kernel
theorem dX8_isInShape_32 : decode cX8_isInShape 32 = .ok (.iconst 1, 1) := by decide +kernel
theorem dX8_isInShape_33 : decode cX8_isInShape 33 = .ok (.if_icmp .ne 17, 3) := by decide +kernel
theorem dX8_isInShape_36 : decode cX8_isInShape 36 = .ok (.aload_n 0, 1) := by decide +kernel
theorem dX8_isInShape_37 : decode cX8_isInShape 37 = .ok (.getfield 30, 3) := by decide +kernel
theorem dX8_isInShape_40 : decode cX8_isInShape 40 = .ok (.iload 6, 2) := by decide +kernel
theorem dX8_isInShape_42 : decode cX8_isInShape 42 = .ok (.iload 4, 2) := by decide +kernel
theorem dX8_isInShape_44 : decode cX8_isInShape 44 = .ok (.iload 5, 2) := by decide +kernel
theorem dX8_isInShape_46 : decode cX8_isInShape 46 = .ok (.invokestatic 141, 3) := by decide +kernel
theorem dX8_isInShape_49 : decode cX8_isInShape 49 = .ok (.ireturn, 1) := by decide +kernel
theorem dX8_isInShape_50 : decode cX8_isInShape 50 = .ok (.iconst 2, 1) := by decide +kernel
theorem dX8_isInShape_51 : decode cX8_isInShape 51 = .ok (.iload 4, 2) := by decide +kernel
theorem dX8_isInShape_53 : decode cX8_isInShape 53 = .ok (.imul, 1) := by decide +kernel
theorem dX8_isInShape_54 : decode cX8_isInShape 54 = .ok (.iconst 1, 1) := by decide +kernel
theorem dX8_isInShape_55 : decode cX8_isInShape 55 = .ok (.iadd, 1) := by decide +kernel
theorem dX8_isInShape_56 : decode cX8_isInShape 56 = .ok (.istore 7, 2) := by decide +kernel
theorem dX8_isInShape_58 : decode cX8_isInShape 58 = .ok (.iconst 2, 1) := by decide +kernel
theorem dX8_isInShape_59 : decode cX8_isInShape 59 = .ok (.iload 5, 2) := by decide +kernel
theorem dX8_isInShape_61 : decode cX8_isInShape 61 = .ok (.imul, 1) := by decide +kernel
theorem dX8_isInShape_62 : decode cX8_isInShape 62 = .ok (.iconst 1, 1) := by decide +kernel
theorem dX8_isInShape_63 : decode cX8_isInShape 63 = .ok (.iadd, 1) := by decide +kernel
theorem dX8_isInShape_64 : decode cX8_isInShape 64 = .ok (.istore 8, 2) := by decide +kernel
theorem dX8_isInShape_66 : decode cX8_isInShape 66 = .ok (.aload_n 0, 1) := by decide +kernel
theorem dX8_isInShape_67 : decode cX8_isInShape 67 = .ok (.getfield 17, 3) := by decide +kernel
theorem dX8_isInShape_70 : decode cX8_isInShape 70 = .ok (.iload_n 1, 1) := by decide +kernel
theorem dX8_isInShape_71 : decode cX8_isInShape 71 = .ok (.iaload, 1) := by decide +kernel
theorem dX8_isInShape_72 : decode cX8_isInShape 72 = .ok (.iconst 2, 1) := by decide +kernel
theorem dX8_isInShape_73 : decode cX8_isInShape 73 = .ok (.if_icmp .ne 74, 3) := by decide +kernel
theorem dX8_isInShape_76 : decode cX8_isInShape 76 = .ok (.iload 7, 2) := by decide +kernel
theorem dX8_isInShape_78 : decode cX8_isInShape 78 = .ok (.iconst 2, 1) := by decide +kernel
theorem dX8_isInShape_79 : decode cX8_isInShape 79 = .ok (.aload_n 0, 1) := by decide +kernel
theorem dX8_isInShape_80 : decode cX8_isInShape 80 = .ok (.getfield 30, 3) := by decide +kernel
theorem dX8_isInShape_83 : decode cX8_isInShape 83 = .ok (.iload 6, 2) := by decide +kernel
theorem dX8_isInShape_85 : decode cX8_isInShape 85 = .ok (.iaload, 1) := by decide +kernel
theorem dX8_isInShape_86 : decode cX8_isInShape 86 = .ok (.imul, 1) := by decide +kernel
theorem dX8_isInShape_87 : decode cX8_isInShape 87 = .ok (.isub, 1) := by decide +kernel
theorem dX8_isInShape_88 : decode cX8_isInShape 88 = .ok (.istore 9, 2) := by decide +kernel
theorem dX8_isInShape_90 : decode cX8_isInShape 90 = .ok (.iload 8, 2) := by decide +kernel
theorem dX8_isInShape_92 : decode cX8_isInShape 92 = .ok (.iconst 2, 1) := by decide +kernel
theorem dX8_isInShape_93 : decode cX8_isInShape 93 = .ok (.aload_n 0, 1) := by decide +kernel
theorem dX8_isInShape_94 : decode cX8_isInShape 94 = .ok (.getfield 30, 3) := by decide +kernel
theorem dX8_isInShape_97 : decode cX8_isInShape 97 = .ok (.iload 6, 2) := by decide +kernel
theorem dX8_isInShape_99 : decode cX8_isInShape 99 = .ok (.iconst 1, 1) := by decide +kernel
theorem dX8_isInShape_100 : decode cX8_isInShape 100 = .ok (.iadd, 1) := by decide +kernel
theorem dX8_isInShape_101 : decode cX8_isInShape 101 = .ok (.iaload, 1) := by decide +kernel
theorem dX8_isInShape_102 : decode cX8_isInShape 102 = .ok (.imul, 1) := by decide +kernel
theorem dX8_isInShape_103 : decode cX8_isInShape 103 = .ok (.isub, 1) := by decide +kernel
theorem dX8_isInShape_104 : decode cX8_isInShape 104 = .ok (.istore 10, 2) := by decide +kernel
theorem dX8_isInShape_106 : decode cX8_isInShape 106 = .ok (.iload 9, 2) := by decide +kernel
theorem dX8_isInShape_108 : decode cX8_isInShape 108 = .ok (.iload 9, 2) := by decide +kernel
theorem dX8_isInShape_110 : decode cX8_isInShape 110 = .ok (.imul, 1) := by decide +kernel
theorem dX8_isInShape_111 : decode cX8_isInShape 111 = .ok (.iload 10, 2) := by decide +kernel
theorem dX8_isInShape_113 : decode cX8_isInShape 113 = .ok (.iload 10, 2) := by decide +kernel
theorem dX8_isInShape_115 : decode cX8_isInShape 115 = .ok (.imul, 1) := by decide +kernel
theorem dX8_isInShape_116 : decode cX8_isInShape 116 = .ok (.iadd, 1) := by decide +kernel
theorem dX8_isInShape_117 : decode cX8_isInShape 117 = .ok (.iconst 4, 1) := by decide +kernel
theorem dX8_isInShape_118 : decode cX8_isInShape 118 = .ok (.aload_n 0, 1) := by decide +kernel
theorem dX8_isInShape_119 : decode cX8_isInShape 119 = .ok (.getfield 30, 3) := by decide +kernel
theorem dX8_isInShape_122 : decode cX8_isInShape 122 = .ok (.iload 6, 2) := by decide +kernel
theorem dX8_isInShape_124 : decode cX8_isInShape 124 = .ok (.iconst 2, 1) := by decide +kernel
theorem dX8_isInShape_125 : decode cX8_isInShape 125 = .ok (.iadd, 1) := by decide +kernel
theorem dX8_isInShape_126 : decode cX8_isInShape 126 = .ok (.iaload, 1) := by decide +kernel
theorem dX8_isInShape_127 : decode cX8_isInShape 127 = .ok (.imul, 1) := by decide +kernel
theorem dX8_isInShape_128 : decode cX8_isInShape 128 = .ok (.aload_n 0, 1) := by decide +kernel
theorem dX8_isInShape_129 : decode cX8_isInShape 129 = .ok (.getfield 30, 3) := by decide +kernel
theorem dX8_isInShape_132 : decode cX8_isInShape 132 = .ok (.iload 6, 2) := by decide +kernel
theorem dX8_isInShape_134 : decode cX8_isInShape 134 = .ok (.iconst 2, 1) := by decide +kernel
theorem dX8_isInShape_135 : decode cX8_isInShape 135 = .ok (.iadd, 1) := by decide +kernel
theorem dX8_isInShape_136 : decode cX8_isInShape 136 = .ok (.iaload, 1) := by decide +kernel
theorem dX8_isInShape_137 : decode cX8_isInShape 137 = .ok (.imul, 1) := by decide +kernel
theorem dX8_isInShape_138 : decode cX8_isInShape 138 = .ok (.if_icmp .gt 7, 3) := by decide +kernel
theorem dX8_isInShape_141 : decode cX8_isInShape 141 = .ok (.iconst 1, 1) := by decide +kernel
theorem dX8_isInShape_142 : decode cX8_isInShape 142 = .ok (.goto 4, 3) := by decide +kernel
theorem dX8_isInShape_145 : decode cX8_isInShape 145 = .ok (.iconst 0, 1) := by decide +kernel
theorem dX8_isInShape_146 : decode cX8_isInShape 146 = .ok (.ireturn, 1) := by decide +kernel
theorem dX8_isInShape_147 : decode cX8_isInShape 147 = .ok (.iconst 0, 1) := by decide +kernel
theorem dX8_isInShape_148 : decode cX8_isInShape 148 = .ok (.istore 9, 2) := by decide +kernel
theorem dX8_isInShape_150 : decode cX8_isInShape 150 = .ok (.iconst 0, 1) := by decide +kernel
theorem dX8_isInShape_151 : decode cX8_isInShape 151 = .ok (.istore 10, 2) := by decide +kernel
theorem dX8_isInShape_153 : decode cX8_isInShape 153 = .ok (.iconst 0, 1) := by decide +kernel
theorem dX8_isInShape_154 : decode cX8_isInShape 154 = .ok (.istore 11, 2) := by decide +kernel
theorem dX8_isInShape_156 : decode cX8_isInShape 156 = .ok (.iload 11, 2) := by decide +kernel
theorem dX8_isInShape_158 : decode cX8_isInShape 158 = .ok (.iconst 3, 1) := by decide +kernel
theorem dX8_isInShape_159 : decode cX8_isInShape 159 = .ok (.if_icmp .ge 110, 3) := by decide +kernel
theorem dX8_isInShape_162 : decode cX8_isInShape 162 = .ok (.iload 6, 2) := by decide +kernel
theorem dX8_isInShape_164 : decode cX8_isInShape 164 = .ok (.iconst 2, 1) := by decide +kernel
theorem dX8_isInShape_165 : decode cX8_isInShape 165 = .ok (.iload 11, 2) := by decide +kernel
theorem dX8_isInShape_167 : decode cX8_isInShape 167 = .ok (.imul, 1) := by decide +kernel
theorem dX8_isInShape_168 : decode cX8_isInShape 168 = .ok (.iadd, 1) := by decide +kernel
theorem dX8_isInShape_169 : decode cX8_isInShape 169 = .ok (.istore 12, 2) := by decide +kernel
theorem dX8_isInShape_171 : decode cX8_isInShape 171 = .ok (.iload 6, 2) := by decide +kernel
theorem dX8_isInShape_173 : decode cX8_isInShape 173 = .ok (.iconst 2, 1) := by decide +kernel
theorem dX8_isInShape_174 : decode cX8_isInShape 174 = .ok (.iload 11, 2) := by decide +kernel
theorem dX8_isInShape_176 : decode cX8_isInShape 176 = .ok (.iconst 1, 1) := by decide +kernel
theorem dX8_isInShape_177 : decode cX8_isInShape 177 = .ok (.iadd, 1) := by decide +kernel
theorem dX8_isInShape_178 : decode cX8_isInShape 178 = .ok (.iconst 3, 1) := by decide +kernel
theorem dX8_isInShape_179 : decode cX8_isInShape 179 = .ok (.irem, 1) := by decide +kernel
theorem dX8_isInShape_180 : decode cX8_isInShape 180 = .ok (.imul, 1) := by decide +kernel
theorem dX8_isInShape_181 : decode cX8_isInShape 181 = .ok (.iadd, 1) := by decide +kernel
theorem dX8_isInShape_182 : decode cX8_isInShape 182 = .ok (.istore 13, 2) := by decide +kernel
theorem dX8_isInShape_184 : decode cX8_isInShape 184 = .ok (.aload_n 0, 1) := by decide +kernel
theorem dX8_isInShape_185 : decode cX8_isInShape 185 = .ok (.getfield 30, 3) := by decide +kernel
theorem dX8_isInShape_188 : decode cX8_isInShape 188 = .ok (.iload 12, 2) := by decide +kernel
theorem dX8_isInShape_190 : decode cX8_isInShape 190 = .ok (.iaload, 1) := by decide +kernel
theorem dX8_isInShape_191 : decode cX8_isInShape 191 = .ok (.aload_n 0, 1) := by decide +kernel
theorem dX8_isInShape_192 : decode cX8_isInShape 192 = .ok (.getfield 30, 3) := by decide +kernel
theorem dX8_isInShape_195 : decode cX8_isInShape 195 = .ok (.iload 12, 2) := by decide +kernel
theorem dX8_isInShape_197 : decode cX8_isInShape 197 = .ok (.iconst 1, 1) := by decide +kernel
theorem dX8_isInShape_198 : decode cX8_isInShape 198 = .ok (.iadd, 1) := by decide +kernel
theorem dX8_isInShape_199 : decode cX8_isInShape 199 = .ok (.iaload, 1) := by decide +kernel
theorem dX8_isInShape_200 : decode cX8_isInShape 200 = .ok (.aload_n 0, 1) := by decide +kernel
theorem dX8_isInShape_201 : decode cX8_isInShape 201 = .ok (.getfield 30, 3) := by decide +kernel
theorem dX8_isInShape_204 : decode cX8_isInShape 204 = .ok (.iload 13, 2) := by decide +kernel
theorem dX8_isInShape_206 : decode cX8_isInShape 206 = .ok (.iaload, 1) := by decide +kernel
theorem dX8_isInShape_207 : decode cX8_isInShape 207 = .ok (.aload_n 0, 1) := by decide +kernel
theorem dX8_isInShape_208 : decode cX8_isInShape 208 = .ok (.getfield 30, 3) := by decide +kernel
theorem dX8_isInShape_211 : decode cX8_isInShape 211 = .ok (.iload 13, 2) := by decide +kernel
theorem dX8_isInShape_213 : decode cX8_isInShape 213 = .ok (.iconst 1, 1) := by decide +kernel
theorem dX8_isInShape_214 : decode cX8_isInShape 214 = .ok (.iadd, 1) := by decide +kernel
theorem dX8_isInShape_215 : decode cX8_isInShape 215 = .ok (.iaload, 1) := by decide +kernel
theorem dX8_isInShape_216 : decode cX8_isInShape 216 = .ok (.iload 7, 2) := by decide +kernel
theorem dX8_isInShape_218 : decode cX8_isInShape 218 = .ok (.iload 8, 2) := by decide +kernel
theorem dX8_isInShape_220 : decode cX8_isInShape 220 = .ok (.invokestatic 144, 3) := by decide +kernel
theorem dX8_isInShape_223 : decode cX8_isInShape 223 = .ok (.lstore 14, 2) := by decide +kernel
theorem dX8_isInShape_225 : decode cX8_isInShape 225 = .ok (.iload 9, 2) := by decide +kernel
theorem dX8_isInShape_227 : decode cX8_isInShape 227 = .ok (.ifCond .ne 10, 3) := by decide +kernel
theorem dX8_isInShape_230 : decode cX8_isInShape 230 = .ok (.lload 14, 2) := by decide +kernel
theorem dX8_isInShape_232 : decode cX8_isInShape 232 = .ok (.lconst 0, 1) := by decide +kernel
theorem dX8_isInShape_233 : decode cX8_isInShape 233 = .ok (.lcmp, 1) := by decide +kernel
theorem dX8_isInShape_234 : decode cX8_isInShape 234 = .ok (.ifCond .ge 7, 3) := by decide +kernel
theorem dX8_isInShape_237 : decode cX8_isInShape 237 = .ok (.iconst 1, 1) := by decide +kernel
theorem dX8_isInShape_238 : decode cX8_isInShape 238 = .ok (.goto 4, 3) := by decide +kernel
theorem dX8_isInShape_241 : decode cX8_isInShape 241 = .ok (.iconst 0, 1) := by decide +kernel
theorem dX8_isInShape_242 : decode cX8_isInShape 242 = .ok (.istore 9, 2) := by decide +kernel
theorem dX8_isInShape_244 : decode cX8_isInShape 244 = .ok (.iload 10, 2) := by decide +kernel
theorem dX8_isInShape_246 : decode cX8_isInShape 246 = .ok (.ifCond .ne 10, 3) := by decide +kernel
theorem dX8_isInShape_249 : decode cX8_isInShape 249 = .ok (.lload 14, 2) := by decide +kernel
theorem dX8_isInShape_251 : decode cX8_isInShape 251 = .ok (.lconst 0, 1) := by decide +kernel
theorem dX8_isInShape_252 : decode cX8_isInShape 252 = .ok (.lcmp, 1) := by decide +kernel
theorem dX8_isInShape_253 : decode cX8_isInShape 253 = .ok (.ifCond .le 7, 3) := by decide +kernel
theorem dX8_isInShape_256 : decode cX8_isInShape 256 = .ok (.iconst 1, 1) := by decide +kernel
theorem dX8_isInShape_257 : decode cX8_isInShape 257 = .ok (.goto 4, 3) := by decide +kernel
theorem dX8_isInShape_260 : decode cX8_isInShape 260 = .ok (.iconst 0, 1) := by decide +kernel
theorem dX8_isInShape_261 : decode cX8_isInShape 261 = .ok (.istore 10, 2) := by decide +kernel
theorem dX8_isInShape_263 : decode cX8_isInShape 263 = .ok (.iinc 11 1, 3) := by decide +kernel
theorem dX8_isInShape_266 : decode cX8_isInShape 266 = .ok (.goto (-110), 3) := by decide +kernel
theorem dX8_isInShape_269 : decode cX8_isInShape 269 = .ok (.iload 9, 2) := by decide +kernel
theorem dX8_isInShape_271 : decode cX8_isInShape 271 = .ok (.iload 10, 2) := by decide +kernel
theorem dX8_isInShape_273 : decode cX8_isInShape 273 = .ok (.if_icmp .eq 7, 3) := by decide +kernel
theorem dX8_isInShape_276 : decode cX8_isInShape 276 = .ok (.iconst 1, 1) := by decide +kernel
theorem dX8_isInShape_277 : decode cX8_isInShape 277 = .ok (.goto 4, 3) := by decide +kernel
theorem dX8_isInShape_280 : decode cX8_isInShape 280 = .ok (.iconst 0, 1) := by decide +kernel
theorem dX8_isInShape_281 : decode cX8_isInShape 281 = .ok (.ireturn, 1) := by decide +kernel
set_option maxRecDepth 20000 in
theorem ggX8_isInTree_X8_isGroup : GoodIn wsX8_isInTree wsX8_isGroup := goodIn_r _ [7, 8, 34, 35, 36, 37, 38, 39, 40, 41, 42, 43, 44, 45, 46, 47, 48, 49, 50, 51, 52] (by decide +kernel) (by decide +kernel)
set_option maxRecDepth 20000 in
theorem gX8_isInTree_X8_isGroup : GoodIn wsX8_isInTree (wsV RX8 75 RX8 yX8_isGroup wsX8_isGroup) := goodIn_app (goodIn_of _ (by decide +kernel)) ggX8_isInTree_X8_isGroup
set_option maxRecDepth 20000 in
theorem ggX8_isInTree_X8_isInShape : GoodIn wsX8_isInTree wsX8_isInShape := goodIn_r _ [12, 8, 13, 14, 15, 16, 6, 17, 18, 19, 20, 21, 22, 23, 24, 25, 26, 27, 28, 29, 30, 34, 35, 36, 37, 38, 39, 40, 41, 42, 43, 44, 45, 46, 47, 48, 49, 50, 51, 52] (by decide +kernel) (by decide +kernel)
set_option maxRecDepth 20000 in
theorem gX8_isInTree_X8_isInShape : GoodIn wsX8_isInTree (wsV RX8 148 RX8 yX8_isInShape wsX8_isInShape) := goodIn_app (goodIn_of _ (by decide +kernel)) ggX8_isInTree_X8_isInShape
set_option maxRecDepth 20000 in
theorem ggX8_isInTree_X8_isInTree : GoodIn wsX8_isInTree wsX8_isInTree := goodIn_r _ [0, 1, 2, 3, 4, 5, 6, 7, 8, 9, 10, 11, 12, 13, 14, 15, 16, 17, 18, 19, 20, 21, 22, 23, 24, 25, 26, 27, 28, 29, 30, 31, 32, 33, 34, 35, 36, 37, 38, 39, 40, 41, 42, 43, 44, 45, 46, 47, 48, 49, 50, 51, 52] (by decide +kernel) (by decide +kernel)
set_option maxRecDepth 20000 in
theorem gX8_isInTree_X8_isInTree : GoodIn wsX8_isInTree (wsV RX8 151 RX8 yX8_isInTree wsX8_isInTree) := goodIn_app (goodIn_of _ (by decide +kernel)) ggX8_isInTree_X8_isInTree
theorem dX8_isInTree_0 : decode cX8_isInTree 0 = .ok (.aload_n 0, 1) := by decide +kernel
theorem dX8_isInTree_1 : decode cX8_isInTree 1 = .ok (.iload_n 1, 1) := by decide +kernel
theorem dX8_isInTree_2 : decode cX8_isInTree 2 = .ok (.invokevirtual 75, 3) := by decide +kernel
theorem dX8_isInTree_5 : decode cX8_isInTree 5 = .ok (.ifCond .ne 11, 3) := by decide +kernel
theorem dX8_isInTree_8 : decode cX8_isInTree 8 = .ok (.aload_n 0, 1) := by decide +kernel
theorem dX8_isInTree_9 : decode cX8_isInTree 9 = .ok (.iload_n 1, 1) := by decide +kernel
theorem dX8_isInTree_10 : decode cX8_isInTree 10 = .ok (.iload_n 2, 1) := by decide +kernel
theorem dX8_isInTree_11 : decode cX8_isInTree 11 = .ok (.iload_n 3, 1) := by decide +kernel
theorem dX8_isInTree_12 : decode cX8_isInTree 12 = .ok (.invokevirtual 148, 3) := by decide +kernel
theorem dX8_isInTree_15 : decode cX8_isInTree 15 = .ok (.ireturn, 1) := by decide +kernel
theorem dX8_isInTree_16 : decode cX8_isInTree 16 = .ok (.iconst 0, 1) := by decide +kernel
theorem dX8_isInTree_17 : decode cX8_isInTree 17 = .ok (.istore 4, 2) := by decide +kernel
theorem dX8_isInTree_19 : decode cX8_isInTree 19 = .ok (.iconst 0, 1) := by decide +kernel
theorem dX8_isInTree_20 : decode cX8_isInTree 20 = .ok (.istore 5, 2) := by decide +kernel
theorem dX8_isInTree_22 : decode cX8_isInTree 22 = .ok (.iload 5, 2) := by decide +kernel
theorem dX8_isInTree_24 : decode cX8_isInTree 24 = .ok (.aload_n 0, 1) := by decide +kernel
theorem dX8_isInTree_25 : decode cX8_isInTree 25 = .ok (.getfield 24, 3) := by decide +kernel
theorem dX8_isInTree_28 : decode cX8_isInTree 28 = .ok (.iload_n 1, 1) := by decide +kernel
theorem dX8_isInTree_29 : decode cX8_isInTree 29 = .ok (.iaload, 1) := by decide +kernel
theorem dX8_isInTree_30 : decode cX8_isInTree 30 = .ok (.if_icmp .ge 34, 3) := by decide +kernel
theorem dX8_isInTree_33 : decode cX8_isInTree 33 = .ok (.iload 4, 2) := by decide +kernel
theorem dX8_isInTree_35 : decode cX8_isInTree 35 = .ok (.ifCond .ne 29, 3) := by decide +kernel
theorem dX8_isInTree_38 : decode cX8_isInTree 38 = .ok (.aload_n 0, 1) := by decide +kernel
theorem dX8_isInTree_39 : decode cX8_isInTree 39 = .ok (.aload_n 0, 1) := by decide +kernel
theorem dX8_isInTree_40 : decode cX8_isInTree 40 = .ok (.getfield 27, 3) := by decide +kernel
theorem dX8_isInTree_43 : decode cX8_isInTree 43 = .ok (.bipush 40, 2) := by decide +kernel
theorem dX8_isInTree_45 : decode cX8_isInTree 45 = .ok (.iload_n 1, 1) := by decide +kernel
theorem dX8_isInTree_46 : decode cX8_isInTree 46 = .ok (.imul, 1) := by decide +kernel
theorem dX8_isInTree_47 : decode cX8_isInTree 47 = .ok (.iload 5, 2) := by decide +kernel
theorem dX8_isInTree_49 : decode cX8_isInTree 49 = .ok (.iadd, 1) := by decide +kernel
theorem dX8_isInTree_50 : decode cX8_isInTree 50 = .ok (.iaload, 1) := by decide +kernel
theorem dX8_isInTree_51 : decode cX8_isInTree 51 = .ok (.iload_n 2, 1) := by decide +kernel
theorem dX8_isInTree_52 : decode cX8_isInTree 52 = .ok (.iload_n 3, 1) := by decide +kernel
theorem dX8_isInTree_53 : decode cX8_isInTree 53 = .ok (.invokevirtual 151, 3) := by decide +kernel
theorem dX8_isInTree_56 : decode cX8_isInTree 56 = .ok (.istore 4, 2) := by decide +kernel
theorem dX8_isInTree_58 : decode cX8_isInTree 58 = .ok (.iinc 5 1, 3) := by decide +kernel
theorem dX8_isInTree_61 : decode cX8_isInTree 61 = .ok (.goto (-39), 3) := by decide +kernel
theorem dX8_isInTree_64 : decode cX8_isInTree 64 = .ok (.iload 4, 2) := by decide +kernel
theorem dX8_isInTree_66 : decode cX8_isInTree 66 = .ok (.ireturn, 1) := by decide +kernel
theorem dX8_isMask_0 : decode cX8_isMask 0 = .ok (.iload_n 1, 1) := by decide +kernel
theorem dX8_isMask_1 : decode cX8_isMask 1 = .ok (.ifCond .eq 39, 3) := by decide +kernel
theorem dX8_isMask_4 : decode cX8_isMask 4 = .ok (.aload_n 0, 1) := by decide +kernel
theorem dX8_isMask_5 : decode cX8_isMask 5 = .ok (.getfield 48, 3) := by decide +kernel
theorem dX8_isMask_8 : decode cX8_isMask 8 = .ok (.aload_n 0, 1) := by decide +kernel
theorem dX8_isMask_9 : decode cX8_isMask 9 = .ok (.getfield 21, 3) := by decide +kernel
theorem dX8_isMask_12 : decode cX8_isMask 12 = .ok (.iload_n 1, 1) := by decide +kernel
theorem dX8_isMask_13 : decode cX8_isMask 13 = .ok (.iaload, 1) := by decide +kernel
theorem dX8_isMask_14 : decode cX8_isMask 14 = .ok (.baload, 1) := by decide +kernel
theorem dX8_isMask_15 : decode cX8_isMask 15 = .ok (.ifCond .eq 25, 3) := by decide +kernel
theorem dX8_isMask_18 : decode cX8_isMask 18 = .ok (.aload_n 0, 1) := by decide +kernel
theorem dX8_isMask_19 : decode cX8_isMask 19 = .ok (.getfield 27, 3) := by decide +kernel
theorem dX8_isMask_22 : decode cX8_isMask 22 = .ok (.bipush 40, 2) := by decide +kernel
theorem dX8_isMask_24 : decode cX8_isMask 24 = .ok (.aload_n 0, 1) := by decide +kernel
theorem dX8_isMask_25 : decode cX8_isMask 25 = .ok (.getfield 21, 3) := by decide +kernel
theorem dX8_isMask_28 : decode cX8_isMask 28 = .ok (.iload_n 1, 1) := by decide +kernel
theorem dX8_isMask_29 : decode cX8_isMask 29 = .ok (.iaload, 1) := by decide +kernel
theorem dX8_isMask_30 : decode cX8_isMask 30 = .ok (.imul, 1) := by decide +kernel
theorem dX8_isMask_31 : decode cX8_isMask 31 = .ok (.iaload, 1) := by decide +kernel
theorem dX8_isMask_32 : decode cX8_isMask 32 = .ok (.iload_n 1, 1) := by decide +kernel
theorem dX8_isMask_33 : decode cX8_isMask 33 = .ok (.if_icmp .ne 7, 3) := by decide +kernel
theorem dX8_isMask_36 : decode cX8_isMask 36 = .ok (.iconst 1, 1) := by decide +kernel
theorem dX8_isMask_37 : decode cX8_isMask 37 = .ok (.goto 4, 3) := by decide +kernel
theorem dX8_isMask_40 : decode cX8_isMask 40 = .ok (.iconst 0, 1) := by decide +kernel
theorem dX8_isMask_41 : decode cX8_isMask 41 = .ok (.ireturn, 1) := by decide +kernel
set_option maxRecDepth 20000 in
theorem ggX8_isShown_X8_isGroup : GoodIn wsX8_isShown wsX8_isGroup := goodIn_r _ [10, 11, 42, 43, 44, 45, 46, 47, 48, 49, 50, 51, 52, 53, 54, 55, 56, 57, 58, 59, 60] (by decide +kernel) (by decide +kernel)
set_option maxRecDepth 20000 in
theorem gX8_isShown_X8_isGroup : GoodIn wsX8_isShown (wsV RX8 75 RX8 yX8_isGroup wsX8_isGroup) := goodIn_app (goodIn_of _ (by decide +kernel)) ggX8_isShown_X8_isGroup
set_option maxRecDepth 20000 in
theorem ggX8_isShown_X8_isInShape : GoodIn wsX8_isShown wsX8_isInShape := goodIn_r _ [15, 11, 16, 17, 18, 19, 9, 20, 21, 22, 5, 23, 24, 25, 26, 27, 28, 29, 30, 31, 32, 42, 43, 44, 45, 46, 47, 48, 49, 50, 51, 52, 53, 54, 55, 56, 57, 58, 59, 60] (by decide +kernel) (by decide +kernel)
set_option maxRecDepth 20000 in
theorem gX8_isShown_X8_isInShape : GoodIn wsX8_isShown (wsV RX8 148 RX8 yX8_isInShape wsX8_isInShape) := goodIn_app (goodIn_of _ (by decide +kernel)) ggX8_isShown_X8_isInShape
set_option maxRecDepth 20000 in
theorem ggX8_isShown_X8_isMask : GoodIn wsX8_isShown wsX8_isMask := goodIn_r _ [36, 3, 5, 4, 42, 43, 44, 45, 46, 47, 48, 49, 50, 51, 52, 53, 54, 55, 56, 57, 58, 59, 60] (by decide +kernel) (by decide +kernel)
set_option maxRecDepth 20000 in
theorem gX8_isShown_X8_isMask : GoodIn wsX8_isShown (wsV RX8 154 RX8 yX8_isMask wsX8_isMask) := goodIn_app (goodIn_of _ (by decide +kernel)) ggX8_isShown_X8_isMask
set_option maxRecDepth 20000 in
theorem ggX8_isShown_X8_offset : GoodIn wsX8_isShown wsX8_offset := goodIn_r _ [20, 21, 22, 5, 42, 43, 44, 45, 46, 47, 48, 49, 50, 51, 52, 53, 54, 55, 56, 57, 58, 59, 60] (by decide +kernel) (by decide +kernel)
set_option maxRecDepth 20000 in
theorem gX8_isShown_X8_offset : GoodIn wsX8_isShown (wsV RX8 137 RX8 yX8_offset wsX8_offset) := goodIn_app (goodIn_of _ (by decide +kernel)) ggX8_isShown_X8_offset
set_option maxRecDepth 20000 in
theorem ggX8_isShown_X8_isWithin_ : GoodIn wsX8_isShown wsX8_isWithin_ := goodIn_r _ [25, 26, 27, 9, 28] (by decide +kernel) (by decide +kernel)
set_option maxRecDepth 20000 in
theorem gX8_isShown_X8_isWithin_ : GoodIn wsX8_isShown (va_wsS RX8 141 yX8_isWithin_ wsX8_isWithin_) := goodIn_app (goodIn_of _ (by decide +kernel)) ggX8_isShown_X8_isWithin_
set_option maxRecDepth 20000 in
theorem ggX8_isShown_X8_isInTree : GoodIn wsX8_isShown wsX8_isInTree := goodIn_r _ [40, 41, 4, 6, 7, 8, 9, 10, 11, 12, 13, 14, 15, 16, 17, 18, 19, 20, 21, 22, 5, 23, 24, 25, 26, 27, 28, 29, 30, 31, 32, 37, 38, 39, 42, 43, 44, 45, 46, 47, 48, 49, 50, 51, 52, 53, 54, 55, 56, 57, 58, 59, 60] (by decide +kernel) (by decide +kernel)
set_option maxRecDepth 20000 in
theorem gX8_isShown_X8_isInTree : GoodIn wsX8_isShown (wsV RX8 151 RX8 yX8_isInTree wsX8_isInTree) := goodIn_app (goodIn_of _ (by decide +kernel)) ggX8_isShown_X8_isInTree
theorem dX8_isShown_0 : decode cX8_isShown 0 = .ok (.aload_n 0, 1) := by decide +kernel
theorem dX8_isShown_1 : decode cX8_isShown 1 = .ok (.iload_n 1, 1) := by decide +kernel
theorem dX8_isShown_2 : decode cX8_isShown 2 = .ok (.invokevirtual 75, 3) := by decide +kernel
theorem dX8_isShown_5 : decode cX8_isShown 5 = .ok (.ifCond .ne 13, 3) := by decide +kernel
theorem dX8_isShown_8 : decode cX8_isShown 8 = .ok (.aload_n 0, 1) := by decide +kernel
theorem dX8_isShown_9 : decode cX8_isShown 9 = .ok (.iload_n 1, 1) := by decide +kernel
theorem dX8_isShown_10 : decode cX8_isShown 10 = .ok (.iload_n 2, 1) := by decide +kernel
theorem dX8_isShown_11 : decode cX8_isShown 11 = .ok (.iload_n 3, 1) := by decide +kernel
theorem dX8_isShown_12 : decode cX8_isShown 12 = .ok (.invokevirtual 148, 3) := by decide +kernel
theorem dX8_isShown_15 : decode cX8_isShown 15 = .ok (.ifCond .ne 5, 3) := by decide +kernel
theorem dX8_isShown_18 : decode cX8_isShown 18 = .ok (.iconst 0, 1) := by decide +kernel
theorem dX8_isShown_19 : decode cX8_isShown 19 = .ok (.ireturn, 1) := by decide +kernel
theorem dX8_isShown_20 : decode cX8_isShown 20 = .ok (.iload_n 1, 1) := by decide +kernel
theorem dX8_isShown_21 : decode cX8_isShown 21 = .ok (.istore 4, 2) := by decide +kernel
theorem dX8_isShown_23 : decode cX8_isShown 23 = .ok (.iload 4, 2) := by decide +kernel
theorem dX8_isShown_25 : decode cX8_isShown 25 = .ok (.iconst (-1), 1) := by decide +kernel
theorem dX8_isShown_26 : decode cX8_isShown 26 = .ok (.if_icmp .eq 121, 3) := by decide +kernel
theorem dX8_isShown_29 : decode cX8_isShown 29 = .ok (.aload_n 0, 1) := by decide +kernel
theorem dX8_isShown_30 : decode cX8_isShown 30 = .ok (.getfield 45, 3) := by decide +kernel
theorem dX8_isShown_33 : decode cX8_isShown 33 = .ok (.iload 4, 2) := by decide +kernel
theorem dX8_isShown_35 : decode cX8_isShown 35 = .ok (.baload, 1) := by decide +kernel
theorem dX8_isShown_36 : decode cX8_isShown 36 = .ok (.ifCond .ne 12, 3) := by decide +kernel
theorem dX8_isShown_39 : decode cX8_isShown 39 = .ok (.aload_n 0, 1) := by decide +kernel
theorem dX8_isShown_40 : decode cX8_isShown 40 = .ok (.iload 4, 2) := by decide +kernel
theorem dX8_isShown_42 : decode cX8_isShown 42 = .ok (.invokevirtual 154, 3) := by decide +kernel
theorem dX8_isShown_45 : decode cX8_isShown 45 = .ok (.ifCond .eq 5, 3) := by decide +kernel
theorem dX8_isShown_48 : decode cX8_isShown 48 = .ok (.iconst 0, 1) := by decide +kernel
theorem dX8_isShown_49 : decode cX8_isShown 49 = .ok (.ireturn, 1) := by decide +kernel
theorem dX8_isShown_50 : decode cX8_isShown 50 = .ok (.aload_n 0, 1) := by decide +kernel
theorem dX8_isShown_51 : decode cX8_isShown 51 = .ok (.getfield 51, 3) := by decide +kernel
theorem dX8_isShown_54 : decode cX8_isShown 54 = .ok (.iconst 4, 1) := by decide +kernel
theorem dX8_isShown_55 : decode cX8_isShown 55 = .ok (.iload 4, 2) := by decide +kernel
theorem dX8_isShown_57 : decode cX8_isShown 57 = .ok (.imul, 1) := by decide +kernel
theorem dX8_isShown_58 : decode cX8_isShown 58 = .ok (.iconst 2, 1) := by decide +kernel
theorem dX8_isShown_59 : decode cX8_isShown 59 = .ok (.iadd, 1) := by decide +kernel
theorem dX8_isShown_60 : decode cX8_isShown 60 = .ok (.iaload, 1) := by decide +kernel
theorem dX8_isShown_61 : decode cX8_isShown 61 = .ok (.ifCond .le 37, 3) := by decide +kernel
theorem dX8_isShown_64 : decode cX8_isShown 64 = .ok (.aload_n 0, 1) := by decide +kernel
theorem dX8_isShown_65 : decode cX8_isShown 65 = .ok (.getfield 51, 3) := by decide +kernel
theorem dX8_isShown_68 : decode cX8_isShown 68 = .ok (.iconst 4, 1) := by decide +kernel
theorem dX8_isShown_69 : decode cX8_isShown 69 = .ok (.iload 4, 2) := by decide +kernel
theorem dX8_isShown_71 : decode cX8_isShown 71 = .ok (.imul, 1) := by decide +kernel
theorem dX8_isShown_72 : decode cX8_isShown 72 = .ok (.iload_n 2, 1) := by decide +kernel
theorem dX8_isShown_73 : decode cX8_isShown 73 = .ok (.aload_n 0, 1) := by decide +kernel
theorem dX8_isShown_74 : decode cX8_isShown 74 = .ok (.iload 4, 2) := by decide +kernel
theorem dX8_isShown_76 : decode cX8_isShown 76 = .ok (.iconst 0, 1) := by decide +kernel
theorem dX8_isShown_77 : decode cX8_isShown 77 = .ok (.invokevirtual 137, 3) := by decide +kernel
theorem dX8_isShown_80 : decode cX8_isShown 80 = .ok (.isub, 1) := by decide +kernel
theorem dX8_isShown_81 : decode cX8_isShown 81 = .ok (.iload_n 3, 1) := by decide +kernel
theorem dX8_isShown_82 : decode cX8_isShown 82 = .ok (.aload_n 0, 1) := by decide +kernel
theorem dX8_isShown_83 : decode cX8_isShown 83 = .ok (.iload 4, 2) := by decide +kernel
theorem dX8_isShown_85 : decode cX8_isShown 85 = .ok (.iconst 1, 1) := by decide +kernel
theorem dX8_isShown_86 : decode cX8_isShown 86 = .ok (.invokevirtual 137, 3) := by decide +kernel
theorem dX8_isShown_89 : decode cX8_isShown 89 = .ok (.isub, 1) := by decide +kernel
theorem dX8_isShown_90 : decode cX8_isShown 90 = .ok (.invokestatic 141, 3) := by decide +kernel
theorem dX8_isShown_93 : decode cX8_isShown 93 = .ok (.ifCond .ne 5, 3) := by decide +kernel
theorem dX8_isShown_96 : decode cX8_isShown 96 = .ok (.iconst 0, 1) := by decide +kernel
theorem dX8_isShown_97 : decode cX8_isShown 97 = .ok (.ireturn, 1) := by decide +kernel
theorem dX8_isShown_98 : decode cX8_isShown 98 = .ok (.iload 4, 2) := by decide +kernel
theorem dX8_isShown_100 : decode cX8_isShown 100 = .ok (.iload_n 1, 1) := by decide +kernel
theorem dX8_isShown_101 : decode cX8_isShown 101 = .ok (.if_icmp .eq 34, 3) := by decide +kernel
theorem dX8_isShown_104 : decode cX8_isShown 104 = .ok (.aload_n 0, 1) := by decide +kernel
theorem dX8_isShown_105 : decode cX8_isShown 105 = .ok (.getfield 48, 3) := by decide +kernel
theorem dX8_isShown_108 : decode cX8_isShown 108 = .ok (.iload 4, 2) := by decide +kernel
theorem dX8_isShown_110 : decode cX8_isShown 110 = .ok (.baload, 1) := by decide +kernel
theorem dX8_isShown_111 : decode cX8_isShown 111 = .ok (.ifCond .eq 24, 3) := by decide +kernel
theorem dX8_isShown_114 : decode cX8_isShown 114 = .ok (.aload_n 0, 1) := by decide +kernel
theorem dX8_isShown_115 : decode cX8_isShown 115 = .ok (.aload_n 0, 1) := by decide +kernel
theorem dX8_isShown_116 : decode cX8_isShown 116 = .ok (.getfield 27, 3) := by decide +kernel
theorem dX8_isShown_119 : decode cX8_isShown 119 = .ok (.bipush 40, 2) := by decide +kernel
theorem dX8_isShown_121 : decode cX8_isShown 121 = .ok (.iload 4, 2) := by decide +kernel
theorem dX8_isShown_123 : decode cX8_isShown 123 = .ok (.imul, 1) := by decide +kernel
theorem dX8_isShown_124 : decode cX8_isShown 124 = .ok (.iaload, 1) := by decide +kernel
theorem dX8_isShown_125 : decode cX8_isShown 125 = .ok (.iload_n 2, 1) := by decide +kernel
theorem dX8_isShown_126 : decode cX8_isShown 126 = .ok (.iload_n 3, 1) := by decide +kernel
theorem dX8_isShown_127 : decode cX8_isShown 127 = .ok (.invokevirtual 151, 3) := by decide +kernel
theorem dX8_isShown_130 : decode cX8_isShown 130 = .ok (.ifCond .ne 5, 3) := by decide +kernel
theorem dX8_isShown_133 : decode cX8_isShown 133 = .ok (.iconst 0, 1) := by decide +kernel
theorem dX8_isShown_134 : decode cX8_isShown 134 = .ok (.ireturn, 1) := by decide +kernel
theorem dX8_isShown_135 : decode cX8_isShown 135 = .ok (.aload_n 0, 1) := by decide +kernel
theorem dX8_isShown_136 : decode cX8_isShown 136 = .ok (.getfield 21, 3) := by decide +kernel
theorem dX8_isShown_139 : decode cX8_isShown 139 = .ok (.iload 4, 2) := by decide +kernel
theorem dX8_isShown_141 : decode cX8_isShown 141 = .ok (.iaload, 1) := by decide +kernel
theorem dX8_isShown_142 : decode cX8_isShown 142 = .ok (.istore 4, 2) := by decide +kernel
theorem dX8_isShown_144 : decode cX8_isShown 144 = .ok (.goto (-121), 3) := by decide +kernel
theorem dX8_isShown_147 : decode cX8_isShown 147 = .ok (.iconst 1, 1) := by decide +kernel
theorem dX8_isShown_148 : decode cX8_isShown 148 = .ok (.ireturn, 1) := by decide +kernel
set_option maxRecDepth 20000 in
theorem ggX8_valueOf_X8_isShown : GoodIn wsX8_valueOf wsX8_isShown := goodIn_r _ [8, 9, 10, 11, 12, 13, 14, 15, 16, 7, 17, 18, 19, 20, 21, 22, 23, 24, 25, 26, 27, 28, 29, 30, 31, 32, 33, 34, 35, 36, 37, 38, 39, 40, 41, 42, 43, 44, 45, 46, 47, 48, 59, 60, 61, 62, 63, 64, 65, 66, 67, 68, 69, 70, 71, 72, 73, 74, 75, 76, 77] (by decide +kernel) (by decide +kernel)
set_option maxRecDepth 20000 in
theorem gX8_valueOf_X8_isShown : GoodIn wsX8_valueOf (wsV RX8 157 RX8 yX8_isShown wsX8_isShown) := goodIn_app (goodIn_of _ (by decide +kernel)) ggX8_valueOf_X8_isShown
set_option maxRecDepth 20000 in
theorem ggX8_valueOf_X8_strength : GoodIn wsX8_valueOf wsX8_strength := goodIn_r _ [52, 13, 53, 49, 50, 51, 7, 59, 60, 61, 62, 63, 64, 65, 66, 67, 68, 69, 70, 71, 72, 73, 74, 75, 76, 77] (by decide +kernel) (by decide +kernel)
set_option maxRecDepth 20000 in
theorem gX8_valueOf_X8_strength : GoodIn wsX8_valueOf (wsV RX8 115 RX8 yX8_strength wsX8_strength) := goodIn_app (goodIn_of _ (by decide +kernel)) ggX8_valueOf_X8_strength
set_option maxRecDepth 20000 in
theorem ggX8_valueOf_X8_fillOf : GoodIn wsX8_valueOf wsX8_fillOf := goodIn_r _ [57, 58, 13, 59, 60, 61, 62, 63, 64, 65, 66, 67, 68, 69, 70, 71, 72, 73, 74, 75, 76, 77] (by decide +kernel) (by decide +kernel)
set_option maxRecDepth 20000 in
theorem gX8_valueOf_X8_fillOf : GoodIn wsX8_valueOf (wsV RX8 118 RX8 yX8_fillOf wsX8_fillOf) := goodIn_app (goodIn_of _ (by decide +kernel)) ggX8_valueOf_X8_fillOf
theorem dX8_valueOf_0 : decode cX8_valueOf 0 = .ok (.aload_n 0, 1) := by decide +kernel
theorem dX8_valueOf_1 : decode cX8_valueOf 1 = .ok (.getfield 132, 3) := by decide +kernel
theorem dX8_valueOf_4 : decode cX8_valueOf 4 = .ok (.istore_n 3, 1) := by decide +kernel
theorem dX8_valueOf_5 : decode cX8_valueOf 5 = .ok (.iconst 0, 1) := by decide +kernel
theorem dX8_valueOf_6 : decode cX8_valueOf 6 = .ok (.istore 4, 2) := by decide +kernel
theorem dX8_valueOf_8 : decode cX8_valueOf 8 = .ok (.iload 4, 2) := by decide +kernel
theorem dX8_valueOf_10 : decode cX8_valueOf 10 = .ok (.aload_n 0, 1) := by decide +kernel
theorem dX8_valueOf_11 : decode cX8_valueOf 11 = .ok (.getfield 98, 3) := by decide +kernel
theorem dX8_valueOf_14 : decode cX8_valueOf 14 = .ok (.if_icmp .ge 61, 3) := by decide +kernel
theorem dX8_valueOf_17 : decode cX8_valueOf 17 = .ok (.aload_n 0, 1) := by decide +kernel
theorem dX8_valueOf_18 : decode cX8_valueOf 18 = .ok (.getfield 57, 3) := by decide +kernel
theorem dX8_valueOf_21 : decode cX8_valueOf 21 = .ok (.iload 4, 2) := by decide +kernel
theorem dX8_valueOf_23 : decode cX8_valueOf 23 = .ok (.iaload, 1) := by decide +kernel
theorem dX8_valueOf_24 : decode cX8_valueOf 24 = .ok (.istore 5, 2) := by decide +kernel
theorem dX8_valueOf_26 : decode cX8_valueOf 26 = .ok (.aload_n 0, 1) := by decide +kernel
theorem dX8_valueOf_27 : decode cX8_valueOf 27 = .ok (.iload 5, 2) := by decide +kernel
theorem dX8_valueOf_29 : decode cX8_valueOf 29 = .ok (.iload_n 1, 1) := by decide +kernel
theorem dX8_valueOf_30 : decode cX8_valueOf 30 = .ok (.iload_n 2, 1) := by decide +kernel
theorem dX8_valueOf_31 : decode cX8_valueOf 31 = .ok (.invokevirtual 157, 3) := by decide +kernel
theorem dX8_valueOf_34 : decode cX8_valueOf 34 = .ok (.ifCond .ne 6, 3) := by decide +kernel
theorem dX8_valueOf_37 : decode cX8_valueOf 37 = .ok (.goto 32, 3) := by decide +kernel
theorem dX8_valueOf_40 : decode cX8_valueOf 40 = .ok (.aload_n 0, 1) := by decide +kernel
theorem dX8_valueOf_41 : decode cX8_valueOf 41 = .ok (.iload 5, 2) := by decide +kernel
theorem dX8_valueOf_43 : decode cX8_valueOf 43 = .ok (.invokevirtual 115, 3) := by decide +kernel
theorem dX8_valueOf_46 : decode cX8_valueOf 46 = .ok (.istore 6, 2) := by decide +kernel
theorem dX8_valueOf_48 : decode cX8_valueOf 48 = .ok (.iload_n 3, 1) := by decide +kernel
theorem dX8_valueOf_49 : decode cX8_valueOf 49 = .ok (.bipush 8, 2) := by decide +kernel
theorem dX8_valueOf_51 : decode cX8_valueOf 51 = .ok (.iload 6, 2) := by decide +kernel
theorem dX8_valueOf_53 : decode cX8_valueOf 53 = .ok (.isub, 1) := by decide +kernel
theorem dX8_valueOf_54 : decode cX8_valueOf 54 = .ok (.imul, 1) := by decide +kernel
theorem dX8_valueOf_55 : decode cX8_valueOf 55 = .ok (.aload_n 0, 1) := by decide +kernel
theorem dX8_valueOf_56 : decode cX8_valueOf 56 = .ok (.iload 5, 2) := by decide +kernel
theorem dX8_valueOf_58 : decode cX8_valueOf 58 = .ok (.invokevirtual 118, 3) := by decide +kernel
theorem dX8_valueOf_61 : decode cX8_valueOf 61 = .ok (.iload 6, 2) := by decide +kernel
theorem dX8_valueOf_63 : decode cX8_valueOf 63 = .ok (.imul, 1) := by decide +kernel
theorem dX8_valueOf_64 : decode cX8_valueOf 64 = .ok (.iadd, 1) := by decide +kernel
theorem dX8_valueOf_65 : decode cX8_valueOf 65 = .ok (.bipush 8, 2) := by decide +kernel
theorem dX8_valueOf_67 : decode cX8_valueOf 67 = .ok (.idiv, 1) := by decide +kernel
theorem dX8_valueOf_68 : decode cX8_valueOf 68 = .ok (.istore_n 3, 1) := by decide +kernel
theorem dX8_valueOf_69 : decode cX8_valueOf 69 = .ok (.iinc 4 1, 3) := by decide +kernel
theorem dX8_valueOf_72 : decode cX8_valueOf 72 = .ok (.goto (-64), 3) := by decide +kernel
theorem dX8_valueOf_75 : decode cX8_valueOf 75 = .ok (.iload_n 3, 1) := by decide +kernel
theorem dX8_valueOf_76 : decode cX8_valueOf 76 = .ok (.ireturn, 1) := by decide +kernel
set_option maxRecDepth 20000 in
theorem ggX8_value_X8_isPixel : GoodIn wsX8_value wsX8_isPixel := goodIn_r _ [5, 6, 7, 4, 8] (by decide +kernel) (by decide +kernel)
set_option maxRecDepth 20000 in
theorem gX8_value_X8_isPixel : GoodIn wsX8_value (va_wsS RX8 160 yX8_isPixel wsX8_isPixel) := goodIn_app (goodIn_of _ (by decide +kernel)) ggX8_value_X8_isPixel
set_option maxRecDepth 20000 in
theorem ggX8_value_X8_fail : GoodIn wsX8_value wsX8_fail := goodIn_r _ [12, 1, 79, 80, 81, 82, 83, 84, 85, 86, 87, 88, 89, 90, 91, 92, 93, 94, 95, 96, 97] (by decide +kernel) (by decide +kernel)
set_option maxRecDepth 20000 in
theorem gX8_value_X8_fail : GoodIn wsX8_value (wsV RX8 71 RX8 yX8_fail wsX8_fail) := goodIn_app (goodIn_of _ (by decide +kernel)) ggX8_value_X8_fail
set_option maxRecDepth 20000 in
theorem ggX8_value_X8_walkAll : GoodIn wsX8_value wsX8_walkAll := goodIn_r _ [16, 17, 18, 19, 20, 4, 21, 22, 23, 24, 79, 80, 81, 82, 83, 84, 85, 86, 87, 88, 89, 90, 91, 92, 93, 94, 95, 96, 97] (by decide +kernel) (by decide +kernel)
set_option maxRecDepth 20000 in
theorem gX8_value_X8_walkAll : GoodIn wsX8_value (wsV RX8 108 RX8 yX8_walkAll wsX8_walkAll) := goodIn_app (goodIn_of _ (by decide +kernel)) ggX8_value_X8_walkAll
set_option maxRecDepth 20000 in
theorem ggX8_value_X8_valueOf : GoodIn wsX8_value wsX8_valueOf := goodIn_r _ [28, 29, 17, 22, 30, 31, 32, 4, 33, 34, 35, 36, 24, 37, 38, 39, 40, 41, 42, 43, 44, 45, 46, 47, 48, 49, 50, 51, 52, 53, 54, 55, 56, 6, 7, 8, 57, 58, 59, 60, 61, 62, 63, 64, 65, 66, 67, 68, 23, 69, 70, 71, 72, 73, 74, 75, 76, 77, 78, 79, 80, 81, 82, 83, 84, 85, 86, 87, 88, 89, 90, 91, 92, 93, 94, 95, 96, 97] (by decide +kernel) (by decide +kernel)
set_option maxRecDepth 20000 in
theorem gX8_value_X8_valueOf : GoodIn wsX8_value (wsV RX8 163 RX8 yX8_valueOf wsX8_valueOf) := goodIn_app (goodIn_of _ (by decide +kernel)) ggX8_value_X8_valueOf
theorem dX8_value_0 : decode cX8_value 0 = .ok (.aload_n 0, 1) := by decide +kernel
theorem dX8_value_1 : decode cX8_value 1 = .ok (.iconst 0, 1) := by decide +kernel
theorem dX8_value_2 : decode cX8_value 2 = .ok (.putfield 60, 3) := by decide +kernel
theorem dX8_value_5 : decode cX8_value 5 = .ok (.iload_n 1, 1) := by decide +kernel
theorem dX8_value_6 : decode cX8_value 6 = .ok (.iload_n 2, 1) := by decide +kernel
theorem dX8_value_7 : decode cX8_value 7 = .ok (.invokestatic 160, 3) := by decide +kernel
theorem dX8_value_10 : decode cX8_value 10 = .ok (.ifCond .ne 9, 3) := by decide +kernel
theorem dX8_value_13 : decode cX8_value 13 = .ok (.aload_n 0, 1) := by decide +kernel
theorem dX8_value_14 : decode cX8_value 14 = .ok (.iconst 1, 1) := by decide +kernel
theorem dX8_value_15 : decode cX8_value 15 = .ok (.invokevirtual 71, 3) := by decide +kernel
theorem dX8_value_18 : decode cX8_value 18 = .ok (.ireturn, 1) := by decide +kernel
theorem dX8_value_19 : decode cX8_value 19 = .ok (.aload_n 0, 1) := by decide +kernel
theorem dX8_value_20 : decode cX8_value 20 = .ok (.iconst 0, 1) := by decide +kernel
theorem dX8_value_21 : decode cX8_value 21 = .ok (.invokevirtual 108, 3) := by decide +kernel
theorem dX8_value_24 : decode cX8_value 24 = .ok (.aload_n 0, 1) := by decide +kernel
theorem dX8_value_25 : decode cX8_value 25 = .ok (.iload_n 1, 1) := by decide +kernel
theorem dX8_value_26 : decode cX8_value 26 = .ok (.iload_n 2, 1) := by decide +kernel
theorem dX8_value_27 : decode cX8_value 27 = .ok (.invokevirtual 163, 3) := by decide +kernel
theorem dX8_value_30 : decode cX8_value 30 = .ok (.ireturn, 1) := by decide +kernel
set_option maxRecDepth 20000 in
theorem ggX8_hit_X8_isPixel : GoodIn wsX8_hit wsX8_isPixel := goodIn_r _ [7, 8, 9, 6, 10] (by decide +kernel) (by decide +kernel)
set_option maxRecDepth 20000 in
theorem gX8_hit_X8_isPixel : GoodIn wsX8_hit (va_wsS RX8 160 yX8_isPixel wsX8_isPixel) := goodIn_app (goodIn_of _ (by decide +kernel)) ggX8_hit_X8_isPixel
set_option maxRecDepth 20000 in
theorem ggX8_hit_X8_fail : GoodIn wsX8_hit wsX8_fail := goodIn_r _ [14, 1, 69, 70, 71, 72, 73, 74, 75, 76, 77, 78, 79, 80, 81, 82, 83, 84, 85, 86, 87] (by decide +kernel) (by decide +kernel)
set_option maxRecDepth 20000 in
theorem gX8_hit_X8_fail : GoodIn wsX8_hit (wsV RX8 71 RX8 yX8_fail wsX8_fail) := goodIn_app (goodIn_of _ (by decide +kernel)) ggX8_hit_X8_fail
set_option maxRecDepth 20000 in
theorem ggX8_hit_X8_walkAll : GoodIn wsX8_hit wsX8_walkAll := goodIn_r _ [18, 2, 19, 20, 21, 6, 22, 3, 23, 24, 69, 70, 71, 72, 73, 74, 75, 76, 77, 78, 79, 80, 81, 82, 83, 84, 85, 86, 87] (by decide +kernel) (by decide +kernel)
set_option maxRecDepth 20000 in
theorem gX8_hit_X8_walkAll : GoodIn wsX8_hit (wsV RX8 108 RX8 yX8_walkAll wsX8_walkAll) := goodIn_app (goodIn_of _ (by decide +kernel)) ggX8_hit_X8_walkAll
set_option maxRecDepth 20000 in
theorem ggX8_hit_X8_isShown : GoodIn wsX8_hit wsX8_isShown := goodIn_r _ [28, 29, 30, 31, 24, 32, 33, 34, 35, 6, 36, 37, 38, 39, 40, 41, 42, 43, 44, 45, 46, 47, 48, 49, 50, 51, 8, 9, 10, 52, 53, 54, 55, 56, 57, 58, 59, 60, 61, 62, 63, 23, 69, 70, 71, 72, 73, 74, 75, 76, 77, 78, 79, 80, 81, 82, 83, 84, 85, 86, 87] (by decide +kernel) (by decide +kernel)
set_option maxRecDepth 20000 in
theorem gX8_hit_X8_isShown : GoodIn wsX8_hit (wsV RX8 157 RX8 yX8_isShown wsX8_isShown) := goodIn_app (goodIn_of _ (by decide +kernel)) ggX8_hit_X8_isShown
set_option maxRecDepth 20000 in
theorem ggX8_hit_X8_strength : GoodIn wsX8_hit wsX8_strength := goodIn_r _ [67, 32, 68, 64, 65, 66, 6, 69, 70, 71, 72, 73, 74, 75, 76, 77, 78, 79, 80, 81, 82, 83, 84, 85, 86, 87] (by decide +kernel) (by decide +kernel)
set_option maxRecDepth 20000 in
theorem gX8_hit_X8_strength : GoodIn wsX8_hit (wsV RX8 115 RX8 yX8_strength wsX8_strength) := goodIn_app (goodIn_of _ (by decide +kernel)) ggX8_hit_X8_strength
theorem dX8_hit_0 : decode cX8_hit 0 = .ok (.aload_n 0, 1) := by decide +kernel
theorem dX8_hit_1 : decode cX8_hit 1 = .ok (.iconst 0, 1) := by decide +kernel
theorem dX8_hit_2 : decode cX8_hit 2 = .ok (.putfield 60, 3) := by decide +kernel
theorem dX8_hit_5 : decode cX8_hit 5 = .ok (.iload_n 1, 1) := by decide +kernel
theorem dX8_hit_6 : decode cX8_hit 6 = .ok (.iload_n 2, 1) := by decide +kernel
theorem dX8_hit_7 : decode cX8_hit 7 = .ok (.invokestatic 160, 3) := by decide +kernel
theorem dX8_hit_10 : decode cX8_hit 10 = .ok (.ifCond .ne 9, 3) := by decide +kernel
theorem dX8_hit_13 : decode cX8_hit 13 = .ok (.aload_n 0, 1) := by decide +kernel
theorem dX8_hit_14 : decode cX8_hit 14 = .ok (.iconst 1, 1) := by decide +kernel
theorem dX8_hit_15 : decode cX8_hit 15 = .ok (.invokevirtual 71, 3) := by decide +kernel
theorem dX8_hit_18 : decode cX8_hit 18 = .ok (.ireturn, 1) := by decide +kernel
theorem dX8_hit_19 : decode cX8_hit 19 = .ok (.aload_n 0, 1) := by decide +kernel
theorem dX8_hit_20 : decode cX8_hit 20 = .ok (.iconst 0, 1) := by decide +kernel
theorem dX8_hit_21 : decode cX8_hit 21 = .ok (.invokevirtual 108, 3) := by decide +kernel
theorem dX8_hit_24 : decode cX8_hit 24 = .ok (.aload_n 0, 1) := by decide +kernel
theorem dX8_hit_25 : decode cX8_hit 25 = .ok (.getfield 98, 3) := by decide +kernel
theorem dX8_hit_28 : decode cX8_hit 28 = .ok (.iconst 1, 1) := by decide +kernel
theorem dX8_hit_29 : decode cX8_hit 29 = .ok (.isub, 1) := by decide +kernel
theorem dX8_hit_30 : decode cX8_hit 30 = .ok (.istore_n 3, 1) := by decide +kernel
theorem dX8_hit_31 : decode cX8_hit 31 = .ok (.iload_n 3, 1) := by decide +kernel
theorem dX8_hit_32 : decode cX8_hit 32 = .ok (.ifCond .lt 44, 3) := by decide +kernel
theorem dX8_hit_35 : decode cX8_hit 35 = .ok (.aload_n 0, 1) := by decide +kernel
theorem dX8_hit_36 : decode cX8_hit 36 = .ok (.aload_n 0, 1) := by decide +kernel
theorem dX8_hit_37 : decode cX8_hit 37 = .ok (.getfield 57, 3) := by decide +kernel
theorem dX8_hit_40 : decode cX8_hit 40 = .ok (.iload_n 3, 1) := by decide +kernel
theorem dX8_hit_41 : decode cX8_hit 41 = .ok (.iaload, 1) := by decide +kernel
theorem dX8_hit_42 : decode cX8_hit 42 = .ok (.iload_n 1, 1) := by decide +kernel
theorem dX8_hit_43 : decode cX8_hit 43 = .ok (.iload_n 2, 1) := by decide +kernel
theorem dX8_hit_44 : decode cX8_hit 44 = .ok (.invokevirtual 157, 3) := by decide +kernel
theorem dX8_hit_47 : decode cX8_hit 47 = .ok (.ifCond .eq 23, 3) := by decide +kernel
theorem dX8_hit_50 : decode cX8_hit 50 = .ok (.aload_n 0, 1) := by decide +kernel
theorem dX8_hit_51 : decode cX8_hit 51 = .ok (.aload_n 0, 1) := by decide +kernel
theorem dX8_hit_52 : decode cX8_hit 52 = .ok (.getfield 57, 3) := by decide +kernel
theorem dX8_hit_55 : decode cX8_hit 55 = .ok (.iload_n 3, 1) := by decide +kernel
theorem dX8_hit_56 : decode cX8_hit 56 = .ok (.iaload, 1) := by decide +kernel
theorem dX8_hit_57 : decode cX8_hit 57 = .ok (.invokevirtual 115, 3) := by decide +kernel
theorem dX8_hit_60 : decode cX8_hit 60 = .ok (.ifCond .le 10, 3) := by decide +kernel
theorem dX8_hit_63 : decode cX8_hit 63 = .ok (.aload_n 0, 1) := by decide +kernel
theorem dX8_hit_64 : decode cX8_hit 64 = .ok (.getfield 57, 3) := by decide +kernel
theorem dX8_hit_67 : decode cX8_hit 67 = .ok (.iload_n 3, 1) := by decide +kernel
theorem dX8_hit_68 : decode cX8_hit 68 = .ok (.iaload, 1) := by decide +kernel
theorem dX8_hit_69 : decode cX8_hit 69 = .ok (.ireturn, 1) := by decide +kernel
theorem dX8_hit_70 : decode cX8_hit 70 = .ok (.iinc 3 (-1), 3) := by decide +kernel
theorem dX8_hit_73 : decode cX8_hit 73 = .ok (.goto (-42), 3) := by decide +kernel
theorem dX8_hit_76 : decode cX8_hit 76 = .ok (.iconst (-1), 1) := by decide +kernel
theorem dX8_hit_77 : decode cX8_hit 77 = .ok (.ireturn, 1) := by decide +kernel
set_option maxRecDepth 20000 in
theorem ggX8_showsOne_X8_isShown : GoodIn wsX8_showsOne wsX8_isShown := goodIn_r _ [7, 8, 9, 10, 11, 12, 13, 14, 15, 6, 16, 17, 18, 19, 20, 21, 22, 23, 24, 25, 26, 27, 28, 29, 30, 31, 32, 33, 34, 35, 36, 37, 38, 39, 40, 41, 42, 43, 44, 45, 46, 47, 48, 49, 50, 51, 52, 53, 54, 55, 56, 57, 58, 59, 60, 61, 62, 63, 64, 65, 66] (by decide +kernel) (by decide +kernel)
set_option maxRecDepth 20000 in
theorem gX8_showsOne_X8_isShown : GoodIn wsX8_showsOne (wsV RX8 157 RX8 yX8_isShown wsX8_isShown) := goodIn_app (goodIn_of _ (by decide +kernel)) ggX8_showsOne_X8_isShown
theorem dX8_showsOne_0 : decode cX8_showsOne 0 = .ok (.iconst 0, 1) := by decide +kernel
theorem dX8_showsOne_1 : decode cX8_showsOne 1 = .ok (.istore_n 3, 1) := by decide +kernel
theorem dX8_showsOne_2 : decode cX8_showsOne 2 = .ok (.iconst 0, 1) := by decide +kernel
theorem dX8_showsOne_3 : decode cX8_showsOne 3 = .ok (.istore 4, 2) := by decide +kernel
theorem dX8_showsOne_5 : decode cX8_showsOne 5 = .ok (.iload 4, 2) := by decide +kernel
theorem dX8_showsOne_7 : decode cX8_showsOne 7 = .ok (.aload_n 0, 1) := by decide +kernel
theorem dX8_showsOne_8 : decode cX8_showsOne 8 = .ok (.getfield 98, 3) := by decide +kernel
theorem dX8_showsOne_11 : decode cX8_showsOne 11 = .ok (.if_icmp .ge 27, 3) := by decide +kernel
theorem dX8_showsOne_14 : decode cX8_showsOne 14 = .ok (.iload_n 3, 1) := by decide +kernel
theorem dX8_showsOne_15 : decode cX8_showsOne 15 = .ok (.ifCond .ne 23, 3) := by decide +kernel
theorem dX8_showsOne_18 : decode cX8_showsOne 18 = .ok (.aload_n 0, 1) := by decide +kernel
theorem dX8_showsOne_19 : decode cX8_showsOne 19 = .ok (.aload_n 0, 1) := by decide +kernel
theorem dX8_showsOne_20 : decode cX8_showsOne 20 = .ok (.getfield 57, 3) := by decide +kernel
theorem dX8_showsOne_23 : decode cX8_showsOne 23 = .ok (.iload 4, 2) := by decide +kernel
theorem dX8_showsOne_25 : decode cX8_showsOne 25 = .ok (.iaload, 1) := by decide +kernel
theorem dX8_showsOne_26 : decode cX8_showsOne 26 = .ok (.iload_n 1, 1) := by decide +kernel
theorem dX8_showsOne_27 : decode cX8_showsOne 27 = .ok (.iload_n 2, 1) := by decide +kernel
theorem dX8_showsOne_28 : decode cX8_showsOne 28 = .ok (.invokevirtual 157, 3) := by decide +kernel
theorem dX8_showsOne_31 : decode cX8_showsOne 31 = .ok (.istore_n 3, 1) := by decide +kernel
theorem dX8_showsOne_32 : decode cX8_showsOne 32 = .ok (.iinc 4 1, 3) := by decide +kernel
theorem dX8_showsOne_35 : decode cX8_showsOne 35 = .ok (.goto (-30), 3) := by decide +kernel
theorem dX8_showsOne_38 : decode cX8_showsOne 38 = .ok (.iload_n 3, 1) := by decide +kernel
theorem dX8_showsOne_39 : decode cX8_showsOne 39 = .ok (.ireturn, 1) := by decide +kernel
set_option maxRecDepth 20000 in
theorem ggX8_shows_X8_isNode : GoodIn wsX8_shows wsX8_isNode := goodIn_r _ [6, 7, 8, 9, 10, 5, 11, 70, 71, 72, 73, 74, 75, 76, 77, 78, 79, 80, 81, 82, 83, 84, 85, 86, 87, 88] (by decide +kernel) (by decide +kernel)
set_option maxRecDepth 20000 in
theorem gX8_shows_X8_isNode : GoodIn wsX8_shows (wsV RX8 67 RX8 yX8_isNode wsX8_isNode) := goodIn_app (goodIn_of _ (by decide +kernel)) ggX8_shows_X8_isNode
set_option maxRecDepth 20000 in
theorem ggX8_shows_X8_isPixel : GoodIn wsX8_shows wsX8_isPixel := goodIn_r _ [14, 9, 10, 5, 11] (by decide +kernel) (by decide +kernel)
set_option maxRecDepth 20000 in
theorem gX8_shows_X8_isPixel : GoodIn wsX8_shows (va_wsS RX8 160 yX8_isPixel wsX8_isPixel) := goodIn_app (goodIn_of _ (by decide +kernel)) ggX8_shows_X8_isPixel
set_option maxRecDepth 20000 in
theorem ggX8_shows_X8_walkAll : GoodIn wsX8_shows wsX8_walkAll := goodIn_r _ [18, 19, 20, 21, 22, 5, 23, 24, 25, 26, 70, 71, 72, 73, 74, 75, 76, 77, 78, 79, 80, 81, 82, 83, 84, 85, 86, 87, 88] (by decide +kernel) (by decide +kernel)
set_option maxRecDepth 20000 in
theorem gX8_shows_X8_walkAll : GoodIn wsX8_shows (wsV RX8 108 RX8 yX8_walkAll wsX8_walkAll) := goodIn_app (goodIn_of _ (by decide +kernel)) ggX8_shows_X8_walkAll
set_option maxRecDepth 20000 in
theorem ggX8_shows_X8_showsOne : GoodIn wsX8_shows wsX8_showsOne := goodIn_r _ [30, 19, 24, 31, 32, 33, 5, 34, 35, 36, 37, 26, 38, 39, 40, 41, 42, 43, 44, 45, 46, 47, 48, 49, 50, 51, 52, 53, 54, 55, 56, 57, 9, 10, 11, 58, 59, 60, 61, 62, 63, 64, 65, 66, 67, 68, 69, 25, 70, 71, 72, 73, 74, 75, 76, 77, 78, 79, 80, 81, 82, 83, 84, 85, 86, 87, 88] (by decide +kernel) (by decide +kernel)
set_option maxRecDepth 20000 in
theorem gX8_shows_X8_showsOne : GoodIn wsX8_shows (wsV RX8 166 RX8 yX8_showsOne wsX8_showsOne) := goodIn_app (goodIn_of _ (by decide +kernel)) ggX8_shows_X8_showsOne
theorem dX8_shows_0 : decode cX8_shows 0 = .ok (.aload_n 0, 1) := by decide +kernel
theorem dX8_shows_1 : decode cX8_shows 1 = .ok (.aload_n 0, 1) := by decide +kernel
theorem dX8_shows_2 : decode cX8_shows 2 = .ok (.iload_n 1, 1) := by decide +kernel
theorem dX8_shows_3 : decode cX8_shows 3 = .ok (.invokevirtual 67, 3) := by decide +kernel
theorem dX8_shows_6 : decode cX8_shows 6 = .ok (.ifCond .eq 15, 3) := by decide +kernel
theorem dX8_shows_9 : decode cX8_shows 9 = .ok (.iload_n 2, 1) := by decide +kernel
theorem dX8_shows_10 : decode cX8_shows 10 = .ok (.iload_n 3, 1) := by decide +kernel
theorem dX8_shows_11 : decode cX8_shows 11 = .ok (.invokestatic 160, 3) := by decide +kernel
theorem dX8_shows_14 : decode cX8_shows 14 = .ok (.ifCond .eq 7, 3) := by decide +kernel
theorem dX8_shows_17 : decode cX8_shows 17 = .ok (.iconst 0, 1) := by decide +kernel
theorem dX8_shows_18 : decode cX8_shows 18 = .ok (.goto 4, 3) := by decide +kernel
theorem dX8_shows_21 : decode cX8_shows 21 = .ok (.iconst 1, 1) := by decide +kernel
theorem dX8_shows_22 : decode cX8_shows 22 = .ok (.putfield 60, 3) := by decide +kernel
theorem dX8_shows_25 : decode cX8_shows 25 = .ok (.aload_n 0, 1) := by decide +kernel
theorem dX8_shows_26 : decode cX8_shows 26 = .ok (.getfield 60, 3) := by decide +kernel
theorem dX8_shows_29 : decode cX8_shows 29 = .ok (.ifCond .eq 5, 3) := by decide +kernel
theorem dX8_shows_32 : decode cX8_shows 32 = .ok (.iconst 0, 1) := by decide +kernel
theorem dX8_shows_33 : decode cX8_shows 33 = .ok (.ireturn, 1) := by decide +kernel
theorem dX8_shows_34 : decode cX8_shows 34 = .ok (.aload_n 0, 1) := by decide +kernel
theorem dX8_shows_35 : decode cX8_shows 35 = .ok (.iload_n 1, 1) := by decide +kernel
theorem dX8_shows_36 : decode cX8_shows 36 = .ok (.invokevirtual 108, 3) := by decide +kernel
theorem dX8_shows_39 : decode cX8_shows 39 = .ok (.aload_n 0, 1) := by decide +kernel
theorem dX8_shows_40 : decode cX8_shows 40 = .ok (.iload_n 2, 1) := by decide +kernel
theorem dX8_shows_41 : decode cX8_shows 41 = .ok (.iload_n 3, 1) := by decide +kernel
theorem dX8_shows_42 : decode cX8_shows 42 = .ok (.invokevirtual 166, 3) := by decide +kernel
theorem dX8_shows_45 : decode cX8_shows 45 = .ok (.ireturn, 1) := by decide +kernel
set_option maxRecDepth 20000 in
theorem ggX8_extent_X8_isNode : GoodIn wsX8_extent wsX8_isNode := goodIn_r _ [14, 15, 16, 17, 18, 13, 19, 79, 80, 81, 82, 83, 84, 85, 86, 87, 88, 89, 90, 91, 92, 93, 94, 95, 96, 97] (by decide +kernel) (by decide +kernel)
set_option maxRecDepth 20000 in
theorem gX8_extent_X8_isNode : GoodIn wsX8_extent (wsV RX8 67 RX8 yX8_isNode wsX8_isNode) := goodIn_app (goodIn_of _ (by decide +kernel)) ggX8_extent_X8_isNode
set_option maxRecDepth 20000 in
theorem ggX8_extent_X8_isIn : GoodIn wsX8_extent wsX8_isIn := goodIn_r _ [19] (by decide +kernel) (by decide +kernel)
set_option maxRecDepth 20000 in
theorem gX8_extent_X8_isIn : GoodIn wsX8_extent (va_wsS RX8 63 yX8_isIn wsX8_isIn) := goodIn_app (goodIn_of _ (by decide +kernel)) ggX8_extent_X8_isIn
set_option maxRecDepth 20000 in
theorem ggX8_extent_X8_fail : GoodIn wsX8_extent wsX8_fail := goodIn_r _ [23, 1, 79, 80, 81, 82, 83, 84, 85, 86, 87, 88, 89, 90, 91, 92, 93, 94, 95, 96, 97] (by decide +kernel) (by decide +kernel)
set_option maxRecDepth 20000 in
theorem gX8_extent_X8_fail : GoodIn wsX8_extent (wsV RX8 71 RX8 yX8_fail wsX8_fail) := goodIn_app (goodIn_of _ (by decide +kernel)) ggX8_extent_X8_fail
set_option maxRecDepth 20000 in
theorem ggX8_extent_X8_walkAll : GoodIn wsX8_extent wsX8_walkAll := goodIn_r _ [27, 28, 29, 30, 31, 13, 32, 33, 34, 35, 79, 80, 81, 82, 83, 84, 85, 86, 87, 88, 89, 90, 91, 92, 93, 94, 95, 96, 97] (by decide +kernel) (by decide +kernel)
set_option maxRecDepth 20000 in
theorem gX8_extent_X8_walkAll : GoodIn wsX8_extent (wsV RX8 108 RX8 yX8_walkAll wsX8_walkAll) := goodIn_app (goodIn_of _ (by decide +kernel)) ggX8_extent_X8_walkAll
set_option maxRecDepth 20000 in
theorem ggX8_extent_X8_showsOne : GoodIn wsX8_extent wsX8_showsOne := goodIn_r _ [39, 28, 33, 40, 41, 42, 13, 43, 44, 45, 46, 35, 47, 48, 49, 50, 51, 52, 53, 54, 55, 56, 57, 58, 59, 60, 61, 62, 63, 64, 65, 66, 17, 18, 19, 67, 68, 69, 70, 71, 72, 73, 74, 75, 76, 77, 78, 34, 79, 80, 81, 82, 83, 84, 85, 86, 87, 88, 89, 90, 91, 92, 93, 94, 95, 96, 97] (by decide +kernel) (by decide +kernel)
set_option maxRecDepth 20000 in
theorem gX8_extent_X8_showsOne : GoodIn wsX8_extent (wsV RX8 166 RX8 yX8_showsOne wsX8_showsOne) := goodIn_app (goodIn_of _ (by decide +kernel)) ggX8_extent_X8_showsOne
theorem dX8_extent_0 : decode cX8_extent 0 = .ok (.aload_n 0, 1) := by decide +kernel
theorem dX8_extent_1 : decode cX8_extent 1 = .ok (.iconst 0, 1) := by decide +kernel
theorem dX8_extent_2 : decode cX8_extent 2 = .ok (.putfield 60, 3) := by decide +kernel
theorem dX8_extent_5 : decode cX8_extent 5 = .ok (.aload_n 0, 1) := by decide +kernel
theorem dX8_extent_6 : decode cX8_extent 6 = .ok (.iload_n 1, 1) := by decide +kernel
theorem dX8_extent_7 : decode cX8_extent 7 = .ok (.invokevirtual 67, 3) := by decide +kernel
theorem dX8_extent_10 : decode cX8_extent 10 = .ok (.ifCond .eq 12, 3) := by decide +kernel
theorem dX8_extent_13 : decode cX8_extent 13 = .ok (.iload_n 2, 1) := by decide +kernel
theorem dX8_extent_14 : decode cX8_extent 14 = .ok (.iconst 0, 1) := by decide +kernel
theorem dX8_extent_15 : decode cX8_extent 15 = .ok (.iconst 4, 1) := by decide +kernel
theorem dX8_extent_16 : decode cX8_extent 16 = .ok (.invokestatic 63, 3) := by decide +kernel
theorem dX8_extent_19 : decode cX8_extent 19 = .ok (.ifCond .ne 9, 3) := by decide +kernel
theorem dX8_extent_22 : decode cX8_extent 22 = .ok (.aload_n 0, 1) := by decide +kernel
theorem dX8_extent_23 : decode cX8_extent 23 = .ok (.iconst 1, 1) := by decide +kernel
theorem dX8_extent_24 : decode cX8_extent 24 = .ok (.invokevirtual 71, 3) := by decide +kernel
theorem dX8_extent_27 : decode cX8_extent 27 = .ok (.ireturn, 1) := by decide +kernel
theorem dX8_extent_28 : decode cX8_extent 28 = .ok (.aload_n 0, 1) := by decide +kernel
theorem dX8_extent_29 : decode cX8_extent 29 = .ok (.iload_n 1, 1) := by decide +kernel
theorem dX8_extent_30 : decode cX8_extent 30 = .ok (.invokevirtual 108, 3) := by decide +kernel
theorem dX8_extent_33 : decode cX8_extent 33 = .ok (.iconst 5, 1) := by decide +kernel
theorem dX8_extent_34 : decode cX8_extent 34 = .ok (.newarray .int, 2) := by decide +kernel
theorem dX8_extent_36 : decode cX8_extent 36 = .ok (.dup, 1) := by decide +kernel
theorem dX8_extent_37 : decode cX8_extent 37 = .ok (.iconst 0, 1) := by decide +kernel
theorem dX8_extent_38 : decode cX8_extent 38 = .ok (.iconst 0, 1) := by decide +kernel
theorem dX8_extent_39 : decode cX8_extent 39 = .ok (.iastore, 1) := by decide +kernel
theorem dX8_extent_40 : decode cX8_extent 40 = .ok (.dup, 1) := by decide +kernel
theorem dX8_extent_41 : decode cX8_extent 41 = .ok (.iconst 1, 1) := by decide +kernel
theorem dX8_extent_42 : decode cX8_extent 42 = .ok (.iconst (-1), 1) := by decide +kernel
theorem dX8_extent_43 : decode cX8_extent 43 = .ok (.iastore, 1) := by decide +kernel
theorem dX8_extent_44 : decode cX8_extent 44 = .ok (.dup, 1) := by decide +kernel
theorem dX8_extent_45 : decode cX8_extent 45 = .ok (.iconst 2, 1) := by decide +kernel
theorem dX8_extent_46 : decode cX8_extent 46 = .ok (.iconst (-1), 1) := by decide +kernel
theorem dX8_extent_47 : decode cX8_extent 47 = .ok (.iastore, 1) := by decide +kernel
theorem dX8_extent_48 : decode cX8_extent 48 = .ok (.dup, 1) := by decide +kernel
theorem dX8_extent_49 : decode cX8_extent 49 = .ok (.iconst 3, 1) := by decide +kernel
theorem dX8_extent_50 : decode cX8_extent 50 = .ok (.iconst (-1), 1) := by decide +kernel
theorem dX8_extent_51 : decode cX8_extent 51 = .ok (.iastore, 1) := by decide +kernel
theorem dX8_extent_52 : decode cX8_extent 52 = .ok (.dup, 1) := by decide +kernel
theorem dX8_extent_53 : decode cX8_extent 53 = .ok (.iconst 4, 1) := by decide +kernel
theorem dX8_extent_54 : decode cX8_extent 54 = .ok (.iconst (-1), 1) := by decide +kernel
theorem dX8_extent_55 : decode cX8_extent 55 = .ok (.iastore, 1) := by decide +kernel
theorem dX8_extent_56 : decode cX8_extent 56 = .ok (.astore_n 3, 1) := by decide +kernel
theorem dX8_extent_57 : decode cX8_extent 57 = .ok (.iconst 0, 1) := by decide +kernel
theorem dX8_extent_58 : decode cX8_extent 58 = .ok (.istore 4, 2) := by decide +kernel
theorem dX8_extent_60 : decode cX8_extent 60 = .ok (.iload 4, 2) := by decide +kernel
theorem dX8_extent_62 : decode cX8_extent 62 = .ok (.bipush 64, 2) := by decide +kernel
theorem dX8_extent_64 : decode cX8_extent 64 = .ok (.if_icmp .ge 101, 3) := by decide +kernel
theorem dX8_extent_67 : decode cX8_extent 67 = .ok (.iconst 0, 1) := by decide +kernel
theorem dX8_extent_68 : decode cX8_extent 68 = .ok (.istore 5, 2) := by decide +kernel
theorem dX8_extent_70 : decode cX8_extent 70 = .ok (.iload 5, 2) := by decide +kernel
theorem dX8_extent_72 : decode cX8_extent 72 = .ok (.bipush 48, 2) := by decide +kernel
theorem dX8_extent_74 : decode cX8_extent 74 = .ok (.if_icmp .ge 85, 3) := by decide +kernel
theorem dX8_extent_77 : decode cX8_extent 77 = .ok (.aload_n 0, 1) := by decide +kernel
theorem dX8_extent_78 : decode cX8_extent 78 = .ok (.iload 4, 2) := by decide +kernel
theorem dX8_extent_80 : decode cX8_extent 80 = .ok (.iload 5, 2) := by decide +kernel
theorem dX8_extent_82 : decode cX8_extent 82 = .ok (.invokevirtual 166, 3) := by decide +kernel
theorem dX8_extent_85 : decode cX8_extent 85 = .ok (.ifCond .ne 6, 3) := by decide +kernel
theorem dX8_extent_88 : decode cX8_extent 88 = .ok (.goto 65, 3) := by decide +kernel
theorem dX8_extent_91 : decode cX8_extent 91 = .ok (.aload_n 3, 1) := by decide +kernel
theorem dX8_extent_92 : decode cX8_extent 92 = .ok (.iconst 1, 1) := by decide +kernel
theorem dX8_extent_93 : decode cX8_extent 93 = .ok (.aload_n 3, 1) := by decide +kernel
theorem dX8_extent_94 : decode cX8_extent 94 = .ok (.iconst 0, 1) := by decide +kernel
theorem dX8_extent_95 : decode cX8_extent 95 = .ok (.iaload, 1) := by decide +kernel
theorem dX8_extent_96 : decode cX8_extent 96 = .ok (.ifCond .ne 8, 3) := by decide +kernel
theorem dX8_extent_99 : decode cX8_extent 99 = .ok (.iload 4, 2) := by decide +kernel
theorem dX8_extent_101 : decode cX8_extent 101 = .ok (.goto 6, 3) := by decide +kernel
theorem dX8_extent_104 : decode cX8_extent 104 = .ok (.aload_n 3, 1) := by decide +kernel
theorem dX8_extent_105 : decode cX8_extent 105 = .ok (.iconst 1, 1) := by decide +kernel
theorem dX8_extent_106 : decode cX8_extent 106 = .ok (.iaload, 1) := by decide +kernel
theorem dX8_extent_107 : decode cX8_extent 107 = .ok (.iastore, 1) := by decide +kernel
theorem dX8_extent_108 : decode cX8_extent 108 = .ok (.aload_n 3, 1) := by decide +kernel
theorem dX8_extent_109 : decode cX8_extent 109 = .ok (.iconst 2, 1) := by decide +kernel
theorem dX8_extent_110 : decode cX8_extent 110 = .ok (.iload 4, 2) := by decide +kernel
theorem dX8_extent_112 : decode cX8_extent 112 = .ok (.iastore, 1) := by decide +kernel
theorem dX8_extent_113 : decode cX8_extent 113 = .ok (.aload_n 3, 1) := by decide +kernel
theorem dX8_extent_114 : decode cX8_extent 114 = .ok (.iconst 3, 1) := by decide +kernel
theorem dX8_extent_115 : decode cX8_extent 115 = .ok (.aload_n 3, 1) := by decide +kernel
theorem dX8_extent_116 : decode cX8_extent 116 = .ok (.iconst 0, 1) := by decide +kernel
theorem dX8_extent_117 : decode cX8_extent 117 = .ok (.iaload, 1) := by decide +kernel
theorem dX8_extent_118 : decode cX8_extent 118 = .ok (.ifCond .ne 8, 3) := by decide +kernel
theorem dX8_extent_121 : decode cX8_extent 121 = .ok (.iload 5, 2) := by decide +kernel
theorem dX8_extent_123 : decode cX8_extent 123 = .ok (.goto 11, 3) := by decide +kernel
theorem dX8_extent_126 : decode cX8_extent 126 = .ok (.aload_n 3, 1) := by decide +kernel
theorem dX8_extent_127 : decode cX8_extent 127 = .ok (.iconst 3, 1) := by decide +kernel
theorem dX8_extent_128 : decode cX8_extent 128 = .ok (.iaload, 1) := by decide +kernel
theorem dX8_extent_129 : decode cX8_extent 129 = .ok (.iload 5, 2) := by decide +kernel
theorem dX8_extent_131 : decode cX8_extent 131 = .ok (.invokestatic 169, 3) := by decide +kernel
theorem dX8_extent_134 : decode cX8_extent 134 = .ok (.iastore, 1) := by decide +kernel
theorem dX8_extent_135 : decode cX8_extent 135 = .ok (.aload_n 3, 1) := by decide +kernel
theorem dX8_extent_136 : decode cX8_extent 136 = .ok (.iconst 4, 1) := by decide +kernel
theorem dX8_extent_137 : decode cX8_extent 137 = .ok (.aload_n 3, 1) := by decide +kernel
theorem dX8_extent_138 : decode cX8_extent 138 = .ok (.iconst 4, 1) := by decide +kernel
theorem dX8_extent_139 : decode cX8_extent 139 = .ok (.iaload, 1) := by decide +kernel
theorem dX8_extent_140 : decode cX8_extent 140 = .ok (.iload 5, 2) := by decide +kernel
theorem dX8_extent_142 : decode cX8_extent 142 = .ok (.invokestatic 174, 3) := by decide +kernel
theorem dX8_extent_145 : decode cX8_extent 145 = .ok (.iastore, 1) := by decide +kernel
theorem dX8_extent_146 : decode cX8_extent 146 = .ok (.aload_n 3, 1) := by decide +kernel
theorem dX8_extent_147 : decode cX8_extent 147 = .ok (.iconst 0, 1) := by decide +kernel
theorem dX8_extent_148 : decode cX8_extent 148 = .ok (.dup2, 1) := by decide +kernel
theorem dX8_extent_149 : decode cX8_extent 149 = .ok (.iaload, 1) := by decide +kernel
theorem dX8_extent_150 : decode cX8_extent 150 = .ok (.iconst 1, 1) := by decide +kernel
theorem dX8_extent_151 : decode cX8_extent 151 = .ok (.iadd, 1) := by decide +kernel
theorem dX8_extent_152 : decode cX8_extent 152 = .ok (.iastore, 1) := by decide +kernel
theorem dX8_extent_153 : decode cX8_extent 153 = .ok (.iinc 5 1, 3) := by decide +kernel
theorem dX8_extent_156 : decode cX8_extent 156 = .ok (.goto (-86), 3) := by decide +kernel
theorem dX8_extent_159 : decode cX8_extent 159 = .ok (.iinc 4 1, 3) := by decide +kernel
theorem dX8_extent_162 : decode cX8_extent 162 = .ok (.goto (-102), 3) := by decide +kernel
theorem dX8_extent_165 : decode cX8_extent 165 = .ok (.aload_n 3, 1) := by decide +kernel
theorem dX8_extent_166 : decode cX8_extent 166 = .ok (.iload_n 2, 1) := by decide +kernel
theorem dX8_extent_167 : decode cX8_extent 167 = .ok (.iaload, 1) := by decide +kernel
theorem dX8_extent_168 : decode cX8_extent 168 = .ok (.ireturn, 1) := by decide +kernel
set_option maxRecDepth 20000 in
theorem ggX8_changes_X8_valueOf : GoodIn wsX8_changes wsX8_valueOf := goodIn_r _ [6, 7, 8, 9, 10, 11, 12, 5, 13, 14, 15, 16, 17, 18, 19, 20, 21, 22, 23, 24, 25, 26, 27, 28, 29, 30, 31, 32, 33, 34, 35, 36, 37, 38, 39, 40, 41, 42, 43, 44, 45, 46, 47, 48, 49, 50, 51, 52, 53, 54, 55, 56, 57, 58, 59, 60, 61, 62, 63, 64, 65, 66, 67, 68, 69, 70, 71, 72, 73, 74, 75, 76, 77, 78, 79, 80, 81, 82] (by decide +kernel) (by decide +kernel)
set_option maxRecDepth 20000 in
theorem gX8_changes_X8_valueOf : GoodIn wsX8_changes (wsV RX8 163 RX8 yX8_valueOf wsX8_valueOf) := goodIn_app (goodIn_of _ (by decide +kernel)) ggX8_changes_X8_valueOf
theorem dX8_changes_0 : decode cX8_changes 0 = .ok (.iconst 0, 1) := by decide +kernel
theorem dX8_changes_1 : decode cX8_changes 1 = .ok (.istore_n 2, 1) := by decide +kernel
theorem dX8_changes_2 : decode cX8_changes 2 = .ok (.iconst 0, 1) := by decide +kernel
theorem dX8_changes_3 : decode cX8_changes 3 = .ok (.istore_n 3, 1) := by decide +kernel
theorem dX8_changes_4 : decode cX8_changes 4 = .ok (.iload_n 3, 1) := by decide +kernel
theorem dX8_changes_5 : decode cX8_changes 5 = .ok (.bipush 64, 2) := by decide +kernel
theorem dX8_changes_7 : decode cX8_changes 7 = .ok (.if_icmp .ge 69, 3) := by decide +kernel
theorem dX8_changes_10 : decode cX8_changes 10 = .ok (.bipush 8, 2) := by decide +kernel
theorem dX8_changes_12 : decode cX8_changes 12 = .ok (.iload_n 1, 1) := by decide +kernel
theorem dX8_changes_13 : decode cX8_changes 13 = .ok (.bipush 8, 2) := by decide +kernel
theorem dX8_changes_15 : decode cX8_changes 15 = .ok (.irem, 1) := by decide +kernel
theorem dX8_changes_16 : decode cX8_changes 16 = .ok (.imul, 1) := by decide +kernel
theorem dX8_changes_17 : decode cX8_changes 17 = .ok (.iload_n 3, 1) := by decide +kernel
theorem dX8_changes_18 : decode cX8_changes 18 = .ok (.bipush 8, 2) := by decide +kernel
theorem dX8_changes_20 : decode cX8_changes 20 = .ok (.irem, 1) := by decide +kernel
theorem dX8_changes_21 : decode cX8_changes 21 = .ok (.iadd, 1) := by decide +kernel
theorem dX8_changes_22 : decode cX8_changes 22 = .ok (.istore 4, 2) := by decide +kernel
theorem dX8_changes_24 : decode cX8_changes 24 = .ok (.bipush 8, 2) := by decide +kernel
theorem dX8_changes_26 : decode cX8_changes 26 = .ok (.iload_n 1, 1) := by decide +kernel
theorem dX8_changes_27 : decode cX8_changes 27 = .ok (.bipush 8, 2) := by decide +kernel
theorem dX8_changes_29 : decode cX8_changes 29 = .ok (.idiv, 1) := by decide +kernel
theorem dX8_changes_30 : decode cX8_changes 30 = .ok (.imul, 1) := by decide +kernel
theorem dX8_changes_31 : decode cX8_changes 31 = .ok (.iload_n 3, 1) := by decide +kernel
theorem dX8_changes_32 : decode cX8_changes 32 = .ok (.bipush 8, 2) := by decide +kernel
theorem dX8_changes_34 : decode cX8_changes 34 = .ok (.idiv, 1) := by decide +kernel
theorem dX8_changes_35 : decode cX8_changes 35 = .ok (.iadd, 1) := by decide +kernel
theorem dX8_changes_36 : decode cX8_changes 36 = .ok (.istore 5, 2) := by decide +kernel
theorem dX8_changes_38 : decode cX8_changes 38 = .ok (.iload_n 2, 1) := by decide +kernel
theorem dX8_changes_39 : decode cX8_changes 39 = .ok (.aload_n 0, 1) := by decide +kernel
theorem dX8_changes_40 : decode cX8_changes 40 = .ok (.iload 4, 2) := by decide +kernel
theorem dX8_changes_42 : decode cX8_changes 42 = .ok (.iload 5, 2) := by decide +kernel
theorem dX8_changes_44 : decode cX8_changes 44 = .ok (.invokevirtual 163, 3) := by decide +kernel
theorem dX8_changes_47 : decode cX8_changes 47 = .ok (.aload_n 0, 1) := by decide +kernel
theorem dX8_changes_48 : decode cX8_changes 48 = .ok (.getfield 54, 3) := by decide +kernel
theorem dX8_changes_51 : decode cX8_changes 51 = .ok (.bipush 64, 2) := by decide +kernel
theorem dX8_changes_53 : decode cX8_changes 53 = .ok (.iload 5, 2) := by decide +kernel
theorem dX8_changes_55 : decode cX8_changes 55 = .ok (.imul, 1) := by decide +kernel
theorem dX8_changes_56 : decode cX8_changes 56 = .ok (.iload 4, 2) := by decide +kernel
theorem dX8_changes_58 : decode cX8_changes 58 = .ok (.iadd, 1) := by decide +kernel
theorem dX8_changes_59 : decode cX8_changes 59 = .ok (.iaload, 1) := by decide +kernel
theorem dX8_changes_60 : decode cX8_changes 60 = .ok (.if_icmp .ne 7, 3) := by decide +kernel
theorem dX8_changes_63 : decode cX8_changes 63 = .ok (.iconst 0, 1) := by decide +kernel
theorem dX8_changes_64 : decode cX8_changes 64 = .ok (.goto 4, 3) := by decide +kernel
theorem dX8_changes_67 : decode cX8_changes 67 = .ok (.iconst 1, 1) := by decide +kernel
theorem dX8_changes_68 : decode cX8_changes 68 = .ok (.iadd, 1) := by decide +kernel
theorem dX8_changes_69 : decode cX8_changes 69 = .ok (.istore_n 2, 1) := by decide +kernel
theorem dX8_changes_70 : decode cX8_changes 70 = .ok (.iinc 3 1, 3) := by decide +kernel
theorem dX8_changes_73 : decode cX8_changes 73 = .ok (.goto (-69), 3) := by decide +kernel
theorem dX8_changes_76 : decode cX8_changes 76 = .ok (.iload_n 2, 1) := by decide +kernel
theorem dX8_changes_77 : decode cX8_changes 77 = .ok (.ireturn, 1) := by decide +kernel
set_option maxRecDepth 20000 in
theorem ggX8_changed_X8_isIn : GoodIn wsX8_changed wsX8_isIn := goodIn_r _ [5] (by decide +kernel) (by decide +kernel)
set_option maxRecDepth 20000 in
theorem gX8_changed_X8_isIn : GoodIn wsX8_changed (va_wsS RX8 63 yX8_isIn wsX8_isIn) := goodIn_app (goodIn_of _ (by decide +kernel)) ggX8_changed_X8_isIn
set_option maxRecDepth 20000 in
theorem ggX8_changed_X8_fail : GoodIn wsX8_changed wsX8_fail := goodIn_r _ [9, 1, 81, 82, 83, 84, 85, 86, 87, 88, 89, 90, 91, 92, 93, 94, 95, 96, 97, 98, 99] (by decide +kernel) (by decide +kernel)
set_option maxRecDepth 20000 in
theorem gX8_changed_X8_fail : GoodIn wsX8_changed (wsV RX8 71 RX8 yX8_fail wsX8_fail) := goodIn_app (goodIn_of _ (by decide +kernel)) ggX8_changed_X8_fail
set_option maxRecDepth 20000 in
theorem ggX8_changed_X8_walkAll : GoodIn wsX8_changed wsX8_walkAll := goodIn_r _ [13, 14, 15, 16, 17, 4, 18, 19, 20, 21, 81, 82, 83, 84, 85, 86, 87, 88, 89, 90, 91, 92, 93, 94, 95, 96, 97, 98, 99] (by decide +kernel) (by decide +kernel)
set_option maxRecDepth 20000 in
theorem gX8_changed_X8_walkAll : GoodIn wsX8_changed (wsV RX8 108 RX8 yX8_walkAll wsX8_walkAll) := goodIn_app (goodIn_of _ (by decide +kernel)) ggX8_changed_X8_walkAll
set_option maxRecDepth 20000 in
theorem ggX8_changed_X8_changes : GoodIn wsX8_changed wsX8_changes := goodIn_r _ [25, 26, 27, 28, 29, 4, 30, 31, 14, 19, 32, 33, 34, 35, 36, 37, 38, 21, 39, 40, 41, 42, 43, 44, 45, 46, 47, 48, 49, 50, 51, 52, 53, 54, 55, 56, 57, 58, 2, 3, 5, 59, 60, 61, 62, 63, 64, 65, 66, 67, 68, 69, 70, 20, 71, 72, 73, 74, 75, 76, 77, 78, 79, 80, 81, 82, 83, 84, 85, 86, 87, 88, 89, 90, 91, 92, 93, 94, 95, 96, 97, 98, 99] (by decide +kernel) (by decide +kernel)
set_option maxRecDepth 20000 in
theorem gX8_changed_X8_changes : GoodIn wsX8_changed (wsV RX8 177 RX8 yX8_changes wsX8_changes) := goodIn_app (goodIn_of _ (by decide +kernel)) ggX8_changed_X8_changes
theorem dX8_changed_0 : decode cX8_changed 0 = .ok (.aload_n 0, 1) := by decide +kernel
theorem dX8_changed_1 : decode cX8_changed 1 = .ok (.iconst 0, 1) := by decide +kernel
theorem dX8_changed_2 : decode cX8_changed 2 = .ok (.putfield 60, 3) := by decide +kernel
theorem dX8_changed_5 : decode cX8_changed 5 = .ok (.iload_n 1, 1) := by decide +kernel
theorem dX8_changed_6 : decode cX8_changed 6 = .ok (.iconst 0, 1) := by decide +kernel
theorem dX8_changed_7 : decode cX8_changed 7 = .ok (.bipush 47, 2) := by decide +kernel
theorem dX8_changed_9 : decode cX8_changed 9 = .ok (.invokestatic 63, 3) := by decide +kernel
theorem dX8_changed_12 : decode cX8_changed 12 = .ok (.ifCond .ne 9, 3) := by decide +kernel
theorem dX8_changed_15 : decode cX8_changed 15 = .ok (.aload_n 0, 1) := by decide +kernel
theorem dX8_changed_16 : decode cX8_changed 16 = .ok (.iconst 1, 1) := by decide +kernel
theorem dX8_changed_17 : decode cX8_changed 17 = .ok (.invokevirtual 71, 3) := by decide +kernel
theorem dX8_changed_20 : decode cX8_changed 20 = .ok (.ireturn, 1) := by decide +kernel
theorem dX8_changed_21 : decode cX8_changed 21 = .ok (.aload_n 0, 1) := by decide +kernel
theorem dX8_changed_22 : decode cX8_changed 22 = .ok (.iconst 0, 1) := by decide +kernel
theorem dX8_changed_23 : decode cX8_changed 23 = .ok (.invokevirtual 108, 3) := by decide +kernel
theorem dX8_changed_26 : decode cX8_changed 26 = .ok (.aload_n 0, 1) := by decide +kernel
theorem dX8_changed_27 : decode cX8_changed 27 = .ok (.iload_n 1, 1) := by decide +kernel
theorem dX8_changed_28 : decode cX8_changed 28 = .ok (.invokevirtual 177, 3) := by decide +kernel
theorem dX8_changed_31 : decode cX8_changed 31 = .ok (.ireturn, 1) := by decide +kernel
set_option maxRecDepth 20000 in
theorem ggX8_dirty_X8_walkAll : GoodIn wsX8_dirty wsX8_walkAll := goodIn_r _ [5, 6, 7, 8, 9, 4, 10, 11, 12, 13, 76, 77, 78, 79, 80, 81, 82, 83, 84, 85, 86, 87, 88, 89, 90, 91, 92, 93, 94] (by decide +kernel) (by decide +kernel)
set_option maxRecDepth 20000 in
theorem gX8_dirty_X8_walkAll : GoodIn wsX8_dirty (wsV RX8 108 RX8 yX8_walkAll wsX8_walkAll) := goodIn_app (goodIn_of _ (by decide +kernel)) ggX8_dirty_X8_walkAll
set_option maxRecDepth 20000 in
theorem ggX8_dirty_X8_changes : GoodIn wsX8_dirty wsX8_changes := goodIn_r _ [17, 18, 19, 20, 21, 4, 22, 23, 6, 11, 24, 25, 26, 27, 28, 29, 30, 13, 31, 32, 33, 34, 35, 36, 37, 38, 39, 40, 41, 42, 43, 44, 45, 46, 47, 48, 49, 50, 51, 52, 53, 54, 55, 56, 57, 58, 59, 60, 61, 62, 63, 64, 65, 12, 66, 67, 68, 69, 70, 71, 72, 73, 74, 75, 76, 77, 78, 79, 80, 81, 82, 83, 84, 85, 86, 87, 88, 89, 90, 91, 92, 93, 94] (by decide +kernel) (by decide +kernel)
set_option maxRecDepth 20000 in
theorem gX8_dirty_X8_changes : GoodIn wsX8_dirty (wsV RX8 177 RX8 yX8_changes wsX8_changes) := goodIn_app (goodIn_of _ (by decide +kernel)) ggX8_dirty_X8_changes
theorem dX8_dirty_0 : decode cX8_dirty 0 = .ok (.aload_n 0, 1) := by decide +kernel
theorem dX8_dirty_1 : decode cX8_dirty 1 = .ok (.iconst 0, 1) := by decide +kernel
theorem dX8_dirty_2 : decode cX8_dirty 2 = .ok (.invokevirtual 108, 3) := by decide +kernel
theorem dX8_dirty_5 : decode cX8_dirty 5 = .ok (.iconst 0, 1) := by decide +kernel
theorem dX8_dirty_6 : decode cX8_dirty 6 = .ok (.istore_n 1, 1) := by decide +kernel
theorem dX8_dirty_7 : decode cX8_dirty 7 = .ok (.iconst 0, 1) := by decide +kernel
theorem dX8_dirty_8 : decode cX8_dirty 8 = .ok (.istore_n 2, 1) := by decide +kernel
theorem dX8_dirty_9 : decode cX8_dirty 9 = .ok (.iload_n 2, 1) := by decide +kernel
theorem dX8_dirty_10 : decode cX8_dirty 10 = .ok (.bipush 48, 2) := by decide +kernel
theorem dX8_dirty_12 : decode cX8_dirty 12 = .ok (.if_icmp .ge 25, 3) := by decide +kernel
theorem dX8_dirty_15 : decode cX8_dirty 15 = .ok (.iload_n 1, 1) := by decide +kernel
theorem dX8_dirty_16 : decode cX8_dirty 16 = .ok (.aload_n 0, 1) := by decide +kernel
theorem dX8_dirty_17 : decode cX8_dirty 17 = .ok (.iload_n 2, 1) := by decide +kernel
theorem dX8_dirty_18 : decode cX8_dirty 18 = .ok (.invokevirtual 177, 3) := by decide +kernel
theorem dX8_dirty_21 : decode cX8_dirty 21 = .ok (.ifCond .le 7, 3) := by decide +kernel
theorem dX8_dirty_24 : decode cX8_dirty 24 = .ok (.iconst 1, 1) := by decide +kernel
theorem dX8_dirty_25 : decode cX8_dirty 25 = .ok (.goto 4, 3) := by decide +kernel
theorem dX8_dirty_28 : decode cX8_dirty 28 = .ok (.iconst 0, 1) := by decide +kernel
theorem dX8_dirty_29 : decode cX8_dirty 29 = .ok (.iadd, 1) := by decide +kernel
theorem dX8_dirty_30 : decode cX8_dirty 30 = .ok (.istore_n 1, 1) := by decide +kernel
theorem dX8_dirty_31 : decode cX8_dirty 31 = .ok (.iinc 2 1, 3) := by decide +kernel
theorem dX8_dirty_34 : decode cX8_dirty 34 = .ok (.goto (-25), 3) := by decide +kernel
theorem dX8_dirty_37 : decode cX8_dirty 37 = .ok (.iload_n 1, 1) := by decide +kernel
theorem dX8_dirty_38 : decode cX8_dirty 38 = .ok (.ireturn, 1) := by decide +kernel
set_option maxRecDepth 20000 in
theorem ggX8_paint_X8_dirty : GoodIn wsX8_paint wsX8_dirty := goodIn_r _ [7, 8, 9, 10, 6, 11, 12, 13, 14, 15, 16, 17, 18, 19, 20, 21, 22, 23, 2, 24, 25, 26, 27, 28, 29, 30, 31, 32, 33, 34, 35, 36, 37, 38, 39, 40, 41, 42, 43, 44, 45, 46, 47, 48, 49, 50, 51, 52, 53, 54, 55, 56, 57, 58, 59, 60, 61, 62, 63, 64, 65, 66, 67, 68, 69, 70, 71, 72, 73, 74, 75, 76, 77, 78, 79, 80, 81, 82, 83, 84, 85, 86, 87, 88, 89, 90, 91, 92, 93, 94, 95, 96, 97, 98, 99] (by decide +kernel) (by decide +kernel)
set_option maxRecDepth 20000 in
theorem gX8_paint_X8_dirty : GoodIn wsX8_paint (wsV RX8 180 RX8 yX8_dirty wsX8_dirty) := goodIn_app (goodIn_of _ (by decide +kernel)) ggX8_paint_X8_dirty
set_option maxRecDepth 20000 in
theorem ggX8_paint_X8_valueOf : GoodIn wsX8_paint wsX8_valueOf := goodIn_r _ [27, 28, 12, 17, 29, 30, 31, 6, 32, 33, 34, 35, 19, 36, 37, 38, 39, 40, 41, 42, 43, 44, 45, 46, 47, 48, 49, 50, 51, 52, 53, 54, 55, 56, 57, 58, 59, 60, 61, 62, 63, 64, 65, 66, 67, 68, 69, 70, 18, 71, 72, 73, 74, 75, 76, 77, 78, 79, 80, 81, 82, 83, 84, 85, 86, 87, 88, 89, 90, 91, 92, 93, 94, 95, 96, 97, 98, 99] (by decide +kernel) (by decide +kernel)
set_option maxRecDepth 20000 in
theorem gX8_paint_X8_valueOf : GoodIn wsX8_paint (wsV RX8 163 RX8 yX8_valueOf wsX8_valueOf) := goodIn_app (goodIn_of _ (by decide +kernel)) ggX8_paint_X8_valueOf
theorem dX8_paint_0 : decode cX8_paint 0 = .ok (.aload_n 0, 1) := by decide +kernel
theorem dX8_paint_1 : decode cX8_paint 1 = .ok (.iconst 0, 1) := by decide +kernel
theorem dX8_paint_2 : decode cX8_paint 2 = .ok (.putfield 60, 3) := by decide +kernel
theorem dX8_paint_5 : decode cX8_paint 5 = .ok (.aload_n 0, 1) := by decide +kernel
theorem dX8_paint_6 : decode cX8_paint 6 = .ok (.invokevirtual 180, 3) := by decide +kernel
theorem dX8_paint_9 : decode cX8_paint 9 = .ok (.istore_n 1, 1) := by decide +kernel
theorem dX8_paint_10 : decode cX8_paint 10 = .ok (.iconst 0, 1) := by decide +kernel
theorem dX8_paint_11 : decode cX8_paint 11 = .ok (.istore_n 2, 1) := by decide +kernel
theorem dX8_paint_12 : decode cX8_paint 12 = .ok (.iload_n 2, 1) := by decide +kernel
theorem dX8_paint_13 : decode cX8_paint 13 = .ok (.sipush 3072, 3) := by decide +kernel
theorem dX8_paint_16 : decode cX8_paint 16 = .ok (.if_icmp .ge 27, 3) := by decide +kernel
theorem dX8_paint_19 : decode cX8_paint 19 = .ok (.aload_n 0, 1) := by decide +kernel
theorem dX8_paint_20 : decode cX8_paint 20 = .ok (.getfield 54, 3) := by decide +kernel
theorem dX8_paint_23 : decode cX8_paint 23 = .ok (.iload_n 2, 1) := by decide +kernel
theorem dX8_paint_24 : decode cX8_paint 24 = .ok (.aload_n 0, 1) := by decide +kernel
theorem dX8_paint_25 : decode cX8_paint 25 = .ok (.iload_n 2, 1) := by decide +kernel
theorem dX8_paint_26 : decode cX8_paint 26 = .ok (.bipush 64, 2) := by decide +kernel
theorem dX8_paint_28 : decode cX8_paint 28 = .ok (.irem, 1) := by decide +kernel
theorem dX8_paint_29 : decode cX8_paint 29 = .ok (.iload_n 2, 1) := by decide +kernel
theorem dX8_paint_30 : decode cX8_paint 30 = .ok (.bipush 64, 2) := by decide +kernel
theorem dX8_paint_32 : decode cX8_paint 32 = .ok (.idiv, 1) := by decide +kernel
theorem dX8_paint_33 : decode cX8_paint 33 = .ok (.invokevirtual 163, 3) := by decide +kernel
theorem dX8_paint_36 : decode cX8_paint 36 = .ok (.iastore, 1) := by decide +kernel
theorem dX8_paint_37 : decode cX8_paint 37 = .ok (.iinc 2 1, 3) := by decide +kernel
theorem dX8_paint_40 : decode cX8_paint 40 = .ok (.goto (-28), 3) := by decide +kernel
theorem dX8_paint_43 : decode cX8_paint 43 = .ok (.iload_n 1, 1) := by decide +kernel
theorem dX8_paint_44 : decode cX8_paint 44 = .ok (.ireturn, 1) := by decide +kernel
set_option maxRecDepth 20000 in
theorem ggX8_painted_X8_isPixel : GoodIn wsX8_painted wsX8_isPixel := goodIn_r _ [6, 7, 8, 5, 9] (by decide +kernel) (by decide +kernel)
set_option maxRecDepth 20000 in
theorem gX8_painted_X8_isPixel : GoodIn wsX8_painted (va_wsS RX8 160 yX8_isPixel wsX8_isPixel) := goodIn_app (goodIn_of _ (by decide +kernel)) ggX8_painted_X8_isPixel
set_option maxRecDepth 20000 in
theorem ggX8_painted_X8_fail : GoodIn wsX8_painted wsX8_fail := goodIn_r _ [13, 1, 14, 15, 16, 17, 18, 19, 20, 21, 22, 23, 24, 25, 26, 27, 28, 29, 30, 31, 32] (by decide +kernel) (by decide +kernel)
set_option maxRecDepth 20000 in
theorem gX8_painted_X8_fail : GoodIn wsX8_painted (wsV RX8 71 RX8 yX8_fail wsX8_fail) := goodIn_app (goodIn_of _ (by decide +kernel)) ggX8_painted_X8_fail
theorem dX8_painted_0 : decode cX8_painted 0 = .ok (.aload_n 0, 1) := by decide +kernel
theorem dX8_painted_1 : decode cX8_painted 1 = .ok (.iconst 0, 1) := by decide +kernel
theorem dX8_painted_2 : decode cX8_painted 2 = .ok (.putfield 60, 3) := by decide +kernel
theorem dX8_painted_5 : decode cX8_painted 5 = .ok (.iload_n 1, 1) := by decide +kernel
theorem dX8_painted_6 : decode cX8_painted 6 = .ok (.iload_n 2, 1) := by decide +kernel
theorem dX8_painted_7 : decode cX8_painted 7 = .ok (.invokestatic 160, 3) := by decide +kernel
theorem dX8_painted_10 : decode cX8_painted 10 = .ok (.ifCond .eq 17, 3) := by decide +kernel
theorem dX8_painted_13 : decode cX8_painted 13 = .ok (.aload_n 0, 1) := by decide +kernel
theorem dX8_painted_14 : decode cX8_painted 14 = .ok (.getfield 54, 3) := by decide +kernel
theorem dX8_painted_17 : decode cX8_painted 17 = .ok (.bipush 64, 2) := by decide +kernel
theorem dX8_painted_19 : decode cX8_painted 19 = .ok (.iload_n 2, 1) := by decide +kernel
theorem dX8_painted_20 : decode cX8_painted 20 = .ok (.imul, 1) := by decide +kernel
theorem dX8_painted_21 : decode cX8_painted 21 = .ok (.iload_n 1, 1) := by decide +kernel
theorem dX8_painted_22 : decode cX8_painted 22 = .ok (.iadd, 1) := by decide +kernel
theorem dX8_painted_23 : decode cX8_painted 23 = .ok (.iaload, 1) := by decide +kernel
theorem dX8_painted_24 : decode cX8_painted 24 = .ok (.goto 8, 3) := by decide +kernel
theorem dX8_painted_27 : decode cX8_painted 27 = .ok (.aload_n 0, 1) := by decide +kernel
theorem dX8_painted_28 : decode cX8_painted 28 = .ok (.iconst 1, 1) := by decide +kernel
theorem dX8_painted_29 : decode cX8_painted 29 = .ok (.invokevirtual 71, 3) := by decide +kernel
theorem dX8_painted_32 : decode cX8_painted 32 = .ok (.ireturn, 1) := by decide +kernel
theorem dX8_mean_0 : decode cX8_mean 0 = .ok (.aload_n 0, 1) := by decide +kernel
theorem dX8_mean_1 : decode cX8_mean 1 = .ok (.iconst 0, 1) := by decide +kernel
theorem dX8_mean_2 : decode cX8_mean 2 = .ok (.putfield 60, 3) := by decide +kernel
theorem dX8_mean_5 : decode cX8_mean 5 = .ok (.iconst 0, 1) := by decide +kernel
theorem dX8_mean_6 : decode cX8_mean 6 = .ok (.istore_n 1, 1) := by decide +kernel
theorem dX8_mean_7 : decode cX8_mean 7 = .ok (.iconst 0, 1) := by decide +kernel
theorem dX8_mean_8 : decode cX8_mean 8 = .ok (.istore_n 2, 1) := by decide +kernel
theorem dX8_mean_9 : decode cX8_mean 9 = .ok (.iload_n 2, 1) := by decide +kernel
theorem dX8_mean_10 : decode cX8_mean 10 = .ok (.sipush 3072, 3) := by decide +kernel
theorem dX8_mean_13 : decode cX8_mean 13 = .ok (.if_icmp .ge 18, 3) := by decide +kernel
theorem dX8_mean_16 : decode cX8_mean 16 = .ok (.iload_n 1, 1) := by decide +kernel
theorem dX8_mean_17 : decode cX8_mean 17 = .ok (.aload_n 0, 1) := by decide +kernel
theorem dX8_mean_18 : decode cX8_mean 18 = .ok (.getfield 54, 3) := by decide +kernel
theorem dX8_mean_21 : decode cX8_mean 21 = .ok (.iload_n 2, 1) := by decide +kernel
theorem dX8_mean_22 : decode cX8_mean 22 = .ok (.iaload, 1) := by decide +kernel
theorem dX8_mean_23 : decode cX8_mean 23 = .ok (.iadd, 1) := by decide +kernel
theorem dX8_mean_24 : decode cX8_mean 24 = .ok (.istore_n 1, 1) := by decide +kernel
theorem dX8_mean_25 : decode cX8_mean 25 = .ok (.iinc 2 1, 3) := by decide +kernel
theorem dX8_mean_28 : decode cX8_mean 28 = .ok (.goto (-19), 3) := by decide +kernel
theorem dX8_mean_31 : decode cX8_mean 31 = .ok (.iload_n 1, 1) := by decide +kernel
theorem dX8_mean_32 : decode cX8_mean 32 = .ok (.i2d, 1) := by decide +kernel
theorem dX8_mean_33 : decode cX8_mean 33 = .ok (.ldc2_w 183, 3) := by decide +kernel
theorem dX8_mean_36 : decode cX8_mean 36 = .ok (.ddiv, 1) := by decide +kernel
theorem dX8_mean_37 : decode cX8_mean 37 = .ok (.dreturn, 1) := by decide +kernel
set_option maxRecDepth 20000 in
theorem ggX8_digest_X8_present : GoodIn wsX8_digest wsX8_present := goodIn_r _ [12, 5, 6, 101, 102, 103, 104, 105, 106, 107, 108, 109, 110, 111, 112, 113, 114, 115, 116, 117, 118, 119] (by decide +kernel) (by decide +kernel)
set_option maxRecDepth 20000 in
theorem gX8_digest_X8_present : GoodIn wsX8_digest (wsV RX8 128 RX8 yX8_present wsX8_present) := goodIn_app (goodIn_of _ (by decide +kernel)) ggX8_digest_X8_present
set_option maxRecDepth 20000 in
theorem ggX8_digest_X8_told : GoodIn wsX8_digest wsX8_told := goodIn_r _ [16, 17, 18, 19, 20, 21, 22, 23, 24, 25, 26, 27, 28, 29, 11, 30, 31, 32, 33, 34, 35, 36, 37, 38, 39, 40, 41, 42, 43, 101, 102, 103, 104, 105, 106, 107, 108, 109, 110, 111, 112, 113, 114, 115, 116, 117, 118, 119] (by decide +kernel) (by decide +kernel)
set_option maxRecDepth 20000 in
theorem gX8_digest_X8_told : GoodIn wsX8_digest (wsV RX8 124 RX8 yX8_told wsX8_told) := goodIn_app (goodIn_of _ (by decide +kernel)) ggX8_digest_X8_told
set_option maxRecDepth 20000 in
theorem ggX8_digest_X8_dirty : GoodIn wsX8_digest wsX8_dirty := goodIn_r _ [47, 48, 49, 50, 11, 51, 52, 53, 54, 55, 56, 57, 19, 31, 58, 59, 60, 61, 7, 62, 63, 64, 65, 4, 66, 67, 68, 69, 24, 25, 26, 18, 70, 71, 72, 73, 17, 74, 75, 76, 77, 78, 79, 80, 81, 82, 21, 20, 83, 84, 85, 86, 87, 88, 89, 90, 91, 92, 93, 94, 95, 96, 97, 98, 99, 100, 36, 37, 38, 39, 23, 32, 33, 34, 35, 22, 101, 102, 103, 104, 105, 106, 107, 108, 109, 110, 111, 112, 113, 114, 115, 116, 117, 118, 119] (by decide +kernel) (by decide +kernel)
set_option maxRecDepth 20000 in
theorem gX8_digest_X8_dirty : GoodIn wsX8_digest (wsV RX8 180 RX8 yX8_dirty wsX8_dirty) := goodIn_app (goodIn_of _ (by decide +kernel)) ggX8_digest_X8_dirty
theorem dX8_digest_0 : decode cX8_digest 0 = .ok (.aload_n 0, 1) := by decide +kernel
theorem dX8_digest_1 : decode cX8_digest 1 = .ok (.iconst 0, 1) := by decide +kernel
theorem dX8_digest_2 : decode cX8_digest 2 = .ok (.putfield 60, 3) := by decide +kernel
theorem dX8_digest_5 : decode cX8_digest 5 = .ok (.ldc2_w 185, 3) := by decide +kernel
theorem dX8_digest_8 : decode cX8_digest 8 = .ok (.aload_n 0, 1) := by decide +kernel
theorem dX8_digest_9 : decode cX8_digest 9 = .ok (.invokevirtual 128, 3) := by decide +kernel
theorem dX8_digest_12 : decode cX8_digest 12 = .ok (.i2l, 1) := by decide +kernel
theorem dX8_digest_13 : decode cX8_digest 13 = .ok (.ladd, 1) := by decide +kernel
theorem dX8_digest_14 : decode cX8_digest 14 = .ok (.ldc2_w 187, 3) := by decide +kernel
theorem dX8_digest_17 : decode cX8_digest 17 = .ok (.lmul, 1) := by decide +kernel
theorem dX8_digest_18 : decode cX8_digest 18 = .ok (.aload_n 0, 1) := by decide +kernel
theorem dX8_digest_19 : decode cX8_digest 19 = .ok (.getfield 132, 3) := by decide +kernel
theorem dX8_digest_22 : decode cX8_digest 22 = .ok (.i2l, 1) := by decide +kernel
theorem dX8_digest_23 : decode cX8_digest 23 = .ok (.ladd, 1) := by decide +kernel
theorem dX8_digest_24 : decode cX8_digest 24 = .ok (.lstore_n 1, 1) := by decide +kernel
theorem dX8_digest_25 : decode cX8_digest 25 = .ok (.iconst 0, 1) := by decide +kernel
theorem dX8_digest_26 : decode cX8_digest 26 = .ok (.istore_n 3, 1) := by decide +kernel
theorem dX8_digest_27 : decode cX8_digest 27 = .ok (.iload_n 3, 1) := by decide +kernel
theorem dX8_digest_28 : decode cX8_digest 28 = .ok (.aload_n 0, 1) := by decide +kernel
theorem dX8_digest_29 : decode cX8_digest 29 = .ok (.getfield 7, 3) := by decide +kernel
theorem dX8_digest_32 : decode cX8_digest 32 = .ok (.if_icmp .ge 61, 3) := by decide +kernel
theorem dX8_digest_35 : decode cX8_digest 35 = .ok (.aload_n 0, 1) := by decide +kernel
theorem dX8_digest_36 : decode cX8_digest 36 = .ok (.getfield 13, 3) := by decide +kernel
theorem dX8_digest_39 : decode cX8_digest 39 = .ok (.iload_n 3, 1) := by decide +kernel
theorem dX8_digest_40 : decode cX8_digest 40 = .ok (.baload, 1) := by decide +kernel
theorem dX8_digest_41 : decode cX8_digest 41 = .ok (.ifCond .ne 6, 3) := by decide +kernel
theorem dX8_digest_44 : decode cX8_digest 44 = .ok (.goto 43, 3) := by decide +kernel
theorem dX8_digest_47 : decode cX8_digest 47 = .ok (.lload_n 1, 1) := by decide +kernel
theorem dX8_digest_48 : decode cX8_digest 48 = .ok (.ldc2_w 187, 3) := by decide +kernel
theorem dX8_digest_51 : decode cX8_digest 51 = .ok (.lmul, 1) := by decide +kernel
theorem dX8_digest_52 : decode cX8_digest 52 = .ok (.iload_n 3, 1) := by decide +kernel
theorem dX8_digest_53 : decode cX8_digest 53 = .ok (.i2l, 1) := by decide +kernel
theorem dX8_digest_54 : decode cX8_digest 54 = .ok (.ladd, 1) := by decide +kernel
theorem dX8_digest_55 : decode cX8_digest 55 = .ok (.lstore_n 1, 1) := by decide +kernel
theorem dX8_digest_56 : decode cX8_digest 56 = .ok (.iconst 0, 1) := by decide +kernel
theorem dX8_digest_57 : decode cX8_digest 57 = .ok (.istore 4, 2) := by decide +kernel
theorem dX8_digest_59 : decode cX8_digest 59 = .ok (.iload 4, 2) := by decide +kernel
theorem dX8_digest_61 : decode cX8_digest 61 = .ok (.bipush 13, 2) := by decide +kernel
theorem dX8_digest_63 : decode cX8_digest 63 = .ok (.if_icmp .ge 24, 3) := by decide +kernel
theorem dX8_digest_66 : decode cX8_digest 66 = .ok (.lload_n 1, 1) := by decide +kernel
theorem dX8_digest_67 : decode cX8_digest 67 = .ok (.ldc2_w 187, 3) := by decide +kernel
theorem dX8_digest_70 : decode cX8_digest 70 = .ok (.lmul, 1) := by decide +kernel
theorem dX8_digest_71 : decode cX8_digest 71 = .ok (.aload_n 0, 1) := by decide +kernel
theorem dX8_digest_72 : decode cX8_digest 72 = .ok (.iload_n 3, 1) := by decide +kernel
theorem dX8_digest_73 : decode cX8_digest 73 = .ok (.iload 4, 2) := by decide +kernel
theorem dX8_digest_75 : decode cX8_digest 75 = .ok (.invokevirtual 124, 3) := by decide +kernel
theorem dX8_digest_78 : decode cX8_digest 78 = .ok (.i2l, 1) := by decide +kernel
theorem dX8_digest_79 : decode cX8_digest 79 = .ok (.ladd, 1) := by decide +kernel
theorem dX8_digest_80 : decode cX8_digest 80 = .ok (.lstore_n 1, 1) := by decide +kernel
theorem dX8_digest_81 : decode cX8_digest 81 = .ok (.iinc 4 1, 3) := by decide +kernel
theorem dX8_digest_84 : decode cX8_digest 84 = .ok (.goto (-25), 3) := by decide +kernel
theorem dX8_digest_87 : decode cX8_digest 87 = .ok (.iinc 3 1, 3) := by decide +kernel
theorem dX8_digest_90 : decode cX8_digest 90 = .ok (.goto (-63), 3) := by decide +kernel
theorem dX8_digest_93 : decode cX8_digest 93 = .ok (.iconst 0, 1) := by decide +kernel
theorem dX8_digest_94 : decode cX8_digest 94 = .ok (.istore_n 3, 1) := by decide +kernel
theorem dX8_digest_95 : decode cX8_digest 95 = .ok (.iload_n 3, 1) := by decide +kernel
theorem dX8_digest_96 : decode cX8_digest 96 = .ok (.sipush 3072, 3) := by decide +kernel
theorem dX8_digest_99 : decode cX8_digest 99 = .ok (.if_icmp .ge 23, 3) := by decide +kernel
theorem dX8_digest_102 : decode cX8_digest 102 = .ok (.lload_n 1, 1) := by decide +kernel
theorem dX8_digest_103 : decode cX8_digest 103 = .ok (.ldc2_w 187, 3) := by decide +kernel
theorem dX8_digest_106 : decode cX8_digest 106 = .ok (.lmul, 1) := by decide +kernel
theorem dX8_digest_107 : decode cX8_digest 107 = .ok (.aload_n 0, 1) := by decide +kernel
theorem dX8_digest_108 : decode cX8_digest 108 = .ok (.getfield 54, 3) := by decide +kernel
theorem dX8_digest_111 : decode cX8_digest 111 = .ok (.iload_n 3, 1) := by decide +kernel
theorem dX8_digest_112 : decode cX8_digest 112 = .ok (.iaload, 1) := by decide +kernel
theorem dX8_digest_113 : decode cX8_digest 113 = .ok (.i2l, 1) := by decide +kernel
theorem dX8_digest_114 : decode cX8_digest 114 = .ok (.ladd, 1) := by decide +kernel
theorem dX8_digest_115 : decode cX8_digest 115 = .ok (.lstore_n 1, 1) := by decide +kernel
theorem dX8_digest_116 : decode cX8_digest 116 = .ok (.iinc 3 1, 3) := by decide +kernel
theorem dX8_digest_119 : decode cX8_digest 119 = .ok (.goto (-24), 3) := by decide +kernel
theorem dX8_digest_122 : decode cX8_digest 122 = .ok (.lload_n 1, 1) := by decide +kernel
theorem dX8_digest_123 : decode cX8_digest 123 = .ok (.ldc2_w 187, 3) := by decide +kernel
theorem dX8_digest_126 : decode cX8_digest 126 = .ok (.lmul, 1) := by decide +kernel
theorem dX8_digest_127 : decode cX8_digest 127 = .ok (.aload_n 0, 1) := by decide +kernel
theorem dX8_digest_128 : decode cX8_digest 128 = .ok (.invokevirtual 180, 3) := by decide +kernel
theorem dX8_digest_131 : decode cX8_digest 131 = .ok (.i2l, 1) := by decide +kernel
theorem dX8_digest_132 : decode cX8_digest 132 = .ok (.ladd, 1) := by decide +kernel
theorem dX8_digest_133 : decode cX8_digest 133 = .ok (.lreturn, 1) := by decide +kernel
set_option maxRecDepth 20000 in
theorem ggJ5_init_d00df_J2_newBytesFor_77867 : GoodIn wsJ5_init_d00df wsJ2_newBytesFor_77867 := goodIn_r _ [11, 5, 12, 13, 10, 14, 15] (by decide +kernel) (by decide +kernel)
set_option maxRecDepth 20000 in
theorem gJ5_init_d00df_J2_newBytesFor_77867 : GoodIn wsJ5_init_d00df (va_wsS RJ5 26 yJ2_newBytesFor_77867 wsJ2_newBytesFor_77867) := goodIn_app (goodIn_of _ (by decide +kernel)) ggJ5_init_d00df_J2_newBytesFor_77867

theorem dX0_init_0 : decode cX0_init 0 = .ok (.aload_n 0, 1) := by decide +kernel
theorem dX0_init_1 : decode cX0_init 1 = .ok (.invokespecial 1, 3) := by decide +kernel
theorem dX0_init_4 : decode cX0_init 4 = .ok (.aload_n 0, 1) := by decide +kernel
theorem dX0_init_5 : decode cX0_init 5 = .ok (.iload_n 1, 1) := by decide +kernel
theorem dX0_init_6 : decode cX0_init 6 = .ok (.putfield 7, 3) := by decide +kernel
theorem dX0_init_9 : decode cX0_init 9 = .ok (.aload_n 0, 1) := by decide +kernel
theorem dX0_init_10 : decode cX0_init 10 = .ok (.iload_n 2, 1) := by decide +kernel
theorem dX0_init_11 : decode cX0_init 11 = .ok (.putfield 13, 3) := by decide +kernel
theorem dX0_init_14 : decode cX0_init 14 = .ok (.aload_n 0, 1) := by decide +kernel
theorem dX0_init_15 : decode cX0_init 15 = .ok (.iload_n 1, 1) := by decide +kernel
theorem dX0_init_16 : decode cX0_init 16 = .ok (.iload_n 3, 1) := by decide +kernel
theorem dX0_init_17 : decode cX0_init 17 = .ok (.iadd, 1) := by decide +kernel
theorem dX0_init_18 : decode cX0_init 18 = .ok (.putfield 16, 3) := by decide +kernel
theorem dX0_init_21 : decode cX0_init 21 = .ok (.aload_n 0, 1) := by decide +kernel
theorem dX0_init_22 : decode cX0_init 22 = .ok (.iload_n 2, 1) := by decide +kernel
theorem dX0_init_23 : decode cX0_init 23 = .ok (.iload 4, 2) := by decide +kernel
theorem dX0_init_25 : decode cX0_init 25 = .ok (.iadd, 1) := by decide +kernel
theorem dX0_init_26 : decode cX0_init 26 = .ok (.putfield 19, 3) := by decide +kernel
theorem dX0_init_29 : decode cX0_init 29 = .ok (.return_, 1) := by decide +kernel
theorem dX0_hasRow_0 : decode cX0_hasRow 0 = .ok (.iload_n 1, 1) := by decide +kernel
theorem dX0_hasRow_1 : decode cX0_hasRow 1 = .ok (.aload_n 0, 1) := by decide +kernel
theorem dX0_hasRow_2 : decode cX0_hasRow 2 = .ok (.getfield 13, 3) := by decide +kernel
theorem dX0_hasRow_5 : decode cX0_hasRow 5 = .ok (.if_icmp .lt 15, 3) := by decide +kernel
theorem dX0_hasRow_8 : decode cX0_hasRow 8 = .ok (.iload_n 1, 1) := by decide +kernel
theorem dX0_hasRow_9 : decode cX0_hasRow 9 = .ok (.aload_n 0, 1) := by decide +kernel
theorem dX0_hasRow_10 : decode cX0_hasRow 10 = .ok (.getfield 19, 3) := by decide +kernel
theorem dX0_hasRow_13 : decode cX0_hasRow 13 = .ok (.if_icmp .ge 7, 3) := by decide +kernel
theorem dX0_hasRow_16 : decode cX0_hasRow 16 = .ok (.iconst 1, 1) := by decide +kernel
theorem dX0_hasRow_17 : decode cX0_hasRow 17 = .ok (.goto 4, 3) := by decide +kernel
theorem dX0_hasRow_20 : decode cX0_hasRow 20 = .ok (.iconst 0, 1) := by decide +kernel
theorem dX0_hasRow_21 : decode cX0_hasRow 21 = .ok (.ireturn, 1) := by decide +kernel
set_option maxRecDepth 20000 in
theorem ggX0_rowBits_X0_hasRow : GoodIn wsX0_rowBits wsX0_hasRow := goodIn_r _ [7, 8, 9, 21, 22, 23, 24] (by decide +kernel) (by decide +kernel)
set_option maxRecDepth 20000 in
theorem gX0_rowBits_X0_hasRow : GoodIn wsX0_rowBits (wsV RX0 22 RX0 yX0_hasRow wsX0_hasRow) := goodIn_app (goodIn_of _ (by decide +kernel)) ggX0_rowBits_X0_hasRow
set_option maxRecDepth 20000 in
theorem ggX0_rowBits_X7_spanBits : GoodIn wsX0_rowBits wsX7_spanBits := goodIn_r _ [12, 13, 14, 15, 16, 17, 18, 19, 20] (by decide +kernel) (by decide +kernel)
set_option maxRecDepth 20000 in
theorem gX0_rowBits_X7_spanBits_n26 : GoodIn wsX0_rowBits (wsX7_spanBits) := ggX0_rowBits_X7_spanBits
theorem dX0_rowBits_0 : decode cX0_rowBits 0 = .ok (.aload_n 0, 1) := by decide +kernel
theorem dX0_rowBits_1 : decode cX0_rowBits 1 = .ok (.iload_n 1, 1) := by decide +kernel
theorem dX0_rowBits_2 : decode cX0_rowBits 2 = .ok (.iload_n 3, 1) := by decide +kernel
theorem dX0_rowBits_3 : decode cX0_rowBits 3 = .ok (.isub, 1) := by decide +kernel
theorem dX0_rowBits_4 : decode cX0_rowBits 4 = .ok (.invokevirtual 22, 3) := by decide +kernel
theorem dX0_rowBits_7 : decode cX0_rowBits 7 = .ok (.ifCond .eq 21, 3) := by decide +kernel
theorem dX0_rowBits_10 : decode cX0_rowBits 10 = .ok (.aload_n 0, 1) := by decide +kernel
theorem dX0_rowBits_11 : decode cX0_rowBits 11 = .ok (.getfield 7, 3) := by decide +kernel
theorem dX0_rowBits_14 : decode cX0_rowBits 14 = .ok (.iload_n 2, 1) := by decide +kernel
theorem dX0_rowBits_15 : decode cX0_rowBits 15 = .ok (.iadd, 1) := by decide +kernel
theorem dX0_rowBits_16 : decode cX0_rowBits 16 = .ok (.aload_n 0, 1) := by decide +kernel
theorem dX0_rowBits_17 : decode cX0_rowBits 17 = .ok (.getfield 16, 3) := by decide +kernel
theorem dX0_rowBits_20 : decode cX0_rowBits 20 = .ok (.iload_n 2, 1) := by decide +kernel
theorem dX0_rowBits_21 : decode cX0_rowBits 21 = .ok (.iadd, 1) := by decide +kernel
theorem dX0_rowBits_22 : decode cX0_rowBits 22 = .ok (.invokestatic 26, 3) := by decide +kernel
theorem dX0_rowBits_25 : decode cX0_rowBits 25 = .ok (.goto 4, 3) := by decide +kernel
theorem dX0_rowBits_28 : decode cX0_rowBits 28 = .ok (.lconst 0, 1) := by decide +kernel
theorem dX0_rowBits_29 : decode cX0_rowBits 29 = .ok (.lreturn, 1) := by decide +kernel
theorem dX1_init_0 : decode cX1_init 0 = .ok (.aload_n 0, 1) := by decide +kernel
theorem dX1_init_1 : decode cX1_init 1 = .ok (.invokespecial 1, 3) := by decide +kernel
theorem dX1_init_4 : decode cX1_init 4 = .ok (.aload_n 0, 1) := by decide +kernel
theorem dX1_init_5 : decode cX1_init 5 = .ok (.iload_n 1, 1) := by decide +kernel
theorem dX1_init_6 : decode cX1_init 6 = .ok (.putfield 7, 3) := by decide +kernel
theorem dX1_init_9 : decode cX1_init 9 = .ok (.aload_n 0, 1) := by decide +kernel
theorem dX1_init_10 : decode cX1_init 10 = .ok (.iload_n 2, 1) := by decide +kernel
theorem dX1_init_11 : decode cX1_init 11 = .ok (.putfield 13, 3) := by decide +kernel
theorem dX1_init_14 : decode cX1_init 14 = .ok (.return_, 1) := by decide +kernel
set_option maxRecDepth 20000 in
theorem ggX2_init_X7_boxRound : GoodIn wsX2_init wsX7_boxRound := goodIn_r _ [6, 7, 8, 9, 10, 11, 12, 13, 14, 15, 16, 17, 18, 19, 32, 33, 34, 35] (by decide +kernel) (by decide +kernel)
set_option maxRecDepth 20000 in
theorem gX2_init_X7_boxRound_n3 : GoodIn wsX2_init (wsX7_boxRound) := ggX2_init_X7_boxRound
set_option maxRecDepth 20000 in
theorem ggX2_init_X5_init : GoodIn wsX2_init wsX5_init := goodIn_r _ [23, 24, 14, 15, 25, 26, 27, 28, 29, 30, 31, 36, 37, 38, 39, 40, 41, 42] (by decide +kernel) (by decide +kernel)
set_option maxRecDepth 20000 in
theorem gX2_init_X5_init : GoodIn wsX2_init (wsX5_init) := ggX2_init_X5_init
theorem dX2_init_0 : decode cX2_init 0 = .ok (.aload_n 0, 1) := by decide +kernel
theorem dX2_init_1 : decode cX2_init 1 = .ok (.iconst 2, 1) := by decide +kernel
theorem dX2_init_2 : decode cX2_init 2 = .ok (.iload_n 1, 1) := by decide +kernel
theorem dX2_init_3 : decode cX2_init 3 = .ok (.iload_n 3, 1) := by decide +kernel
theorem dX2_init_4 : decode cX2_init 4 = .ok (.isub, 1) := by decide +kernel
theorem dX2_init_5 : decode cX2_init 5 = .ok (.iload_n 2, 1) := by decide +kernel
theorem dX2_init_6 : decode cX2_init 6 = .ok (.iload_n 3, 1) := by decide +kernel
theorem dX2_init_7 : decode cX2_init 7 = .ok (.isub, 1) := by decide +kernel
theorem dX2_init_8 : decode cX2_init 8 = .ok (.iload_n 1, 1) := by decide +kernel
theorem dX2_init_9 : decode cX2_init 9 = .ok (.iload_n 3, 1) := by decide +kernel
theorem dX2_init_10 : decode cX2_init 10 = .ok (.iadd, 1) := by decide +kernel
theorem dX2_init_11 : decode cX2_init 11 = .ok (.iload_n 2, 1) := by decide +kernel
theorem dX2_init_12 : decode cX2_init 12 = .ok (.iload_n 3, 1) := by decide +kernel
theorem dX2_init_13 : decode cX2_init 13 = .ok (.iadd, 1) := by decide +kernel
theorem dX2_init_14 : decode cX2_init 14 = .ok (.invokestatic 3, 3) := by decide +kernel
theorem dX2_init_17 : decode cX2_init 17 = .ok (.invokespecial 7, 3) := by decide +kernel
theorem dX2_init_20 : decode cX2_init 20 = .ok (.aload_n 0, 1) := by decide +kernel
theorem dX2_init_21 : decode cX2_init 21 = .ok (.iload_n 1, 1) := by decide +kernel
theorem dX2_init_22 : decode cX2_init 22 = .ok (.putfield 13, 3) := by decide +kernel
theorem dX2_init_25 : decode cX2_init 25 = .ok (.aload_n 0, 1) := by decide +kernel
theorem dX2_init_26 : decode cX2_init 26 = .ok (.iload_n 2, 1) := by decide +kernel
theorem dX2_init_27 : decode cX2_init 27 = .ok (.putfield 19, 3) := by decide +kernel
theorem dX2_init_30 : decode cX2_init 30 = .ok (.aload_n 0, 1) := by decide +kernel
theorem dX2_init_31 : decode cX2_init 31 = .ok (.iload_n 3, 1) := by decide +kernel
theorem dX2_init_32 : decode cX2_init 32 = .ok (.putfield 22, 3) := by decide +kernel
theorem dX2_init_35 : decode cX2_init 35 = .ok (.return_, 1) := by decide +kernel
theorem dX2_holds_0 : decode cX2_holds 0 = .ok (.iconst 2, 1) := by decide +kernel
theorem dX2_holds_1 : decode cX2_holds 1 = .ok (.iload_n 1, 1) := by decide +kernel
theorem dX2_holds_2 : decode cX2_holds 2 = .ok (.imul, 1) := by decide +kernel
theorem dX2_holds_3 : decode cX2_holds 3 = .ok (.iconst 1, 1) := by decide +kernel
theorem dX2_holds_4 : decode cX2_holds 4 = .ok (.iadd, 1) := by decide +kernel
theorem dX2_holds_5 : decode cX2_holds 5 = .ok (.iconst 2, 1) := by decide +kernel
theorem dX2_holds_6 : decode cX2_holds 6 = .ok (.aload_n 0, 1) := by decide +kernel
theorem dX2_holds_7 : decode cX2_holds 7 = .ok (.getfield 13, 3) := by decide +kernel
theorem dX2_holds_10 : decode cX2_holds 10 = .ok (.imul, 1) := by decide +kernel
theorem dX2_holds_11 : decode cX2_holds 11 = .ok (.isub, 1) := by decide +kernel
theorem dX2_holds_12 : decode cX2_holds 12 = .ok (.istore_n 3, 1) := by decide +kernel
theorem dX2_holds_13 : decode cX2_holds 13 = .ok (.iconst 2, 1) := by decide +kernel
theorem dX2_holds_14 : decode cX2_holds 14 = .ok (.iload_n 2, 1) := by decide +kernel
theorem dX2_holds_15 : decode cX2_holds 15 = .ok (.imul, 1) := by decide +kernel
theorem dX2_holds_16 : decode cX2_holds 16 = .ok (.iconst 1, 1) := by decide +kernel
theorem dX2_holds_17 : decode cX2_holds 17 = .ok (.iadd, 1) := by decide +kernel
theorem dX2_holds_18 : decode cX2_holds 18 = .ok (.iconst 2, 1) := by decide +kernel
theorem dX2_holds_19 : decode cX2_holds 19 = .ok (.aload_n 0, 1) := by decide +kernel
theorem dX2_holds_20 : decode cX2_holds 20 = .ok (.getfield 19, 3) := by decide +kernel
theorem dX2_holds_23 : decode cX2_holds 23 = .ok (.imul, 1) := by decide +kernel
theorem dX2_holds_24 : decode cX2_holds 24 = .ok (.isub, 1) := by decide +kernel
theorem dX2_holds_25 : decode cX2_holds 25 = .ok (.istore 4, 2) := by decide +kernel
theorem dX2_holds_27 : decode cX2_holds 27 = .ok (.iload_n 3, 1) := by decide +kernel
theorem dX2_holds_28 : decode cX2_holds 28 = .ok (.iload_n 3, 1) := by decide +kernel
theorem dX2_holds_29 : decode cX2_holds 29 = .ok (.imul, 1) := by decide +kernel
theorem dX2_holds_30 : decode cX2_holds 30 = .ok (.iload 4, 2) := by decide +kernel
theorem dX2_holds_32 : decode cX2_holds 32 = .ok (.iload 4, 2) := by decide +kernel
theorem dX2_holds_34 : decode cX2_holds 34 = .ok (.imul, 1) := by decide +kernel
theorem dX2_holds_35 : decode cX2_holds 35 = .ok (.iadd, 1) := by decide +kernel
theorem dX2_holds_36 : decode cX2_holds 36 = .ok (.iconst 4, 1) := by decide +kernel
theorem dX2_holds_37 : decode cX2_holds 37 = .ok (.aload_n 0, 1) := by decide +kernel
theorem dX2_holds_38 : decode cX2_holds 38 = .ok (.getfield 22, 3) := by decide +kernel
theorem dX2_holds_41 : decode cX2_holds 41 = .ok (.imul, 1) := by decide +kernel
theorem dX2_holds_42 : decode cX2_holds 42 = .ok (.aload_n 0, 1) := by decide +kernel
theorem dX2_holds_43 : decode cX2_holds 43 = .ok (.getfield 22, 3) := by decide +kernel
theorem dX2_holds_46 : decode cX2_holds 46 = .ok (.imul, 1) := by decide +kernel
theorem dX2_holds_47 : decode cX2_holds 47 = .ok (.if_icmp .gt 7, 3) := by decide +kernel
theorem dX2_holds_50 : decode cX2_holds 50 = .ok (.iconst 1, 1) := by decide +kernel
theorem dX2_holds_51 : decode cX2_holds 51 = .ok (.goto 4, 3) := by decide +kernel
theorem dX2_holds_54 : decode cX2_holds 54 = .ok (.iconst 0, 1) := by decide +kernel
theorem dX2_holds_55 : decode cX2_holds 55 = .ok (.ireturn, 1) := by decide +kernel
set_option maxRecDepth 20000 in
theorem ggX3_init_Jx4a65c_init_da8c8 : GoodIn wsX3_init wsJx4a65c_init_da8c8 := goodIn_r _ [20, 21, 22, 23, 24, 25, 26, 27, 28, 29, 30, 31, 32, 2, 3, 33, 34, 35] (by decide +kernel) (by decide +kernel)
set_option maxRecDepth 20000 in
theorem gX3_init_Jx4a65c_init_da8c8 : GoodIn wsX3_init (wsJx4a65c_init_da8c8) := ggX3_init_Jx4a65c_init_da8c8
theorem dX3_init_0 : decode cX3_init 0 = .ok (.aload_n 0, 1) := by decide +kernel
theorem dX3_init_1 : decode cX3_init 1 = .ok (.invokespecial 3, 3) := by decide +kernel
theorem dX3_init_4 : decode cX3_init 4 = .ok (.aload_n 0, 1) := by decide +kernel
theorem dX3_init_5 : decode cX3_init 5 = .ok (.new 9, 3) := by decide +kernel
theorem dX3_init_8 : decode cX3_init 8 = .ok (.dup, 1) := by decide +kernel
theorem dX3_init_9 : decode cX3_init 9 = .ok (.invokespecial 11, 3) := by decide +kernel
theorem dX3_init_12 : decode cX3_init 12 = .ok (.putfield 12, 3) := by decide +kernel
theorem dX3_init_15 : decode cX3_init 15 = .ok (.aload_n 0, 1) := by decide +kernel
theorem dX3_init_16 : decode cX3_init 16 = .ok (.iconst 0, 1) := by decide +kernel
theorem dX3_init_17 : decode cX3_init 17 = .ok (.putfield 18, 3) := by decide +kernel
theorem dX3_init_20 : decode cX3_init 20 = .ok (.aload_n 0, 1) := by decide +kernel
theorem dX3_init_21 : decode cX3_init 21 = .ok (.iconst 0, 1) := by decide +kernel
theorem dX3_init_22 : decode cX3_init 22 = .ok (.putfield 22, 3) := by decide +kernel
theorem dX3_init_25 : decode cX3_init 25 = .ok (.aload_n 0, 1) := by decide +kernel
theorem dX3_init_26 : decode cX3_init 26 = .ok (.iconst (-1), 1) := by decide +kernel
theorem dX3_init_27 : decode cX3_init 27 = .ok (.putfield 25, 3) := by decide +kernel
theorem dX3_init_30 : decode cX3_init 30 = .ok (.aload_n 0, 1) := by decide +kernel
theorem dX3_init_31 : decode cX3_init 31 = .ok (.bipush 8, 2) := by decide +kernel
theorem dX3_init_33 : decode cX3_init 33 = .ok (.putfield 28, 3) := by decide +kernel
theorem dX3_init_36 : decode cX3_init 36 = .ok (.aload_n 0, 1) := by decide +kernel
theorem dX3_init_37 : decode cX3_init 37 = .ok (.iconst 0, 1) := by decide +kernel
theorem dX3_init_38 : decode cX3_init 38 = .ok (.putfield 31, 3) := by decide +kernel
theorem dX3_init_41 : decode cX3_init 41 = .ok (.aload_n 0, 1) := by decide +kernel
theorem dX3_init_42 : decode cX3_init 42 = .ok (.iconst 0, 1) := by decide +kernel
theorem dX3_init_43 : decode cX3_init 43 = .ok (.putfield 35, 3) := by decide +kernel
theorem dX3_init_46 : decode cX3_init 46 = .ok (.aload_n 0, 1) := by decide +kernel
theorem dX3_init_47 : decode cX3_init 47 = .ok (.aconst_null, 1) := by decide +kernel
theorem dX3_init_48 : decode cX3_init 48 = .ok (.putfield 38, 3) := by decide +kernel
theorem dX3_init_51 : decode cX3_init 51 = .ok (.aload_n 0, 1) := by decide +kernel
theorem dX3_init_52 : decode cX3_init 52 = .ok (.iload_n 1, 1) := by decide +kernel
theorem dX3_init_53 : decode cX3_init 53 = .ok (.putfield 42, 3) := by decide +kernel
theorem dX3_init_56 : decode cX3_init 56 = .ok (.aload_n 0, 1) := by decide +kernel
theorem dX3_init_57 : decode cX3_init 57 = .ok (.aload_n 2, 1) := by decide +kernel
theorem dX3_init_58 : decode cX3_init 58 = .ok (.putfield 45, 3) := by decide +kernel
theorem dX3_init_61 : decode cX3_init 61 = .ok (.aload_n 0, 1) := by decide +kernel
theorem dX3_init_62 : decode cX3_init 62 = .ok (.aload_n 3, 1) := by decide +kernel
theorem dX3_init_63 : decode cX3_init 63 = .ok (.putfield 49, 3) := by decide +kernel
theorem dX3_init_66 : decode cX3_init 66 = .ok (.return_, 1) := by decide +kernel
theorem dX3_inherit_0 : decode cX3_inherit 0 = .ok (.aload_n 0, 1) := by decide +kernel
theorem dX3_inherit_1 : decode cX3_inherit 1 = .ok (.getfield 49, 3) := by decide +kernel
theorem dX3_inherit_4 : decode cX3_inherit 4 = .ok (.astore_n 1, 1) := by decide +kernel
theorem dX3_inherit_5 : decode cX3_inherit 5 = .ok (.aload_n 0, 1) := by decide +kernel
theorem dX3_inherit_6 : decode cX3_inherit 6 = .ok (.aload_n 1, 1) := by decide +kernel
theorem dX3_inherit_7 : decode cX3_inherit 7 = .ok (.ifnonnull 10, 3) := by decide +kernel
theorem dX3_inherit_10 : decode cX3_inherit 10 = .ok (.aload_n 0, 1) := by decide +kernel
theorem dX3_inherit_11 : decode cX3_inherit 11 = .ok (.getfield 18, 3) := by decide +kernel
theorem dX3_inherit_14 : decode cX3_inherit 14 = .ok (.goto 12, 3) := by decide +kernel
theorem dX3_inherit_17 : decode cX3_inherit 17 = .ok (.aload_n 1, 1) := by decide +kernel
theorem dX3_inherit_18 : decode cX3_inherit 18 = .ok (.getfield 53, 3) := by decide +kernel
theorem dX3_inherit_21 : decode cX3_inherit 21 = .ok (.aload_n 0, 1) := by decide +kernel
theorem dX3_inherit_22 : decode cX3_inherit 22 = .ok (.getfield 18, 3) := by decide +kernel
theorem dX3_inherit_25 : decode cX3_inherit 25 = .ok (.iadd, 1) := by decide +kernel
theorem dX3_inherit_26 : decode cX3_inherit 26 = .ok (.putfield 53, 3) := by decide +kernel
theorem dX3_inherit_29 : decode cX3_inherit 29 = .ok (.aload_n 0, 1) := by decide +kernel
theorem dX3_inherit_30 : decode cX3_inherit 30 = .ok (.aload_n 1, 1) := by decide +kernel
theorem dX3_inherit_31 : decode cX3_inherit 31 = .ok (.ifnonnull 10, 3) := by decide +kernel
theorem dX3_inherit_34 : decode cX3_inherit 34 = .ok (.aload_n 0, 1) := by decide +kernel
theorem dX3_inherit_35 : decode cX3_inherit 35 = .ok (.getfield 22, 3) := by decide +kernel
theorem dX3_inherit_38 : decode cX3_inherit 38 = .ok (.goto 12, 3) := by decide +kernel
theorem dX3_inherit_41 : decode cX3_inherit 41 = .ok (.aload_n 1, 1) := by decide +kernel
theorem dX3_inherit_42 : decode cX3_inherit 42 = .ok (.getfield 56, 3) := by decide +kernel
theorem dX3_inherit_45 : decode cX3_inherit 45 = .ok (.aload_n 0, 1) := by decide +kernel
theorem dX3_inherit_46 : decode cX3_inherit 46 = .ok (.getfield 22, 3) := by decide +kernel
theorem dX3_inherit_49 : decode cX3_inherit 49 = .ok (.iadd, 1) := by decide +kernel
theorem dX3_inherit_50 : decode cX3_inherit 50 = .ok (.putfield 56, 3) := by decide +kernel
theorem dX3_inherit_53 : decode cX3_inherit 53 = .ok (.aload_n 0, 1) := by decide +kernel
theorem dX3_inherit_54 : decode cX3_inherit 54 = .ok (.aload_n 1, 1) := by decide +kernel
theorem dX3_inherit_55 : decode cX3_inherit 55 = .ok (.ifnonnull 8, 3) := by decide +kernel
theorem dX3_inherit_58 : decode cX3_inherit 58 = .ok (.bipush 8, 2) := by decide +kernel
theorem dX3_inherit_60 : decode cX3_inherit 60 = .ok (.goto 7, 3) := by decide +kernel
theorem dX3_inherit_63 : decode cX3_inherit 63 = .ok (.aload_n 1, 1) := by decide +kernel
theorem dX3_inherit_64 : decode cX3_inherit 64 = .ok (.getfield 59, 3) := by decide +kernel
theorem dX3_inherit_67 : decode cX3_inherit 67 = .ok (.aload_n 0, 1) := by decide +kernel
theorem dX3_inherit_68 : decode cX3_inherit 68 = .ok (.getfield 28, 3) := by decide +kernel
theorem dX3_inherit_71 : decode cX3_inherit 71 = .ok (.imul, 1) := by decide +kernel
theorem dX3_inherit_72 : decode cX3_inherit 72 = .ok (.bipush 8, 2) := by decide +kernel
theorem dX3_inherit_74 : decode cX3_inherit 74 = .ok (.idiv, 1) := by decide +kernel
theorem dX3_inherit_75 : decode cX3_inherit 75 = .ok (.putfield 59, 3) := by decide +kernel
theorem dX3_inherit_78 : decode cX3_inherit 78 = .ok (.aload_n 1, 1) := by decide +kernel
theorem dX3_inherit_79 : decode cX3_inherit 79 = .ok (.ifnonnull 9, 3) := by decide +kernel
theorem dX3_inherit_82 : decode cX3_inherit 82 = .ok (.sipush 255, 3) := by decide +kernel
theorem dX3_inherit_85 : decode cX3_inherit 85 = .ok (.goto 7, 3) := by decide +kernel
theorem dX3_inherit_88 : decode cX3_inherit 88 = .ok (.aload_n 1, 1) := by decide +kernel
theorem dX3_inherit_89 : decode cX3_inherit 89 = .ok (.getfield 62, 3) := by decide +kernel
theorem dX3_inherit_92 : decode cX3_inherit 92 = .ok (.istore_n 2, 1) := by decide +kernel
theorem dX3_inherit_93 : decode cX3_inherit 93 = .ok (.aload_n 0, 1) := by decide +kernel
theorem dX3_inherit_94 : decode cX3_inherit 94 = .ok (.aload_n 0, 1) := by decide +kernel
theorem dX3_inherit_95 : decode cX3_inherit 95 = .ok (.getfield 25, 3) := by decide +kernel
theorem dX3_inherit_98 : decode cX3_inherit 98 = .ok (.iconst (-1), 1) := by decide +kernel
theorem dX3_inherit_99 : decode cX3_inherit 99 = .ok (.if_icmp .ne 7, 3) := by decide +kernel
theorem dX3_inherit_102 : decode cX3_inherit 102 = .ok (.iload_n 2, 1) := by decide +kernel
theorem dX3_inherit_103 : decode cX3_inherit 103 = .ok (.goto 7, 3) := by decide +kernel
theorem dX3_inherit_106 : decode cX3_inherit 106 = .ok (.aload_n 0, 1) := by decide +kernel
theorem dX3_inherit_107 : decode cX3_inherit 107 = .ok (.getfield 25, 3) := by decide +kernel
theorem dX3_inherit_110 : decode cX3_inherit 110 = .ok (.putfield 62, 3) := by decide +kernel
theorem dX3_inherit_113 : decode cX3_inherit 113 = .ok (.aload_n 1, 1) := by decide +kernel
theorem dX3_inherit_114 : decode cX3_inherit 114 = .ok (.ifnull 10, 3) := by decide +kernel
theorem dX3_inherit_117 : decode cX3_inherit 117 = .ok (.aload_n 1, 1) := by decide +kernel
theorem dX3_inherit_118 : decode cX3_inherit 118 = .ok (.getfield 65, 3) := by decide +kernel
theorem dX3_inherit_121 : decode cX3_inherit 121 = .ok (.ifCond .ne 7, 3) := by decide +kernel
theorem dX3_inherit_124 : decode cX3_inherit 124 = .ok (.iconst 0, 1) := by decide +kernel
theorem dX3_inherit_125 : decode cX3_inherit 125 = .ok (.goto 4, 3) := by decide +kernel
theorem dX3_inherit_128 : decode cX3_inherit 128 = .ok (.iconst 2, 1) := by decide +kernel
theorem dX3_inherit_129 : decode cX3_inherit 129 = .ok (.istore_n 3, 1) := by decide +kernel
theorem dX3_inherit_130 : decode cX3_inherit 130 = .ok (.aload_n 0, 1) := by decide +kernel
theorem dX3_inherit_131 : decode cX3_inherit 131 = .ok (.aload_n 0, 1) := by decide +kernel
theorem dX3_inherit_132 : decode cX3_inherit 132 = .ok (.getfield 31, 3) := by decide +kernel
theorem dX3_inherit_135 : decode cX3_inherit 135 = .ok (.ifCond .eq 7, 3) := by decide +kernel
theorem dX3_inherit_138 : decode cX3_inherit 138 = .ok (.iconst 1, 1) := by decide +kernel
theorem dX3_inherit_139 : decode cX3_inherit 139 = .ok (.goto 4, 3) := by decide +kernel
theorem dX3_inherit_142 : decode cX3_inherit 142 = .ok (.iload_n 3, 1) := by decide +kernel
theorem dX3_inherit_143 : decode cX3_inherit 143 = .ok (.putfield 65, 3) := by decide +kernel
theorem dX3_inherit_146 : decode cX3_inherit 146 = .ok (.return_, 1) := by decide +kernel
set_option maxRecDepth 20000 in
theorem ggX4_init_X5_init : GoodIn wsX4_init wsX5_init := goodIn_r _ [4, 5, 6, 7, 8, 9, 10, 11, 12, 13, 14, 15, 16, 17, 18, 19, 20, 21] (by decide +kernel) (by decide +kernel)
set_option maxRecDepth 20000 in
theorem gX4_init_X5_init : GoodIn wsX4_init (wsX5_init) := ggX4_init_X5_init
theorem dX4_init_0 : decode cX4_init 0 = .ok (.aload_n 0, 1) := by decide +kernel
theorem dX4_init_1 : decode cX4_init 1 = .ok (.iconst 1, 1) := by decide +kernel
theorem dX4_init_2 : decode cX4_init 2 = .ok (.aload_n 1, 1) := by decide +kernel
theorem dX4_init_3 : decode cX4_init 3 = .ok (.invokespecial 3, 3) := by decide +kernel
theorem dX4_init_6 : decode cX4_init 6 = .ok (.return_, 1) := by decide +kernel
theorem dX4_holds_0 : decode cX4_holds 0 = .ok (.iconst 1, 1) := by decide +kernel
theorem dX4_holds_1 : decode cX4_holds 1 = .ok (.ireturn, 1) := by decide +kernel
theorem dX5_init_0 : decode cX5_init 0 = .ok (.aload_n 0, 1) := by decide +kernel
theorem dX5_init_1 : decode cX5_init 1 = .ok (.invokespecial 3, 3) := by decide +kernel
theorem dX5_init_4 : decode cX5_init 4 = .ok (.aload_n 0, 1) := by decide +kernel
theorem dX5_init_5 : decode cX5_init 5 = .ok (.iload_n 1, 1) := by decide +kernel
theorem dX5_init_6 : decode cX5_init 6 = .ok (.putfield 9, 3) := by decide +kernel
theorem dX5_init_9 : decode cX5_init 9 = .ok (.aload_n 0, 1) := by decide +kernel
theorem dX5_init_10 : decode cX5_init 10 = .ok (.aload_n 2, 1) := by decide +kernel
theorem dX5_init_11 : decode cX5_init 11 = .ok (.putfield 15, 3) := by decide +kernel
theorem dX5_init_14 : decode cX5_init 14 = .ok (.return_, 1) := by decide +kernel
set_option maxRecDepth 20000 in
theorem ggX5_rowBits_X0_hasRow : GoodIn wsX5_rowBits wsX0_hasRow := goodIn_r _ [15, 16, 17, 61, 62, 63, 64] (by decide +kernel) (by decide +kernel)
set_option maxRecDepth 20000 in
theorem gX5_rowBits_X0_hasRow : GoodIn wsX5_rowBits (wsV RX5 19 RX0 yX0_hasRow wsX0_hasRow) := goodIn_app (goodIn_of _ (by decide +kernel)) ggX5_rowBits_X0_hasRow
set_option maxRecDepth 20000 in
theorem ggX5_rowBits_X2_holds : GoodIn wsX5_rowBits wsX2_holds := goodIn_r _ [23, 24, 25, 26, 49, 50, 51, 52, 53] (by decide +kernel) (by decide +kernel)
set_option maxRecDepth 20000 in
theorem gX5_rowBits_X2_holds_u40X2 : GoodIn wsX5_rowBits (va_wsU RX5 40 RX2 "PaintLayers$Shape" ⟨"PaintLayers$Shape", "holds", "(II)Z"⟩ yX2_holds wsX2_holds) := goodIn_app (goodIn_of _ (by decide +kernel)) ggX5_rowBits_X2_holds
set_option maxRecDepth 20000 in
theorem ggX5_rowBits_X4_holds : GoodIn wsX5_rowBits wsX4_holds := goodIn_r _ [30] (by decide +kernel) (by decide +kernel)
set_option maxRecDepth 20000 in
theorem gX5_rowBits_X4_holds_u40X4 : GoodIn wsX5_rowBits (va_wsU RX5 40 RX4 "PaintLayers$Shape" ⟨"PaintLayers$Shape", "holds", "(II)Z"⟩ yX4_holds wsX4_holds) := goodIn_app (goodIn_of _ (by decide +kernel)) ggX5_rowBits_X4_holds
set_option maxRecDepth 20000 in
theorem ggX5_rowBits_X6_holds : GoodIn wsX5_rowBits wsX6_holds := goodIn_r _ [34, 35, 36, 37, 38, 39, 33, 40, 41, 42, 56, 57, 58, 59, 60, 65, 66] (by decide +kernel) (by decide +kernel)
set_option maxRecDepth 20000 in
theorem gX5_rowBits_X6_holds_u40X6 : GoodIn wsX5_rowBits (va_wsU RX5 40 RX6 "PaintLayers$Shape" ⟨"PaintLayers$Shape", "holds", "(II)Z"⟩ yX6_holds wsX6_holds) := goodIn_app (goodIn_of _ (by decide +kernel)) ggX5_rowBits_X6_holds
set_option maxRecDepth 20000 in
theorem ggX5_rowBits_X7_spanBits : GoodIn wsX5_rowBits wsX7_spanBits := goodIn_r _ [45, 46, 4, 5, 6, 47, 9, 10, 48] (by decide +kernel) (by decide +kernel)
set_option maxRecDepth 20000 in
theorem gX5_rowBits_X7_spanBits_n44 : GoodIn wsX5_rowBits (wsX7_spanBits) := ggX5_rowBits_X7_spanBits
theorem dX5_rowBits_0 : decode cX5_rowBits 0 = .ok (.aload_n 0, 1) := by decide +kernel
theorem dX5_rowBits_1 : decode cX5_rowBits 1 = .ok (.getfield 15, 3) := by decide +kernel
theorem dX5_rowBits_4 : decode cX5_rowBits 4 = .ok (.iload_n 1, 1) := by decide +kernel
theorem dX5_rowBits_5 : decode cX5_rowBits 5 = .ok (.iload_n 3, 1) := by decide +kernel
theorem dX5_rowBits_6 : decode cX5_rowBits 6 = .ok (.isub, 1) := by decide +kernel
theorem dX5_rowBits_7 : decode cX5_rowBits 7 = .ok (.invokevirtual 19, 3) := by decide +kernel
theorem dX5_rowBits_10 : decode cX5_rowBits 10 = .ok (.ifCond .ne 5, 3) := by decide +kernel
theorem dX5_rowBits_13 : decode cX5_rowBits 13 = .ok (.lconst 0, 1) := by decide +kernel
theorem dX5_rowBits_14 : decode cX5_rowBits 14 = .ok (.lreturn, 1) := by decide +kernel
theorem dX5_rowBits_15 : decode cX5_rowBits 15 = .ok (.aload_n 0, 1) := by decide +kernel
theorem dX5_rowBits_16 : decode cX5_rowBits 16 = .ok (.getfield 15, 3) := by decide +kernel
theorem dX5_rowBits_19 : decode cX5_rowBits 19 = .ok (.getfield 25, 3) := by decide +kernel
theorem dX5_rowBits_22 : decode cX5_rowBits 22 = .ok (.iload_n 2, 1) := by decide +kernel
theorem dX5_rowBits_23 : decode cX5_rowBits 23 = .ok (.iadd, 1) := by decide +kernel
theorem dX5_rowBits_24 : decode cX5_rowBits 24 = .ok (.iconst 0, 1) := by decide +kernel
theorem dX5_rowBits_25 : decode cX5_rowBits 25 = .ok (.invokestatic 28, 3) := by decide +kernel
theorem dX5_rowBits_28 : decode cX5_rowBits 28 = .ok (.istore 4, 2) := by decide +kernel
theorem dX5_rowBits_30 : decode cX5_rowBits 30 = .ok (.aload_n 0, 1) := by decide +kernel
theorem dX5_rowBits_31 : decode cX5_rowBits 31 = .ok (.getfield 15, 3) := by decide +kernel
theorem dX5_rowBits_34 : decode cX5_rowBits 34 = .ok (.getfield 34, 3) := by decide +kernel
theorem dX5_rowBits_37 : decode cX5_rowBits 37 = .ok (.iload_n 2, 1) := by decide +kernel
theorem dX5_rowBits_38 : decode cX5_rowBits 38 = .ok (.iadd, 1) := by decide +kernel
theorem dX5_rowBits_39 : decode cX5_rowBits 39 = .ok (.bipush 64, 2) := by decide +kernel
theorem dX5_rowBits_41 : decode cX5_rowBits 41 = .ok (.invokestatic 37, 3) := by decide +kernel
theorem dX5_rowBits_44 : decode cX5_rowBits 44 = .ok (.istore 5, 2) := by decide +kernel
theorem dX5_rowBits_46 : decode cX5_rowBits 46 = .ok (.iload 4, 2) := by decide +kernel
theorem dX5_rowBits_48 : decode cX5_rowBits 48 = .ok (.iload 5, 2) := by decide +kernel
theorem dX5_rowBits_50 : decode cX5_rowBits 50 = .ok (.if_icmp .ge 23, 3) := by decide +kernel
theorem dX5_rowBits_53 : decode cX5_rowBits 53 = .ok (.aload_n 0, 1) := by decide +kernel
theorem dX5_rowBits_54 : decode cX5_rowBits 54 = .ok (.iload 4, 2) := by decide +kernel
theorem dX5_rowBits_56 : decode cX5_rowBits 56 = .ok (.iload_n 2, 1) := by decide +kernel
theorem dX5_rowBits_57 : decode cX5_rowBits 57 = .ok (.isub, 1) := by decide +kernel
theorem dX5_rowBits_58 : decode cX5_rowBits 58 = .ok (.iload_n 1, 1) := by decide +kernel
theorem dX5_rowBits_59 : decode cX5_rowBits 59 = .ok (.iload_n 3, 1) := by decide +kernel
theorem dX5_rowBits_60 : decode cX5_rowBits 60 = .ok (.isub, 1) := by decide +kernel
theorem dX5_rowBits_61 : decode cX5_rowBits 61 = .ok (.invokevirtual 40, 3) := by decide +kernel
theorem dX5_rowBits_64 : decode cX5_rowBits 64 = .ok (.ifCond .ne 9, 3) := by decide +kernel
theorem dX5_rowBits_67 : decode cX5_rowBits 67 = .ok (.iinc 4 1, 3) := by decide +kernel
theorem dX5_rowBits_70 : decode cX5_rowBits 70 = .ok (.goto (-24), 3) := by decide +kernel
theorem dX5_rowBits_73 : decode cX5_rowBits 73 = .ok (.iload 4, 2) := by decide +kernel
theorem dX5_rowBits_75 : decode cX5_rowBits 75 = .ok (.iload 5, 2) := by decide +kernel
theorem dX5_rowBits_77 : decode cX5_rowBits 77 = .ok (.if_icmp .ge 25, 3) := by decide +kernel
theorem dX5_rowBits_80 : decode cX5_rowBits 80 = .ok (.aload_n 0, 1) := by decide +kernel
theorem dX5_rowBits_81 : decode cX5_rowBits 81 = .ok (.iload 5, 2) := by decide +kernel
theorem dX5_rowBits_83 : decode cX5_rowBits 83 = .ok (.iconst 1, 1) := by decide +kernel
theorem dX5_rowBits_84 : decode cX5_rowBits 84 = .ok (.isub, 1) := by decide +kernel
theorem dX5_rowBits_85 : decode cX5_rowBits 85 = .ok (.iload_n 2, 1) := by decide +kernel
theorem dX5_rowBits_86 : decode cX5_rowBits 86 = .ok (.isub, 1) := by decide +kernel
theorem dX5_rowBits_87 : decode cX5_rowBits 87 = .ok (.iload_n 1, 1) := by decide +kernel
theorem dX5_rowBits_88 : decode cX5_rowBits 88 = .ok (.iload_n 3, 1) := by decide +kernel
theorem dX5_rowBits_89 : decode cX5_rowBits 89 = .ok (.isub, 1) := by decide +kernel
theorem dX5_rowBits_90 : decode cX5_rowBits 90 = .ok (.invokevirtual 40, 3) := by decide +kernel
theorem dX5_rowBits_93 : decode cX5_rowBits 93 = .ok (.ifCond .ne 9, 3) := by decide +kernel
theorem dX5_rowBits_96 : decode cX5_rowBits 96 = .ok (.iinc 5 (-1), 3) := by decide +kernel
theorem dX5_rowBits_99 : decode cX5_rowBits 99 = .ok (.goto (-26), 3) := by decide +kernel
theorem dX5_rowBits_102 : decode cX5_rowBits 102 = .ok (.iload 4, 2) := by decide +kernel
theorem dX5_rowBits_104 : decode cX5_rowBits 104 = .ok (.iload 5, 2) := by decide +kernel
theorem dX5_rowBits_106 : decode cX5_rowBits 106 = .ok (.invokestatic 44, 3) := by decide +kernel
theorem dX5_rowBits_109 : decode cX5_rowBits 109 = .ok (.lreturn, 1) := by decide +kernel
set_option maxRecDepth 20000 in
theorem ggX6_init_X5_init : GoodIn wsX6_init wsX5_init := goodIn_r _ [7, 8, 9, 10, 11, 12, 18, 19, 20, 21, 22, 23, 24, 13, 14, 15, 16, 17] (by decide +kernel) (by decide +kernel)
set_option maxRecDepth 20000 in
theorem gX6_init_X5_init : GoodIn wsX6_init (wsX5_init) := ggX6_init_X5_init
theorem dX6_init_0 : decode cX6_init 0 = .ok (.aload_n 0, 1) := by decide +kernel
theorem dX6_init_1 : decode cX6_init 1 = .ok (.iconst 3, 1) := by decide +kernel
theorem dX6_init_2 : decode cX6_init 2 = .ok (.aload_n 1, 1) := by decide +kernel
theorem dX6_init_3 : decode cX6_init 3 = .ok (.invokespecial 3, 3) := by decide +kernel
theorem dX6_init_6 : decode cX6_init 6 = .ok (.aload_n 0, 1) := by decide +kernel
theorem dX6_init_7 : decode cX6_init 7 = .ok (.aload_n 2, 1) := by decide +kernel
theorem dX6_init_8 : decode cX6_init 8 = .ok (.putfield 9, 3) := by decide +kernel
theorem dX6_init_11 : decode cX6_init 11 = .ok (.aload_n 0, 1) := by decide +kernel
theorem dX6_init_12 : decode cX6_init 12 = .ok (.aload_n 3, 1) := by decide +kernel
theorem dX6_init_13 : decode cX6_init 13 = .ok (.putfield 15, 3) := by decide +kernel
theorem dX6_init_16 : decode cX6_init 16 = .ok (.aload_n 0, 1) := by decide +kernel
theorem dX6_init_17 : decode cX6_init 17 = .ok (.aload 4, 2) := by decide +kernel
theorem dX6_init_19 : decode cX6_init 19 = .ok (.putfield 18, 3) := by decide +kernel
theorem dX6_init_22 : decode cX6_init 22 = .ok (.return_, 1) := by decide +kernel
set_option maxRecDepth 20000 in
theorem ggX6_holds_X6_sideOf : GoodIn wsX6_holds wsX6_sideOf := goodIn_r _ [7, 8, 9, 15, 16] (by decide +kernel) (by decide +kernel)
set_option maxRecDepth 20000 in
theorem gX6_holds_X6_sideOf : GoodIn wsX6_holds (va_wsS RX6 21 yX6_sideOf wsX6_sideOf) := goodIn_app (goodIn_of _ (by decide +kernel)) ggX6_holds_X6_sideOf
theorem dX6_holds_0 : decode cX6_holds 0 = .ok (.iconst 2, 1) := by decide +kernel
theorem dX6_holds_1 : decode cX6_holds 1 = .ok (.iload_n 1, 1) := by decide +kernel
theorem dX6_holds_2 : decode cX6_holds 2 = .ok (.imul, 1) := by decide +kernel
theorem dX6_holds_3 : decode cX6_holds 3 = .ok (.iconst 1, 1) := by decide +kernel
theorem dX6_holds_4 : decode cX6_holds 4 = .ok (.iadd, 1) := by decide +kernel
theorem dX6_holds_5 : decode cX6_holds 5 = .ok (.istore_n 3, 1) := by decide +kernel
theorem dX6_holds_6 : decode cX6_holds 6 = .ok (.iconst 2, 1) := by decide +kernel
theorem dX6_holds_7 : decode cX6_holds 7 = .ok (.iload_n 2, 1) := by decide +kernel
theorem dX6_holds_8 : decode cX6_holds 8 = .ok (.imul, 1) := by decide +kernel
theorem dX6_holds_9 : decode cX6_holds 9 = .ok (.iconst 1, 1) := by decide +kernel
theorem dX6_holds_10 : decode cX6_holds 10 = .ok (.iadd, 1) := by decide +kernel
theorem dX6_holds_11 : decode cX6_holds 11 = .ok (.istore 4, 2) := by decide +kernel
theorem dX6_holds_13 : decode cX6_holds 13 = .ok (.aload_n 0, 1) := by decide +kernel
theorem dX6_holds_14 : decode cX6_holds 14 = .ok (.getfield 9, 3) := by decide +kernel
theorem dX6_holds_17 : decode cX6_holds 17 = .ok (.aload_n 0, 1) := by decide +kernel
theorem dX6_holds_18 : decode cX6_holds 18 = .ok (.getfield 15, 3) := by decide +kernel
theorem dX6_holds_21 : decode cX6_holds 21 = .ok (.iload_n 3, 1) := by decide +kernel
theorem dX6_holds_22 : decode cX6_holds 22 = .ok (.iload 4, 2) := by decide +kernel
theorem dX6_holds_24 : decode cX6_holds 24 = .ok (.invokestatic 21, 3) := by decide +kernel
theorem dX6_holds_27 : decode cX6_holds 27 = .ok (.istore 5, 2) := by decide +kernel
theorem dX6_holds_29 : decode cX6_holds 29 = .ok (.aload_n 0, 1) := by decide +kernel
theorem dX6_holds_30 : decode cX6_holds 30 = .ok (.getfield 15, 3) := by decide +kernel
theorem dX6_holds_33 : decode cX6_holds 33 = .ok (.aload_n 0, 1) := by decide +kernel
theorem dX6_holds_34 : decode cX6_holds 34 = .ok (.getfield 18, 3) := by decide +kernel
theorem dX6_holds_37 : decode cX6_holds 37 = .ok (.iload_n 3, 1) := by decide +kernel
theorem dX6_holds_38 : decode cX6_holds 38 = .ok (.iload 4, 2) := by decide +kernel
theorem dX6_holds_40 : decode cX6_holds 40 = .ok (.invokestatic 21, 3) := by decide +kernel
theorem dX6_holds_43 : decode cX6_holds 43 = .ok (.istore 6, 2) := by decide +kernel
theorem dX6_holds_45 : decode cX6_holds 45 = .ok (.aload_n 0, 1) := by decide +kernel
theorem dX6_holds_46 : decode cX6_holds 46 = .ok (.getfield 18, 3) := by decide +kernel
theorem dX6_holds_49 : decode cX6_holds 49 = .ok (.aload_n 0, 1) := by decide +kernel
theorem dX6_holds_50 : decode cX6_holds 50 = .ok (.getfield 9, 3) := by decide +kernel
theorem dX6_holds_53 : decode cX6_holds 53 = .ok (.iload_n 3, 1) := by decide +kernel
theorem dX6_holds_54 : decode cX6_holds 54 = .ok (.iload 4, 2) := by decide +kernel
theorem dX6_holds_56 : decode cX6_holds 56 = .ok (.invokestatic 21, 3) := by decide +kernel
theorem dX6_holds_59 : decode cX6_holds 59 = .ok (.istore 7, 2) := by decide +kernel
theorem dX6_holds_61 : decode cX6_holds 61 = .ok (.iload 5, 2) := by decide +kernel
theorem dX6_holds_63 : decode cX6_holds 63 = .ok (.ifCond .lt 13, 3) := by decide +kernel
theorem dX6_holds_66 : decode cX6_holds 66 = .ok (.iload 6, 2) := by decide +kernel
theorem dX6_holds_68 : decode cX6_holds 68 = .ok (.ifCond .lt 8, 3) := by decide +kernel
theorem dX6_holds_71 : decode cX6_holds 71 = .ok (.iload 7, 2) := by decide +kernel
theorem dX6_holds_73 : decode cX6_holds 73 = .ok (.ifCond .ge 18, 3) := by decide +kernel
theorem dX6_holds_76 : decode cX6_holds 76 = .ok (.iload 5, 2) := by decide +kernel
theorem dX6_holds_78 : decode cX6_holds 78 = .ok (.ifCond .gt 17, 3) := by decide +kernel
theorem dX6_holds_81 : decode cX6_holds 81 = .ok (.iload 6, 2) := by decide +kernel
theorem dX6_holds_83 : decode cX6_holds 83 = .ok (.ifCond .gt 12, 3) := by decide +kernel
theorem dX6_holds_86 : decode cX6_holds 86 = .ok (.iload 7, 2) := by decide +kernel
theorem dX6_holds_88 : decode cX6_holds 88 = .ok (.ifCond .gt 7, 3) := by decide +kernel
theorem dX6_holds_91 : decode cX6_holds 91 = .ok (.iconst 1, 1) := by decide +kernel
theorem dX6_holds_92 : decode cX6_holds 92 = .ok (.goto 4, 3) := by decide +kernel
theorem dX6_holds_95 : decode cX6_holds 95 = .ok (.iconst 0, 1) := by decide +kernel
theorem dX6_holds_96 : decode cX6_holds 96 = .ok (.istore 8, 2) := by decide +kernel
theorem dX6_holds_98 : decode cX6_holds 98 = .ok (.iload 8, 2) := by decide +kernel
theorem dX6_holds_100 : decode cX6_holds 100 = .ok (.ifCond .eq 22, 3) := by decide +kernel
theorem dX6_holds_103 : decode cX6_holds 103 = .ok (.iload 5, 2) := by decide +kernel
theorem dX6_holds_105 : decode cX6_holds 105 = .ok (.ifCond .ne 13, 3) := by decide +kernel
theorem dX6_holds_108 : decode cX6_holds 108 = .ok (.iload 6, 2) := by decide +kernel
theorem dX6_holds_110 : decode cX6_holds 110 = .ok (.ifCond .ne 8, 3) := by decide +kernel
theorem dX6_holds_113 : decode cX6_holds 113 = .ok (.iload 7, 2) := by decide +kernel
theorem dX6_holds_115 : decode cX6_holds 115 = .ok (.ifCond .eq 7, 3) := by decide +kernel
theorem dX6_holds_118 : decode cX6_holds 118 = .ok (.iconst 1, 1) := by decide +kernel
theorem dX6_holds_119 : decode cX6_holds 119 = .ok (.goto 4, 3) := by decide +kernel
theorem dX6_holds_122 : decode cX6_holds 122 = .ok (.iconst 0, 1) := by decide +kernel
theorem dX6_holds_123 : decode cX6_holds 123 = .ok (.ireturn, 1) := by decide +kernel
theorem dX6_sideOf_0 : decode cX6_sideOf 0 = .ok (.iconst 2, 1) := by decide +kernel
theorem dX6_sideOf_1 : decode cX6_sideOf 1 = .ok (.aload_n 0, 1) := by decide +kernel
theorem dX6_sideOf_2 : decode cX6_sideOf 2 = .ok (.getfield 25, 3) := by decide +kernel
theorem dX6_sideOf_5 : decode cX6_sideOf 5 = .ok (.imul, 1) := by decide +kernel
theorem dX6_sideOf_6 : decode cX6_sideOf 6 = .ok (.istore 4, 2) := by decide +kernel
theorem dX6_sideOf_8 : decode cX6_sideOf 8 = .ok (.iconst 2, 1) := by decide +kernel
theorem dX6_sideOf_9 : decode cX6_sideOf 9 = .ok (.aload_n 0, 1) := by decide +kernel
theorem dX6_sideOf_10 : decode cX6_sideOf 10 = .ok (.getfield 31, 3) := by decide +kernel
theorem dX6_sideOf_13 : decode cX6_sideOf 13 = .ok (.imul, 1) := by decide +kernel
theorem dX6_sideOf_14 : decode cX6_sideOf 14 = .ok (.istore 5, 2) := by decide +kernel
theorem dX6_sideOf_16 : decode cX6_sideOf 16 = .ok (.iconst 2, 1) := by decide +kernel
theorem dX6_sideOf_17 : decode cX6_sideOf 17 = .ok (.aload_n 1, 1) := by decide +kernel
theorem dX6_sideOf_18 : decode cX6_sideOf 18 = .ok (.getfield 25, 3) := by decide +kernel
theorem dX6_sideOf_21 : decode cX6_sideOf 21 = .ok (.imul, 1) := by decide +kernel
theorem dX6_sideOf_22 : decode cX6_sideOf 22 = .ok (.iload 4, 2) := by decide +kernel
theorem dX6_sideOf_24 : decode cX6_sideOf 24 = .ok (.isub, 1) := by decide +kernel
theorem dX6_sideOf_25 : decode cX6_sideOf 25 = .ok (.iload_n 3, 1) := by decide +kernel
theorem dX6_sideOf_26 : decode cX6_sideOf 26 = .ok (.iload 5, 2) := by decide +kernel
theorem dX6_sideOf_28 : decode cX6_sideOf 28 = .ok (.isub, 1) := by decide +kernel
theorem dX6_sideOf_29 : decode cX6_sideOf 29 = .ok (.imul, 1) := by decide +kernel
theorem dX6_sideOf_30 : decode cX6_sideOf 30 = .ok (.iconst 2, 1) := by decide +kernel
theorem dX6_sideOf_31 : decode cX6_sideOf 31 = .ok (.aload_n 1, 1) := by decide +kernel
theorem dX6_sideOf_32 : decode cX6_sideOf 32 = .ok (.getfield 31, 3) := by decide +kernel
theorem dX6_sideOf_35 : decode cX6_sideOf 35 = .ok (.imul, 1) := by decide +kernel
theorem dX6_sideOf_36 : decode cX6_sideOf 36 = .ok (.iload 5, 2) := by decide +kernel
theorem dX6_sideOf_38 : decode cX6_sideOf 38 = .ok (.isub, 1) := by decide +kernel
theorem dX6_sideOf_39 : decode cX6_sideOf 39 = .ok (.iload_n 2, 1) := by decide +kernel
theorem dX6_sideOf_40 : decode cX6_sideOf 40 = .ok (.iload 4, 2) := by decide +kernel
theorem dX6_sideOf_42 : decode cX6_sideOf 42 = .ok (.isub, 1) := by decide +kernel
theorem dX6_sideOf_43 : decode cX6_sideOf 43 = .ok (.imul, 1) := by decide +kernel
theorem dX6_sideOf_44 : decode cX6_sideOf 44 = .ok (.isub, 1) := by decide +kernel
theorem dX6_sideOf_45 : decode cX6_sideOf 45 = .ok (.ireturn, 1) := by decide +kernel
set_option maxRecDepth 20000 in
theorem ggX7_init_X3_init : GoodIn wsX7_init wsX3_init := goodIn_r _ [20, 21, 2, 3, 22, 10, 11, 23, 24, 25, 26, 27, 28, 29, 30, 31, 32, 33, 34, 35, 36, 37, 38, 39, 40, 41, 42, 43, 44, 45, 46, 47, 48, 178, 179, 180, 159, 160, 161, 162, 163, 164, 165, 166, 167, 168, 169, 170, 171, 172, 173, 174, 175, 176, 177] (by decide +kernel) (by decide +kernel)
set_option maxRecDepth 20000 in
theorem gX7_init_X3_init : GoodIn wsX7_init (wsX3_init) := ggX7_init_X3_init
set_option maxRecDepth 20000 in
theorem ggX7_init_Jx4a65c_init_da8c8 : GoodIn wsX7_init wsJx4a65c_init_da8c8 := goodIn_r _ [36, 37, 38, 39, 40, 41, 42, 43, 44, 45, 46, 47, 48, 2, 3, 178, 179, 180] (by decide +kernel) (by decide +kernel)
set_option maxRecDepth 20000 in
theorem gX7_init_Jx4a65c_init_da8c8 : GoodIn wsX7_init (wsJx4a65c_init_da8c8) := ggX7_init_Jx4a65c_init_da8c8
set_option maxRecDepth 20000 in
theorem ggX7_init_X7_settle : GoodIn wsX7_init wsX7_settle := goodIn_r _ [54, 12, 8, 55, 56, 57, 58, 59, 11, 60, 61, 62, 38, 63, 64, 65, 66, 67, 68, 69, 70, 71, 72, 73, 74, 75, 76, 77, 78, 79, 37, 80, 81, 82, 83, 84, 85, 86, 87, 88, 89, 90, 91, 92, 93, 94, 95, 96, 97, 98, 99, 100, 101, 102, 103, 104, 105, 106, 107, 108, 109, 110, 111, 112, 113, 114, 115, 116, 117, 118, 119, 120, 121, 122, 123, 124, 125, 126, 127, 128, 129, 130, 131, 132, 133, 134, 135, 136, 7, 137, 33, 24, 138, 25, 139, 140, 27, 141, 26, 142, 28, 143, 144, 145, 146, 147, 148, 149, 150, 151, 152, 153, 154, 155, 156, 157, 158, 159, 160, 161, 162, 163, 164, 165, 166, 167, 168, 169, 170, 171, 172, 173, 174, 175, 176, 177, 178, 179, 180] (by decide +kernel) (by decide +kernel)
set_option maxRecDepth 20000 in
theorem gX7_init_X7_settle : GoodIn wsX7_init (wsV RX7 43 RX7 yX7_settle wsX7_settle) := goodIn_app (goodIn_of _ (by decide +kernel)) ggX7_init_X7_settle

theorem dX8_init_0 : decode cX8_init 0 = .ok (.aload_n 0, 1) := by decide +kernel
theorem dX8_init_1 : decode cX8_init 1 = .ok (.invokespecial 1, 3) := by decide +kernel
theorem dX8_init_4 : decode cX8_init 4 = .ok (.aload_n 0, 1) := by decide +kernel
theorem dX8_init_5 : decode cX8_init 5 = .ok (.bipush 40, 2) := by decide +kernel
theorem dX8_init_7 : decode cX8_init 7 = .ok (.anewarray 7, 3) := by decide +kernel
theorem dX8_init_10 : decode cX8_init 10 = .ok (.putfield 9, 3) := by decide +kernel
theorem dX8_init_13 : decode cX8_init 13 = .ok (.aload_n 0, 1) := by decide +kernel
theorem dX8_init_14 : decode cX8_init 14 = .ok (.bipush 40, 2) := by decide +kernel
theorem dX8_init_16 : decode cX8_init 16 = .ok (.iconst 0, 1) := by decide +kernel
theorem dX8_init_17 : decode cX8_init 17 = .ok (.multianewarray 15 2, 4) := by decide +kernel
theorem dX8_init_21 : decode cX8_init 21 = .ok (.putfield 16, 3) := by decide +kernel
theorem dX8_init_24 : decode cX8_init 24 = .ok (.aload_n 0, 1) := by decide +kernel
theorem dX8_init_25 : decode cX8_init 25 = .ok (.bipush 64, 2) := by decide +kernel
theorem dX8_init_27 : decode cX8_init 27 = .ok (.bipush 48, 2) := by decide +kernel
theorem dX8_init_29 : decode cX8_init 29 = .ok (.multianewarray 15 2, 4) := by decide +kernel
theorem dX8_init_33 : decode cX8_init 33 = .ok (.putfield 19, 3) := by decide +kernel
theorem dX8_init_36 : decode cX8_init 36 = .ok (.aload_n 0, 1) := by decide +kernel
theorem dX8_init_37 : decode cX8_init 37 = .ok (.iconst 0, 1) := by decide +kernel
theorem dX8_init_38 : decode cX8_init 38 = .ok (.iconst (-1), 1) := by decide +kernel
theorem dX8_init_39 : decode cX8_init 39 = .ok (.iconst 0, 1) := by decide +kernel
theorem dX8_init_40 : decode cX8_init 40 = .ok (.newarray .int, 2) := by decide +kernel
theorem dX8_init_42 : decode cX8_init 42 = .ok (.invokevirtual 22, 3) := by decide +kernel
theorem dX8_init_45 : decode cX8_init 45 = .ok (.pop, 1) := by decide +kernel
theorem dX8_init_46 : decode cX8_init 46 = .ok (.return_, 1) := by decide +kernel
set_option maxRecDepth 20000 in
theorem ggX8_add_X8_put : GoodIn wsX8_add wsX8_put := goodIn_r _ [9, 4, 1, 2, 10, 11, 12, 13, 14] (by decide +kernel) (by decide +kernel)
set_option maxRecDepth 20000 in
theorem gX8_add_X8_put : GoodIn wsX8_add (wsV RX8 30 RX8 yX8_put wsX8_put) := goodIn_app (goodIn_of _ (by decide +kernel)) ggX8_add_X8_put
theorem dX8_add_0 : decode cX8_add 0 = .ok (.bipush 18, 2) := by decide +kernel
theorem dX8_add_2 : decode cX8_add 2 = .ok (.newarray .int, 2) := by decide +kernel
theorem dX8_add_4 : decode cX8_add 4 = .ok (.astore 4, 2) := by decide +kernel
theorem dX8_add_6 : decode cX8_add 6 = .ok (.aload 4, 2) := by decide +kernel
theorem dX8_add_8 : decode cX8_add 8 = .ok (.iconst 0, 1) := by decide +kernel
theorem dX8_add_9 : decode cX8_add 9 = .ok (.iload_n 1, 1) := by decide +kernel
theorem dX8_add_10 : decode cX8_add 10 = .ok (.iastore, 1) := by decide +kernel
theorem dX8_add_11 : decode cX8_add 11 = .ok (.aload 4, 2) := by decide +kernel
theorem dX8_add_13 : decode cX8_add 13 = .ok (.iconst 1, 1) := by decide +kernel
theorem dX8_add_14 : decode cX8_add 14 = .ok (.iload_n 2, 1) := by decide +kernel
theorem dX8_add_15 : decode cX8_add 15 = .ok (.iastore, 1) := by decide +kernel
theorem dX8_add_16 : decode cX8_add 16 = .ok (.aload 4, 2) := by decide +kernel
theorem dX8_add_18 : decode cX8_add 18 = .ok (.iconst 4, 1) := by decide +kernel
theorem dX8_add_19 : decode cX8_add 19 = .ok (.iconst (-1), 1) := by decide +kernel
theorem dX8_add_20 : decode cX8_add 20 = .ok (.iastore, 1) := by decide +kernel
theorem dX8_add_21 : decode cX8_add 21 = .ok (.aload 4, 2) := by decide +kernel
theorem dX8_add_23 : decode cX8_add 23 = .ok (.iconst 5, 1) := by decide +kernel
theorem dX8_add_24 : decode cX8_add 24 = .ok (.bipush 8, 2) := by decide +kernel
theorem dX8_add_26 : decode cX8_add 26 = .ok (.iastore, 1) := by decide +kernel
theorem dX8_add_27 : decode cX8_add 27 = .ok (.iconst 0, 1) := by decide +kernel
theorem dX8_add_28 : decode cX8_add 28 = .ok (.istore 5, 2) := by decide +kernel
theorem dX8_add_30 : decode cX8_add 30 = .ok (.iload 5, 2) := by decide +kernel
theorem dX8_add_32 : decode cX8_add 32 = .ok (.aload_n 3, 1) := by decide +kernel
theorem dX8_add_33 : decode cX8_add 33 = .ok (.arraylength, 1) := by decide +kernel
theorem dX8_add_34 : decode cX8_add 34 = .ok (.if_icmp .ge 21, 3) := by decide +kernel
theorem dX8_add_37 : decode cX8_add 37 = .ok (.aload 4, 2) := by decide +kernel
theorem dX8_add_39 : decode cX8_add 39 = .ok (.bipush 12, 2) := by decide +kernel
theorem dX8_add_41 : decode cX8_add 41 = .ok (.iload 5, 2) := by decide +kernel
theorem dX8_add_43 : decode cX8_add 43 = .ok (.iadd, 1) := by decide +kernel
theorem dX8_add_44 : decode cX8_add 44 = .ok (.aload_n 3, 1) := by decide +kernel
theorem dX8_add_45 : decode cX8_add 45 = .ok (.iload 5, 2) := by decide +kernel
theorem dX8_add_47 : decode cX8_add 47 = .ok (.iaload, 1) := by decide +kernel
theorem dX8_add_48 : decode cX8_add 48 = .ok (.iastore, 1) := by decide +kernel
theorem dX8_add_49 : decode cX8_add 49 = .ok (.iinc 5 1, 3) := by decide +kernel
theorem dX8_add_52 : decode cX8_add 52 = .ok (.goto (-22), 3) := by decide +kernel
theorem dX8_add_55 : decode cX8_add 55 = .ok (.aload_n 0, 1) := by decide +kernel
theorem dX8_add_56 : decode cX8_add 56 = .ok (.getfield 9, 3) := by decide +kernel
theorem dX8_add_59 : decode cX8_add 59 = .ok (.aload_n 0, 1) := by decide +kernel
theorem dX8_add_60 : decode cX8_add 60 = .ok (.getfield 26, 3) := by decide +kernel
theorem dX8_add_63 : decode cX8_add 63 = .ok (.aload 4, 2) := by decide +kernel
theorem dX8_add_65 : decode cX8_add 65 = .ok (.aastore, 1) := by decide +kernel
theorem dX8_add_66 : decode cX8_add 66 = .ok (.iload_n 2, 1) := by decide +kernel
theorem dX8_add_67 : decode cX8_add 67 = .ok (.ifCond .lt 19, 3) := by decide +kernel
theorem dX8_add_70 : decode cX8_add 70 = .ok (.aload_n 0, 1) := by decide +kernel
theorem dX8_add_71 : decode cX8_add 71 = .ok (.aload_n 0, 1) := by decide +kernel
theorem dX8_add_72 : decode cX8_add 72 = .ok (.getfield 26, 3) := by decide +kernel
theorem dX8_add_75 : decode cX8_add 75 = .ok (.iload_n 2, 1) := by decide +kernel
theorem dX8_add_76 : decode cX8_add 76 = .ok (.aload_n 0, 1) := by decide +kernel
theorem dX8_add_77 : decode cX8_add 77 = .ok (.getfield 16, 3) := by decide +kernel
theorem dX8_add_80 : decode cX8_add 80 = .ok (.iload_n 2, 1) := by decide +kernel
theorem dX8_add_81 : decode cX8_add 81 = .ok (.aaload, 1) := by decide +kernel
theorem dX8_add_82 : decode cX8_add 82 = .ok (.arraylength, 1) := by decide +kernel
theorem dX8_add_83 : decode cX8_add 83 = .ok (.invokevirtual 30, 3) := by decide +kernel
theorem dX8_add_86 : decode cX8_add 86 = .ok (.aload_n 0, 1) := by decide +kernel
theorem dX8_add_87 : decode cX8_add 87 = .ok (.dup, 1) := by decide +kernel
theorem dX8_add_88 : decode cX8_add 88 = .ok (.getfield 26, 3) := by decide +kernel
theorem dX8_add_91 : decode cX8_add 91 = .ok (.iconst 1, 1) := by decide +kernel
theorem dX8_add_92 : decode cX8_add 92 = .ok (.iadd, 1) := by decide +kernel
theorem dX8_add_93 : decode cX8_add 93 = .ok (.putfield 26, 3) := by decide +kernel
theorem dX8_add_96 : decode cX8_add 96 = .ok (.aload_n 0, 1) := by decide +kernel
theorem dX8_add_97 : decode cX8_add 97 = .ok (.getfield 26, 3) := by decide +kernel
theorem dX8_add_100 : decode cX8_add 100 = .ok (.iconst 1, 1) := by decide +kernel
theorem dX8_add_101 : decode cX8_add 101 = .ok (.isub, 1) := by decide +kernel
theorem dX8_add_102 : decode cX8_add 102 = .ok (.ireturn, 1) := by decide +kernel
theorem dX8_put_0 : decode cX8_put 0 = .ok (.aload_n 0, 1) := by decide +kernel
theorem dX8_put_1 : decode cX8_put 1 = .ok (.getfield 16, 3) := by decide +kernel
theorem dX8_put_4 : decode cX8_put 4 = .ok (.iload_n 2, 1) := by decide +kernel
theorem dX8_put_5 : decode cX8_put 5 = .ok (.aaload, 1) := by decide +kernel
theorem dX8_put_6 : decode cX8_put 6 = .ok (.arraylength, 1) := by decide +kernel
theorem dX8_put_7 : decode cX8_put 7 = .ok (.iconst 1, 1) := by decide +kernel
theorem dX8_put_8 : decode cX8_put 8 = .ok (.iadd, 1) := by decide +kernel
theorem dX8_put_9 : decode cX8_put 9 = .ok (.newarray .int, 2) := by decide +kernel
theorem dX8_put_11 : decode cX8_put 11 = .ok (.astore 4, 2) := by decide +kernel
theorem dX8_put_13 : decode cX8_put 13 = .ok (.iconst 0, 1) := by decide +kernel
theorem dX8_put_14 : decode cX8_put 14 = .ok (.istore 5, 2) := by decide +kernel
theorem dX8_put_16 : decode cX8_put 16 = .ok (.iload 5, 2) := by decide +kernel
theorem dX8_put_18 : decode cX8_put 18 = .ok (.aload 4, 2) := by decide +kernel
theorem dX8_put_20 : decode cX8_put 20 = .ok (.arraylength, 1) := by decide +kernel
theorem dX8_put_21 : decode cX8_put 21 = .ok (.if_icmp .ge 53, 3) := by decide +kernel
theorem dX8_put_24 : decode cX8_put 24 = .ok (.aload 4, 2) := by decide +kernel
theorem dX8_put_26 : decode cX8_put 26 = .ok (.iload 5, 2) := by decide +kernel
theorem dX8_put_28 : decode cX8_put 28 = .ok (.iload 5, 2) := by decide +kernel
theorem dX8_put_30 : decode cX8_put 30 = .ok (.iload_n 3, 1) := by decide +kernel
theorem dX8_put_31 : decode cX8_put 31 = .ok (.if_icmp .ge 15, 3) := by decide +kernel
theorem dX8_put_34 : decode cX8_put 34 = .ok (.aload_n 0, 1) := by decide +kernel
theorem dX8_put_35 : decode cX8_put 35 = .ok (.getfield 16, 3) := by decide +kernel
theorem dX8_put_38 : decode cX8_put 38 = .ok (.iload_n 2, 1) := by decide +kernel
theorem dX8_put_39 : decode cX8_put 39 = .ok (.aaload, 1) := by decide +kernel
theorem dX8_put_40 : decode cX8_put 40 = .ok (.iload 5, 2) := by decide +kernel
theorem dX8_put_42 : decode cX8_put 42 = .ok (.iaload, 1) := by decide +kernel
theorem dX8_put_43 : decode cX8_put 43 = .ok (.goto 24, 3) := by decide +kernel
theorem dX8_put_46 : decode cX8_put 46 = .ok (.iload 5, 2) := by decide +kernel
theorem dX8_put_48 : decode cX8_put 48 = .ok (.iload_n 3, 1) := by decide +kernel
theorem dX8_put_49 : decode cX8_put 49 = .ok (.if_icmp .ne 7, 3) := by decide +kernel
theorem dX8_put_52 : decode cX8_put 52 = .ok (.iload_n 1, 1) := by decide +kernel
theorem dX8_put_53 : decode cX8_put 53 = .ok (.goto 14, 3) := by decide +kernel
theorem dX8_put_56 : decode cX8_put 56 = .ok (.aload_n 0, 1) := by decide +kernel
theorem dX8_put_57 : decode cX8_put 57 = .ok (.getfield 16, 3) := by decide +kernel
theorem dX8_put_60 : decode cX8_put 60 = .ok (.iload_n 2, 1) := by decide +kernel
theorem dX8_put_61 : decode cX8_put 61 = .ok (.aaload, 1) := by decide +kernel
theorem dX8_put_62 : decode cX8_put 62 = .ok (.iload 5, 2) := by decide +kernel
theorem dX8_put_64 : decode cX8_put 64 = .ok (.iconst 1, 1) := by decide +kernel
theorem dX8_put_65 : decode cX8_put 65 = .ok (.isub, 1) := by decide +kernel
theorem dX8_put_66 : decode cX8_put 66 = .ok (.iaload, 1) := by decide +kernel
theorem dX8_put_67 : decode cX8_put 67 = .ok (.iastore, 1) := by decide +kernel
theorem dX8_put_68 : decode cX8_put 68 = .ok (.iinc 5 1, 3) := by decide +kernel
theorem dX8_put_71 : decode cX8_put 71 = .ok (.goto (-55), 3) := by decide +kernel
theorem dX8_put_74 : decode cX8_put 74 = .ok (.aload_n 0, 1) := by decide +kernel
theorem dX8_put_75 : decode cX8_put 75 = .ok (.getfield 16, 3) := by decide +kernel
theorem dX8_put_78 : decode cX8_put 78 = .ok (.iload_n 2, 1) := by decide +kernel
theorem dX8_put_79 : decode cX8_put 79 = .ok (.aload 4, 2) := by decide +kernel
theorem dX8_put_81 : decode cX8_put 81 = .ok (.aastore, 1) := by decide +kernel
theorem dX8_put_82 : decode cX8_put 82 = .ok (.aload_n 0, 1) := by decide +kernel
theorem dX8_put_83 : decode cX8_put 83 = .ok (.getfield 9, 3) := by decide +kernel
theorem dX8_put_86 : decode cX8_put 86 = .ok (.iload_n 1, 1) := by decide +kernel
theorem dX8_put_87 : decode cX8_put 87 = .ok (.aaload, 1) := by decide +kernel
theorem dX8_put_88 : decode cX8_put 88 = .ok (.iconst 1, 1) := by decide +kernel
theorem dX8_put_89 : decode cX8_put 89 = .ok (.iload_n 2, 1) := by decide +kernel
theorem dX8_put_90 : decode cX8_put 90 = .ok (.iastore, 1) := by decide +kernel
theorem dX8_put_91 : decode cX8_put 91 = .ok (.return_, 1) := by decide +kernel
theorem dX8_place_0 : decode cX8_place 0 = .ok (.iconst 0, 1) := by decide +kernel
theorem dX8_place_1 : decode cX8_place 1 = .ok (.istore_n 2, 1) := by decide +kernel
theorem dX8_place_2 : decode cX8_place 2 = .ok (.aload_n 0, 1) := by decide +kernel
theorem dX8_place_3 : decode cX8_place 3 = .ok (.getfield 16, 3) := by decide +kernel
theorem dX8_place_6 : decode cX8_place 6 = .ok (.aload_n 0, 1) := by decide +kernel
theorem dX8_place_7 : decode cX8_place 7 = .ok (.getfield 9, 3) := by decide +kernel
theorem dX8_place_10 : decode cX8_place 10 = .ok (.iload_n 1, 1) := by decide +kernel
theorem dX8_place_11 : decode cX8_place 11 = .ok (.aaload, 1) := by decide +kernel
theorem dX8_place_12 : decode cX8_place 12 = .ok (.iconst 1, 1) := by decide +kernel
theorem dX8_place_13 : decode cX8_place 13 = .ok (.iaload, 1) := by decide +kernel
theorem dX8_place_14 : decode cX8_place 14 = .ok (.aaload, 1) := by decide +kernel
theorem dX8_place_15 : decode cX8_place 15 = .ok (.iload_n 2, 1) := by decide +kernel
theorem dX8_place_16 : decode cX8_place 16 = .ok (.iaload, 1) := by decide +kernel
theorem dX8_place_17 : decode cX8_place 17 = .ok (.iload_n 1, 1) := by decide +kernel
theorem dX8_place_18 : decode cX8_place 18 = .ok (.if_icmp .eq 9, 3) := by decide +kernel
theorem dX8_place_21 : decode cX8_place 21 = .ok (.iinc 2 1, 3) := by decide +kernel
theorem dX8_place_24 : decode cX8_place 24 = .ok (.goto (-22), 3) := by decide +kernel
theorem dX8_place_27 : decode cX8_place 27 = .ok (.iload_n 2, 1) := by decide +kernel
theorem dX8_place_28 : decode cX8_place 28 = .ok (.ireturn, 1) := by decide +kernel
set_option maxRecDepth 20000 in
theorem ggX8_take_X8_place : GoodIn wsX8_take wsX8_place := goodIn_r _ [8, 2, 1, 9, 10, 11, 12, 13] (by decide +kernel) (by decide +kernel)
set_option maxRecDepth 20000 in
theorem gX8_take_X8_place : GoodIn wsX8_take (wsV RX8 34 RX8 yX8_place wsX8_place) := goodIn_app (goodIn_of _ (by decide +kernel)) ggX8_take_X8_place
theorem dX8_take_0 : decode cX8_take 0 = .ok (.aload_n 0, 1) := by decide +kernel
theorem dX8_take_1 : decode cX8_take 1 = .ok (.getfield 9, 3) := by decide +kernel
theorem dX8_take_4 : decode cX8_take 4 = .ok (.iload_n 1, 1) := by decide +kernel
theorem dX8_take_5 : decode cX8_take 5 = .ok (.aaload, 1) := by decide +kernel
theorem dX8_take_6 : decode cX8_take 6 = .ok (.iconst 1, 1) := by decide +kernel
theorem dX8_take_7 : decode cX8_take 7 = .ok (.iaload, 1) := by decide +kernel
theorem dX8_take_8 : decode cX8_take 8 = .ok (.istore_n 2, 1) := by decide +kernel
theorem dX8_take_9 : decode cX8_take 9 = .ok (.aload_n 0, 1) := by decide +kernel
theorem dX8_take_10 : decode cX8_take 10 = .ok (.iload_n 1, 1) := by decide +kernel
theorem dX8_take_11 : decode cX8_take 11 = .ok (.invokevirtual 34, 3) := by decide +kernel
theorem dX8_take_14 : decode cX8_take 14 = .ok (.istore_n 3, 1) := by decide +kernel
theorem dX8_take_15 : decode cX8_take 15 = .ok (.aload_n 0, 1) := by decide +kernel
theorem dX8_take_16 : decode cX8_take 16 = .ok (.getfield 16, 3) := by decide +kernel
theorem dX8_take_19 : decode cX8_take 19 = .ok (.iload_n 2, 1) := by decide +kernel
theorem dX8_take_20 : decode cX8_take 20 = .ok (.aaload, 1) := by decide +kernel
theorem dX8_take_21 : decode cX8_take 21 = .ok (.arraylength, 1) := by decide +kernel
theorem dX8_take_22 : decode cX8_take 22 = .ok (.iconst 1, 1) := by decide +kernel
theorem dX8_take_23 : decode cX8_take 23 = .ok (.isub, 1) := by decide +kernel
theorem dX8_take_24 : decode cX8_take 24 = .ok (.newarray .int, 2) := by decide +kernel
theorem dX8_take_26 : decode cX8_take 26 = .ok (.astore 4, 2) := by decide +kernel
theorem dX8_take_28 : decode cX8_take 28 = .ok (.iconst 0, 1) := by decide +kernel
theorem dX8_take_29 : decode cX8_take 29 = .ok (.istore 5, 2) := by decide +kernel
theorem dX8_take_31 : decode cX8_take 31 = .ok (.iload 5, 2) := by decide +kernel
theorem dX8_take_33 : decode cX8_take 33 = .ok (.aload 4, 2) := by decide +kernel
theorem dX8_take_35 : decode cX8_take 35 = .ok (.arraylength, 1) := by decide +kernel
theorem dX8_take_36 : decode cX8_take 36 = .ok (.if_icmp .ge 36, 3) := by decide +kernel
theorem dX8_take_39 : decode cX8_take 39 = .ok (.aload 4, 2) := by decide +kernel
theorem dX8_take_41 : decode cX8_take 41 = .ok (.iload 5, 2) := by decide +kernel
theorem dX8_take_43 : decode cX8_take 43 = .ok (.aload_n 0, 1) := by decide +kernel
theorem dX8_take_44 : decode cX8_take 44 = .ok (.getfield 16, 3) := by decide +kernel
theorem dX8_take_47 : decode cX8_take 47 = .ok (.iload_n 2, 1) := by decide +kernel
theorem dX8_take_48 : decode cX8_take 48 = .ok (.aaload, 1) := by decide +kernel
theorem dX8_take_49 : decode cX8_take 49 = .ok (.iload 5, 2) := by decide +kernel
theorem dX8_take_51 : decode cX8_take 51 = .ok (.iload_n 3, 1) := by decide +kernel
theorem dX8_take_52 : decode cX8_take 52 = .ok (.if_icmp .ge 8, 3) := by decide +kernel
theorem dX8_take_55 : decode cX8_take 55 = .ok (.iload 5, 2) := by decide +kernel
theorem dX8_take_57 : decode cX8_take 57 = .ok (.goto 7, 3) := by decide +kernel
theorem dX8_take_60 : decode cX8_take 60 = .ok (.iload 5, 2) := by decide +kernel
theorem dX8_take_62 : decode cX8_take 62 = .ok (.iconst 1, 1) := by decide +kernel
theorem dX8_take_63 : decode cX8_take 63 = .ok (.iadd, 1) := by decide +kernel
theorem dX8_take_64 : decode cX8_take 64 = .ok (.iaload, 1) := by decide +kernel
theorem dX8_take_65 : decode cX8_take 65 = .ok (.iastore, 1) := by decide +kernel
theorem dX8_take_66 : decode cX8_take 66 = .ok (.iinc 5 1, 3) := by decide +kernel
theorem dX8_take_69 : decode cX8_take 69 = .ok (.goto (-38), 3) := by decide +kernel
theorem dX8_take_72 : decode cX8_take 72 = .ok (.aload_n 0, 1) := by decide +kernel
theorem dX8_take_73 : decode cX8_take 73 = .ok (.getfield 16, 3) := by decide +kernel
theorem dX8_take_76 : decode cX8_take 76 = .ok (.iload_n 2, 1) := by decide +kernel
theorem dX8_take_77 : decode cX8_take 77 = .ok (.aload 4, 2) := by decide +kernel
theorem dX8_take_79 : decode cX8_take 79 = .ok (.aastore, 1) := by decide +kernel
theorem dX8_take_80 : decode cX8_take 80 = .ok (.return_, 1) := by decide +kernel
set_option maxRecDepth 20000 in
theorem ggX8_isAbove_X8_isAbove : GoodIn wsX8_isAbove wsX8_isAbove := goodIn_r _ [0, 1, 2, 3, 4, 5, 6, 7, 8, 9, 10] (by decide +kernel) (by decide +kernel)
set_option maxRecDepth 20000 in
theorem gX8_isAbove_X8_isAbove : GoodIn wsX8_isAbove (wsV RX8 38 RX8 yX8_isAbove wsX8_isAbove) := goodIn_app (goodIn_of _ (by decide +kernel)) ggX8_isAbove_X8_isAbove
theorem dX8_isAbove_0 : decode cX8_isAbove 0 = .ok (.iload_n 2, 1) := by decide +kernel
theorem dX8_isAbove_1 : decode cX8_isAbove 1 = .ok (.ifCond .lt 28, 3) := by decide +kernel
theorem dX8_isAbove_4 : decode cX8_isAbove 4 = .ok (.iload_n 2, 1) := by decide +kernel
theorem dX8_isAbove_5 : decode cX8_isAbove 5 = .ok (.iload_n 1, 1) := by decide +kernel
theorem dX8_isAbove_6 : decode cX8_isAbove 6 = .ok (.if_icmp .eq 19, 3) := by decide +kernel
theorem dX8_isAbove_9 : decode cX8_isAbove 9 = .ok (.aload_n 0, 1) := by decide +kernel
theorem dX8_isAbove_10 : decode cX8_isAbove 10 = .ok (.iload_n 1, 1) := by decide +kernel
theorem dX8_isAbove_11 : decode cX8_isAbove 11 = .ok (.aload_n 0, 1) := by decide +kernel
theorem dX8_isAbove_12 : decode cX8_isAbove 12 = .ok (.getfield 9, 3) := by decide +kernel
theorem dX8_isAbove_15 : decode cX8_isAbove 15 = .ok (.iload_n 2, 1) := by decide +kernel
theorem dX8_isAbove_16 : decode cX8_isAbove 16 = .ok (.aaload, 1) := by decide +kernel
theorem dX8_isAbove_17 : decode cX8_isAbove 17 = .ok (.iconst 1, 1) := by decide +kernel
theorem dX8_isAbove_18 : decode cX8_isAbove 18 = .ok (.iaload, 1) := by decide +kernel
theorem dX8_isAbove_19 : decode cX8_isAbove 19 = .ok (.invokevirtual 38, 3) := by decide +kernel
theorem dX8_isAbove_22 : decode cX8_isAbove 22 = .ok (.ifCond .eq 7, 3) := by decide +kernel
theorem dX8_isAbove_25 : decode cX8_isAbove 25 = .ok (.iconst 1, 1) := by decide +kernel
theorem dX8_isAbove_26 : decode cX8_isAbove 26 = .ok (.goto 4, 3) := by decide +kernel
theorem dX8_isAbove_29 : decode cX8_isAbove 29 = .ok (.iconst 0, 1) := by decide +kernel
theorem dX8_isAbove_30 : decode cX8_isAbove 30 = .ok (.ireturn, 1) := by decide +kernel
set_option maxRecDepth 20000 in
theorem ggX8_gone_X8_gone : GoodIn wsX8_gone wsX8_gone := goodIn_r _ [0, 1, 2, 3, 4, 5, 6, 7, 8, 9, 10, 11] (by decide +kernel) (by decide +kernel)
set_option maxRecDepth 20000 in
theorem gX8_gone_X8_gone : GoodIn wsX8_gone (wsV RX8 42 RX8 yX8_gone wsX8_gone) := goodIn_app (goodIn_of _ (by decide +kernel)) ggX8_gone_X8_gone
theorem dX8_gone_0 : decode cX8_gone 0 = .ok (.iconst 1, 1) := by decide +kernel
theorem dX8_gone_1 : decode cX8_gone 1 = .ok (.istore_n 2, 1) := by decide +kernel
theorem dX8_gone_2 : decode cX8_gone 2 = .ok (.aload_n 0, 1) := by decide +kernel
theorem dX8_gone_3 : decode cX8_gone 3 = .ok (.getfield 16, 3) := by decide +kernel
theorem dX8_gone_6 : decode cX8_gone 6 = .ok (.iload_n 1, 1) := by decide +kernel
theorem dX8_gone_7 : decode cX8_gone 7 = .ok (.aaload, 1) := by decide +kernel
theorem dX8_gone_8 : decode cX8_gone 8 = .ok (.astore_n 3, 1) := by decide +kernel
theorem dX8_gone_9 : decode cX8_gone 9 = .ok (.aload_n 3, 1) := by decide +kernel
theorem dX8_gone_10 : decode cX8_gone 10 = .ok (.arraylength, 1) := by decide +kernel
theorem dX8_gone_11 : decode cX8_gone 11 = .ok (.istore 4, 2) := by decide +kernel
theorem dX8_gone_13 : decode cX8_gone 13 = .ok (.iconst 0, 1) := by decide +kernel
theorem dX8_gone_14 : decode cX8_gone 14 = .ok (.istore 5, 2) := by decide +kernel
theorem dX8_gone_16 : decode cX8_gone 16 = .ok (.iload 5, 2) := by decide +kernel
theorem dX8_gone_18 : decode cX8_gone 18 = .ok (.iload 4, 2) := by decide +kernel
theorem dX8_gone_20 : decode cX8_gone 20 = .ok (.if_icmp .ge 24, 3) := by decide +kernel
theorem dX8_gone_23 : decode cX8_gone 23 = .ok (.aload_n 3, 1) := by decide +kernel
theorem dX8_gone_24 : decode cX8_gone 24 = .ok (.iload 5, 2) := by decide +kernel
theorem dX8_gone_26 : decode cX8_gone 26 = .ok (.iaload, 1) := by decide +kernel
theorem dX8_gone_27 : decode cX8_gone 27 = .ok (.istore 6, 2) := by decide +kernel
theorem dX8_gone_29 : decode cX8_gone 29 = .ok (.iload_n 2, 1) := by decide +kernel
theorem dX8_gone_30 : decode cX8_gone 30 = .ok (.aload_n 0, 1) := by decide +kernel
theorem dX8_gone_31 : decode cX8_gone 31 = .ok (.iload 6, 2) := by decide +kernel
theorem dX8_gone_33 : decode cX8_gone 33 = .ok (.invokevirtual 42, 3) := by decide +kernel
theorem dX8_gone_36 : decode cX8_gone 36 = .ok (.iadd, 1) := by decide +kernel
theorem dX8_gone_37 : decode cX8_gone 37 = .ok (.istore_n 2, 1) := by decide +kernel
theorem dX8_gone_38 : decode cX8_gone 38 = .ok (.iinc 5 1, 3) := by decide +kernel
theorem dX8_gone_41 : decode cX8_gone 41 = .ok (.goto (-25), 3) := by decide +kernel
theorem dX8_gone_44 : decode cX8_gone 44 = .ok (.aload_n 0, 1) := by decide +kernel
theorem dX8_gone_45 : decode cX8_gone 45 = .ok (.getfield 9, 3) := by decide +kernel
theorem dX8_gone_48 : decode cX8_gone 48 = .ok (.iload_n 1, 1) := by decide +kernel
theorem dX8_gone_49 : decode cX8_gone 49 = .ok (.aconst_null, 1) := by decide +kernel
theorem dX8_gone_50 : decode cX8_gone 50 = .ok (.aastore, 1) := by decide +kernel
theorem dX8_gone_51 : decode cX8_gone 51 = .ok (.iload_n 2, 1) := by decide +kernel
theorem dX8_gone_52 : decode cX8_gone 52 = .ok (.ireturn, 1) := by decide +kernel

theorem dX7_init_0 : decode cX7_init 0 = .ok (.aload_n 0, 1) := by decide +kernel
theorem dX7_init_1 : decode cX7_init 1 = .ok (.invokespecial 3, 3) := by decide +kernel
theorem dX7_init_4 : decode cX7_init 4 = .ok (.aload_n 0, 1) := by decide +kernel
theorem dX7_init_5 : decode cX7_init 5 = .ok (.bipush 40, 2) := by decide +kernel
theorem dX7_init_7 : decode cX7_init 7 = .ok (.anewarray 9, 3) := by decide +kernel
theorem dX7_init_10 : decode cX7_init 10 = .ok (.putfield 11, 3) := by decide +kernel
theorem dX7_init_13 : decode cX7_init 13 = .ok (.aload_n 0, 1) := by decide +kernel
theorem dX7_init_14 : decode cX7_init 14 = .ok (.new 9, 3) := by decide +kernel
theorem dX7_init_17 : decode cX7_init 17 = .ok (.dup, 1) := by decide +kernel
theorem dX7_init_18 : decode cX7_init 18 = .ok (.iconst 0, 1) := by decide +kernel
theorem dX7_init_19 : decode cX7_init 19 = .ok (.aconst_null, 1) := by decide +kernel
theorem dX7_init_20 : decode cX7_init 20 = .ok (.aconst_null, 1) := by decide +kernel
theorem dX7_init_21 : decode cX7_init 21 = .ok (.invokespecial 15, 3) := by decide +kernel
theorem dX7_init_24 : decode cX7_init 24 = .ok (.putfield 18, 3) := by decide +kernel
theorem dX7_init_27 : decode cX7_init 27 = .ok (.aload_n 0, 1) := by decide +kernel
theorem dX7_init_28 : decode cX7_init 28 = .ok (.new 22, 3) := by decide +kernel
theorem dX7_init_31 : decode cX7_init 31 = .ok (.dup, 1) := by decide +kernel
theorem dX7_init_32 : decode cX7_init 32 = .ok (.invokespecial 24, 3) := by decide +kernel
theorem dX7_init_35 : decode cX7_init 35 = .ok (.putfield 25, 3) := by decide +kernel
theorem dX7_init_38 : decode cX7_init 38 = .ok (.aload_n 0, 1) := by decide +kernel
theorem dX7_init_39 : decode cX7_init 39 = .ok (.sipush 3072, 3) := by decide +kernel
theorem dX7_init_42 : decode cX7_init 42 = .ok (.newarray .int, 2) := by decide +kernel
theorem dX7_init_44 : decode cX7_init 44 = .ok (.putfield 29, 3) := by decide +kernel
theorem dX7_init_47 : decode cX7_init 47 = .ok (.aload_n 0, 1) := by decide +kernel
theorem dX7_init_48 : decode cX7_init 48 = .ok (.bipush 64, 2) := by decide +kernel
theorem dX7_init_50 : decode cX7_init 50 = .ok (.newarray .int, 2) := by decide +kernel
theorem dX7_init_52 : decode cX7_init 52 = .ok (.putfield 33, 3) := by decide +kernel
theorem dX7_init_55 : decode cX7_init 55 = .ok (.aload_n 0, 1) := by decide +kernel
theorem dX7_init_56 : decode cX7_init 56 = .ok (.iconst 1, 1) := by decide +kernel
theorem dX7_init_57 : decode cX7_init 57 = .ok (.putfield 36, 3) := by decide +kernel
theorem dX7_init_60 : decode cX7_init 60 = .ok (.aload_n 0, 1) := by decide +kernel
theorem dX7_init_61 : decode cX7_init 61 = .ok (.iconst 0, 1) := by decide +kernel
theorem dX7_init_62 : decode cX7_init 62 = .ok (.putfield 40, 3) := by decide +kernel
theorem dX7_init_65 : decode cX7_init 65 = .ok (.aload_n 0, 1) := by decide +kernel
theorem dX7_init_66 : decode cX7_init 66 = .ok (.getfield 11, 3) := by decide +kernel
theorem dX7_init_69 : decode cX7_init 69 = .ok (.iconst 0, 1) := by decide +kernel
theorem dX7_init_70 : decode cX7_init 70 = .ok (.aload_n 0, 1) := by decide +kernel
theorem dX7_init_71 : decode cX7_init 71 = .ok (.getfield 18, 3) := by decide +kernel
theorem dX7_init_74 : decode cX7_init 74 = .ok (.aastore, 1) := by decide +kernel
theorem dX7_init_75 : decode cX7_init 75 = .ok (.aload_n 0, 1) := by decide +kernel
theorem dX7_init_76 : decode cX7_init 76 = .ok (.invokevirtual 43, 3) := by decide +kernel
theorem dX7_init_79 : decode cX7_init 79 = .ok (.return_, 1) := by decide +kernel
set_option maxRecDepth 20000 in
theorem ggX7_addGroup_X7_find : GoodIn wsX7_addGroup wsX7_find := goodIn_ca (goodIn_r _ [5, 6, 7, 8, 9, 10, 4, 11, 166, 167, 168, 169, 170, 171, 172] (by decide +kernel) (by decide +kernel)) (goodIn_sub (fun _ h => List.mem_cons_of_mem _ (List.mem_append_left _ (List.mem_append_right _ h))) (by decide +kernel))
set_option maxRecDepth 20000 in
theorem gX7_addGroup_X7_find : GoodIn wsX7_addGroup (wsV RX7 46 RX7 yX7_find wsX7_find) := goodIn_app (goodIn_of _ (by decide +kernel)) ggX7_addGroup_X7_find
set_option maxRecDepth 20000 in
theorem ggX7_addGroup_X7_checkTakesMore : GoodIn wsX7_addGroup wsX7_checkTakesMore := goodIn_ca (goodIn_r _ [15, 16, 17, 18, 19, 173, 174, 175, 176, 177, 178, 179, 180, 181, 182, 183, 184, 185, 186, 187, 188, 189, 190, 191, 166, 167, 168, 169, 170, 171, 172] (by decide +kernel) (by decide +kernel)) (goodIn_sub (fun _ h => List.mem_cons_of_mem _ (List.mem_append_right _ h)) (by decide +kernel))
set_option maxRecDepth 20000 in
theorem gX7_addGroup_X7_checkTakesMore : GoodIn wsX7_addGroup (wsV RX7 50 RX7 yX7_checkTakesMore wsX7_checkTakesMore) := goodIn_app (goodIn_of _ (by decide +kernel)) ggX7_addGroup_X7_checkTakesMore
set_option maxRecDepth 20000 in
theorem ggX7_addGroup_X7_append : GoodIn wsX7_addGroup wsX7_append := goodIn_r _ [23, 24, 25, 26, 19, 8, 27, 28, 29, 30, 31, 32, 33, 34, 35, 36, 37, 38, 39, 40, 41, 42, 43, 44, 45, 46, 47, 48, 49, 50, 51, 52, 53, 54, 55, 56, 57, 58, 59, 60, 61, 62, 63, 64, 65, 66, 67, 68, 69, 70, 71, 72, 73, 74, 75, 76, 77, 78, 79, 80, 81, 82, 83, 84, 85, 86, 87, 88, 89, 90, 91, 92, 93, 94, 95, 96, 97, 98, 99, 100, 101, 102, 103, 104, 105, 106, 107, 108, 109, 110, 111, 112, 113, 114, 115, 116, 117, 118, 119, 4, 120, 121, 122, 123, 124, 125, 126, 127, 128, 129, 130, 131, 132, 133, 134, 135, 136, 137, 138, 139, 140, 141, 142, 143, 144, 145, 146, 147, 148, 149, 150, 151, 152, 153, 154, 155, 156, 157, 158, 159, 160, 161, 162, 163, 164, 165, 173, 174, 175, 176, 177, 178, 179, 180, 181, 182, 183, 184, 185, 186, 187, 188, 189, 190, 191, 166, 167, 168, 169, 170, 171, 172, 192, 193, 194] (by decide +kernel) (by decide +kernel)
set_option maxRecDepth 20000 in
theorem gX7_addGroup_X7_append : GoodIn wsX7_addGroup (wsV RX7 54 RX7 yX7_append wsX7_append) := goodIn_app (goodIn_of _ (by decide +kernel)) ggX7_addGroup_X7_append
theorem dX7_addGroup_0 : decode cX7_addGroup 0 = .ok (.aload_n 0, 1) := by decide +kernel
theorem dX7_addGroup_1 : decode cX7_addGroup 1 = .ok (.iload_n 1, 1) := by decide +kernel
theorem dX7_addGroup_2 : decode cX7_addGroup 2 = .ok (.invokevirtual 46, 3) := by decide +kernel
theorem dX7_addGroup_5 : decode cX7_addGroup 5 = .ok (.astore_n 2, 1) := by decide +kernel
theorem dX7_addGroup_6 : decode cX7_addGroup 6 = .ok (.aload_n 0, 1) := by decide +kernel
theorem dX7_addGroup_7 : decode cX7_addGroup 7 = .ok (.aload_n 2, 1) := by decide +kernel
theorem dX7_addGroup_8 : decode cX7_addGroup 8 = .ok (.invokevirtual 50, 3) := by decide +kernel
theorem dX7_addGroup_11 : decode cX7_addGroup 11 = .ok (.aload_n 0, 1) := by decide +kernel
theorem dX7_addGroup_12 : decode cX7_addGroup 12 = .ok (.aload_n 2, 1) := by decide +kernel
theorem dX7_addGroup_13 : decode cX7_addGroup 13 = .ok (.aconst_null, 1) := by decide +kernel
theorem dX7_addGroup_14 : decode cX7_addGroup 14 = .ok (.invokevirtual 54, 3) := by decide +kernel
theorem dX7_addGroup_17 : decode cX7_addGroup 17 = .ok (.ireturn, 1) := by decide +kernel
set_option maxRecDepth 20000 in
theorem ggX7_addRectangle_X7_find : GoodIn wsX7_addRectangle wsX7_find := goodIn_ca (goodIn_r _ [11, 12, 13, 14, 15, 16, 10, 17, 204, 205, 206, 207, 208, 209, 210] (by decide +kernel) (by decide +kernel)) (goodIn_sub (fun _ h => List.mem_cons_of_mem _ (List.mem_append_left _ (List.mem_append_left _ (List.mem_append_right _ h)))) (by decide +kernel))
set_option maxRecDepth 20000 in
theorem gX7_addRectangle_X7_find : GoodIn wsX7_addRectangle (wsV RX7 46 RX7 yX7_find wsX7_find) := goodIn_app (goodIn_of _ (by decide +kernel)) ggX7_addRectangle_X7_find
set_option maxRecDepth 20000 in
theorem ggX7_addRectangle_X7_checkPoint : GoodIn wsX7_addRectangle wsX7_checkPoint := goodIn_ca (goodIn_r _ [20, 21, 22, 10, 23, 24, 25] (by decide +kernel) (by decide +kernel)) (goodIn_sub (fun _ h => List.mem_cons_of_mem _ (List.mem_append_left _ (List.mem_append_right _ h))) (by decide +kernel))
set_option maxRecDepth 20000 in
theorem gX7_addRectangle_X7_checkPoint : GoodIn wsX7_addRectangle (va_wsS RX7 58 yX7_checkPoint wsX7_checkPoint) := goodIn_app (goodIn_of _ (by decide +kernel)) ggX7_addRectangle_X7_checkPoint
set_option maxRecDepth 20000 in
theorem ggX7_addRectangle_X7_checkRange : GoodIn wsX7_addRectangle wsX7_checkRange := goodIn_ca (goodIn_r _ [23, 24, 25] (by decide +kernel) (by decide +kernel)) (goodIn_sub (fun _ h => List.mem_cons_of_mem _ (List.mem_append_left _ (List.mem_append_right _ h))) (by decide +kernel))
set_option maxRecDepth 20000 in
theorem gX7_addRectangle_X7_checkRange : GoodIn wsX7_addRectangle (va_wsS RX7 62 yX7_checkRange wsX7_checkRange) := goodIn_app (goodIn_of _ (by decide +kernel)) ggX7_addRectangle_X7_checkRange
set_option maxRecDepth 20000 in
theorem ggX7_addRectangle_X7_checkTakesMore : GoodIn wsX7_addRectangle wsX7_checkTakesMore := goodIn_ca (goodIn_r _ [29, 30, 31, 32, 33, 211, 212, 213, 214, 215, 216, 217, 218, 219, 220, 221, 222, 223, 224, 225, 226, 227, 228, 229, 204, 205, 206, 207, 208, 209, 210] (by decide +kernel) (by decide +kernel)) (goodIn_sub (fun _ h => List.mem_cons_of_mem _ (List.mem_append_right _ h)) (by decide +kernel))
set_option maxRecDepth 20000 in
theorem gX7_addRectangle_X7_checkTakesMore : GoodIn wsX7_addRectangle (wsV RX7 50 RX7 yX7_checkTakesMore wsX7_checkTakesMore) := goodIn_app (goodIn_of _ (by decide +kernel)) ggX7_addRectangle_X7_checkTakesMore
set_option maxRecDepth 20000 in
theorem ggX7_addRectangle_X0_init : GoodIn wsX7_addRectangle wsX0_init := goodIn_r _ [36, 37, 38, 39, 40, 41, 42, 43, 200, 201, 202, 203] (by decide +kernel) (by decide +kernel)
set_option maxRecDepth 20000 in
theorem gX7_addRectangle_X0_init : GoodIn wsX7_addRectangle (wsX0_init) := ggX7_addRectangle_X0_init
set_option maxRecDepth 20000 in
theorem ggX7_addRectangle_X4_init : GoodIn wsX7_addRectangle wsX4_init := goodIn_r _ [46, 47, 48, 49, 50, 51, 38, 39, 52, 53, 230, 231, 232, 233, 234, 198, 199, 235, 236, 237, 238, 239] (by decide +kernel) (by decide +kernel)
set_option maxRecDepth 20000 in
theorem gX7_addRectangle_X4_init : GoodIn wsX7_addRectangle (wsX4_init) := ggX7_addRectangle_X4_init
set_option maxRecDepth 20000 in
theorem ggX7_addRectangle_X7_append : GoodIn wsX7_addRectangle wsX7_append := goodIn_r _ [57, 58, 59, 60, 33, 14, 61, 62, 63, 64, 65, 66, 38, 39, 67, 68, 69, 70, 71, 72, 73, 74, 75, 76, 77, 78, 79, 80, 81, 82, 83, 84, 85, 86, 87, 88, 89, 90, 91, 92, 93, 94, 95, 96, 97, 98, 99, 100, 101, 102, 103, 104, 105, 106, 107, 108, 109, 110, 111, 112, 113, 114, 115, 116, 117, 118, 119, 120, 121, 122, 123, 124, 125, 126, 127, 128, 129, 130, 131, 132, 133, 134, 135, 136, 137, 138, 139, 140, 141, 142, 143, 144, 145, 146, 147, 148, 149, 150, 151, 10, 152, 153, 154, 155, 156, 157, 158, 159, 160, 161, 162, 163, 164, 165, 166, 167, 168, 169, 170, 171, 172, 173, 174, 175, 176, 177, 178, 179, 180, 181, 182, 183, 184, 185, 186, 187, 188, 189, 190, 191, 192, 193, 194, 195, 196, 197, 211, 212, 213, 214, 215, 216, 217, 218, 219, 220, 221, 222, 223, 224, 225, 226, 227, 228, 229, 204, 205, 206, 207, 208, 209, 210, 240, 241, 242] (by decide +kernel) (by decide +kernel)
set_option maxRecDepth 20000 in
theorem gX7_addRectangle_X7_append : GoodIn wsX7_addRectangle (wsV RX7 54 RX7 yX7_append wsX7_append) := goodIn_app (goodIn_of _ (by decide +kernel)) ggX7_addRectangle_X7_append
theorem dX7_addRectangle_0 : decode cX7_addRectangle 0 = .ok (.aload_n 0, 1) := by decide +kernel
theorem dX7_addRectangle_1 : decode cX7_addRectangle 1 = .ok (.iload_n 1, 1) := by decide +kernel
theorem dX7_addRectangle_2 : decode cX7_addRectangle 2 = .ok (.invokevirtual 46, 3) := by decide +kernel
theorem dX7_addRectangle_5 : decode cX7_addRectangle 5 = .ok (.astore 6, 2) := by decide +kernel
theorem dX7_addRectangle_7 : decode cX7_addRectangle 7 = .ok (.iload_n 2, 1) := by decide +kernel
theorem dX7_addRectangle_8 : decode cX7_addRectangle 8 = .ok (.iload_n 3, 1) := by decide +kernel
theorem dX7_addRectangle_9 : decode cX7_addRectangle 9 = .ok (.invokestatic 58, 3) := by decide +kernel
theorem dX7_addRectangle_12 : decode cX7_addRectangle 12 = .ok (.iload 4, 2) := by decide +kernel
theorem dX7_addRectangle_14 : decode cX7_addRectangle 14 = .ok (.iconst 1, 1) := by decide +kernel
theorem dX7_addRectangle_15 : decode cX7_addRectangle 15 = .ok (.bipush 100, 2) := by decide +kernel
theorem dX7_addRectangle_17 : decode cX7_addRectangle 17 = .ok (.invokestatic 62, 3) := by decide +kernel
theorem dX7_addRectangle_20 : decode cX7_addRectangle 20 = .ok (.iload 5, 2) := by decide +kernel
theorem dX7_addRectangle_22 : decode cX7_addRectangle 22 = .ok (.iconst 1, 1) := by decide +kernel
theorem dX7_addRectangle_23 : decode cX7_addRectangle 23 = .ok (.bipush 100, 2) := by decide +kernel
theorem dX7_addRectangle_25 : decode cX7_addRectangle 25 = .ok (.invokestatic 62, 3) := by decide +kernel
theorem dX7_addRectangle_28 : decode cX7_addRectangle 28 = .ok (.aload_n 0, 1) := by decide +kernel
theorem dX7_addRectangle_29 : decode cX7_addRectangle 29 = .ok (.aload 6, 2) := by decide +kernel
theorem dX7_addRectangle_31 : decode cX7_addRectangle 31 = .ok (.invokevirtual 50, 3) := by decide +kernel
theorem dX7_addRectangle_34 : decode cX7_addRectangle 34 = .ok (.aload_n 0, 1) := by decide +kernel
theorem dX7_addRectangle_35 : decode cX7_addRectangle 35 = .ok (.aload 6, 2) := by decide +kernel
theorem dX7_addRectangle_37 : decode cX7_addRectangle 37 = .ok (.new 66, 3) := by decide +kernel
theorem dX7_addRectangle_40 : decode cX7_addRectangle 40 = .ok (.dup, 1) := by decide +kernel
theorem dX7_addRectangle_41 : decode cX7_addRectangle 41 = .ok (.new 68, 3) := by decide +kernel
theorem dX7_addRectangle_44 : decode cX7_addRectangle 44 = .ok (.dup, 1) := by decide +kernel
theorem dX7_addRectangle_45 : decode cX7_addRectangle 45 = .ok (.iload_n 2, 1) := by decide +kernel
theorem dX7_addRectangle_46 : decode cX7_addRectangle 46 = .ok (.iload_n 3, 1) := by decide +kernel
theorem dX7_addRectangle_47 : decode cX7_addRectangle 47 = .ok (.iload 4, 2) := by decide +kernel
theorem dX7_addRectangle_49 : decode cX7_addRectangle 49 = .ok (.iload 5, 2) := by decide +kernel
theorem dX7_addRectangle_51 : decode cX7_addRectangle 51 = .ok (.invokespecial 70, 3) := by decide +kernel
theorem dX7_addRectangle_54 : decode cX7_addRectangle 54 = .ok (.invokespecial 73, 3) := by decide +kernel
theorem dX7_addRectangle_57 : decode cX7_addRectangle 57 = .ok (.invokevirtual 54, 3) := by decide +kernel
theorem dX7_addRectangle_60 : decode cX7_addRectangle 60 = .ok (.ireturn, 1) := by decide +kernel
set_option maxRecDepth 20000 in
theorem ggX7_addDisc_X7_find : GoodIn wsX7_addDisc wsX7_find := goodIn_ca (goodIn_r _ [8, 9, 10, 11, 12, 13, 7, 14, 208, 209, 210, 211, 212, 213, 214] (by decide +kernel) (by decide +kernel)) (goodIn_sub (fun _ h => List.mem_cons_of_mem _ (List.mem_append_left _ (List.mem_append_left _ (List.mem_append_right _ h)))) (by decide +kernel))
set_option maxRecDepth 20000 in
theorem gX7_addDisc_X7_find : GoodIn wsX7_addDisc (wsV RX7 46 RX7 yX7_find wsX7_find) := goodIn_app (goodIn_of _ (by decide +kernel)) ggX7_addDisc_X7_find
set_option maxRecDepth 20000 in
theorem ggX7_addDisc_X7_checkPoint : GoodIn wsX7_addDisc wsX7_checkPoint := goodIn_ca (goodIn_r _ [17, 18, 19, 7, 20, 21, 22] (by decide +kernel) (by decide +kernel)) (goodIn_sub (fun _ h => List.mem_cons_of_mem _ (List.mem_append_left _ (List.mem_append_right _ h))) (by decide +kernel))
set_option maxRecDepth 20000 in
theorem gX7_addDisc_X7_checkPoint : GoodIn wsX7_addDisc (va_wsS RX7 58 yX7_checkPoint wsX7_checkPoint) := goodIn_app (goodIn_of _ (by decide +kernel)) ggX7_addDisc_X7_checkPoint
set_option maxRecDepth 20000 in
theorem ggX7_addDisc_X7_checkRange : GoodIn wsX7_addDisc wsX7_checkRange := goodIn_ca (goodIn_r _ [20, 21, 22] (by decide +kernel) (by decide +kernel)) (goodIn_sub (fun _ h => List.mem_cons_of_mem _ (List.mem_append_left _ (List.mem_append_right _ h))) (by decide +kernel))
set_option maxRecDepth 20000 in
theorem gX7_addDisc_X7_checkRange : GoodIn wsX7_addDisc (va_wsS RX7 62 yX7_checkRange wsX7_checkRange) := goodIn_app (goodIn_of _ (by decide +kernel)) ggX7_addDisc_X7_checkRange
set_option maxRecDepth 20000 in
theorem ggX7_addDisc_X7_checkTakesMore : GoodIn wsX7_addDisc wsX7_checkTakesMore := goodIn_ca (goodIn_r _ [26, 27, 28, 29, 30, 215, 216, 217, 218, 219, 220, 221, 222, 223, 224, 225, 226, 227, 228, 229, 230, 231, 232, 233, 208, 209, 210, 211, 212, 213, 214] (by decide +kernel) (by decide +kernel)) (goodIn_sub (fun _ h => List.mem_cons_of_mem _ (List.mem_append_right _ h)) (by decide +kernel))
set_option maxRecDepth 20000 in
theorem gX7_addDisc_X7_checkTakesMore : GoodIn wsX7_addDisc (wsV RX7 50 RX7 yX7_checkTakesMore wsX7_checkTakesMore) := goodIn_app (goodIn_of _ (by decide +kernel)) ggX7_addDisc_X7_checkTakesMore
set_option maxRecDepth 20000 in
theorem ggX7_addDisc_X2_init : GoodIn wsX7_addDisc wsX2_init := goodIn_r _ [33, 34, 35, 36, 37, 7, 38, 39, 40, 41, 42, 43, 44, 45, 46, 47, 48, 49, 50, 51, 52, 53, 54, 55, 56, 57, 58, 203, 204, 205, 206, 207, 234, 235, 236, 237, 238, 239, 240, 241, 242, 243, 244] (by decide +kernel) (by decide +kernel)
set_option maxRecDepth 20000 in
theorem gX7_addDisc_X2_init : GoodIn wsX7_addDisc (wsX2_init) := ggX7_addDisc_X2_init
set_option maxRecDepth 20000 in
theorem ggX7_addDisc_X7_append : GoodIn wsX7_addDisc wsX7_append := goodIn_r _ [62, 63, 64, 65, 30, 11, 66, 67, 68, 69, 70, 71, 46, 47, 72, 73, 74, 75, 76, 77, 78, 79, 80, 81, 82, 83, 84, 85, 86, 87, 88, 89, 90, 91, 92, 93, 94, 95, 96, 97, 98, 99, 100, 101, 102, 103, 104, 105, 106, 107, 108, 109, 110, 111, 112, 113, 114, 115, 116, 117, 118, 119, 120, 121, 122, 123, 124, 125, 126, 127, 128, 129, 130, 131, 132, 133, 134, 135, 136, 137, 138, 139, 140, 141, 142, 143, 144, 145, 146, 147, 148, 149, 150, 151, 152, 153, 154, 155, 156, 7, 157, 158, 159, 160, 161, 162, 163, 164, 165, 166, 167, 168, 169, 170, 171, 172, 173, 174, 175, 176, 177, 178, 179, 180, 181, 182, 183, 184, 185, 186, 187, 188, 189, 190, 191, 192, 193, 194, 195, 196, 197, 198, 199, 200, 201, 202, 215, 216, 217, 218, 219, 220, 221, 222, 223, 224, 225, 226, 227, 228, 229, 230, 231, 232, 233, 208, 209, 210, 211, 212, 213, 214, 245, 246, 247] (by decide +kernel) (by decide +kernel)
set_option maxRecDepth 20000 in
theorem gX7_addDisc_X7_append : GoodIn wsX7_addDisc (wsV RX7 54 RX7 yX7_append wsX7_append) := goodIn_app (goodIn_of _ (by decide +kernel)) ggX7_addDisc_X7_append
theorem dX7_addDisc_0 : decode cX7_addDisc 0 = .ok (.aload_n 0, 1) := by decide +kernel
theorem dX7_addDisc_1 : decode cX7_addDisc 1 = .ok (.iload_n 1, 1) := by decide +kernel
theorem dX7_addDisc_2 : decode cX7_addDisc 2 = .ok (.invokevirtual 46, 3) := by decide +kernel
theorem dX7_addDisc_5 : decode cX7_addDisc 5 = .ok (.astore 5, 2) := by decide +kernel
theorem dX7_addDisc_7 : decode cX7_addDisc 7 = .ok (.iload_n 2, 1) := by decide +kernel
theorem dX7_addDisc_8 : decode cX7_addDisc 8 = .ok (.iload_n 3, 1) := by decide +kernel
theorem dX7_addDisc_9 : decode cX7_addDisc 9 = .ok (.invokestatic 58, 3) := by decide +kernel
theorem dX7_addDisc_12 : decode cX7_addDisc 12 = .ok (.iload 4, 2) := by decide +kernel
theorem dX7_addDisc_14 : decode cX7_addDisc 14 = .ok (.iconst 1, 1) := by decide +kernel
theorem dX7_addDisc_15 : decode cX7_addDisc 15 = .ok (.bipush 60, 2) := by decide +kernel
theorem dX7_addDisc_17 : decode cX7_addDisc 17 = .ok (.invokestatic 62, 3) := by decide +kernel
theorem dX7_addDisc_20 : decode cX7_addDisc 20 = .ok (.aload_n 0, 1) := by decide +kernel
theorem dX7_addDisc_21 : decode cX7_addDisc 21 = .ok (.aload 5, 2) := by decide +kernel
theorem dX7_addDisc_23 : decode cX7_addDisc 23 = .ok (.invokevirtual 50, 3) := by decide +kernel
theorem dX7_addDisc_26 : decode cX7_addDisc 26 = .ok (.aload_n 0, 1) := by decide +kernel
theorem dX7_addDisc_27 : decode cX7_addDisc 27 = .ok (.aload 5, 2) := by decide +kernel
theorem dX7_addDisc_29 : decode cX7_addDisc 29 = .ok (.new 76, 3) := by decide +kernel
theorem dX7_addDisc_32 : decode cX7_addDisc 32 = .ok (.dup, 1) := by decide +kernel
theorem dX7_addDisc_33 : decode cX7_addDisc 33 = .ok (.iload_n 2, 1) := by decide +kernel
theorem dX7_addDisc_34 : decode cX7_addDisc 34 = .ok (.iload_n 3, 1) := by decide +kernel
theorem dX7_addDisc_35 : decode cX7_addDisc 35 = .ok (.iload 4, 2) := by decide +kernel
theorem dX7_addDisc_37 : decode cX7_addDisc 37 = .ok (.invokespecial 78, 3) := by decide +kernel
theorem dX7_addDisc_40 : decode cX7_addDisc 40 = .ok (.invokevirtual 54, 3) := by decide +kernel
theorem dX7_addDisc_43 : decode cX7_addDisc 43 = .ok (.ireturn, 1) := by decide +kernel
set_option maxRecDepth 20000 in
theorem ggX7_addTriangle_X7_find : GoodIn wsX7_addTriangle wsX7_find := goodIn_ca (goodIn_r _ [18, 19, 20, 21, 22, 23, 17, 24, 222, 223, 224, 225, 226, 227, 228] (by decide +kernel) (by decide +kernel)) (goodIn_sub (fun _ h => List.mem_cons_of_mem _ (List.mem_append_left _ (List.mem_append_left _ (List.mem_append_right _ h)))) (by decide +kernel))
set_option maxRecDepth 20000 in
theorem gX7_addTriangle_X7_find : GoodIn wsX7_addTriangle (wsV RX7 46 RX7 yX7_find wsX7_find) := goodIn_app (goodIn_of _ (by decide +kernel)) ggX7_addTriangle_X7_find
set_option maxRecDepth 20000 in
theorem ggX7_addTriangle_X7_checkPoint : GoodIn wsX7_addTriangle wsX7_checkPoint := goodIn_ca (goodIn_r _ [27, 28, 29, 17, 30, 31, 32] (by decide +kernel) (by decide +kernel)) (goodIn_sub (fun _ h => List.mem_cons_of_mem _ (List.mem_append_left _ (List.mem_append_right _ h))) (by decide +kernel))
set_option maxRecDepth 20000 in
theorem gX7_addTriangle_X7_checkPoint : GoodIn wsX7_addTriangle (va_wsS RX7 58 yX7_checkPoint wsX7_checkPoint) := goodIn_app (goodIn_of _ (by decide +kernel)) ggX7_addTriangle_X7_checkPoint
set_option maxRecDepth 20000 in
theorem ggX7_addTriangle_X7_checkTakesMore : GoodIn wsX7_addTriangle wsX7_checkTakesMore := goodIn_ca (goodIn_r _ [36, 37, 38, 39, 40, 229, 230, 231, 232, 233, 234, 235, 236, 237, 238, 239, 240, 241, 242, 243, 244, 245, 246, 247, 222, 223, 224, 225, 226, 227, 228] (by decide +kernel) (by decide +kernel)) (goodIn_sub (fun _ h => List.mem_cons_of_mem _ (List.mem_append_right _ h)) (by decide +kernel))
set_option maxRecDepth 20000 in
theorem gX7_addTriangle_X7_checkTakesMore : GoodIn wsX7_addTriangle (wsV RX7 50 RX7 yX7_checkTakesMore wsX7_checkTakesMore) := goodIn_app (goodIn_of _ (by decide +kernel)) ggX7_addTriangle_X7_checkTakesMore
set_option maxRecDepth 20000 in
theorem ggX7_addTriangle_X7_boxRound : GoodIn wsX7_addTriangle wsX7_boxRound := goodIn_r _ [43, 44, 45, 46, 47, 48, 49, 50, 51, 52, 53, 54, 55, 56, 248, 249, 250, 251] (by decide +kernel) (by decide +kernel)
set_option maxRecDepth 20000 in
theorem gX7_addTriangle_X7_boxRound : GoodIn wsX7_addTriangle (va_wsS RX7 89 yX7_boxRound wsX7_boxRound) := goodIn_app (goodIn_of _ (by decide +kernel)) ggX7_addTriangle_X7_boxRound
set_option maxRecDepth 20000 in
theorem ggX7_addTriangle_X1_init : GoodIn wsX7_addTriangle wsX1_init := goodIn_r _ [59, 60, 51, 52, 61, 62, 220, 221] (by decide +kernel) (by decide +kernel)
set_option maxRecDepth 20000 in
theorem gX7_addTriangle_X1_init : GoodIn wsX7_addTriangle (wsX1_init) := ggX7_addTriangle_X1_init
set_option maxRecDepth 20000 in
theorem ggX7_addTriangle_X6_init : GoodIn wsX7_addTriangle wsX6_init := goodIn_r _ [65, 66, 67, 68, 69, 70, 71, 72, 73, 51, 52, 74, 75, 215, 216, 217, 218, 219, 252, 253, 254, 255, 256, 257, 258] (by decide +kernel) (by decide +kernel)
set_option maxRecDepth 20000 in
theorem gX7_addTriangle_X6_init : GoodIn wsX7_addTriangle (wsX6_init) := ggX7_addTriangle_X6_init
set_option maxRecDepth 20000 in
theorem ggX7_addTriangle_X7_append : GoodIn wsX7_addTriangle wsX7_append := goodIn_r _ [79, 80, 81, 82, 40, 21, 83, 84, 85, 86, 87, 88, 51, 52, 89, 90, 91, 92, 93, 94, 95, 96, 97, 98, 99, 100, 101, 102, 103, 104, 105, 106, 107, 108, 109, 110, 111, 112, 113, 114, 115, 116, 117, 118, 119, 120, 121, 122, 123, 124, 125, 126, 127, 128, 129, 130, 131, 132, 133, 134, 135, 136, 137, 6, 3, 7, 138, 139, 140, 141, 142, 143, 144, 145, 146, 147, 148, 149, 150, 151, 152, 153, 154, 155, 156, 157, 158, 159, 160, 161, 2, 4, 162, 163, 164, 165, 166, 167, 168, 17, 169, 170, 171, 172, 173, 174, 175, 176, 177, 178, 179, 180, 181, 182, 183, 184, 185, 186, 187, 188, 189, 190, 191, 192, 193, 194, 195, 196, 197, 198, 199, 200, 201, 202, 203, 204, 205, 206, 207, 208, 209, 210, 211, 212, 213, 214, 229, 230, 231, 232, 233, 234, 235, 236, 237, 238, 239, 240, 241, 242, 243, 244, 245, 246, 247, 222, 223, 224, 225, 226, 227, 228, 259, 260, 261] (by decide +kernel) (by decide +kernel)
set_option maxRecDepth 20000 in
theorem gX7_addTriangle_X7_append : GoodIn wsX7_addTriangle (wsV RX7 54 RX7 yX7_append wsX7_append) := goodIn_app (goodIn_of _ (by decide +kernel)) ggX7_addTriangle_X7_append
theorem dX7_addTriangle_0 : decode cX7_addTriangle 0 = .ok (.aload_n 0, 1) := by decide +kernel
theorem dX7_addTriangle_1 : decode cX7_addTriangle 1 = .ok (.iload_n 1, 1) := by decide +kernel
theorem dX7_addTriangle_2 : decode cX7_addTriangle 2 = .ok (.invokevirtual 46, 3) := by decide +kernel
theorem dX7_addTriangle_5 : decode cX7_addTriangle 5 = .ok (.astore 8, 2) := by decide +kernel
theorem dX7_addTriangle_7 : decode cX7_addTriangle 7 = .ok (.iload_n 2, 1) := by decide +kernel
theorem dX7_addTriangle_8 : decode cX7_addTriangle 8 = .ok (.iload_n 3, 1) := by decide +kernel
theorem dX7_addTriangle_9 : decode cX7_addTriangle 9 = .ok (.invokestatic 58, 3) := by decide +kernel
theorem dX7_addTriangle_12 : decode cX7_addTriangle 12 = .ok (.iload 4, 2) := by decide +kernel
theorem dX7_addTriangle_14 : decode cX7_addTriangle 14 = .ok (.iload 5, 2) := by decide +kernel
theorem dX7_addTriangle_16 : decode cX7_addTriangle 16 = .ok (.invokestatic 58, 3) := by decide +kernel
theorem dX7_addTriangle_19 : decode cX7_addTriangle 19 = .ok (.iload 6, 2) := by decide +kernel
theorem dX7_addTriangle_21 : decode cX7_addTriangle 21 = .ok (.iload 7, 2) := by decide +kernel
theorem dX7_addTriangle_23 : decode cX7_addTriangle 23 = .ok (.invokestatic 58, 3) := by decide +kernel
theorem dX7_addTriangle_26 : decode cX7_addTriangle 26 = .ok (.aload_n 0, 1) := by decide +kernel
theorem dX7_addTriangle_27 : decode cX7_addTriangle 27 = .ok (.aload 8, 2) := by decide +kernel
theorem dX7_addTriangle_29 : decode cX7_addTriangle 29 = .ok (.invokevirtual 50, 3) := by decide +kernel
theorem dX7_addTriangle_32 : decode cX7_addTriangle 32 = .ok (.iload_n 2, 1) := by decide +kernel
theorem dX7_addTriangle_33 : decode cX7_addTriangle 33 = .ok (.iload 4, 2) := by decide +kernel
theorem dX7_addTriangle_35 : decode cX7_addTriangle 35 = .ok (.iload 6, 2) := by decide +kernel
theorem dX7_addTriangle_37 : decode cX7_addTriangle 37 = .ok (.invokestatic 80, 3) := by decide +kernel
theorem dX7_addTriangle_40 : decode cX7_addTriangle 40 = .ok (.invokestatic 80, 3) := by decide +kernel
theorem dX7_addTriangle_43 : decode cX7_addTriangle 43 = .ok (.iload_n 3, 1) := by decide +kernel
theorem dX7_addTriangle_44 : decode cX7_addTriangle 44 = .ok (.iload 5, 2) := by decide +kernel
theorem dX7_addTriangle_46 : decode cX7_addTriangle 46 = .ok (.iload 7, 2) := by decide +kernel
theorem dX7_addTriangle_48 : decode cX7_addTriangle 48 = .ok (.invokestatic 80, 3) := by decide +kernel
theorem dX7_addTriangle_51 : decode cX7_addTriangle 51 = .ok (.invokestatic 80, 3) := by decide +kernel
theorem dX7_addTriangle_54 : decode cX7_addTriangle 54 = .ok (.iload_n 2, 1) := by decide +kernel
theorem dX7_addTriangle_55 : decode cX7_addTriangle 55 = .ok (.iload 4, 2) := by decide +kernel
theorem dX7_addTriangle_57 : decode cX7_addTriangle 57 = .ok (.iload 6, 2) := by decide +kernel
theorem dX7_addTriangle_59 : decode cX7_addTriangle 59 = .ok (.invokestatic 86, 3) := by decide +kernel
theorem dX7_addTriangle_62 : decode cX7_addTriangle 62 = .ok (.invokestatic 86, 3) := by decide +kernel
theorem dX7_addTriangle_65 : decode cX7_addTriangle 65 = .ok (.iload_n 3, 1) := by decide +kernel
theorem dX7_addTriangle_66 : decode cX7_addTriangle 66 = .ok (.iload 5, 2) := by decide +kernel
theorem dX7_addTriangle_68 : decode cX7_addTriangle 68 = .ok (.iload 7, 2) := by decide +kernel
theorem dX7_addTriangle_70 : decode cX7_addTriangle 70 = .ok (.invokestatic 86, 3) := by decide +kernel
theorem dX7_addTriangle_73 : decode cX7_addTriangle 73 = .ok (.invokestatic 86, 3) := by decide +kernel
theorem dX7_addTriangle_76 : decode cX7_addTriangle 76 = .ok (.invokestatic 89, 3) := by decide +kernel
theorem dX7_addTriangle_79 : decode cX7_addTriangle 79 = .ok (.astore 9, 2) := by decide +kernel
theorem dX7_addTriangle_81 : decode cX7_addTriangle 81 = .ok (.aload_n 0, 1) := by decide +kernel
theorem dX7_addTriangle_82 : decode cX7_addTriangle 82 = .ok (.aload 8, 2) := by decide +kernel
theorem dX7_addTriangle_84 : decode cX7_addTriangle 84 = .ok (.new 93, 3) := by decide +kernel
theorem dX7_addTriangle_87 : decode cX7_addTriangle 87 = .ok (.dup, 1) := by decide +kernel
theorem dX7_addTriangle_88 : decode cX7_addTriangle 88 = .ok (.aload 9, 2) := by decide +kernel
theorem dX7_addTriangle_90 : decode cX7_addTriangle 90 = .ok (.new 95, 3) := by decide +kernel
theorem dX7_addTriangle_93 : decode cX7_addTriangle 93 = .ok (.dup, 1) := by decide +kernel
theorem dX7_addTriangle_94 : decode cX7_addTriangle 94 = .ok (.iload_n 2, 1) := by decide +kernel
theorem dX7_addTriangle_95 : decode cX7_addTriangle 95 = .ok (.iload_n 3, 1) := by decide +kernel
theorem dX7_addTriangle_96 : decode cX7_addTriangle 96 = .ok (.invokespecial 97, 3) := by decide +kernel
theorem dX7_addTriangle_99 : decode cX7_addTriangle 99 = .ok (.new 95, 3) := by decide +kernel
theorem dX7_addTriangle_102 : decode cX7_addTriangle 102 = .ok (.dup, 1) := by decide +kernel
theorem dX7_addTriangle_103 : decode cX7_addTriangle 103 = .ok (.iload 4, 2) := by decide +kernel
theorem dX7_addTriangle_105 : decode cX7_addTriangle 105 = .ok (.iload 5, 2) := by decide +kernel
theorem dX7_addTriangle_107 : decode cX7_addTriangle 107 = .ok (.invokespecial 97, 3) := by decide +kernel
theorem dX7_addTriangle_110 : decode cX7_addTriangle 110 = .ok (.new 95, 3) := by decide +kernel
theorem dX7_addTriangle_113 : decode cX7_addTriangle 113 = .ok (.dup, 1) := by decide +kernel
theorem dX7_addTriangle_114 : decode cX7_addTriangle 114 = .ok (.iload 6, 2) := by decide +kernel
theorem dX7_addTriangle_116 : decode cX7_addTriangle 116 = .ok (.iload 7, 2) := by decide +kernel
theorem dX7_addTriangle_118 : decode cX7_addTriangle 118 = .ok (.invokespecial 97, 3) := by decide +kernel
theorem dX7_addTriangle_121 : decode cX7_addTriangle 121 = .ok (.invokespecial 99, 3) := by decide +kernel
theorem dX7_addTriangle_124 : decode cX7_addTriangle 124 = .ok (.invokevirtual 54, 3) := by decide +kernel
theorem dX7_addTriangle_127 : decode cX7_addTriangle 127 = .ok (.ireturn, 1) := by decide +kernel
set_option maxRecDepth 20000 in
theorem ggX7_remove_X7_find : GoodIn wsX7_remove wsX7_find := goodIn_ca (goodIn_r _ [9, 10, 11, 4, 12, 13, 8, 14, 164, 165, 166, 167, 168, 169, 170] (by decide +kernel) (by decide +kernel)) (goodIn_sub (fun _ h => List.mem_cons_of_mem _ (List.mem_append_right _ h)) (by decide +kernel))
set_option maxRecDepth 20000 in
theorem gX7_remove_X7_find : GoodIn wsX7_remove (wsV RX7 46 RX7 yX7_find wsX7_find) := goodIn_app (goodIn_of _ (by decide +kernel)) ggX7_remove_X7_find
set_option maxRecDepth 20000 in
theorem ggX7_remove_X7_isWithin : GoodIn wsX7_remove wsX7_isWithin := goodIn_r _ [17, 3, 145, 146, 147, 148, 149, 150, 151, 152, 153, 154, 155, 156, 157, 158, 159, 160, 161, 162, 163] (by decide +kernel) (by decide +kernel)
set_option maxRecDepth 20000 in
theorem gX7_remove_X7_isWithin : GoodIn wsX7_remove (va_wsS RX7 112 yX7_isWithin wsX7_isWithin) := goodIn_app (goodIn_of _ (by decide +kernel)) ggX7_remove_X7_isWithin
set_option maxRecDepth 20000 in
theorem ggX7_remove_X7_takeOut : GoodIn wsX7_remove wsX7_takeOut := goodIn_r _ [20, 21, 22, 23, 8, 24, 25, 26, 27, 28, 29, 30, 31, 32, 33, 34, 35, 36, 37, 38, 39, 40, 41, 42, 43, 44, 45, 46, 47, 48, 49, 50, 51, 52, 53, 54, 55, 56, 57, 58, 59, 60, 61, 145, 146, 147, 148, 149, 150, 151, 152, 153, 154, 155, 156, 157, 158, 159, 160, 161, 162, 163, 171, 172, 173] (by decide +kernel) (by decide +kernel)
set_option maxRecDepth 20000 in
theorem gX7_remove_X7_takeOut : GoodIn wsX7_remove (va_wsS RX7 116 yX7_takeOut wsX7_takeOut) := goodIn_app (goodIn_of _ (by decide +kernel)) ggX7_remove_X7_takeOut
set_option maxRecDepth 20000 in
theorem ggX7_remove_X7_settle : GoodIn wsX7_remove wsX7_settle := goodIn_r _ [65, 66, 67, 68, 21, 69, 70, 71, 28, 72, 56, 57, 47, 30, 73, 74, 75, 76, 77, 78, 79, 80, 81, 82, 83, 84, 85, 86, 87, 88, 89, 90, 91, 92, 93, 94, 95, 96, 97, 98, 99, 100, 101, 102, 103, 104, 105, 106, 107, 108, 109, 110, 111, 112, 113, 114, 115, 116, 117, 118, 119, 120, 59, 60, 61, 25, 26, 27, 29, 31, 32, 33, 34, 35, 36, 37, 38, 39, 40, 41, 42, 43, 44, 45, 46, 121, 122, 123, 124, 125, 126, 127, 128, 129, 130, 131, 132, 133, 134, 135, 136, 137, 138, 139, 140, 58, 141, 142, 143, 144, 164, 165, 166, 167, 168, 169, 170, 145, 146, 147, 148, 149, 150, 151, 152, 153, 154, 155, 156, 157, 158, 159, 160, 161, 162, 163, 171, 172, 173] (by decide +kernel) (by decide +kernel)
set_option maxRecDepth 20000 in
theorem gX7_remove_X7_settle : GoodIn wsX7_remove (wsV RX7 43 RX7 yX7_settle wsX7_settle) := goodIn_app (goodIn_of _ (by decide +kernel)) ggX7_remove_X7_settle
theorem dX7_remove_0 : decode cX7_remove 0 = .ok (.aload_n 0, 1) := by decide +kernel
theorem dX7_remove_1 : decode cX7_remove 1 = .ok (.iload_n 1, 1) := by decide +kernel
theorem dX7_remove_2 : decode cX7_remove 2 = .ok (.invokevirtual 46, 3) := by decide +kernel
theorem dX7_remove_5 : decode cX7_remove 5 = .ok (.astore_n 2, 1) := by decide +kernel
theorem dX7_remove_6 : decode cX7_remove 6 = .ok (.aload_n 2, 1) := by decide +kernel
theorem dX7_remove_7 : decode cX7_remove 7 = .ok (.getfield 102, 3) := by decide +kernel
theorem dX7_remove_10 : decode cX7_remove 10 = .ok (.astore_n 3, 1) := by decide +kernel
theorem dX7_remove_11 : decode cX7_remove 11 = .ok (.aload_n 3, 1) := by decide +kernel
theorem dX7_remove_12 : decode cX7_remove 12 = .ok (.ifnonnull 13, 3) := by decide +kernel
theorem dX7_remove_15 : decode cX7_remove 15 = .ok (.new 105, 3) := by decide +kernel
theorem dX7_remove_18 : decode cX7_remove 18 = .ok (.dup, 1) := by decide +kernel
theorem dX7_remove_19 : decode cX7_remove 19 = .ok (.ldc 107, 2) := by decide +kernel
theorem dX7_remove_21 : decode cX7_remove 21 = .ok (.invokespecial 109, 3) := by decide +kernel
theorem dX7_remove_24 : decode cX7_remove 24 = .ok (.athrow, 1) := by decide +kernel
theorem dX7_remove_25 : decode cX7_remove 25 = .ok (.iconst 0, 1) := by decide +kernel
theorem dX7_remove_26 : decode cX7_remove 26 = .ok (.istore 4, 2) := by decide +kernel
theorem dX7_remove_28 : decode cX7_remove 28 = .ok (.iconst 0, 1) := by decide +kernel
theorem dX7_remove_29 : decode cX7_remove 29 = .ok (.istore 5, 2) := by decide +kernel
theorem dX7_remove_31 : decode cX7_remove 31 = .ok (.iload 5, 2) := by decide +kernel
theorem dX7_remove_33 : decode cX7_remove 33 = .ok (.bipush 40, 2) := by decide +kernel
theorem dX7_remove_35 : decode cX7_remove 35 = .ok (.if_icmp .ge 34, 3) := by decide +kernel
theorem dX7_remove_38 : decode cX7_remove 38 = .ok (.aload_n 0, 1) := by decide +kernel
theorem dX7_remove_39 : decode cX7_remove 39 = .ok (.getfield 11, 3) := by decide +kernel
theorem dX7_remove_42 : decode cX7_remove 42 = .ok (.iload 5, 2) := by decide +kernel
theorem dX7_remove_44 : decode cX7_remove 44 = .ok (.aaload, 1) := by decide +kernel
theorem dX7_remove_45 : decode cX7_remove 45 = .ok (.aload_n 2, 1) := by decide +kernel
theorem dX7_remove_46 : decode cX7_remove 46 = .ok (.invokestatic 112, 3) := by decide +kernel
theorem dX7_remove_49 : decode cX7_remove 49 = .ok (.ifCond .eq 14, 3) := by decide +kernel
theorem dX7_remove_52 : decode cX7_remove 52 = .ok (.aload_n 0, 1) := by decide +kernel
theorem dX7_remove_53 : decode cX7_remove 53 = .ok (.getfield 11, 3) := by decide +kernel
theorem dX7_remove_56 : decode cX7_remove 56 = .ok (.iload 5, 2) := by decide +kernel
theorem dX7_remove_58 : decode cX7_remove 58 = .ok (.aconst_null, 1) := by decide +kernel
theorem dX7_remove_59 : decode cX7_remove 59 = .ok (.aastore, 1) := by decide +kernel
theorem dX7_remove_60 : decode cX7_remove 60 = .ok (.iinc 4 1, 3) := by decide +kernel
theorem dX7_remove_63 : decode cX7_remove 63 = .ok (.iinc 5 1, 3) := by decide +kernel
theorem dX7_remove_66 : decode cX7_remove 66 = .ok (.goto (-35), 3) := by decide +kernel
theorem dX7_remove_69 : decode cX7_remove 69 = .ok (.aload_n 3, 1) := by decide +kernel
theorem dX7_remove_70 : decode cX7_remove 70 = .ok (.aload_n 2, 1) := by decide +kernel
theorem dX7_remove_71 : decode cX7_remove 71 = .ok (.invokestatic 116, 3) := by decide +kernel
theorem dX7_remove_74 : decode cX7_remove 74 = .ok (.pop, 1) := by decide +kernel
theorem dX7_remove_75 : decode cX7_remove 75 = .ok (.aload_n 0, 1) := by decide +kernel
theorem dX7_remove_76 : decode cX7_remove 76 = .ok (.invokevirtual 43, 3) := by decide +kernel
theorem dX7_remove_79 : decode cX7_remove 79 = .ok (.iload 4, 2) := by decide +kernel
theorem dX7_remove_81 : decode cX7_remove 81 = .ok (.ireturn, 1) := by decide +kernel
set_option maxRecDepth 20000 in
theorem ggX7_move_X7_find : GoodIn wsX7_move wsX7_find := goodIn_ca (goodIn_r _ [10, 11, 12, 13, 14, 15, 9, 16, 165, 166, 167, 168, 169, 170, 171] (by decide +kernel) (by decide +kernel)) (goodIn_sub (fun _ h => List.mem_cons_of_mem _ (List.mem_append_right _ h)) (by decide +kernel))
set_option maxRecDepth 20000 in
theorem gX7_move_X7_find : GoodIn wsX7_move (wsV RX7 46 RX7 yX7_find wsX7_find) := goodIn_app (goodIn_of _ (by decide +kernel)) ggX7_move_X7_find
set_option maxRecDepth 20000 in
theorem ggX7_move_X7_isWithin : GoodIn wsX7_move wsX7_isWithin := goodIn_r _ [19, 3, 146, 147, 148, 149, 150, 151, 152, 153, 154, 155, 156, 157, 158, 159, 160, 161, 162, 163, 164] (by decide +kernel) (by decide +kernel)
set_option maxRecDepth 20000 in
theorem gX7_move_X7_isWithin : GoodIn wsX7_move (va_wsS RX7 112 yX7_isWithin wsX7_isWithin) := goodIn_app (goodIn_of _ (by decide +kernel)) ggX7_move_X7_isWithin
set_option maxRecDepth 20000 in
theorem ggX7_move_Jx4a65c_size_8abf5 : GoodIn wsX7_move wsJx4a65c_size_8abf5 := goodIn_r _ [24, 25, 172, 173, 174] (by decide +kernel) (by decide +kernel)
set_option maxRecDepth 20000 in
theorem gX7_move_Jx4a65c_size_8abf5 : GoodIn wsX7_move (wsV RX7 129 RJx4a65c yJx4a65c_size_8abf5 wsJx4a65c_size_8abf5) := goodIn_app (goodIn_of _ (by decide +kernel)) ggX7_move_Jx4a65c_size_8abf5
set_option maxRecDepth 20000 in
theorem ggX7_move_X7_takeOut : GoodIn wsX7_move wsX7_takeOut := goodIn_r _ [28, 5, 29, 30, 9, 31, 20, 21, 22, 23, 24, 25, 32, 33, 34, 35, 36, 37, 38, 39, 40, 41, 42, 43, 44, 45, 46, 47, 48, 49, 50, 51, 52, 53, 54, 55, 56, 57, 58, 59, 60, 61, 62, 146, 147, 148, 149, 150, 151, 152, 153, 154, 155, 156, 157, 158, 159, 160, 161, 162, 163, 164, 172, 173, 174] (by decide +kernel) (by decide +kernel)
set_option maxRecDepth 20000 in
theorem gX7_move_X7_takeOut : GoodIn wsX7_move (va_wsS RX7 116 yX7_takeOut wsX7_takeOut) := goodIn_app (goodIn_of _ (by decide +kernel)) ggX7_move_X7_takeOut
set_option maxRecDepth 20000 in
theorem ggX7_move_Jx4a65c_add_7a177 : GoodIn wsX7_move wsJx4a65c_add_7a177 := goodIn_r _ [66, 57, 58, 25, 48, 59, 60, 61, 62, 67, 68, 69, 23, 70, 71, 72, 73, 74, 75, 76, 77, 78, 79, 80, 81, 82, 83, 84, 85, 86, 87, 88, 89, 90, 91, 92, 93, 94, 95, 96, 97, 98, 99, 100, 101, 102, 103, 104, 105, 106, 107, 108, 109, 110, 172, 173, 174] (by decide +kernel) (by decide +kernel)
set_option maxRecDepth 20000 in
theorem gX7_move_Jx4a65c_add_7a177 : GoodIn wsX7_move (wsV RX7 135 RJx4a65c yJx4a65c_add_7a177 wsJx4a65c_add_7a177) := goodIn_app (goodIn_of _ (by decide +kernel)) ggX7_move_Jx4a65c_add_7a177
set_option maxRecDepth 20000 in
theorem ggX7_move_X7_settle : GoodIn wsX7_move wsX7_settle := goodIn_r _ [114, 115, 116, 117, 5, 118, 119, 120, 23, 121, 57, 58, 48, 25, 122, 123, 124, 125, 126, 127, 128, 129, 71, 72, 73, 74, 75, 76, 77, 78, 79, 80, 81, 82, 83, 84, 85, 86, 87, 88, 89, 90, 91, 92, 93, 94, 95, 96, 97, 98, 99, 100, 101, 102, 103, 104, 105, 106, 107, 108, 109, 110, 60, 61, 62, 20, 21, 22, 24, 32, 33, 34, 35, 36, 37, 38, 39, 40, 41, 42, 43, 44, 45, 46, 47, 130, 131, 132, 133, 134, 135, 136, 137, 138, 139, 140, 141, 142, 143, 144, 145, 63, 64, 65, 66, 59, 67, 68, 69, 70, 165, 166, 167, 168, 169, 170, 171, 146, 147, 148, 149, 150, 151, 152, 153, 154, 155, 156, 157, 158, 159, 160, 161, 162, 163, 164, 172, 173, 174] (by decide +kernel) (by decide +kernel)
set_option maxRecDepth 20000 in
theorem gX7_move_X7_settle : GoodIn wsX7_move (wsV RX7 43 RX7 yX7_settle wsX7_settle) := goodIn_app (goodIn_of _ (by decide +kernel)) ggX7_move_X7_settle
theorem dX7_move_0 : decode cX7_move 0 = .ok (.aload_n 0, 1) := by decide +kernel
theorem dX7_move_1 : decode cX7_move 1 = .ok (.iload_n 1, 1) := by decide +kernel
theorem dX7_move_2 : decode cX7_move 2 = .ok (.invokevirtual 46, 3) := by decide +kernel
theorem dX7_move_5 : decode cX7_move 5 = .ok (.astore 4, 2) := by decide +kernel
theorem dX7_move_7 : decode cX7_move 7 = .ok (.aload_n 0, 1) := by decide +kernel
theorem dX7_move_8 : decode cX7_move 8 = .ok (.iload_n 2, 1) := by decide +kernel
theorem dX7_move_9 : decode cX7_move 9 = .ok (.invokevirtual 46, 3) := by decide +kernel
theorem dX7_move_12 : decode cX7_move 12 = .ok (.astore 5, 2) := by decide +kernel
theorem dX7_move_14 : decode cX7_move 14 = .ok (.aload 4, 2) := by decide +kernel
theorem dX7_move_16 : decode cX7_move 16 = .ok (.getfield 102, 3) := by decide +kernel
theorem dX7_move_19 : decode cX7_move 19 = .ok (.astore 6, 2) := by decide +kernel
theorem dX7_move_21 : decode cX7_move 21 = .ok (.aload 6, 2) := by decide +kernel
theorem dX7_move_23 : decode cX7_move 23 = .ok (.ifnonnull 13, 3) := by decide +kernel
theorem dX7_move_26 : decode cX7_move 26 = .ok (.new 105, 3) := by decide +kernel
theorem dX7_move_29 : decode cX7_move 29 = .ok (.dup, 1) := by decide +kernel
theorem dX7_move_30 : decode cX7_move 30 = .ok (.ldc 107, 2) := by decide +kernel
theorem dX7_move_32 : decode cX7_move 32 = .ok (.invokespecial 109, 3) := by decide +kernel
theorem dX7_move_35 : decode cX7_move 35 = .ok (.athrow, 1) := by decide +kernel
theorem dX7_move_36 : decode cX7_move 36 = .ok (.aload 5, 2) := by decide +kernel
theorem dX7_move_38 : decode cX7_move 38 = .ok (.getfield 120, 3) := by decide +kernel
theorem dX7_move_41 : decode cX7_move 41 = .ok (.ifnonnull 13, 3) := by decide +kernel
theorem dX7_move_44 : decode cX7_move 44 = .ok (.aload 5, 2) := by decide +kernel
theorem dX7_move_46 : decode cX7_move 46 = .ok (.aload 4, 2) := by decide +kernel
theorem dX7_move_48 : decode cX7_move 48 = .ok (.invokestatic 112, 3) := by decide +kernel
theorem dX7_move_51 : decode cX7_move 51 = .ok (.ifCond .eq 13, 3) := by decide +kernel
theorem dX7_move_54 : decode cX7_move 54 = .ok (.new 105, 3) := by decide +kernel
theorem dX7_move_57 : decode cX7_move 57 = .ok (.dup, 1) := by decide +kernel
theorem dX7_move_58 : decode cX7_move 58 = .ok (.ldc 124, 2) := by decide +kernel
theorem dX7_move_60 : decode cX7_move 60 = .ok (.invokespecial 109, 3) := by decide +kernel
theorem dX7_move_63 : decode cX7_move 63 = .ok (.athrow, 1) := by decide +kernel
theorem dX7_move_64 : decode cX7_move 64 = .ok (.aload 5, 2) := by decide +kernel
theorem dX7_move_66 : decode cX7_move 66 = .ok (.aload 6, 2) := by decide +kernel
theorem dX7_move_68 : decode cX7_move 68 = .ok (.if_acmp .ne 16, 3) := by decide +kernel
theorem dX7_move_71 : decode cX7_move 71 = .ok (.aload 5, 2) := by decide +kernel
theorem dX7_move_73 : decode cX7_move 73 = .ok (.getfield 126, 3) := by decide +kernel
theorem dX7_move_76 : decode cX7_move 76 = .ok (.invokevirtual 129, 3) := by decide +kernel
theorem dX7_move_79 : decode cX7_move 79 = .ok (.iconst 1, 1) := by decide +kernel
theorem dX7_move_80 : decode cX7_move 80 = .ok (.isub, 1) := by decide +kernel
theorem dX7_move_81 : decode cX7_move 81 = .ok (.goto 11, 3) := by decide +kernel
theorem dX7_move_84 : decode cX7_move 84 = .ok (.aload 5, 2) := by decide +kernel
theorem dX7_move_86 : decode cX7_move 86 = .ok (.getfield 126, 3) := by decide +kernel
theorem dX7_move_89 : decode cX7_move 89 = .ok (.invokevirtual 129, 3) := by decide +kernel
theorem dX7_move_92 : decode cX7_move 92 = .ok (.istore 7, 2) := by decide +kernel
theorem dX7_move_94 : decode cX7_move 94 = .ok (.iload_n 3, 1) := by decide +kernel
theorem dX7_move_95 : decode cX7_move 95 = .ok (.ifCond .lt 9, 3) := by decide +kernel
theorem dX7_move_98 : decode cX7_move 98 = .ok (.iload_n 3, 1) := by decide +kernel
theorem dX7_move_99 : decode cX7_move 99 = .ok (.iload 7, 2) := by decide +kernel
theorem dX7_move_101 : decode cX7_move 101 = .ok (.if_icmp .le 13, 3) := by decide +kernel
theorem dX7_move_104 : decode cX7_move 104 = .ok (.new 105, 3) := by decide +kernel
theorem dX7_move_107 : decode cX7_move 107 = .ok (.dup, 1) := by decide +kernel
theorem dX7_move_108 : decode cX7_move 108 = .ok (.ldc 133, 2) := by decide +kernel
theorem dX7_move_110 : decode cX7_move 110 = .ok (.invokespecial 109, 3) := by decide +kernel
theorem dX7_move_113 : decode cX7_move 113 = .ok (.athrow, 1) := by decide +kernel
theorem dX7_move_114 : decode cX7_move 114 = .ok (.aload 6, 2) := by decide +kernel
theorem dX7_move_116 : decode cX7_move 116 = .ok (.aload 4, 2) := by decide +kernel
theorem dX7_move_118 : decode cX7_move 118 = .ok (.invokestatic 116, 3) := by decide +kernel
theorem dX7_move_121 : decode cX7_move 121 = .ok (.istore 8, 2) := by decide +kernel
theorem dX7_move_123 : decode cX7_move 123 = .ok (.aload 5, 2) := by decide +kernel
theorem dX7_move_125 : decode cX7_move 125 = .ok (.getfield 126, 3) := by decide +kernel
theorem dX7_move_128 : decode cX7_move 128 = .ok (.iload_n 3, 1) := by decide +kernel
theorem dX7_move_129 : decode cX7_move 129 = .ok (.aload 4, 2) := by decide +kernel
theorem dX7_move_131 : decode cX7_move 131 = .ok (.invokevirtual 135, 3) := by decide +kernel
theorem dX7_move_134 : decode cX7_move 134 = .ok (.aload 4, 2) := by decide +kernel
theorem dX7_move_136 : decode cX7_move 136 = .ok (.aload 5, 2) := by decide +kernel
theorem dX7_move_138 : decode cX7_move 138 = .ok (.putfield 102, 3) := by decide +kernel
theorem dX7_move_141 : decode cX7_move 141 = .ok (.aload_n 0, 1) := by decide +kernel
theorem dX7_move_142 : decode cX7_move 142 = .ok (.invokevirtual 43, 3) := by decide +kernel
theorem dX7_move_145 : decode cX7_move 145 = .ok (.iload 8, 2) := by decide +kernel
theorem dX7_move_147 : decode cX7_move 147 = .ok (.ireturn, 1) := by decide +kernel
set_option maxRecDepth 20000 in
theorem ggX7_node_X7_find : GoodIn wsX7_node wsX7_find := goodIn_ca (goodIn_r _ [5, 6, 7, 8, 9, 10, 4, 11, 55, 56, 57, 58, 59, 60, 61] (by decide +kernel) (by decide +kernel)) (goodIn_sub (fun _ h => List.mem_cons_of_mem _ (List.mem_append_right _ h)) (by decide +kernel))
set_option maxRecDepth 20000 in
theorem gX7_node_X7_find : GoodIn wsX7_node (wsV RX7 46 RX7 yX7_find wsX7_find) := goodIn_app (goodIn_of _ (by decide +kernel)) ggX7_node_X7_find
set_option maxRecDepth 20000 in
theorem ggX7_node_X7_checkIndex : GoodIn wsX7_node wsX7_checkIndex := goodIn_ca (goodIn_r _ [11, 6, 7] (by decide +kernel) (by decide +kernel)) (goodIn_sub (fun _ h => List.mem_cons_of_mem _ (List.mem_append_right _ h)) (by decide +kernel))
set_option maxRecDepth 20000 in
theorem gX7_node_X7_checkIndex : GoodIn wsX7_node (va_wsS RX7 139 yX7_checkIndex wsX7_checkIndex) := goodIn_app (goodIn_of _ (by decide +kernel)) ggX7_node_X7_checkIndex
set_option maxRecDepth 20000 in
theorem ggX7_node_X7_detail : GoodIn wsX7_node wsX7_detail := goodIn_r _ [14, 15, 16, 17, 18, 19, 20, 21, 22, 23, 24, 25, 26, 27, 28, 29, 30, 4, 31, 32, 33, 34, 35, 36, 37, 38, 39, 40, 41, 42, 43, 44, 45, 46, 47, 48, 49, 50, 51, 52, 53, 54, 62, 63, 64, 65, 66, 67, 68, 69, 70, 71, 72, 73, 74, 75, 76, 77, 78, 79, 80, 81, 82, 83, 84, 85, 86, 87, 88, 89, 90, 91, 92, 93, 94, 95] (by decide +kernel) (by decide +kernel)
set_option maxRecDepth 20000 in
theorem gX7_node_X7_detail : GoodIn wsX7_node (va_wsS RX7 142 yX7_detail wsX7_detail) := goodIn_app (goodIn_of _ (by decide +kernel)) ggX7_node_X7_detail
theorem dX7_node_0 : decode cX7_node 0 = .ok (.aload_n 0, 1) := by decide +kernel
theorem dX7_node_1 : decode cX7_node 1 = .ok (.iload_n 1, 1) := by decide +kernel
theorem dX7_node_2 : decode cX7_node 2 = .ok (.invokevirtual 46, 3) := by decide +kernel
theorem dX7_node_5 : decode cX7_node 5 = .ok (.astore_n 3, 1) := by decide +kernel
theorem dX7_node_6 : decode cX7_node 6 = .ok (.iload_n 2, 1) := by decide +kernel
theorem dX7_node_7 : decode cX7_node 7 = .ok (.bipush 13, 2) := by decide +kernel
theorem dX7_node_9 : decode cX7_node 9 = .ok (.invokestatic 139, 3) := by decide +kernel
theorem dX7_node_12 : decode cX7_node 12 = .ok (.aload_n 3, 1) := by decide +kernel
theorem dX7_node_13 : decode cX7_node 13 = .ok (.iload_n 2, 1) := by decide +kernel
theorem dX7_node_14 : decode cX7_node 14 = .ok (.invokestatic 142, 3) := by decide +kernel
theorem dX7_node_17 : decode cX7_node 17 = .ok (.ireturn, 1) := by decide +kernel
set_option maxRecDepth 20000 in
theorem ggX7_count_Jx4a65c_size_8abf5 : GoodIn wsX7_count wsJx4a65c_size_8abf5 := goodIn_r _ [6, 7, 15, 16, 17] (by decide +kernel) (by decide +kernel)
set_option maxRecDepth 20000 in
theorem gX7_count_Jx4a65c_size_8abf5 : GoodIn wsX7_count (wsV RX7 129 RJx4a65c yJx4a65c_size_8abf5 wsJx4a65c_size_8abf5) := goodIn_app (goodIn_of _ (by decide +kernel)) ggX7_count_Jx4a65c_size_8abf5
theorem dX7_count_0 : decode cX7_count 0 = .ok (.aload_n 0, 1) := by decide +kernel
theorem dX7_count_1 : decode cX7_count 1 = .ok (.getfield 25, 3) := by decide +kernel
theorem dX7_count_4 : decode cX7_count 4 = .ok (.invokevirtual 129, 3) := by decide +kernel
theorem dX7_count_7 : decode cX7_count 7 = .ok (.ireturn, 1) := by decide +kernel
set_option maxRecDepth 20000 in
theorem ggX7_place_X7_find : GoodIn wsX7_place wsX7_find := goodIn_ca (goodIn_r _ [7, 8, 9, 10, 11, 12, 6, 13, 154, 155, 156, 157, 158, 159, 160] (by decide +kernel) (by decide +kernel)) (goodIn_sub (fun _ h => List.mem_cons_of_mem _ (List.mem_append_left _ (List.mem_append_right _ h))) (by decide +kernel))
set_option maxRecDepth 20000 in
theorem gX7_place_X7_find : GoodIn wsX7_place (wsV RX7 46 RX7 yX7_find wsX7_find) := goodIn_app (goodIn_of _ (by decide +kernel)) ggX7_place_X7_find
set_option maxRecDepth 20000 in
theorem ggX7_place_X7_checkPoint : GoodIn wsX7_place wsX7_checkPoint := goodIn_ca (goodIn_r _ [16, 17, 18, 6, 19, 20, 21] (by decide +kernel) (by decide +kernel)) (goodIn_sub (fun _ h => List.mem_cons_of_mem _ (List.mem_append_right _ h)) (by decide +kernel))
set_option maxRecDepth 20000 in
theorem gX7_place_X7_checkPoint : GoodIn wsX7_place (va_wsS RX7 58 yX7_checkPoint wsX7_checkPoint) := goodIn_app (goodIn_of _ (by decide +kernel)) ggX7_place_X7_checkPoint
set_option maxRecDepth 20000 in
theorem ggX7_place_X7_settle : GoodIn wsX7_place wsX7_settle := goodIn_r _ [25, 26, 27, 28, 29, 30, 31, 32, 33, 34, 35, 36, 37, 38, 39, 40, 41, 42, 43, 44, 45, 46, 47, 48, 49, 50, 51, 52, 53, 54, 55, 56, 57, 58, 59, 60, 61, 62, 63, 64, 65, 66, 67, 68, 69, 70, 71, 72, 73, 74, 75, 76, 77, 78, 79, 80, 81, 82, 83, 84, 85, 86, 87, 88, 89, 90, 91, 92, 93, 94, 95, 96, 97, 98, 99, 100, 101, 102, 103, 104, 105, 106, 107, 108, 109, 110, 111, 112, 113, 114, 115, 116, 117, 118, 119, 120, 121, 122, 123, 124, 125, 126, 127, 128, 129, 130, 131, 132, 133, 134, 154, 155, 156, 157, 158, 159, 160, 135, 136, 137, 138, 139, 140, 141, 142, 143, 144, 145, 146, 147, 148, 149, 150, 151, 152, 153, 161, 162, 163] (by decide +kernel) (by decide +kernel)
set_option maxRecDepth 20000 in
theorem gX7_place_X7_settle : GoodIn wsX7_place (wsV RX7 43 RX7 yX7_settle wsX7_settle) := goodIn_app (goodIn_of _ (by decide +kernel)) ggX7_place_X7_settle
theorem dX7_place_0 : decode cX7_place 0 = .ok (.aload_n 0, 1) := by decide +kernel
theorem dX7_place_1 : decode cX7_place 1 = .ok (.iload_n 1, 1) := by decide +kernel
theorem dX7_place_2 : decode cX7_place 2 = .ok (.invokevirtual 46, 3) := by decide +kernel
theorem dX7_place_5 : decode cX7_place 5 = .ok (.astore 4, 2) := by decide +kernel
theorem dX7_place_7 : decode cX7_place 7 = .ok (.iload_n 2, 1) := by decide +kernel
theorem dX7_place_8 : decode cX7_place 8 = .ok (.iload_n 3, 1) := by decide +kernel
theorem dX7_place_9 : decode cX7_place 9 = .ok (.invokestatic 58, 3) := by decide +kernel
theorem dX7_place_12 : decode cX7_place 12 = .ok (.aload 4, 2) := by decide +kernel
theorem dX7_place_14 : decode cX7_place 14 = .ok (.getfield 153, 3) := by decide +kernel
theorem dX7_place_17 : decode cX7_place 17 = .ok (.istore 5, 2) := by decide +kernel
theorem dX7_place_19 : decode cX7_place 19 = .ok (.aload 4, 2) := by decide +kernel
theorem dX7_place_21 : decode cX7_place 21 = .ok (.iload_n 2, 1) := by decide +kernel
theorem dX7_place_22 : decode cX7_place 22 = .ok (.putfield 153, 3) := by decide +kernel
theorem dX7_place_25 : decode cX7_place 25 = .ok (.aload 4, 2) := by decide +kernel
theorem dX7_place_27 : decode cX7_place 27 = .ok (.iload_n 3, 1) := by decide +kernel
theorem dX7_place_28 : decode cX7_place 28 = .ok (.putfield 156, 3) := by decide +kernel
theorem dX7_place_31 : decode cX7_place 31 = .ok (.aload_n 0, 1) := by decide +kernel
theorem dX7_place_32 : decode cX7_place 32 = .ok (.invokevirtual 43, 3) := by decide +kernel
theorem dX7_place_35 : decode cX7_place 35 = .ok (.iload 5, 2) := by decide +kernel
theorem dX7_place_37 : decode cX7_place 37 = .ok (.ireturn, 1) := by decide +kernel
set_option maxRecDepth 20000 in
theorem ggX7_setFill_X7_find : GoodIn wsX7_setFill wsX7_find := goodIn_ca (goodIn_r _ [6, 7, 8, 9, 10, 11, 5, 12, 150, 151, 152, 153, 154, 155, 156] (by decide +kernel) (by decide +kernel)) (goodIn_sub (fun _ h => List.mem_cons_of_mem _ (List.mem_append_left _ (List.mem_append_right _ h))) (by decide +kernel))
set_option maxRecDepth 20000 in
theorem gX7_setFill_X7_find : GoodIn wsX7_setFill (wsV RX7 46 RX7 yX7_find wsX7_find) := goodIn_app (goodIn_of _ (by decide +kernel)) ggX7_setFill_X7_find
set_option maxRecDepth 20000 in
theorem ggX7_setFill_X7_checkRange : GoodIn wsX7_setFill wsX7_checkRange := goodIn_ca (goodIn_r _ [15, 16, 17] (by decide +kernel) (by decide +kernel)) (goodIn_sub (fun _ h => List.mem_cons_of_mem _ (List.mem_append_right _ h)) (by decide +kernel))
set_option maxRecDepth 20000 in
theorem gX7_setFill_X7_checkRange : GoodIn wsX7_setFill (va_wsS RX7 62 yX7_checkRange wsX7_checkRange) := goodIn_app (goodIn_of _ (by decide +kernel)) ggX7_setFill_X7_checkRange
set_option maxRecDepth 20000 in
theorem ggX7_setFill_X7_settle : GoodIn wsX7_setFill wsX7_settle := goodIn_r _ [21, 22, 23, 24, 25, 26, 27, 28, 29, 30, 31, 32, 33, 34, 35, 36, 37, 38, 39, 40, 41, 42, 43, 44, 45, 46, 47, 48, 49, 50, 51, 52, 53, 54, 55, 56, 57, 58, 59, 60, 61, 62, 63, 64, 65, 66, 67, 68, 69, 70, 71, 72, 73, 74, 75, 76, 77, 78, 79, 80, 81, 82, 83, 84, 85, 86, 87, 88, 89, 90, 91, 92, 93, 94, 95, 96, 97, 98, 99, 100, 101, 102, 103, 104, 105, 106, 107, 108, 109, 110, 111, 112, 113, 114, 115, 116, 117, 118, 119, 120, 121, 122, 123, 124, 125, 126, 127, 128, 129, 130, 150, 151, 152, 153, 154, 155, 156, 131, 132, 133, 134, 135, 136, 137, 138, 139, 140, 141, 142, 143, 144, 145, 146, 147, 148, 149, 157, 158, 159] (by decide +kernel) (by decide +kernel)
set_option maxRecDepth 20000 in
theorem gX7_setFill_X7_settle : GoodIn wsX7_setFill (wsV RX7 43 RX7 yX7_settle wsX7_settle) := goodIn_app (goodIn_of _ (by decide +kernel)) ggX7_setFill_X7_settle
theorem dX7_setFill_0 : decode cX7_setFill 0 = .ok (.aload_n 0, 1) := by decide +kernel
theorem dX7_setFill_1 : decode cX7_setFill 1 = .ok (.iload_n 1, 1) := by decide +kernel
theorem dX7_setFill_2 : decode cX7_setFill 2 = .ok (.invokevirtual 46, 3) := by decide +kernel
theorem dX7_setFill_5 : decode cX7_setFill 5 = .ok (.astore_n 3, 1) := by decide +kernel
theorem dX7_setFill_6 : decode cX7_setFill 6 = .ok (.iload_n 2, 1) := by decide +kernel
theorem dX7_setFill_7 : decode cX7_setFill 7 = .ok (.iconst (-1), 1) := by decide +kernel
theorem dX7_setFill_8 : decode cX7_setFill 8 = .ok (.sipush 255, 3) := by decide +kernel
theorem dX7_setFill_11 : decode cX7_setFill 11 = .ok (.invokestatic 62, 3) := by decide +kernel
theorem dX7_setFill_14 : decode cX7_setFill 14 = .ok (.aload_n 3, 1) := by decide +kernel
theorem dX7_setFill_15 : decode cX7_setFill 15 = .ok (.getfield 159, 3) := by decide +kernel
theorem dX7_setFill_18 : decode cX7_setFill 18 = .ok (.istore 4, 2) := by decide +kernel
theorem dX7_setFill_20 : decode cX7_setFill 20 = .ok (.aload_n 3, 1) := by decide +kernel
theorem dX7_setFill_21 : decode cX7_setFill 21 = .ok (.iload_n 2, 1) := by decide +kernel
theorem dX7_setFill_22 : decode cX7_setFill 22 = .ok (.putfield 159, 3) := by decide +kernel
theorem dX7_setFill_25 : decode cX7_setFill 25 = .ok (.aload_n 0, 1) := by decide +kernel
theorem dX7_setFill_26 : decode cX7_setFill 26 = .ok (.invokevirtual 43, 3) := by decide +kernel
theorem dX7_setFill_29 : decode cX7_setFill 29 = .ok (.iload 4, 2) := by decide +kernel
theorem dX7_setFill_31 : decode cX7_setFill 31 = .ok (.ireturn, 1) := by decide +kernel
set_option maxRecDepth 20000 in
theorem ggX7_setOpacity_X7_find : GoodIn wsX7_setOpacity wsX7_find := goodIn_ca (goodIn_r _ [7, 8, 9, 10, 11, 12, 6, 13, 151, 152, 153, 154, 155, 156, 157] (by decide +kernel) (by decide +kernel)) (goodIn_sub (fun _ h => List.mem_cons_of_mem _ (List.mem_append_left _ (List.mem_append_right _ h))) (by decide +kernel))
set_option maxRecDepth 20000 in
theorem gX7_setOpacity_X7_find : GoodIn wsX7_setOpacity (wsV RX7 46 RX7 yX7_find wsX7_find) := goodIn_app (goodIn_of _ (by decide +kernel)) ggX7_setOpacity_X7_find
set_option maxRecDepth 20000 in
theorem ggX7_setOpacity_X7_checkRange : GoodIn wsX7_setOpacity wsX7_checkRange := goodIn_ca (goodIn_r _ [16, 17, 18] (by decide +kernel) (by decide +kernel)) (goodIn_sub (fun _ h => List.mem_cons_of_mem _ (List.mem_append_right _ h)) (by decide +kernel))
set_option maxRecDepth 20000 in
theorem gX7_setOpacity_X7_checkRange : GoodIn wsX7_setOpacity (va_wsS RX7 62 yX7_checkRange wsX7_checkRange) := goodIn_app (goodIn_of _ (by decide +kernel)) ggX7_setOpacity_X7_checkRange
set_option maxRecDepth 20000 in
theorem ggX7_setOpacity_X7_settle : GoodIn wsX7_setOpacity wsX7_settle := goodIn_r _ [22, 23, 24, 25, 26, 27, 28, 29, 30, 31, 32, 33, 34, 35, 36, 37, 38, 39, 40, 41, 42, 43, 44, 45, 46, 47, 48, 49, 50, 51, 52, 53, 54, 55, 56, 57, 58, 59, 60, 61, 62, 63, 64, 65, 66, 67, 68, 69, 70, 71, 72, 73, 74, 75, 76, 77, 78, 79, 80, 81, 82, 83, 84, 85, 86, 87, 88, 89, 90, 91, 92, 93, 94, 95, 96, 97, 98, 99, 100, 101, 102, 103, 104, 105, 106, 107, 108, 109, 110, 111, 112, 113, 114, 115, 116, 117, 118, 119, 120, 121, 122, 123, 124, 125, 126, 127, 128, 129, 130, 131, 151, 152, 153, 154, 155, 156, 157, 132, 133, 134, 135, 136, 137, 138, 139, 140, 141, 142, 143, 144, 145, 146, 147, 148, 149, 150, 158, 159, 160] (by decide +kernel) (by decide +kernel)
set_option maxRecDepth 20000 in
theorem gX7_setOpacity_X7_settle : GoodIn wsX7_setOpacity (wsV RX7 43 RX7 yX7_settle wsX7_settle) := goodIn_app (goodIn_of _ (by decide +kernel)) ggX7_setOpacity_X7_settle
theorem dX7_setOpacity_0 : decode cX7_setOpacity 0 = .ok (.aload_n 0, 1) := by decide +kernel
theorem dX7_setOpacity_1 : decode cX7_setOpacity 1 = .ok (.iload_n 1, 1) := by decide +kernel
theorem dX7_setOpacity_2 : decode cX7_setOpacity 2 = .ok (.invokevirtual 46, 3) := by decide +kernel
theorem dX7_setOpacity_5 : decode cX7_setOpacity 5 = .ok (.astore 4, 2) := by decide +kernel
theorem dX7_setOpacity_7 : decode cX7_setOpacity 7 = .ok (.iload_n 2, 1) := by decide +kernel
theorem dX7_setOpacity_8 : decode cX7_setOpacity 8 = .ok (.iconst 0, 1) := by decide +kernel
theorem dX7_setOpacity_9 : decode cX7_setOpacity 9 = .ok (.bipush 8, 2) := by decide +kernel
theorem dX7_setOpacity_11 : decode cX7_setOpacity 11 = .ok (.invokestatic 62, 3) := by decide +kernel
theorem dX7_setOpacity_14 : decode cX7_setOpacity 14 = .ok (.aload 4, 2) := by decide +kernel
theorem dX7_setOpacity_16 : decode cX7_setOpacity 16 = .ok (.getfield 162, 3) := by decide +kernel
theorem dX7_setOpacity_19 : decode cX7_setOpacity 19 = .ok (.istore 5, 2) := by decide +kernel
theorem dX7_setOpacity_21 : decode cX7_setOpacity 21 = .ok (.aload 4, 2) := by decide +kernel
theorem dX7_setOpacity_23 : decode cX7_setOpacity 23 = .ok (.iload_n 2, 1) := by decide +kernel
theorem dX7_setOpacity_24 : decode cX7_setOpacity 24 = .ok (.putfield 162, 3) := by decide +kernel
theorem dX7_setOpacity_27 : decode cX7_setOpacity 27 = .ok (.aload 4, 2) := by decide +kernel
theorem dX7_setOpacity_29 : decode cX7_setOpacity 29 = .ok (.iload_n 3, 1) := by decide +kernel
theorem dX7_setOpacity_30 : decode cX7_setOpacity 30 = .ok (.putfield 165, 3) := by decide +kernel
theorem dX7_setOpacity_33 : decode cX7_setOpacity 33 = .ok (.aload_n 0, 1) := by decide +kernel
theorem dX7_setOpacity_34 : decode cX7_setOpacity 34 = .ok (.invokevirtual 43, 3) := by decide +kernel
theorem dX7_setOpacity_37 : decode cX7_setOpacity 37 = .ok (.iload 5, 2) := by decide +kernel
theorem dX7_setOpacity_39 : decode cX7_setOpacity 39 = .ok (.ireturn, 1) := by decide +kernel
set_option maxRecDepth 20000 in
theorem ggX7_setClip_X7_find : GoodIn wsX7_setClip wsX7_find := goodIn_ca (goodIn_r _ [9, 10, 11, 12, 13, 14, 8, 15, 57, 58, 59, 60, 61, 62, 63] (by decide +kernel) (by decide +kernel)) (goodIn_sub (fun _ h => List.mem_cons_of_mem _ (List.mem_append_left _ (List.mem_append_right _ h))) (by decide +kernel))
set_option maxRecDepth 20000 in
theorem gX7_setClip_X7_find : GoodIn wsX7_setClip (wsV RX7 46 RX7 yX7_find wsX7_find) := goodIn_app (goodIn_of _ (by decide +kernel)) ggX7_setClip_X7_find
set_option maxRecDepth 20000 in
theorem ggX7_setClip_X7_checkPoint : GoodIn wsX7_setClip wsX7_checkPoint := goodIn_ca (goodIn_r _ [18, 19, 20, 8, 21, 22, 23] (by decide +kernel) (by decide +kernel)) (goodIn_sub (fun _ h => List.mem_cons_of_mem _ (List.mem_append_right _ h)) (by decide +kernel))
set_option maxRecDepth 20000 in
theorem gX7_setClip_X7_checkPoint : GoodIn wsX7_setClip (va_wsS RX7 58 yX7_checkPoint wsX7_checkPoint) := goodIn_app (goodIn_of _ (by decide +kernel)) ggX7_setClip_X7_checkPoint
set_option maxRecDepth 20000 in
theorem ggX7_setClip_X7_checkRange : GoodIn wsX7_setClip wsX7_checkRange := goodIn_ca (goodIn_r _ [21, 22, 23] (by decide +kernel) (by decide +kernel)) (goodIn_sub (fun _ h => List.mem_cons_of_mem _ (List.mem_append_right _ h)) (by decide +kernel))
set_option maxRecDepth 20000 in
theorem gX7_setClip_X7_checkRange : GoodIn wsX7_setClip (va_wsS RX7 62 yX7_checkRange wsX7_checkRange) := goodIn_app (goodIn_of _ (by decide +kernel)) ggX7_setClip_X7_checkRange
set_option maxRecDepth 20000 in
theorem ggX7_setClip_X0_init : GoodIn wsX7_setClip wsX0_init := goodIn_r _ [26, 27, 28, 29, 30, 31, 32, 33, 53, 54, 55, 56] (by decide +kernel) (by decide +kernel)
set_option maxRecDepth 20000 in
theorem gX7_setClip_X0_init : GoodIn wsX7_setClip (wsX0_init) := ggX7_setClip_X0_init
theorem dX7_setClip_0 : decode cX7_setClip 0 = .ok (.aload_n 0, 1) := by decide +kernel
theorem dX7_setClip_1 : decode cX7_setClip 1 = .ok (.iload_n 1, 1) := by decide +kernel
theorem dX7_setClip_2 : decode cX7_setClip 2 = .ok (.invokevirtual 46, 3) := by decide +kernel
theorem dX7_setClip_5 : decode cX7_setClip 5 = .ok (.astore 6, 2) := by decide +kernel
theorem dX7_setClip_7 : decode cX7_setClip 7 = .ok (.iload_n 2, 1) := by decide +kernel
theorem dX7_setClip_8 : decode cX7_setClip 8 = .ok (.iload_n 3, 1) := by decide +kernel
theorem dX7_setClip_9 : decode cX7_setClip 9 = .ok (.invokestatic 58, 3) := by decide +kernel
theorem dX7_setClip_12 : decode cX7_setClip 12 = .ok (.iload 4, 2) := by decide +kernel
theorem dX7_setClip_14 : decode cX7_setClip 14 = .ok (.iconst 0, 1) := by decide +kernel
theorem dX7_setClip_15 : decode cX7_setClip 15 = .ok (.bipush 100, 2) := by decide +kernel
theorem dX7_setClip_17 : decode cX7_setClip 17 = .ok (.invokestatic 62, 3) := by decide +kernel
theorem dX7_setClip_20 : decode cX7_setClip 20 = .ok (.iload 5, 2) := by decide +kernel
theorem dX7_setClip_22 : decode cX7_setClip 22 = .ok (.iconst 0, 1) := by decide +kernel
theorem dX7_setClip_23 : decode cX7_setClip 23 = .ok (.bipush 100, 2) := by decide +kernel
theorem dX7_setClip_25 : decode cX7_setClip 25 = .ok (.invokestatic 62, 3) := by decide +kernel
theorem dX7_setClip_28 : decode cX7_setClip 28 = .ok (.aload 6, 2) := by decide +kernel
theorem dX7_setClip_30 : decode cX7_setClip 30 = .ok (.getfield 169, 3) := by decide +kernel
theorem dX7_setClip_33 : decode cX7_setClip 33 = .ok (.ifnull 7, 3) := by decide +kernel
theorem dX7_setClip_36 : decode cX7_setClip 36 = .ok (.iconst 1, 1) := by decide +kernel
theorem dX7_setClip_37 : decode cX7_setClip 37 = .ok (.goto 4, 3) := by decide +kernel
theorem dX7_setClip_40 : decode cX7_setClip 40 = .ok (.iconst 0, 1) := by decide +kernel
theorem dX7_setClip_41 : decode cX7_setClip 41 = .ok (.istore 7, 2) := by decide +kernel
theorem dX7_setClip_43 : decode cX7_setClip 43 = .ok (.aload 6, 2) := by decide +kernel
theorem dX7_setClip_45 : decode cX7_setClip 45 = .ok (.iload 4, 2) := by decide +kernel
theorem dX7_setClip_47 : decode cX7_setClip 47 = .ok (.ifCond .ne 7, 3) := by decide +kernel
theorem dX7_setClip_50 : decode cX7_setClip 50 = .ok (.aconst_null, 1) := by decide +kernel
theorem dX7_setClip_51 : decode cX7_setClip 51 = .ok (.goto 16, 3) := by decide +kernel
theorem dX7_setClip_54 : decode cX7_setClip 54 = .ok (.new 68, 3) := by decide +kernel
theorem dX7_setClip_57 : decode cX7_setClip 57 = .ok (.dup, 1) := by decide +kernel
theorem dX7_setClip_58 : decode cX7_setClip 58 = .ok (.iload_n 2, 1) := by decide +kernel
theorem dX7_setClip_59 : decode cX7_setClip 59 = .ok (.iload_n 3, 1) := by decide +kernel
theorem dX7_setClip_60 : decode cX7_setClip 60 = .ok (.iload 4, 2) := by decide +kernel
theorem dX7_setClip_62 : decode cX7_setClip 62 = .ok (.iload 5, 2) := by decide +kernel
theorem dX7_setClip_64 : decode cX7_setClip 64 = .ok (.invokespecial 70, 3) := by decide +kernel
theorem dX7_setClip_67 : decode cX7_setClip 67 = .ok (.putfield 169, 3) := by decide +kernel
theorem dX7_setClip_70 : decode cX7_setClip 70 = .ok (.iload 7, 2) := by decide +kernel
theorem dX7_setClip_72 : decode cX7_setClip 72 = .ok (.ireturn, 1) := by decide +kernel
set_option maxRecDepth 20000 in
theorem ggX7_setMask_X7_find : GoodIn wsX7_setMask wsX7_find := goodIn_ca (goodIn_r _ [9, 10, 11, 12, 13, 14, 8, 15, 35, 36, 37, 38, 39, 40, 41] (by decide +kernel) (by decide +kernel)) (goodIn_sub (fun _ h => List.mem_cons_of_mem _ (List.mem_append_right _ h)) (by decide +kernel))
set_option maxRecDepth 20000 in
theorem gX7_setMask_X7_find : GoodIn wsX7_setMask (wsV RX7 46 RX7 yX7_find wsX7_find) := goodIn_app (goodIn_of _ (by decide +kernel)) ggX7_setMask_X7_find
theorem dX7_setMask_0 : decode cX7_setMask 0 = .ok (.aload_n 0, 1) := by decide +kernel
theorem dX7_setMask_1 : decode cX7_setMask 1 = .ok (.iload_n 1, 1) := by decide +kernel
theorem dX7_setMask_2 : decode cX7_setMask 2 = .ok (.invokevirtual 46, 3) := by decide +kernel
theorem dX7_setMask_5 : decode cX7_setMask 5 = .ok (.astore_n 3, 1) := by decide +kernel
theorem dX7_setMask_6 : decode cX7_setMask 6 = .ok (.aload_n 3, 1) := by decide +kernel
theorem dX7_setMask_7 : decode cX7_setMask 7 = .ok (.getfield 120, 3) := by decide +kernel
theorem dX7_setMask_10 : decode cX7_setMask 10 = .ok (.ifnull 13, 3) := by decide +kernel
theorem dX7_setMask_13 : decode cX7_setMask 13 = .ok (.new 105, 3) := by decide +kernel
theorem dX7_setMask_16 : decode cX7_setMask 16 = .ok (.dup, 1) := by decide +kernel
theorem dX7_setMask_17 : decode cX7_setMask 17 = .ok (.ldc 173, 2) := by decide +kernel
theorem dX7_setMask_19 : decode cX7_setMask 19 = .ok (.invokespecial 109, 3) := by decide +kernel
theorem dX7_setMask_22 : decode cX7_setMask 22 = .ok (.athrow, 1) := by decide +kernel
theorem dX7_setMask_23 : decode cX7_setMask 23 = .ok (.aload_n 3, 1) := by decide +kernel
theorem dX7_setMask_24 : decode cX7_setMask 24 = .ok (.getfield 175, 3) := by decide +kernel
theorem dX7_setMask_27 : decode cX7_setMask 27 = .ok (.istore 4, 2) := by decide +kernel
theorem dX7_setMask_29 : decode cX7_setMask 29 = .ok (.aload_n 3, 1) := by decide +kernel
theorem dX7_setMask_30 : decode cX7_setMask 30 = .ok (.iload_n 2, 1) := by decide +kernel
theorem dX7_setMask_31 : decode cX7_setMask 31 = .ok (.putfield 175, 3) := by decide +kernel
theorem dX7_setMask_34 : decode cX7_setMask 34 = .ok (.iload 4, 2) := by decide +kernel
theorem dX7_setMask_36 : decode cX7_setMask 36 = .ok (.ireturn, 1) := by decide +kernel
set_option maxRecDepth 20000 in
theorem ggX7_setGround_X7_checkRange : GoodIn wsX7_setGround wsX7_checkRange := goodIn_ca (goodIn_r _ [5, 6, 7] (by decide +kernel) (by decide +kernel)) (goodIn_sub (fun _ h => List.mem_cons_of_mem _ (List.mem_append_right _ h)) (by decide +kernel))
set_option maxRecDepth 20000 in
theorem gX7_setGround_X7_checkRange : GoodIn wsX7_setGround (va_wsS RX7 62 yX7_checkRange wsX7_checkRange) := goodIn_app (goodIn_of _ (by decide +kernel)) ggX7_setGround_X7_checkRange
theorem dX7_setGround_0 : decode cX7_setGround 0 = .ok (.iload_n 1, 1) := by decide +kernel
theorem dX7_setGround_1 : decode cX7_setGround 1 = .ok (.iconst 0, 1) := by decide +kernel
theorem dX7_setGround_2 : decode cX7_setGround 2 = .ok (.sipush 255, 3) := by decide +kernel
theorem dX7_setGround_5 : decode cX7_setGround 5 = .ok (.invokestatic 62, 3) := by decide +kernel
theorem dX7_setGround_8 : decode cX7_setGround 8 = .ok (.aload_n 0, 1) := by decide +kernel
theorem dX7_setGround_9 : decode cX7_setGround 9 = .ok (.getfield 40, 3) := by decide +kernel
theorem dX7_setGround_12 : decode cX7_setGround 12 = .ok (.istore_n 2, 1) := by decide +kernel
theorem dX7_setGround_13 : decode cX7_setGround 13 = .ok (.aload_n 0, 1) := by decide +kernel
theorem dX7_setGround_14 : decode cX7_setGround 14 = .ok (.iload_n 1, 1) := by decide +kernel
theorem dX7_setGround_15 : decode cX7_setGround 15 = .ok (.putfield 40, 3) := by decide +kernel
theorem dX7_setGround_18 : decode cX7_setGround 18 = .ok (.iload_n 2, 1) := by decide +kernel
theorem dX7_setGround_19 : decode cX7_setGround 19 = .ok (.ireturn, 1) := by decide +kernel
set_option maxRecDepth 20000 in
theorem ggX7_value_X7_checkPixel : GoodIn wsX7_value wsX7_checkPixel := goodIn_ca (goodIn_r _ [5, 6, 7] (by decide +kernel) (by decide +kernel)) (goodIn_sub (fun _ h => List.mem_cons_of_mem _ (List.mem_append_right _ h)) (by decide +kernel))
set_option maxRecDepth 20000 in
theorem gX7_value_X7_checkPixel : GoodIn wsX7_value (va_wsS RX7 178 yX7_checkPixel wsX7_checkPixel) := goodIn_app (goodIn_of _ (by decide +kernel)) ggX7_value_X7_checkPixel
set_option maxRecDepth 20000 in
theorem ggX7_value_X7_mixRow : GoodIn wsX7_value wsX7_mixRow := goodIn_r _ [11, 1, 12, 13, 14, 15, 16, 17, 18, 19, 20, 21, 4, 22, 23, 24, 25, 26, 27, 28, 29, 30, 31, 32, 33, 34, 35, 36, 37, 38, 39, 40, 41, 42, 43, 44, 45, 46, 47, 48, 49, 50, 51, 52, 53, 54, 55, 56, 57, 58, 59, 60, 61, 62, 63, 64, 65, 66, 67, 68, 69, 70, 71, 72, 73, 74, 75, 76, 77, 78, 79, 80, 81, 82, 83, 84, 85, 86, 87, 88, 89, 90, 91, 92, 93, 94, 95, 96, 97, 98, 99, 100, 101, 102, 103, 104, 105, 106, 107, 108, 109, 110, 111, 112, 113, 114, 115, 116, 117, 118, 119, 120, 121, 122, 123, 124, 125, 126, 127, 128, 129, 130, 131, 132, 133, 134, 135, 136, 137, 138, 139, 140, 141, 142, 143, 144, 145, 146, 147, 148, 149, 150, 151, 152, 153, 154, 155, 156, 157, 158, 159, 160, 161, 162, 163, 164, 165, 166, 167, 168, 169, 170, 171, 172, 173, 174, 175, 176, 177, 178, 179, 180, 181, 182, 183, 184, 185] (by decide +kernel) (by decide +kernel)
set_option maxRecDepth 20000 in
theorem gX7_value_X7_mixRow : GoodIn wsX7_value (wsV RX7 181 RX7 yX7_mixRow wsX7_mixRow) := goodIn_app (goodIn_of _ (by decide +kernel)) ggX7_value_X7_mixRow
theorem dX7_value_0 : decode cX7_value 0 = .ok (.iload_n 1, 1) := by decide +kernel
theorem dX7_value_1 : decode cX7_value 1 = .ok (.iload_n 2, 1) := by decide +kernel
theorem dX7_value_2 : decode cX7_value 2 = .ok (.invokestatic 178, 3) := by decide +kernel
theorem dX7_value_5 : decode cX7_value 5 = .ok (.aload_n 0, 1) := by decide +kernel
theorem dX7_value_6 : decode cX7_value 6 = .ok (.iload_n 2, 1) := by decide +kernel
theorem dX7_value_7 : decode cX7_value 7 = .ok (.invokevirtual 181, 3) := by decide +kernel
theorem dX7_value_10 : decode cX7_value 10 = .ok (.aload_n 0, 1) := by decide +kernel
theorem dX7_value_11 : decode cX7_value 11 = .ok (.getfield 33, 3) := by decide +kernel
theorem dX7_value_14 : decode cX7_value 14 = .ok (.iload_n 1, 1) := by decide +kernel
theorem dX7_value_15 : decode cX7_value 15 = .ok (.iaload, 1) := by decide +kernel
theorem dX7_value_16 : decode cX7_value 16 = .ok (.ireturn, 1) := by decide +kernel
set_option maxRecDepth 20000 in
theorem ggX7_hit_X7_checkPixel : GoodIn wsX7_hit wsX7_checkPixel := goodIn_ca (goodIn_r _ [10, 11, 12] (by decide +kernel) (by decide +kernel)) (goodIn_sub (fun _ h => List.mem_cons_of_mem _ (List.mem_append_right _ h)) (by decide +kernel))
set_option maxRecDepth 20000 in
theorem gX7_hit_X7_checkPixel : GoodIn wsX7_hit (va_wsS RX7 178 yX7_checkPixel wsX7_checkPixel) := goodIn_app (goodIn_of _ (by decide +kernel)) ggX7_hit_X7_checkPixel
set_option maxRecDepth 20000 in
theorem ggX7_hit_X7_scanRow : GoodIn wsX7_hit wsX7_scanRow := goodIn_r _ [16, 1, 2, 3, 17, 18, 19, 20, 21, 22, 23, 5, 24, 25, 26, 27, 28, 29, 30, 31, 32, 33, 34, 35, 36, 37, 38, 39, 40, 41, 42, 43, 44, 45, 46, 47, 48, 49, 50, 51, 52, 53, 54, 55, 56, 57, 58, 59, 60, 61, 62, 63, 64, 65, 66, 67, 68, 69, 70, 71, 72, 73, 74, 75, 76, 77, 78, 79, 80, 81, 82, 83, 84, 85, 86, 87, 88, 89, 90, 91, 92, 93, 94, 95, 9, 96, 97, 98, 99, 100, 101, 102, 103, 104, 105, 106, 107, 108, 109, 110, 111, 112, 113, 114, 115, 116, 117, 118, 119, 120, 121, 125, 126, 127, 128, 129, 130, 131, 132, 133, 134, 135, 136, 137, 138, 139, 140, 141, 142, 143, 144, 145, 146, 147, 148, 149, 150, 151, 152, 153, 154, 155, 156, 157, 158, 159, 160, 161, 162, 163, 164, 165, 166, 167, 168, 169, 170, 171] (by decide +kernel) (by decide +kernel)
set_option maxRecDepth 20000 in
theorem gX7_hit_X7_scanRow : GoodIn wsX7_hit (wsV RX7 185 RX7 yX7_scanRow wsX7_scanRow) := goodIn_app (goodIn_of _ (by decide +kernel)) ggX7_hit_X7_scanRow
set_option maxRecDepth 20000 in
theorem ggX7_hit_Jx4a65c_size_8abf5 : GoodIn wsX7_hit wsJx4a65c_size_8abf5 := goodIn_r _ [28, 29, 151, 152, 153] (by decide +kernel) (by decide +kernel)
set_option maxRecDepth 20000 in
theorem gX7_hit_Jx4a65c_size_8abf5 : GoodIn wsX7_hit (wsV RX7 129 RJx4a65c yJx4a65c_size_8abf5 wsJx4a65c_size_8abf5) := goodIn_app (goodIn_of _ (by decide +kernel)) ggX7_hit_Jx4a65c_size_8abf5
set_option maxRecDepth 20000 in
theorem ggX7_hit_Jx4a65c_get_915e3 : GoodIn wsX7_hit wsJx4a65c_get_915e3 := goodIn_r _ [33, 29, 34, 35, 36, 37, 38, 39, 40, 41, 42, 43, 44, 27, 45, 46, 151, 152, 153] (by decide +kernel) (by decide +kernel)
set_option maxRecDepth 20000 in
theorem gX7_hit_Jx4a65c_get_915e3 : GoodIn wsX7_hit (wsV RX7 146 RJx4a65c yJx4a65c_get_915e3 wsJx4a65c_get_915e3) := goodIn_app (goodIn_of _ (by decide +kernel)) ggX7_hit_Jx4a65c_get_915e3
set_option maxRecDepth 20000 in
theorem ggX7_hit_X7_hasBit : GoodIn wsX7_hit wsX7_hasBit := goodIn_r _ [124] (by decide +kernel) (by decide +kernel)
set_option maxRecDepth 20000 in
theorem gX7_hit_X7_hasBit : GoodIn wsX7_hit (va_wsS RX7 195 yX7_hasBit wsX7_hasBit) := goodIn_app (goodIn_of _ (by decide +kernel)) ggX7_hit_X7_hasBit
theorem dX7_hit_0 : decode cX7_hit 0 = .ok (.iload_n 1, 1) := by decide +kernel
theorem dX7_hit_1 : decode cX7_hit 1 = .ok (.iload_n 2, 1) := by decide +kernel
theorem dX7_hit_2 : decode cX7_hit 2 = .ok (.invokestatic 178, 3) := by decide +kernel
theorem dX7_hit_5 : decode cX7_hit 5 = .ok (.aload_n 0, 1) := by decide +kernel
theorem dX7_hit_6 : decode cX7_hit 6 = .ok (.iload_n 2, 1) := by decide +kernel
theorem dX7_hit_7 : decode cX7_hit 7 = .ok (.invokevirtual 185, 3) := by decide +kernel
theorem dX7_hit_10 : decode cX7_hit 10 = .ok (.aload_n 0, 1) := by decide +kernel
theorem dX7_hit_11 : decode cX7_hit 11 = .ok (.getfield 25, 3) := by decide +kernel
theorem dX7_hit_14 : decode cX7_hit 14 = .ok (.invokevirtual 129, 3) := by decide +kernel
theorem dX7_hit_17 : decode cX7_hit 17 = .ok (.iconst 1, 1) := by decide +kernel
theorem dX7_hit_18 : decode cX7_hit 18 = .ok (.isub, 1) := by decide +kernel
theorem dX7_hit_19 : decode cX7_hit 19 = .ok (.istore_n 3, 1) := by decide +kernel
theorem dX7_hit_20 : decode cX7_hit 20 = .ok (.iload_n 3, 1) := by decide +kernel
theorem dX7_hit_21 : decode cX7_hit 21 = .ok (.ifCond .lt 56, 3) := by decide +kernel
theorem dX7_hit_24 : decode cX7_hit 24 = .ok (.aload_n 0, 1) := by decide +kernel
theorem dX7_hit_25 : decode cX7_hit 25 = .ok (.getfield 25, 3) := by decide +kernel
theorem dX7_hit_28 : decode cX7_hit 28 = .ok (.iload_n 3, 1) := by decide +kernel
theorem dX7_hit_29 : decode cX7_hit 29 = .ok (.invokevirtual 146, 3) := by decide +kernel
theorem dX7_hit_32 : decode cX7_hit 32 = .ok (.checkcast 9, 3) := by decide +kernel
theorem dX7_hit_35 : decode cX7_hit 35 = .ok (.astore 4, 2) := by decide +kernel
theorem dX7_hit_37 : decode cX7_hit 37 = .ok (.aload 4, 2) := by decide +kernel
theorem dX7_hit_39 : decode cX7_hit 39 = .ok (.getfield 120, 3) := by decide +kernel
theorem dX7_hit_42 : decode cX7_hit 42 = .ok (.ifnull 29, 3) := by decide +kernel
theorem dX7_hit_45 : decode cX7_hit 45 = .ok (.aload 4, 2) := by decide +kernel
theorem dX7_hit_47 : decode cX7_hit 47 = .ok (.getfield 188, 3) := by decide +kernel
theorem dX7_hit_50 : decode cX7_hit 50 = .ok (.ifCond .le 21, 3) := by decide +kernel
theorem dX7_hit_53 : decode cX7_hit 53 = .ok (.aload 4, 2) := by decide +kernel
theorem dX7_hit_55 : decode cX7_hit 55 = .ok (.getfield 191, 3) := by decide +kernel
theorem dX7_hit_58 : decode cX7_hit 58 = .ok (.iload_n 1, 1) := by decide +kernel
theorem dX7_hit_59 : decode cX7_hit 59 = .ok (.invokestatic 195, 3) := by decide +kernel
theorem dX7_hit_62 : decode cX7_hit 62 = .ok (.ifCond .eq 9, 3) := by decide +kernel
theorem dX7_hit_65 : decode cX7_hit 65 = .ok (.aload 4, 2) := by decide +kernel
theorem dX7_hit_67 : decode cX7_hit 67 = .ok (.getfield 150, 3) := by decide +kernel
theorem dX7_hit_70 : decode cX7_hit 70 = .ok (.ireturn, 1) := by decide +kernel
theorem dX7_hit_71 : decode cX7_hit 71 = .ok (.iinc 3 (-1), 3) := by decide +kernel
theorem dX7_hit_74 : decode cX7_hit 74 = .ok (.goto (-54), 3) := by decide +kernel
theorem dX7_hit_77 : decode cX7_hit 77 = .ok (.iconst (-1), 1) := by decide +kernel
theorem dX7_hit_78 : decode cX7_hit 78 = .ok (.ireturn, 1) := by decide +kernel
set_option maxRecDepth 20000 in
theorem ggX7_shows_X7_find : GoodIn wsX7_shows wsX7_find := goodIn_ca (goodIn_r _ [6, 7, 8, 9, 10, 11, 5, 12, 150, 151, 152, 153, 154, 155, 156] (by decide +kernel) (by decide +kernel)) (goodIn_sub (fun _ h => List.mem_cons_of_mem _ (List.mem_append_right _ h)) (by decide +kernel))
set_option maxRecDepth 20000 in
theorem gX7_shows_X7_find : GoodIn wsX7_shows (wsV RX7 46 RX7 yX7_find wsX7_find) := goodIn_app (goodIn_of _ (by decide +kernel)) ggX7_shows_X7_find
set_option maxRecDepth 20000 in
theorem ggX7_shows_X7_checkPixel : GoodIn wsX7_shows wsX7_checkPixel := goodIn_ca (goodIn_r _ [15, 7, 8] (by decide +kernel) (by decide +kernel)) (goodIn_sub (fun _ h => List.mem_cons_of_mem _ (List.mem_append_right _ h)) (by decide +kernel))
set_option maxRecDepth 20000 in
theorem gX7_shows_X7_checkPixel : GoodIn wsX7_shows (va_wsS RX7 178 yX7_checkPixel wsX7_checkPixel) := goodIn_app (goodIn_of _ (by decide +kernel)) ggX7_shows_X7_checkPixel
set_option maxRecDepth 20000 in
theorem ggX7_shows_X7_scanRow : GoodIn wsX7_shows wsX7_scanRow := goodIn_r _ [19, 20, 21, 22, 23, 24, 25, 26, 27, 28, 29, 1, 30, 31, 32, 33, 34, 35, 36, 37, 38, 39, 40, 41, 42, 43, 44, 45, 46, 47, 48, 49, 50, 51, 52, 53, 54, 55, 56, 57, 58, 59, 60, 61, 62, 63, 64, 65, 66, 67, 68, 69, 70, 71, 72, 73, 74, 75, 76, 77, 78, 79, 80, 81, 82, 83, 84, 85, 86, 87, 88, 89, 90, 91, 92, 93, 94, 95, 96, 97, 98, 99, 100, 101, 5, 102, 103, 104, 105, 106, 107, 108, 109, 110, 111, 112, 113, 114, 115, 116, 117, 118, 119, 120, 121, 122, 123, 124, 125, 126, 127, 150, 151, 152, 153, 154, 155, 156, 131, 132, 133, 134, 135, 136, 137, 138, 139, 140, 141, 142, 143, 144, 145, 146, 147, 148, 149, 157, 158, 159, 160, 161, 162, 163, 164, 165, 166, 167, 168, 169, 170, 171, 172, 173, 174, 175, 176, 177] (by decide +kernel) (by decide +kernel)
set_option maxRecDepth 20000 in
theorem gX7_shows_X7_scanRow : GoodIn wsX7_shows (wsV RX7 185 RX7 yX7_scanRow wsX7_scanRow) := goodIn_app (goodIn_of _ (by decide +kernel)) ggX7_shows_X7_scanRow
set_option maxRecDepth 20000 in
theorem ggX7_shows_X7_hasBit : GoodIn wsX7_shows wsX7_hasBit := goodIn_r _ [130] (by decide +kernel) (by decide +kernel)
set_option maxRecDepth 20000 in
theorem gX7_shows_X7_hasBit : GoodIn wsX7_shows (va_wsS RX7 195 yX7_hasBit wsX7_hasBit) := goodIn_app (goodIn_of _ (by decide +kernel)) ggX7_shows_X7_hasBit
theorem dX7_shows_0 : decode cX7_shows 0 = .ok (.aload_n 0, 1) := by decide +kernel
theorem dX7_shows_1 : decode cX7_shows 1 = .ok (.iload_n 1, 1) := by decide +kernel
theorem dX7_shows_2 : decode cX7_shows 2 = .ok (.invokevirtual 46, 3) := by decide +kernel
theorem dX7_shows_5 : decode cX7_shows 5 = .ok (.astore 4, 2) := by decide +kernel
theorem dX7_shows_7 : decode cX7_shows 7 = .ok (.iload_n 2, 1) := by decide +kernel
theorem dX7_shows_8 : decode cX7_shows 8 = .ok (.iload_n 3, 1) := by decide +kernel
theorem dX7_shows_9 : decode cX7_shows 9 = .ok (.invokestatic 178, 3) := by decide +kernel
theorem dX7_shows_12 : decode cX7_shows 12 = .ok (.aload_n 0, 1) := by decide +kernel
theorem dX7_shows_13 : decode cX7_shows 13 = .ok (.iload_n 3, 1) := by decide +kernel
theorem dX7_shows_14 : decode cX7_shows 14 = .ok (.invokevirtual 185, 3) := by decide +kernel
theorem dX7_shows_17 : decode cX7_shows 17 = .ok (.aload 4, 2) := by decide +kernel
theorem dX7_shows_19 : decode cX7_shows 19 = .ok (.getfield 191, 3) := by decide +kernel
theorem dX7_shows_22 : decode cX7_shows 22 = .ok (.iload_n 2, 1) := by decide +kernel
theorem dX7_shows_23 : decode cX7_shows 23 = .ok (.invokestatic 195, 3) := by decide +kernel
theorem dX7_shows_26 : decode cX7_shows 26 = .ok (.ireturn, 1) := by decide +kernel
set_option maxRecDepth 20000 in
theorem ggX7_changed_X7_checkIndex : GoodIn wsX7_changed wsX7_checkIndex := goodIn_ca (goodIn_r _ [6, 7, 8] (by decide +kernel) (by decide +kernel)) (goodIn_sub (fun _ h => List.mem_cons_of_mem _ (List.mem_append_right _ h)) (by decide +kernel))
set_option maxRecDepth 20000 in
theorem gX7_changed_X7_checkIndex : GoodIn wsX7_changed (va_wsS RX7 139 yX7_checkIndex wsX7_checkIndex) := goodIn_app (goodIn_of _ (by decide +kernel)) ggX7_changed_X7_checkIndex
set_option maxRecDepth 20000 in
theorem ggX7_changed_X7_mixRow : GoodIn wsX7_changed wsX7_mixRow := goodIn_r _ [12, 1, 13, 14, 15, 16, 17, 18, 19, 20, 21, 22, 5, 23, 24, 25, 26, 27, 28, 29, 30, 31, 32, 33, 34, 35, 36, 37, 38, 39, 40, 41, 42, 43, 44, 45, 46, 47, 48, 49, 50, 51, 52, 53, 54, 55, 56, 57, 58, 59, 60, 61, 62, 63, 64, 65, 66, 67, 68, 69, 70, 71, 72, 73, 74, 75, 76, 77, 78, 79, 80, 81, 82, 83, 84, 85, 86, 87, 88, 89, 90, 91, 92, 93, 94, 95, 96, 97, 98, 99, 100, 101, 102, 103, 104, 105, 106, 107, 108, 109, 110, 111, 112, 113, 114, 115, 116, 117, 118, 119, 120, 121, 122, 123, 124, 125, 126, 127, 128, 129, 130, 131, 132, 133, 134, 135, 136, 137, 138, 139, 140, 141, 142, 143, 144, 145, 146, 147, 148, 149, 150, 151, 152, 153, 154, 155, 156, 157, 158, 159, 160, 161, 162, 163, 164, 165, 166, 167, 168, 169, 170, 171, 172, 173, 174, 175, 176, 177, 178, 179, 180, 181, 182, 183, 184, 185, 186] (by decide +kernel) (by decide +kernel)
set_option maxRecDepth 20000 in
theorem gX7_changed_X7_mixRow : GoodIn wsX7_changed (wsV RX7 181 RX7 yX7_mixRow wsX7_mixRow) := goodIn_app (goodIn_of _ (by decide +kernel)) ggX7_changed_X7_mixRow
theorem dX7_changed_0 : decode cX7_changed 0 = .ok (.iload_n 1, 1) := by decide +kernel
theorem dX7_changed_1 : decode cX7_changed 1 = .ok (.bipush 48, 2) := by decide +kernel
theorem dX7_changed_3 : decode cX7_changed 3 = .ok (.invokestatic 139, 3) := by decide +kernel
theorem dX7_changed_6 : decode cX7_changed 6 = .ok (.iload_n 1, 1) := by decide +kernel
theorem dX7_changed_7 : decode cX7_changed 7 = .ok (.bipush 8, 2) := by decide +kernel
theorem dX7_changed_9 : decode cX7_changed 9 = .ok (.irem, 1) := by decide +kernel
theorem dX7_changed_10 : decode cX7_changed 10 = .ok (.bipush 8, 2) := by decide +kernel
theorem dX7_changed_12 : decode cX7_changed 12 = .ok (.imul, 1) := by decide +kernel
theorem dX7_changed_13 : decode cX7_changed 13 = .ok (.istore_n 2, 1) := by decide +kernel
theorem dX7_changed_14 : decode cX7_changed 14 = .ok (.iload_n 1, 1) := by decide +kernel
theorem dX7_changed_15 : decode cX7_changed 15 = .ok (.bipush 8, 2) := by decide +kernel
theorem dX7_changed_17 : decode cX7_changed 17 = .ok (.idiv, 1) := by decide +kernel
theorem dX7_changed_18 : decode cX7_changed 18 = .ok (.bipush 8, 2) := by decide +kernel
theorem dX7_changed_20 : decode cX7_changed 20 = .ok (.imul, 1) := by decide +kernel
theorem dX7_changed_21 : decode cX7_changed 21 = .ok (.istore_n 3, 1) := by decide +kernel
theorem dX7_changed_22 : decode cX7_changed 22 = .ok (.iconst 0, 1) := by decide +kernel
theorem dX7_changed_23 : decode cX7_changed 23 = .ok (.istore 4, 2) := by decide +kernel
theorem dX7_changed_25 : decode cX7_changed 25 = .ok (.iload_n 3, 1) := by decide +kernel
theorem dX7_changed_26 : decode cX7_changed 26 = .ok (.istore 5, 2) := by decide +kernel
theorem dX7_changed_28 : decode cX7_changed 28 = .ok (.iload 5, 2) := by decide +kernel
theorem dX7_changed_30 : decode cX7_changed 30 = .ok (.iload_n 3, 1) := by decide +kernel
theorem dX7_changed_31 : decode cX7_changed 31 = .ok (.bipush 8, 2) := by decide +kernel
theorem dX7_changed_33 : decode cX7_changed 33 = .ok (.iadd, 1) := by decide +kernel
theorem dX7_changed_34 : decode cX7_changed 34 = .ok (.if_icmp .ge 59, 3) := by decide +kernel
theorem dX7_changed_37 : decode cX7_changed 37 = .ok (.aload_n 0, 1) := by decide +kernel
theorem dX7_changed_38 : decode cX7_changed 38 = .ok (.iload 5, 2) := by decide +kernel
theorem dX7_changed_40 : decode cX7_changed 40 = .ok (.invokevirtual 181, 3) := by decide +kernel
theorem dX7_changed_43 : decode cX7_changed 43 = .ok (.iload_n 2, 1) := by decide +kernel
theorem dX7_changed_44 : decode cX7_changed 44 = .ok (.istore 6, 2) := by decide +kernel
theorem dX7_changed_46 : decode cX7_changed 46 = .ok (.iload 6, 2) := by decide +kernel
theorem dX7_changed_48 : decode cX7_changed 48 = .ok (.iload_n 2, 1) := by decide +kernel
theorem dX7_changed_49 : decode cX7_changed 49 = .ok (.bipush 8, 2) := by decide +kernel
theorem dX7_changed_51 : decode cX7_changed 51 = .ok (.iadd, 1) := by decide +kernel
theorem dX7_changed_52 : decode cX7_changed 52 = .ok (.if_icmp .ge 35, 3) := by decide +kernel
theorem dX7_changed_55 : decode cX7_changed 55 = .ok (.aload_n 0, 1) := by decide +kernel
theorem dX7_changed_56 : decode cX7_changed 56 = .ok (.getfield 33, 3) := by decide +kernel
theorem dX7_changed_59 : decode cX7_changed 59 = .ok (.iload 6, 2) := by decide +kernel
theorem dX7_changed_61 : decode cX7_changed 61 = .ok (.iaload, 1) := by decide +kernel
theorem dX7_changed_62 : decode cX7_changed 62 = .ok (.aload_n 0, 1) := by decide +kernel
theorem dX7_changed_63 : decode cX7_changed 63 = .ok (.getfield 29, 3) := by decide +kernel
theorem dX7_changed_66 : decode cX7_changed 66 = .ok (.iload 5, 2) := by decide +kernel
theorem dX7_changed_68 : decode cX7_changed 68 = .ok (.bipush 64, 2) := by decide +kernel
theorem dX7_changed_70 : decode cX7_changed 70 = .ok (.imul, 1) := by decide +kernel
theorem dX7_changed_71 : decode cX7_changed 71 = .ok (.iload 6, 2) := by decide +kernel
theorem dX7_changed_73 : decode cX7_changed 73 = .ok (.iadd, 1) := by decide +kernel
theorem dX7_changed_74 : decode cX7_changed 74 = .ok (.iaload, 1) := by decide +kernel
theorem dX7_changed_75 : decode cX7_changed 75 = .ok (.if_icmp .eq 6, 3) := by decide +kernel
theorem dX7_changed_78 : decode cX7_changed 78 = .ok (.iinc 4 1, 3) := by decide +kernel
theorem dX7_changed_81 : decode cX7_changed 81 = .ok (.iinc 6 1, 3) := by decide +kernel
theorem dX7_changed_84 : decode cX7_changed 84 = .ok (.goto (-38), 3) := by decide +kernel
theorem dX7_changed_87 : decode cX7_changed 87 = .ok (.iinc 5 1, 3) := by decide +kernel
theorem dX7_changed_90 : decode cX7_changed 90 = .ok (.goto (-62), 3) := by decide +kernel
theorem dX7_changed_93 : decode cX7_changed 93 = .ok (.iload 4, 2) := by decide +kernel
theorem dX7_changed_95 : decode cX7_changed 95 = .ok (.ireturn, 1) := by decide +kernel
set_option maxRecDepth 20000 in
theorem ggX7_paint_X7_changedTiles : GoodIn wsX7_paint wsX7_changedTiles := goodIn_r _ [7, 2, 1, 8, 9, 10, 6, 11, 12, 13, 14, 15, 16, 17, 18, 19, 20, 21, 22, 23, 24, 25, 26, 27, 28, 29, 30, 31, 32, 33, 34, 35, 36, 37, 38, 39, 40, 41, 42, 43, 44, 45, 46, 47, 48, 49, 50, 51, 52, 53, 54, 55, 56, 57, 58, 59, 60, 61, 62, 63, 64, 65, 66, 67, 68, 69, 70, 71, 72, 73, 74, 75, 76, 77, 78, 79, 80, 81, 82, 83, 84, 85, 86, 87, 88, 89, 90, 91, 92, 93, 94, 95, 96, 97, 98, 99, 100, 101, 102, 103, 104, 105, 106, 107, 108, 109, 110, 111, 112, 113, 114, 115, 116, 117, 118, 119, 120, 121, 122, 123, 124, 125, 126, 127, 128, 129, 130, 131, 132, 133, 134, 135, 136, 137, 138, 146, 147, 148, 149, 150, 151, 152, 153, 154, 155, 156, 157, 158, 159, 160, 161, 162, 163, 164, 165, 166, 167, 168, 169, 170, 171, 172, 173, 174, 175, 176, 177, 178, 179, 180, 181, 182, 183, 184, 185, 186, 187, 188, 189, 190, 191, 192] (by decide +kernel) (by decide +kernel)
set_option maxRecDepth 20000 in
theorem gX7_paint_X7_changedTiles : GoodIn wsX7_paint (wsV RX7 211 RX7 yX7_changedTiles wsX7_changedTiles) := goodIn_app (goodIn_of _ (by decide +kernel)) ggX7_paint_X7_changedTiles
set_option maxRecDepth 20000 in
theorem ggX7_paint_J13_bitCount_95d88 : GoodIn wsX7_paint wsJ13_bitCount_95d88 := goodIn_r _ [142, 143, 144, 145] (by decide +kernel) (by decide +kernel)
set_option maxRecDepth 20000 in
theorem gX7_paint_J13_bitCount_95d88 : GoodIn wsX7_paint (va_wsS RX7 199 yJ13_bitCount_95d88 wsJ13_bitCount_95d88) := goodIn_app (goodIn_of _ (by decide +kernel)) ggX7_paint_J13_bitCount_95d88
theorem dX7_paint_0 : decode cX7_paint 0 = .ok (.lconst 0, 1) := by decide +kernel
theorem dX7_paint_1 : decode cX7_paint 1 = .ok (.lstore_n 1, 1) := by decide +kernel
theorem dX7_paint_2 : decode cX7_paint 2 = .ok (.iconst 0, 1) := by decide +kernel
theorem dX7_paint_3 : decode cX7_paint 3 = .ok (.istore_n 3, 1) := by decide +kernel
theorem dX7_paint_4 : decode cX7_paint 4 = .ok (.iload_n 3, 1) := by decide +kernel
theorem dX7_paint_5 : decode cX7_paint 5 = .ok (.bipush 48, 2) := by decide +kernel
theorem dX7_paint_7 : decode cX7_paint 7 = .ok (.if_icmp .ge 52, 3) := by decide +kernel
theorem dX7_paint_10 : decode cX7_paint 10 = .ok (.lload_n 1, 1) := by decide +kernel
theorem dX7_paint_11 : decode cX7_paint 11 = .ok (.aload_n 0, 1) := by decide +kernel
theorem dX7_paint_12 : decode cX7_paint 12 = .ok (.iload_n 3, 1) := by decide +kernel
theorem dX7_paint_13 : decode cX7_paint 13 = .ok (.invokevirtual 211, 3) := by decide +kernel
theorem dX7_paint_16 : decode cX7_paint 16 = .ok (.lor, 1) := by decide +kernel
theorem dX7_paint_17 : decode cX7_paint 17 = .ok (.lstore_n 1, 1) := by decide +kernel
theorem dX7_paint_18 : decode cX7_paint 18 = .ok (.iconst 0, 1) := by decide +kernel
theorem dX7_paint_19 : decode cX7_paint 19 = .ok (.istore 4, 2) := by decide +kernel
theorem dX7_paint_21 : decode cX7_paint 21 = .ok (.iload 4, 2) := by decide +kernel
theorem dX7_paint_23 : decode cX7_paint 23 = .ok (.bipush 64, 2) := by decide +kernel
theorem dX7_paint_25 : decode cX7_paint 25 = .ok (.if_icmp .ge 28, 3) := by decide +kernel
theorem dX7_paint_28 : decode cX7_paint 28 = .ok (.aload_n 0, 1) := by decide +kernel
theorem dX7_paint_29 : decode cX7_paint 29 = .ok (.getfield 29, 3) := by decide +kernel
theorem dX7_paint_32 : decode cX7_paint 32 = .ok (.iload_n 3, 1) := by decide +kernel
theorem dX7_paint_33 : decode cX7_paint 33 = .ok (.bipush 64, 2) := by decide +kernel
theorem dX7_paint_35 : decode cX7_paint 35 = .ok (.imul, 1) := by decide +kernel
theorem dX7_paint_36 : decode cX7_paint 36 = .ok (.iload 4, 2) := by decide +kernel
theorem dX7_paint_38 : decode cX7_paint 38 = .ok (.iadd, 1) := by decide +kernel
theorem dX7_paint_39 : decode cX7_paint 39 = .ok (.aload_n 0, 1) := by decide +kernel
theorem dX7_paint_40 : decode cX7_paint 40 = .ok (.getfield 33, 3) := by decide +kernel
theorem dX7_paint_43 : decode cX7_paint 43 = .ok (.iload 4, 2) := by decide +kernel
theorem dX7_paint_45 : decode cX7_paint 45 = .ok (.iaload, 1) := by decide +kernel
theorem dX7_paint_46 : decode cX7_paint 46 = .ok (.iastore, 1) := by decide +kernel
theorem dX7_paint_47 : decode cX7_paint 47 = .ok (.iinc 4 1, 3) := by decide +kernel
theorem dX7_paint_50 : decode cX7_paint 50 = .ok (.goto (-29), 3) := by decide +kernel
theorem dX7_paint_53 : decode cX7_paint 53 = .ok (.iinc 3 1, 3) := by decide +kernel
theorem dX7_paint_56 : decode cX7_paint 56 = .ok (.goto (-52), 3) := by decide +kernel
theorem dX7_paint_59 : decode cX7_paint 59 = .ok (.lload_n 1, 1) := by decide +kernel
theorem dX7_paint_60 : decode cX7_paint 60 = .ok (.invokestatic 199, 3) := by decide +kernel
theorem dX7_paint_63 : decode cX7_paint 63 = .ok (.ireturn, 1) := by decide +kernel
set_option maxRecDepth 20000 in
theorem ggX7_find_X7_checkIndex : GoodIn wsX7_find wsX7_checkIndex := goodIn_ca (goodIn_r _ [7, 1, 2] (by decide +kernel) (by decide +kernel)) (goodIn_sub (fun _ h => List.mem_cons_of_mem _ (List.mem_append_right _ h)) (by decide +kernel))
set_option maxRecDepth 20000 in
theorem gX7_find_X7_checkIndex : GoodIn wsX7_find (va_wsS RX7 139 yX7_checkIndex wsX7_checkIndex) := goodIn_app (goodIn_of _ (by decide +kernel)) ggX7_find_X7_checkIndex
theorem dX7_find_0 : decode cX7_find 0 = .ok (.iload_n 1, 1) := by decide +kernel
theorem dX7_find_1 : decode cX7_find 1 = .ok (.bipush 40, 2) := by decide +kernel
theorem dX7_find_3 : decode cX7_find 3 = .ok (.invokestatic 139, 3) := by decide +kernel
theorem dX7_find_6 : decode cX7_find 6 = .ok (.aload_n 0, 1) := by decide +kernel
theorem dX7_find_7 : decode cX7_find 7 = .ok (.getfield 11, 3) := by decide +kernel
theorem dX7_find_10 : decode cX7_find 10 = .ok (.iload_n 1, 1) := by decide +kernel
theorem dX7_find_11 : decode cX7_find 11 = .ok (.aaload, 1) := by decide +kernel
theorem dX7_find_12 : decode cX7_find 12 = .ok (.astore_n 2, 1) := by decide +kernel
theorem dX7_find_13 : decode cX7_find 13 = .ok (.aload_n 2, 1) := by decide +kernel
theorem dX7_find_14 : decode cX7_find 14 = .ok (.ifnonnull 13, 3) := by decide +kernel
theorem dX7_find_17 : decode cX7_find 17 = .ok (.new 221, 3) := by decide +kernel
theorem dX7_find_20 : decode cX7_find 20 = .ok (.dup, 1) := by decide +kernel
theorem dX7_find_21 : decode cX7_find 21 = .ok (.ldc 223, 2) := by decide +kernel
theorem dX7_find_23 : decode cX7_find 23 = .ok (.invokespecial 225, 3) := by decide +kernel
theorem dX7_find_26 : decode cX7_find 26 = .ok (.athrow, 1) := by decide +kernel
theorem dX7_find_27 : decode cX7_find 27 = .ok (.aload_n 2, 1) := by decide +kernel
theorem dX7_find_28 : decode cX7_find 28 = .ok (.areturn, 1) := by decide +kernel
theorem dX7_checkIndex_0 : decode cX7_checkIndex 0 = .ok (.iload_n 0, 1) := by decide +kernel
theorem dX7_checkIndex_1 : decode cX7_checkIndex 1 = .ok (.ifCond .lt 8, 3) := by decide +kernel
theorem dX7_checkIndex_4 : decode cX7_checkIndex 4 = .ok (.iload_n 0, 1) := by decide +kernel
theorem dX7_checkIndex_5 : decode cX7_checkIndex 5 = .ok (.iload_n 1, 1) := by decide +kernel
theorem dX7_checkIndex_6 : decode cX7_checkIndex 6 = .ok (.if_icmp .lt 13, 3) := by decide +kernel
theorem dX7_checkIndex_9 : decode cX7_checkIndex 9 = .ok (.new 221, 3) := by decide +kernel
theorem dX7_checkIndex_12 : decode cX7_checkIndex 12 = .ok (.dup, 1) := by decide +kernel
theorem dX7_checkIndex_13 : decode cX7_checkIndex 13 = .ok (.ldc 226, 2) := by decide +kernel
theorem dX7_checkIndex_15 : decode cX7_checkIndex 15 = .ok (.invokespecial 225, 3) := by decide +kernel
theorem dX7_checkIndex_18 : decode cX7_checkIndex 18 = .ok (.athrow, 1) := by decide +kernel
theorem dX7_checkIndex_19 : decode cX7_checkIndex 19 = .ok (.return_, 1) := by decide +kernel
theorem dX7_checkPixel_0 : decode cX7_checkPixel 0 = .ok (.iload_n 0, 1) := by decide +kernel
theorem dX7_checkPixel_1 : decode cX7_checkPixel 1 = .ok (.ifCond .lt 19, 3) := by decide +kernel
theorem dX7_checkPixel_4 : decode cX7_checkPixel 4 = .ok (.iload_n 0, 1) := by decide +kernel
theorem dX7_checkPixel_5 : decode cX7_checkPixel 5 = .ok (.bipush 64, 2) := by decide +kernel
theorem dX7_checkPixel_7 : decode cX7_checkPixel 7 = .ok (.if_icmp .ge 13, 3) := by decide +kernel
theorem dX7_checkPixel_10 : decode cX7_checkPixel 10 = .ok (.iload_n 1, 1) := by decide +kernel
theorem dX7_checkPixel_11 : decode cX7_checkPixel 11 = .ok (.ifCond .lt 9, 3) := by decide +kernel
theorem dX7_checkPixel_14 : decode cX7_checkPixel 14 = .ok (.iload_n 1, 1) := by decide +kernel
theorem dX7_checkPixel_15 : decode cX7_checkPixel 15 = .ok (.bipush 48, 2) := by decide +kernel
theorem dX7_checkPixel_17 : decode cX7_checkPixel 17 = .ok (.if_icmp .lt 13, 3) := by decide +kernel
theorem dX7_checkPixel_20 : decode cX7_checkPixel 20 = .ok (.new 221, 3) := by decide +kernel
theorem dX7_checkPixel_23 : decode cX7_checkPixel 23 = .ok (.dup, 1) := by decide +kernel
theorem dX7_checkPixel_24 : decode cX7_checkPixel 24 = .ok (.ldc 228, 2) := by decide +kernel
theorem dX7_checkPixel_26 : decode cX7_checkPixel 26 = .ok (.invokespecial 225, 3) := by decide +kernel
theorem dX7_checkPixel_29 : decode cX7_checkPixel 29 = .ok (.athrow, 1) := by decide +kernel
theorem dX7_checkPixel_30 : decode cX7_checkPixel 30 = .ok (.return_, 1) := by decide +kernel
theorem dX7_checkRange_0 : decode cX7_checkRange 0 = .ok (.iload_n 0, 1) := by decide +kernel
theorem dX7_checkRange_1 : decode cX7_checkRange 1 = .ok (.iload_n 1, 1) := by decide +kernel
theorem dX7_checkRange_2 : decode cX7_checkRange 2 = .ok (.if_icmp .lt 8, 3) := by decide +kernel
theorem dX7_checkRange_5 : decode cX7_checkRange 5 = .ok (.iload_n 0, 1) := by decide +kernel
theorem dX7_checkRange_6 : decode cX7_checkRange 6 = .ok (.iload_n 2, 1) := by decide +kernel
theorem dX7_checkRange_7 : decode cX7_checkRange 7 = .ok (.if_icmp .le 13, 3) := by decide +kernel
theorem dX7_checkRange_10 : decode cX7_checkRange 10 = .ok (.new 230, 3) := by decide +kernel
theorem dX7_checkRange_13 : decode cX7_checkRange 13 = .ok (.dup, 1) := by decide +kernel
theorem dX7_checkRange_14 : decode cX7_checkRange 14 = .ok (.ldc 232, 2) := by decide +kernel
theorem dX7_checkRange_16 : decode cX7_checkRange 16 = .ok (.invokespecial 234, 3) := by decide +kernel
theorem dX7_checkRange_19 : decode cX7_checkRange 19 = .ok (.athrow, 1) := by decide +kernel
theorem dX7_checkRange_20 : decode cX7_checkRange 20 = .ok (.return_, 1) := by decide +kernel
set_option maxRecDepth 20000 in
theorem ggX7_checkPoint_X7_checkRange : GoodIn wsX7_checkPoint wsX7_checkRange := goodIn_ca (goodIn_r _ [4, 5, 6] (by decide +kernel) (by decide +kernel)) (goodIn_sub (fun _ h => List.mem_cons_of_mem _ (List.mem_append_right _ h)) (by decide +kernel))
set_option maxRecDepth 20000 in
theorem gX7_checkPoint_X7_checkRange : GoodIn wsX7_checkPoint (va_wsS RX7 62 yX7_checkRange wsX7_checkRange) := goodIn_app (goodIn_of _ (by decide +kernel)) ggX7_checkPoint_X7_checkRange
theorem dX7_checkPoint_0 : decode cX7_checkPoint 0 = .ok (.iload_n 0, 1) := by decide +kernel
theorem dX7_checkPoint_1 : decode cX7_checkPoint 1 = .ok (.bipush (-100), 2) := by decide +kernel
theorem dX7_checkPoint_3 : decode cX7_checkPoint 3 = .ok (.bipush 100, 2) := by decide +kernel
theorem dX7_checkPoint_5 : decode cX7_checkPoint 5 = .ok (.invokestatic 62, 3) := by decide +kernel
theorem dX7_checkPoint_8 : decode cX7_checkPoint 8 = .ok (.iload_n 1, 1) := by decide +kernel
theorem dX7_checkPoint_9 : decode cX7_checkPoint 9 = .ok (.bipush (-100), 2) := by decide +kernel
theorem dX7_checkPoint_11 : decode cX7_checkPoint 11 = .ok (.bipush 100, 2) := by decide +kernel
theorem dX7_checkPoint_13 : decode cX7_checkPoint 13 = .ok (.invokestatic 62, 3) := by decide +kernel
theorem dX7_checkPoint_16 : decode cX7_checkPoint 16 = .ok (.return_, 1) := by decide +kernel
theorem dX7_checkTakesMore_0 : decode cX7_checkTakesMore 0 = .ok (.aload_n 1, 1) := by decide +kernel
theorem dX7_checkTakesMore_1 : decode cX7_checkTakesMore 1 = .ok (.getfield 120, 3) := by decide +kernel
theorem dX7_checkTakesMore_4 : decode cX7_checkTakesMore 4 = .ok (.ifnonnull 12, 3) := by decide +kernel
theorem dX7_checkTakesMore_7 : decode cX7_checkTakesMore 7 = .ok (.aload_n 0, 1) := by decide +kernel
theorem dX7_checkTakesMore_8 : decode cX7_checkTakesMore 8 = .ok (.getfield 36, 3) := by decide +kernel
theorem dX7_checkTakesMore_11 : decode cX7_checkTakesMore 11 = .ok (.bipush 40, 2) := by decide +kernel
theorem dX7_checkTakesMore_13 : decode cX7_checkTakesMore 13 = .ok (.if_icmp .lt 13, 3) := by decide +kernel
theorem dX7_checkTakesMore_16 : decode cX7_checkTakesMore 16 = .ok (.new 105, 3) := by decide +kernel
theorem dX7_checkTakesMore_19 : decode cX7_checkTakesMore 19 = .ok (.dup, 1) := by decide +kernel
theorem dX7_checkTakesMore_20 : decode cX7_checkTakesMore 20 = .ok (.ldc 235, 2) := by decide +kernel
theorem dX7_checkTakesMore_22 : decode cX7_checkTakesMore 22 = .ok (.invokespecial 109, 3) := by decide +kernel
theorem dX7_checkTakesMore_25 : decode cX7_checkTakesMore 25 = .ok (.athrow, 1) := by decide +kernel
theorem dX7_checkTakesMore_26 : decode cX7_checkTakesMore 26 = .ok (.return_, 1) := by decide +kernel
set_option maxRecDepth 20000 in
theorem ggX7_append_X3_init : GoodIn wsX7_append wsX3_init := goodIn_r _ [10, 11, 12, 13, 14, 15, 16, 17, 18, 19, 20, 21, 22, 23, 24, 25, 26, 27, 28, 29, 30, 31, 32, 33, 34, 35, 36, 37, 38, 39, 40, 41, 42, 172, 173, 174, 146, 147, 148, 149, 150, 151, 152, 153, 154, 155, 156, 157, 158, 159, 160, 161, 162, 163, 164] (by decide +kernel) (by decide +kernel)
set_option maxRecDepth 20000 in
theorem gX7_append_X3_init : GoodIn wsX7_append (wsX3_init) := ggX7_append_X3_init
set_option maxRecDepth 20000 in
theorem ggX7_append_Jx4a65c_add_9ea2d : GoodIn wsX7_append wsJx4a65c_add_9ea2d := goodIn_r _ [46, 47, 48, 32, 49, 50, 51, 52, 16, 53, 54, 55, 56, 57, 58, 59, 60, 61, 31, 62, 63, 64, 65, 66, 67, 68, 69, 70, 71, 72, 73, 74, 75, 76, 77, 78, 79, 80, 81, 82, 83, 84, 85, 86, 87, 88, 89, 90, 91, 92, 93, 94, 95, 172, 173, 174] (by decide +kernel) (by decide +kernel)
set_option maxRecDepth 20000 in
theorem gX7_append_Jx4a65c_add_9ea2d : GoodIn wsX7_append (wsV RX7 237 RJx4a65c yJx4a65c_add_9ea2d wsJx4a65c_add_9ea2d) := goodIn_app (goodIn_of _ (by decide +kernel)) ggX7_append_Jx4a65c_add_9ea2d
set_option maxRecDepth 20000 in
theorem ggX7_append_X7_settle : GoodIn wsX7_append wsX7_settle := goodIn_r _ [100, 101, 102, 103, 6, 104, 105, 106, 16, 107, 47, 48, 32, 49, 43, 44, 45, 46, 50, 51, 52, 53, 54, 55, 56, 57, 58, 59, 60, 61, 31, 62, 63, 64, 65, 66, 67, 68, 69, 70, 71, 72, 73, 74, 75, 76, 77, 78, 79, 80, 81, 82, 83, 84, 85, 86, 87, 88, 89, 90, 91, 92, 93, 94, 95, 108, 109, 110, 111, 112, 113, 114, 115, 116, 117, 118, 119, 120, 121, 122, 123, 124, 125, 126, 127, 128, 129, 130, 3, 131, 27, 18, 132, 19, 133, 134, 21, 135, 20, 136, 22, 137, 138, 139, 140, 141, 142, 143, 144, 145, 165, 166, 167, 168, 169, 170, 171, 146, 147, 148, 149, 150, 151, 152, 153, 154, 155, 156, 157, 158, 159, 160, 161, 162, 163, 164, 172, 173, 174] (by decide +kernel) (by decide +kernel)
set_option maxRecDepth 20000 in
theorem gX7_append_X7_settle : GoodIn wsX7_append (wsV RX7 43 RX7 yX7_settle wsX7_settle) := goodIn_app (goodIn_of _ (by decide +kernel)) ggX7_append_X7_settle
theorem dX7_append_0 : decode cX7_append 0 = .ok (.new 9, 3) := by decide +kernel
theorem dX7_append_3 : decode cX7_append 3 = .ok (.dup, 1) := by decide +kernel
theorem dX7_append_4 : decode cX7_append 4 = .ok (.aload_n 0, 1) := by decide +kernel
theorem dX7_append_5 : decode cX7_append 5 = .ok (.getfield 36, 3) := by decide +kernel
theorem dX7_append_8 : decode cX7_append 8 = .ok (.aload_n 2, 1) := by decide +kernel
theorem dX7_append_9 : decode cX7_append 9 = .ok (.aload_n 1, 1) := by decide +kernel
theorem dX7_append_10 : decode cX7_append 10 = .ok (.invokespecial 15, 3) := by decide +kernel
theorem dX7_append_13 : decode cX7_append 13 = .ok (.astore_n 3, 1) := by decide +kernel
theorem dX7_append_14 : decode cX7_append 14 = .ok (.aload_n 0, 1) := by decide +kernel
theorem dX7_append_15 : decode cX7_append 15 = .ok (.getfield 36, 3) := by decide +kernel
theorem dX7_append_18 : decode cX7_append 18 = .ok (.bipush 40, 2) := by decide +kernel
theorem dX7_append_20 : decode cX7_append 20 = .ok (.if_icmp .ge 13, 3) := by decide +kernel
theorem dX7_append_23 : decode cX7_append 23 = .ok (.aload_n 0, 1) := by decide +kernel
theorem dX7_append_24 : decode cX7_append 24 = .ok (.getfield 11, 3) := by decide +kernel
theorem dX7_append_27 : decode cX7_append 27 = .ok (.aload_n 0, 1) := by decide +kernel
theorem dX7_append_28 : decode cX7_append 28 = .ok (.getfield 36, 3) := by decide +kernel
theorem dX7_append_31 : decode cX7_append 31 = .ok (.aload_n 3, 1) := by decide +kernel
theorem dX7_append_32 : decode cX7_append 32 = .ok (.aastore, 1) := by decide +kernel
theorem dX7_append_33 : decode cX7_append 33 = .ok (.aload_n 0, 1) := by decide +kernel
theorem dX7_append_34 : decode cX7_append 34 = .ok (.dup, 1) := by decide +kernel
theorem dX7_append_35 : decode cX7_append 35 = .ok (.getfield 36, 3) := by decide +kernel
theorem dX7_append_38 : decode cX7_append 38 = .ok (.iconst 1, 1) := by decide +kernel
theorem dX7_append_39 : decode cX7_append 39 = .ok (.iadd, 1) := by decide +kernel
theorem dX7_append_40 : decode cX7_append 40 = .ok (.putfield 36, 3) := by decide +kernel
theorem dX7_append_43 : decode cX7_append 43 = .ok (.aload_n 1, 1) := by decide +kernel
theorem dX7_append_44 : decode cX7_append 44 = .ok (.getfield 126, 3) := by decide +kernel
theorem dX7_append_47 : decode cX7_append 47 = .ok (.aload_n 3, 1) := by decide +kernel
theorem dX7_append_48 : decode cX7_append 48 = .ok (.invokevirtual 237, 3) := by decide +kernel
theorem dX7_append_51 : decode cX7_append 51 = .ok (.pop, 1) := by decide +kernel
theorem dX7_append_52 : decode cX7_append 52 = .ok (.aload_n 0, 1) := by decide +kernel
theorem dX7_append_53 : decode cX7_append 53 = .ok (.invokevirtual 43, 3) := by decide +kernel
theorem dX7_append_56 : decode cX7_append 56 = .ok (.aload_n 3, 1) := by decide +kernel
theorem dX7_append_57 : decode cX7_append 57 = .ok (.getfield 150, 3) := by decide +kernel
theorem dX7_append_60 : decode cX7_append 60 = .ok (.ireturn, 1) := by decide +kernel
set_option maxRecDepth 20000 in
theorem ggX7_takeOut_X7_placeAmong : GoodIn wsX7_takeOut wsX7_placeAmong := goodIn_r _ [5, 6, 7, 8, 9, 10, 11, 12, 13, 14, 15, 16, 17, 18, 19, 20, 21, 22, 23, 24, 25, 26, 27, 28, 62, 63, 64] (by decide +kernel) (by decide +kernel)
set_option maxRecDepth 20000 in
theorem gX7_takeOut_X7_placeAmong : GoodIn wsX7_takeOut (va_wsS RX7 240 yX7_placeAmong wsX7_placeAmong) := goodIn_app (goodIn_of _ (by decide +kernel)) ggX7_takeOut_X7_placeAmong
set_option maxRecDepth 20000 in
theorem ggX7_takeOut_Jx4a65c_size_8abf5 : GoodIn wsX7_takeOut wsJx4a65c_size_8abf5 := goodIn_r _ [10, 11, 62, 63, 64] (by decide +kernel) (by decide +kernel)
set_option maxRecDepth 20000 in
theorem gX7_takeOut_Jx4a65c_size_8abf5 : GoodIn wsX7_takeOut (wsV RX7 129 RJx4a65c yJx4a65c_size_8abf5 wsJx4a65c_size_8abf5) := goodIn_app (goodIn_of _ (by decide +kernel)) ggX7_takeOut_Jx4a65c_size_8abf5
set_option maxRecDepth 20000 in
theorem ggX7_takeOut_Jx4a65c_remove_915e3 : GoodIn wsX7_takeOut wsJx4a65c_remove_915e3 := goodIn_r _ [32, 11, 28, 16, 17, 18, 19, 20, 21, 22, 23, 33, 34, 35, 9, 36, 37, 38, 39, 40, 41, 42, 62, 63, 64] (by decide +kernel) (by decide +kernel)
set_option maxRecDepth 20000 in
theorem gX7_takeOut_Jx4a65c_remove_915e3 : GoodIn wsX7_takeOut (wsV RX7 244 RJx4a65c yJx4a65c_remove_915e3 wsJx4a65c_remove_915e3) := goodIn_app (goodIn_of _ (by decide +kernel)) ggX7_takeOut_Jx4a65c_remove_915e3
theorem dX7_takeOut_0 : decode cX7_takeOut 0 = .ok (.aload_n 0, 1) := by decide +kernel
theorem dX7_takeOut_1 : decode cX7_takeOut 1 = .ok (.getfield 126, 3) := by decide +kernel
theorem dX7_takeOut_4 : decode cX7_takeOut 4 = .ok (.aload_n 1, 1) := by decide +kernel
theorem dX7_takeOut_5 : decode cX7_takeOut 5 = .ok (.invokestatic 240, 3) := by decide +kernel
theorem dX7_takeOut_8 : decode cX7_takeOut 8 = .ok (.istore_n 2, 1) := by decide +kernel
theorem dX7_takeOut_9 : decode cX7_takeOut 9 = .ok (.iload_n 2, 1) := by decide +kernel
theorem dX7_takeOut_10 : decode cX7_takeOut 10 = .ok (.aload_n 0, 1) := by decide +kernel
theorem dX7_takeOut_11 : decode cX7_takeOut 11 = .ok (.getfield 126, 3) := by decide +kernel
theorem dX7_takeOut_14 : decode cX7_takeOut 14 = .ok (.invokevirtual 129, 3) := by decide +kernel
theorem dX7_takeOut_17 : decode cX7_takeOut 17 = .ok (.if_icmp .ge 12, 3) := by decide +kernel
theorem dX7_takeOut_20 : decode cX7_takeOut 20 = .ok (.aload_n 0, 1) := by decide +kernel
theorem dX7_takeOut_21 : decode cX7_takeOut 21 = .ok (.getfield 126, 3) := by decide +kernel
theorem dX7_takeOut_24 : decode cX7_takeOut 24 = .ok (.iload_n 2, 1) := by decide +kernel
theorem dX7_takeOut_25 : decode cX7_takeOut 25 = .ok (.invokevirtual 244, 3) := by decide +kernel
theorem dX7_takeOut_28 : decode cX7_takeOut 28 = .ok (.pop, 1) := by decide +kernel
theorem dX7_takeOut_29 : decode cX7_takeOut 29 = .ok (.iload_n 2, 1) := by decide +kernel
theorem dX7_takeOut_30 : decode cX7_takeOut 30 = .ok (.ireturn, 1) := by decide +kernel
set_option maxRecDepth 20000 in
theorem ggX7_placeAmong_Jx4a65c_size_8abf5 : GoodIn wsX7_placeAmong wsJx4a65c_size_8abf5 := goodIn_r _ [5, 6, 24, 25, 26] (by decide +kernel) (by decide +kernel)
set_option maxRecDepth 20000 in
theorem gX7_placeAmong_Jx4a65c_size_8abf5 : GoodIn wsX7_placeAmong (wsV RX7 129 RJx4a65c yJx4a65c_size_8abf5 wsJx4a65c_size_8abf5) := goodIn_app (goodIn_of _ (by decide +kernel)) ggX7_placeAmong_Jx4a65c_size_8abf5
set_option maxRecDepth 20000 in
theorem ggX7_placeAmong_Jx4a65c_get_915e3 : GoodIn wsX7_placeAmong wsJx4a65c_get_915e3 := goodIn_r _ [10, 6, 11, 12, 13, 14, 15, 16, 17, 18, 19, 20, 21, 4, 22, 23, 24, 25, 26] (by decide +kernel) (by decide +kernel)
set_option maxRecDepth 20000 in
theorem gX7_placeAmong_Jx4a65c_get_915e3 : GoodIn wsX7_placeAmong (wsV RX7 146 RJx4a65c yJx4a65c_get_915e3 wsJx4a65c_get_915e3) := goodIn_app (goodIn_of _ (by decide +kernel)) ggX7_placeAmong_Jx4a65c_get_915e3
theorem dX7_placeAmong_0 : decode cX7_placeAmong 0 = .ok (.iconst 0, 1) := by decide +kernel
theorem dX7_placeAmong_1 : decode cX7_placeAmong 1 = .ok (.istore_n 2, 1) := by decide +kernel
theorem dX7_placeAmong_2 : decode cX7_placeAmong 2 = .ok (.iload_n 2, 1) := by decide +kernel
theorem dX7_placeAmong_3 : decode cX7_placeAmong 3 = .ok (.aload_n 0, 1) := by decide +kernel
theorem dX7_placeAmong_4 : decode cX7_placeAmong 4 = .ok (.invokevirtual 129, 3) := by decide +kernel
theorem dX7_placeAmong_7 : decode cX7_placeAmong 7 = .ok (.if_icmp .ge 20, 3) := by decide +kernel
theorem dX7_placeAmong_10 : decode cX7_placeAmong 10 = .ok (.aload_n 0, 1) := by decide +kernel
theorem dX7_placeAmong_11 : decode cX7_placeAmong 11 = .ok (.iload_n 2, 1) := by decide +kernel
theorem dX7_placeAmong_12 : decode cX7_placeAmong 12 = .ok (.invokevirtual 146, 3) := by decide +kernel
theorem dX7_placeAmong_15 : decode cX7_placeAmong 15 = .ok (.aload_n 1, 1) := by decide +kernel
theorem dX7_placeAmong_16 : decode cX7_placeAmong 16 = .ok (.if_acmp .ne 5, 3) := by decide +kernel
theorem dX7_placeAmong_19 : decode cX7_placeAmong 19 = .ok (.iload_n 2, 1) := by decide +kernel
theorem dX7_placeAmong_20 : decode cX7_placeAmong 20 = .ok (.ireturn, 1) := by decide +kernel
theorem dX7_placeAmong_21 : decode cX7_placeAmong 21 = .ok (.iinc 2 1, 3) := by decide +kernel
theorem dX7_placeAmong_24 : decode cX7_placeAmong 24 = .ok (.goto (-22), 3) := by decide +kernel
theorem dX7_placeAmong_27 : decode cX7_placeAmong 27 = .ok (.aload_n 0, 1) := by decide +kernel
theorem dX7_placeAmong_28 : decode cX7_placeAmong 28 = .ok (.invokevirtual 129, 3) := by decide +kernel
theorem dX7_placeAmong_31 : decode cX7_placeAmong 31 = .ok (.ireturn, 1) := by decide +kernel
theorem dX7_isWithin_0 : decode cX7_isWithin 0 = .ok (.aload_n 0, 1) := by decide +kernel
theorem dX7_isWithin_1 : decode cX7_isWithin 1 = .ok (.astore_n 2, 1) := by decide +kernel
theorem dX7_isWithin_2 : decode cX7_isWithin 2 = .ok (.aload_n 2, 1) := by decide +kernel
theorem dX7_isWithin_3 : decode cX7_isWithin 3 = .ok (.ifnull 18, 3) := by decide +kernel
theorem dX7_isWithin_6 : decode cX7_isWithin 6 = .ok (.aload_n 2, 1) := by decide +kernel
theorem dX7_isWithin_7 : decode cX7_isWithin 7 = .ok (.aload_n 1, 1) := by decide +kernel
theorem dX7_isWithin_8 : decode cX7_isWithin 8 = .ok (.if_acmp .ne 5, 3) := by decide +kernel
theorem dX7_isWithin_11 : decode cX7_isWithin 11 = .ok (.iconst 1, 1) := by decide +kernel
theorem dX7_isWithin_12 : decode cX7_isWithin 12 = .ok (.ireturn, 1) := by decide +kernel
theorem dX7_isWithin_13 : decode cX7_isWithin 13 = .ok (.aload_n 2, 1) := by decide +kernel
theorem dX7_isWithin_14 : decode cX7_isWithin 14 = .ok (.getfield 102, 3) := by decide +kernel
theorem dX7_isWithin_17 : decode cX7_isWithin 17 = .ok (.astore_n 2, 1) := by decide +kernel
theorem dX7_isWithin_18 : decode cX7_isWithin 18 = .ok (.goto (-16), 3) := by decide +kernel
theorem dX7_isWithin_21 : decode cX7_isWithin 21 = .ok (.iconst 0, 1) := by decide +kernel
theorem dX7_isWithin_22 : decode cX7_isWithin 22 = .ok (.ireturn, 1) := by decide +kernel
set_option maxRecDepth 20000 in
theorem ggX7_maskOf_Jx4a65c_isEmpty_aae02 : GoodIn wsX7_maskOf wsJx4a65c_isEmpty_aae02 := goodIn_r _ [8, 9, 46, 47, 48] (by decide +kernel) (by decide +kernel)
set_option maxRecDepth 20000 in
theorem gX7_maskOf_Jx4a65c_isEmpty_aae02 : GoodIn wsX7_maskOf (wsV RX7 247 RJx4a65c yJx4a65c_isEmpty_aae02 wsJx4a65c_isEmpty_aae02) := goodIn_app (goodIn_of _ (by decide +kernel)) ggX7_maskOf_Jx4a65c_isEmpty_aae02
set_option maxRecDepth 20000 in
theorem ggX7_maskOf_Jx4a65c_get_915e3 : GoodIn wsX7_maskOf wsJx4a65c_get_915e3 := goodIn_r _ [13, 9, 14, 15, 16, 17, 18, 19, 20, 21, 22, 23, 24, 7, 25, 26, 46, 47, 48] (by decide +kernel) (by decide +kernel)
set_option maxRecDepth 20000 in
theorem gX7_maskOf_Jx4a65c_get_915e3 : GoodIn wsX7_maskOf (wsV RX7 146 RJx4a65c yJx4a65c_get_915e3 wsJx4a65c_get_915e3) := goodIn_app (goodIn_of _ (by decide +kernel)) ggX7_maskOf_Jx4a65c_get_915e3
theorem dX7_maskOf_0 : decode cX7_maskOf 0 = .ok (.aload_n 0, 1) := by decide +kernel
theorem dX7_maskOf_1 : decode cX7_maskOf 1 = .ok (.ifnull 20, 3) := by decide +kernel
theorem dX7_maskOf_4 : decode cX7_maskOf 4 = .ok (.aload_n 0, 1) := by decide +kernel
theorem dX7_maskOf_5 : decode cX7_maskOf 5 = .ok (.getfield 175, 3) := by decide +kernel
theorem dX7_maskOf_8 : decode cX7_maskOf 8 = .ok (.ifCond .eq 13, 3) := by decide +kernel
theorem dX7_maskOf_11 : decode cX7_maskOf 11 = .ok (.aload_n 0, 1) := by decide +kernel
theorem dX7_maskOf_12 : decode cX7_maskOf 12 = .ok (.getfield 126, 3) := by decide +kernel
theorem dX7_maskOf_15 : decode cX7_maskOf 15 = .ok (.invokevirtual 247, 3) := by decide +kernel
theorem dX7_maskOf_18 : decode cX7_maskOf 18 = .ok (.ifCond .eq 5, 3) := by decide +kernel
theorem dX7_maskOf_21 : decode cX7_maskOf 21 = .ok (.aconst_null, 1) := by decide +kernel
theorem dX7_maskOf_22 : decode cX7_maskOf 22 = .ok (.areturn, 1) := by decide +kernel
theorem dX7_maskOf_23 : decode cX7_maskOf 23 = .ok (.aload_n 0, 1) := by decide +kernel
theorem dX7_maskOf_24 : decode cX7_maskOf 24 = .ok (.getfield 126, 3) := by decide +kernel
theorem dX7_maskOf_27 : decode cX7_maskOf 27 = .ok (.iconst 0, 1) := by decide +kernel
theorem dX7_maskOf_28 : decode cX7_maskOf 28 = .ok (.invokevirtual 146, 3) := by decide +kernel
theorem dX7_maskOf_31 : decode cX7_maskOf 31 = .ok (.checkcast 9, 3) := by decide +kernel
theorem dX7_maskOf_34 : decode cX7_maskOf 34 = .ok (.areturn, 1) := by decide +kernel
set_option maxRecDepth 20000 in
theorem ggX7_detail_X7_placeAmong : GoodIn wsX7_detail wsX7_placeAmong := goodIn_r _ [18, 19, 20, 21, 22, 23, 24, 25, 26, 27, 28, 29, 30, 31, 32, 33, 34, 35, 36, 37, 38, 39, 40, 41, 73, 74, 75] (by decide +kernel) (by decide +kernel)
set_option maxRecDepth 20000 in
theorem gX7_detail_X7_placeAmong : GoodIn wsX7_detail (va_wsS RX7 240 yX7_placeAmong wsX7_placeAmong) := goodIn_app (goodIn_of _ (by decide +kernel)) ggX7_detail_X7_placeAmong
set_option maxRecDepth 20000 in
theorem ggX7_detail_Jx4a65c_size_8abf5 : GoodIn wsX7_detail wsJx4a65c_size_8abf5 := goodIn_r _ [23, 24, 73, 74, 75] (by decide +kernel) (by decide +kernel)
set_option maxRecDepth 20000 in
theorem gX7_detail_Jx4a65c_size_8abf5 : GoodIn wsX7_detail (wsV RX7 129 RJx4a65c yJx4a65c_size_8abf5 wsJx4a65c_size_8abf5) := goodIn_app (goodIn_of _ (by decide +kernel)) ggX7_detail_Jx4a65c_size_8abf5
theorem dX7_detail_0 : decode cX7_detail 0 = .ok (.iload_n 1, 1) := by decide +kernel
theorem dX7_detail_1 : decode cX7_detail 1 = .ok (.tableswitch 180 0 11 #[63, 82, 101, 124, 132, 137, 142, 147, 152, 157, 162, 167], 63) := by decide +kernel
theorem dX7_detail_64 : decode cX7_detail 64 = .ok (.aload_n 0, 1) := by decide +kernel
theorem dX7_detail_65 : decode cX7_detail 65 = .ok (.getfield 120, 3) := by decide +kernel
theorem dX7_detail_68 : decode cX7_detail 68 = .ok (.ifnonnull 7, 3) := by decide +kernel
theorem dX7_detail_71 : decode cX7_detail 71 = .ok (.iconst 0, 1) := by decide +kernel
theorem dX7_detail_72 : decode cX7_detail 72 = .ok (.goto 10, 3) := by decide +kernel
theorem dX7_detail_75 : decode cX7_detail 75 = .ok (.aload_n 0, 1) := by decide +kernel
theorem dX7_detail_76 : decode cX7_detail 76 = .ok (.getfield 120, 3) := by decide +kernel
theorem dX7_detail_79 : decode cX7_detail 79 = .ok (.getfield 251, 3) := by decide +kernel
theorem dX7_detail_82 : decode cX7_detail 82 = .ok (.ireturn, 1) := by decide +kernel
theorem dX7_detail_83 : decode cX7_detail 83 = .ok (.aload_n 0, 1) := by decide +kernel
theorem dX7_detail_84 : decode cX7_detail 84 = .ok (.getfield 102, 3) := by decide +kernel
theorem dX7_detail_87 : decode cX7_detail 87 = .ok (.ifnonnull 7, 3) := by decide +kernel
theorem dX7_detail_90 : decode cX7_detail 90 = .ok (.iconst (-1), 1) := by decide +kernel
theorem dX7_detail_91 : decode cX7_detail 91 = .ok (.goto 10, 3) := by decide +kernel
theorem dX7_detail_94 : decode cX7_detail 94 = .ok (.aload_n 0, 1) := by decide +kernel
theorem dX7_detail_95 : decode cX7_detail 95 = .ok (.getfield 102, 3) := by decide +kernel
theorem dX7_detail_98 : decode cX7_detail 98 = .ok (.getfield 150, 3) := by decide +kernel
theorem dX7_detail_101 : decode cX7_detail 101 = .ok (.ireturn, 1) := by decide +kernel
theorem dX7_detail_102 : decode cX7_detail 102 = .ok (.aload_n 0, 1) := by decide +kernel
theorem dX7_detail_103 : decode cX7_detail 103 = .ok (.getfield 102, 3) := by decide +kernel
theorem dX7_detail_106 : decode cX7_detail 106 = .ok (.ifnonnull 7, 3) := by decide +kernel
theorem dX7_detail_109 : decode cX7_detail 109 = .ok (.iconst 0, 1) := by decide +kernel
theorem dX7_detail_110 : decode cX7_detail 110 = .ok (.goto 14, 3) := by decide +kernel
theorem dX7_detail_113 : decode cX7_detail 113 = .ok (.aload_n 0, 1) := by decide +kernel
theorem dX7_detail_114 : decode cX7_detail 114 = .ok (.getfield 102, 3) := by decide +kernel
theorem dX7_detail_117 : decode cX7_detail 117 = .ok (.getfield 126, 3) := by decide +kernel
theorem dX7_detail_120 : decode cX7_detail 120 = .ok (.aload_n 0, 1) := by decide +kernel
theorem dX7_detail_121 : decode cX7_detail 121 = .ok (.invokestatic 240, 3) := by decide +kernel
theorem dX7_detail_124 : decode cX7_detail 124 = .ok (.ireturn, 1) := by decide +kernel
theorem dX7_detail_125 : decode cX7_detail 125 = .ok (.aload_n 0, 1) := by decide +kernel
theorem dX7_detail_126 : decode cX7_detail 126 = .ok (.getfield 126, 3) := by decide +kernel
theorem dX7_detail_129 : decode cX7_detail 129 = .ok (.invokevirtual 129, 3) := by decide +kernel
theorem dX7_detail_132 : decode cX7_detail 132 = .ok (.ireturn, 1) := by decide +kernel
theorem dX7_detail_133 : decode cX7_detail 133 = .ok (.aload_n 0, 1) := by decide +kernel
theorem dX7_detail_134 : decode cX7_detail 134 = .ok (.getfield 153, 3) := by decide +kernel
theorem dX7_detail_137 : decode cX7_detail 137 = .ok (.ireturn, 1) := by decide +kernel
theorem dX7_detail_138 : decode cX7_detail 138 = .ok (.aload_n 0, 1) := by decide +kernel
theorem dX7_detail_139 : decode cX7_detail 139 = .ok (.getfield 156, 3) := by decide +kernel
theorem dX7_detail_142 : decode cX7_detail 142 = .ok (.ireturn, 1) := by decide +kernel
theorem dX7_detail_143 : decode cX7_detail 143 = .ok (.aload_n 0, 1) := by decide +kernel
theorem dX7_detail_144 : decode cX7_detail 144 = .ok (.getfield 159, 3) := by decide +kernel
theorem dX7_detail_147 : decode cX7_detail 147 = .ok (.ireturn, 1) := by decide +kernel
theorem dX7_detail_148 : decode cX7_detail 148 = .ok (.aload_n 0, 1) := by decide +kernel
theorem dX7_detail_149 : decode cX7_detail 149 = .ok (.getfield 256, 3) := by decide +kernel
theorem dX7_detail_152 : decode cX7_detail 152 = .ok (.ireturn, 1) := by decide +kernel
theorem dX7_detail_153 : decode cX7_detail 153 = .ok (.aload_n 0, 1) := by decide +kernel
theorem dX7_detail_154 : decode cX7_detail 154 = .ok (.getfield 162, 3) := by decide +kernel
theorem dX7_detail_157 : decode cX7_detail 157 = .ok (.ireturn, 1) := by decide +kernel
theorem dX7_detail_158 : decode cX7_detail 158 = .ok (.aload_n 0, 1) := by decide +kernel
theorem dX7_detail_159 : decode cX7_detail 159 = .ok (.getfield 188, 3) := by decide +kernel
theorem dX7_detail_162 : decode cX7_detail 162 = .ok (.ireturn, 1) := by decide +kernel
theorem dX7_detail_163 : decode cX7_detail 163 = .ok (.aload_n 0, 1) := by decide +kernel
theorem dX7_detail_164 : decode cX7_detail 164 = .ok (.getfield 259, 3) := by decide +kernel
theorem dX7_detail_167 : decode cX7_detail 167 = .ok (.ireturn, 1) := by decide +kernel
theorem dX7_detail_168 : decode cX7_detail 168 = .ok (.aload_n 0, 1) := by decide +kernel
theorem dX7_detail_169 : decode cX7_detail 169 = .ok (.getfield 169, 3) := by decide +kernel
theorem dX7_detail_172 : decode cX7_detail 172 = .ok (.ifnonnull 7, 3) := by decide +kernel
theorem dX7_detail_175 : decode cX7_detail 175 = .ok (.iconst 0, 1) := by decide +kernel
theorem dX7_detail_176 : decode cX7_detail 176 = .ok (.goto 4, 3) := by decide +kernel
theorem dX7_detail_179 : decode cX7_detail 179 = .ok (.iconst 1, 1) := by decide +kernel
theorem dX7_detail_180 : decode cX7_detail 180 = .ok (.ireturn, 1) := by decide +kernel
theorem dX7_detail_181 : decode cX7_detail 181 = .ok (.aload_n 0, 1) := by decide +kernel
theorem dX7_detail_182 : decode cX7_detail 182 = .ok (.getfield 175, 3) := by decide +kernel
theorem dX7_detail_185 : decode cX7_detail 185 = .ok (.ifCond .eq 7, 3) := by decide +kernel
theorem dX7_detail_188 : decode cX7_detail 188 = .ok (.iconst 1, 1) := by decide +kernel
theorem dX7_detail_189 : decode cX7_detail 189 = .ok (.goto 4, 3) := by decide +kernel
theorem dX7_detail_192 : decode cX7_detail 192 = .ok (.iconst 0, 1) := by decide +kernel
theorem dX7_detail_193 : decode cX7_detail 193 = .ok (.ireturn, 1) := by decide +kernel
set_option maxRecDepth 20000 in
theorem ggX7_settle_Jx4a65c_clear_da8c8 : GoodIn wsX7_settle wsJx4a65c_clear_da8c8 := goodIn_r _ [9, 10, 11, 12, 13, 136, 137, 138] (by decide +kernel) (by decide +kernel)
set_option maxRecDepth 20000 in
theorem gX7_settle_Jx4a65c_clear_da8c8 : GoodIn wsX7_settle (wsV RX7 262 RJx4a65c yJx4a65c_clear_da8c8 wsJx4a65c_clear_da8c8) := goodIn_app (goodIn_of _ (by decide +kernel)) ggX7_settle_Jx4a65c_clear_da8c8
set_option maxRecDepth 20000 in
theorem ggX7_settle_Jx4a65c_add_9ea2d : GoodIn wsX7_settle wsJx4a65c_add_9ea2d := goodIn_r _ [17, 10, 11, 12, 13, 18, 19, 20, 8, 21, 22, 23, 24, 25, 26, 27, 28, 29, 30, 31, 32, 33, 34, 35, 36, 37, 38, 39, 40, 41, 42, 43, 44, 45, 46, 47, 48, 49, 50, 51, 52, 53, 54, 55, 56, 57, 58, 59, 60, 61, 62, 63, 64, 136, 137, 138] (by decide +kernel) (by decide +kernel)
set_option maxRecDepth 20000 in
theorem gX7_settle_Jx4a65c_add_9ea2d : GoodIn wsX7_settle (wsV RX7 237 RJx4a65c yJx4a65c_add_9ea2d wsJx4a65c_add_9ea2d) := goodIn_app (goodIn_of _ (by decide +kernel)) ggX7_settle_Jx4a65c_add_9ea2d
set_option maxRecDepth 20000 in
theorem ggX7_settle_Jx4a65c_size_8abf5 : GoodIn wsX7_settle wsJx4a65c_size_8abf5 := goodIn_r _ [68, 13, 136, 137, 138] (by decide +kernel) (by decide +kernel)
set_option maxRecDepth 20000 in
theorem gX7_settle_Jx4a65c_size_8abf5 : GoodIn wsX7_settle (wsV RX7 129 RJx4a65c yJx4a65c_size_8abf5 wsJx4a65c_size_8abf5) := goodIn_app (goodIn_of _ (by decide +kernel)) ggX7_settle_Jx4a65c_size_8abf5
set_option maxRecDepth 20000 in
theorem ggX7_settle_Jx4a65c_get_915e3 : GoodIn wsX7_settle wsJx4a65c_get_915e3 := goodIn_r _ [72, 13, 73, 74, 75, 76, 77, 78, 79, 80, 81, 82, 83, 8, 84, 12, 136, 137, 138] (by decide +kernel) (by decide +kernel)
set_option maxRecDepth 20000 in
theorem gX7_settle_Jx4a65c_get_915e3 : GoodIn wsX7_settle (wsV RX7 146 RJx4a65c yJx4a65c_get_915e3 wsJx4a65c_get_915e3) := goodIn_app (goodIn_of _ (by decide +kernel)) ggX7_settle_Jx4a65c_get_915e3
set_option maxRecDepth 20000 in
theorem ggX7_settle_X3_inherit : GoodIn wsX7_settle wsX3_inherit := goodIn_r _ [89, 90, 91, 92, 93, 94, 95, 96, 97, 98, 99, 100, 117, 118, 119, 120, 121, 122, 123, 124, 125, 126, 127, 128, 129, 130, 131, 132, 133, 134, 135] (by decide +kernel) (by decide +kernel)
set_option maxRecDepth 20000 in
theorem gX7_settle_X3_inherit : GoodIn wsX7_settle (wsV RX7 265 RX3 yX3_inherit wsX3_inherit) := goodIn_app (goodIn_of _ (by decide +kernel)) ggX7_settle_X3_inherit
set_option maxRecDepth 20000 in
theorem ggX7_settle_Jx4a65c_add_7a177 : GoodIn wsX7_settle wsJx4a65c_add_7a177 := goodIn_r _ [104, 10, 11, 13, 12, 105, 62, 63, 64, 106, 107, 108, 8, 109, 22, 23, 24, 25, 26, 27, 28, 29, 30, 31, 32, 33, 34, 35, 36, 37, 38, 39, 40, 41, 42, 43, 44, 45, 46, 47, 48, 49, 50, 51, 52, 53, 54, 55, 56, 57, 58, 59, 60, 61, 136, 137, 138] (by decide +kernel) (by decide +kernel)
set_option maxRecDepth 20000 in
theorem gX7_settle_Jx4a65c_add_7a177 : GoodIn wsX7_settle (wsV RX7 135 RJx4a65c yJx4a65c_add_7a177 wsJx4a65c_add_7a177) := goodIn_app (goodIn_of _ (by decide +kernel)) ggX7_settle_Jx4a65c_add_7a177
theorem dX7_settle_0 : decode cX7_settle 0 = .ok (.aload_n 0, 1) := by decide +kernel
theorem dX7_settle_1 : decode cX7_settle 1 = .ok (.getfield 25, 3) := by decide +kernel
theorem dX7_settle_4 : decode cX7_settle 4 = .ok (.invokevirtual 262, 3) := by decide +kernel
theorem dX7_settle_7 : decode cX7_settle 7 = .ok (.aload_n 0, 1) := by decide +kernel
theorem dX7_settle_8 : decode cX7_settle 8 = .ok (.getfield 25, 3) := by decide +kernel
theorem dX7_settle_11 : decode cX7_settle 11 = .ok (.aload_n 0, 1) := by decide +kernel
theorem dX7_settle_12 : decode cX7_settle 12 = .ok (.getfield 18, 3) := by decide +kernel
theorem dX7_settle_15 : decode cX7_settle 15 = .ok (.invokevirtual 237, 3) := by decide +kernel
theorem dX7_settle_18 : decode cX7_settle 18 = .ok (.pop, 1) := by decide +kernel
theorem dX7_settle_19 : decode cX7_settle 19 = .ok (.iconst 0, 1) := by decide +kernel
theorem dX7_settle_20 : decode cX7_settle 20 = .ok (.istore_n 1, 1) := by decide +kernel
theorem dX7_settle_21 : decode cX7_settle 21 = .ok (.iload_n 1, 1) := by decide +kernel
theorem dX7_settle_22 : decode cX7_settle 22 = .ok (.aload_n 0, 1) := by decide +kernel
theorem dX7_settle_23 : decode cX7_settle 23 = .ok (.getfield 25, 3) := by decide +kernel
theorem dX7_settle_26 : decode cX7_settle 26 = .ok (.invokevirtual 129, 3) := by decide +kernel
theorem dX7_settle_29 : decode cX7_settle 29 = .ok (.if_icmp .ge 73, 3) := by decide +kernel
theorem dX7_settle_32 : decode cX7_settle 32 = .ok (.iload_n 1, 1) := by decide +kernel
theorem dX7_settle_33 : decode cX7_settle 33 = .ok (.bipush 40, 2) := by decide +kernel
theorem dX7_settle_35 : decode cX7_settle 35 = .ok (.if_icmp .ge 67, 3) := by decide +kernel
theorem dX7_settle_38 : decode cX7_settle 38 = .ok (.aload_n 0, 1) := by decide +kernel
theorem dX7_settle_39 : decode cX7_settle 39 = .ok (.getfield 25, 3) := by decide +kernel
theorem dX7_settle_42 : decode cX7_settle 42 = .ok (.iload_n 1, 1) := by decide +kernel
theorem dX7_settle_43 : decode cX7_settle 43 = .ok (.invokevirtual 146, 3) := by decide +kernel
theorem dX7_settle_46 : decode cX7_settle 46 = .ok (.checkcast 9, 3) := by decide +kernel
theorem dX7_settle_49 : decode cX7_settle 49 = .ok (.astore_n 2, 1) := by decide +kernel
theorem dX7_settle_50 : decode cX7_settle 50 = .ok (.aload_n 2, 1) := by decide +kernel
theorem dX7_settle_51 : decode cX7_settle 51 = .ok (.invokevirtual 265, 3) := by decide +kernel
theorem dX7_settle_54 : decode cX7_settle 54 = .ok (.iconst 0, 1) := by decide +kernel
theorem dX7_settle_55 : decode cX7_settle 55 = .ok (.istore_n 3, 1) := by decide +kernel
theorem dX7_settle_56 : decode cX7_settle 56 = .ok (.iload_n 3, 1) := by decide +kernel
theorem dX7_settle_57 : decode cX7_settle 57 = .ok (.aload_n 2, 1) := by decide +kernel
theorem dX7_settle_58 : decode cX7_settle 58 = .ok (.getfield 126, 3) := by decide +kernel
theorem dX7_settle_61 : decode cX7_settle 61 = .ok (.invokevirtual 129, 3) := by decide +kernel
theorem dX7_settle_64 : decode cX7_settle 64 = .ok (.if_icmp .ge 32, 3) := by decide +kernel
theorem dX7_settle_67 : decode cX7_settle 67 = .ok (.aload_n 0, 1) := by decide +kernel
theorem dX7_settle_68 : decode cX7_settle 68 = .ok (.getfield 25, 3) := by decide +kernel
theorem dX7_settle_71 : decode cX7_settle 71 = .ok (.iload_n 1, 1) := by decide +kernel
theorem dX7_settle_72 : decode cX7_settle 72 = .ok (.iconst 1, 1) := by decide +kernel
theorem dX7_settle_73 : decode cX7_settle 73 = .ok (.iadd, 1) := by decide +kernel
theorem dX7_settle_74 : decode cX7_settle 74 = .ok (.iload_n 3, 1) := by decide +kernel
theorem dX7_settle_75 : decode cX7_settle 75 = .ok (.iadd, 1) := by decide +kernel
theorem dX7_settle_76 : decode cX7_settle 76 = .ok (.aload_n 2, 1) := by decide +kernel
theorem dX7_settle_77 : decode cX7_settle 77 = .ok (.getfield 126, 3) := by decide +kernel
theorem dX7_settle_80 : decode cX7_settle 80 = .ok (.iload_n 3, 1) := by decide +kernel
theorem dX7_settle_81 : decode cX7_settle 81 = .ok (.invokevirtual 146, 3) := by decide +kernel
theorem dX7_settle_84 : decode cX7_settle 84 = .ok (.checkcast 9, 3) := by decide +kernel
theorem dX7_settle_87 : decode cX7_settle 87 = .ok (.invokevirtual 135, 3) := by decide +kernel
theorem dX7_settle_90 : decode cX7_settle 90 = .ok (.iinc 3 1, 3) := by decide +kernel
theorem dX7_settle_93 : decode cX7_settle 93 = .ok (.goto (-37), 3) := by decide +kernel
theorem dX7_settle_96 : decode cX7_settle 96 = .ok (.iinc 1 1, 3) := by decide +kernel
theorem dX7_settle_99 : decode cX7_settle 99 = .ok (.goto (-78), 3) := by decide +kernel
theorem dX7_settle_102 : decode cX7_settle 102 = .ok (.return_, 1) := by decide +kernel
set_option maxRecDepth 20000 in
theorem ggX7_mixRow_X7_scanRow : GoodIn wsX7_mixRow wsX7_scanRow := goodIn_r _ [13, 3, 4, 5, 14, 15, 16, 17, 18, 19, 20, 6, 21, 22, 23, 24, 25, 26, 27, 28, 29, 30, 31, 32, 33, 34, 35, 36, 37, 38, 39, 40, 41, 42, 43, 44, 45, 46, 47, 48, 49, 50, 51, 52, 53, 54, 55, 56, 57, 58, 59, 60, 61, 62, 63, 64, 65, 66, 67, 68, 69, 70, 71, 72, 73, 74, 75, 76, 77, 78, 79, 80, 81, 82, 83, 84, 85, 86, 87, 88, 89, 90, 91, 92, 12, 93, 94, 95, 96, 97, 98, 99, 100, 101, 102, 103, 104, 105, 106, 107, 108, 109, 110, 111, 112, 113, 114, 115, 116, 117, 118, 130, 131, 132, 133, 134, 135, 136, 137, 138, 139, 140, 141, 142, 143, 144, 145, 146, 147, 148, 149, 150, 151, 152, 153, 154, 155, 156, 157, 158, 159, 160, 161, 162, 163, 164, 165, 166, 167, 168, 169, 170, 171, 172, 173, 174, 175, 176] (by decide +kernel) (by decide +kernel)
set_option maxRecDepth 20000 in
theorem gX7_mixRow_X7_scanRow : GoodIn wsX7_mixRow (wsV RX7 185 RX7 yX7_scanRow wsX7_scanRow) := goodIn_app (goodIn_of _ (by decide +kernel)) ggX7_mixRow_X7_scanRow
set_option maxRecDepth 20000 in
theorem ggX7_mixRow_J7_fill_53178 : GoodIn wsX7_mixRow wsJ7_fill_53178 := goodIn_r _ [122] (by decide +kernel) (by decide +kernel)
set_option maxRecDepth 20000 in
theorem gX7_mixRow_J7_fill_53178 : GoodIn wsX7_mixRow (va_wsS RX7 268 yJ7_fill_53178 wsJ7_fill_53178) := goodIn_app (goodIn_of _ (by decide +kernel)) ggX7_mixRow_J7_fill_53178
set_option maxRecDepth 20000 in
theorem ggX7_mixRow_Jx4a65c_size_8abf5 : GoodIn wsX7_mixRow wsJx4a65c_size_8abf5 := goodIn_r _ [25, 26, 156, 157, 158] (by decide +kernel) (by decide +kernel)
set_option maxRecDepth 20000 in
theorem gX7_mixRow_Jx4a65c_size_8abf5 : GoodIn wsX7_mixRow (wsV RX7 129 RJx4a65c yJx4a65c_size_8abf5 wsJx4a65c_size_8abf5) := goodIn_app (goodIn_of _ (by decide +kernel)) ggX7_mixRow_Jx4a65c_size_8abf5
set_option maxRecDepth 20000 in
theorem ggX7_mixRow_Jx4a65c_get_915e3 : GoodIn wsX7_mixRow wsJx4a65c_get_915e3 := goodIn_r _ [30, 26, 31, 32, 33, 34, 35, 36, 37, 38, 39, 40, 41, 24, 42, 43, 156, 157, 158] (by decide +kernel) (by decide +kernel)
set_option maxRecDepth 20000 in
theorem gX7_mixRow_Jx4a65c_get_915e3 : GoodIn wsX7_mixRow (wsV RX7 146 RJx4a65c yJx4a65c_get_915e3 wsJx4a65c_get_915e3) := goodIn_app (goodIn_of _ (by decide +kernel)) ggX7_mixRow_Jx4a65c_get_915e3
set_option maxRecDepth 20000 in
theorem ggX7_mixRow_X7_layOn : GoodIn wsX7_mixRow wsX7_layOn := goodIn_r _ [126, 1, 127, 128, 12, 129, 130, 131, 132, 133, 134, 135, 136] (by decide +kernel) (by decide +kernel)
set_option maxRecDepth 20000 in
theorem gX7_mixRow_X7_layOn : GoodIn wsX7_mixRow (wsV RX7 273 RX7 yX7_layOn wsX7_layOn) := goodIn_app (goodIn_of _ (by decide +kernel)) ggX7_mixRow_X7_layOn
theorem dX7_mixRow_0 : decode cX7_mixRow 0 = .ok (.aload_n 0, 1) := by decide +kernel
theorem dX7_mixRow_1 : decode cX7_mixRow 1 = .ok (.iload_n 1, 1) := by decide +kernel
theorem dX7_mixRow_2 : decode cX7_mixRow 2 = .ok (.invokevirtual 185, 3) := by decide +kernel
theorem dX7_mixRow_5 : decode cX7_mixRow 5 = .ok (.aload_n 0, 1) := by decide +kernel
theorem dX7_mixRow_6 : decode cX7_mixRow 6 = .ok (.getfield 33, 3) := by decide +kernel
theorem dX7_mixRow_9 : decode cX7_mixRow 9 = .ok (.aload_n 0, 1) := by decide +kernel
theorem dX7_mixRow_10 : decode cX7_mixRow 10 = .ok (.getfield 40, 3) := by decide +kernel
theorem dX7_mixRow_13 : decode cX7_mixRow 13 = .ok (.invokestatic 268, 3) := by decide +kernel
theorem dX7_mixRow_16 : decode cX7_mixRow 16 = .ok (.iconst 0, 1) := by decide +kernel
theorem dX7_mixRow_17 : decode cX7_mixRow 17 = .ok (.istore_n 2, 1) := by decide +kernel
theorem dX7_mixRow_18 : decode cX7_mixRow 18 = .ok (.iload_n 2, 1) := by decide +kernel
theorem dX7_mixRow_19 : decode cX7_mixRow 19 = .ok (.aload_n 0, 1) := by decide +kernel
theorem dX7_mixRow_20 : decode cX7_mixRow 20 = .ok (.getfield 25, 3) := by decide +kernel
theorem dX7_mixRow_23 : decode cX7_mixRow 23 = .ok (.invokevirtual 129, 3) := by decide +kernel
theorem dX7_mixRow_26 : decode cX7_mixRow 26 = .ok (.if_icmp .ge 53, 3) := by decide +kernel
theorem dX7_mixRow_29 : decode cX7_mixRow 29 = .ok (.aload_n 0, 1) := by decide +kernel
theorem dX7_mixRow_30 : decode cX7_mixRow 30 = .ok (.getfield 25, 3) := by decide +kernel
theorem dX7_mixRow_33 : decode cX7_mixRow 33 = .ok (.iload_n 2, 1) := by decide +kernel
theorem dX7_mixRow_34 : decode cX7_mixRow 34 = .ok (.invokevirtual 146, 3) := by decide +kernel
theorem dX7_mixRow_37 : decode cX7_mixRow 37 = .ok (.checkcast 9, 3) := by decide +kernel
theorem dX7_mixRow_40 : decode cX7_mixRow 40 = .ok (.astore_n 3, 1) := by decide +kernel
theorem dX7_mixRow_41 : decode cX7_mixRow 41 = .ok (.aload_n 3, 1) := by decide +kernel
theorem dX7_mixRow_42 : decode cX7_mixRow 42 = .ok (.getfield 120, 3) := by decide +kernel
theorem dX7_mixRow_45 : decode cX7_mixRow 45 = .ok (.ifnull 28, 3) := by decide +kernel
theorem dX7_mixRow_48 : decode cX7_mixRow 48 = .ok (.aload_n 3, 1) := by decide +kernel
theorem dX7_mixRow_49 : decode cX7_mixRow 49 = .ok (.getfield 191, 3) := by decide +kernel
theorem dX7_mixRow_52 : decode cX7_mixRow 52 = .ok (.lconst 0, 1) := by decide +kernel
theorem dX7_mixRow_53 : decode cX7_mixRow 53 = .ok (.lcmp, 1) := by decide +kernel
theorem dX7_mixRow_54 : decode cX7_mixRow 54 = .ok (.ifCond .eq 19, 3) := by decide +kernel
theorem dX7_mixRow_57 : decode cX7_mixRow 57 = .ok (.aload_n 0, 1) := by decide +kernel
theorem dX7_mixRow_58 : decode cX7_mixRow 58 = .ok (.aload_n 3, 1) := by decide +kernel
theorem dX7_mixRow_59 : decode cX7_mixRow 59 = .ok (.getfield 191, 3) := by decide +kernel
theorem dX7_mixRow_62 : decode cX7_mixRow 62 = .ok (.aload_n 3, 1) := by decide +kernel
theorem dX7_mixRow_63 : decode cX7_mixRow 63 = .ok (.getfield 256, 3) := by decide +kernel
theorem dX7_mixRow_66 : decode cX7_mixRow 66 = .ok (.aload_n 3, 1) := by decide +kernel
theorem dX7_mixRow_67 : decode cX7_mixRow 67 = .ok (.getfield 188, 3) := by decide +kernel
theorem dX7_mixRow_70 : decode cX7_mixRow 70 = .ok (.invokevirtual 273, 3) := by decide +kernel
theorem dX7_mixRow_73 : decode cX7_mixRow 73 = .ok (.iinc 2 1, 3) := by decide +kernel
theorem dX7_mixRow_76 : decode cX7_mixRow 76 = .ok (.goto (-58), 3) := by decide +kernel
theorem dX7_mixRow_79 : decode cX7_mixRow 79 = .ok (.return_, 1) := by decide +kernel
set_option maxRecDepth 20000 in
theorem ggX7_layOn_X7_hasBit : GoodIn wsX7_layOn wsX7_hasBit := goodIn_r _ [5] (by decide +kernel) (by decide +kernel)
set_option maxRecDepth 20000 in
theorem gX7_layOn_X7_hasBit : GoodIn wsX7_layOn (va_wsS RX7 195 yX7_hasBit wsX7_hasBit) := goodIn_app (goodIn_of _ (by decide +kernel)) ggX7_layOn_X7_hasBit
theorem dX7_layOn_0 : decode cX7_layOn 0 = .ok (.iconst 0, 1) := by decide +kernel
theorem dX7_layOn_1 : decode cX7_layOn 1 = .ok (.istore 5, 2) := by decide +kernel
theorem dX7_layOn_3 : decode cX7_layOn 3 = .ok (.iload 5, 2) := by decide +kernel
theorem dX7_layOn_5 : decode cX7_layOn 5 = .ok (.bipush 64, 2) := by decide +kernel
theorem dX7_layOn_7 : decode cX7_layOn 7 = .ok (.if_icmp .ge 46, 3) := by decide +kernel
theorem dX7_layOn_10 : decode cX7_layOn 10 = .ok (.lload_n 1, 1) := by decide +kernel
theorem dX7_layOn_11 : decode cX7_layOn 11 = .ok (.iload 5, 2) := by decide +kernel
theorem dX7_layOn_13 : decode cX7_layOn 13 = .ok (.invokestatic 195, 3) := by decide +kernel
theorem dX7_layOn_16 : decode cX7_layOn 16 = .ok (.ifCond .eq 31, 3) := by decide +kernel
theorem dX7_layOn_19 : decode cX7_layOn 19 = .ok (.aload_n 0, 1) := by decide +kernel
theorem dX7_layOn_20 : decode cX7_layOn 20 = .ok (.getfield 33, 3) := by decide +kernel
theorem dX7_layOn_23 : decode cX7_layOn 23 = .ok (.iload 5, 2) := by decide +kernel
theorem dX7_layOn_25 : decode cX7_layOn 25 = .ok (.aload_n 0, 1) := by decide +kernel
theorem dX7_layOn_26 : decode cX7_layOn 26 = .ok (.getfield 33, 3) := by decide +kernel
theorem dX7_layOn_29 : decode cX7_layOn 29 = .ok (.iload 5, 2) := by decide +kernel
theorem dX7_layOn_31 : decode cX7_layOn 31 = .ok (.iaload, 1) := by decide +kernel
theorem dX7_layOn_32 : decode cX7_layOn 32 = .ok (.bipush 8, 2) := by decide +kernel
theorem dX7_layOn_34 : decode cX7_layOn 34 = .ok (.iload 4, 2) := by decide +kernel
theorem dX7_layOn_36 : decode cX7_layOn 36 = .ok (.isub, 1) := by decide +kernel
theorem dX7_layOn_37 : decode cX7_layOn 37 = .ok (.imul, 1) := by decide +kernel
theorem dX7_layOn_38 : decode cX7_layOn 38 = .ok (.iload_n 3, 1) := by decide +kernel
theorem dX7_layOn_39 : decode cX7_layOn 39 = .ok (.iload 4, 2) := by decide +kernel
theorem dX7_layOn_41 : decode cX7_layOn 41 = .ok (.imul, 1) := by decide +kernel
theorem dX7_layOn_42 : decode cX7_layOn 42 = .ok (.iadd, 1) := by decide +kernel
theorem dX7_layOn_43 : decode cX7_layOn 43 = .ok (.bipush 8, 2) := by decide +kernel
theorem dX7_layOn_45 : decode cX7_layOn 45 = .ok (.idiv, 1) := by decide +kernel
theorem dX7_layOn_46 : decode cX7_layOn 46 = .ok (.iastore, 1) := by decide +kernel
theorem dX7_layOn_47 : decode cX7_layOn 47 = .ok (.iinc 5 1, 3) := by decide +kernel
theorem dX7_layOn_50 : decode cX7_layOn 50 = .ok (.goto (-47), 3) := by decide +kernel
theorem dX7_layOn_53 : decode cX7_layOn 53 = .ok (.return_, 1) := by decide +kernel
set_option maxRecDepth 20000 in
theorem ggX7_scanRow_Jx4a65c_size_8abf5 : GoodIn wsX7_scanRow wsJx4a65c_size_8abf5 := goodIn_r _ [16, 17, 137, 138, 139] (by decide +kernel) (by decide +kernel)
set_option maxRecDepth 20000 in
theorem gX7_scanRow_Jx4a65c_size_8abf5 : GoodIn wsX7_scanRow (wsV RX7 129 RJx4a65c yJx4a65c_size_8abf5 wsJx4a65c_size_8abf5) := goodIn_app (goodIn_of _ (by decide +kernel)) ggX7_scanRow_Jx4a65c_size_8abf5
set_option maxRecDepth 20000 in
theorem ggX7_scanRow_Jx4a65c_get_915e3 : GoodIn wsX7_scanRow wsJx4a65c_get_915e3 := goodIn_r _ [21, 17, 22, 23, 24, 25, 26, 27, 28, 29, 30, 31, 32, 15, 33, 34, 137, 138, 139] (by decide +kernel) (by decide +kernel)
set_option maxRecDepth 20000 in
theorem gX7_scanRow_Jx4a65c_get_915e3 : GoodIn wsX7_scanRow (wsV RX7 146 RJx4a65c yJx4a65c_get_915e3 wsJx4a65c_get_915e3) := goodIn_app (goodIn_of _ (by decide +kernel)) ggX7_scanRow_Jx4a65c_get_915e3
set_option maxRecDepth 20000 in
theorem ggX7_scanRow_X5_rowBits : GoodIn wsX7_scanRow wsX5_rowBits := goodIn_r _ [40, 41, 42, 43, 44, 45, 46, 47, 48, 49, 50, 51, 52, 53, 54, 55, 56, 57, 58, 59, 60, 61, 62, 63, 64, 65, 66, 67, 68, 69, 70, 71, 72, 73, 74, 75, 76, 77, 78, 79, 80, 81, 82, 83, 84, 85, 86, 87, 8, 140, 141, 142, 143, 144, 145, 146, 147, 148, 149, 150, 151, 152, 153, 154, 155, 156, 157] (by decide +kernel) (by decide +kernel)
set_option maxRecDepth 20000 in
theorem gX7_scanRow_X5_rowBits_u283X2 : GoodIn wsX7_scanRow (va_wsU RX7 283 RX2 "PaintLayers$Shape" ⟨"PaintLayers$Shape", "rowBits", "(III)J"⟩ yX5_rowBits wsX5_rowBits) := goodIn_app (goodIn_of _ (by decide +kernel)) ggX7_scanRow_X5_rowBits
set_option maxRecDepth 20000 in
theorem gX7_scanRow_X5_rowBits_u283X4 : GoodIn wsX7_scanRow (va_wsU RX7 283 RX4 "PaintLayers$Shape" ⟨"PaintLayers$Shape", "rowBits", "(III)J"⟩ yX5_rowBits wsX5_rowBits) := goodIn_app (goodIn_of _ (by decide +kernel)) ggX7_scanRow_X5_rowBits
set_option maxRecDepth 20000 in
theorem gX7_scanRow_X5_rowBits_u283X6 : GoodIn wsX7_scanRow (va_wsU RX7 283 RX6 "PaintLayers$Shape" ⟨"PaintLayers$Shape", "rowBits", "(III)J"⟩ yX5_rowBits wsX5_rowBits) := goodIn_app (goodIn_of _ (by decide +kernel)) ggX7_scanRow_X5_rowBits
set_option maxRecDepth 20000 in
theorem ggX7_scanRow_X0_rowBits : GoodIn wsX7_scanRow wsX0_rowBits := goodIn_r _ [93, 94, 95, 96, 52, 53, 54, 55, 56, 57, 83, 84, 85, 86, 44, 45, 46, 87, 49, 50, 8, 152, 153, 154, 155] (by decide +kernel) (by decide +kernel)
set_option maxRecDepth 20000 in
theorem gX7_scanRow_X0_rowBits : GoodIn wsX7_scanRow (wsV RX7 292 RX0 yX0_rowBits wsX0_rowBits) := goodIn_app (goodIn_of _ (by decide +kernel)) ggX7_scanRow_X0_rowBits
set_option maxRecDepth 20000 in
theorem ggX7_scanRow_X7_handDownOpen : GoodIn wsX7_scanRow wsX7_handDownOpen := goodIn_r _ [100, 1, 2, 101, 10, 9, 3, 6, 11, 12, 13, 14, 15, 16, 17, 18, 19, 20, 21, 22, 23, 24, 25, 26, 27, 28, 29, 30, 31, 32, 33, 34, 102, 103, 84, 104, 105, 106, 107, 108, 109, 110, 111, 112, 113, 114, 115, 116, 117, 118, 119, 120, 121, 122, 123, 124, 125, 126, 127, 128, 129, 130, 131, 132, 133, 134, 135, 136, 137, 138, 139] (by decide +kernel) (by decide +kernel)
set_option maxRecDepth 20000 in
theorem gX7_scanRow_X7_handDownOpen : GoodIn wsX7_scanRow (wsV RX7 296 RX7 yX7_handDownOpen wsX7_handDownOpen) := goodIn_app (goodIn_of _ (by decide +kernel)) ggX7_scanRow_X7_handDownOpen
theorem dX7_scanRow_0 : decode cX7_scanRow 0 = .ok (.iconst 0, 1) := by decide +kernel
theorem dX7_scanRow_1 : decode cX7_scanRow 1 = .ok (.istore_n 2, 1) := by decide +kernel
theorem dX7_scanRow_2 : decode cX7_scanRow 2 = .ok (.iload_n 2, 1) := by decide +kernel
theorem dX7_scanRow_3 : decode cX7_scanRow 3 = .ok (.aload_n 0, 1) := by decide +kernel
theorem dX7_scanRow_4 : decode cX7_scanRow 4 = .ok (.getfield 25, 3) := by decide +kernel
theorem dX7_scanRow_7 : decode cX7_scanRow 7 = .ok (.invokevirtual 129, 3) := by decide +kernel
theorem dX7_scanRow_10 : decode cX7_scanRow 10 = .ok (.if_icmp .ge 85, 3) := by decide +kernel
theorem dX7_scanRow_13 : decode cX7_scanRow 13 = .ok (.aload_n 0, 1) := by decide +kernel
theorem dX7_scanRow_14 : decode cX7_scanRow 14 = .ok (.getfield 25, 3) := by decide +kernel
theorem dX7_scanRow_17 : decode cX7_scanRow 17 = .ok (.iload_n 2, 1) := by decide +kernel
theorem dX7_scanRow_18 : decode cX7_scanRow 18 = .ok (.invokevirtual 146, 3) := by decide +kernel
theorem dX7_scanRow_21 : decode cX7_scanRow 21 = .ok (.checkcast 9, 3) := by decide +kernel
theorem dX7_scanRow_24 : decode cX7_scanRow 24 = .ok (.astore_n 3, 1) := by decide +kernel
theorem dX7_scanRow_25 : decode cX7_scanRow 25 = .ok (.aload_n 3, 1) := by decide +kernel
theorem dX7_scanRow_26 : decode cX7_scanRow 26 = .ok (.aload_n 3, 1) := by decide +kernel
theorem dX7_scanRow_27 : decode cX7_scanRow 27 = .ok (.getfield 120, 3) := by decide +kernel
theorem dX7_scanRow_30 : decode cX7_scanRow 30 = .ok (.ifnonnull 7, 3) := by decide +kernel
theorem dX7_scanRow_33 : decode cX7_scanRow 33 = .ok (.lconst 0, 1) := by decide +kernel
theorem dX7_scanRow_34 : decode cX7_scanRow 34 = .ok (.goto 19, 3) := by decide +kernel
theorem dX7_scanRow_37 : decode cX7_scanRow 37 = .ok (.aload_n 3, 1) := by decide +kernel
theorem dX7_scanRow_38 : decode cX7_scanRow 38 = .ok (.getfield 120, 3) := by decide +kernel
theorem dX7_scanRow_41 : decode cX7_scanRow 41 = .ok (.iload_n 1, 1) := by decide +kernel
theorem dX7_scanRow_42 : decode cX7_scanRow 42 = .ok (.aload_n 3, 1) := by decide +kernel
theorem dX7_scanRow_43 : decode cX7_scanRow 43 = .ok (.getfield 277, 3) := by decide +kernel
theorem dX7_scanRow_46 : decode cX7_scanRow 46 = .ok (.aload_n 3, 1) := by decide +kernel
theorem dX7_scanRow_47 : decode cX7_scanRow 47 = .ok (.getfield 280, 3) := by decide +kernel
theorem dX7_scanRow_50 : decode cX7_scanRow 50 = .ok (.invokevirtual 283, 3) := by decide +kernel
theorem dX7_scanRow_53 : decode cX7_scanRow 53 = .ok (.putfield 287, 3) := by decide +kernel
theorem dX7_scanRow_56 : decode cX7_scanRow 56 = .ok (.aload_n 3, 1) := by decide +kernel
theorem dX7_scanRow_57 : decode cX7_scanRow 57 = .ok (.aload_n 3, 1) := by decide +kernel
theorem dX7_scanRow_58 : decode cX7_scanRow 58 = .ok (.getfield 169, 3) := by decide +kernel
theorem dX7_scanRow_61 : decode cX7_scanRow 61 = .ok (.ifnonnull 9, 3) := by decide +kernel
theorem dX7_scanRow_64 : decode cX7_scanRow 64 = .ok (.ldc2_w 290, 3) := by decide +kernel
theorem dX7_scanRow_67 : decode cX7_scanRow 67 = .ok (.goto 19, 3) := by decide +kernel
theorem dX7_scanRow_70 : decode cX7_scanRow 70 = .ok (.aload_n 3, 1) := by decide +kernel
theorem dX7_scanRow_71 : decode cX7_scanRow 71 = .ok (.getfield 169, 3) := by decide +kernel
theorem dX7_scanRow_74 : decode cX7_scanRow 74 = .ok (.iload_n 1, 1) := by decide +kernel
theorem dX7_scanRow_75 : decode cX7_scanRow 75 = .ok (.aload_n 3, 1) := by decide +kernel
theorem dX7_scanRow_76 : decode cX7_scanRow 76 = .ok (.getfield 277, 3) := by decide +kernel
theorem dX7_scanRow_79 : decode cX7_scanRow 79 = .ok (.aload_n 3, 1) := by decide +kernel
theorem dX7_scanRow_80 : decode cX7_scanRow 80 = .ok (.getfield 280, 3) := by decide +kernel
theorem dX7_scanRow_83 : decode cX7_scanRow 83 = .ok (.invokevirtual 292, 3) := by decide +kernel
theorem dX7_scanRow_86 : decode cX7_scanRow 86 = .ok (.putfield 293, 3) := by decide +kernel
theorem dX7_scanRow_89 : decode cX7_scanRow 89 = .ok (.iinc 2 1, 3) := by decide +kernel
theorem dX7_scanRow_92 : decode cX7_scanRow 92 = .ok (.goto (-90), 3) := by decide +kernel
theorem dX7_scanRow_95 : decode cX7_scanRow 95 = .ok (.aload_n 0, 1) := by decide +kernel
theorem dX7_scanRow_96 : decode cX7_scanRow 96 = .ok (.getfield 25, 3) := by decide +kernel
theorem dX7_scanRow_99 : decode cX7_scanRow 99 = .ok (.invokevirtual 129, 3) := by decide +kernel
theorem dX7_scanRow_102 : decode cX7_scanRow 102 = .ok (.iconst 1, 1) := by decide +kernel
theorem dX7_scanRow_103 : decode cX7_scanRow 103 = .ok (.isub, 1) := by decide +kernel
theorem dX7_scanRow_104 : decode cX7_scanRow 104 = .ok (.istore_n 2, 1) := by decide +kernel
theorem dX7_scanRow_105 : decode cX7_scanRow 105 = .ok (.iload_n 2, 1) := by decide +kernel
theorem dX7_scanRow_106 : decode cX7_scanRow 106 = .ok (.ifCond .lt 44, 3) := by decide +kernel
theorem dX7_scanRow_109 : decode cX7_scanRow 109 = .ok (.aload_n 0, 1) := by decide +kernel
theorem dX7_scanRow_110 : decode cX7_scanRow 110 = .ok (.getfield 25, 3) := by decide +kernel
theorem dX7_scanRow_113 : decode cX7_scanRow 113 = .ok (.iload_n 2, 1) := by decide +kernel
theorem dX7_scanRow_114 : decode cX7_scanRow 114 = .ok (.invokevirtual 146, 3) := by decide +kernel
theorem dX7_scanRow_117 : decode cX7_scanRow 117 = .ok (.checkcast 9, 3) := by decide +kernel
theorem dX7_scanRow_120 : decode cX7_scanRow 120 = .ok (.astore_n 3, 1) := by decide +kernel
theorem dX7_scanRow_121 : decode cX7_scanRow 121 = .ok (.aload_n 3, 1) := by decide +kernel
theorem dX7_scanRow_122 : decode cX7_scanRow 122 = .ok (.getfield 102, 3) := by decide +kernel
theorem dX7_scanRow_125 : decode cX7_scanRow 125 = .ok (.ifnull 19, 3) := by decide +kernel
theorem dX7_scanRow_128 : decode cX7_scanRow 128 = .ok (.aload_n 3, 1) := by decide +kernel
theorem dX7_scanRow_129 : decode cX7_scanRow 129 = .ok (.getfield 102, 3) := by decide +kernel
theorem dX7_scanRow_132 : decode cX7_scanRow 132 = .ok (.dup, 1) := by decide +kernel
theorem dX7_scanRow_133 : decode cX7_scanRow 133 = .ok (.getfield 287, 3) := by decide +kernel
theorem dX7_scanRow_136 : decode cX7_scanRow 136 = .ok (.aload_n 3, 1) := by decide +kernel
theorem dX7_scanRow_137 : decode cX7_scanRow 137 = .ok (.getfield 287, 3) := by decide +kernel
theorem dX7_scanRow_140 : decode cX7_scanRow 140 = .ok (.lor, 1) := by decide +kernel
theorem dX7_scanRow_141 : decode cX7_scanRow 141 = .ok (.putfield 287, 3) := by decide +kernel
theorem dX7_scanRow_144 : decode cX7_scanRow 144 = .ok (.iinc 2 (-1), 3) := by decide +kernel
theorem dX7_scanRow_147 : decode cX7_scanRow 147 = .ok (.goto (-42), 3) := by decide +kernel
theorem dX7_scanRow_150 : decode cX7_scanRow 150 = .ok (.aload_n 0, 1) := by decide +kernel
theorem dX7_scanRow_151 : decode cX7_scanRow 151 = .ok (.invokevirtual 296, 3) := by decide +kernel
theorem dX7_scanRow_154 : decode cX7_scanRow 154 = .ok (.aload_n 0, 1) := by decide +kernel
theorem dX7_scanRow_155 : decode cX7_scanRow 155 = .ok (.getfield 25, 3) := by decide +kernel
theorem dX7_scanRow_158 : decode cX7_scanRow 158 = .ok (.invokevirtual 129, 3) := by decide +kernel
theorem dX7_scanRow_161 : decode cX7_scanRow 161 = .ok (.iconst 1, 1) := by decide +kernel
theorem dX7_scanRow_162 : decode cX7_scanRow 162 = .ok (.isub, 1) := by decide +kernel
theorem dX7_scanRow_163 : decode cX7_scanRow 163 = .ok (.istore_n 2, 1) := by decide +kernel
theorem dX7_scanRow_164 : decode cX7_scanRow 164 = .ok (.iload_n 2, 1) := by decide +kernel
theorem dX7_scanRow_165 : decode cX7_scanRow 165 = .ok (.ifCond .lt 44, 3) := by decide +kernel
theorem dX7_scanRow_168 : decode cX7_scanRow 168 = .ok (.aload_n 0, 1) := by decide +kernel
theorem dX7_scanRow_169 : decode cX7_scanRow 169 = .ok (.getfield 25, 3) := by decide +kernel
theorem dX7_scanRow_172 : decode cX7_scanRow 172 = .ok (.iload_n 2, 1) := by decide +kernel
theorem dX7_scanRow_173 : decode cX7_scanRow 173 = .ok (.invokevirtual 146, 3) := by decide +kernel
theorem dX7_scanRow_176 : decode cX7_scanRow 176 = .ok (.checkcast 9, 3) := by decide +kernel
theorem dX7_scanRow_179 : decode cX7_scanRow 179 = .ok (.astore_n 3, 1) := by decide +kernel
theorem dX7_scanRow_180 : decode cX7_scanRow 180 = .ok (.aload_n 3, 1) := by decide +kernel
theorem dX7_scanRow_181 : decode cX7_scanRow 181 = .ok (.getfield 102, 3) := by decide +kernel
theorem dX7_scanRow_184 : decode cX7_scanRow 184 = .ok (.ifnull 19, 3) := by decide +kernel
theorem dX7_scanRow_187 : decode cX7_scanRow 187 = .ok (.aload_n 3, 1) := by decide +kernel
theorem dX7_scanRow_188 : decode cX7_scanRow 188 = .ok (.getfield 102, 3) := by decide +kernel
theorem dX7_scanRow_191 : decode cX7_scanRow 191 = .ok (.dup, 1) := by decide +kernel
theorem dX7_scanRow_192 : decode cX7_scanRow 192 = .ok (.getfield 191, 3) := by decide +kernel
theorem dX7_scanRow_195 : decode cX7_scanRow 195 = .ok (.aload_n 3, 1) := by decide +kernel
theorem dX7_scanRow_196 : decode cX7_scanRow 196 = .ok (.getfield 191, 3) := by decide +kernel
theorem dX7_scanRow_199 : decode cX7_scanRow 199 = .ok (.lor, 1) := by decide +kernel
theorem dX7_scanRow_200 : decode cX7_scanRow 200 = .ok (.putfield 191, 3) := by decide +kernel
theorem dX7_scanRow_203 : decode cX7_scanRow 203 = .ok (.iinc 2 (-1), 3) := by decide +kernel
theorem dX7_scanRow_206 : decode cX7_scanRow 206 = .ok (.goto (-42), 3) := by decide +kernel
theorem dX7_scanRow_209 : decode cX7_scanRow 209 = .ok (.return_, 1) := by decide +kernel
set_option maxRecDepth 20000 in
theorem ggX7_handDownOpen_Jx4a65c_size_8abf5 : GoodIn wsX7_handDownOpen wsJx4a65c_size_8abf5 := goodIn_r _ [13, 14, 68, 69, 70] (by decide +kernel) (by decide +kernel)
set_option maxRecDepth 20000 in
theorem gX7_handDownOpen_Jx4a65c_size_8abf5 : GoodIn wsX7_handDownOpen (wsV RX7 129 RJx4a65c yJx4a65c_size_8abf5 wsJx4a65c_size_8abf5) := goodIn_app (goodIn_of _ (by decide +kernel)) ggX7_handDownOpen_Jx4a65c_size_8abf5
set_option maxRecDepth 20000 in
theorem ggX7_handDownOpen_Jx4a65c_get_915e3 : GoodIn wsX7_handDownOpen wsJx4a65c_get_915e3 := goodIn_r _ [18, 14, 19, 20, 21, 22, 23, 24, 25, 26, 27, 28, 29, 12, 30, 31, 68, 69, 70] (by decide +kernel) (by decide +kernel)
set_option maxRecDepth 20000 in
theorem gX7_handDownOpen_Jx4a65c_get_915e3 : GoodIn wsX7_handDownOpen (wsV RX7 146 RJx4a65c yJx4a65c_get_915e3 wsJx4a65c_get_915e3) := goodIn_app (goodIn_of _ (by decide +kernel)) ggX7_handDownOpen_Jx4a65c_get_915e3
set_option maxRecDepth 20000 in
theorem ggX7_handDownOpen_X7_maskOf : GoodIn wsX7_handDownOpen wsX7_maskOf := goodIn_r _ [35, 36, 37, 2, 38, 39, 40, 12, 41, 14, 15, 16, 17, 18, 19, 20, 21, 22, 23, 24, 25, 26, 27, 28, 29, 30, 31, 49, 50, 51, 52, 53, 54, 55, 56, 57, 58, 59, 60, 61, 62, 63, 64, 65, 66, 67, 68, 69, 70] (by decide +kernel) (by decide +kernel)
set_option maxRecDepth 20000 in
theorem gX7_handDownOpen_X7_maskOf : GoodIn wsX7_handDownOpen (va_wsS RX7 299 yX7_maskOf wsX7_maskOf) := goodIn_app (goodIn_of _ (by decide +kernel)) ggX7_handDownOpen_X7_maskOf
theorem dX7_handDownOpen_0 : decode cX7_handDownOpen 0 = .ok (.iconst 0, 1) := by decide +kernel
theorem dX7_handDownOpen_1 : decode cX7_handDownOpen 1 = .ok (.istore_n 1, 1) := by decide +kernel
theorem dX7_handDownOpen_2 : decode cX7_handDownOpen 2 = .ok (.iload_n 1, 1) := by decide +kernel
theorem dX7_handDownOpen_3 : decode cX7_handDownOpen 3 = .ok (.aload_n 0, 1) := by decide +kernel
theorem dX7_handDownOpen_4 : decode cX7_handDownOpen 4 = .ok (.getfield 25, 3) := by decide +kernel
theorem dX7_handDownOpen_7 : decode cX7_handDownOpen 7 = .ok (.invokevirtual 129, 3) := by decide +kernel
theorem dX7_handDownOpen_10 : decode cX7_handDownOpen 10 = .ok (.if_icmp .ge 113, 3) := by decide +kernel
theorem dX7_handDownOpen_13 : decode cX7_handDownOpen 13 = .ok (.aload_n 0, 1) := by decide +kernel
theorem dX7_handDownOpen_14 : decode cX7_handDownOpen 14 = .ok (.getfield 25, 3) := by decide +kernel
theorem dX7_handDownOpen_17 : decode cX7_handDownOpen 17 = .ok (.iload_n 1, 1) := by decide +kernel
theorem dX7_handDownOpen_18 : decode cX7_handDownOpen 18 = .ok (.invokevirtual 146, 3) := by decide +kernel
theorem dX7_handDownOpen_21 : decode cX7_handDownOpen 21 = .ok (.checkcast 9, 3) := by decide +kernel
theorem dX7_handDownOpen_24 : decode cX7_handDownOpen 24 = .ok (.astore_n 2, 1) := by decide +kernel
theorem dX7_handDownOpen_25 : decode cX7_handDownOpen 25 = .ok (.aload_n 2, 1) := by decide +kernel
theorem dX7_handDownOpen_26 : decode cX7_handDownOpen 26 = .ok (.getfield 165, 3) := by decide +kernel
theorem dX7_handDownOpen_29 : decode cX7_handDownOpen 29 = .ok (.ifCond .ne 14, 3) := by decide +kernel
theorem dX7_handDownOpen_32 : decode cX7_handDownOpen 32 = .ok (.aload_n 2, 1) := by decide +kernel
theorem dX7_handDownOpen_33 : decode cX7_handDownOpen 33 = .ok (.getfield 102, 3) := by decide +kernel
theorem dX7_handDownOpen_36 : decode cX7_handDownOpen 36 = .ok (.invokestatic 299, 3) := by decide +kernel
theorem dX7_handDownOpen_39 : decode cX7_handDownOpen 39 = .ok (.aload_n 2, 1) := by decide +kernel
theorem dX7_handDownOpen_40 : decode cX7_handDownOpen 40 = .ok (.if_acmp .ne 8, 3) := by decide +kernel
theorem dX7_handDownOpen_43 : decode cX7_handDownOpen 43 = .ok (.aload_n 2, 1) := by decide +kernel
theorem dX7_handDownOpen_44 : decode cX7_handDownOpen 44 = .ok (.lconst 0, 1) := by decide +kernel
theorem dX7_handDownOpen_45 : decode cX7_handDownOpen 45 = .ok (.putfield 293, 3) := by decide +kernel
theorem dX7_handDownOpen_48 : decode cX7_handDownOpen 48 = .ok (.aload_n 2, 1) := by decide +kernel
theorem dX7_handDownOpen_49 : decode cX7_handDownOpen 49 = .ok (.getfield 102, 3) := by decide +kernel
theorem dX7_handDownOpen_52 : decode cX7_handDownOpen 52 = .ok (.ifnull 19, 3) := by decide +kernel
theorem dX7_handDownOpen_55 : decode cX7_handDownOpen 55 = .ok (.aload_n 2, 1) := by decide +kernel
theorem dX7_handDownOpen_56 : decode cX7_handDownOpen 56 = .ok (.dup, 1) := by decide +kernel
theorem dX7_handDownOpen_57 : decode cX7_handDownOpen 57 = .ok (.getfield 293, 3) := by decide +kernel
theorem dX7_handDownOpen_60 : decode cX7_handDownOpen 60 = .ok (.aload_n 2, 1) := by decide +kernel
theorem dX7_handDownOpen_61 : decode cX7_handDownOpen 61 = .ok (.getfield 102, 3) := by decide +kernel
theorem dX7_handDownOpen_64 : decode cX7_handDownOpen 64 = .ok (.getfield 293, 3) := by decide +kernel
theorem dX7_handDownOpen_67 : decode cX7_handDownOpen 67 = .ok (.land, 1) := by decide +kernel
theorem dX7_handDownOpen_68 : decode cX7_handDownOpen 68 = .ok (.putfield 293, 3) := by decide +kernel
theorem dX7_handDownOpen_71 : decode cX7_handDownOpen 71 = .ok (.aload_n 2, 1) := by decide +kernel
theorem dX7_handDownOpen_72 : decode cX7_handDownOpen 72 = .ok (.aload_n 2, 1) := by decide +kernel
theorem dX7_handDownOpen_73 : decode cX7_handDownOpen 73 = .ok (.getfield 120, 3) := by decide +kernel
theorem dX7_handDownOpen_76 : decode cX7_handDownOpen 76 = .ok (.ifnonnull 7, 3) := by decide +kernel
theorem dX7_handDownOpen_79 : decode cX7_handDownOpen 79 = .ok (.lconst 0, 1) := by decide +kernel
theorem dX7_handDownOpen_80 : decode cX7_handDownOpen 80 = .ok (.goto 12, 3) := by decide +kernel
theorem dX7_handDownOpen_83 : decode cX7_handDownOpen 83 = .ok (.aload_n 2, 1) := by decide +kernel
theorem dX7_handDownOpen_84 : decode cX7_handDownOpen 84 = .ok (.getfield 293, 3) := by decide +kernel
theorem dX7_handDownOpen_87 : decode cX7_handDownOpen 87 = .ok (.aload_n 2, 1) := by decide +kernel
theorem dX7_handDownOpen_88 : decode cX7_handDownOpen 88 = .ok (.getfield 287, 3) := by decide +kernel
theorem dX7_handDownOpen_91 : decode cX7_handDownOpen 91 = .ok (.land, 1) := by decide +kernel
theorem dX7_handDownOpen_92 : decode cX7_handDownOpen 92 = .ok (.putfield 191, 3) := by decide +kernel
theorem dX7_handDownOpen_95 : decode cX7_handDownOpen 95 = .ok (.aload_n 2, 1) := by decide +kernel
theorem dX7_handDownOpen_96 : decode cX7_handDownOpen 96 = .ok (.invokestatic 299, 3) := by decide +kernel
theorem dX7_handDownOpen_99 : decode cX7_handDownOpen 99 = .ok (.astore_n 3, 1) := by decide +kernel
theorem dX7_handDownOpen_100 : decode cX7_handDownOpen 100 = .ok (.aload_n 3, 1) := by decide +kernel
theorem dX7_handDownOpen_101 : decode cX7_handDownOpen 101 = .ok (.ifnull 16, 3) := by decide +kernel
theorem dX7_handDownOpen_104 : decode cX7_handDownOpen 104 = .ok (.aload_n 2, 1) := by decide +kernel
theorem dX7_handDownOpen_105 : decode cX7_handDownOpen 105 = .ok (.dup, 1) := by decide +kernel
theorem dX7_handDownOpen_106 : decode cX7_handDownOpen 106 = .ok (.getfield 293, 3) := by decide +kernel
theorem dX7_handDownOpen_109 : decode cX7_handDownOpen 109 = .ok (.aload_n 3, 1) := by decide +kernel
theorem dX7_handDownOpen_110 : decode cX7_handDownOpen 110 = .ok (.getfield 287, 3) := by decide +kernel
theorem dX7_handDownOpen_113 : decode cX7_handDownOpen 113 = .ok (.land, 1) := by decide +kernel
theorem dX7_handDownOpen_114 : decode cX7_handDownOpen 114 = .ok (.putfield 293, 3) := by decide +kernel
theorem dX7_handDownOpen_117 : decode cX7_handDownOpen 117 = .ok (.iinc 1 1, 3) := by decide +kernel
theorem dX7_handDownOpen_120 : decode cX7_handDownOpen 120 = .ok (.goto (-118), 3) := by decide +kernel
theorem dX7_handDownOpen_123 : decode cX7_handDownOpen 123 = .ok (.return_, 1) := by decide +kernel
set_option maxRecDepth 20000 in
theorem ggX7_changedTiles_X7_mixRow : GoodIn wsX7_changedTiles wsX7_mixRow := goodIn_r _ [7, 1, 8, 9, 10, 11, 12, 13, 14, 15, 16, 17, 6, 18, 19, 20, 21, 22, 23, 24, 25, 26, 27, 28, 29, 30, 31, 32, 33, 34, 35, 36, 37, 38, 39, 40, 41, 42, 43, 44, 45, 46, 47, 48, 49, 50, 51, 52, 53, 54, 55, 56, 57, 58, 59, 60, 61, 62, 63, 64, 65, 66, 67, 68, 69, 70, 71, 72, 73, 74, 75, 76, 77, 78, 79, 80, 81, 82, 83, 84, 85, 86, 87, 88, 89, 90, 91, 92, 93, 94, 95, 96, 97, 98, 99, 100, 101, 102, 103, 104, 105, 106, 107, 108, 109, 110, 111, 112, 113, 114, 115, 116, 117, 118, 119, 120, 121, 122, 123, 124, 125, 126, 127, 128, 129, 130, 131, 132, 133, 134, 135, 136, 137, 138, 139, 140, 141, 142, 143, 144, 145, 146, 147, 148, 149, 150, 151, 152, 153, 154, 155, 156, 157, 158, 159, 160, 161, 162, 163, 164, 165, 166, 167, 168, 169, 170, 171, 172, 173, 174, 175, 176, 177, 178, 179, 180, 181] (by decide +kernel) (by decide +kernel)
set_option maxRecDepth 20000 in
theorem gX7_changedTiles_X7_mixRow : GoodIn wsX7_changedTiles (wsV RX7 181 RX7 yX7_mixRow wsX7_mixRow) := goodIn_app (goodIn_of _ (by decide +kernel)) ggX7_changedTiles_X7_mixRow
theorem dX7_changedTiles_0 : decode cX7_changedTiles 0 = .ok (.aload_n 0, 1) := by decide +kernel
theorem dX7_changedTiles_1 : decode cX7_changedTiles 1 = .ok (.iload_n 1, 1) := by decide +kernel
theorem dX7_changedTiles_2 : decode cX7_changedTiles 2 = .ok (.invokevirtual 181, 3) := by decide +kernel
theorem dX7_changedTiles_5 : decode cX7_changedTiles 5 = .ok (.lconst 0, 1) := by decide +kernel
theorem dX7_changedTiles_6 : decode cX7_changedTiles 6 = .ok (.lstore_n 2, 1) := by decide +kernel
theorem dX7_changedTiles_7 : decode cX7_changedTiles 7 = .ok (.iconst 0, 1) := by decide +kernel
theorem dX7_changedTiles_8 : decode cX7_changedTiles 8 = .ok (.istore 4, 2) := by decide +kernel
theorem dX7_changedTiles_10 : decode cX7_changedTiles 10 = .ok (.iload 4, 2) := by decide +kernel
theorem dX7_changedTiles_12 : decode cX7_changedTiles 12 = .ok (.bipush 64, 2) := by decide +kernel
theorem dX7_changedTiles_14 : decode cX7_changedTiles 14 = .ok (.if_icmp .ge 49, 3) := by decide +kernel
theorem dX7_changedTiles_17 : decode cX7_changedTiles 17 = .ok (.aload_n 0, 1) := by decide +kernel
theorem dX7_changedTiles_18 : decode cX7_changedTiles 18 = .ok (.getfield 33, 3) := by decide +kernel
theorem dX7_changedTiles_21 : decode cX7_changedTiles 21 = .ok (.iload 4, 2) := by decide +kernel
theorem dX7_changedTiles_23 : decode cX7_changedTiles 23 = .ok (.iaload, 1) := by decide +kernel
theorem dX7_changedTiles_24 : decode cX7_changedTiles 24 = .ok (.aload_n 0, 1) := by decide +kernel
theorem dX7_changedTiles_25 : decode cX7_changedTiles 25 = .ok (.getfield 29, 3) := by decide +kernel
theorem dX7_changedTiles_28 : decode cX7_changedTiles 28 = .ok (.iload_n 1, 1) := by decide +kernel
theorem dX7_changedTiles_29 : decode cX7_changedTiles 29 = .ok (.bipush 64, 2) := by decide +kernel
theorem dX7_changedTiles_31 : decode cX7_changedTiles 31 = .ok (.imul, 1) := by decide +kernel
theorem dX7_changedTiles_32 : decode cX7_changedTiles 32 = .ok (.iload 4, 2) := by decide +kernel
theorem dX7_changedTiles_34 : decode cX7_changedTiles 34 = .ok (.iadd, 1) := by decide +kernel
theorem dX7_changedTiles_35 : decode cX7_changedTiles 35 = .ok (.iaload, 1) := by decide +kernel
theorem dX7_changedTiles_36 : decode cX7_changedTiles 36 = .ok (.if_icmp .eq 21, 3) := by decide +kernel
theorem dX7_changedTiles_39 : decode cX7_changedTiles 39 = .ok (.lload_n 2, 1) := by decide +kernel
theorem dX7_changedTiles_40 : decode cX7_changedTiles 40 = .ok (.lconst 1, 1) := by decide +kernel
theorem dX7_changedTiles_41 : decode cX7_changedTiles 41 = .ok (.iload_n 1, 1) := by decide +kernel
theorem dX7_changedTiles_42 : decode cX7_changedTiles 42 = .ok (.bipush 8, 2) := by decide +kernel
theorem dX7_changedTiles_44 : decode cX7_changedTiles 44 = .ok (.idiv, 1) := by decide +kernel
theorem dX7_changedTiles_45 : decode cX7_changedTiles 45 = .ok (.bipush 8, 2) := by decide +kernel
theorem dX7_changedTiles_47 : decode cX7_changedTiles 47 = .ok (.imul, 1) := by decide +kernel
theorem dX7_changedTiles_48 : decode cX7_changedTiles 48 = .ok (.iload 4, 2) := by decide +kernel
theorem dX7_changedTiles_50 : decode cX7_changedTiles 50 = .ok (.bipush 8, 2) := by decide +kernel
theorem dX7_changedTiles_52 : decode cX7_changedTiles 52 = .ok (.idiv, 1) := by decide +kernel
theorem dX7_changedTiles_53 : decode cX7_changedTiles 53 = .ok (.iadd, 1) := by decide +kernel
theorem dX7_changedTiles_54 : decode cX7_changedTiles 54 = .ok (.lshl, 1) := by decide +kernel
theorem dX7_changedTiles_55 : decode cX7_changedTiles 55 = .ok (.lor, 1) := by decide +kernel
theorem dX7_changedTiles_56 : decode cX7_changedTiles 56 = .ok (.lstore_n 2, 1) := by decide +kernel
theorem dX7_changedTiles_57 : decode cX7_changedTiles 57 = .ok (.iinc 4 1, 3) := by decide +kernel
theorem dX7_changedTiles_60 : decode cX7_changedTiles 60 = .ok (.goto (-50), 3) := by decide +kernel
theorem dX7_changedTiles_63 : decode cX7_changedTiles 63 = .ok (.lload_n 2, 1) := by decide +kernel
theorem dX7_changedTiles_64 : decode cX7_changedTiles 64 = .ok (.lreturn, 1) := by decide +kernel
theorem dX7_hasBit_0 : decode cX7_hasBit 0 = .ok (.lload_n 0, 1) := by decide +kernel
theorem dX7_hasBit_1 : decode cX7_hasBit 1 = .ok (.iload_n 2, 1) := by decide +kernel
theorem dX7_hasBit_2 : decode cX7_hasBit 2 = .ok (.lushr, 1) := by decide +kernel
theorem dX7_hasBit_3 : decode cX7_hasBit 3 = .ok (.lconst 1, 1) := by decide +kernel
theorem dX7_hasBit_4 : decode cX7_hasBit 4 = .ok (.land, 1) := by decide +kernel
theorem dX7_hasBit_5 : decode cX7_hasBit 5 = .ok (.lconst 0, 1) := by decide +kernel
theorem dX7_hasBit_6 : decode cX7_hasBit 6 = .ok (.lcmp, 1) := by decide +kernel
theorem dX7_hasBit_7 : decode cX7_hasBit 7 = .ok (.ifCond .eq 7, 3) := by decide +kernel
theorem dX7_hasBit_10 : decode cX7_hasBit 10 = .ok (.iconst 1, 1) := by decide +kernel
theorem dX7_hasBit_11 : decode cX7_hasBit 11 = .ok (.goto 4, 3) := by decide +kernel
theorem dX7_hasBit_14 : decode cX7_hasBit 14 = .ok (.iconst 0, 1) := by decide +kernel
theorem dX7_hasBit_15 : decode cX7_hasBit 15 = .ok (.ireturn, 1) := by decide +kernel
theorem dX7_spanBits_0 : decode cX7_spanBits 0 = .ok (.iload_n 0, 1) := by decide +kernel
theorem dX7_spanBits_1 : decode cX7_spanBits 1 = .ok (.iconst 0, 1) := by decide +kernel
theorem dX7_spanBits_2 : decode cX7_spanBits 2 = .ok (.invokestatic 86, 3) := by decide +kernel
theorem dX7_spanBits_5 : decode cX7_spanBits 5 = .ok (.istore_n 2, 1) := by decide +kernel
theorem dX7_spanBits_6 : decode cX7_spanBits 6 = .ok (.iload_n 1, 1) := by decide +kernel
theorem dX7_spanBits_7 : decode cX7_spanBits 7 = .ok (.bipush 64, 2) := by decide +kernel
theorem dX7_spanBits_9 : decode cX7_spanBits 9 = .ok (.invokestatic 80, 3) := by decide +kernel
theorem dX7_spanBits_12 : decode cX7_spanBits 12 = .ok (.istore_n 3, 1) := by decide +kernel
theorem dX7_spanBits_13 : decode cX7_spanBits 13 = .ok (.iload_n 2, 1) := by decide +kernel
theorem dX7_spanBits_14 : decode cX7_spanBits 14 = .ok (.iload_n 3, 1) := by decide +kernel
theorem dX7_spanBits_15 : decode cX7_spanBits 15 = .ok (.if_icmp .lt 5, 3) := by decide +kernel
theorem dX7_spanBits_18 : decode cX7_spanBits 18 = .ok (.lconst 0, 1) := by decide +kernel
theorem dX7_spanBits_19 : decode cX7_spanBits 19 = .ok (.lreturn, 1) := by decide +kernel
theorem dX7_spanBits_20 : decode cX7_spanBits 20 = .ok (.ldc2_w 290, 3) := by decide +kernel
theorem dX7_spanBits_23 : decode cX7_spanBits 23 = .ok (.iload_n 2, 1) := by decide +kernel
theorem dX7_spanBits_24 : decode cX7_spanBits 24 = .ok (.lshl, 1) := by decide +kernel
theorem dX7_spanBits_25 : decode cX7_spanBits 25 = .ok (.ldc2_w 290, 3) := by decide +kernel
theorem dX7_spanBits_28 : decode cX7_spanBits 28 = .ok (.bipush 64, 2) := by decide +kernel
theorem dX7_spanBits_30 : decode cX7_spanBits 30 = .ok (.iload_n 3, 1) := by decide +kernel
theorem dX7_spanBits_31 : decode cX7_spanBits 31 = .ok (.isub, 1) := by decide +kernel
theorem dX7_spanBits_32 : decode cX7_spanBits 32 = .ok (.lushr, 1) := by decide +kernel
theorem dX7_spanBits_33 : decode cX7_spanBits 33 = .ok (.land, 1) := by decide +kernel
theorem dX7_spanBits_34 : decode cX7_spanBits 34 = .ok (.lreturn, 1) := by decide +kernel
set_option maxRecDepth 20000 in
theorem ggX7_boxRound_X0_init : GoodIn wsX7_boxRound wsX0_init := goodIn_r _ [6, 7, 8, 9, 10, 11, 12, 13, 14, 15, 16, 17] (by decide +kernel) (by decide +kernel)
set_option maxRecDepth 20000 in
theorem gX7_boxRound_X0_init : GoodIn wsX7_boxRound (wsX0_init) := ggX7_boxRound_X0_init
theorem dX7_boxRound_0 : decode cX7_boxRound 0 = .ok (.new 68, 3) := by decide +kernel
theorem dX7_boxRound_3 : decode cX7_boxRound 3 = .ok (.dup, 1) := by decide +kernel
theorem dX7_boxRound_4 : decode cX7_boxRound 4 = .ok (.iload_n 0, 1) := by decide +kernel
theorem dX7_boxRound_5 : decode cX7_boxRound 5 = .ok (.iload_n 1, 1) := by decide +kernel
theorem dX7_boxRound_6 : decode cX7_boxRound 6 = .ok (.iload_n 2, 1) := by decide +kernel
theorem dX7_boxRound_7 : decode cX7_boxRound 7 = .ok (.iload_n 0, 1) := by decide +kernel
theorem dX7_boxRound_8 : decode cX7_boxRound 8 = .ok (.isub, 1) := by decide +kernel
theorem dX7_boxRound_9 : decode cX7_boxRound 9 = .ok (.iload_n 3, 1) := by decide +kernel
theorem dX7_boxRound_10 : decode cX7_boxRound 10 = .ok (.iload_n 1, 1) := by decide +kernel
theorem dX7_boxRound_11 : decode cX7_boxRound 11 = .ok (.isub, 1) := by decide +kernel
theorem dX7_boxRound_12 : decode cX7_boxRound 12 = .ok (.invokespecial 70, 3) := by decide +kernel
theorem dX7_boxRound_15 : decode cX7_boxRound 15 = .ok (.areturn, 1) := by decide +kernel
set_option maxRecDepth 20000 in
theorem ggX8_init_X8_add : GoodIn wsX8_init wsX8_add := goodIn_r _ [14, 7, 5, 15, 8, 16, 17, 18, 13, 19, 20, 21, 22, 23, 24] (by decide +kernel) (by decide +kernel)
set_option maxRecDepth 20000 in
theorem gX8_init_X8_add : GoodIn wsX8_init (wsV RX8 22 RX8 yX8_add wsX8_add) := goodIn_app (goodIn_of _ (by decide +kernel)) ggX8_init_X8_add
